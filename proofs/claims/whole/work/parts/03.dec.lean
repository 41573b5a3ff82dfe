theorem dd_S_init_0 : decode b_S_init 0 = .ok (.aload_n 0, 1) := by decide +kernel
theorem dd_S_init_1 : decode b_S_init 1 = .ok (.invokespecial 1, 3) := by decide +kernel
theorem dd_S_init_4 : decode b_S_init 4 = .ok (.aload_n 0, 1) := by decide +kernel
theorem dd_S_init_5 : decode b_S_init 5 = .ok (.new 7, 3) := by decide +kernel
theorem dd_S_init_8 : decode b_S_init 8 = .ok (.dup, 1) := by decide +kernel
theorem dd_S_init_9 : decode b_S_init 9 = .ok (.invokespecial 9, 3) := by decide +kernel
theorem dd_S_init_12 : decode b_S_init 12 = .ok (.putfield 10, 3) := by decide +kernel
theorem dd_S_init_15 : decode b_S_init 15 = .ok (.aload_n 0, 1) := by decide +kernel
theorem dd_S_init_16 : decode b_S_init 16 = .ok (.new 16, 3) := by decide +kernel
theorem dd_S_init_19 : decode b_S_init 19 = .ok (.dup, 1) := by decide +kernel
theorem dd_S_init_20 : decode b_S_init 20 = .ok (.aload_n 0, 1) := by decide +kernel
theorem dd_S_init_21 : decode b_S_init 21 = .ok (.getfield 10, 3) := by decide +kernel
theorem dd_S_init_24 : decode b_S_init 24 = .ok (.invokespecial 18, 3) := by decide +kernel
theorem dd_S_init_27 : decode b_S_init 27 = .ok (.putfield 21, 3) := by decide +kernel
theorem dd_S_init_30 : decode b_S_init 30 = .ok (.aload_n 0, 1) := by decide +kernel
theorem dd_S_init_31 : decode b_S_init 31 = .ok (.new 25, 3) := by decide +kernel
theorem dd_S_init_34 : decode b_S_init 34 = .ok (.dup, 1) := by decide +kernel
theorem dd_S_init_35 : decode b_S_init 35 = .ok (.aload_n 0, 1) := by decide +kernel
theorem dd_S_init_36 : decode b_S_init 36 = .ok (.getfield 10, 3) := by decide +kernel
theorem dd_S_init_39 : decode b_S_init 39 = .ok (.aload_n 0, 1) := by decide +kernel
theorem dd_S_init_40 : decode b_S_init 40 = .ok (.getfield 21, 3) := by decide +kernel
theorem dd_S_init_43 : decode b_S_init 43 = .ok (.invokespecial 27, 3) := by decide +kernel
theorem dd_S_init_46 : decode b_S_init 46 = .ok (.putfield 30, 3) := by decide +kernel
theorem dd_S_init_49 : decode b_S_init 49 = .ok (.aload_n 0, 1) := by decide +kernel
theorem dd_S_init_50 : decode b_S_init 50 = .ok (.new 34, 3) := by decide +kernel
theorem dd_S_init_53 : decode b_S_init 53 = .ok (.dup, 1) := by decide +kernel
theorem dd_S_init_54 : decode b_S_init 54 = .ok (.aload_n 0, 1) := by decide +kernel
theorem dd_S_init_55 : decode b_S_init 55 = .ok (.getfield 30, 3) := by decide +kernel
theorem dd_S_init_58 : decode b_S_init 58 = .ok (.invokespecial 36, 3) := by decide +kernel
theorem dd_S_init_61 : decode b_S_init 61 = .ok (.putfield 39, 3) := by decide +kernel
theorem dd_S_init_64 : decode b_S_init 64 = .ok (.aload_n 0, 1) := by decide +kernel
theorem dd_S_init_65 : decode b_S_init 65 = .ok (.new 43, 3) := by decide +kernel
theorem dd_S_init_68 : decode b_S_init 68 = .ok (.dup, 1) := by decide +kernel
theorem dd_S_init_69 : decode b_S_init 69 = .ok (.invokespecial 45, 3) := by decide +kernel
theorem dd_S_init_72 : decode b_S_init 72 = .ok (.putfield 46, 3) := by decide +kernel
theorem dd_S_init_75 : decode b_S_init 75 = .ok (.aload_n 0, 1) := by decide +kernel
theorem dd_S_init_76 : decode b_S_init 76 = .ok (.new 50, 3) := by decide +kernel
theorem dd_S_init_79 : decode b_S_init 79 = .ok (.dup, 1) := by decide +kernel
theorem dd_S_init_80 : decode b_S_init 80 = .ok (.aload_n 0, 1) := by decide +kernel
theorem dd_S_init_81 : decode b_S_init 81 = .ok (.getfield 39, 3) := by decide +kernel
theorem dd_S_init_84 : decode b_S_init 84 = .ok (.aload_n 0, 1) := by decide +kernel
theorem dd_S_init_85 : decode b_S_init 85 = .ok (.getfield 46, 3) := by decide +kernel
theorem dd_S_init_88 : decode b_S_init 88 = .ok (.invokespecial 52, 3) := by decide +kernel
theorem dd_S_init_91 : decode b_S_init 91 = .ok (.putfield 55, 3) := by decide +kernel
theorem dd_S_init_94 : decode b_S_init 94 = .ok (.aload_n 0, 1) := by decide +kernel
theorem dd_S_init_95 : decode b_S_init 95 = .ok (.sipush 1000, 3) := by decide +kernel
theorem dd_S_init_98 : decode b_S_init 98 = .ok (.newarray .int, 2) := by decide +kernel
theorem dd_S_init_100 : decode b_S_init 100 = .ok (.putfield 59, 3) := by decide +kernel
theorem dd_S_init_103 : decode b_S_init 103 = .ok (.aload_n 0, 1) := by decide +kernel
theorem dd_S_init_104 : decode b_S_init 104 = .ok (.iconst 0, 1) := by decide +kernel
theorem dd_S_init_105 : decode b_S_init 105 = .ok (.putfield 63, 3) := by decide +kernel
theorem dd_S_init_108 : decode b_S_init 108 = .ok (.aload_n 0, 1) := by decide +kernel
theorem dd_S_init_109 : decode b_S_init 109 = .ok (.bipush 100, 2) := by decide +kernel
theorem dd_S_init_111 : decode b_S_init 111 = .ok (.putfield 67, 3) := by decide +kernel
theorem dd_S_init_114 : decode b_S_init 114 = .ok (.aload_n 0, 1) := by decide +kernel
theorem dd_S_init_115 : decode b_S_init 115 = .ok (.iconst 4, 1) := by decide +kernel
theorem dd_S_init_116 : decode b_S_init 116 = .ok (.putfield 70, 3) := by decide +kernel
theorem dd_S_init_119 : decode b_S_init 119 = .ok (.return_, 1) := by decide +kernel
theorem dd_S_feed_0 : decode b_S_feed 0 = .ok (.aload_n 0, 1) := by decide +kernel
theorem dd_S_feed_1 : decode b_S_feed 1 = .ok (.getfield 10, 3) := by decide +kernel
theorem dd_S_feed_4 : decode b_S_feed 4 = .ok (.getfield 73, 3) := by decide +kernel
theorem dd_S_feed_7 : decode b_S_feed 7 = .ok (.bipush 20, 2) := by decide +kernel
theorem dd_S_feed_9 : decode b_S_feed 9 = .ok (.iadd, 1) := by decide +kernel
theorem dd_S_feed_10 : decode b_S_feed 10 = .ok (.sipush 20000, 3) := by decide +kernel
theorem dd_S_feed_13 : decode b_S_feed 13 = .ok (.if_icmp .le 13, 3) := by decide +kernel
theorem dd_S_feed_16 : decode b_S_feed 16 = .ok (.new 76, 3) := by decide +kernel
theorem dd_S_feed_19 : decode b_S_feed 19 = .ok (.dup, 1) := by decide +kernel
theorem dd_S_feed_20 : decode b_S_feed 20 = .ok (.ldc 78, 2) := by decide +kernel
theorem dd_S_feed_22 : decode b_S_feed 22 = .ok (.invokespecial 80, 3) := by decide +kernel
theorem dd_S_feed_25 : decode b_S_feed 25 = .ok (.athrow, 1) := by decide +kernel
theorem dd_S_feed_26 : decode b_S_feed 26 = .ok (.aload_n 0, 1) := by decide +kernel
theorem dd_S_feed_27 : decode b_S_feed 27 = .ok (.getfield 10, 3) := by decide +kernel
theorem dd_S_feed_30 : decode b_S_feed 30 = .ok (.iload_n 1, 1) := by decide +kernel
theorem dd_S_feed_31 : decode b_S_feed 31 = .ok (.invokevirtual 83, 3) := by decide +kernel
theorem dd_S_feed_34 : decode b_S_feed 34 = .ok (.aload_n 0, 1) := by decide +kernel
theorem dd_S_feed_35 : decode b_S_feed 35 = .ok (.getfield 10, 3) := by decide +kernel
theorem dd_S_feed_38 : decode b_S_feed 38 = .ok (.iload_n 2, 1) := by decide +kernel
theorem dd_S_feed_39 : decode b_S_feed 39 = .ok (.invokevirtual 83, 3) := by decide +kernel
theorem dd_S_feed_42 : decode b_S_feed 42 = .ok (.aload_n 0, 1) := by decide +kernel
theorem dd_S_feed_43 : decode b_S_feed 43 = .ok (.getfield 10, 3) := by decide +kernel
theorem dd_S_feed_46 : decode b_S_feed 46 = .ok (.iload_n 3, 1) := by decide +kernel
theorem dd_S_feed_47 : decode b_S_feed 47 = .ok (.invokevirtual 83, 3) := by decide +kernel
theorem dd_S_feed_50 : decode b_S_feed 50 = .ok (.aload_n 0, 1) := by decide +kernel
theorem dd_S_feed_51 : decode b_S_feed 51 = .ok (.getfield 10, 3) := by decide +kernel
theorem dd_S_feed_54 : decode b_S_feed 54 = .ok (.iload 4, 2) := by decide +kernel
theorem dd_S_feed_56 : decode b_S_feed 56 = .ok (.invokevirtual 83, 3) := by decide +kernel
theorem dd_S_feed_59 : decode b_S_feed 59 = .ok (.aload_n 0, 1) := by decide +kernel
theorem dd_S_feed_60 : decode b_S_feed 60 = .ok (.getfield 10, 3) := by decide +kernel
theorem dd_S_feed_63 : decode b_S_feed 63 = .ok (.iload 5, 2) := by decide +kernel
theorem dd_S_feed_65 : decode b_S_feed 65 = .ok (.invokevirtual 83, 3) := by decide +kernel
theorem dd_S_feed_68 : decode b_S_feed 68 = .ok (.aload_n 0, 1) := by decide +kernel
theorem dd_S_feed_69 : decode b_S_feed 69 = .ok (.iconst 0, 1) := by decide +kernel
theorem dd_S_feed_70 : decode b_S_feed 70 = .ok (.putfield 63, 3) := by decide +kernel
theorem dd_S_feed_73 : decode b_S_feed 73 = .ok (.aload_n 0, 1) := by decide +kernel
theorem dd_S_feed_74 : decode b_S_feed 74 = .ok (.getfield 10, 3) := by decide +kernel
theorem dd_S_feed_77 : decode b_S_feed 77 = .ok (.getfield 73, 3) := by decide +kernel
theorem dd_S_feed_80 : decode b_S_feed 80 = .ok (.ireturn, 1) := by decide +kernel
theorem dd_S_end_0 : decode b_S_end 0 = .ok (.iload_n 1, 1) := by decide +kernel
theorem dd_S_end_1 : decode b_S_end 1 = .ok (.iconst 0, 1) := by decide +kernel
theorem dd_S_end_2 : decode b_S_end 2 = .ok (.aload_n 0, 1) := by decide +kernel
theorem dd_S_end_3 : decode b_S_end 3 = .ok (.getfield 10, 3) := by decide +kernel
theorem dd_S_end_6 : decode b_S_end 6 = .ok (.getfield 73, 3) := by decide +kernel
theorem dd_S_end_9 : decode b_S_end 9 = .ok (.invokestatic 87, 3) := by decide +kernel
theorem dd_S_end_12 : decode b_S_end 12 = .ok (.ifCond .ne 13, 3) := by decide +kernel
theorem dd_S_end_15 : decode b_S_end 15 = .ok (.new 91, 3) := by decide +kernel
theorem dd_S_end_18 : decode b_S_end 18 = .ok (.dup, 1) := by decide +kernel
theorem dd_S_end_19 : decode b_S_end 19 = .ok (.ldc 93, 2) := by decide +kernel
theorem dd_S_end_21 : decode b_S_end 21 = .ok (.invokespecial 95, 3) := by decide +kernel
theorem dd_S_end_24 : decode b_S_end 24 = .ok (.athrow, 1) := by decide +kernel
theorem dd_S_end_25 : decode b_S_end 25 = .ok (.aload_n 0, 1) := by decide +kernel
theorem dd_S_end_26 : decode b_S_end 26 = .ok (.getfield 10, 3) := by decide +kernel
theorem dd_S_end_29 : decode b_S_end 29 = .ok (.iload_n 1, 1) := by decide +kernel
theorem dd_S_end_30 : decode b_S_end 30 = .ok (.invokevirtual 96, 3) := by decide +kernel
theorem dd_S_end_33 : decode b_S_end 33 = .ok (.aload_n 0, 1) := by decide +kernel
theorem dd_S_end_34 : decode b_S_end 34 = .ok (.iconst 0, 1) := by decide +kernel
theorem dd_S_end_35 : decode b_S_end 35 = .ok (.putfield 63, 3) := by decide +kernel
theorem dd_S_end_38 : decode b_S_end 38 = .ok (.return_, 1) := by decide +kernel
theorem dd_S_ways_0 : decode b_S_ways 0 = .ok (.iload_n 1, 1) := by decide +kernel
theorem dd_S_ways_1 : decode b_S_ways 1 = .ok (.iconst 0, 1) := by decide +kernel
theorem dd_S_ways_2 : decode b_S_ways 2 = .ok (.bipush 127, 2) := by decide +kernel
theorem dd_S_ways_4 : decode b_S_ways 4 = .ok (.invokestatic 87, 3) := by decide +kernel
theorem dd_S_ways_7 : decode b_S_ways 7 = .ok (.ifCond .ne 13, 3) := by decide +kernel
theorem dd_S_ways_10 : decode b_S_ways 10 = .ok (.new 91, 3) := by decide +kernel
theorem dd_S_ways_13 : decode b_S_ways 13 = .ok (.dup, 1) := by decide +kernel
theorem dd_S_ways_14 : decode b_S_ways 14 = .ok (.ldc 99, 2) := by decide +kernel
theorem dd_S_ways_16 : decode b_S_ways 16 = .ok (.invokespecial 95, 3) := by decide +kernel
theorem dd_S_ways_19 : decode b_S_ways 19 = .ok (.athrow, 1) := by decide +kernel
theorem dd_S_ways_20 : decode b_S_ways 20 = .ok (.aload_n 0, 1) := by decide +kernel
theorem dd_S_ways_21 : decode b_S_ways 21 = .ok (.getfield 30, 3) := by decide +kernel
theorem dd_S_ways_24 : decode b_S_ways 24 = .ok (.iload_n 1, 1) := by decide +kernel
theorem dd_S_ways_25 : decode b_S_ways 25 = .ok (.putfield 101, 3) := by decide +kernel
theorem dd_S_ways_28 : decode b_S_ways 28 = .ok (.aload_n 0, 1) := by decide +kernel
theorem dd_S_ways_29 : decode b_S_ways 29 = .ok (.getfield 30, 3) := by decide +kernel
theorem dd_S_ways_32 : decode b_S_ways 32 = .ok (.iload_n 2, 1) := by decide +kernel
theorem dd_S_ways_33 : decode b_S_ways 33 = .ok (.putfield 104, 3) := by decide +kernel
theorem dd_S_ways_36 : decode b_S_ways 36 = .ok (.aload_n 0, 1) := by decide +kernel
theorem dd_S_ways_37 : decode b_S_ways 37 = .ok (.getfield 30, 3) := by decide +kernel
theorem dd_S_ways_40 : decode b_S_ways 40 = .ok (.iload_n 3, 1) := by decide +kernel
theorem dd_S_ways_41 : decode b_S_ways 41 = .ok (.putfield 108, 3) := by decide +kernel
theorem dd_S_ways_44 : decode b_S_ways 44 = .ok (.return_, 1) := by decide +kernel
theorem dd_S_separator_0 : decode b_S_separator 0 = .ok (.iload_n 1, 1) := by decide +kernel
theorem dd_S_separator_1 : decode b_S_separator 1 = .ok (.iconst (-1), 1) := by decide +kernel
theorem dd_S_separator_2 : decode b_S_separator 2 = .ok (.sipush 255, 3) := by decide +kernel
theorem dd_S_separator_5 : decode b_S_separator 5 = .ok (.invokestatic 87, 3) := by decide +kernel
theorem dd_S_separator_8 : decode b_S_separator 8 = .ok (.ifCond .eq 9, 3) := by decide +kernel
theorem dd_S_separator_11 : decode b_S_separator 11 = .ok (.iload_n 1, 1) := by decide +kernel
theorem dd_S_separator_12 : decode b_S_separator 12 = .ok (.bipush 10, 2) := by decide +kernel
theorem dd_S_separator_14 : decode b_S_separator 14 = .ok (.if_icmp .ne 13, 3) := by decide +kernel
theorem dd_S_separator_17 : decode b_S_separator 17 = .ok (.new 91, 3) := by decide +kernel
theorem dd_S_separator_20 : decode b_S_separator 20 = .ok (.dup, 1) := by decide +kernel
theorem dd_S_separator_21 : decode b_S_separator 21 = .ok (.ldc 111, 2) := by decide +kernel
theorem dd_S_separator_23 : decode b_S_separator 23 = .ok (.invokespecial 95, 3) := by decide +kernel
theorem dd_S_separator_26 : decode b_S_separator 26 = .ok (.athrow, 1) := by decide +kernel
theorem dd_S_separator_27 : decode b_S_separator 27 = .ok (.aload_n 0, 1) := by decide +kernel
theorem dd_S_separator_28 : decode b_S_separator 28 = .ok (.getfield 21, 3) := by decide +kernel
theorem dd_S_separator_31 : decode b_S_separator 31 = .ok (.iload_n 1, 1) := by decide +kernel
theorem dd_S_separator_32 : decode b_S_separator 32 = .ok (.putfield 113, 3) := by decide +kernel
theorem dd_S_separator_35 : decode b_S_separator 35 = .ok (.return_, 1) := by decide +kernel
theorem dd_S_key_0 : decode b_S_key 0 = .ok (.iload_n 1, 1) := by decide +kernel
theorem dd_S_key_1 : decode b_S_key 1 = .ok (.iconst 1, 1) := by decide +kernel
theorem dd_S_key_2 : decode b_S_key 2 = .ok (.sipush 1000, 3) := by decide +kernel
theorem dd_S_key_5 : decode b_S_key 5 = .ok (.invokestatic 87, 3) := by decide +kernel
theorem dd_S_key_8 : decode b_S_key 8 = .ok (.ifCond .eq 18, 3) := by decide +kernel
theorem dd_S_key_11 : decode b_S_key 11 = .ok (.iload_n 2, 1) := by decide +kernel
theorem dd_S_key_12 : decode b_S_key 12 = .ok (.iconst 1, 1) := by decide +kernel
theorem dd_S_key_13 : decode b_S_key 13 = .ok (.sipush 1000, 3) := by decide +kernel
theorem dd_S_key_16 : decode b_S_key 16 = .ok (.invokestatic 87, 3) := by decide +kernel
theorem dd_S_key_19 : decode b_S_key 19 = .ok (.ifCond .eq 7, 3) := by decide +kernel
theorem dd_S_key_22 : decode b_S_key 22 = .ok (.iconst 1, 1) := by decide +kernel
theorem dd_S_key_23 : decode b_S_key 23 = .ok (.goto 4, 3) := by decide +kernel
theorem dd_S_key_26 : decode b_S_key 26 = .ok (.iconst 0, 1) := by decide +kernel
theorem dd_S_key_27 : decode b_S_key 27 = .ok (.istore 6, 2) := by decide +kernel
theorem dd_S_key_29 : decode b_S_key 29 = .ok (.iload_n 3, 1) := by decide +kernel
theorem dd_S_key_30 : decode b_S_key 30 = .ok (.iconst 0, 1) := by decide +kernel
theorem dd_S_key_31 : decode b_S_key 31 = .ok (.sipush 1000, 3) := by decide +kernel
theorem dd_S_key_34 : decode b_S_key 34 = .ok (.invokestatic 87, 3) := by decide +kernel
theorem dd_S_key_37 : decode b_S_key 37 = .ok (.ifCond .eq 19, 3) := by decide +kernel
theorem dd_S_key_40 : decode b_S_key 40 = .ok (.iload 4, 2) := by decide +kernel
theorem dd_S_key_42 : decode b_S_key 42 = .ok (.iconst 0, 1) := by decide +kernel
theorem dd_S_key_43 : decode b_S_key 43 = .ok (.sipush 1000, 3) := by decide +kernel
theorem dd_S_key_46 : decode b_S_key 46 = .ok (.invokestatic 87, 3) := by decide +kernel
theorem dd_S_key_49 : decode b_S_key 49 = .ok (.ifCond .eq 7, 3) := by decide +kernel
theorem dd_S_key_52 : decode b_S_key 52 = .ok (.iconst 1, 1) := by decide +kernel
theorem dd_S_key_53 : decode b_S_key 53 = .ok (.goto 4, 3) := by decide +kernel
theorem dd_S_key_56 : decode b_S_key 56 = .ok (.iconst 0, 1) := by decide +kernel
theorem dd_S_key_57 : decode b_S_key 57 = .ok (.istore 7, 2) := by decide +kernel
theorem dd_S_key_59 : decode b_S_key 59 = .ok (.iload 6, 2) := by decide +kernel
theorem dd_S_key_61 : decode b_S_key 61 = .ok (.ifCond .eq 19, 3) := by decide +kernel
theorem dd_S_key_64 : decode b_S_key 64 = .ok (.iload 7, 2) := by decide +kernel
theorem dd_S_key_66 : decode b_S_key 66 = .ok (.ifCond .eq 14, 3) := by decide +kernel
theorem dd_S_key_69 : decode b_S_key 69 = .ok (.iload 5, 2) := by decide +kernel
theorem dd_S_key_71 : decode b_S_key 71 = .ok (.iconst 0, 1) := by decide +kernel
theorem dd_S_key_72 : decode b_S_key 72 = .ok (.bipush 127, 2) := by decide +kernel
theorem dd_S_key_74 : decode b_S_key 74 = .ok (.invokestatic 87, 3) := by decide +kernel
theorem dd_S_key_77 : decode b_S_key 77 = .ok (.ifCond .ne 13, 3) := by decide +kernel
theorem dd_S_key_80 : decode b_S_key 80 = .ok (.new 91, 3) := by decide +kernel
theorem dd_S_key_83 : decode b_S_key 83 = .ok (.dup, 1) := by decide +kernel
theorem dd_S_key_84 : decode b_S_key 84 = .ok (.ldc 116, 2) := by decide +kernel
theorem dd_S_key_86 : decode b_S_key 86 = .ok (.invokespecial 95, 3) := by decide +kernel
theorem dd_S_key_89 : decode b_S_key 89 = .ok (.athrow, 1) := by decide +kernel
theorem dd_S_key_90 : decode b_S_key 90 = .ok (.aload_n 0, 1) := by decide +kernel
theorem dd_S_key_91 : decode b_S_key 91 = .ok (.getfield 30, 3) := by decide +kernel
theorem dd_S_key_94 : decode b_S_key 94 = .ok (.getfield 118, 3) := by decide +kernel
theorem dd_S_key_97 : decode b_S_key 97 = .ok (.bipush 6, 2) := by decide +kernel
theorem dd_S_key_99 : decode b_S_key 99 = .ok (.if_icmp .lt 13, 3) := by decide +kernel
theorem dd_S_key_102 : decode b_S_key 102 = .ok (.new 121, 3) := by decide +kernel
theorem dd_S_key_105 : decode b_S_key 105 = .ok (.dup, 1) := by decide +kernel
theorem dd_S_key_106 : decode b_S_key 106 = .ok (.ldc 123, 2) := by decide +kernel
theorem dd_S_key_108 : decode b_S_key 108 = .ok (.invokespecial 125, 3) := by decide +kernel
theorem dd_S_key_111 : decode b_S_key 111 = .ok (.athrow, 1) := by decide +kernel
theorem dd_S_key_112 : decode b_S_key 112 = .ok (.aload_n 0, 1) := by decide +kernel
theorem dd_S_key_113 : decode b_S_key 113 = .ok (.getfield 30, 3) := by decide +kernel
theorem dd_S_key_116 : decode b_S_key 116 = .ok (.new 126, 3) := by decide +kernel
theorem dd_S_key_119 : decode b_S_key 119 = .ok (.dup, 1) := by decide +kernel
theorem dd_S_key_120 : decode b_S_key 120 = .ok (.iload_n 1, 1) := by decide +kernel
theorem dd_S_key_121 : decode b_S_key 121 = .ok (.iload_n 2, 1) := by decide +kernel
theorem dd_S_key_122 : decode b_S_key 122 = .ok (.iload_n 3, 1) := by decide +kernel
theorem dd_S_key_123 : decode b_S_key 123 = .ok (.iload 4, 2) := by decide +kernel
theorem dd_S_key_125 : decode b_S_key 125 = .ok (.iload 5, 2) := by decide +kernel
theorem dd_S_key_127 : decode b_S_key 127 = .ok (.invokespecial 128, 3) := by decide +kernel
theorem dd_S_key_130 : decode b_S_key 130 = .ok (.invokevirtual 131, 3) := by decide +kernel
theorem dd_S_key_133 : decode b_S_key 133 = .ok (.aload_n 0, 1) := by decide +kernel
theorem dd_S_key_134 : decode b_S_key 134 = .ok (.getfield 30, 3) := by decide +kernel
theorem dd_S_key_137 : decode b_S_key 137 = .ok (.getfield 118, 3) := by decide +kernel
theorem dd_S_key_140 : decode b_S_key 140 = .ok (.ireturn, 1) := by decide +kernel
theorem dd_S_keyless_0 : decode b_S_keyless 0 = .ok (.aload_n 0, 1) := by decide +kernel
theorem dd_S_keyless_1 : decode b_S_keyless 1 = .ok (.getfield 30, 3) := by decide +kernel
theorem dd_S_keyless_4 : decode b_S_keyless 4 = .ok (.getfield 118, 3) := by decide +kernel
theorem dd_S_keyless_7 : decode b_S_keyless 7 = .ok (.istore_n 1, 1) := by decide +kernel
theorem dd_S_keyless_8 : decode b_S_keyless 8 = .ok (.aload_n 0, 1) := by decide +kernel
theorem dd_S_keyless_9 : decode b_S_keyless 9 = .ok (.getfield 30, 3) := by decide +kernel
theorem dd_S_keyless_12 : decode b_S_keyless 12 = .ok (.iconst 0, 1) := by decide +kernel
theorem dd_S_keyless_13 : decode b_S_keyless 13 = .ok (.putfield 118, 3) := by decide +kernel
theorem dd_S_keyless_16 : decode b_S_keyless 16 = .ok (.iload_n 1, 1) := by decide +kernel
theorem dd_S_keyless_17 : decode b_S_keyless 17 = .ok (.ireturn, 1) := by decide +kernel
theorem dd_S_memory_0 : decode b_S_memory 0 = .ok (.iload_n 1, 1) := by decide +kernel
theorem dd_S_memory_1 : decode b_S_memory 1 = .ok (.iconst 2, 1) := by decide +kernel
theorem dd_S_memory_2 : decode b_S_memory 2 = .ok (.sipush 500, 3) := by decide +kernel
theorem dd_S_memory_5 : decode b_S_memory 5 = .ok (.invokestatic 87, 3) := by decide +kernel
theorem dd_S_memory_8 : decode b_S_memory 8 = .ok (.ifCond .eq 13, 3) := by decide +kernel
theorem dd_S_memory_11 : decode b_S_memory 11 = .ok (.iload_n 2, 1) := by decide +kernel
theorem dd_S_memory_12 : decode b_S_memory 12 = .ok (.iconst 2, 1) := by decide +kernel
theorem dd_S_memory_13 : decode b_S_memory 13 = .ok (.bipush 16, 2) := by decide +kernel
theorem dd_S_memory_15 : decode b_S_memory 15 = .ok (.invokestatic 87, 3) := by decide +kernel
theorem dd_S_memory_18 : decode b_S_memory 18 = .ok (.ifCond .ne 13, 3) := by decide +kernel
theorem dd_S_memory_21 : decode b_S_memory 21 = .ok (.new 91, 3) := by decide +kernel
theorem dd_S_memory_24 : decode b_S_memory 24 = .ok (.dup, 1) := by decide +kernel
theorem dd_S_memory_25 : decode b_S_memory 25 = .ok (.ldc 135, 2) := by decide +kernel
theorem dd_S_memory_27 : decode b_S_memory 27 = .ok (.invokespecial 95, 3) := by decide +kernel
theorem dd_S_memory_30 : decode b_S_memory 30 = .ok (.athrow, 1) := by decide +kernel
theorem dd_S_memory_31 : decode b_S_memory 31 = .ok (.aload_n 0, 1) := by decide +kernel
theorem dd_S_memory_32 : decode b_S_memory 32 = .ok (.iload_n 1, 1) := by decide +kernel
theorem dd_S_memory_33 : decode b_S_memory 33 = .ok (.putfield 67, 3) := by decide +kernel
theorem dd_S_memory_36 : decode b_S_memory 36 = .ok (.aload_n 0, 1) := by decide +kernel
theorem dd_S_memory_37 : decode b_S_memory 37 = .ok (.iload_n 2, 1) := by decide +kernel
theorem dd_S_memory_38 : decode b_S_memory 38 = .ok (.putfield 70, 3) := by decide +kernel
theorem dd_S_memory_41 : decode b_S_memory 41 = .ok (.return_, 1) := by decide +kernel
theorem dd_S_lines_0 : decode b_S_lines 0 = .ok (.aload_n 0, 1) := by decide +kernel
theorem dd_S_lines_1 : decode b_S_lines 1 = .ok (.getfield 10, 3) := by decide +kernel
theorem dd_S_lines_4 : decode b_S_lines 4 = .ok (.invokevirtual 137, 3) := by decide +kernel
theorem dd_S_lines_7 : decode b_S_lines 7 = .ok (.ireturn, 1) := by decide +kernel
theorem dd_S_place_0 : decode b_S_place 0 = .ok (.aload_n 0, 1) := by decide +kernel
theorem dd_S_place_1 : decode b_S_place 1 = .ok (.iload_n 1, 1) := by decide +kernel
theorem dd_S_place_2 : decode b_S_place 2 = .ok (.invokevirtual 141, 3) := by decide +kernel
theorem dd_S_place_5 : decode b_S_place 5 = .ok (.ifCond .eq 20, 3) := by decide +kernel
theorem dd_S_place_8 : decode b_S_place 8 = .ok (.iload_n 2, 1) := by decide +kernel
theorem dd_S_place_9 : decode b_S_place 9 = .ok (.iconst 0, 1) := by decide +kernel
theorem dd_S_place_10 : decode b_S_place 10 = .ok (.aload_n 0, 1) := by decide +kernel
theorem dd_S_place_11 : decode b_S_place 11 = .ok (.getfield 30, 3) := by decide +kernel
theorem dd_S_place_14 : decode b_S_place 14 = .ok (.invokevirtual 145, 3) := by decide +kernel
theorem dd_S_place_17 : decode b_S_place 17 = .ok (.iconst 1, 1) := by decide +kernel
theorem dd_S_place_18 : decode b_S_place 18 = .ok (.isub, 1) := by decide +kernel
theorem dd_S_place_19 : decode b_S_place 19 = .ok (.invokestatic 87, 3) := by decide +kernel
theorem dd_S_place_22 : decode b_S_place 22 = .ok (.ifCond .ne 13, 3) := by decide +kernel
theorem dd_S_place_25 : decode b_S_place 25 = .ok (.new 148, 3) := by decide +kernel
theorem dd_S_place_28 : decode b_S_place 28 = .ok (.dup, 1) := by decide +kernel
theorem dd_S_place_29 : decode b_S_place 29 = .ok (.ldc 150, 2) := by decide +kernel
theorem dd_S_place_31 : decode b_S_place 31 = .ok (.invokespecial 152, 3) := by decide +kernel
theorem dd_S_place_34 : decode b_S_place 34 = .ok (.athrow, 1) := by decide +kernel
theorem dd_S_place_35 : decode b_S_place 35 = .ok (.aload_n 0, 1) := by decide +kernel
theorem dd_S_place_36 : decode b_S_place 36 = .ok (.getfield 30, 3) := by decide +kernel
theorem dd_S_place_39 : decode b_S_place 39 = .ok (.iload_n 2, 1) := by decide +kernel
theorem dd_S_place_40 : decode b_S_place 40 = .ok (.invokevirtual 153, 3) := by decide +kernel
theorem dd_S_place_43 : decode b_S_place 43 = .ok (.astore 4, 2) := by decide +kernel
theorem dd_S_place_45 : decode b_S_place 45 = .ok (.aload_n 0, 1) := by decide +kernel
theorem dd_S_place_46 : decode b_S_place 46 = .ok (.getfield 30, 3) := by decide +kernel
theorem dd_S_place_49 : decode b_S_place 49 = .ok (.aload 4, 2) := by decide +kernel
theorem dd_S_place_51 : decode b_S_place 51 = .ok (.invokevirtual 157, 3) := by decide +kernel
theorem dd_S_place_54 : decode b_S_place 54 = .ok (.istore 5, 2) := by decide +kernel
theorem dd_S_place_56 : decode b_S_place 56 = .ok (.iload_n 3, 1) := by decide +kernel
theorem dd_S_place_57 : decode b_S_place 57 = .ok (.ifCond .eq 18, 3) := by decide +kernel
theorem dd_S_place_60 : decode b_S_place 60 = .ok (.aload_n 0, 1) := by decide +kernel
theorem dd_S_place_61 : decode b_S_place 61 = .ok (.getfield 21, 3) := by decide +kernel
theorem dd_S_place_64 : decode b_S_place 64 = .ok (.aload 4, 2) := by decide +kernel
theorem dd_S_place_66 : decode b_S_place 66 = .ok (.iload 5, 2) := by decide +kernel
theorem dd_S_place_68 : decode b_S_place 68 = .ok (.iload_n 1, 1) := by decide +kernel
theorem dd_S_place_69 : decode b_S_place 69 = .ok (.invokevirtual 161, 3) := by decide +kernel
theorem dd_S_place_72 : decode b_S_place 72 = .ok (.goto 15, 3) := by decide +kernel
theorem dd_S_place_75 : decode b_S_place 75 = .ok (.aload_n 0, 1) := by decide +kernel
theorem dd_S_place_76 : decode b_S_place 76 = .ok (.getfield 21, 3) := by decide +kernel
theorem dd_S_place_79 : decode b_S_place 79 = .ok (.aload 4, 2) := by decide +kernel
theorem dd_S_place_81 : decode b_S_place 81 = .ok (.iload 5, 2) := by decide +kernel
theorem dd_S_place_83 : decode b_S_place 83 = .ok (.iload_n 1, 1) := by decide +kernel
theorem dd_S_place_84 : decode b_S_place 84 = .ok (.invokevirtual 165, 3) := by decide +kernel
theorem dd_S_place_87 : decode b_S_place 87 = .ok (.istore 6, 2) := by decide +kernel
theorem dd_S_place_89 : decode b_S_place 89 = .ok (.iload 6, 2) := by decide +kernel
theorem dd_S_place_91 : decode b_S_place 91 = .ok (.aload_n 0, 1) := by decide +kernel
theorem dd_S_place_92 : decode b_S_place 92 = .ok (.getfield 10, 3) := by decide +kernel
theorem dd_S_place_95 : decode b_S_place 95 = .ok (.iload_n 1, 1) := by decide +kernel
theorem dd_S_place_96 : decode b_S_place 96 = .ok (.invokevirtual 168, 3) := by decide +kernel
theorem dd_S_place_99 : decode b_S_place 99 = .ok (.isub, 1) := by decide +kernel
theorem dd_S_place_100 : decode b_S_place 100 = .ok (.ireturn, 1) := by decide +kernel
theorem dd_S_compare_0 : decode b_S_compare 0 = .ok (.aload_n 0, 1) := by decide +kernel
theorem dd_S_compare_1 : decode b_S_compare 1 = .ok (.iload_n 1, 1) := by decide +kernel
theorem dd_S_compare_2 : decode b_S_compare 2 = .ok (.invokevirtual 141, 3) := by decide +kernel
theorem dd_S_compare_5 : decode b_S_compare 5 = .ok (.ifCond .eq 11, 3) := by decide +kernel
theorem dd_S_compare_8 : decode b_S_compare 8 = .ok (.aload_n 0, 1) := by decide +kernel
theorem dd_S_compare_9 : decode b_S_compare 9 = .ok (.iload_n 2, 1) := by decide +kernel
theorem dd_S_compare_10 : decode b_S_compare 10 = .ok (.invokevirtual 141, 3) := by decide +kernel
theorem dd_S_compare_13 : decode b_S_compare 13 = .ok (.ifCond .ne 13, 3) := by decide +kernel
theorem dd_S_compare_16 : decode b_S_compare 16 = .ok (.new 148, 3) := by decide +kernel
theorem dd_S_compare_19 : decode b_S_compare 19 = .ok (.dup, 1) := by decide +kernel
theorem dd_S_compare_20 : decode b_S_compare 20 = .ok (.ldc 172, 2) := by decide +kernel
theorem dd_S_compare_22 : decode b_S_compare 22 = .ok (.invokespecial 152, 3) := by decide +kernel
theorem dd_S_compare_25 : decode b_S_compare 25 = .ok (.athrow, 1) := by decide +kernel
theorem dd_S_compare_26 : decode b_S_compare 26 = .ok (.aload_n 0, 1) := by decide +kernel
theorem dd_S_compare_27 : decode b_S_compare 27 = .ok (.getfield 30, 3) := by decide +kernel
theorem dd_S_compare_30 : decode b_S_compare 30 = .ok (.iload_n 1, 1) := by decide +kernel
theorem dd_S_compare_31 : decode b_S_compare 31 = .ok (.iload_n 2, 1) := by decide +kernel
theorem dd_S_compare_32 : decode b_S_compare 32 = .ok (.invokevirtual 174, 3) := by decide +kernel
theorem dd_S_compare_35 : decode b_S_compare 35 = .ok (.ireturn, 1) := by decide +kernel
theorem dd_S_sort_0 : decode b_S_sort 0 = .ok (.aload_n 0, 1) := by decide +kernel
theorem dd_S_sort_1 : decode b_S_sort 1 = .ok (.getfield 10, 3) := by decide +kernel
theorem dd_S_sort_4 : decode b_S_sort 4 = .ok (.invokevirtual 137, 3) := by decide +kernel
theorem dd_S_sort_7 : decode b_S_sort 7 = .ok (.istore_n 1, 1) := by decide +kernel
theorem dd_S_sort_8 : decode b_S_sort 8 = .ok (.iload_n 1, 1) := by decide +kernel
theorem dd_S_sort_9 : decode b_S_sort 9 = .ok (.sipush 1000, 3) := by decide +kernel
theorem dd_S_sort_12 : decode b_S_sort 12 = .ok (.if_icmp .le 13, 3) := by decide +kernel
theorem dd_S_sort_15 : decode b_S_sort 15 = .ok (.new 121, 3) := by decide +kernel
theorem dd_S_sort_18 : decode b_S_sort 18 = .ok (.dup, 1) := by decide +kernel
theorem dd_S_sort_19 : decode b_S_sort 19 = .ok (.ldc 178, 2) := by decide +kernel
theorem dd_S_sort_21 : decode b_S_sort 21 = .ok (.invokespecial 125, 3) := by decide +kernel
theorem dd_S_sort_24 : decode b_S_sort 24 = .ok (.athrow, 1) := by decide +kernel
theorem dd_S_sort_25 : decode b_S_sort 25 = .ok (.aload_n 0, 1) := by decide +kernel
theorem dd_S_sort_26 : decode b_S_sort 26 = .ok (.getfield 39, 3) := by decide +kernel
theorem dd_S_sort_29 : decode b_S_sort 29 = .ok (.iload_n 1, 1) := by decide +kernel
theorem dd_S_sort_30 : decode b_S_sort 30 = .ok (.invokevirtual 180, 3) := by decide +kernel
theorem dd_S_sort_33 : decode b_S_sort 33 = .ok (.aload_n 0, 1) := by decide +kernel
theorem dd_S_sort_34 : decode b_S_sort 34 = .ok (.getfield 55, 3) := by decide +kernel
theorem dd_S_sort_37 : decode b_S_sort 37 = .ok (.iload_n 1, 1) := by decide +kernel
theorem dd_S_sort_38 : decode b_S_sort 38 = .ok (.aload_n 0, 1) := by decide +kernel
theorem dd_S_sort_39 : decode b_S_sort 39 = .ok (.getfield 67, 3) := by decide +kernel
theorem dd_S_sort_42 : decode b_S_sort 42 = .ok (.invokevirtual 183, 3) := by decide +kernel
theorem dd_S_sort_45 : decode b_S_sort 45 = .ok (.aload_n 0, 1) := by decide +kernel
theorem dd_S_sort_46 : decode b_S_sort 46 = .ok (.getfield 55, 3) := by decide +kernel
theorem dd_S_sort_49 : decode b_S_sort 49 = .ok (.aload_n 0, 1) := by decide +kernel
theorem dd_S_sort_50 : decode b_S_sort 50 = .ok (.getfield 70, 3) := by decide +kernel
theorem dd_S_sort_53 : decode b_S_sort 53 = .ok (.invokevirtual 187, 3) := by decide +kernel
theorem dd_S_sort_56 : decode b_S_sort 56 = .ok (.aload_n 0, 1) := by decide +kernel
theorem dd_S_sort_57 : decode b_S_sort 57 = .ok (.iconst 0, 1) := by decide +kernel
theorem dd_S_sort_58 : decode b_S_sort 58 = .ok (.putfield 63, 3) := by decide +kernel
theorem dd_S_sort_61 : decode b_S_sort 61 = .ok (.iconst 0, 1) := by decide +kernel
theorem dd_S_sort_62 : decode b_S_sort 62 = .ok (.istore_n 2, 1) := by decide +kernel
theorem dd_S_sort_63 : decode b_S_sort 63 = .ok (.iload_n 2, 1) := by decide +kernel
theorem dd_S_sort_64 : decode b_S_sort 64 = .ok (.iload_n 1, 1) := by decide +kernel
theorem dd_S_sort_65 : decode b_S_sort 65 = .ok (.if_icmp .ge 21, 3) := by decide +kernel
theorem dd_S_sort_68 : decode b_S_sort 68 = .ok (.aload_n 0, 1) := by decide +kernel
theorem dd_S_sort_69 : decode b_S_sort 69 = .ok (.aload_n 0, 1) := by decide +kernel
theorem dd_S_sort_70 : decode b_S_sort 70 = .ok (.getfield 39, 3) := by decide +kernel
theorem dd_S_sort_73 : decode b_S_sort 73 = .ok (.iload_n 2, 1) := by decide +kernel
theorem dd_S_sort_74 : decode b_S_sort 74 = .ok (.invokevirtual 190, 3) := by decide +kernel
theorem dd_S_sort_77 : decode b_S_sort 77 = .ok (.invokevirtual 193, 3) := by decide +kernel
theorem dd_S_sort_80 : decode b_S_sort 80 = .ok (.iinc 2 1, 3) := by decide +kernel
theorem dd_S_sort_83 : decode b_S_sort 83 = .ok (.goto (-20), 3) := by decide +kernel
theorem dd_S_sort_86 : decode b_S_sort 86 = .ok (.aload_n 0, 1) := by decide +kernel
theorem dd_S_sort_87 : decode b_S_sort 87 = .ok (.getfield 55, 3) := by decide +kernel
theorem dd_S_sort_90 : decode b_S_sort 90 = .ok (.iload_n 1, 1) := by decide +kernel
theorem dd_S_sort_91 : decode b_S_sort 91 = .ok (.aload_n 0, 1) := by decide +kernel
theorem dd_S_sort_92 : decode b_S_sort 92 = .ok (.getfield 63, 3) := by decide +kernel
theorem dd_S_sort_95 : decode b_S_sort 95 = .ok (.isub, 1) := by decide +kernel
theorem dd_S_sort_96 : decode b_S_sort 96 = .ok (.putfield 196, 3) := by decide +kernel
theorem dd_S_sort_99 : decode b_S_sort 99 = .ok (.aload_n 0, 1) := by decide +kernel
theorem dd_S_sort_100 : decode b_S_sort 100 = .ok (.getfield 63, 3) := by decide +kernel
theorem dd_S_sort_103 : decode b_S_sort 103 = .ok (.ireturn, 1) := by decide +kernel
theorem dd_S_check_0 : decode b_S_check 0 = .ok (.aload_n 0, 1) := by decide +kernel
theorem dd_S_check_1 : decode b_S_check 1 = .ok (.getfield 10, 3) := by decide +kernel
theorem dd_S_check_4 : decode b_S_check 4 = .ok (.invokevirtual 137, 3) := by decide +kernel
theorem dd_S_check_7 : decode b_S_check 7 = .ok (.istore_n 1, 1) := by decide +kernel
theorem dd_S_check_8 : decode b_S_check 8 = .ok (.iconst 1, 1) := by decide +kernel
theorem dd_S_check_9 : decode b_S_check 9 = .ok (.istore_n 2, 1) := by decide +kernel
theorem dd_S_check_10 : decode b_S_check 10 = .ok (.iload_n 2, 1) := by decide +kernel
theorem dd_S_check_11 : decode b_S_check 11 = .ok (.iload_n 1, 1) := by decide +kernel
theorem dd_S_check_12 : decode b_S_check 12 = .ok (.if_icmp .ge 41, 3) := by decide +kernel
theorem dd_S_check_15 : decode b_S_check 15 = .ok (.aload_n 0, 1) := by decide +kernel
theorem dd_S_check_16 : decode b_S_check 16 = .ok (.getfield 30, 3) := by decide +kernel
theorem dd_S_check_19 : decode b_S_check 19 = .ok (.iload_n 2, 1) := by decide +kernel
theorem dd_S_check_20 : decode b_S_check 20 = .ok (.iconst 1, 1) := by decide +kernel
theorem dd_S_check_21 : decode b_S_check 21 = .ok (.isub, 1) := by decide +kernel
theorem dd_S_check_22 : decode b_S_check 22 = .ok (.iload_n 2, 1) := by decide +kernel
theorem dd_S_check_23 : decode b_S_check 23 = .ok (.invokevirtual 199, 3) := by decide +kernel
theorem dd_S_check_26 : decode b_S_check 26 = .ok (.istore_n 3, 1) := by decide +kernel
theorem dd_S_check_27 : decode b_S_check 27 = .ok (.iload_n 3, 1) := by decide +kernel
theorem dd_S_check_28 : decode b_S_check 28 = .ok (.ifCond .gt 17, 3) := by decide +kernel
theorem dd_S_check_31 : decode b_S_check 31 = .ok (.aload_n 0, 1) := by decide +kernel
theorem dd_S_check_32 : decode b_S_check 32 = .ok (.getfield 30, 3) := by decide +kernel
theorem dd_S_check_35 : decode b_S_check 35 = .ok (.getfield 108, 3) := by decide +kernel
theorem dd_S_check_38 : decode b_S_check 38 = .ok (.ifCond .eq 9, 3) := by decide +kernel
theorem dd_S_check_41 : decode b_S_check 41 = .ok (.iload_n 3, 1) := by decide +kernel
theorem dd_S_check_42 : decode b_S_check 42 = .ok (.ifCond .ne 5, 3) := by decide +kernel
theorem dd_S_check_45 : decode b_S_check 45 = .ok (.iload_n 2, 1) := by decide +kernel
theorem dd_S_check_46 : decode b_S_check 46 = .ok (.ireturn, 1) := by decide +kernel
theorem dd_S_check_47 : decode b_S_check 47 = .ok (.iinc 2 1, 3) := by decide +kernel
theorem dd_S_check_50 : decode b_S_check 50 = .ok (.goto (-40), 3) := by decide +kernel
theorem dd_S_check_53 : decode b_S_check 53 = .ok (.iconst (-1), 1) := by decide +kernel
theorem dd_S_check_54 : decode b_S_check 54 = .ok (.ireturn, 1) := by decide +kernel
