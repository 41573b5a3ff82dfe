theorem dd_T_append_0 : decode b_T_append 0 = .ok (.aload_n 0, 1) := by decide +kernel
theorem dd_T_append_1 : decode b_T_append 1 = .ok (.iconst 4, 1) := by decide +kernel
theorem dd_T_append_2 : decode b_T_append 2 = .ok (.invokevirtual 26, 3) := by decide +kernel
theorem dd_T_append_5 : decode b_T_append 5 = .ok (.bipush 24, 2) := by decide +kernel
theorem dd_T_append_7 : decode b_T_append 7 = .ok (.istore_n 2, 1) := by decide +kernel
theorem dd_T_append_8 : decode b_T_append 8 = .ok (.iload_n 2, 1) := by decide +kernel
theorem dd_T_append_9 : decode b_T_append 9 = .ok (.ifCond .lt 67, 3) := by decide +kernel
theorem dd_T_append_12 : decode b_T_append 12 = .ok (.iload_n 1, 1) := by decide +kernel
theorem dd_T_append_13 : decode b_T_append 13 = .ok (.iload_n 2, 1) := by decide +kernel
theorem dd_T_append_14 : decode b_T_append 14 = .ok (.ishr, 1) := by decide +kernel
theorem dd_T_append_15 : decode b_T_append 15 = .ok (.sipush 255, 3) := by decide +kernel
theorem dd_T_append_18 : decode b_T_append 18 = .ok (.iand, 1) := by decide +kernel
theorem dd_T_append_19 : decode b_T_append 19 = .ok (.istore_n 3, 1) := by decide +kernel
theorem dd_T_append_20 : decode b_T_append 20 = .ok (.iload_n 3, 1) := by decide +kernel
theorem dd_T_append_21 : decode b_T_append 21 = .ok (.bipush 10, 2) := by decide +kernel
theorem dd_T_append_23 : decode b_T_append 23 = .ok (.if_icmp .ne 26, 3) := by decide +kernel
theorem dd_T_append_26 : decode b_T_append 26 = .ok (.aload_n 0, 1) := by decide +kernel
theorem dd_T_append_27 : decode b_T_append 27 = .ok (.getfield 19, 3) := by decide +kernel
theorem dd_T_append_30 : decode b_T_append 30 = .ok (.aload_n 0, 1) := by decide +kernel
theorem dd_T_append_31 : decode b_T_append 31 = .ok (.getfield 23, 3) := by decide +kernel
theorem dd_T_append_34 : decode b_T_append 34 = .ok (.aload_n 0, 1) := by decide +kernel
theorem dd_T_append_35 : decode b_T_append 35 = .ok (.getfield 15, 3) := by decide +kernel
theorem dd_T_append_38 : decode b_T_append 38 = .ok (.iastore, 1) := by decide +kernel
theorem dd_T_append_39 : decode b_T_append 39 = .ok (.aload_n 0, 1) := by decide +kernel
theorem dd_T_append_40 : decode b_T_append 40 = .ok (.dup, 1) := by decide +kernel
theorem dd_T_append_41 : decode b_T_append 41 = .ok (.getfield 23, 3) := by decide +kernel
theorem dd_T_append_44 : decode b_T_append 44 = .ok (.iconst 1, 1) := by decide +kernel
theorem dd_T_append_45 : decode b_T_append 45 = .ok (.iadd, 1) := by decide +kernel
theorem dd_T_append_46 : decode b_T_append 46 = .ok (.putfield 23, 3) := by decide +kernel
theorem dd_T_append_49 : decode b_T_append 49 = .ok (.aload_n 0, 1) := by decide +kernel
theorem dd_T_append_50 : decode b_T_append 50 = .ok (.getfield 11, 3) := by decide +kernel
theorem dd_T_append_53 : decode b_T_append 53 = .ok (.aload_n 0, 1) := by decide +kernel
theorem dd_T_append_54 : decode b_T_append 54 = .ok (.getfield 15, 3) := by decide +kernel
theorem dd_T_append_57 : decode b_T_append 57 = .ok (.iload_n 3, 1) := by decide +kernel
theorem dd_T_append_58 : decode b_T_append 58 = .ok (.i2b, 1) := by decide +kernel
theorem dd_T_append_59 : decode b_T_append 59 = .ok (.bastore, 1) := by decide +kernel
theorem dd_T_append_60 : decode b_T_append 60 = .ok (.aload_n 0, 1) := by decide +kernel
theorem dd_T_append_61 : decode b_T_append 61 = .ok (.dup, 1) := by decide +kernel
theorem dd_T_append_62 : decode b_T_append 62 = .ok (.getfield 15, 3) := by decide +kernel
theorem dd_T_append_65 : decode b_T_append 65 = .ok (.iconst 1, 1) := by decide +kernel
theorem dd_T_append_66 : decode b_T_append 66 = .ok (.iadd, 1) := by decide +kernel
theorem dd_T_append_67 : decode b_T_append 67 = .ok (.putfield 15, 3) := by decide +kernel
theorem dd_T_append_70 : decode b_T_append 70 = .ok (.iinc 2 (-8), 3) := by decide +kernel
theorem dd_T_append_73 : decode b_T_append 73 = .ok (.goto (-65), 3) := by decide +kernel
theorem dd_T_append_76 : decode b_T_append 76 = .ok (.return_, 1) := by decide +kernel
theorem dd_T_makeRoom_0 : decode b_T_makeRoom 0 = .ok (.aload_n 0, 1) := by decide +kernel
theorem dd_T_makeRoom_1 : decode b_T_makeRoom 1 = .ok (.getfield 15, 3) := by decide +kernel
theorem dd_T_makeRoom_4 : decode b_T_makeRoom 4 = .ok (.iload_n 1, 1) := by decide +kernel
theorem dd_T_makeRoom_5 : decode b_T_makeRoom 5 = .ok (.iadd, 1) := by decide +kernel
theorem dd_T_makeRoom_6 : decode b_T_makeRoom 6 = .ok (.aload_n 0, 1) := by decide +kernel
theorem dd_T_makeRoom_7 : decode b_T_makeRoom 7 = .ok (.getfield 11, 3) := by decide +kernel
theorem dd_T_makeRoom_10 : decode b_T_makeRoom 10 = .ok (.arraylength, 1) := by decide +kernel
theorem dd_T_makeRoom_11 : decode b_T_makeRoom 11 = .ok (.if_icmp .le 21, 3) := by decide +kernel
theorem dd_T_makeRoom_14 : decode b_T_makeRoom 14 = .ok (.aload_n 0, 1) := by decide +kernel
theorem dd_T_makeRoom_15 : decode b_T_makeRoom 15 = .ok (.aload_n 0, 1) := by decide +kernel
theorem dd_T_makeRoom_16 : decode b_T_makeRoom 16 = .ok (.getfield 11, 3) := by decide +kernel
theorem dd_T_makeRoom_19 : decode b_T_makeRoom 19 = .ok (.aload_n 0, 1) := by decide +kernel
theorem dd_T_makeRoom_20 : decode b_T_makeRoom 20 = .ok (.getfield 11, 3) := by decide +kernel
theorem dd_T_makeRoom_23 : decode b_T_makeRoom 23 = .ok (.arraylength, 1) := by decide +kernel
theorem dd_T_makeRoom_24 : decode b_T_makeRoom 24 = .ok (.iconst 2, 1) := by decide +kernel
theorem dd_T_makeRoom_25 : decode b_T_makeRoom 25 = .ok (.imul, 1) := by decide +kernel
theorem dd_T_makeRoom_26 : decode b_T_makeRoom 26 = .ok (.invokestatic 30, 3) := by decide +kernel
theorem dd_T_makeRoom_29 : decode b_T_makeRoom 29 = .ok (.putfield 11, 3) := by decide +kernel
theorem dd_T_makeRoom_32 : decode b_T_makeRoom 32 = .ok (.aload_n 0, 1) := by decide +kernel
theorem dd_T_makeRoom_33 : decode b_T_makeRoom 33 = .ok (.getfield 23, 3) := by decide +kernel
theorem dd_T_makeRoom_36 : decode b_T_makeRoom 36 = .ok (.iload_n 1, 1) := by decide +kernel
theorem dd_T_makeRoom_37 : decode b_T_makeRoom 37 = .ok (.iadd, 1) := by decide +kernel
theorem dd_T_makeRoom_38 : decode b_T_makeRoom 38 = .ok (.aload_n 0, 1) := by decide +kernel
theorem dd_T_makeRoom_39 : decode b_T_makeRoom 39 = .ok (.getfield 19, 3) := by decide +kernel
theorem dd_T_makeRoom_42 : decode b_T_makeRoom 42 = .ok (.arraylength, 1) := by decide +kernel
theorem dd_T_makeRoom_43 : decode b_T_makeRoom 43 = .ok (.if_icmp .le 21, 3) := by decide +kernel
theorem dd_T_makeRoom_46 : decode b_T_makeRoom 46 = .ok (.aload_n 0, 1) := by decide +kernel
theorem dd_T_makeRoom_47 : decode b_T_makeRoom 47 = .ok (.aload_n 0, 1) := by decide +kernel
theorem dd_T_makeRoom_48 : decode b_T_makeRoom 48 = .ok (.getfield 19, 3) := by decide +kernel
theorem dd_T_makeRoom_51 : decode b_T_makeRoom 51 = .ok (.aload_n 0, 1) := by decide +kernel
theorem dd_T_makeRoom_52 : decode b_T_makeRoom 52 = .ok (.getfield 19, 3) := by decide +kernel
theorem dd_T_makeRoom_55 : decode b_T_makeRoom 55 = .ok (.arraylength, 1) := by decide +kernel
theorem dd_T_makeRoom_56 : decode b_T_makeRoom 56 = .ok (.iconst 2, 1) := by decide +kernel
theorem dd_T_makeRoom_57 : decode b_T_makeRoom 57 = .ok (.imul, 1) := by decide +kernel
theorem dd_T_makeRoom_58 : decode b_T_makeRoom 58 = .ok (.invokestatic 36, 3) := by decide +kernel
theorem dd_T_makeRoom_61 : decode b_T_makeRoom 61 = .ok (.putfield 19, 3) := by decide +kernel
theorem dd_T_makeRoom_64 : decode b_T_makeRoom 64 = .ok (.return_, 1) := by decide +kernel
theorem dd_T_keepFirst_0 : decode b_T_keepFirst 0 = .ok (.aload_n 0, 1) := by decide +kernel
theorem dd_T_keepFirst_1 : decode b_T_keepFirst 1 = .ok (.iload_n 1, 1) := by decide +kernel
theorem dd_T_keepFirst_2 : decode b_T_keepFirst 2 = .ok (.putfield 15, 3) := by decide +kernel
theorem dd_T_keepFirst_5 : decode b_T_keepFirst 5 = .ok (.aload_n 0, 1) := by decide +kernel
theorem dd_T_keepFirst_6 : decode b_T_keepFirst 6 = .ok (.getfield 23, 3) := by decide +kernel
theorem dd_T_keepFirst_9 : decode b_T_keepFirst 9 = .ok (.ifCond .le 31, 3) := by decide +kernel
theorem dd_T_keepFirst_12 : decode b_T_keepFirst 12 = .ok (.aload_n 0, 1) := by decide +kernel
theorem dd_T_keepFirst_13 : decode b_T_keepFirst 13 = .ok (.getfield 19, 3) := by decide +kernel
theorem dd_T_keepFirst_16 : decode b_T_keepFirst 16 = .ok (.aload_n 0, 1) := by decide +kernel
theorem dd_T_keepFirst_17 : decode b_T_keepFirst 17 = .ok (.getfield 23, 3) := by decide +kernel
theorem dd_T_keepFirst_20 : decode b_T_keepFirst 20 = .ok (.iconst 1, 1) := by decide +kernel
theorem dd_T_keepFirst_21 : decode b_T_keepFirst 21 = .ok (.isub, 1) := by decide +kernel
theorem dd_T_keepFirst_22 : decode b_T_keepFirst 22 = .ok (.iaload, 1) := by decide +kernel
theorem dd_T_keepFirst_23 : decode b_T_keepFirst 23 = .ok (.iload_n 1, 1) := by decide +kernel
theorem dd_T_keepFirst_24 : decode b_T_keepFirst 24 = .ok (.if_icmp .lt 16, 3) := by decide +kernel
theorem dd_T_keepFirst_27 : decode b_T_keepFirst 27 = .ok (.aload_n 0, 1) := by decide +kernel
theorem dd_T_keepFirst_28 : decode b_T_keepFirst 28 = .ok (.dup, 1) := by decide +kernel
theorem dd_T_keepFirst_29 : decode b_T_keepFirst 29 = .ok (.getfield 23, 3) := by decide +kernel
theorem dd_T_keepFirst_32 : decode b_T_keepFirst 32 = .ok (.iconst 1, 1) := by decide +kernel
theorem dd_T_keepFirst_33 : decode b_T_keepFirst 33 = .ok (.isub, 1) := by decide +kernel
theorem dd_T_keepFirst_34 : decode b_T_keepFirst 34 = .ok (.putfield 23, 3) := by decide +kernel
theorem dd_T_keepFirst_37 : decode b_T_keepFirst 37 = .ok (.goto (-32), 3) := by decide +kernel
theorem dd_T_keepFirst_40 : decode b_T_keepFirst 40 = .ok (.return_, 1) := by decide +kernel
theorem dd_T_lineCount_0 : decode b_T_lineCount 0 = .ok (.aload_n 0, 1) := by decide +kernel
theorem dd_T_lineCount_1 : decode b_T_lineCount 1 = .ok (.aload_n 0, 1) := by decide +kernel
theorem dd_T_lineCount_2 : decode b_T_lineCount 2 = .ok (.getfield 23, 3) := by decide +kernel
theorem dd_T_lineCount_5 : decode b_T_lineCount 5 = .ok (.invokevirtual 39, 3) := by decide +kernel
theorem dd_T_lineCount_8 : decode b_T_lineCount 8 = .ok (.aload_n 0, 1) := by decide +kernel
theorem dd_T_lineCount_9 : decode b_T_lineCount 9 = .ok (.getfield 15, 3) := by decide +kernel
theorem dd_T_lineCount_12 : decode b_T_lineCount 12 = .ok (.if_icmp .ge 12, 3) := by decide +kernel
theorem dd_T_lineCount_15 : decode b_T_lineCount 15 = .ok (.aload_n 0, 1) := by decide +kernel
theorem dd_T_lineCount_16 : decode b_T_lineCount 16 = .ok (.getfield 23, 3) := by decide +kernel
theorem dd_T_lineCount_19 : decode b_T_lineCount 19 = .ok (.iconst 1, 1) := by decide +kernel
theorem dd_T_lineCount_20 : decode b_T_lineCount 20 = .ok (.iadd, 1) := by decide +kernel
theorem dd_T_lineCount_21 : decode b_T_lineCount 21 = .ok (.goto 7, 3) := by decide +kernel
theorem dd_T_lineCount_24 : decode b_T_lineCount 24 = .ok (.aload_n 0, 1) := by decide +kernel
theorem dd_T_lineCount_25 : decode b_T_lineCount 25 = .ok (.getfield 23, 3) := by decide +kernel
theorem dd_T_lineCount_28 : decode b_T_lineCount 28 = .ok (.ireturn, 1) := by decide +kernel
theorem dd_T_startOf_0 : decode b_T_startOf 0 = .ok (.iload_n 1, 1) := by decide +kernel
theorem dd_T_startOf_1 : decode b_T_startOf 1 = .ok (.ifCond .le 16, 3) := by decide +kernel
theorem dd_T_startOf_4 : decode b_T_startOf 4 = .ok (.aload_n 0, 1) := by decide +kernel
theorem dd_T_startOf_5 : decode b_T_startOf 5 = .ok (.getfield 19, 3) := by decide +kernel
theorem dd_T_startOf_8 : decode b_T_startOf 8 = .ok (.iload_n 1, 1) := by decide +kernel
theorem dd_T_startOf_9 : decode b_T_startOf 9 = .ok (.iconst 1, 1) := by decide +kernel
theorem dd_T_startOf_10 : decode b_T_startOf 10 = .ok (.isub, 1) := by decide +kernel
theorem dd_T_startOf_11 : decode b_T_startOf 11 = .ok (.iaload, 1) := by decide +kernel
theorem dd_T_startOf_12 : decode b_T_startOf 12 = .ok (.iconst 1, 1) := by decide +kernel
theorem dd_T_startOf_13 : decode b_T_startOf 13 = .ok (.iadd, 1) := by decide +kernel
theorem dd_T_startOf_14 : decode b_T_startOf 14 = .ok (.goto 4, 3) := by decide +kernel
theorem dd_T_startOf_17 : decode b_T_startOf 17 = .ok (.iconst 0, 1) := by decide +kernel
theorem dd_T_startOf_18 : decode b_T_startOf 18 = .ok (.ireturn, 1) := by decide +kernel
theorem dd_T_stopOf_0 : decode b_T_stopOf 0 = .ok (.iload_n 1, 1) := by decide +kernel
theorem dd_T_stopOf_1 : decode b_T_stopOf 1 = .ok (.aload_n 0, 1) := by decide +kernel
theorem dd_T_stopOf_2 : decode b_T_stopOf 2 = .ok (.getfield 23, 3) := by decide +kernel
theorem dd_T_stopOf_5 : decode b_T_stopOf 5 = .ok (.if_icmp .ge 12, 3) := by decide +kernel
theorem dd_T_stopOf_8 : decode b_T_stopOf 8 = .ok (.aload_n 0, 1) := by decide +kernel
theorem dd_T_stopOf_9 : decode b_T_stopOf 9 = .ok (.getfield 19, 3) := by decide +kernel
theorem dd_T_stopOf_12 : decode b_T_stopOf 12 = .ok (.iload_n 1, 1) := by decide +kernel
theorem dd_T_stopOf_13 : decode b_T_stopOf 13 = .ok (.iaload, 1) := by decide +kernel
theorem dd_T_stopOf_14 : decode b_T_stopOf 14 = .ok (.goto 7, 3) := by decide +kernel
theorem dd_T_stopOf_17 : decode b_T_stopOf 17 = .ok (.aload_n 0, 1) := by decide +kernel
theorem dd_T_stopOf_18 : decode b_T_stopOf 18 = .ok (.getfield 15, 3) := by decide +kernel
theorem dd_T_stopOf_21 : decode b_T_stopOf 21 = .ok (.ireturn, 1) := by decide +kernel
theorem dd_T_at_0 : decode b_T_at 0 = .ok (.aload_n 0, 1) := by decide +kernel
theorem dd_T_at_1 : decode b_T_at 1 = .ok (.getfield 11, 3) := by decide +kernel
theorem dd_T_at_4 : decode b_T_at 4 = .ok (.iload_n 1, 1) := by decide +kernel
theorem dd_T_at_5 : decode b_T_at 5 = .ok (.baload, 1) := by decide +kernel
theorem dd_T_at_6 : decode b_T_at 6 = .ok (.sipush 255, 3) := by decide +kernel
theorem dd_T_at_9 : decode b_T_at 9 = .ok (.iand, 1) := by decide +kernel
theorem dd_T_at_10 : decode b_T_at 10 = .ok (.ireturn, 1) := by decide +kernel
theorem dd_T_isBlankAt_0 : decode b_T_isBlankAt 0 = .ok (.aload_n 0, 1) := by decide +kernel
theorem dd_T_isBlankAt_1 : decode b_T_isBlankAt 1 = .ok (.getfield 11, 3) := by decide +kernel
theorem dd_T_isBlankAt_4 : decode b_T_isBlankAt 4 = .ok (.iload_n 1, 1) := by decide +kernel
theorem dd_T_isBlankAt_5 : decode b_T_isBlankAt 5 = .ok (.baload, 1) := by decide +kernel
theorem dd_T_isBlankAt_6 : decode b_T_isBlankAt 6 = .ok (.bipush 32, 2) := by decide +kernel
theorem dd_T_isBlankAt_8 : decode b_T_isBlankAt 8 = .ok (.if_icmp .eq 14, 3) := by decide +kernel
theorem dd_T_isBlankAt_11 : decode b_T_isBlankAt 11 = .ok (.aload_n 0, 1) := by decide +kernel
theorem dd_T_isBlankAt_12 : decode b_T_isBlankAt 12 = .ok (.getfield 11, 3) := by decide +kernel
theorem dd_T_isBlankAt_15 : decode b_T_isBlankAt 15 = .ok (.iload_n 1, 1) := by decide +kernel
theorem dd_T_isBlankAt_16 : decode b_T_isBlankAt 16 = .ok (.baload, 1) := by decide +kernel
theorem dd_T_isBlankAt_17 : decode b_T_isBlankAt 17 = .ok (.bipush 9, 2) := by decide +kernel
theorem dd_T_isBlankAt_19 : decode b_T_isBlankAt 19 = .ok (.if_icmp .ne 7, 3) := by decide +kernel
theorem dd_T_isBlankAt_22 : decode b_T_isBlankAt 22 = .ok (.iconst 1, 1) := by decide +kernel
theorem dd_T_isBlankAt_23 : decode b_T_isBlankAt 23 = .ok (.goto 4, 3) := by decide +kernel
theorem dd_T_isBlankAt_26 : decode b_T_isBlankAt 26 = .ok (.iconst 0, 1) := by decide +kernel
theorem dd_T_isBlankAt_27 : decode b_T_isBlankAt 27 = .ok (.ireturn, 1) := by decide +kernel
theorem dd_T_passDigits_0 : decode b_T_passDigits 0 = .ok (.iload_n 1, 1) := by decide +kernel
theorem dd_T_passDigits_1 : decode b_T_passDigits 1 = .ok (.istore_n 3, 1) := by decide +kernel
theorem dd_T_passDigits_2 : decode b_T_passDigits 2 = .ok (.iload_n 3, 1) := by decide +kernel
theorem dd_T_passDigits_3 : decode b_T_passDigits 3 = .ok (.iload_n 2, 1) := by decide +kernel
theorem dd_T_passDigits_4 : decode b_T_passDigits 4 = .ok (.if_icmp .ge 31, 3) := by decide +kernel
theorem dd_T_passDigits_7 : decode b_T_passDigits 7 = .ok (.aload_n 0, 1) := by decide +kernel
theorem dd_T_passDigits_8 : decode b_T_passDigits 8 = .ok (.getfield 11, 3) := by decide +kernel
theorem dd_T_passDigits_11 : decode b_T_passDigits 11 = .ok (.iload_n 3, 1) := by decide +kernel
theorem dd_T_passDigits_12 : decode b_T_passDigits 12 = .ok (.baload, 1) := by decide +kernel
theorem dd_T_passDigits_13 : decode b_T_passDigits 13 = .ok (.bipush 48, 2) := by decide +kernel
theorem dd_T_passDigits_15 : decode b_T_passDigits 15 = .ok (.if_icmp .lt 20, 3) := by decide +kernel
theorem dd_T_passDigits_18 : decode b_T_passDigits 18 = .ok (.aload_n 0, 1) := by decide +kernel
theorem dd_T_passDigits_19 : decode b_T_passDigits 19 = .ok (.getfield 11, 3) := by decide +kernel
theorem dd_T_passDigits_22 : decode b_T_passDigits 22 = .ok (.iload_n 3, 1) := by decide +kernel
theorem dd_T_passDigits_23 : decode b_T_passDigits 23 = .ok (.baload, 1) := by decide +kernel
theorem dd_T_passDigits_24 : decode b_T_passDigits 24 = .ok (.bipush 57, 2) := by decide +kernel
theorem dd_T_passDigits_26 : decode b_T_passDigits 26 = .ok (.if_icmp .gt 9, 3) := by decide +kernel
theorem dd_T_passDigits_29 : decode b_T_passDigits 29 = .ok (.iinc 3 1, 3) := by decide +kernel
theorem dd_T_passDigits_32 : decode b_T_passDigits 32 = .ok (.goto (-30), 3) := by decide +kernel
theorem dd_T_passDigits_35 : decode b_T_passDigits 35 = .ok (.iload_n 3, 1) := by decide +kernel
theorem dd_T_passDigits_36 : decode b_T_passDigits 36 = .ok (.ireturn, 1) := by decide +kernel
theorem dd_T_comparedBytes_0 : decode b_T_comparedBytes 0 = .ok (.iload_n 1, 1) := by decide +kernel
theorem dd_T_comparedBytes_1 : decode b_T_comparedBytes 1 = .ok (.istore 6, 2) := by decide +kernel
theorem dd_T_comparedBytes_3 : decode b_T_comparedBytes 3 = .ok (.iload_n 3, 1) := by decide +kernel
theorem dd_T_comparedBytes_4 : decode b_T_comparedBytes 4 = .ok (.istore 7, 2) := by decide +kernel
theorem dd_T_comparedBytes_6 : decode b_T_comparedBytes 6 = .ok (.iload 6, 2) := by decide +kernel
theorem dd_T_comparedBytes_8 : decode b_T_comparedBytes 8 = .ok (.iload_n 2, 1) := by decide +kernel
theorem dd_T_comparedBytes_9 : decode b_T_comparedBytes 9 = .ok (.if_icmp .lt 10, 3) := by decide +kernel
theorem dd_T_comparedBytes_12 : decode b_T_comparedBytes 12 = .ok (.iload 7, 2) := by decide +kernel
theorem dd_T_comparedBytes_14 : decode b_T_comparedBytes 14 = .ok (.iload 4, 2) := by decide +kernel
theorem dd_T_comparedBytes_16 : decode b_T_comparedBytes 16 = .ok (.if_icmp .ge 105, 3) := by decide +kernel
theorem dd_T_comparedBytes_19 : decode b_T_comparedBytes 19 = .ok (.iload 6, 2) := by decide +kernel
theorem dd_T_comparedBytes_21 : decode b_T_comparedBytes 21 = .ok (.iload_n 2, 1) := by decide +kernel
theorem dd_T_comparedBytes_22 : decode b_T_comparedBytes 22 = .ok (.if_icmp .ge 17, 3) := by decide +kernel
theorem dd_T_comparedBytes_25 : decode b_T_comparedBytes 25 = .ok (.aload_n 0, 1) := by decide +kernel
theorem dd_T_comparedBytes_26 : decode b_T_comparedBytes 26 = .ok (.iload 6, 2) := by decide +kernel
theorem dd_T_comparedBytes_28 : decode b_T_comparedBytes 28 = .ok (.invokevirtual 43, 3) := by decide +kernel
theorem dd_T_comparedBytes_31 : decode b_T_comparedBytes 31 = .ok (.iload 5, 2) := by decide +kernel
theorem dd_T_comparedBytes_33 : decode b_T_comparedBytes 33 = .ok (.invokestatic 46, 3) := by decide +kernel
theorem dd_T_comparedBytes_36 : decode b_T_comparedBytes 36 = .ok (.goto 4, 3) := by decide +kernel
theorem dd_T_comparedBytes_39 : decode b_T_comparedBytes 39 = .ok (.iconst (-1), 1) := by decide +kernel
theorem dd_T_comparedBytes_40 : decode b_T_comparedBytes 40 = .ok (.istore 8, 2) := by decide +kernel
theorem dd_T_comparedBytes_42 : decode b_T_comparedBytes 42 = .ok (.iload 7, 2) := by decide +kernel
theorem dd_T_comparedBytes_44 : decode b_T_comparedBytes 44 = .ok (.iload 4, 2) := by decide +kernel
theorem dd_T_comparedBytes_46 : decode b_T_comparedBytes 46 = .ok (.if_icmp .ge 17, 3) := by decide +kernel
theorem dd_T_comparedBytes_49 : decode b_T_comparedBytes 49 = .ok (.aload_n 0, 1) := by decide +kernel
theorem dd_T_comparedBytes_50 : decode b_T_comparedBytes 50 = .ok (.iload 7, 2) := by decide +kernel
theorem dd_T_comparedBytes_52 : decode b_T_comparedBytes 52 = .ok (.invokevirtual 43, 3) := by decide +kernel
theorem dd_T_comparedBytes_55 : decode b_T_comparedBytes 55 = .ok (.iload 5, 2) := by decide +kernel
theorem dd_T_comparedBytes_57 : decode b_T_comparedBytes 57 = .ok (.invokestatic 46, 3) := by decide +kernel
theorem dd_T_comparedBytes_60 : decode b_T_comparedBytes 60 = .ok (.goto 4, 3) := by decide +kernel
theorem dd_T_comparedBytes_63 : decode b_T_comparedBytes 63 = .ok (.iconst (-1), 1) := by decide +kernel
theorem dd_T_comparedBytes_64 : decode b_T_comparedBytes 64 = .ok (.istore 9, 2) := by decide +kernel
theorem dd_T_comparedBytes_66 : decode b_T_comparedBytes 66 = .ok (.iload 8, 2) := by decide +kernel
theorem dd_T_comparedBytes_68 : decode b_T_comparedBytes 68 = .ok (.bipush (-2), 2) := by decide +kernel
theorem dd_T_comparedBytes_70 : decode b_T_comparedBytes 70 = .ok (.if_icmp .ne 9, 3) := by decide +kernel
theorem dd_T_comparedBytes_73 : decode b_T_comparedBytes 73 = .ok (.iinc 6 1, 3) := by decide +kernel
theorem dd_T_comparedBytes_76 : decode b_T_comparedBytes 76 = .ok (.goto 42, 3) := by decide +kernel
theorem dd_T_comparedBytes_79 : decode b_T_comparedBytes 79 = .ok (.iload 9, 2) := by decide +kernel
theorem dd_T_comparedBytes_81 : decode b_T_comparedBytes 81 = .ok (.bipush (-2), 2) := by decide +kernel
theorem dd_T_comparedBytes_83 : decode b_T_comparedBytes 83 = .ok (.if_icmp .ne 9, 3) := by decide +kernel
theorem dd_T_comparedBytes_86 : decode b_T_comparedBytes 86 = .ok (.iinc 7 1, 3) := by decide +kernel
theorem dd_T_comparedBytes_89 : decode b_T_comparedBytes 89 = .ok (.goto 29, 3) := by decide +kernel
theorem dd_T_comparedBytes_92 : decode b_T_comparedBytes 92 = .ok (.iload 8, 2) := by decide +kernel
theorem dd_T_comparedBytes_94 : decode b_T_comparedBytes 94 = .ok (.iload 9, 2) := by decide +kernel
theorem dd_T_comparedBytes_96 : decode b_T_comparedBytes 96 = .ok (.if_icmp .eq 16, 3) := by decide +kernel
theorem dd_T_comparedBytes_99 : decode b_T_comparedBytes 99 = .ok (.iload 8, 2) := by decide +kernel
theorem dd_T_comparedBytes_101 : decode b_T_comparedBytes 101 = .ok (.iload 9, 2) := by decide +kernel
theorem dd_T_comparedBytes_103 : decode b_T_comparedBytes 103 = .ok (.if_icmp .ge 7, 3) := by decide +kernel
theorem dd_T_comparedBytes_106 : decode b_T_comparedBytes 106 = .ok (.iconst (-1), 1) := by decide +kernel
theorem dd_T_comparedBytes_107 : decode b_T_comparedBytes 107 = .ok (.goto 4, 3) := by decide +kernel
theorem dd_T_comparedBytes_110 : decode b_T_comparedBytes 110 = .ok (.iconst 1, 1) := by decide +kernel
theorem dd_T_comparedBytes_111 : decode b_T_comparedBytes 111 = .ok (.ireturn, 1) := by decide +kernel
theorem dd_T_comparedBytes_112 : decode b_T_comparedBytes 112 = .ok (.iinc 6 1, 3) := by decide +kernel
theorem dd_T_comparedBytes_115 : decode b_T_comparedBytes 115 = .ok (.iinc 7 1, 3) := by decide +kernel
theorem dd_T_comparedBytes_118 : decode b_T_comparedBytes 118 = .ok (.goto (-112), 3) := by decide +kernel
theorem dd_T_comparedBytes_121 : decode b_T_comparedBytes 121 = .ok (.iconst 0, 1) := by decide +kernel
theorem dd_T_comparedBytes_122 : decode b_T_comparedBytes 122 = .ok (.ireturn, 1) := by decide +kernel
theorem dd_T_weightOf_0 : decode b_T_weightOf 0 = .ok (.iload_n 1, 1) := by decide +kernel
theorem dd_T_weightOf_1 : decode b_T_weightOf 1 = .ok (.bipush 8, 2) := by decide +kernel
theorem dd_T_weightOf_3 : decode b_T_weightOf 3 = .ok (.iand, 1) := by decide +kernel
theorem dd_T_weightOf_4 : decode b_T_weightOf 4 = .ok (.ifCond .eq 18, 3) := by decide +kernel
theorem dd_T_weightOf_7 : decode b_T_weightOf 7 = .ok (.iload_n 0, 1) := by decide +kernel
theorem dd_T_weightOf_8 : decode b_T_weightOf 8 = .ok (.bipush 32, 2) := by decide +kernel
theorem dd_T_weightOf_10 : decode b_T_weightOf 10 = .ok (.if_icmp .lt 9, 3) := by decide +kernel
theorem dd_T_weightOf_13 : decode b_T_weightOf 13 = .ok (.iload_n 0, 1) := by decide +kernel
theorem dd_T_weightOf_14 : decode b_T_weightOf 14 = .ok (.bipush 126, 2) := by decide +kernel
theorem dd_T_weightOf_16 : decode b_T_weightOf 16 = .ok (.if_icmp .le 6, 3) := by decide +kernel
theorem dd_T_weightOf_19 : decode b_T_weightOf 19 = .ok (.bipush (-2), 2) := by decide +kernel
theorem dd_T_weightOf_21 : decode b_T_weightOf 21 = .ok (.ireturn, 1) := by decide +kernel
theorem dd_T_weightOf_22 : decode b_T_weightOf 22 = .ok (.iload_n 0, 1) := by decide +kernel
theorem dd_T_weightOf_23 : decode b_T_weightOf 23 = .ok (.bipush 97, 2) := by decide +kernel
theorem dd_T_weightOf_25 : decode b_T_weightOf 25 = .ok (.if_icmp .lt 13, 3) := by decide +kernel
theorem dd_T_weightOf_28 : decode b_T_weightOf 28 = .ok (.iload_n 0, 1) := by decide +kernel
theorem dd_T_weightOf_29 : decode b_T_weightOf 29 = .ok (.bipush 122, 2) := by decide +kernel
theorem dd_T_weightOf_31 : decode b_T_weightOf 31 = .ok (.if_icmp .gt 7, 3) := by decide +kernel
theorem dd_T_weightOf_34 : decode b_T_weightOf 34 = .ok (.iconst 1, 1) := by decide +kernel
theorem dd_T_weightOf_35 : decode b_T_weightOf 35 = .ok (.goto 4, 3) := by decide +kernel
theorem dd_T_weightOf_38 : decode b_T_weightOf 38 = .ok (.iconst 0, 1) := by decide +kernel
theorem dd_T_weightOf_39 : decode b_T_weightOf 39 = .ok (.istore_n 2, 1) := by decide +kernel
theorem dd_T_weightOf_40 : decode b_T_weightOf 40 = .ok (.iload_n 1, 1) := by decide +kernel
theorem dd_T_weightOf_41 : decode b_T_weightOf 41 = .ok (.iconst 2, 1) := by decide +kernel
theorem dd_T_weightOf_42 : decode b_T_weightOf 42 = .ok (.iand, 1) := by decide +kernel
theorem dd_T_weightOf_43 : decode b_T_weightOf 43 = .ok (.ifCond .eq 80, 3) := by decide +kernel
theorem dd_T_weightOf_46 : decode b_T_weightOf 46 = .ok (.iload_n 0, 1) := by decide +kernel
theorem dd_T_weightOf_47 : decode b_T_weightOf 47 = .ok (.bipush 32, 2) := by decide +kernel
theorem dd_T_weightOf_49 : decode b_T_weightOf 49 = .ok (.if_icmp .eq 9, 3) := by decide +kernel
theorem dd_T_weightOf_52 : decode b_T_weightOf 52 = .ok (.iload_n 0, 1) := by decide +kernel
theorem dd_T_weightOf_53 : decode b_T_weightOf 53 = .ok (.bipush 9, 2) := by decide +kernel
theorem dd_T_weightOf_55 : decode b_T_weightOf 55 = .ok (.if_icmp .ne 7, 3) := by decide +kernel
theorem dd_T_weightOf_58 : decode b_T_weightOf 58 = .ok (.iconst 1, 1) := by decide +kernel
theorem dd_T_weightOf_59 : decode b_T_weightOf 59 = .ok (.goto 4, 3) := by decide +kernel
theorem dd_T_weightOf_62 : decode b_T_weightOf 62 = .ok (.iconst 0, 1) := by decide +kernel
theorem dd_T_weightOf_63 : decode b_T_weightOf 63 = .ok (.istore_n 3, 1) := by decide +kernel
theorem dd_T_weightOf_64 : decode b_T_weightOf 64 = .ok (.iload_n 0, 1) := by decide +kernel
theorem dd_T_weightOf_65 : decode b_T_weightOf 65 = .ok (.bipush 65, 2) := by decide +kernel
theorem dd_T_weightOf_67 : decode b_T_weightOf 67 = .ok (.if_icmp .lt 13, 3) := by decide +kernel
theorem dd_T_weightOf_70 : decode b_T_weightOf 70 = .ok (.iload_n 0, 1) := by decide +kernel
theorem dd_T_weightOf_71 : decode b_T_weightOf 71 = .ok (.bipush 90, 2) := by decide +kernel
theorem dd_T_weightOf_73 : decode b_T_weightOf 73 = .ok (.if_icmp .gt 7, 3) := by decide +kernel
theorem dd_T_weightOf_76 : decode b_T_weightOf 76 = .ok (.iconst 1, 1) := by decide +kernel
theorem dd_T_weightOf_77 : decode b_T_weightOf 77 = .ok (.goto 4, 3) := by decide +kernel
theorem dd_T_weightOf_80 : decode b_T_weightOf 80 = .ok (.iconst 0, 1) := by decide +kernel
theorem dd_T_weightOf_81 : decode b_T_weightOf 81 = .ok (.istore 4, 2) := by decide +kernel
theorem dd_T_weightOf_83 : decode b_T_weightOf 83 = .ok (.iload_n 0, 1) := by decide +kernel
theorem dd_T_weightOf_84 : decode b_T_weightOf 84 = .ok (.bipush 48, 2) := by decide +kernel
theorem dd_T_weightOf_86 : decode b_T_weightOf 86 = .ok (.if_icmp .lt 13, 3) := by decide +kernel
theorem dd_T_weightOf_89 : decode b_T_weightOf 89 = .ok (.iload_n 0, 1) := by decide +kernel
theorem dd_T_weightOf_90 : decode b_T_weightOf 90 = .ok (.bipush 57, 2) := by decide +kernel
theorem dd_T_weightOf_92 : decode b_T_weightOf 92 = .ok (.if_icmp .gt 7, 3) := by decide +kernel
theorem dd_T_weightOf_95 : decode b_T_weightOf 95 = .ok (.iconst 1, 1) := by decide +kernel
theorem dd_T_weightOf_96 : decode b_T_weightOf 96 = .ok (.goto 4, 3) := by decide +kernel
theorem dd_T_weightOf_99 : decode b_T_weightOf 99 = .ok (.iconst 0, 1) := by decide +kernel
theorem dd_T_weightOf_100 : decode b_T_weightOf 100 = .ok (.istore 5, 2) := by decide +kernel
theorem dd_T_weightOf_102 : decode b_T_weightOf 102 = .ok (.iload_n 3, 1) := by decide +kernel
theorem dd_T_weightOf_103 : decode b_T_weightOf 103 = .ok (.ifCond .ne 20, 3) := by decide +kernel
theorem dd_T_weightOf_106 : decode b_T_weightOf 106 = .ok (.iload_n 2, 1) := by decide +kernel
theorem dd_T_weightOf_107 : decode b_T_weightOf 107 = .ok (.ifCond .ne 16, 3) := by decide +kernel
theorem dd_T_weightOf_110 : decode b_T_weightOf 110 = .ok (.iload 4, 2) := by decide +kernel
theorem dd_T_weightOf_112 : decode b_T_weightOf 112 = .ok (.ifCond .ne 11, 3) := by decide +kernel
theorem dd_T_weightOf_115 : decode b_T_weightOf 115 = .ok (.iload 5, 2) := by decide +kernel
theorem dd_T_weightOf_117 : decode b_T_weightOf 117 = .ok (.ifCond .ne 6, 3) := by decide +kernel
theorem dd_T_weightOf_120 : decode b_T_weightOf 120 = .ok (.bipush (-2), 2) := by decide +kernel
theorem dd_T_weightOf_122 : decode b_T_weightOf 122 = .ok (.ireturn, 1) := by decide +kernel
theorem dd_T_weightOf_123 : decode b_T_weightOf 123 = .ok (.iload_n 2, 1) := by decide +kernel
theorem dd_T_weightOf_124 : decode b_T_weightOf 124 = .ok (.ifCond .eq 19, 3) := by decide +kernel
theorem dd_T_weightOf_127 : decode b_T_weightOf 127 = .ok (.iload_n 1, 1) := by decide +kernel
theorem dd_T_weightOf_128 : decode b_T_weightOf 128 = .ok (.iconst 4, 1) := by decide +kernel
theorem dd_T_weightOf_129 : decode b_T_weightOf 129 = .ok (.iand, 1) := by decide +kernel
theorem dd_T_weightOf_130 : decode b_T_weightOf 130 = .ok (.ifCond .eq 13, 3) := by decide +kernel
theorem dd_T_weightOf_133 : decode b_T_weightOf 133 = .ok (.iload_n 0, 1) := by decide +kernel
theorem dd_T_weightOf_134 : decode b_T_weightOf 134 = .ok (.bipush 97, 2) := by decide +kernel
theorem dd_T_weightOf_136 : decode b_T_weightOf 136 = .ok (.isub, 1) := by decide +kernel
theorem dd_T_weightOf_137 : decode b_T_weightOf 137 = .ok (.bipush 65, 2) := by decide +kernel
theorem dd_T_weightOf_139 : decode b_T_weightOf 139 = .ok (.iadd, 1) := by decide +kernel
theorem dd_T_weightOf_140 : decode b_T_weightOf 140 = .ok (.goto 4, 3) := by decide +kernel
theorem dd_T_weightOf_143 : decode b_T_weightOf 143 = .ok (.iload_n 0, 1) := by decide +kernel
theorem dd_T_weightOf_144 : decode b_T_weightOf 144 = .ok (.ireturn, 1) := by decide +kernel
theorem dd_L_feed_0 : decode b_L_feed 0 = .ok (.aload 6, 2) := by decide +kernel
theorem dd_L_feed_2 : decode b_L_feed 2 = .ok (.iconst 0, 1) := by decide +kernel
theorem dd_L_feed_3 : decode b_L_feed 3 = .ok (.aload_n 0, 1) := by decide +kernel
theorem dd_L_feed_4 : decode b_L_feed 4 = .ok (.iload_n 1, 1) := by decide +kernel
theorem dd_L_feed_5 : decode b_L_feed 5 = .ok (.iload_n 2, 1) := by decide +kernel
theorem dd_L_feed_6 : decode b_L_feed 6 = .ok (.iload_n 3, 1) := by decide +kernel
theorem dd_L_feed_7 : decode b_L_feed 7 = .ok (.iload 4, 2) := by decide +kernel
theorem dd_L_feed_9 : decode b_L_feed 9 = .ok (.iload 5, 2) := by decide +kernel
theorem dd_L_feed_11 : decode b_L_feed 11 = .ok (.invokevirtual 7, 3) := by decide +kernel
theorem dd_L_feed_14 : decode b_L_feed 14 = .ok (.i2l, 1) := by decide +kernel
theorem dd_L_feed_15 : decode b_L_feed 15 = .ok (.lastore, 1) := by decide +kernel
theorem dd_L_feed_16 : decode b_L_feed 16 = .ok (.goto 7, 3) := by decide +kernel
theorem dd_L_feed_19 : decode b_L_feed 19 = .ok (.astore 7, 2) := by decide +kernel
theorem dd_L_feed_21 : decode b_L_feed 21 = .ok (.iconst 1, 1) := by decide +kernel
theorem dd_L_feed_22 : decode b_L_feed 22 = .ok (.ireturn, 1) := by decide +kernel
theorem dd_L_feed_23 : decode b_L_feed 23 = .ok (.iconst 0, 1) := by decide +kernel
theorem dd_L_feed_24 : decode b_L_feed 24 = .ok (.ireturn, 1) := by decide +kernel
theorem dd_L_end_0 : decode b_L_end 0 = .ok (.aload_n 0, 1) := by decide +kernel
theorem dd_L_end_1 : decode b_L_end 1 = .ok (.iload_n 1, 1) := by decide +kernel
theorem dd_L_end_2 : decode b_L_end 2 = .ok (.invokevirtual 15, 3) := by decide +kernel
theorem dd_L_end_5 : decode b_L_end 5 = .ok (.goto 6, 3) := by decide +kernel
theorem dd_L_end_8 : decode b_L_end 8 = .ok (.astore_n 2, 1) := by decide +kernel
theorem dd_L_end_9 : decode b_L_end 9 = .ok (.iconst 1, 1) := by decide +kernel
theorem dd_L_end_10 : decode b_L_end 10 = .ok (.ireturn, 1) := by decide +kernel
theorem dd_L_end_11 : decode b_L_end 11 = .ok (.iconst 0, 1) := by decide +kernel
theorem dd_L_end_12 : decode b_L_end 12 = .ok (.ireturn, 1) := by decide +kernel
theorem dd_L_ways_0 : decode b_L_ways 0 = .ok (.aload_n 0, 1) := by decide +kernel
theorem dd_L_ways_1 : decode b_L_ways 1 = .ok (.iload_n 1, 1) := by decide +kernel
theorem dd_L_ways_2 : decode b_L_ways 2 = .ok (.iload_n 2, 1) := by decide +kernel
theorem dd_L_ways_3 : decode b_L_ways 3 = .ok (.iload_n 3, 1) := by decide +kernel
theorem dd_L_ways_4 : decode b_L_ways 4 = .ok (.invokevirtual 21, 3) := by decide +kernel
theorem dd_L_ways_7 : decode b_L_ways 7 = .ok (.goto 7, 3) := by decide +kernel
theorem dd_L_ways_10 : decode b_L_ways 10 = .ok (.astore 4, 2) := by decide +kernel
theorem dd_L_ways_12 : decode b_L_ways 12 = .ok (.iconst 1, 1) := by decide +kernel
theorem dd_L_ways_13 : decode b_L_ways 13 = .ok (.ireturn, 1) := by decide +kernel
theorem dd_L_ways_14 : decode b_L_ways 14 = .ok (.iconst 0, 1) := by decide +kernel
theorem dd_L_ways_15 : decode b_L_ways 15 = .ok (.ireturn, 1) := by decide +kernel
theorem dd_L_separator_0 : decode b_L_separator 0 = .ok (.aload_n 0, 1) := by decide +kernel
theorem dd_L_separator_1 : decode b_L_separator 1 = .ok (.iload_n 1, 1) := by decide +kernel
theorem dd_L_separator_2 : decode b_L_separator 2 = .ok (.invokevirtual 25, 3) := by decide +kernel
theorem dd_L_separator_5 : decode b_L_separator 5 = .ok (.goto 6, 3) := by decide +kernel
theorem dd_L_separator_8 : decode b_L_separator 8 = .ok (.astore_n 2, 1) := by decide +kernel
theorem dd_L_separator_9 : decode b_L_separator 9 = .ok (.iconst 1, 1) := by decide +kernel
theorem dd_L_separator_10 : decode b_L_separator 10 = .ok (.ireturn, 1) := by decide +kernel
theorem dd_L_separator_11 : decode b_L_separator 11 = .ok (.iconst 0, 1) := by decide +kernel
theorem dd_L_separator_12 : decode b_L_separator 12 = .ok (.ireturn, 1) := by decide +kernel
theorem dd_L_key_0 : decode b_L_key 0 = .ok (.aload 6, 2) := by decide +kernel
theorem dd_L_key_2 : decode b_L_key 2 = .ok (.iconst 0, 1) := by decide +kernel
theorem dd_L_key_3 : decode b_L_key 3 = .ok (.aload_n 0, 1) := by decide +kernel
theorem dd_L_key_4 : decode b_L_key 4 = .ok (.iload_n 1, 1) := by decide +kernel
theorem dd_L_key_5 : decode b_L_key 5 = .ok (.iload_n 2, 1) := by decide +kernel
theorem dd_L_key_6 : decode b_L_key 6 = .ok (.iload_n 3, 1) := by decide +kernel
theorem dd_L_key_7 : decode b_L_key 7 = .ok (.iload 4, 2) := by decide +kernel
theorem dd_L_key_9 : decode b_L_key 9 = .ok (.iload 5, 2) := by decide +kernel
theorem dd_L_key_11 : decode b_L_key 11 = .ok (.invokevirtual 28, 3) := by decide +kernel
theorem dd_L_key_14 : decode b_L_key 14 = .ok (.i2l, 1) := by decide +kernel
theorem dd_L_key_15 : decode b_L_key 15 = .ok (.lastore, 1) := by decide +kernel
theorem dd_L_key_16 : decode b_L_key 16 = .ok (.goto 11, 3) := by decide +kernel
theorem dd_L_key_19 : decode b_L_key 19 = .ok (.astore 7, 2) := by decide +kernel
theorem dd_L_key_21 : decode b_L_key 21 = .ok (.iconst 1, 1) := by decide +kernel
theorem dd_L_key_22 : decode b_L_key 22 = .ok (.ireturn, 1) := by decide +kernel
theorem dd_L_key_23 : decode b_L_key 23 = .ok (.astore 7, 2) := by decide +kernel
theorem dd_L_key_25 : decode b_L_key 25 = .ok (.iconst 2, 1) := by decide +kernel
theorem dd_L_key_26 : decode b_L_key 26 = .ok (.ireturn, 1) := by decide +kernel
theorem dd_L_key_27 : decode b_L_key 27 = .ok (.iconst 0, 1) := by decide +kernel
theorem dd_L_key_28 : decode b_L_key 28 = .ok (.ireturn, 1) := by decide +kernel
theorem dd_L_memory_0 : decode b_L_memory 0 = .ok (.aload_n 0, 1) := by decide +kernel
theorem dd_L_memory_1 : decode b_L_memory 1 = .ok (.iload_n 1, 1) := by decide +kernel
theorem dd_L_memory_2 : decode b_L_memory 2 = .ok (.iload_n 2, 1) := by decide +kernel
theorem dd_L_memory_3 : decode b_L_memory 3 = .ok (.invokevirtual 33, 3) := by decide +kernel
theorem dd_L_memory_6 : decode b_L_memory 6 = .ok (.goto 6, 3) := by decide +kernel
theorem dd_L_memory_9 : decode b_L_memory 9 = .ok (.astore_n 3, 1) := by decide +kernel
theorem dd_L_memory_10 : decode b_L_memory 10 = .ok (.iconst 1, 1) := by decide +kernel
theorem dd_L_memory_11 : decode b_L_memory 11 = .ok (.ireturn, 1) := by decide +kernel
theorem dd_L_memory_12 : decode b_L_memory 12 = .ok (.iconst 0, 1) := by decide +kernel
theorem dd_L_memory_13 : decode b_L_memory 13 = .ok (.ireturn, 1) := by decide +kernel
theorem dd_L_place_0 : decode b_L_place 0 = .ok (.aload 4, 2) := by decide +kernel
theorem dd_L_place_2 : decode b_L_place 2 = .ok (.iconst 0, 1) := by decide +kernel
theorem dd_L_place_3 : decode b_L_place 3 = .ok (.aload_n 0, 1) := by decide +kernel
theorem dd_L_place_4 : decode b_L_place 4 = .ok (.iload_n 1, 1) := by decide +kernel
theorem dd_L_place_5 : decode b_L_place 5 = .ok (.iload_n 2, 1) := by decide +kernel
theorem dd_L_place_6 : decode b_L_place 6 = .ok (.iload_n 3, 1) := by decide +kernel
theorem dd_L_place_7 : decode b_L_place 7 = .ok (.invokevirtual 37, 3) := by decide +kernel
theorem dd_L_place_10 : decode b_L_place 10 = .ok (.i2l, 1) := by decide +kernel
theorem dd_L_place_11 : decode b_L_place 11 = .ok (.lastore, 1) := by decide +kernel
theorem dd_L_place_12 : decode b_L_place 12 = .ok (.goto 7, 3) := by decide +kernel
theorem dd_L_place_15 : decode b_L_place 15 = .ok (.astore 5, 2) := by decide +kernel
theorem dd_L_place_17 : decode b_L_place 17 = .ok (.iconst 1, 1) := by decide +kernel
theorem dd_L_place_18 : decode b_L_place 18 = .ok (.ireturn, 1) := by decide +kernel
theorem dd_L_place_19 : decode b_L_place 19 = .ok (.iconst 0, 1) := by decide +kernel
theorem dd_L_place_20 : decode b_L_place 20 = .ok (.ireturn, 1) := by decide +kernel
theorem dd_L_compare_0 : decode b_L_compare 0 = .ok (.aload_n 3, 1) := by decide +kernel
theorem dd_L_compare_1 : decode b_L_compare 1 = .ok (.iconst 0, 1) := by decide +kernel
theorem dd_L_compare_2 : decode b_L_compare 2 = .ok (.aload_n 0, 1) := by decide +kernel
theorem dd_L_compare_3 : decode b_L_compare 3 = .ok (.iload_n 1, 1) := by decide +kernel
theorem dd_L_compare_4 : decode b_L_compare 4 = .ok (.iload_n 2, 1) := by decide +kernel
theorem dd_L_compare_5 : decode b_L_compare 5 = .ok (.invokevirtual 43, 3) := by decide +kernel
theorem dd_L_compare_8 : decode b_L_compare 8 = .ok (.i2l, 1) := by decide +kernel
theorem dd_L_compare_9 : decode b_L_compare 9 = .ok (.lastore, 1) := by decide +kernel
theorem dd_L_compare_10 : decode b_L_compare 10 = .ok (.goto 7, 3) := by decide +kernel
theorem dd_L_compare_13 : decode b_L_compare 13 = .ok (.astore 4, 2) := by decide +kernel
theorem dd_L_compare_15 : decode b_L_compare 15 = .ok (.iconst 1, 1) := by decide +kernel
theorem dd_L_compare_16 : decode b_L_compare 16 = .ok (.ireturn, 1) := by decide +kernel
theorem dd_L_compare_17 : decode b_L_compare 17 = .ok (.iconst 0, 1) := by decide +kernel
theorem dd_L_compare_18 : decode b_L_compare 18 = .ok (.ireturn, 1) := by decide +kernel
theorem dd_L_sort_0 : decode b_L_sort 0 = .ok (.aload_n 1, 1) := by decide +kernel
theorem dd_L_sort_1 : decode b_L_sort 1 = .ok (.iconst 0, 1) := by decide +kernel
theorem dd_L_sort_2 : decode b_L_sort 2 = .ok (.aload_n 0, 1) := by decide +kernel
theorem dd_L_sort_3 : decode b_L_sort 3 = .ok (.invokevirtual 47, 3) := by decide +kernel
theorem dd_L_sort_6 : decode b_L_sort 6 = .ok (.i2l, 1) := by decide +kernel
theorem dd_L_sort_7 : decode b_L_sort 7 = .ok (.lastore, 1) := by decide +kernel
theorem dd_L_sort_8 : decode b_L_sort 8 = .ok (.goto 6, 3) := by decide +kernel
theorem dd_L_sort_11 : decode b_L_sort 11 = .ok (.astore_n 2, 1) := by decide +kernel
theorem dd_L_sort_12 : decode b_L_sort 12 = .ok (.iconst 1, 1) := by decide +kernel
theorem dd_L_sort_13 : decode b_L_sort 13 = .ok (.ireturn, 1) := by decide +kernel
theorem dd_L_sort_14 : decode b_L_sort 14 = .ok (.iconst 0, 1) := by decide +kernel
theorem dd_L_sort_15 : decode b_L_sort 15 = .ok (.ireturn, 1) := by decide +kernel
theorem dd_L_merge_0 : decode b_L_merge 0 = .ok (.aload_n 2, 1) := by decide +kernel
theorem dd_L_merge_1 : decode b_L_merge 1 = .ok (.iconst 0, 1) := by decide +kernel
theorem dd_L_merge_2 : decode b_L_merge 2 = .ok (.aload_n 0, 1) := by decide +kernel
theorem dd_L_merge_3 : decode b_L_merge 3 = .ok (.iload_n 1, 1) := by decide +kernel
theorem dd_L_merge_4 : decode b_L_merge 4 = .ok (.invokevirtual 51, 3) := by decide +kernel
theorem dd_L_merge_7 : decode b_L_merge 7 = .ok (.i2l, 1) := by decide +kernel
theorem dd_L_merge_8 : decode b_L_merge 8 = .ok (.lastore, 1) := by decide +kernel
theorem dd_L_merge_9 : decode b_L_merge 9 = .ok (.goto 9, 3) := by decide +kernel
theorem dd_L_merge_12 : decode b_L_merge 12 = .ok (.astore_n 3, 1) := by decide +kernel
theorem dd_L_merge_13 : decode b_L_merge 13 = .ok (.iconst 1, 1) := by decide +kernel
theorem dd_L_merge_14 : decode b_L_merge 14 = .ok (.ireturn, 1) := by decide +kernel
theorem dd_L_merge_15 : decode b_L_merge 15 = .ok (.astore_n 3, 1) := by decide +kernel
theorem dd_L_merge_16 : decode b_L_merge 16 = .ok (.iconst 2, 1) := by decide +kernel
theorem dd_L_merge_17 : decode b_L_merge 17 = .ok (.ireturn, 1) := by decide +kernel
theorem dd_L_merge_18 : decode b_L_merge 18 = .ok (.iconst 0, 1) := by decide +kernel
theorem dd_L_merge_19 : decode b_L_merge 19 = .ok (.ireturn, 1) := by decide +kernel
theorem dd_L_about_0 : decode b_L_about 0 = .ok (.aload_n 2, 1) := by decide +kernel
theorem dd_L_about_1 : decode b_L_about 1 = .ok (.iconst 0, 1) := by decide +kernel
theorem dd_L_about_2 : decode b_L_about 2 = .ok (.aload_n 0, 1) := by decide +kernel
theorem dd_L_about_3 : decode b_L_about 3 = .ok (.iload_n 1, 1) := by decide +kernel
theorem dd_L_about_4 : decode b_L_about 4 = .ok (.invokevirtual 55, 3) := by decide +kernel
theorem dd_L_about_7 : decode b_L_about 7 = .ok (.i2l, 1) := by decide +kernel
theorem dd_L_about_8 : decode b_L_about 8 = .ok (.lastore, 1) := by decide +kernel
theorem dd_L_about_9 : decode b_L_about 9 = .ok (.goto 6, 3) := by decide +kernel
theorem dd_L_about_12 : decode b_L_about 12 = .ok (.astore_n 3, 1) := by decide +kernel
theorem dd_L_about_13 : decode b_L_about 13 = .ok (.iconst 1, 1) := by decide +kernel
theorem dd_L_about_14 : decode b_L_about 14 = .ok (.ireturn, 1) := by decide +kernel
theorem dd_L_about_15 : decode b_L_about 15 = .ok (.iconst 0, 1) := by decide +kernel
theorem dd_L_about_16 : decode b_L_about 16 = .ok (.ireturn, 1) := by decide +kernel
