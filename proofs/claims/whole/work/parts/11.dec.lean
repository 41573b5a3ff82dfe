theorem dd_P_endOf_0 : decode b_P_endOf 0 = .ok (.aload_n 0, 1) := by decide +kernel
theorem dd_P_endOf_1 : decode b_P_endOf 1 = .ok (.getfield 9, 3) := by decide +kernel
theorem dd_P_endOf_4 : decode b_P_endOf 4 = .ok (.iload_n 3, 1) := by decide +kernel
theorem dd_P_endOf_5 : decode b_P_endOf 5 = .ok (.invokevirtual 19, 3) := by decide +kernel
theorem dd_P_endOf_8 : decode b_P_endOf 8 = .ok (.istore 4, 2) := by decide +kernel
theorem dd_P_endOf_10 : decode b_P_endOf 10 = .ok (.aload_n 1, 1) := by decide +kernel
theorem dd_P_endOf_11 : decode b_P_endOf 11 = .ok (.getfield 49, 3) := by decide +kernel
theorem dd_P_endOf_14 : decode b_P_endOf 14 = .ok (.ifCond .ne 6, 3) := by decide +kernel
theorem dd_P_endOf_17 : decode b_P_endOf 17 = .ok (.iload 4, 2) := by decide +kernel
theorem dd_P_endOf_19 : decode b_P_endOf 19 = .ok (.ireturn, 1) := by decide +kernel
theorem dd_P_endOf_20 : decode b_P_endOf 20 = .ok (.aload_n 0, 1) := by decide +kernel
theorem dd_P_endOf_21 : decode b_P_endOf 21 = .ok (.aload_n 1, 1) := by decide +kernel
theorem dd_P_endOf_22 : decode b_P_endOf 22 = .ok (.getfield 49, 3) := by decide +kernel
theorem dd_P_endOf_25 : decode b_P_endOf 25 = .ok (.aload_n 0, 1) := by decide +kernel
theorem dd_P_endOf_26 : decode b_P_endOf 26 = .ok (.getfield 9, 3) := by decide +kernel
theorem dd_P_endOf_29 : decode b_P_endOf 29 = .ok (.iload_n 3, 1) := by decide +kernel
theorem dd_P_endOf_30 : decode b_P_endOf 30 = .ok (.invokevirtual 30, 3) := by decide +kernel
theorem dd_P_endOf_33 : decode b_P_endOf 33 = .ok (.iload 4, 2) := by decide +kernel
theorem dd_P_endOf_35 : decode b_P_endOf 35 = .ok (.invokevirtual 33, 3) := by decide +kernel
theorem dd_P_endOf_38 : decode b_P_endOf 38 = .ok (.istore 5, 2) := by decide +kernel
theorem dd_P_endOf_40 : decode b_P_endOf 40 = .ok (.iload 5, 2) := by decide +kernel
theorem dd_P_endOf_42 : decode b_P_endOf 42 = .ok (.iconst (-1), 1) := by decide +kernel
theorem dd_P_endOf_43 : decode b_P_endOf 43 = .ok (.if_icmp .ne 6, 3) := by decide +kernel
theorem dd_P_endOf_46 : decode b_P_endOf 46 = .ok (.iload 4, 2) := by decide +kernel
theorem dd_P_endOf_48 : decode b_P_endOf 48 = .ok (.ireturn, 1) := by decide +kernel
theorem dd_P_endOf_49 : decode b_P_endOf 49 = .ok (.aload_n 1, 1) := by decide +kernel
theorem dd_P_endOf_50 : decode b_P_endOf 50 = .ok (.getfield 52, 3) := by decide +kernel
theorem dd_P_endOf_53 : decode b_P_endOf 53 = .ok (.ifCond .ne 12, 3) := by decide +kernel
theorem dd_P_endOf_56 : decode b_P_endOf 56 = .ok (.aload_n 0, 1) := by decide +kernel
theorem dd_P_endOf_57 : decode b_P_endOf 57 = .ok (.iload 5, 2) := by decide +kernel
theorem dd_P_endOf_59 : decode b_P_endOf 59 = .ok (.iload 4, 2) := by decide +kernel
theorem dd_P_endOf_61 : decode b_P_endOf 61 = .ok (.invokevirtual 55, 3) := by decide +kernel
theorem dd_P_endOf_64 : decode b_P_endOf 64 = .ok (.ireturn, 1) := by decide +kernel
theorem dd_P_endOf_65 : decode b_P_endOf 65 = .ok (.iload_n 2, 1) := by decide +kernel
theorem dd_P_endOf_66 : decode b_P_endOf 66 = .ok (.bipush 64, 2) := by decide +kernel
theorem dd_P_endOf_68 : decode b_P_endOf 68 = .ok (.iand, 1) := by decide +kernel
theorem dd_P_endOf_69 : decode b_P_endOf 69 = .ok (.ifCond .eq 13, 3) := by decide +kernel
theorem dd_P_endOf_72 : decode b_P_endOf 72 = .ok (.aload_n 0, 1) := by decide +kernel
theorem dd_P_endOf_73 : decode b_P_endOf 73 = .ok (.iload 5, 2) := by decide +kernel
theorem dd_P_endOf_75 : decode b_P_endOf 75 = .ok (.iload 4, 2) := by decide +kernel
theorem dd_P_endOf_77 : decode b_P_endOf 77 = .ok (.invokevirtual 37, 3) := by decide +kernel
theorem dd_P_endOf_80 : decode b_P_endOf 80 = .ok (.istore 5, 2) := by decide +kernel
theorem dd_P_endOf_82 : decode b_P_endOf 82 = .ok (.iload 4, 2) := by decide +kernel
theorem dd_P_endOf_84 : decode b_P_endOf 84 = .ok (.iload 5, 2) := by decide +kernel
theorem dd_P_endOf_86 : decode b_P_endOf 86 = .ok (.aload_n 1, 1) := by decide +kernel
theorem dd_P_endOf_87 : decode b_P_endOf 87 = .ok (.getfield 52, 3) := by decide +kernel
theorem dd_P_endOf_90 : decode b_P_endOf 90 = .ok (.iadd, 1) := by decide +kernel
theorem dd_P_endOf_91 : decode b_P_endOf 91 = .ok (.invokestatic 44, 3) := by decide +kernel
theorem dd_P_endOf_94 : decode b_P_endOf 94 = .ok (.ireturn, 1) := by decide +kernel
theorem dd_P_fieldStart_0 : decode b_P_fieldStart 0 = .ok (.iload_n 2, 1) := by decide +kernel
theorem dd_P_fieldStart_1 : decode b_P_fieldStart 1 = .ok (.istore 4, 2) := by decide +kernel
theorem dd_P_fieldStart_3 : decode b_P_fieldStart 3 = .ok (.iconst 1, 1) := by decide +kernel
theorem dd_P_fieldStart_4 : decode b_P_fieldStart 4 = .ok (.istore 5, 2) := by decide +kernel
theorem dd_P_fieldStart_6 : decode b_P_fieldStart 6 = .ok (.iload 5, 2) := by decide +kernel
theorem dd_P_fieldStart_8 : decode b_P_fieldStart 8 = .ok (.iload_n 1, 1) := by decide +kernel
theorem dd_P_fieldStart_9 : decode b_P_fieldStart 9 = .ok (.if_icmp .ge 37, 3) := by decide +kernel
theorem dd_P_fieldStart_12 : decode b_P_fieldStart 12 = .ok (.aload_n 0, 1) := by decide +kernel
theorem dd_P_fieldStart_13 : decode b_P_fieldStart 13 = .ok (.iload 4, 2) := by decide +kernel
theorem dd_P_fieldStart_15 : decode b_P_fieldStart 15 = .ok (.iload_n 3, 1) := by decide +kernel
theorem dd_P_fieldStart_16 : decode b_P_fieldStart 16 = .ok (.invokevirtual 55, 3) := by decide +kernel
theorem dd_P_fieldStart_19 : decode b_P_fieldStart 19 = .ok (.istore 4, 2) := by decide +kernel
theorem dd_P_fieldStart_21 : decode b_P_fieldStart 21 = .ok (.iload 4, 2) := by decide +kernel
theorem dd_P_fieldStart_23 : decode b_P_fieldStart 23 = .ok (.iload_n 3, 1) := by decide +kernel
theorem dd_P_fieldStart_24 : decode b_P_fieldStart 24 = .ok (.if_icmp .ne 5, 3) := by decide +kernel
theorem dd_P_fieldStart_27 : decode b_P_fieldStart 27 = .ok (.iconst (-1), 1) := by decide +kernel
theorem dd_P_fieldStart_28 : decode b_P_fieldStart 28 = .ok (.ireturn, 1) := by decide +kernel
theorem dd_P_fieldStart_29 : decode b_P_fieldStart 29 = .ok (.aload_n 0, 1) := by decide +kernel
theorem dd_P_fieldStart_30 : decode b_P_fieldStart 30 = .ok (.getfield 15, 3) := by decide +kernel
theorem dd_P_fieldStart_33 : decode b_P_fieldStart 33 = .ok (.iconst (-1), 1) := by decide +kernel
theorem dd_P_fieldStart_34 : decode b_P_fieldStart 34 = .ok (.if_icmp .eq 6, 3) := by decide +kernel
theorem dd_P_fieldStart_37 : decode b_P_fieldStart 37 = .ok (.iinc 4 1, 3) := by decide +kernel
theorem dd_P_fieldStart_40 : decode b_P_fieldStart 40 = .ok (.iinc 5 1, 3) := by decide +kernel
theorem dd_P_fieldStart_43 : decode b_P_fieldStart 43 = .ok (.goto (-37), 3) := by decide +kernel
theorem dd_P_fieldStart_46 : decode b_P_fieldStart 46 = .ok (.iload 4, 2) := by decide +kernel
theorem dd_P_fieldStart_48 : decode b_P_fieldStart 48 = .ok (.ireturn, 1) := by decide +kernel
theorem dd_P_fieldStop_0 : decode b_P_fieldStop 0 = .ok (.aload_n 0, 1) := by decide +kernel
theorem dd_P_fieldStop_1 : decode b_P_fieldStop 1 = .ok (.getfield 9, 3) := by decide +kernel
theorem dd_P_fieldStop_4 : decode b_P_fieldStop 4 = .ok (.getfield 58, 3) := by decide +kernel
theorem dd_P_fieldStop_7 : decode b_P_fieldStop 7 = .ok (.astore_n 3, 1) := by decide +kernel
theorem dd_P_fieldStop_8 : decode b_P_fieldStop 8 = .ok (.iload_n 1, 1) := by decide +kernel
theorem dd_P_fieldStop_9 : decode b_P_fieldStop 9 = .ok (.istore 4, 2) := by decide +kernel
theorem dd_P_fieldStop_11 : decode b_P_fieldStop 11 = .ok (.aload_n 0, 1) := by decide +kernel
theorem dd_P_fieldStop_12 : decode b_P_fieldStop 12 = .ok (.getfield 15, 3) := by decide +kernel
theorem dd_P_fieldStop_15 : decode b_P_fieldStop 15 = .ok (.iconst (-1), 1) := by decide +kernel
theorem dd_P_fieldStop_16 : decode b_P_fieldStop 16 = .ok (.if_icmp .eq 33, 3) := by decide +kernel
theorem dd_P_fieldStop_19 : decode b_P_fieldStop 19 = .ok (.iload 4, 2) := by decide +kernel
theorem dd_P_fieldStop_21 : decode b_P_fieldStop 21 = .ok (.iload_n 2, 1) := by decide +kernel
theorem dd_P_fieldStop_22 : decode b_P_fieldStop 22 = .ok (.if_icmp .ge 24, 3) := by decide +kernel
theorem dd_P_fieldStop_25 : decode b_P_fieldStop 25 = .ok (.aload_n 3, 1) := by decide +kernel
theorem dd_P_fieldStop_26 : decode b_P_fieldStop 26 = .ok (.iload 4, 2) := by decide +kernel
theorem dd_P_fieldStop_28 : decode b_P_fieldStop 28 = .ok (.baload, 1) := by decide +kernel
theorem dd_P_fieldStop_29 : decode b_P_fieldStop 29 = .ok (.sipush 255, 3) := by decide +kernel
theorem dd_P_fieldStop_32 : decode b_P_fieldStop 32 = .ok (.iand, 1) := by decide +kernel
theorem dd_P_fieldStop_33 : decode b_P_fieldStop 33 = .ok (.aload_n 0, 1) := by decide +kernel
theorem dd_P_fieldStop_34 : decode b_P_fieldStop 34 = .ok (.getfield 15, 3) := by decide +kernel
theorem dd_P_fieldStop_37 : decode b_P_fieldStop 37 = .ok (.if_icmp .eq 9, 3) := by decide +kernel
theorem dd_P_fieldStop_40 : decode b_P_fieldStop 40 = .ok (.iinc 4 1, 3) := by decide +kernel
theorem dd_P_fieldStop_43 : decode b_P_fieldStop 43 = .ok (.goto (-24), 3) := by decide +kernel
theorem dd_P_fieldStop_46 : decode b_P_fieldStop 46 = .ok (.iload 4, 2) := by decide +kernel
theorem dd_P_fieldStop_48 : decode b_P_fieldStop 48 = .ok (.ireturn, 1) := by decide +kernel
theorem dd_P_fieldStop_49 : decode b_P_fieldStop 49 = .ok (.iload 4, 2) := by decide +kernel
theorem dd_P_fieldStop_51 : decode b_P_fieldStop 51 = .ok (.iload_n 2, 1) := by decide +kernel
theorem dd_P_fieldStop_52 : decode b_P_fieldStop 52 = .ok (.if_icmp .ge 27, 3) := by decide +kernel
theorem dd_P_fieldStop_55 : decode b_P_fieldStop 55 = .ok (.aload_n 3, 1) := by decide +kernel
theorem dd_P_fieldStop_56 : decode b_P_fieldStop 56 = .ok (.iload 4, 2) := by decide +kernel
theorem dd_P_fieldStop_58 : decode b_P_fieldStop 58 = .ok (.baload, 1) := by decide +kernel
theorem dd_P_fieldStop_59 : decode b_P_fieldStop 59 = .ok (.bipush 32, 2) := by decide +kernel
theorem dd_P_fieldStop_61 : decode b_P_fieldStop 61 = .ok (.if_icmp .eq 12, 3) := by decide +kernel
theorem dd_P_fieldStop_64 : decode b_P_fieldStop 64 = .ok (.aload_n 3, 1) := by decide +kernel
theorem dd_P_fieldStop_65 : decode b_P_fieldStop 65 = .ok (.iload 4, 2) := by decide +kernel
theorem dd_P_fieldStop_67 : decode b_P_fieldStop 67 = .ok (.baload, 1) := by decide +kernel
theorem dd_P_fieldStop_68 : decode b_P_fieldStop 68 = .ok (.bipush 9, 2) := by decide +kernel
theorem dd_P_fieldStop_70 : decode b_P_fieldStop 70 = .ok (.if_icmp .ne 9, 3) := by decide +kernel
theorem dd_P_fieldStop_73 : decode b_P_fieldStop 73 = .ok (.iinc 4 1, 3) := by decide +kernel
theorem dd_P_fieldStop_76 : decode b_P_fieldStop 76 = .ok (.goto (-27), 3) := by decide +kernel
theorem dd_P_fieldStop_79 : decode b_P_fieldStop 79 = .ok (.iload 4, 2) := by decide +kernel
theorem dd_P_fieldStop_81 : decode b_P_fieldStop 81 = .ok (.iload_n 2, 1) := by decide +kernel
theorem dd_P_fieldStop_82 : decode b_P_fieldStop 82 = .ok (.if_icmp .ge 27, 3) := by decide +kernel
theorem dd_P_fieldStop_85 : decode b_P_fieldStop 85 = .ok (.aload_n 3, 1) := by decide +kernel
theorem dd_P_fieldStop_86 : decode b_P_fieldStop 86 = .ok (.iload 4, 2) := by decide +kernel
theorem dd_P_fieldStop_88 : decode b_P_fieldStop 88 = .ok (.baload, 1) := by decide +kernel
theorem dd_P_fieldStop_89 : decode b_P_fieldStop 89 = .ok (.bipush 32, 2) := by decide +kernel
theorem dd_P_fieldStop_91 : decode b_P_fieldStop 91 = .ok (.if_icmp .eq 18, 3) := by decide +kernel
theorem dd_P_fieldStop_94 : decode b_P_fieldStop 94 = .ok (.aload_n 3, 1) := by decide +kernel
theorem dd_P_fieldStop_95 : decode b_P_fieldStop 95 = .ok (.iload 4, 2) := by decide +kernel
theorem dd_P_fieldStop_97 : decode b_P_fieldStop 97 = .ok (.baload, 1) := by decide +kernel
theorem dd_P_fieldStop_98 : decode b_P_fieldStop 98 = .ok (.bipush 9, 2) := by decide +kernel
theorem dd_P_fieldStop_100 : decode b_P_fieldStop 100 = .ok (.if_icmp .eq 9, 3) := by decide +kernel
theorem dd_P_fieldStop_103 : decode b_P_fieldStop 103 = .ok (.iinc 4 1, 3) := by decide +kernel
theorem dd_P_fieldStop_106 : decode b_P_fieldStop 106 = .ok (.goto (-27), 3) := by decide +kernel
theorem dd_P_fieldStop_109 : decode b_P_fieldStop 109 = .ok (.iload 4, 2) := by decide +kernel
theorem dd_P_fieldStop_111 : decode b_P_fieldStop 111 = .ok (.ireturn, 1) := by decide +kernel
theorem dd_P_passBlanksOfField_0 : decode b_P_passBlanksOfField 0 = .ok (.iload_n 1, 1) := by decide +kernel
theorem dd_P_passBlanksOfField_1 : decode b_P_passBlanksOfField 1 = .ok (.istore_n 3, 1) := by decide +kernel
theorem dd_P_passBlanksOfField_2 : decode b_P_passBlanksOfField 2 = .ok (.iload_n 3, 1) := by decide +kernel
theorem dd_P_passBlanksOfField_3 : decode b_P_passBlanksOfField 3 = .ok (.iload_n 2, 1) := by decide +kernel
theorem dd_P_passBlanksOfField_4 : decode b_P_passBlanksOfField 4 = .ok (.if_icmp .ge 35, 3) := by decide +kernel
theorem dd_P_passBlanksOfField_7 : decode b_P_passBlanksOfField 7 = .ok (.aload_n 0, 1) := by decide +kernel
theorem dd_P_passBlanksOfField_8 : decode b_P_passBlanksOfField 8 = .ok (.getfield 9, 3) := by decide +kernel
theorem dd_P_passBlanksOfField_11 : decode b_P_passBlanksOfField 11 = .ok (.iload_n 3, 1) := by decide +kernel
theorem dd_P_passBlanksOfField_12 : decode b_P_passBlanksOfField 12 = .ok (.invokevirtual 62, 3) := by decide +kernel
theorem dd_P_passBlanksOfField_15 : decode b_P_passBlanksOfField 15 = .ok (.ifCond .eq 24, 3) := by decide +kernel
theorem dd_P_passBlanksOfField_18 : decode b_P_passBlanksOfField 18 = .ok (.aload_n 0, 1) := by decide +kernel
theorem dd_P_passBlanksOfField_19 : decode b_P_passBlanksOfField 19 = .ok (.getfield 9, 3) := by decide +kernel
theorem dd_P_passBlanksOfField_22 : decode b_P_passBlanksOfField 22 = .ok (.iload_n 3, 1) := by decide +kernel
theorem dd_P_passBlanksOfField_23 : decode b_P_passBlanksOfField 23 = .ok (.invokevirtual 66, 3) := by decide +kernel
theorem dd_P_passBlanksOfField_26 : decode b_P_passBlanksOfField 26 = .ok (.aload_n 0, 1) := by decide +kernel
theorem dd_P_passBlanksOfField_27 : decode b_P_passBlanksOfField 27 = .ok (.getfield 15, 3) := by decide +kernel
theorem dd_P_passBlanksOfField_30 : decode b_P_passBlanksOfField 30 = .ok (.if_icmp .eq 9, 3) := by decide +kernel
theorem dd_P_passBlanksOfField_33 : decode b_P_passBlanksOfField 33 = .ok (.iinc 3 1, 3) := by decide +kernel
theorem dd_P_passBlanksOfField_36 : decode b_P_passBlanksOfField 36 = .ok (.goto (-34), 3) := by decide +kernel
theorem dd_P_passBlanksOfField_39 : decode b_P_passBlanksOfField 39 = .ok (.iload_n 3, 1) := by decide +kernel
theorem dd_P_passBlanksOfField_40 : decode b_P_passBlanksOfField 40 = .ok (.ireturn, 1) := by decide +kernel
theorem dd_R_init_0 : decode b_R_init 0 = .ok (.aload_n 0, 1) := by decide +kernel
theorem dd_R_init_1 : decode b_R_init 1 = .ok (.invokespecial 3, 3) := by decide +kernel
theorem dd_R_init_4 : decode b_R_init 4 = .ok (.aload_n 0, 1) := by decide +kernel
theorem dd_R_init_5 : decode b_R_init 5 = .ok (.aload_n 1, 1) := by decide +kernel
theorem dd_R_init_6 : decode b_R_init 6 = .ok (.putfield 9, 3) := by decide +kernel
theorem dd_R_init_9 : decode b_R_init 9 = .ok (.aload_n 0, 1) := by decide +kernel
theorem dd_R_init_10 : decode b_R_init 10 = .ok (.sipush 1000, 3) := by decide +kernel
theorem dd_R_init_13 : decode b_R_init 13 = .ok (.newarray .int, 2) := by decide +kernel
theorem dd_R_init_15 : decode b_R_init 15 = .ok (.putfield 15, 3) := by decide +kernel
theorem dd_R_init_18 : decode b_R_init 18 = .ok (.aload_n 0, 1) := by decide +kernel
theorem dd_R_init_19 : decode b_R_init 19 = .ok (.sipush 1000, 3) := by decide +kernel
theorem dd_R_init_22 : decode b_R_init 22 = .ok (.newarray .int, 2) := by decide +kernel
theorem dd_R_init_24 : decode b_R_init 24 = .ok (.putfield 19, 3) := by decide +kernel
theorem dd_R_init_27 : decode b_R_init 27 = .ok (.return_, 1) := by decide +kernel
theorem dd_R_rankFirst_0 : decode b_R_rankFirst 0 = .ok (.iconst 0, 1) := by decide +kernel
theorem dd_R_rankFirst_1 : decode b_R_rankFirst 1 = .ok (.istore_n 2, 1) := by decide +kernel
theorem dd_R_rankFirst_2 : decode b_R_rankFirst 2 = .ok (.iload_n 2, 1) := by decide +kernel
theorem dd_R_rankFirst_3 : decode b_R_rankFirst 3 = .ok (.iload_n 1, 1) := by decide +kernel
theorem dd_R_rankFirst_4 : decode b_R_rankFirst 4 = .ok (.if_icmp .ge 86, 3) := by decide +kernel
theorem dd_R_rankFirst_7 : decode b_R_rankFirst 7 = .ok (.iconst 0, 1) := by decide +kernel
theorem dd_R_rankFirst_8 : decode b_R_rankFirst 8 = .ok (.istore_n 3, 1) := by decide +kernel
theorem dd_R_rankFirst_9 : decode b_R_rankFirst 9 = .ok (.iload_n 2, 1) := by decide +kernel
theorem dd_R_rankFirst_10 : decode b_R_rankFirst 10 = .ok (.istore 4, 2) := by decide +kernel
theorem dd_R_rankFirst_12 : decode b_R_rankFirst 12 = .ok (.iload_n 3, 1) := by decide +kernel
theorem dd_R_rankFirst_13 : decode b_R_rankFirst 13 = .ok (.iload 4, 2) := by decide +kernel
theorem dd_R_rankFirst_15 : decode b_R_rankFirst 15 = .ok (.if_icmp .ge 44, 3) := by decide +kernel
theorem dd_R_rankFirst_18 : decode b_R_rankFirst 18 = .ok (.iload_n 3, 1) := by decide +kernel
theorem dd_R_rankFirst_19 : decode b_R_rankFirst 19 = .ok (.iload 4, 2) := by decide +kernel
theorem dd_R_rankFirst_21 : decode b_R_rankFirst 21 = .ok (.iadd, 1) := by decide +kernel
theorem dd_R_rankFirst_22 : decode b_R_rankFirst 22 = .ok (.iconst 2, 1) := by decide +kernel
theorem dd_R_rankFirst_23 : decode b_R_rankFirst 23 = .ok (.idiv, 1) := by decide +kernel
theorem dd_R_rankFirst_24 : decode b_R_rankFirst 24 = .ok (.istore 5, 2) := by decide +kernel
theorem dd_R_rankFirst_26 : decode b_R_rankFirst 26 = .ok (.aload_n 0, 1) := by decide +kernel
theorem dd_R_rankFirst_27 : decode b_R_rankFirst 27 = .ok (.getfield 9, 3) := by decide +kernel
theorem dd_R_rankFirst_30 : decode b_R_rankFirst 30 = .ok (.aload_n 0, 1) := by decide +kernel
theorem dd_R_rankFirst_31 : decode b_R_rankFirst 31 = .ok (.getfield 19, 3) := by decide +kernel
theorem dd_R_rankFirst_34 : decode b_R_rankFirst 34 = .ok (.iload 5, 2) := by decide +kernel
theorem dd_R_rankFirst_36 : decode b_R_rankFirst 36 = .ok (.iaload, 1) := by decide +kernel
theorem dd_R_rankFirst_37 : decode b_R_rankFirst 37 = .ok (.iload_n 2, 1) := by decide +kernel
theorem dd_R_rankFirst_38 : decode b_R_rankFirst 38 = .ok (.invokevirtual 22, 3) := by decide +kernel
theorem dd_R_rankFirst_41 : decode b_R_rankFirst 41 = .ok (.ifCond .gt 11, 3) := by decide +kernel
theorem dd_R_rankFirst_44 : decode b_R_rankFirst 44 = .ok (.iload 5, 2) := by decide +kernel
theorem dd_R_rankFirst_46 : decode b_R_rankFirst 46 = .ok (.iconst 1, 1) := by decide +kernel
theorem dd_R_rankFirst_47 : decode b_R_rankFirst 47 = .ok (.iadd, 1) := by decide +kernel
theorem dd_R_rankFirst_48 : decode b_R_rankFirst 48 = .ok (.istore_n 3, 1) := by decide +kernel
theorem dd_R_rankFirst_49 : decode b_R_rankFirst 49 = .ok (.goto 7, 3) := by decide +kernel
theorem dd_R_rankFirst_52 : decode b_R_rankFirst 52 = .ok (.iload 5, 2) := by decide +kernel
theorem dd_R_rankFirst_54 : decode b_R_rankFirst 54 = .ok (.istore 4, 2) := by decide +kernel
theorem dd_R_rankFirst_56 : decode b_R_rankFirst 56 = .ok (.goto (-44), 3) := by decide +kernel
theorem dd_R_rankFirst_59 : decode b_R_rankFirst 59 = .ok (.aload_n 0, 1) := by decide +kernel
theorem dd_R_rankFirst_60 : decode b_R_rankFirst 60 = .ok (.getfield 19, 3) := by decide +kernel
theorem dd_R_rankFirst_63 : decode b_R_rankFirst 63 = .ok (.iload_n 3, 1) := by decide +kernel
theorem dd_R_rankFirst_64 : decode b_R_rankFirst 64 = .ok (.aload_n 0, 1) := by decide +kernel
theorem dd_R_rankFirst_65 : decode b_R_rankFirst 65 = .ok (.getfield 19, 3) := by decide +kernel
theorem dd_R_rankFirst_68 : decode b_R_rankFirst 68 = .ok (.iload_n 3, 1) := by decide +kernel
theorem dd_R_rankFirst_69 : decode b_R_rankFirst 69 = .ok (.iconst 1, 1) := by decide +kernel
theorem dd_R_rankFirst_70 : decode b_R_rankFirst 70 = .ok (.iadd, 1) := by decide +kernel
theorem dd_R_rankFirst_71 : decode b_R_rankFirst 71 = .ok (.iload_n 2, 1) := by decide +kernel
theorem dd_R_rankFirst_72 : decode b_R_rankFirst 72 = .ok (.iload_n 3, 1) := by decide +kernel
theorem dd_R_rankFirst_73 : decode b_R_rankFirst 73 = .ok (.isub, 1) := by decide +kernel
theorem dd_R_rankFirst_74 : decode b_R_rankFirst 74 = .ok (.invokestatic 28, 3) := by decide +kernel
theorem dd_R_rankFirst_77 : decode b_R_rankFirst 77 = .ok (.aload_n 0, 1) := by decide +kernel
theorem dd_R_rankFirst_78 : decode b_R_rankFirst 78 = .ok (.getfield 19, 3) := by decide +kernel
theorem dd_R_rankFirst_81 : decode b_R_rankFirst 81 = .ok (.iload_n 3, 1) := by decide +kernel
theorem dd_R_rankFirst_82 : decode b_R_rankFirst 82 = .ok (.iload_n 2, 1) := by decide +kernel
theorem dd_R_rankFirst_83 : decode b_R_rankFirst 83 = .ok (.iastore, 1) := by decide +kernel
theorem dd_R_rankFirst_84 : decode b_R_rankFirst 84 = .ok (.iinc 2 1, 3) := by decide +kernel
theorem dd_R_rankFirst_87 : decode b_R_rankFirst 87 = .ok (.goto (-85), 3) := by decide +kernel
theorem dd_R_rankFirst_90 : decode b_R_rankFirst 90 = .ok (.iconst 0, 1) := by decide +kernel
theorem dd_R_rankFirst_91 : decode b_R_rankFirst 91 = .ok (.istore_n 2, 1) := by decide +kernel
theorem dd_R_rankFirst_92 : decode b_R_rankFirst 92 = .ok (.iload_n 2, 1) := by decide +kernel
theorem dd_R_rankFirst_93 : decode b_R_rankFirst 93 = .ok (.iload_n 1, 1) := by decide +kernel
theorem dd_R_rankFirst_94 : decode b_R_rankFirst 94 = .ok (.if_icmp .ge 21, 3) := by decide +kernel
theorem dd_R_rankFirst_97 : decode b_R_rankFirst 97 = .ok (.aload_n 0, 1) := by decide +kernel
theorem dd_R_rankFirst_98 : decode b_R_rankFirst 98 = .ok (.getfield 15, 3) := by decide +kernel
theorem dd_R_rankFirst_101 : decode b_R_rankFirst 101 = .ok (.aload_n 0, 1) := by decide +kernel
theorem dd_R_rankFirst_102 : decode b_R_rankFirst 102 = .ok (.getfield 19, 3) := by decide +kernel
theorem dd_R_rankFirst_105 : decode b_R_rankFirst 105 = .ok (.iload_n 2, 1) := by decide +kernel
theorem dd_R_rankFirst_106 : decode b_R_rankFirst 106 = .ok (.iaload, 1) := by decide +kernel
theorem dd_R_rankFirst_107 : decode b_R_rankFirst 107 = .ok (.iload_n 2, 1) := by decide +kernel
theorem dd_R_rankFirst_108 : decode b_R_rankFirst 108 = .ok (.iastore, 1) := by decide +kernel
theorem dd_R_rankFirst_109 : decode b_R_rankFirst 109 = .ok (.iinc 2 1, 3) := by decide +kernel
theorem dd_R_rankFirst_112 : decode b_R_rankFirst 112 = .ok (.goto (-20), 3) := by decide +kernel
theorem dd_R_rankFirst_115 : decode b_R_rankFirst 115 = .ok (.return_, 1) := by decide +kernel
theorem dd_R_rankOf_0 : decode b_R_rankOf 0 = .ok (.aload_n 0, 1) := by decide +kernel
theorem dd_R_rankOf_1 : decode b_R_rankOf 1 = .ok (.getfield 15, 3) := by decide +kernel
theorem dd_R_rankOf_4 : decode b_R_rankOf 4 = .ok (.iload_n 1, 1) := by decide +kernel
theorem dd_R_rankOf_5 : decode b_R_rankOf 5 = .ok (.iaload, 1) := by decide +kernel
theorem dd_R_rankOf_6 : decode b_R_rankOf 6 = .ok (.ireturn, 1) := by decide +kernel
theorem dd_R_lineAt_0 : decode b_R_lineAt 0 = .ok (.aload_n 0, 1) := by decide +kernel
theorem dd_R_lineAt_1 : decode b_R_lineAt 1 = .ok (.getfield 19, 3) := by decide +kernel
theorem dd_R_lineAt_4 : decode b_R_lineAt 4 = .ok (.iload_n 1, 1) := by decide +kernel
theorem dd_R_lineAt_5 : decode b_R_lineAt 5 = .ok (.iaload, 1) := by decide +kernel
theorem dd_R_lineAt_6 : decode b_R_lineAt 6 = .ok (.ireturn, 1) := by decide +kernel
theorem dd_U_init_0 : decode b_U_init 0 = .ok (.aload_n 0, 1) := by decide +kernel
theorem dd_U_init_1 : decode b_U_init 1 = .ok (.invokespecial 3, 3) := by decide +kernel
theorem dd_U_init_4 : decode b_U_init 4 = .ok (.aload_n 0, 1) := by decide +kernel
theorem dd_U_init_5 : decode b_U_init 5 = .ok (.aload_n 1, 1) := by decide +kernel
theorem dd_U_init_6 : decode b_U_init 6 = .ok (.putfield 9, 3) := by decide +kernel
theorem dd_U_init_9 : decode b_U_init 9 = .ok (.aload_n 0, 1) := by decide +kernel
theorem dd_U_init_10 : decode b_U_init 10 = .ok (.aload_n 2, 1) := by decide +kernel
theorem dd_U_init_11 : decode b_U_init 11 = .ok (.putfield 15, 3) := by decide +kernel
theorem dd_U_init_14 : decode b_U_init 14 = .ok (.aload_n 0, 1) := by decide +kernel
theorem dd_U_init_15 : decode b_U_init 15 = .ok (.sipush 1000, 3) := by decide +kernel
theorem dd_U_init_18 : decode b_U_init 18 = .ok (.newarray .int, 2) := by decide +kernel
theorem dd_U_init_20 : decode b_U_init 20 = .ok (.putfield 19, 3) := by decide +kernel
theorem dd_U_init_23 : decode b_U_init 23 = .ok (.aload_n 0, 1) := by decide +kernel
theorem dd_U_init_24 : decode b_U_init 24 = .ok (.sipush 2000, 3) := by decide +kernel
theorem dd_U_init_27 : decode b_U_init 27 = .ok (.newarray .int, 2) := by decide +kernel
theorem dd_U_init_29 : decode b_U_init 29 = .ok (.putfield 23, 3) := by decide +kernel
theorem dd_U_init_32 : decode b_U_init 32 = .ok (.aload_n 0, 1) := by decide +kernel
theorem dd_U_init_33 : decode b_U_init 33 = .ok (.iconst 0, 1) := by decide +kernel
theorem dd_U_init_34 : decode b_U_init 34 = .ok (.putfield 26, 3) := by decide +kernel
theorem dd_U_init_37 : decode b_U_init 37 = .ok (.aload_n 0, 1) := by decide +kernel
theorem dd_U_init_38 : decode b_U_init 38 = .ok (.iconst 0, 1) := by decide +kernel
theorem dd_U_init_39 : decode b_U_init 39 = .ok (.putfield 30, 3) := by decide +kernel
theorem dd_U_init_42 : decode b_U_init 42 = .ok (.aload_n 0, 1) := by decide +kernel
theorem dd_U_init_43 : decode b_U_init 43 = .ok (.iconst 0, 1) := by decide +kernel
theorem dd_U_init_44 : decode b_U_init 44 = .ok (.putfield 33, 3) := by decide +kernel
theorem dd_U_init_47 : decode b_U_init 47 = .ok (.aload_n 0, 1) := by decide +kernel
theorem dd_U_init_48 : decode b_U_init 48 = .ok (.iconst 0, 1) := by decide +kernel
theorem dd_U_init_49 : decode b_U_init 49 = .ok (.putfield 36, 3) := by decide +kernel
theorem dd_U_init_52 : decode b_U_init 52 = .ok (.return_, 1) := by decide +kernel
theorem dd_U_makeRuns_0 : decode b_U_makeRuns 0 = .ok (.iload_n 1, 1) := by decide +kernel
theorem dd_U_makeRuns_1 : decode b_U_makeRuns 1 = .ok (.iload_n 2, 1) := by decide +kernel
theorem dd_U_makeRuns_2 : decode b_U_makeRuns 2 = .ok (.invokestatic 39, 3) := by decide +kernel
theorem dd_U_makeRuns_5 : decode b_U_makeRuns 5 = .ok (.istore_n 3, 1) := by decide +kernel
theorem dd_U_makeRuns_6 : decode b_U_makeRuns 6 = .ok (.aload_n 0, 1) := by decide +kernel
theorem dd_U_makeRuns_7 : decode b_U_makeRuns 7 = .ok (.getfield 15, 3) := by decide +kernel
theorem dd_U_makeRuns_10 : decode b_U_makeRuns 10 = .ok (.invokevirtual 45, 3) := by decide +kernel
theorem dd_U_makeRuns_13 : decode b_U_makeRuns 13 = .ok (.iconst 0, 1) := by decide +kernel
theorem dd_U_makeRuns_14 : decode b_U_makeRuns 14 = .ok (.istore 4, 2) := by decide +kernel
theorem dd_U_makeRuns_16 : decode b_U_makeRuns 16 = .ok (.iload 4, 2) := by decide +kernel
theorem dd_U_makeRuns_18 : decode b_U_makeRuns 18 = .ok (.iload_n 3, 1) := by decide +kernel
theorem dd_U_makeRuns_19 : decode b_U_makeRuns 19 = .ok (.if_icmp .ge 25, 3) := by decide +kernel
theorem dd_U_makeRuns_22 : decode b_U_makeRuns 22 = .ok (.aload_n 0, 1) := by decide +kernel
theorem dd_U_makeRuns_23 : decode b_U_makeRuns 23 = .ok (.getfield 15, 3) := by decide +kernel
theorem dd_U_makeRuns_26 : decode b_U_makeRuns 26 = .ok (.aload_n 0, 1) := by decide +kernel
theorem dd_U_makeRuns_27 : decode b_U_makeRuns 27 = .ok (.getfield 9, 3) := by decide +kernel
theorem dd_U_makeRuns_30 : decode b_U_makeRuns 30 = .ok (.iload 4, 2) := by decide +kernel
theorem dd_U_makeRuns_32 : decode b_U_makeRuns 32 = .ok (.invokevirtual 50, 3) := by decide +kernel
theorem dd_U_makeRuns_35 : decode b_U_makeRuns 35 = .ok (.invokevirtual 56, 3) := by decide +kernel
theorem dd_U_makeRuns_38 : decode b_U_makeRuns 38 = .ok (.iinc 4 1, 3) := by decide +kernel
theorem dd_U_makeRuns_41 : decode b_U_makeRuns 41 = .ok (.goto (-25), 3) := by decide +kernel
theorem dd_U_makeRuns_44 : decode b_U_makeRuns 44 = .ok (.aload_n 0, 1) := by decide +kernel
theorem dd_U_makeRuns_45 : decode b_U_makeRuns 45 = .ok (.iconst 0, 1) := by decide +kernel
theorem dd_U_makeRuns_46 : decode b_U_makeRuns 46 = .ok (.putfield 26, 3) := by decide +kernel
theorem dd_U_makeRuns_49 : decode b_U_makeRuns 49 = .ok (.iconst 0, 1) := by decide +kernel
theorem dd_U_makeRuns_50 : decode b_U_makeRuns 50 = .ok (.istore 4, 2) := by decide +kernel
theorem dd_U_makeRuns_52 : decode b_U_makeRuns 52 = .ok (.iload 4, 2) := by decide +kernel
theorem dd_U_makeRuns_54 : decode b_U_makeRuns 54 = .ok (.iload_n 1, 1) := by decide +kernel
theorem dd_U_makeRuns_55 : decode b_U_makeRuns 55 = .ok (.if_icmp .ge 88, 3) := by decide +kernel
theorem dd_U_makeRuns_58 : decode b_U_makeRuns 58 = .ok (.aload_n 0, 1) := by decide +kernel
theorem dd_U_makeRuns_59 : decode b_U_makeRuns 59 = .ok (.getfield 15, 3) := by decide +kernel
theorem dd_U_makeRuns_62 : decode b_U_makeRuns 62 = .ok (.invokevirtual 60, 3) := by decide +kernel
theorem dd_U_makeRuns_65 : decode b_U_makeRuns 65 = .ok (.istore 5, 2) := by decide +kernel
theorem dd_U_makeRuns_67 : decode b_U_makeRuns 67 = .ok (.iload 5, 2) := by decide +kernel
theorem dd_U_makeRuns_69 : decode b_U_makeRuns 69 = .ok (.sipush 1000, 3) := by decide +kernel
theorem dd_U_makeRuns_72 : decode b_U_makeRuns 72 = .ok (.idiv, 1) := by decide +kernel
theorem dd_U_makeRuns_73 : decode b_U_makeRuns 73 = .ok (.istore 6, 2) := by decide +kernel
theorem dd_U_makeRuns_75 : decode b_U_makeRuns 75 = .ok (.aload_n 0, 1) := by decide +kernel
theorem dd_U_makeRuns_76 : decode b_U_makeRuns 76 = .ok (.iload 6, 2) := by decide +kernel
theorem dd_U_makeRuns_78 : decode b_U_makeRuns 78 = .ok (.invokevirtual 64, 3) := by decide +kernel
theorem dd_U_makeRuns_81 : decode b_U_makeRuns 81 = .ok (.iload_n 3, 1) := by decide +kernel
theorem dd_U_makeRuns_82 : decode b_U_makeRuns 82 = .ok (.iload_n 1, 1) := by decide +kernel
theorem dd_U_makeRuns_83 : decode b_U_makeRuns 83 = .ok (.if_icmp .ge 54, 3) := by decide +kernel
theorem dd_U_makeRuns_86 : decode b_U_makeRuns 86 = .ok (.aload_n 0, 1) := by decide +kernel
theorem dd_U_makeRuns_87 : decode b_U_makeRuns 87 = .ok (.getfield 9, 3) := by decide +kernel
theorem dd_U_makeRuns_90 : decode b_U_makeRuns 90 = .ok (.iload_n 3, 1) := by decide +kernel
theorem dd_U_makeRuns_91 : decode b_U_makeRuns 91 = .ok (.invokevirtual 50, 3) := by decide +kernel
theorem dd_U_makeRuns_94 : decode b_U_makeRuns 94 = .ok (.istore 7, 2) := by decide +kernel
theorem dd_U_makeRuns_96 : decode b_U_makeRuns 96 = .ok (.iload 7, 2) := by decide +kernel
theorem dd_U_makeRuns_98 : decode b_U_makeRuns 98 = .ok (.iload 5, 2) := by decide +kernel
theorem dd_U_makeRuns_100 : decode b_U_makeRuns 100 = .ok (.sipush 1000, 3) := by decide +kernel
theorem dd_U_makeRuns_103 : decode b_U_makeRuns 103 = .ok (.irem, 1) := by decide +kernel
theorem dd_U_makeRuns_104 : decode b_U_makeRuns 104 = .ok (.if_icmp .le 8, 3) := by decide +kernel
theorem dd_U_makeRuns_107 : decode b_U_makeRuns 107 = .ok (.iload 6, 2) := by decide +kernel
theorem dd_U_makeRuns_109 : decode b_U_makeRuns 109 = .ok (.goto 7, 3) := by decide +kernel
theorem dd_U_makeRuns_112 : decode b_U_makeRuns 112 = .ok (.iload 6, 2) := by decide +kernel
theorem dd_U_makeRuns_114 : decode b_U_makeRuns 114 = .ok (.iconst 1, 1) := by decide +kernel
theorem dd_U_makeRuns_115 : decode b_U_makeRuns 115 = .ok (.iadd, 1) := by decide +kernel
theorem dd_U_makeRuns_116 : decode b_U_makeRuns 116 = .ok (.istore 8, 2) := by decide +kernel
theorem dd_U_makeRuns_118 : decode b_U_makeRuns 118 = .ok (.aload_n 0, 1) := by decide +kernel
theorem dd_U_makeRuns_119 : decode b_U_makeRuns 119 = .ok (.getfield 15, 3) := by decide +kernel
theorem dd_U_makeRuns_122 : decode b_U_makeRuns 122 = .ok (.iload 8, 2) := by decide +kernel
theorem dd_U_makeRuns_124 : decode b_U_makeRuns 124 = .ok (.sipush 1000, 3) := by decide +kernel
theorem dd_U_makeRuns_127 : decode b_U_makeRuns 127 = .ok (.imul, 1) := by decide +kernel
theorem dd_U_makeRuns_128 : decode b_U_makeRuns 128 = .ok (.iload 7, 2) := by decide +kernel
theorem dd_U_makeRuns_130 : decode b_U_makeRuns 130 = .ok (.iadd, 1) := by decide +kernel
theorem dd_U_makeRuns_131 : decode b_U_makeRuns 131 = .ok (.invokevirtual 56, 3) := by decide +kernel
theorem dd_U_makeRuns_134 : decode b_U_makeRuns 134 = .ok (.iinc 3 1, 3) := by decide +kernel
theorem dd_U_makeRuns_137 : decode b_U_makeRuns 137 = .ok (.iinc 4 1, 3) := by decide +kernel
theorem dd_U_makeRuns_140 : decode b_U_makeRuns 140 = .ok (.goto (-88), 3) := by decide +kernel
theorem dd_U_makeRuns_143 : decode b_U_makeRuns 143 = .ok (.return_, 1) := by decide +kernel
theorem dd_U_addLineToRun_0 : decode b_U_addLineToRun 0 = .ok (.iload_n 1, 1) := by decide +kernel
theorem dd_U_addLineToRun_1 : decode b_U_addLineToRun 1 = .ok (.aload_n 0, 1) := by decide +kernel
theorem dd_U_addLineToRun_2 : decode b_U_addLineToRun 2 = .ok (.getfield 26, 3) := by decide +kernel
theorem dd_U_addLineToRun_5 : decode b_U_addLineToRun 5 = .ok (.if_icmp .ne 33, 3) := by decide +kernel
theorem dd_U_addLineToRun_8 : decode b_U_addLineToRun 8 = .ok (.aload_n 0, 1) := by decide +kernel
theorem dd_U_addLineToRun_9 : decode b_U_addLineToRun 9 = .ok (.getfield 26, 3) := by decide +kernel
theorem dd_U_addLineToRun_12 : decode b_U_addLineToRun 12 = .ok (.sipush 1000, 3) := by decide +kernel
theorem dd_U_addLineToRun_15 : decode b_U_addLineToRun 15 = .ok (.if_icmp .ge 23, 3) := by decide +kernel
theorem dd_U_addLineToRun_18 : decode b_U_addLineToRun 18 = .ok (.aload_n 0, 1) := by decide +kernel
theorem dd_U_addLineToRun_19 : decode b_U_addLineToRun 19 = .ok (.getfield 19, 3) := by decide +kernel
theorem dd_U_addLineToRun_22 : decode b_U_addLineToRun 22 = .ok (.aload_n 0, 1) := by decide +kernel
theorem dd_U_addLineToRun_23 : decode b_U_addLineToRun 23 = .ok (.getfield 26, 3) := by decide +kernel
theorem dd_U_addLineToRun_26 : decode b_U_addLineToRun 26 = .ok (.iconst 0, 1) := by decide +kernel
theorem dd_U_addLineToRun_27 : decode b_U_addLineToRun 27 = .ok (.iastore, 1) := by decide +kernel
theorem dd_U_addLineToRun_28 : decode b_U_addLineToRun 28 = .ok (.aload_n 0, 1) := by decide +kernel
theorem dd_U_addLineToRun_29 : decode b_U_addLineToRun 29 = .ok (.dup, 1) := by decide +kernel
theorem dd_U_addLineToRun_30 : decode b_U_addLineToRun 30 = .ok (.getfield 26, 3) := by decide +kernel
theorem dd_U_addLineToRun_33 : decode b_U_addLineToRun 33 = .ok (.iconst 1, 1) := by decide +kernel
theorem dd_U_addLineToRun_34 : decode b_U_addLineToRun 34 = .ok (.iadd, 1) := by decide +kernel
theorem dd_U_addLineToRun_35 : decode b_U_addLineToRun 35 = .ok (.putfield 26, 3) := by decide +kernel
theorem dd_U_addLineToRun_38 : decode b_U_addLineToRun 38 = .ok (.aload_n 0, 1) := by decide +kernel
theorem dd_U_addLineToRun_39 : decode b_U_addLineToRun 39 = .ok (.getfield 19, 3) := by decide +kernel
theorem dd_U_addLineToRun_42 : decode b_U_addLineToRun 42 = .ok (.iload_n 1, 1) := by decide +kernel
theorem dd_U_addLineToRun_43 : decode b_U_addLineToRun 43 = .ok (.dup2, 1) := by decide +kernel
theorem dd_U_addLineToRun_44 : decode b_U_addLineToRun 44 = .ok (.iaload, 1) := by decide +kernel
theorem dd_U_addLineToRun_45 : decode b_U_addLineToRun 45 = .ok (.iconst 1, 1) := by decide +kernel
theorem dd_U_addLineToRun_46 : decode b_U_addLineToRun 46 = .ok (.iadd, 1) := by decide +kernel
theorem dd_U_addLineToRun_47 : decode b_U_addLineToRun 47 = .ok (.iastore, 1) := by decide +kernel
theorem dd_U_addLineToRun_48 : decode b_U_addLineToRun 48 = .ok (.return_, 1) := by decide +kernel
theorem dd_U_countMerges_0 : decode b_U_countMerges 0 = .ok (.aload_n 0, 1) := by decide +kernel
theorem dd_U_countMerges_1 : decode b_U_countMerges 1 = .ok (.getfield 19, 3) := by decide +kernel
theorem dd_U_countMerges_4 : decode b_U_countMerges 4 = .ok (.iconst 0, 1) := by decide +kernel
theorem dd_U_countMerges_5 : decode b_U_countMerges 5 = .ok (.aload_n 0, 1) := by decide +kernel
theorem dd_U_countMerges_6 : decode b_U_countMerges 6 = .ok (.getfield 23, 3) := by decide +kernel
theorem dd_U_countMerges_9 : decode b_U_countMerges 9 = .ok (.iconst 0, 1) := by decide +kernel
theorem dd_U_countMerges_10 : decode b_U_countMerges 10 = .ok (.aload_n 0, 1) := by decide +kernel
theorem dd_U_countMerges_11 : decode b_U_countMerges 11 = .ok (.getfield 26, 3) := by decide +kernel
theorem dd_U_countMerges_14 : decode b_U_countMerges 14 = .ok (.invokestatic 67, 3) := by decide +kernel
theorem dd_U_countMerges_17 : decode b_U_countMerges 17 = .ok (.iconst 0, 1) := by decide +kernel
theorem dd_U_countMerges_18 : decode b_U_countMerges 18 = .ok (.istore_n 2, 1) := by decide +kernel
theorem dd_U_countMerges_19 : decode b_U_countMerges 19 = .ok (.aload_n 0, 1) := by decide +kernel
theorem dd_U_countMerges_20 : decode b_U_countMerges 20 = .ok (.getfield 26, 3) := by decide +kernel
theorem dd_U_countMerges_23 : decode b_U_countMerges 23 = .ok (.istore_n 3, 1) := by decide +kernel
theorem dd_U_countMerges_24 : decode b_U_countMerges 24 = .ok (.aload_n 0, 1) := by decide +kernel
theorem dd_U_countMerges_25 : decode b_U_countMerges 25 = .ok (.iconst 0, 1) := by decide +kernel
theorem dd_U_countMerges_26 : decode b_U_countMerges 26 = .ok (.putfield 30, 3) := by decide +kernel
theorem dd_U_countMerges_29 : decode b_U_countMerges 29 = .ok (.aload_n 0, 1) := by decide +kernel
theorem dd_U_countMerges_30 : decode b_U_countMerges 30 = .ok (.iconst 0, 1) := by decide +kernel
theorem dd_U_countMerges_31 : decode b_U_countMerges 31 = .ok (.putfield 33, 3) := by decide +kernel
theorem dd_U_countMerges_34 : decode b_U_countMerges 34 = .ok (.iload_n 3, 1) := by decide +kernel
theorem dd_U_countMerges_35 : decode b_U_countMerges 35 = .ok (.iload_n 2, 1) := by decide +kernel
theorem dd_U_countMerges_36 : decode b_U_countMerges 36 = .ok (.isub, 1) := by decide +kernel
theorem dd_U_countMerges_37 : decode b_U_countMerges 37 = .ok (.iconst 1, 1) := by decide +kernel
theorem dd_U_countMerges_38 : decode b_U_countMerges 38 = .ok (.if_icmp .le 91, 3) := by decide +kernel
theorem dd_U_countMerges_41 : decode b_U_countMerges 41 = .ok (.aload_n 0, 1) := by decide +kernel
theorem dd_U_countMerges_42 : decode b_U_countMerges 42 = .ok (.getfield 30, 3) := by decide +kernel
theorem dd_U_countMerges_45 : decode b_U_countMerges 45 = .ok (.sipush 1000, 3) := by decide +kernel
theorem dd_U_countMerges_48 : decode b_U_countMerges 48 = .ok (.if_icmp .ge 81, 3) := by decide +kernel
theorem dd_U_countMerges_51 : decode b_U_countMerges 51 = .ok (.iload_n 3, 1) := by decide +kernel
theorem dd_U_countMerges_52 : decode b_U_countMerges 52 = .ok (.iload_n 2, 1) := by decide +kernel
theorem dd_U_countMerges_53 : decode b_U_countMerges 53 = .ok (.iload_n 1, 1) := by decide +kernel
theorem dd_U_countMerges_54 : decode b_U_countMerges 54 = .ok (.iadd, 1) := by decide +kernel
theorem dd_U_countMerges_55 : decode b_U_countMerges 55 = .ok (.invokestatic 39, 3) := by decide +kernel
theorem dd_U_countMerges_58 : decode b_U_countMerges 58 = .ok (.istore 4, 2) := by decide +kernel
theorem dd_U_countMerges_60 : decode b_U_countMerges 60 = .ok (.iconst 0, 1) := by decide +kernel
theorem dd_U_countMerges_61 : decode b_U_countMerges 61 = .ok (.istore 5, 2) := by decide +kernel
theorem dd_U_countMerges_63 : decode b_U_countMerges 63 = .ok (.iload_n 2, 1) := by decide +kernel
theorem dd_U_countMerges_64 : decode b_U_countMerges 64 = .ok (.istore 6, 2) := by decide +kernel
theorem dd_U_countMerges_66 : decode b_U_countMerges 66 = .ok (.iload 6, 2) := by decide +kernel
theorem dd_U_countMerges_68 : decode b_U_countMerges 68 = .ok (.iload 4, 2) := by decide +kernel
theorem dd_U_countMerges_70 : decode b_U_countMerges 70 = .ok (.if_icmp .ge 21, 3) := by decide +kernel
theorem dd_U_countMerges_73 : decode b_U_countMerges 73 = .ok (.iload 5, 2) := by decide +kernel
theorem dd_U_countMerges_75 : decode b_U_countMerges 75 = .ok (.aload_n 0, 1) := by decide +kernel
theorem dd_U_countMerges_76 : decode b_U_countMerges 76 = .ok (.getfield 23, 3) := by decide +kernel
theorem dd_U_countMerges_79 : decode b_U_countMerges 79 = .ok (.iload 6, 2) := by decide +kernel
theorem dd_U_countMerges_81 : decode b_U_countMerges 81 = .ok (.iaload, 1) := by decide +kernel
theorem dd_U_countMerges_82 : decode b_U_countMerges 82 = .ok (.iadd, 1) := by decide +kernel
theorem dd_U_countMerges_83 : decode b_U_countMerges 83 = .ok (.istore 5, 2) := by decide +kernel
theorem dd_U_countMerges_85 : decode b_U_countMerges 85 = .ok (.iinc 6 1, 3) := by decide +kernel
theorem dd_U_countMerges_88 : decode b_U_countMerges 88 = .ok (.goto (-22), 3) := by decide +kernel
theorem dd_U_countMerges_91 : decode b_U_countMerges 91 = .ok (.iload 4, 2) := by decide +kernel
theorem dd_U_countMerges_93 : decode b_U_countMerges 93 = .ok (.istore_n 2, 1) := by decide +kernel
theorem dd_U_countMerges_94 : decode b_U_countMerges 94 = .ok (.aload_n 0, 1) := by decide +kernel
theorem dd_U_countMerges_95 : decode b_U_countMerges 95 = .ok (.getfield 23, 3) := by decide +kernel
theorem dd_U_countMerges_98 : decode b_U_countMerges 98 = .ok (.iload_n 3, 1) := by decide +kernel
theorem dd_U_countMerges_99 : decode b_U_countMerges 99 = .ok (.iload 5, 2) := by decide +kernel
theorem dd_U_countMerges_101 : decode b_U_countMerges 101 = .ok (.iastore, 1) := by decide +kernel
theorem dd_U_countMerges_102 : decode b_U_countMerges 102 = .ok (.iinc 3 1, 3) := by decide +kernel
theorem dd_U_countMerges_105 : decode b_U_countMerges 105 = .ok (.aload_n 0, 1) := by decide +kernel
theorem dd_U_countMerges_106 : decode b_U_countMerges 106 = .ok (.dup, 1) := by decide +kernel
theorem dd_U_countMerges_107 : decode b_U_countMerges 107 = .ok (.getfield 30, 3) := by decide +kernel
theorem dd_U_countMerges_110 : decode b_U_countMerges 110 = .ok (.iconst 1, 1) := by decide +kernel
theorem dd_U_countMerges_111 : decode b_U_countMerges 111 = .ok (.iadd, 1) := by decide +kernel
theorem dd_U_countMerges_112 : decode b_U_countMerges 112 = .ok (.putfield 30, 3) := by decide +kernel
theorem dd_U_countMerges_115 : decode b_U_countMerges 115 = .ok (.aload_n 0, 1) := by decide +kernel
theorem dd_U_countMerges_116 : decode b_U_countMerges 116 = .ok (.dup, 1) := by decide +kernel
theorem dd_U_countMerges_117 : decode b_U_countMerges 117 = .ok (.getfield 33, 3) := by decide +kernel
theorem dd_U_countMerges_120 : decode b_U_countMerges 120 = .ok (.iload 5, 2) := by decide +kernel
theorem dd_U_countMerges_122 : decode b_U_countMerges 122 = .ok (.iadd, 1) := by decide +kernel
theorem dd_U_countMerges_123 : decode b_U_countMerges 123 = .ok (.putfield 33, 3) := by decide +kernel
theorem dd_U_countMerges_126 : decode b_U_countMerges 126 = .ok (.goto (-92), 3) := by decide +kernel
theorem dd_U_countMerges_129 : decode b_U_countMerges 129 = .ok (.return_, 1) := by decide +kernel
theorem dd_T_init_0 : decode b_T_init 0 = .ok (.aload_n 0, 1) := by decide +kernel
theorem dd_T_init_1 : decode b_T_init 1 = .ok (.invokespecial 3, 3) := by decide +kernel
theorem dd_T_init_4 : decode b_T_init 4 = .ok (.aload_n 0, 1) := by decide +kernel
theorem dd_T_init_5 : decode b_T_init 5 = .ok (.sipush 640, 3) := by decide +kernel
theorem dd_T_init_8 : decode b_T_init 8 = .ok (.newarray .byte, 2) := by decide +kernel
theorem dd_T_init_10 : decode b_T_init 10 = .ok (.putfield 11, 3) := by decide +kernel
theorem dd_T_init_13 : decode b_T_init 13 = .ok (.aload_n 0, 1) := by decide +kernel
theorem dd_T_init_14 : decode b_T_init 14 = .ok (.iconst 0, 1) := by decide +kernel
theorem dd_T_init_15 : decode b_T_init 15 = .ok (.putfield 15, 3) := by decide +kernel
theorem dd_T_init_18 : decode b_T_init 18 = .ok (.aload_n 0, 1) := by decide +kernel
theorem dd_T_init_19 : decode b_T_init 19 = .ok (.sipush 640, 3) := by decide +kernel
theorem dd_T_init_22 : decode b_T_init 22 = .ok (.newarray .int, 2) := by decide +kernel
theorem dd_T_init_24 : decode b_T_init 24 = .ok (.putfield 19, 3) := by decide +kernel
theorem dd_T_init_27 : decode b_T_init 27 = .ok (.aload_n 0, 1) := by decide +kernel
theorem dd_T_init_28 : decode b_T_init 28 = .ok (.iconst 0, 1) := by decide +kernel
theorem dd_T_init_29 : decode b_T_init 29 = .ok (.putfield 23, 3) := by decide +kernel
theorem dd_T_init_32 : decode b_T_init 32 = .ok (.return_, 1) := by decide +kernel
