theorem dd_M_numbers_0 : decode b_M_numbers 0 = .ok (.aload_n 0, 1) := by decide +kernel
theorem dd_M_numbers_1 : decode b_M_numbers 1 = .ok (.iload_n 1, 1) := by decide +kernel
theorem dd_M_numbers_2 : decode b_M_numbers 2 = .ok (.iload_n 2, 1) := by decide +kernel
theorem dd_M_numbers_3 : decode b_M_numbers 3 = .ok (.invokevirtual 162, 3) := by decide +kernel
theorem dd_M_numbers_6 : decode b_M_numbers 6 = .ok (.istore 5, 2) := by decide +kernel
theorem dd_M_numbers_8 : decode b_M_numbers 8 = .ok (.aload_n 0, 1) := by decide +kernel
theorem dd_M_numbers_9 : decode b_M_numbers 9 = .ok (.iload_n 3, 1) := by decide +kernel
theorem dd_M_numbers_10 : decode b_M_numbers 10 = .ok (.iload 4, 2) := by decide +kernel
theorem dd_M_numbers_12 : decode b_M_numbers 12 = .ok (.invokevirtual 162, 3) := by decide +kernel
theorem dd_M_numbers_15 : decode b_M_numbers 15 = .ok (.istore 6, 2) := by decide +kernel
theorem dd_M_numbers_17 : decode b_M_numbers 17 = .ok (.iload 5, 2) := by decide +kernel
theorem dd_M_numbers_19 : decode b_M_numbers 19 = .ok (.iload 6, 2) := by decide +kernel
theorem dd_M_numbers_21 : decode b_M_numbers 21 = .ok (.if_icmp .eq 16, 3) := by decide +kernel
theorem dd_M_numbers_24 : decode b_M_numbers 24 = .ok (.iload 5, 2) := by decide +kernel
theorem dd_M_numbers_26 : decode b_M_numbers 26 = .ok (.iload 6, 2) := by decide +kernel
theorem dd_M_numbers_28 : decode b_M_numbers 28 = .ok (.if_icmp .ge 7, 3) := by decide +kernel
theorem dd_M_numbers_31 : decode b_M_numbers 31 = .ok (.iconst (-1), 1) := by decide +kernel
theorem dd_M_numbers_32 : decode b_M_numbers 32 = .ok (.goto 4, 3) := by decide +kernel
theorem dd_M_numbers_35 : decode b_M_numbers 35 = .ok (.iconst 1, 1) := by decide +kernel
theorem dd_M_numbers_36 : decode b_M_numbers 36 = .ok (.ireturn, 1) := by decide +kernel
theorem dd_M_numbers_37 : decode b_M_numbers 37 = .ok (.iload 5, 2) := by decide +kernel
theorem dd_M_numbers_39 : decode b_M_numbers 39 = .ok (.ifCond .ne 7, 3) := by decide +kernel
theorem dd_M_numbers_42 : decode b_M_numbers 42 = .ok (.iconst 0, 1) := by decide +kernel
theorem dd_M_numbers_43 : decode b_M_numbers 43 = .ok (.goto 26, 3) := by decide +kernel
theorem dd_M_numbers_46 : decode b_M_numbers 46 = .ok (.iload 5, 2) := by decide +kernel
theorem dd_M_numbers_48 : decode b_M_numbers 48 = .ok (.aload_n 0, 1) := by decide +kernel
theorem dd_M_numbers_49 : decode b_M_numbers 49 = .ok (.aload_n 0, 1) := by decide +kernel
theorem dd_M_numbers_50 : decode b_M_numbers 50 = .ok (.iload_n 1, 1) := by decide +kernel
theorem dd_M_numbers_51 : decode b_M_numbers 51 = .ok (.iload_n 2, 1) := by decide +kernel
theorem dd_M_numbers_52 : decode b_M_numbers 52 = .ok (.invokevirtual 156, 3) := by decide +kernel
theorem dd_M_numbers_55 : decode b_M_numbers 55 = .ok (.iload_n 2, 1) := by decide +kernel
theorem dd_M_numbers_56 : decode b_M_numbers 56 = .ok (.aload_n 0, 1) := by decide +kernel
theorem dd_M_numbers_57 : decode b_M_numbers 57 = .ok (.iload_n 3, 1) := by decide +kernel
theorem dd_M_numbers_58 : decode b_M_numbers 58 = .ok (.iload 4, 2) := by decide +kernel
theorem dd_M_numbers_60 : decode b_M_numbers 60 = .ok (.invokevirtual 156, 3) := by decide +kernel
theorem dd_M_numbers_63 : decode b_M_numbers 63 = .ok (.iload 4, 2) := by decide +kernel
theorem dd_M_numbers_65 : decode b_M_numbers 65 = .ok (.invokevirtual 165, 3) := by decide +kernel
theorem dd_M_numbers_68 : decode b_M_numbers 68 = .ok (.imul, 1) := by decide +kernel
theorem dd_M_numbers_69 : decode b_M_numbers 69 = .ok (.ireturn, 1) := by decide +kernel
theorem dd_M_byKeys_0 : decode b_M_byKeys 0 = .ok (.iconst 0, 1) := by decide +kernel
theorem dd_M_byKeys_1 : decode b_M_byKeys 1 = .ok (.istore_n 3, 1) := by decide +kernel
theorem dd_M_byKeys_2 : decode b_M_byKeys 2 = .ok (.iload_n 3, 1) := by decide +kernel
theorem dd_M_byKeys_3 : decode b_M_byKeys 3 = .ok (.aload_n 0, 1) := by decide +kernel
theorem dd_M_byKeys_4 : decode b_M_byKeys 4 = .ok (.invokevirtual 168, 3) := by decide +kernel
theorem dd_M_byKeys_7 : decode b_M_byKeys 7 = .ok (.if_icmp .ge 110, 3) := by decide +kernel
theorem dd_M_byKeys_10 : decode b_M_byKeys 10 = .ok (.aload_n 0, 1) := by decide +kernel
theorem dd_M_byKeys_11 : decode b_M_byKeys 11 = .ok (.iload_n 3, 1) := by decide +kernel
theorem dd_M_byKeys_12 : decode b_M_byKeys 12 = .ok (.iconst 4, 1) := by decide +kernel
theorem dd_M_byKeys_13 : decode b_M_byKeys 13 = .ok (.invokevirtual 114, 3) := by decide +kernel
theorem dd_M_byKeys_16 : decode b_M_byKeys 16 = .ok (.istore 4, 2) := by decide +kernel
theorem dd_M_byKeys_18 : decode b_M_byKeys 18 = .ok (.aload_n 0, 1) := by decide +kernel
theorem dd_M_byKeys_19 : decode b_M_byKeys 19 = .ok (.iload_n 1, 1) := by decide +kernel
theorem dd_M_byKeys_20 : decode b_M_byKeys 20 = .ok (.iload_n 3, 1) := by decide +kernel
theorem dd_M_byKeys_21 : decode b_M_byKeys 21 = .ok (.invokevirtual 172, 3) := by decide +kernel
theorem dd_M_byKeys_24 : decode b_M_byKeys 24 = .ok (.istore 5, 2) := by decide +kernel
theorem dd_M_byKeys_26 : decode b_M_byKeys 26 = .ok (.aload_n 0, 1) := by decide +kernel
theorem dd_M_byKeys_27 : decode b_M_byKeys 27 = .ok (.iload_n 2, 1) := by decide +kernel
theorem dd_M_byKeys_28 : decode b_M_byKeys 28 = .ok (.iload_n 3, 1) := by decide +kernel
theorem dd_M_byKeys_29 : decode b_M_byKeys 29 = .ok (.invokevirtual 172, 3) := by decide +kernel
theorem dd_M_byKeys_32 : decode b_M_byKeys 32 = .ok (.istore 6, 2) := by decide +kernel
theorem dd_M_byKeys_34 : decode b_M_byKeys 34 = .ok (.iload 4, 2) := by decide +kernel
theorem dd_M_byKeys_36 : decode b_M_byKeys 36 = .ok (.bipush 16, 2) := by decide +kernel
theorem dd_M_byKeys_38 : decode b_M_byKeys 38 = .ok (.iand, 1) := by decide +kernel
theorem dd_M_byKeys_39 : decode b_M_byKeys 39 = .ok (.ifCond .le 26, 3) := by decide +kernel
theorem dd_M_byKeys_42 : decode b_M_byKeys 42 = .ok (.aload_n 0, 1) := by decide +kernel
theorem dd_M_byKeys_43 : decode b_M_byKeys 43 = .ok (.iload 5, 2) := by decide +kernel
theorem dd_M_byKeys_45 : decode b_M_byKeys 45 = .ok (.aload_n 0, 1) := by decide +kernel
theorem dd_M_byKeys_46 : decode b_M_byKeys 46 = .ok (.iload_n 1, 1) := by decide +kernel
theorem dd_M_byKeys_47 : decode b_M_byKeys 47 = .ok (.iload_n 3, 1) := by decide +kernel
theorem dd_M_byKeys_48 : decode b_M_byKeys 48 = .ok (.invokevirtual 175, 3) := by decide +kernel
theorem dd_M_byKeys_51 : decode b_M_byKeys 51 = .ok (.iload 6, 2) := by decide +kernel
theorem dd_M_byKeys_53 : decode b_M_byKeys 53 = .ok (.aload_n 0, 1) := by decide +kernel
theorem dd_M_byKeys_54 : decode b_M_byKeys 54 = .ok (.iload_n 2, 1) := by decide +kernel
theorem dd_M_byKeys_55 : decode b_M_byKeys 55 = .ok (.iload_n 3, 1) := by decide +kernel
theorem dd_M_byKeys_56 : decode b_M_byKeys 56 = .ok (.invokevirtual 175, 3) := by decide +kernel
theorem dd_M_byKeys_59 : decode b_M_byKeys 59 = .ok (.invokevirtual 178, 3) := by decide +kernel
theorem dd_M_byKeys_62 : decode b_M_byKeys 62 = .ok (.goto 25, 3) := by decide +kernel
theorem dd_M_byKeys_65 : decode b_M_byKeys 65 = .ok (.aload_n 0, 1) := by decide +kernel
theorem dd_M_byKeys_66 : decode b_M_byKeys 66 = .ok (.iload 5, 2) := by decide +kernel
theorem dd_M_byKeys_68 : decode b_M_byKeys 68 = .ok (.aload_n 0, 1) := by decide +kernel
theorem dd_M_byKeys_69 : decode b_M_byKeys 69 = .ok (.iload_n 1, 1) := by decide +kernel
theorem dd_M_byKeys_70 : decode b_M_byKeys 70 = .ok (.iload_n 3, 1) := by decide +kernel
theorem dd_M_byKeys_71 : decode b_M_byKeys 71 = .ok (.invokevirtual 175, 3) := by decide +kernel
theorem dd_M_byKeys_74 : decode b_M_byKeys 74 = .ok (.iload 6, 2) := by decide +kernel
theorem dd_M_byKeys_76 : decode b_M_byKeys 76 = .ok (.aload_n 0, 1) := by decide +kernel
theorem dd_M_byKeys_77 : decode b_M_byKeys 77 = .ok (.iload_n 2, 1) := by decide +kernel
theorem dd_M_byKeys_78 : decode b_M_byKeys 78 = .ok (.iload_n 3, 1) := by decide +kernel
theorem dd_M_byKeys_79 : decode b_M_byKeys 79 = .ok (.invokevirtual 175, 3) := by decide +kernel
theorem dd_M_byKeys_82 : decode b_M_byKeys 82 = .ok (.iload 4, 2) := by decide +kernel
theorem dd_M_byKeys_84 : decode b_M_byKeys 84 = .ok (.invokevirtual 181, 3) := by decide +kernel
theorem dd_M_byKeys_87 : decode b_M_byKeys 87 = .ok (.istore 7, 2) := by decide +kernel
theorem dd_M_byKeys_89 : decode b_M_byKeys 89 = .ok (.iload 7, 2) := by decide +kernel
theorem dd_M_byKeys_91 : decode b_M_byKeys 91 = .ok (.ifCond .eq 20, 3) := by decide +kernel
theorem dd_M_byKeys_94 : decode b_M_byKeys 94 = .ok (.iload 4, 2) := by decide +kernel
theorem dd_M_byKeys_96 : decode b_M_byKeys 96 = .ok (.bipush 32, 2) := by decide +kernel
theorem dd_M_byKeys_98 : decode b_M_byKeys 98 = .ok (.iand, 1) := by decide +kernel
theorem dd_M_byKeys_99 : decode b_M_byKeys 99 = .ok (.ifCond .le 9, 3) := by decide +kernel
theorem dd_M_byKeys_102 : decode b_M_byKeys 102 = .ok (.iload 7, 2) := by decide +kernel
theorem dd_M_byKeys_104 : decode b_M_byKeys 104 = .ok (.ineg, 1) := by decide +kernel
theorem dd_M_byKeys_105 : decode b_M_byKeys 105 = .ok (.goto 5, 3) := by decide +kernel
theorem dd_M_byKeys_108 : decode b_M_byKeys 108 = .ok (.iload 7, 2) := by decide +kernel
theorem dd_M_byKeys_110 : decode b_M_byKeys 110 = .ok (.ireturn, 1) := by decide +kernel
theorem dd_M_byKeys_111 : decode b_M_byKeys 111 = .ok (.iinc 3 1, 3) := by decide +kernel
theorem dd_M_byKeys_114 : decode b_M_byKeys 114 = .ok (.goto (-112), 3) := by decide +kernel
theorem dd_M_byKeys_117 : decode b_M_byKeys 117 = .ok (.iconst 0, 1) := by decide +kernel
theorem dd_M_byKeys_118 : decode b_M_byKeys 118 = .ok (.ireturn, 1) := by decide +kernel
theorem dd_M_byAll_0 : decode b_M_byAll 0 = .ok (.aload_n 0, 1) := by decide +kernel
theorem dd_M_byAll_1 : decode b_M_byAll 1 = .ok (.iload_n 1, 1) := by decide +kernel
theorem dd_M_byAll_2 : decode b_M_byAll 2 = .ok (.iload_n 2, 1) := by decide +kernel
theorem dd_M_byAll_3 : decode b_M_byAll 3 = .ok (.invokevirtual 185, 3) := by decide +kernel
theorem dd_M_byAll_6 : decode b_M_byAll 6 = .ok (.istore_n 3, 1) := by decide +kernel
theorem dd_M_byAll_7 : decode b_M_byAll 7 = .ok (.iload_n 3, 1) := by decide +kernel
theorem dd_M_byAll_8 : decode b_M_byAll 8 = .ok (.ifCond .ne 17, 3) := by decide +kernel
theorem dd_M_byAll_11 : decode b_M_byAll 11 = .ok (.aload_n 0, 1) := by decide +kernel
theorem dd_M_byAll_12 : decode b_M_byAll 12 = .ok (.getfield 88, 3) := by decide +kernel
theorem dd_M_byAll_15 : decode b_M_byAll 15 = .ok (.ifCond .ne 10, 3) := by decide +kernel
theorem dd_M_byAll_18 : decode b_M_byAll 18 = .ok (.aload_n 0, 1) := by decide +kernel
theorem dd_M_byAll_19 : decode b_M_byAll 19 = .ok (.getfield 91, 3) := by decide +kernel
theorem dd_M_byAll_22 : decode b_M_byAll 22 = .ok (.ifCond .eq 5, 3) := by decide +kernel
theorem dd_M_byAll_25 : decode b_M_byAll 25 = .ok (.iload_n 3, 1) := by decide +kernel
theorem dd_M_byAll_26 : decode b_M_byAll 26 = .ok (.ireturn, 1) := by decide +kernel
theorem dd_M_byAll_27 : decode b_M_byAll 27 = .ok (.aload_n 0, 1) := by decide +kernel
theorem dd_M_byAll_28 : decode b_M_byAll 28 = .ok (.aload_n 0, 1) := by decide +kernel
theorem dd_M_byAll_29 : decode b_M_byAll 29 = .ok (.iload_n 1, 1) := by decide +kernel
theorem dd_M_byAll_30 : decode b_M_byAll 30 = .ok (.invokevirtual 101, 3) := by decide +kernel
theorem dd_M_byAll_33 : decode b_M_byAll 33 = .ok (.aload_n 0, 1) := by decide +kernel
theorem dd_M_byAll_34 : decode b_M_byAll 34 = .ok (.iload_n 1, 1) := by decide +kernel
theorem dd_M_byAll_35 : decode b_M_byAll 35 = .ok (.invokevirtual 97, 3) := by decide +kernel
theorem dd_M_byAll_38 : decode b_M_byAll 38 = .ok (.aload_n 0, 1) := by decide +kernel
theorem dd_M_byAll_39 : decode b_M_byAll 39 = .ok (.iload_n 2, 1) := by decide +kernel
theorem dd_M_byAll_40 : decode b_M_byAll 40 = .ok (.invokevirtual 101, 3) := by decide +kernel
theorem dd_M_byAll_43 : decode b_M_byAll 43 = .ok (.aload_n 0, 1) := by decide +kernel
theorem dd_M_byAll_44 : decode b_M_byAll 44 = .ok (.iload_n 2, 1) := by decide +kernel
theorem dd_M_byAll_45 : decode b_M_byAll 45 = .ok (.invokevirtual 97, 3) := by decide +kernel
theorem dd_M_byAll_48 : decode b_M_byAll 48 = .ok (.iconst 0, 1) := by decide +kernel
theorem dd_M_byAll_49 : decode b_M_byAll 49 = .ok (.invokevirtual 181, 3) := by decide +kernel
theorem dd_M_byAll_52 : decode b_M_byAll 52 = .ok (.istore 4, 2) := by decide +kernel
theorem dd_M_byAll_54 : decode b_M_byAll 54 = .ok (.aload_n 0, 1) := by decide +kernel
theorem dd_M_byAll_55 : decode b_M_byAll 55 = .ok (.getfield 85, 3) := by decide +kernel
theorem dd_M_byAll_58 : decode b_M_byAll 58 = .ok (.bipush 32, 2) := by decide +kernel
theorem dd_M_byAll_60 : decode b_M_byAll 60 = .ok (.iand, 1) := by decide +kernel
theorem dd_M_byAll_61 : decode b_M_byAll 61 = .ok (.ifCond .le 9, 3) := by decide +kernel
theorem dd_M_byAll_64 : decode b_M_byAll 64 = .ok (.iload 4, 2) := by decide +kernel
theorem dd_M_byAll_66 : decode b_M_byAll 66 = .ok (.ineg, 1) := by decide +kernel
theorem dd_M_byAll_67 : decode b_M_byAll 67 = .ok (.goto 5, 3) := by decide +kernel
theorem dd_M_byAll_70 : decode b_M_byAll 70 = .ok (.iload 4, 2) := by decide +kernel
theorem dd_M_byAll_72 : decode b_M_byAll 72 = .ok (.ireturn, 1) := by decide +kernel
theorem dd_M_isBefore_0 : decode b_M_isBefore 0 = .ok (.aload_n 0, 1) := by decide +kernel
theorem dd_M_isBefore_1 : decode b_M_isBefore 1 = .ok (.iload_n 1, 1) := by decide +kernel
theorem dd_M_isBefore_2 : decode b_M_isBefore 2 = .ok (.iload_n 2, 1) := by decide +kernel
theorem dd_M_isBefore_3 : decode b_M_isBefore 3 = .ok (.invokevirtual 188, 3) := by decide +kernel
theorem dd_M_isBefore_6 : decode b_M_isBefore 6 = .ok (.istore_n 3, 1) := by decide +kernel
theorem dd_M_isBefore_7 : decode b_M_isBefore 7 = .ok (.iload_n 3, 1) := by decide +kernel
theorem dd_M_isBefore_8 : decode b_M_isBefore 8 = .ok (.ifCond .lt 12, 3) := by decide +kernel
theorem dd_M_isBefore_11 : decode b_M_isBefore 11 = .ok (.iload_n 3, 1) := by decide +kernel
theorem dd_M_isBefore_12 : decode b_M_isBefore 12 = .ok (.ifCond .ne 12, 3) := by decide +kernel
theorem dd_M_isBefore_15 : decode b_M_isBefore 15 = .ok (.iload_n 1, 1) := by decide +kernel
theorem dd_M_isBefore_16 : decode b_M_isBefore 16 = .ok (.iload_n 2, 1) := by decide +kernel
theorem dd_M_isBefore_17 : decode b_M_isBefore 17 = .ok (.if_icmp .ge 7, 3) := by decide +kernel
theorem dd_M_isBefore_20 : decode b_M_isBefore 20 = .ok (.iconst 1, 1) := by decide +kernel
theorem dd_M_isBefore_21 : decode b_M_isBefore 21 = .ok (.goto 4, 3) := by decide +kernel
theorem dd_M_isBefore_24 : decode b_M_isBefore 24 = .ok (.iconst 0, 1) := by decide +kernel
theorem dd_M_isBefore_25 : decode b_M_isBefore 25 = .ok (.ireturn, 1) := by decide +kernel
theorem dd_M_lines_0 : decode b_M_lines 0 = .ok (.aload_n 0, 1) := by decide +kernel
theorem dd_M_lines_1 : decode b_M_lines 1 = .ok (.iconst 0, 1) := by decide +kernel
theorem dd_M_lines_2 : decode b_M_lines 2 = .ok (.putfield 57, 3) := by decide +kernel
theorem dd_M_lines_5 : decode b_M_lines 5 = .ok (.aload_n 0, 1) := by decide +kernel
theorem dd_M_lines_6 : decode b_M_lines 6 = .ok (.invokevirtual 191, 3) := by decide +kernel
theorem dd_M_lines_9 : decode b_M_lines 9 = .ok (.aload_n 0, 1) := by decide +kernel
theorem dd_M_lines_10 : decode b_M_lines 10 = .ok (.getfield 78, 3) := by decide +kernel
theorem dd_M_lines_13 : decode b_M_lines 13 = .ok (.ireturn, 1) := by decide +kernel
theorem dd_M_place_0 : decode b_M_place 0 = .ok (.aload_n 0, 1) := by decide +kernel
theorem dd_M_place_1 : decode b_M_place 1 = .ok (.invokevirtual 191, 3) := by decide +kernel
theorem dd_M_place_4 : decode b_M_place 4 = .ok (.aload_n 0, 1) := by decide +kernel
theorem dd_M_place_5 : decode b_M_place 5 = .ok (.iload_n 1, 1) := by decide +kernel
theorem dd_M_place_6 : decode b_M_place 6 = .ok (.ifCond .lt 23, 3) := by decide +kernel
theorem dd_M_place_9 : decode b_M_place 9 = .ok (.iload_n 1, 1) := by decide +kernel
theorem dd_M_place_10 : decode b_M_place 10 = .ok (.aload_n 0, 1) := by decide +kernel
theorem dd_M_place_11 : decode b_M_place 11 = .ok (.getfield 78, 3) := by decide +kernel
theorem dd_M_place_14 : decode b_M_place 14 = .ok (.if_icmp .ge 15, 3) := by decide +kernel
theorem dd_M_place_17 : decode b_M_place 17 = .ok (.iload_n 2, 1) := by decide +kernel
theorem dd_M_place_18 : decode b_M_place 18 = .ok (.ifCond .lt 11, 3) := by decide +kernel
theorem dd_M_place_21 : decode b_M_place 21 = .ok (.iload_n 2, 1) := by decide +kernel
theorem dd_M_place_22 : decode b_M_place 22 = .ok (.aload_n 0, 1) := by decide +kernel
theorem dd_M_place_23 : decode b_M_place 23 = .ok (.invokevirtual 168, 3) := by decide +kernel
theorem dd_M_place_26 : decode b_M_place 26 = .ok (.if_icmp .lt 7, 3) := by decide +kernel
theorem dd_M_place_29 : decode b_M_place 29 = .ok (.iconst 1, 1) := by decide +kernel
theorem dd_M_place_30 : decode b_M_place 30 = .ok (.goto 4, 3) := by decide +kernel
theorem dd_M_place_33 : decode b_M_place 33 = .ok (.iconst 0, 1) := by decide +kernel
theorem dd_M_place_34 : decode b_M_place 34 = .ok (.iconst 1, 1) := by decide +kernel
theorem dd_M_place_35 : decode b_M_place 35 = .ok (.invokevirtual 70, 3) := by decide +kernel
theorem dd_M_place_38 : decode b_M_place 38 = .ok (.ifCond .eq 5, 3) := by decide +kernel
theorem dd_M_place_41 : decode b_M_place 41 = .ok (.iconst 0, 1) := by decide +kernel
theorem dd_M_place_42 : decode b_M_place 42 = .ok (.ireturn, 1) := by decide +kernel
theorem dd_M_place_43 : decode b_M_place 43 = .ok (.iload_n 3, 1) := by decide +kernel
theorem dd_M_place_44 : decode b_M_place 44 = .ok (.ifCond .eq 12, 3) := by decide +kernel
theorem dd_M_place_47 : decode b_M_place 47 = .ok (.aload_n 0, 1) := by decide +kernel
theorem dd_M_place_48 : decode b_M_place 48 = .ok (.iload_n 1, 1) := by decide +kernel
theorem dd_M_place_49 : decode b_M_place 49 = .ok (.iload_n 2, 1) := by decide +kernel
theorem dd_M_place_50 : decode b_M_place 50 = .ok (.invokevirtual 132, 3) := by decide +kernel
theorem dd_M_place_53 : decode b_M_place 53 = .ok (.goto 9, 3) := by decide +kernel
theorem dd_M_place_56 : decode b_M_place 56 = .ok (.aload_n 0, 1) := by decide +kernel
theorem dd_M_place_57 : decode b_M_place 57 = .ok (.iload_n 1, 1) := by decide +kernel
theorem dd_M_place_58 : decode b_M_place 58 = .ok (.iload_n 2, 1) := by decide +kernel
theorem dd_M_place_59 : decode b_M_place 59 = .ok (.invokevirtual 129, 3) := by decide +kernel
theorem dd_M_place_62 : decode b_M_place 62 = .ok (.aload_n 0, 1) := by decide +kernel
theorem dd_M_place_63 : decode b_M_place 63 = .ok (.iload_n 1, 1) := by decide +kernel
theorem dd_M_place_64 : decode b_M_place 64 = .ok (.invokevirtual 101, 3) := by decide +kernel
theorem dd_M_place_67 : decode b_M_place 67 = .ok (.isub, 1) := by decide +kernel
theorem dd_M_place_68 : decode b_M_place 68 = .ok (.ireturn, 1) := by decide +kernel
theorem dd_M_compare_0 : decode b_M_compare 0 = .ok (.aload_n 0, 1) := by decide +kernel
theorem dd_M_compare_1 : decode b_M_compare 1 = .ok (.invokevirtual 191, 3) := by decide +kernel
theorem dd_M_compare_4 : decode b_M_compare 4 = .ok (.aload_n 0, 1) := by decide +kernel
theorem dd_M_compare_5 : decode b_M_compare 5 = .ok (.iload_n 1, 1) := by decide +kernel
theorem dd_M_compare_6 : decode b_M_compare 6 = .ok (.ifCond .lt 23, 3) := by decide +kernel
theorem dd_M_compare_9 : decode b_M_compare 9 = .ok (.iload_n 1, 1) := by decide +kernel
theorem dd_M_compare_10 : decode b_M_compare 10 = .ok (.aload_n 0, 1) := by decide +kernel
theorem dd_M_compare_11 : decode b_M_compare 11 = .ok (.getfield 78, 3) := by decide +kernel
theorem dd_M_compare_14 : decode b_M_compare 14 = .ok (.if_icmp .ge 15, 3) := by decide +kernel
theorem dd_M_compare_17 : decode b_M_compare 17 = .ok (.iload_n 2, 1) := by decide +kernel
theorem dd_M_compare_18 : decode b_M_compare 18 = .ok (.ifCond .lt 11, 3) := by decide +kernel
theorem dd_M_compare_21 : decode b_M_compare 21 = .ok (.iload_n 2, 1) := by decide +kernel
theorem dd_M_compare_22 : decode b_M_compare 22 = .ok (.aload_n 0, 1) := by decide +kernel
theorem dd_M_compare_23 : decode b_M_compare 23 = .ok (.getfield 78, 3) := by decide +kernel
theorem dd_M_compare_26 : decode b_M_compare 26 = .ok (.if_icmp .lt 7, 3) := by decide +kernel
theorem dd_M_compare_29 : decode b_M_compare 29 = .ok (.iconst 1, 1) := by decide +kernel
theorem dd_M_compare_30 : decode b_M_compare 30 = .ok (.goto 4, 3) := by decide +kernel
theorem dd_M_compare_33 : decode b_M_compare 33 = .ok (.iconst 0, 1) := by decide +kernel
theorem dd_M_compare_34 : decode b_M_compare 34 = .ok (.iconst 1, 1) := by decide +kernel
theorem dd_M_compare_35 : decode b_M_compare 35 = .ok (.invokevirtual 70, 3) := by decide +kernel
theorem dd_M_compare_38 : decode b_M_compare 38 = .ok (.ifCond .eq 5, 3) := by decide +kernel
theorem dd_M_compare_41 : decode b_M_compare 41 = .ok (.iconst 0, 1) := by decide +kernel
theorem dd_M_compare_42 : decode b_M_compare 42 = .ok (.ireturn, 1) := by decide +kernel
theorem dd_M_compare_43 : decode b_M_compare 43 = .ok (.aload_n 0, 1) := by decide +kernel
theorem dd_M_compare_44 : decode b_M_compare 44 = .ok (.iload_n 1, 1) := by decide +kernel
theorem dd_M_compare_45 : decode b_M_compare 45 = .ok (.iload_n 2, 1) := by decide +kernel
theorem dd_M_compare_46 : decode b_M_compare 46 = .ok (.invokevirtual 185, 3) := by decide +kernel
theorem dd_M_compare_49 : decode b_M_compare 49 = .ok (.ireturn, 1) := by decide +kernel
theorem dd_M_hold_0 : decode b_M_hold 0 = .ok (.iconst 0, 1) := by decide +kernel
theorem dd_M_hold_1 : decode b_M_hold 1 = .ok (.istore_n 1, 1) := by decide +kernel
theorem dd_M_hold_2 : decode b_M_hold 2 = .ok (.iload_n 1, 1) := by decide +kernel
theorem dd_M_hold_3 : decode b_M_hold 3 = .ok (.aload_n 0, 1) := by decide +kernel
theorem dd_M_hold_4 : decode b_M_hold 4 = .ok (.getfield 78, 3) := by decide +kernel
theorem dd_M_hold_7 : decode b_M_hold 7 = .ok (.if_icmp .ge 59, 3) := by decide +kernel
theorem dd_M_hold_10 : decode b_M_hold 10 = .ok (.iconst 0, 1) := by decide +kernel
theorem dd_M_hold_11 : decode b_M_hold 11 = .ok (.istore_n 2, 1) := by decide +kernel
theorem dd_M_hold_12 : decode b_M_hold 12 = .ok (.iload_n 2, 1) := by decide +kernel
theorem dd_M_hold_13 : decode b_M_hold 13 = .ok (.aload_n 0, 1) := by decide +kernel
theorem dd_M_hold_14 : decode b_M_hold 14 = .ok (.invokevirtual 168, 3) := by decide +kernel
theorem dd_M_hold_17 : decode b_M_hold 17 = .ok (.if_icmp .ge 43, 3) := by decide +kernel
theorem dd_M_hold_20 : decode b_M_hold 20 = .ok (.aload_n 0, 1) := by decide +kernel
theorem dd_M_hold_21 : decode b_M_hold 21 = .ok (.getfield 30, 3) := by decide +kernel
theorem dd_M_hold_24 : decode b_M_hold 24 = .ok (.bipush 6, 2) := by decide +kernel
theorem dd_M_hold_26 : decode b_M_hold 26 = .ok (.iload_n 1, 1) := by decide +kernel
theorem dd_M_hold_27 : decode b_M_hold 27 = .ok (.imul, 1) := by decide +kernel
theorem dd_M_hold_28 : decode b_M_hold 28 = .ok (.iload_n 2, 1) := by decide +kernel
theorem dd_M_hold_29 : decode b_M_hold 29 = .ok (.iadd, 1) := by decide +kernel
theorem dd_M_hold_30 : decode b_M_hold 30 = .ok (.aload_n 0, 1) := by decide +kernel
theorem dd_M_hold_31 : decode b_M_hold 31 = .ok (.iload_n 1, 1) := by decide +kernel
theorem dd_M_hold_32 : decode b_M_hold 32 = .ok (.iload_n 2, 1) := by decide +kernel
theorem dd_M_hold_33 : decode b_M_hold 33 = .ok (.invokevirtual 129, 3) := by decide +kernel
theorem dd_M_hold_36 : decode b_M_hold 36 = .ok (.iastore, 1) := by decide +kernel
theorem dd_M_hold_37 : decode b_M_hold 37 = .ok (.aload_n 0, 1) := by decide +kernel
theorem dd_M_hold_38 : decode b_M_hold 38 = .ok (.getfield 33, 3) := by decide +kernel
theorem dd_M_hold_41 : decode b_M_hold 41 = .ok (.bipush 6, 2) := by decide +kernel
theorem dd_M_hold_43 : decode b_M_hold 43 = .ok (.iload_n 1, 1) := by decide +kernel
theorem dd_M_hold_44 : decode b_M_hold 44 = .ok (.imul, 1) := by decide +kernel
theorem dd_M_hold_45 : decode b_M_hold 45 = .ok (.iload_n 2, 1) := by decide +kernel
theorem dd_M_hold_46 : decode b_M_hold 46 = .ok (.iadd, 1) := by decide +kernel
theorem dd_M_hold_47 : decode b_M_hold 47 = .ok (.aload_n 0, 1) := by decide +kernel
theorem dd_M_hold_48 : decode b_M_hold 48 = .ok (.iload_n 1, 1) := by decide +kernel
theorem dd_M_hold_49 : decode b_M_hold 49 = .ok (.iload_n 2, 1) := by decide +kernel
theorem dd_M_hold_50 : decode b_M_hold 50 = .ok (.invokevirtual 132, 3) := by decide +kernel
theorem dd_M_hold_53 : decode b_M_hold 53 = .ok (.iastore, 1) := by decide +kernel
theorem dd_M_hold_54 : decode b_M_hold 54 = .ok (.iinc 2 1, 3) := by decide +kernel
theorem dd_M_hold_57 : decode b_M_hold 57 = .ok (.goto (-45), 3) := by decide +kernel
theorem dd_M_hold_60 : decode b_M_hold 60 = .ok (.iinc 1 1, 3) := by decide +kernel
theorem dd_M_hold_63 : decode b_M_hold 63 = .ok (.goto (-61), 3) := by decide +kernel
theorem dd_M_hold_66 : decode b_M_hold 66 = .ok (.aload_n 0, 1) := by decide +kernel
theorem dd_M_hold_67 : decode b_M_hold 67 = .ok (.iconst 1, 1) := by decide +kernel
theorem dd_M_hold_68 : decode b_M_hold 68 = .ok (.putfield 126, 3) := by decide +kernel
theorem dd_M_hold_71 : decode b_M_hold 71 = .ok (.return_, 1) := by decide +kernel
theorem dd_M_makeRuns_0 : decode b_M_makeRuns 0 = .ok (.iconst 0, 1) := by decide +kernel
theorem dd_M_makeRuns_1 : decode b_M_makeRuns 1 = .ok (.istore_n 1, 1) := by decide +kernel
theorem dd_M_makeRuns_2 : decode b_M_makeRuns 2 = .ok (.iconst 0, 1) := by decide +kernel
theorem dd_M_makeRuns_3 : decode b_M_makeRuns 3 = .ok (.istore_n 2, 1) := by decide +kernel
theorem dd_M_makeRuns_4 : decode b_M_makeRuns 4 = .ok (.aload_n 0, 1) := by decide +kernel
theorem dd_M_makeRuns_5 : decode b_M_makeRuns 5 = .ok (.iconst 0, 1) := by decide +kernel
theorem dd_M_makeRuns_6 : decode b_M_makeRuns 6 = .ok (.putfield 194, 3) := by decide +kernel
theorem dd_M_makeRuns_9 : decode b_M_makeRuns 9 = .ok (.iconst 0, 1) := by decide +kernel
theorem dd_M_makeRuns_10 : decode b_M_makeRuns 10 = .ok (.istore_n 3, 1) := by decide +kernel
theorem dd_M_makeRuns_11 : decode b_M_makeRuns 11 = .ok (.iload_n 1, 1) := by decide +kernel
theorem dd_M_makeRuns_12 : decode b_M_makeRuns 12 = .ok (.aload_n 0, 1) := by decide +kernel
theorem dd_M_makeRuns_13 : decode b_M_makeRuns 13 = .ok (.getfield 78, 3) := by decide +kernel
theorem dd_M_makeRuns_16 : decode b_M_makeRuns 16 = .ok (.if_icmp .ge 27, 3) := by decide +kernel
theorem dd_M_makeRuns_19 : decode b_M_makeRuns 19 = .ok (.iload_n 2, 1) := by decide +kernel
theorem dd_M_makeRuns_20 : decode b_M_makeRuns 20 = .ok (.aload_n 0, 1) := by decide +kernel
theorem dd_M_makeRuns_21 : decode b_M_makeRuns 21 = .ok (.getfield 24, 3) := by decide +kernel
theorem dd_M_makeRuns_24 : decode b_M_makeRuns 24 = .ok (.if_icmp .ge 19, 3) := by decide +kernel
theorem dd_M_makeRuns_27 : decode b_M_makeRuns 27 = .ok (.aload_n 0, 1) := by decide +kernel
theorem dd_M_makeRuns_28 : decode b_M_makeRuns 28 = .ok (.getfield 51, 3) := by decide +kernel
theorem dd_M_makeRuns_31 : decode b_M_makeRuns 31 = .ok (.iload_n 2, 1) := by decide +kernel
theorem dd_M_makeRuns_32 : decode b_M_makeRuns 32 = .ok (.iload_n 1, 1) := by decide +kernel
theorem dd_M_makeRuns_33 : decode b_M_makeRuns 33 = .ok (.iastore, 1) := by decide +kernel
theorem dd_M_makeRuns_34 : decode b_M_makeRuns 34 = .ok (.iinc 2 1, 3) := by decide +kernel
theorem dd_M_makeRuns_37 : decode b_M_makeRuns 37 = .ok (.iinc 1 1, 3) := by decide +kernel
theorem dd_M_makeRuns_40 : decode b_M_makeRuns 40 = .ok (.goto (-29), 3) := by decide +kernel
theorem dd_M_makeRuns_43 : decode b_M_makeRuns 43 = .ok (.iconst (-1), 1) := by decide +kernel
theorem dd_M_makeRuns_44 : decode b_M_makeRuns 44 = .ok (.istore 4, 2) := by decide +kernel
theorem dd_M_makeRuns_46 : decode b_M_makeRuns 46 = .ok (.iload_n 2, 1) := by decide +kernel
theorem dd_M_makeRuns_47 : decode b_M_makeRuns 47 = .ok (.ifCond .le 190, 3) := by decide +kernel
theorem dd_M_makeRuns_50 : decode b_M_makeRuns 50 = .ok (.iconst (-1), 1) := by decide +kernel
theorem dd_M_makeRuns_51 : decode b_M_makeRuns 51 = .ok (.istore 5, 2) := by decide +kernel
theorem dd_M_makeRuns_53 : decode b_M_makeRuns 53 = .ok (.iconst 0, 1) := by decide +kernel
theorem dd_M_makeRuns_54 : decode b_M_makeRuns 54 = .ok (.istore 6, 2) := by decide +kernel
theorem dd_M_makeRuns_56 : decode b_M_makeRuns 56 = .ok (.iload 6, 2) := by decide +kernel
theorem dd_M_makeRuns_58 : decode b_M_makeRuns 58 = .ok (.iload_n 2, 1) := by decide +kernel
theorem dd_M_makeRuns_59 : decode b_M_makeRuns 59 = .ok (.if_icmp .ge 64, 3) := by decide +kernel
theorem dd_M_makeRuns_62 : decode b_M_makeRuns 62 = .ok (.aload_n 0, 1) := by decide +kernel
theorem dd_M_makeRuns_63 : decode b_M_makeRuns 63 = .ok (.getfield 51, 3) := by decide +kernel
theorem dd_M_makeRuns_66 : decode b_M_makeRuns 66 = .ok (.iload 6, 2) := by decide +kernel
theorem dd_M_makeRuns_68 : decode b_M_makeRuns 68 = .ok (.iaload, 1) := by decide +kernel
theorem dd_M_makeRuns_69 : decode b_M_makeRuns 69 = .ok (.istore 7, 2) := by decide +kernel
theorem dd_M_makeRuns_71 : decode b_M_makeRuns 71 = .ok (.iload 4, 2) := by decide +kernel
theorem dd_M_makeRuns_73 : decode b_M_makeRuns 73 = .ok (.iconst (-1), 1) := by decide +kernel
theorem dd_M_makeRuns_74 : decode b_M_makeRuns 74 = .ok (.if_icmp .eq 17, 3) := by decide +kernel
theorem dd_M_makeRuns_77 : decode b_M_makeRuns 77 = .ok (.aload_n 0, 1) := by decide +kernel
theorem dd_M_makeRuns_78 : decode b_M_makeRuns 78 = .ok (.iload 7, 2) := by decide +kernel
theorem dd_M_makeRuns_80 : decode b_M_makeRuns 80 = .ok (.iload 4, 2) := by decide +kernel
theorem dd_M_makeRuns_82 : decode b_M_makeRuns 82 = .ok (.invokevirtual 197, 3) := by decide +kernel
theorem dd_M_makeRuns_85 : decode b_M_makeRuns 85 = .ok (.ifCond .eq 6, 3) := by decide +kernel
theorem dd_M_makeRuns_88 : decode b_M_makeRuns 88 = .ok (.goto 29, 3) := by decide +kernel
theorem dd_M_makeRuns_91 : decode b_M_makeRuns 91 = .ok (.iload 5, 2) := by decide +kernel
theorem dd_M_makeRuns_93 : decode b_M_makeRuns 93 = .ok (.iconst (-1), 1) := by decide +kernel
theorem dd_M_makeRuns_94 : decode b_M_makeRuns 94 = .ok (.if_icmp .eq 19, 3) := by decide +kernel
theorem dd_M_makeRuns_97 : decode b_M_makeRuns 97 = .ok (.aload_n 0, 1) := by decide +kernel
theorem dd_M_makeRuns_98 : decode b_M_makeRuns 98 = .ok (.iload 7, 2) := by decide +kernel
theorem dd_M_makeRuns_100 : decode b_M_makeRuns 100 = .ok (.aload_n 0, 1) := by decide +kernel
theorem dd_M_makeRuns_101 : decode b_M_makeRuns 101 = .ok (.getfield 51, 3) := by decide +kernel
theorem dd_M_makeRuns_104 : decode b_M_makeRuns 104 = .ok (.iload 5, 2) := by decide +kernel
theorem dd_M_makeRuns_106 : decode b_M_makeRuns 106 = .ok (.iaload, 1) := by decide +kernel
theorem dd_M_makeRuns_107 : decode b_M_makeRuns 107 = .ok (.invokevirtual 197, 3) := by decide +kernel
theorem dd_M_makeRuns_110 : decode b_M_makeRuns 110 = .ok (.ifCond .eq 7, 3) := by decide +kernel
theorem dd_M_makeRuns_113 : decode b_M_makeRuns 113 = .ok (.iload 6, 2) := by decide +kernel
theorem dd_M_makeRuns_115 : decode b_M_makeRuns 115 = .ok (.istore 5, 2) := by decide +kernel
theorem dd_M_makeRuns_117 : decode b_M_makeRuns 117 = .ok (.iinc 6 1, 3) := by decide +kernel
theorem dd_M_makeRuns_120 : decode b_M_makeRuns 120 = .ok (.goto (-64), 3) := by decide +kernel
theorem dd_M_makeRuns_123 : decode b_M_makeRuns 123 = .ok (.iload 5, 2) := by decide +kernel
theorem dd_M_makeRuns_125 : decode b_M_makeRuns 125 = .ok (.iconst (-1), 1) := by decide +kernel
theorem dd_M_makeRuns_126 : decode b_M_makeRuns 126 = .ok (.if_icmp .ne 9, 3) := by decide +kernel
theorem dd_M_makeRuns_129 : decode b_M_makeRuns 129 = .ok (.iconst (-1), 1) := by decide +kernel
theorem dd_M_makeRuns_130 : decode b_M_makeRuns 130 = .ok (.istore 4, 2) := by decide +kernel
theorem dd_M_makeRuns_132 : decode b_M_makeRuns 132 = .ok (.goto (-86), 3) := by decide +kernel
theorem dd_M_makeRuns_135 : decode b_M_makeRuns 135 = .ok (.iload 4, 2) := by decide +kernel
theorem dd_M_makeRuns_137 : decode b_M_makeRuns 137 = .ok (.iconst (-1), 1) := by decide +kernel
theorem dd_M_makeRuns_138 : decode b_M_makeRuns 138 = .ok (.if_icmp .ne 23, 3) := by decide +kernel
theorem dd_M_makeRuns_141 : decode b_M_makeRuns 141 = .ok (.aload_n 0, 1) := by decide +kernel
theorem dd_M_makeRuns_142 : decode b_M_makeRuns 142 = .ok (.getfield 42, 3) := by decide +kernel
theorem dd_M_makeRuns_145 : decode b_M_makeRuns 145 = .ok (.aload_n 0, 1) := by decide +kernel
theorem dd_M_makeRuns_146 : decode b_M_makeRuns 146 = .ok (.getfield 194, 3) := by decide +kernel
theorem dd_M_makeRuns_149 : decode b_M_makeRuns 149 = .ok (.iconst 0, 1) := by decide +kernel
theorem dd_M_makeRuns_150 : decode b_M_makeRuns 150 = .ok (.iastore, 1) := by decide +kernel
theorem dd_M_makeRuns_151 : decode b_M_makeRuns 151 = .ok (.aload_n 0, 1) := by decide +kernel
theorem dd_M_makeRuns_152 : decode b_M_makeRuns 152 = .ok (.dup, 1) := by decide +kernel
theorem dd_M_makeRuns_153 : decode b_M_makeRuns 153 = .ok (.getfield 194, 3) := by decide +kernel
theorem dd_M_makeRuns_156 : decode b_M_makeRuns 156 = .ok (.iconst 1, 1) := by decide +kernel
theorem dd_M_makeRuns_157 : decode b_M_makeRuns 157 = .ok (.iadd, 1) := by decide +kernel
theorem dd_M_makeRuns_158 : decode b_M_makeRuns 158 = .ok (.putfield 194, 3) := by decide +kernel
theorem dd_M_makeRuns_161 : decode b_M_makeRuns 161 = .ok (.aload_n 0, 1) := by decide +kernel
theorem dd_M_makeRuns_162 : decode b_M_makeRuns 162 = .ok (.getfield 51, 3) := by decide +kernel
theorem dd_M_makeRuns_165 : decode b_M_makeRuns 165 = .ok (.iload 5, 2) := by decide +kernel
theorem dd_M_makeRuns_167 : decode b_M_makeRuns 167 = .ok (.iaload, 1) := by decide +kernel
theorem dd_M_makeRuns_168 : decode b_M_makeRuns 168 = .ok (.istore 4, 2) := by decide +kernel
theorem dd_M_makeRuns_170 : decode b_M_makeRuns 170 = .ok (.aload_n 0, 1) := by decide +kernel
theorem dd_M_makeRuns_171 : decode b_M_makeRuns 171 = .ok (.getfield 39, 3) := by decide +kernel
theorem dd_M_makeRuns_174 : decode b_M_makeRuns 174 = .ok (.iload_n 3, 1) := by decide +kernel
theorem dd_M_makeRuns_175 : decode b_M_makeRuns 175 = .ok (.iload 4, 2) := by decide +kernel
theorem dd_M_makeRuns_177 : decode b_M_makeRuns 177 = .ok (.iastore, 1) := by decide +kernel
theorem dd_M_makeRuns_178 : decode b_M_makeRuns 178 = .ok (.iinc 3 1, 3) := by decide +kernel
theorem dd_M_makeRuns_181 : decode b_M_makeRuns 181 = .ok (.aload_n 0, 1) := by decide +kernel
theorem dd_M_makeRuns_182 : decode b_M_makeRuns 182 = .ok (.getfield 42, 3) := by decide +kernel
theorem dd_M_makeRuns_185 : decode b_M_makeRuns 185 = .ok (.aload_n 0, 1) := by decide +kernel
theorem dd_M_makeRuns_186 : decode b_M_makeRuns 186 = .ok (.getfield 194, 3) := by decide +kernel
theorem dd_M_makeRuns_189 : decode b_M_makeRuns 189 = .ok (.iconst 1, 1) := by decide +kernel
theorem dd_M_makeRuns_190 : decode b_M_makeRuns 190 = .ok (.isub, 1) := by decide +kernel
theorem dd_M_makeRuns_191 : decode b_M_makeRuns 191 = .ok (.dup2, 1) := by decide +kernel
theorem dd_M_makeRuns_192 : decode b_M_makeRuns 192 = .ok (.iaload, 1) := by decide +kernel
theorem dd_M_makeRuns_193 : decode b_M_makeRuns 193 = .ok (.iconst 1, 1) := by decide +kernel
theorem dd_M_makeRuns_194 : decode b_M_makeRuns 194 = .ok (.iadd, 1) := by decide +kernel
theorem dd_M_makeRuns_195 : decode b_M_makeRuns 195 = .ok (.iastore, 1) := by decide +kernel
theorem dd_M_makeRuns_196 : decode b_M_makeRuns 196 = .ok (.iload_n 1, 1) := by decide +kernel
theorem dd_M_makeRuns_197 : decode b_M_makeRuns 197 = .ok (.aload_n 0, 1) := by decide +kernel
theorem dd_M_makeRuns_198 : decode b_M_makeRuns 198 = .ok (.getfield 78, 3) := by decide +kernel
theorem dd_M_makeRuns_201 : decode b_M_makeRuns 201 = .ok (.if_icmp .ge 17, 3) := by decide +kernel
theorem dd_M_makeRuns_204 : decode b_M_makeRuns 204 = .ok (.aload_n 0, 1) := by decide +kernel
theorem dd_M_makeRuns_205 : decode b_M_makeRuns 205 = .ok (.getfield 51, 3) := by decide +kernel
theorem dd_M_makeRuns_208 : decode b_M_makeRuns 208 = .ok (.iload 5, 2) := by decide +kernel
theorem dd_M_makeRuns_210 : decode b_M_makeRuns 210 = .ok (.iload_n 1, 1) := by decide +kernel
theorem dd_M_makeRuns_211 : decode b_M_makeRuns 211 = .ok (.iastore, 1) := by decide +kernel
theorem dd_M_makeRuns_212 : decode b_M_makeRuns 212 = .ok (.iinc 1 1, 3) := by decide +kernel
theorem dd_M_makeRuns_215 : decode b_M_makeRuns 215 = .ok (.goto 19, 3) := by decide +kernel
theorem dd_M_makeRuns_218 : decode b_M_makeRuns 218 = .ok (.iinc 2 (-1), 3) := by decide +kernel
theorem dd_M_makeRuns_221 : decode b_M_makeRuns 221 = .ok (.aload_n 0, 1) := by decide +kernel
theorem dd_M_makeRuns_222 : decode b_M_makeRuns 222 = .ok (.getfield 51, 3) := by decide +kernel
theorem dd_M_makeRuns_225 : decode b_M_makeRuns 225 = .ok (.iload 5, 2) := by decide +kernel
theorem dd_M_makeRuns_227 : decode b_M_makeRuns 227 = .ok (.aload_n 0, 1) := by decide +kernel
theorem dd_M_makeRuns_228 : decode b_M_makeRuns 228 = .ok (.getfield 51, 3) := by decide +kernel
theorem dd_M_makeRuns_231 : decode b_M_makeRuns 231 = .ok (.iload_n 2, 1) := by decide +kernel
theorem dd_M_makeRuns_232 : decode b_M_makeRuns 232 = .ok (.iaload, 1) := by decide +kernel
theorem dd_M_makeRuns_233 : decode b_M_makeRuns 233 = .ok (.iastore, 1) := by decide +kernel
theorem dd_M_makeRuns_234 : decode b_M_makeRuns 234 = .ok (.goto (-188), 3) := by decide +kernel
theorem dd_M_makeRuns_237 : decode b_M_makeRuns 237 = .ok (.return_, 1) := by decide +kernel
