theorem dd_J_compare_0 : decode b_J_compare 0 = .ok (.iload_n 0, 1) := by decide +kernel
theorem dd_J_compare_1 : decode b_J_compare 1 = .ok (.iload_n 1, 1) := by decide +kernel
theorem dd_J_compare_2 : decode b_J_compare 2 = .ok (.if_icmp .ge 7, 3) := by decide +kernel
theorem dd_J_compare_5 : decode b_J_compare 5 = .ok (.iconst (-1), 1) := by decide +kernel
theorem dd_J_compare_6 : decode b_J_compare 6 = .ok (.goto 13, 3) := by decide +kernel
theorem dd_J_compare_9 : decode b_J_compare 9 = .ok (.iload_n 0, 1) := by decide +kernel
theorem dd_J_compare_10 : decode b_J_compare 10 = .ok (.iload_n 1, 1) := by decide +kernel
theorem dd_J_compare_11 : decode b_J_compare 11 = .ok (.if_icmp .ne 7, 3) := by decide +kernel
theorem dd_J_compare_14 : decode b_J_compare 14 = .ok (.iconst 0, 1) := by decide +kernel
theorem dd_J_compare_15 : decode b_J_compare 15 = .ok (.goto 4, 3) := by decide +kernel
theorem dd_J_compare_18 : decode b_J_compare 18 = .ok (.iconst 1, 1) := by decide +kernel
theorem dd_J_compare_19 : decode b_J_compare 19 = .ok (.ireturn, 1) := by decide +kernel
theorem dd_J_copyB_0 : decode b_J_copyB 0 = .ok (.iload_n 1, 1) := by decide +kernel
theorem dd_J_copyB_1 : decode b_J_copyB 1 = .ok (.aload_n 0, 1) := by decide +kernel
theorem dd_J_copyB_2 : decode b_J_copyB 2 = .ok (.arraylength, 1) := by decide +kernel
theorem dd_J_copyB_3 : decode b_J_copyB 3 = .ok (.if_icmp .ne 11, 3) := by decide +kernel
theorem dd_J_copyB_14 : decode b_J_copyB 14 = .ok (.iload_n 1, 1) := by decide +kernel
theorem dd_J_copyB_15 : decode b_J_copyB 15 = .ok (.newarray .byte, 2) := by decide +kernel
theorem dd_J_copyB_17 : decode b_J_copyB 17 = .ok (.astore_n 2, 1) := by decide +kernel
theorem dd_J_copyB_18 : decode b_J_copyB 18 = .ok (.aload_n 0, 1) := by decide +kernel
theorem dd_J_copyB_19 : decode b_J_copyB 19 = .ok (.iconst 0, 1) := by decide +kernel
theorem dd_J_copyB_20 : decode b_J_copyB 20 = .ok (.aload_n 2, 1) := by decide +kernel
theorem dd_J_copyB_21 : decode b_J_copyB 21 = .ok (.iconst 0, 1) := by decide +kernel
theorem dd_J_copyB_22 : decode b_J_copyB 22 = .ok (.aload_n 0, 1) := by decide +kernel
theorem dd_J_copyB_23 : decode b_J_copyB 23 = .ok (.arraylength, 1) := by decide +kernel
theorem dd_J_copyB_24 : decode b_J_copyB 24 = .ok (.iload_n 1, 1) := by decide +kernel
theorem dd_J_copyB_25 : decode b_J_copyB 25 = .ok (.invokestatic 304, 3) := by decide +kernel
theorem dd_J_copyB_28 : decode b_J_copyB 28 = .ok (.invokestatic 150, 3) := by decide +kernel
theorem dd_J_copyB_31 : decode b_J_copyB 31 = .ok (.aload_n 2, 1) := by decide +kernel
theorem dd_J_copyB_32 : decode b_J_copyB 32 = .ok (.areturn, 1) := by decide +kernel
theorem dd_J_copyI_0 : decode b_J_copyI 0 = .ok (.iload_n 1, 1) := by decide +kernel
theorem dd_J_copyI_1 : decode b_J_copyI 1 = .ok (.aload_n 0, 1) := by decide +kernel
theorem dd_J_copyI_2 : decode b_J_copyI 2 = .ok (.arraylength, 1) := by decide +kernel
theorem dd_J_copyI_3 : decode b_J_copyI 3 = .ok (.if_icmp .ne 11, 3) := by decide +kernel
theorem dd_J_copyI_14 : decode b_J_copyI 14 = .ok (.iload_n 1, 1) := by decide +kernel
theorem dd_J_copyI_15 : decode b_J_copyI 15 = .ok (.newarray .int, 2) := by decide +kernel
theorem dd_J_copyI_17 : decode b_J_copyI 17 = .ok (.astore_n 2, 1) := by decide +kernel
theorem dd_J_copyI_18 : decode b_J_copyI 18 = .ok (.aload_n 0, 1) := by decide +kernel
theorem dd_J_copyI_19 : decode b_J_copyI 19 = .ok (.iconst 0, 1) := by decide +kernel
theorem dd_J_copyI_20 : decode b_J_copyI 20 = .ok (.aload_n 2, 1) := by decide +kernel
theorem dd_J_copyI_21 : decode b_J_copyI 21 = .ok (.iconst 0, 1) := by decide +kernel
theorem dd_J_copyI_22 : decode b_J_copyI 22 = .ok (.aload_n 0, 1) := by decide +kernel
theorem dd_J_copyI_23 : decode b_J_copyI 23 = .ok (.arraylength, 1) := by decide +kernel
theorem dd_J_copyI_24 : decode b_J_copyI 24 = .ok (.iload_n 1, 1) := by decide +kernel
theorem dd_J_copyI_25 : decode b_J_copyI 25 = .ok (.invokestatic 304, 3) := by decide +kernel
theorem dd_J_copyI_28 : decode b_J_copyI 28 = .ok (.invokestatic 150, 3) := by decide +kernel
theorem dd_J_copyI_31 : decode b_J_copyI 31 = .ok (.aload_n 2, 1) := by decide +kernel
theorem dd_J_copyI_32 : decode b_J_copyI 32 = .ok (.areturn, 1) := by decide +kernel
