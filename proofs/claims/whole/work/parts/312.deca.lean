theorem d_AR_copyOf_0 : decode b_AR_copyOf 0 = .ok (.iload_n 1, 1) := by decide +kernel
theorem d_AR_copyOf_1 : decode b_AR_copyOf 1 = .ok (.aload_n 0, 1) := by decide +kernel
theorem d_AR_copyOf_2 : decode b_AR_copyOf 2 = .ok (.arraylength, 1) := by decide +kernel
theorem d_AR_copyOf_3 : decode b_AR_copyOf 3 = .ok (.if_icmp .ne 11, 3) := by decide +kernel
theorem d_AR_copyOf_6 : decode b_AR_copyOf 6 = .ok (.aload_n 0, 1) := by decide +kernel
theorem d_AR_copyOf_7 : decode b_AR_copyOf 7 = .ok (.invokevirtual 316, 3) := by decide +kernel
theorem d_AR_copyOf_10 : decode b_AR_copyOf 10 = .ok (.checkcast 317, 3) := by decide +kernel
theorem d_AR_copyOf_13 : decode b_AR_copyOf 13 = .ok (.areturn, 1) := by decide +kernel
theorem d_AR_copyOf_14 : decode b_AR_copyOf 14 = .ok (.iload_n 1, 1) := by decide +kernel
theorem d_AR_copyOf_15 : decode b_AR_copyOf 15 = .ok (.newarray .int, 2) := by decide +kernel
theorem d_AR_copyOf_17 : decode b_AR_copyOf 17 = .ok (.astore_n 2, 1) := by decide +kernel
theorem d_AR_copyOf_18 : decode b_AR_copyOf 18 = .ok (.aload_n 0, 1) := by decide +kernel
theorem d_AR_copyOf_19 : decode b_AR_copyOf 19 = .ok (.iconst 0, 1) := by decide +kernel
theorem d_AR_copyOf_20 : decode b_AR_copyOf 20 = .ok (.aload_n 2, 1) := by decide +kernel
theorem d_AR_copyOf_21 : decode b_AR_copyOf 21 = .ok (.iconst 0, 1) := by decide +kernel
theorem d_AR_copyOf_22 : decode b_AR_copyOf 22 = .ok (.aload_n 0, 1) := by decide +kernel
theorem d_AR_copyOf_23 : decode b_AR_copyOf 23 = .ok (.arraylength, 1) := by decide +kernel
theorem d_AR_copyOf_24 : decode b_AR_copyOf 24 = .ok (.iload_n 1, 1) := by decide +kernel
theorem d_AR_copyOf_25 : decode b_AR_copyOf 25 = .ok (.invokestatic 304, 3) := by decide +kernel
theorem d_AR_copyOf_28 : decode b_AR_copyOf 28 = .ok (.invokestatic 150, 3) := by decide +kernel
theorem d_AR_copyOf_31 : decode b_AR_copyOf 31 = .ok (.aload_n 2, 1) := by decide +kernel
theorem d_AR_copyOf_32 : decode b_AR_copyOf 32 = .ok (.areturn, 1) := by decide +kernel
theorem d_AR_fillr_0 : decode b_AR_fillr 0 = .ok (.aload_n 0, 1) := by decide +kernel
theorem d_AR_fillr_1 : decode b_AR_fillr 1 = .ok (.arraylength, 1) := by decide +kernel
theorem d_AR_fillr_2 : decode b_AR_fillr 2 = .ok (.iload_n 1, 1) := by decide +kernel
theorem d_AR_fillr_3 : decode b_AR_fillr 3 = .ok (.iload_n 2, 1) := by decide +kernel
theorem d_AR_fillr_4 : decode b_AR_fillr 4 = .ok (.invokestatic 13, 3) := by decide +kernel
theorem d_AR_fillr_7 : decode b_AR_fillr 7 = .ok (.iload_n 1, 1) := by decide +kernel
theorem d_AR_fillr_8 : decode b_AR_fillr 8 = .ok (.istore 4, 2) := by decide +kernel
theorem d_AR_fillr_10 : decode b_AR_fillr 10 = .ok (.iload 4, 2) := by decide +kernel
theorem d_AR_fillr_12 : decode b_AR_fillr 12 = .ok (.iload_n 2, 1) := by decide +kernel
theorem d_AR_fillr_13 : decode b_AR_fillr 13 = .ok (.if_icmp .ge 14, 3) := by decide +kernel
theorem d_AR_fillr_16 : decode b_AR_fillr 16 = .ok (.aload_n 0, 1) := by decide +kernel
theorem d_AR_fillr_17 : decode b_AR_fillr 17 = .ok (.iload 4, 2) := by decide +kernel
theorem d_AR_fillr_19 : decode b_AR_fillr 19 = .ok (.iload_n 3, 1) := by decide +kernel
theorem d_AR_fillr_20 : decode b_AR_fillr 20 = .ok (.iastore, 1) := by decide +kernel
theorem d_AR_fillr_21 : decode b_AR_fillr 21 = .ok (.iinc 4 1, 3) := by decide +kernel
theorem d_AR_fillr_24 : decode b_AR_fillr 24 = .ok (.goto (-14), 3) := by decide +kernel
theorem d_AR_fillr_27 : decode b_AR_fillr 27 = .ok (.return_, 1) := by decide +kernel
theorem d_AR_rangeCheck_0 : decode b_AR_rangeCheck 0 = .ok (.iload_n 1, 1) := by decide +kernel
theorem d_AR_rangeCheck_1 : decode b_AR_rangeCheck 1 = .ok (.iload_n 2, 1) := by decide +kernel
theorem d_AR_rangeCheck_2 : decode b_AR_rangeCheck 2 = .ok (.if_icmp .le 44, 3) := by decide +kernel
theorem d_AR_rangeCheck_5 : decode b_AR_rangeCheck 5 = .ok (.new 43, 3) := by decide +kernel
theorem d_AR_rangeCheck_8 : decode b_AR_rangeCheck 8 = .ok (.dup, 1) := by decide +kernel
theorem d_AR_rangeCheck_9 : decode b_AR_rangeCheck 9 = .ok (.new 45, 3) := by decide +kernel
theorem d_AR_rangeCheck_12 : decode b_AR_rangeCheck 12 = .ok (.dup, 1) := by decide +kernel
theorem d_AR_rangeCheck_13 : decode b_AR_rangeCheck 13 = .ok (.invokespecial 47, 3) := by decide +kernel
theorem d_AR_rangeCheck_16 : decode b_AR_rangeCheck 16 = .ok (.ldc 48, 2) := by decide +kernel
theorem d_AR_rangeCheck_18 : decode b_AR_rangeCheck 18 = .ok (.invokevirtual 50, 3) := by decide +kernel
theorem d_AR_rangeCheck_21 : decode b_AR_rangeCheck 21 = .ok (.iload_n 1, 1) := by decide +kernel
theorem d_AR_rangeCheck_22 : decode b_AR_rangeCheck 22 = .ok (.invokevirtual 54, 3) := by decide +kernel
theorem d_AR_rangeCheck_25 : decode b_AR_rangeCheck 25 = .ok (.ldc 57, 2) := by decide +kernel
theorem d_AR_rangeCheck_27 : decode b_AR_rangeCheck 27 = .ok (.invokevirtual 50, 3) := by decide +kernel
theorem d_AR_rangeCheck_30 : decode b_AR_rangeCheck 30 = .ok (.iload_n 2, 1) := by decide +kernel
theorem d_AR_rangeCheck_31 : decode b_AR_rangeCheck 31 = .ok (.invokevirtual 54, 3) := by decide +kernel
theorem d_AR_rangeCheck_34 : decode b_AR_rangeCheck 34 = .ok (.ldc 59, 2) := by decide +kernel
theorem d_AR_rangeCheck_36 : decode b_AR_rangeCheck 36 = .ok (.invokevirtual 50, 3) := by decide +kernel
theorem d_AR_rangeCheck_39 : decode b_AR_rangeCheck 39 = .ok (.invokevirtual 61, 3) := by decide +kernel
theorem d_AR_rangeCheck_42 : decode b_AR_rangeCheck 42 = .ok (.invokespecial 65, 3) := by decide +kernel
theorem d_AR_rangeCheck_45 : decode b_AR_rangeCheck 45 = .ok (.athrow, 1) := by decide +kernel
theorem d_AR_rangeCheck_46 : decode b_AR_rangeCheck 46 = .ok (.iload_n 1, 1) := by decide +kernel
theorem d_AR_rangeCheck_47 : decode b_AR_rangeCheck 47 = .ok (.ifCond .ge 12, 3) := by decide +kernel
theorem d_AR_rangeCheck_50 : decode b_AR_rangeCheck 50 = .ok (.new 68, 3) := by decide +kernel
theorem d_AR_rangeCheck_53 : decode b_AR_rangeCheck 53 = .ok (.dup, 1) := by decide +kernel
theorem d_AR_rangeCheck_54 : decode b_AR_rangeCheck 54 = .ok (.iload_n 1, 1) := by decide +kernel
theorem d_AR_rangeCheck_55 : decode b_AR_rangeCheck 55 = .ok (.invokespecial 70, 3) := by decide +kernel
theorem d_AR_rangeCheck_58 : decode b_AR_rangeCheck 58 = .ok (.athrow, 1) := by decide +kernel
theorem d_AR_rangeCheck_59 : decode b_AR_rangeCheck 59 = .ok (.iload_n 2, 1) := by decide +kernel
theorem d_AR_rangeCheck_60 : decode b_AR_rangeCheck 60 = .ok (.iload_n 0, 1) := by decide +kernel
theorem d_AR_rangeCheck_61 : decode b_AR_rangeCheck 61 = .ok (.if_icmp .le 12, 3) := by decide +kernel
theorem d_AR_rangeCheck_64 : decode b_AR_rangeCheck 64 = .ok (.new 68, 3) := by decide +kernel
theorem d_AR_rangeCheck_67 : decode b_AR_rangeCheck 67 = .ok (.dup, 1) := by decide +kernel
theorem d_AR_rangeCheck_68 : decode b_AR_rangeCheck 68 = .ok (.iload_n 2, 1) := by decide +kernel
theorem d_AR_rangeCheck_69 : decode b_AR_rangeCheck 69 = .ok (.invokespecial 70, 3) := by decide +kernel
theorem d_AR_rangeCheck_72 : decode b_AR_rangeCheck 72 = .ok (.athrow, 1) := by decide +kernel
theorem d_AR_rangeCheck_73 : decode b_AR_rangeCheck 73 = .ok (.return_, 1) := by decide +kernel
theorem d_RW_add_0 : decode b_RW_add 0 = .ok (.aload_n 0, 1) := by decide +kernel
theorem d_RW_add_1 : decode b_RW_add 1 = .ok (.iconst 1, 1) := by decide +kernel
theorem d_RW_add_2 : decode b_RW_add 2 = .ok (.invokevirtual 22, 3) := by decide +kernel
theorem d_RW_add_5 : decode b_RW_add 5 = .ok (.ifCond .ne 5, 3) := by decide +kernel
theorem d_RW_add_8 : decode b_RW_add 8 = .ok (.iconst 0, 1) := by decide +kernel
theorem d_RW_add_9 : decode b_RW_add 9 = .ok (.ireturn, 1) := by decide +kernel
theorem d_RW_add_10 : decode b_RW_add 10 = .ok (.aload_n 0, 1) := by decide +kernel
theorem d_RW_add_11 : decode b_RW_add 11 = .ok (.getfield 9, 3) := by decide +kernel
theorem d_RW_add_14 : decode b_RW_add 14 = .ok (.aload_n 0, 1) := by decide +kernel
theorem d_RW_add_15 : decode b_RW_add 15 = .ok (.getfield 19, 3) := by decide +kernel
theorem d_RW_add_18 : decode b_RW_add 18 = .ok (.iload_n 1, 1) := by decide +kernel
theorem d_RW_add_19 : decode b_RW_add 19 = .ok (.iastore, 1) := by decide +kernel
theorem d_RW_add_20 : decode b_RW_add 20 = .ok (.aload_n 0, 1) := by decide +kernel
theorem d_RW_add_21 : decode b_RW_add 21 = .ok (.dup, 1) := by decide +kernel
theorem d_RW_add_22 : decode b_RW_add 22 = .ok (.getfield 19, 3) := by decide +kernel
theorem d_RW_add_25 : decode b_RW_add 25 = .ok (.iconst 1, 1) := by decide +kernel
theorem d_RW_add_26 : decode b_RW_add 26 = .ok (.iadd, 1) := by decide +kernel
theorem d_RW_add_27 : decode b_RW_add 27 = .ok (.putfield 19, 3) := by decide +kernel
theorem d_RW_add_30 : decode b_RW_add 30 = .ok (.iconst 1, 1) := by decide +kernel
theorem d_RW_add_31 : decode b_RW_add 31 = .ok (.ireturn, 1) := by decide +kernel
