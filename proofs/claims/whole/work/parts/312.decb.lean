theorem d_PW_widthOf_17 : decode b_PW_widthOf 17 = .ok (.ireturn, 1) := by decide +kernel
theorem d_PW_widthOf_18 : decode b_PW_widthOf 18 = .ok (.iload_n 0, 1) := by decide +kernel
theorem d_PW_widthOf_19 : decode b_PW_widthOf 19 = .ok (.ldc_w 278, 3) := by decide +kernel
theorem d_PW_widthOf_22 : decode b_PW_widthOf 22 = .ok (.if_icmp .ge 7, 3) := by decide +kernel
theorem d_PW_widthOf_25 : decode b_PW_widthOf 25 = .ok (.iconst 3, 1) := by decide +kernel
theorem d_PW_widthOf_26 : decode b_PW_widthOf 26 = .ok (.goto 4, 3) := by decide +kernel
theorem d_PW_widthOf_29 : decode b_PW_widthOf 29 = .ok (.iconst 4, 1) := by decide +kernel
theorem d_PW_widthOf_30 : decode b_PW_widthOf 30 = .ok (.ireturn, 1) := by decide +kernel
theorem d_RW_add_0 : decode b_RW_add 0 = .ok (.aload_n 0, 1) := by decide +kernel
theorem d_RW_add_1 : decode b_RW_add 1 = .ok (.iconst 1, 1) := by decide +kernel
theorem d_RW_add_2 : decode b_RW_add 2 = .ok (.invokevirtual 22, 3) := by decide +kernel
theorem d_RW_add_5 : decode b_RW_add 5 = .ok (.ifCond .ne 5, 3) := by decide +kernel
theorem d_RW_add_8 : decode b_RW_add 8 = .ok (.iconst 0, 1) := by decide +kernel
theorem d_RW_add_9 : decode b_RW_add 9 = .ok (.ireturn, 1) := by decide +kernel
theorem d_RW_add_10 : decode b_RW_add 10 = .ok (.aload_n 0, 1) := by decide +kernel
theorem d_RW_add_11 : decode b_RW_add 11 = .ok (.getfield 9, 3) := by decide +kernel
theorem d_RW_add_14 : decode b_RW_add 14 = .ok (.aload_n 0, 1) := by decide +kernel
theorem d_RW_add_15 : decode b_RW_add 15 = .ok (.getfield 19, 3) := by decide +kernel
theorem d_RW_add_18 : decode b_RW_add 18 = .ok (.iload_n 1, 1) := by decide +kernel
theorem d_RW_add_19 : decode b_RW_add 19 = .ok (.iastore, 1) := by decide +kernel
theorem d_RW_add_20 : decode b_RW_add 20 = .ok (.aload_n 0, 1) := by decide +kernel
theorem d_RW_add_21 : decode b_RW_add 21 = .ok (.dup, 1) := by decide +kernel
theorem d_RW_add_22 : decode b_RW_add 22 = .ok (.getfield 19, 3) := by decide +kernel
theorem d_RW_add_25 : decode b_RW_add 25 = .ok (.iconst 1, 1) := by decide +kernel
theorem d_RW_add_26 : decode b_RW_add 26 = .ok (.iadd, 1) := by decide +kernel
theorem d_RW_add_27 : decode b_RW_add 27 = .ok (.putfield 19, 3) := by decide +kernel
theorem d_RW_add_30 : decode b_RW_add 30 = .ok (.iconst 1, 1) := by decide +kernel
theorem d_RW_add_31 : decode b_RW_add 31 = .ok (.ireturn, 1) := by decide +kernel
