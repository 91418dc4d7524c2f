theorem d_RD_init_0 : decode b_RD_init 0 = .ok (.aload_n 0, 1) := by decide +kernel
theorem d_RD_init_1 : decode b_RD_init 1 = .ok (.invokespecial 3, 3) := by decide +kernel
theorem d_RD_init_4 : decode b_RD_init 4 = .ok (.aload_n 0, 1) := by decide +kernel
theorem d_RD_init_5 : decode b_RD_init 5 = .ok (.new 9, 3) := by decide +kernel
theorem d_RD_init_8 : decode b_RD_init 8 = .ok (.dup, 1) := by decide +kernel
theorem d_RD_init_9 : decode b_RD_init 9 = .ok (.invokespecial 11, 3) := by decide +kernel
theorem d_RD_init_12 : decode b_RD_init 12 = .ok (.putfield 12, 3) := by decide +kernel
theorem d_RD_init_15 : decode b_RD_init 15 = .ok (.aload_n 0, 1) := by decide +kernel
theorem d_RD_init_16 : decode b_RD_init 16 = .ok (.new 18, 3) := by decide +kernel
theorem d_RD_init_19 : decode b_RD_init 19 = .ok (.dup, 1) := by decide +kernel
theorem d_RD_init_20 : decode b_RD_init 20 = .ok (.iconst 4, 1) := by decide +kernel
theorem d_RD_init_21 : decode b_RD_init 21 = .ok (.iconst 0, 1) := by decide +kernel
theorem d_RD_init_22 : decode b_RD_init 22 = .ok (.iconst 0, 1) := by decide +kernel
theorem d_RD_init_23 : decode b_RD_init 23 = .ok (.iconst 0, 1) := by decide +kernel
theorem d_RD_init_24 : decode b_RD_init 24 = .ok (.invokespecial 20, 3) := by decide +kernel
theorem d_RD_init_27 : decode b_RD_init 27 = .ok (.putfield 23, 3) := by decide +kernel
theorem d_RD_init_30 : decode b_RD_init 30 = .ok (.aload_n 0, 1) := by decide +kernel
theorem d_RD_init_31 : decode b_RD_init 31 = .ok (.bipush 10, 2) := by decide +kernel
theorem d_RD_init_33 : decode b_RD_init 33 = .ok (.newarray .int, 2) := by decide +kernel
theorem d_RD_init_35 : decode b_RD_init 35 = .ok (.putfield 27, 3) := by decide +kernel
theorem d_RD_init_38 : decode b_RD_init 38 = .ok (.aload_n 0, 1) := by decide +kernel
theorem d_RD_init_39 : decode b_RD_init 39 = .ok (.bipush 10, 2) := by decide +kernel
theorem d_RD_init_41 : decode b_RD_init 41 = .ok (.newarray .int, 2) := by decide +kernel
theorem d_RD_init_43 : decode b_RD_init 43 = .ok (.putfield 31, 3) := by decide +kernel
theorem d_RD_init_46 : decode b_RD_init 46 = .ok (.return_, 1) := by decide +kernel
