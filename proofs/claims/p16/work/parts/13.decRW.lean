theorem d_RW_init_0 : decode b_RW_init 0 = .ok (.aload_n 0, 1) := by decide +kernel
theorem d_RW_init_1 : decode b_RW_init 1 = .ok (.invokespecial 3, 3) := by decide +kernel
theorem d_RW_init_4 : decode b_RW_init 4 = .ok (.aload_n 0, 1) := by decide +kernel
theorem d_RW_init_5 : decode b_RW_init 5 = .ok (.bipush 32, 2) := by decide +kernel
theorem d_RW_init_7 : decode b_RW_init 7 = .ok (.newarray .int, 2) := by decide +kernel
theorem d_RW_init_9 : decode b_RW_init 9 = .ok (.putfield 9, 3) := by decide +kernel
theorem d_RW_init_12 : decode b_RW_init 12 = .ok (.aload_n 0, 1) := by decide +kernel
theorem d_RW_init_13 : decode b_RW_init 13 = .ok (.iload_n 1, 1) := by decide +kernel
theorem d_RW_init_14 : decode b_RW_init 14 = .ok (.putfield 15, 3) := by decide +kernel
theorem d_RW_init_17 : decode b_RW_init 17 = .ok (.return_, 1) := by decide +kernel
theorem d_RW_clear_0 : decode b_RW_clear 0 = .ok (.aload_n 0, 1) := by decide +kernel
theorem d_RW_clear_1 : decode b_RW_clear 1 = .ok (.iconst 0, 1) := by decide +kernel
theorem d_RW_clear_2 : decode b_RW_clear 2 = .ok (.putfield 19, 3) := by decide +kernel
theorem d_RW_clear_5 : decode b_RW_clear 5 = .ok (.return_, 1) := by decide +kernel
theorem d_RW_at_0 : decode b_RW_at 0 = .ok (.iload_n 1, 1) := by decide +kernel
theorem d_RW_at_1 : decode b_RW_at 1 = .ok (.ifCond .lt 20, 3) := by decide +kernel
theorem d_RW_at_4 : decode b_RW_at 4 = .ok (.iload_n 1, 1) := by decide +kernel
theorem d_RW_at_5 : decode b_RW_at 5 = .ok (.aload_n 0, 1) := by decide +kernel
theorem d_RW_at_6 : decode b_RW_at 6 = .ok (.getfield 19, 3) := by decide +kernel
theorem d_RW_at_9 : decode b_RW_at 9 = .ok (.if_icmp .ge 12, 3) := by decide +kernel
theorem d_RW_at_12 : decode b_RW_at 12 = .ok (.aload_n 0, 1) := by decide +kernel
theorem d_RW_at_13 : decode b_RW_at 13 = .ok (.getfield 9, 3) := by decide +kernel
theorem d_RW_at_16 : decode b_RW_at 16 = .ok (.iload_n 1, 1) := by decide +kernel
theorem d_RW_at_17 : decode b_RW_at 17 = .ok (.iaload, 1) := by decide +kernel
theorem d_RW_at_18 : decode b_RW_at 18 = .ok (.goto 4, 3) := by decide +kernel
theorem d_RW_at_21 : decode b_RW_at 21 = .ok (.iconst (-1), 1) := by decide +kernel
theorem d_RW_at_22 : decode b_RW_at 22 = .ok (.ireturn, 1) := by decide +kernel
theorem d_RW_makeRoom_0 : decode b_RW_makeRoom 0 = .ok (.aload_n 0, 1) := by decide +kernel
theorem d_RW_makeRoom_1 : decode b_RW_makeRoom 1 = .ok (.getfield 19, 3) := by decide +kernel
theorem d_RW_makeRoom_4 : decode b_RW_makeRoom 4 = .ok (.iload_n 1, 1) := by decide +kernel
theorem d_RW_makeRoom_5 : decode b_RW_makeRoom 5 = .ok (.iadd, 1) := by decide +kernel
theorem d_RW_makeRoom_6 : decode b_RW_makeRoom 6 = .ok (.aload_n 0, 1) := by decide +kernel
theorem d_RW_makeRoom_7 : decode b_RW_makeRoom 7 = .ok (.getfield 15, 3) := by decide +kernel
theorem d_RW_makeRoom_10 : decode b_RW_makeRoom 10 = .ok (.if_icmp .le 5, 3) := by decide +kernel
theorem d_RW_makeRoom_13 : decode b_RW_makeRoom 13 = .ok (.iconst 0, 1) := by decide +kernel
theorem d_RW_makeRoom_14 : decode b_RW_makeRoom 14 = .ok (.ireturn, 1) := by decide +kernel
theorem d_RW_makeRoom_15 : decode b_RW_makeRoom 15 = .ok (.aload_n 0, 1) := by decide +kernel
theorem d_RW_makeRoom_16 : decode b_RW_makeRoom 16 = .ok (.getfield 19, 3) := by decide +kernel
theorem d_RW_makeRoom_19 : decode b_RW_makeRoom 19 = .ok (.iload_n 1, 1) := by decide +kernel
theorem d_RW_makeRoom_20 : decode b_RW_makeRoom 20 = .ok (.iadd, 1) := by decide +kernel
theorem d_RW_makeRoom_21 : decode b_RW_makeRoom 21 = .ok (.aload_n 0, 1) := by decide +kernel
theorem d_RW_makeRoom_22 : decode b_RW_makeRoom 22 = .ok (.getfield 9, 3) := by decide +kernel
theorem d_RW_makeRoom_25 : decode b_RW_makeRoom 25 = .ok (.arraylength, 1) := by decide +kernel
theorem d_RW_makeRoom_26 : decode b_RW_makeRoom 26 = .ok (.if_icmp .le 37, 3) := by decide +kernel
theorem d_RW_makeRoom_29 : decode b_RW_makeRoom 29 = .ok (.aload_n 0, 1) := by decide +kernel
theorem d_RW_makeRoom_30 : decode b_RW_makeRoom 30 = .ok (.aload_n 0, 1) := by decide +kernel
theorem d_RW_makeRoom_31 : decode b_RW_makeRoom 31 = .ok (.getfield 9, 3) := by decide +kernel
theorem d_RW_makeRoom_34 : decode b_RW_makeRoom 34 = .ok (.aload_n 0, 1) := by decide +kernel
theorem d_RW_makeRoom_35 : decode b_RW_makeRoom 35 = .ok (.getfield 15, 3) := by decide +kernel
theorem d_RW_makeRoom_38 : decode b_RW_makeRoom 38 = .ok (.aload_n 0, 1) := by decide +kernel
theorem d_RW_makeRoom_39 : decode b_RW_makeRoom 39 = .ok (.getfield 19, 3) := by decide +kernel
theorem d_RW_makeRoom_42 : decode b_RW_makeRoom 42 = .ok (.iload_n 1, 1) := by decide +kernel
theorem d_RW_makeRoom_43 : decode b_RW_makeRoom 43 = .ok (.iadd, 1) := by decide +kernel
theorem d_RW_makeRoom_44 : decode b_RW_makeRoom 44 = .ok (.iconst 2, 1) := by decide +kernel
theorem d_RW_makeRoom_45 : decode b_RW_makeRoom 45 = .ok (.aload_n 0, 1) := by decide +kernel
theorem d_RW_makeRoom_46 : decode b_RW_makeRoom 46 = .ok (.getfield 9, 3) := by decide +kernel
theorem d_RW_makeRoom_49 : decode b_RW_makeRoom 49 = .ok (.arraylength, 1) := by decide +kernel
theorem d_RW_makeRoom_50 : decode b_RW_makeRoom 50 = .ok (.imul, 1) := by decide +kernel
theorem d_RW_makeRoom_51 : decode b_RW_makeRoom 51 = .ok (.invokestatic 32, 3) := by decide +kernel
theorem d_RW_makeRoom_54 : decode b_RW_makeRoom 54 = .ok (.invokestatic 38, 3) := by decide +kernel
theorem d_RW_makeRoom_57 : decode b_RW_makeRoom 57 = .ok (.invokestatic 41, 3) := by decide +kernel
theorem d_RW_makeRoom_60 : decode b_RW_makeRoom 60 = .ok (.putfield 9, 3) := by decide +kernel
theorem d_RW_makeRoom_63 : decode b_RW_makeRoom 63 = .ok (.iconst 1, 1) := by decide +kernel
theorem d_RW_makeRoom_64 : decode b_RW_makeRoom 64 = .ok (.ireturn, 1) := by decide +kernel
theorem d_RW_addAll_0 : decode b_RW_addAll 0 = .ok (.iload_n 3, 1) := by decide +kernel
theorem d_RW_addAll_1 : decode b_RW_addAll 1 = .ok (.iload_n 2, 1) := by decide +kernel
theorem d_RW_addAll_2 : decode b_RW_addAll 2 = .ok (.if_icmp .lt 13, 3) := by decide +kernel
theorem d_RW_addAll_5 : decode b_RW_addAll 5 = .ok (.aload_n 0, 1) := by decide +kernel
theorem d_RW_addAll_6 : decode b_RW_addAll 6 = .ok (.iload_n 3, 1) := by decide +kernel
theorem d_RW_addAll_7 : decode b_RW_addAll 7 = .ok (.iload_n 2, 1) := by decide +kernel
theorem d_RW_addAll_8 : decode b_RW_addAll 8 = .ok (.isub, 1) := by decide +kernel
theorem d_RW_addAll_9 : decode b_RW_addAll 9 = .ok (.invokevirtual 22, 3) := by decide +kernel
theorem d_RW_addAll_12 : decode b_RW_addAll 12 = .ok (.ifCond .ne 5, 3) := by decide +kernel
theorem d_RW_addAll_15 : decode b_RW_addAll 15 = .ok (.iconst 0, 1) := by decide +kernel
theorem d_RW_addAll_16 : decode b_RW_addAll 16 = .ok (.ireturn, 1) := by decide +kernel
theorem d_RW_addAll_17 : decode b_RW_addAll 17 = .ok (.aload_n 1, 1) := by decide +kernel
theorem d_RW_addAll_18 : decode b_RW_addAll 18 = .ok (.iload_n 2, 1) := by decide +kernel
theorem d_RW_addAll_19 : decode b_RW_addAll 19 = .ok (.aload_n 0, 1) := by decide +kernel
theorem d_RW_addAll_20 : decode b_RW_addAll 20 = .ok (.getfield 9, 3) := by decide +kernel
theorem d_RW_addAll_23 : decode b_RW_addAll 23 = .ok (.aload_n 0, 1) := by decide +kernel
theorem d_RW_addAll_24 : decode b_RW_addAll 24 = .ok (.getfield 19, 3) := by decide +kernel
theorem d_RW_addAll_27 : decode b_RW_addAll 27 = .ok (.iload_n 3, 1) := by decide +kernel
theorem d_RW_addAll_28 : decode b_RW_addAll 28 = .ok (.iload_n 2, 1) := by decide +kernel
theorem d_RW_addAll_29 : decode b_RW_addAll 29 = .ok (.isub, 1) := by decide +kernel
theorem d_RW_addAll_30 : decode b_RW_addAll 30 = .ok (.invokestatic 26, 3) := by decide +kernel
theorem d_RW_addAll_33 : decode b_RW_addAll 33 = .ok (.aload_n 0, 1) := by decide +kernel
theorem d_RW_addAll_34 : decode b_RW_addAll 34 = .ok (.dup, 1) := by decide +kernel
theorem d_RW_addAll_35 : decode b_RW_addAll 35 = .ok (.getfield 19, 3) := by decide +kernel
theorem d_RW_addAll_38 : decode b_RW_addAll 38 = .ok (.iload_n 3, 1) := by decide +kernel
theorem d_RW_addAll_39 : decode b_RW_addAll 39 = .ok (.iload_n 2, 1) := by decide +kernel
theorem d_RW_addAll_40 : decode b_RW_addAll 40 = .ok (.isub, 1) := by decide +kernel
theorem d_RW_addAll_41 : decode b_RW_addAll 41 = .ok (.iadd, 1) := by decide +kernel
theorem d_RW_addAll_42 : decode b_RW_addAll 42 = .ok (.putfield 19, 3) := by decide +kernel
theorem d_RW_addAll_45 : decode b_RW_addAll 45 = .ok (.iconst 1, 1) := by decide +kernel
theorem d_RW_addAll_46 : decode b_RW_addAll 46 = .ok (.ireturn, 1) := by decide +kernel
theorem d_AR_fill_0 : decode b_AR_fill 0 = .ok (.iconst 0, 1) := by decide +kernel
theorem d_AR_fill_1 : decode b_AR_fill 1 = .ok (.istore_n 2, 1) := by decide +kernel
theorem d_AR_fill_2 : decode b_AR_fill 2 = .ok (.aload_n 0, 1) := by decide +kernel
theorem d_AR_fill_3 : decode b_AR_fill 3 = .ok (.arraylength, 1) := by decide +kernel
theorem d_AR_fill_4 : decode b_AR_fill 4 = .ok (.istore_n 3, 1) := by decide +kernel
theorem d_AR_fill_5 : decode b_AR_fill 5 = .ok (.iload_n 2, 1) := by decide +kernel
theorem d_AR_fill_6 : decode b_AR_fill 6 = .ok (.iload_n 3, 1) := by decide +kernel
theorem d_AR_fill_7 : decode b_AR_fill 7 = .ok (.if_icmp .ge 13, 3) := by decide +kernel
theorem d_AR_fill_10 : decode b_AR_fill 10 = .ok (.aload_n 0, 1) := by decide +kernel
theorem d_AR_fill_11 : decode b_AR_fill 11 = .ok (.iload_n 2, 1) := by decide +kernel
theorem d_AR_fill_12 : decode b_AR_fill 12 = .ok (.iload_n 1, 1) := by decide +kernel
theorem d_AR_fill_13 : decode b_AR_fill 13 = .ok (.iastore, 1) := by decide +kernel
theorem d_AR_fill_14 : decode b_AR_fill 14 = .ok (.iinc 2 1, 3) := by decide +kernel
theorem d_AR_fill_17 : decode b_AR_fill 17 = .ok (.goto (-12), 3) := by decide +kernel
theorem d_AR_fill_20 : decode b_AR_fill 20 = .ok (.return_, 1) := by decide +kernel
