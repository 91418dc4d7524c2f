theorem d_SU_isWordByte_0 : decode b_SU_isWordByte 0 = .ok (.iload_n 1, 1) := by decide +kernel
theorem d_SU_isWordByte_1 : decode b_SU_isWordByte 1 = .ok (.ifCond .lt 27, 3) := by decide +kernel
theorem d_SU_isWordByte_4 : decode b_SU_isWordByte 4 = .ok (.iload_n 1, 1) := by decide +kernel
theorem d_SU_isWordByte_5 : decode b_SU_isWordByte 5 = .ok (.aload_n 0, 1) := by decide +kernel
theorem d_SU_isWordByte_6 : decode b_SU_isWordByte 6 = .ok (.getfield 34, 3) := by decide +kernel
theorem d_SU_isWordByte_9 : decode b_SU_isWordByte 9 = .ok (.if_icmp .ge 19, 3) := by decide +kernel
theorem d_SU_isWordByte_12 : decode b_SU_isWordByte 12 = .ok (.aload_n 0, 1) := by decide +kernel
theorem d_SU_isWordByte_13 : decode b_SU_isWordByte 13 = .ok (.getfield 9, 3) := by decide +kernel
theorem d_SU_isWordByte_16 : decode b_SU_isWordByte 16 = .ok (.iload_n 1, 1) := by decide +kernel
theorem d_SU_isWordByte_17 : decode b_SU_isWordByte 17 = .ok (.iaload, 1) := by decide +kernel
theorem d_SU_isWordByte_18 : decode b_SU_isWordByte 18 = .ok (.invokestatic 62, 3) := by decide +kernel
theorem d_SU_isWordByte_21 : decode b_SU_isWordByte 21 = .ok (.ifCond .eq 7, 3) := by decide +kernel
theorem d_SU_isWordByte_24 : decode b_SU_isWordByte 24 = .ok (.iconst 1, 1) := by decide +kernel
theorem d_SU_isWordByte_25 : decode b_SU_isWordByte 25 = .ok (.goto 4, 3) := by decide +kernel
theorem d_SU_isWordByte_28 : decode b_SU_isWordByte 28 = .ok (.iconst 0, 1) := by decide +kernel
theorem d_SU_isWordByte_29 : decode b_SU_isWordByte 29 = .ok (.ireturn, 1) := by decide +kernel
theorem d_SU_holdingAt_0 : decode b_SU_holdingAt 0 = .ok (.aload_n 0, 1) := by decide +kernel
theorem d_SU_holdingAt_1 : decode b_SU_holdingAt 1 = .ok (.iload_n 1, 1) := by decide +kernel
theorem d_SU_holdingAt_2 : decode b_SU_holdingAt 2 = .ok (.iconst 1, 1) := by decide +kernel
theorem d_SU_holdingAt_3 : decode b_SU_holdingAt 3 = .ok (.isub, 1) := by decide +kernel
theorem d_SU_holdingAt_4 : decode b_SU_holdingAt 4 = .ok (.invokevirtual 66, 3) := by decide +kernel
theorem d_SU_holdingAt_7 : decode b_SU_holdingAt 7 = .ok (.aload_n 0, 1) := by decide +kernel
theorem d_SU_holdingAt_8 : decode b_SU_holdingAt 8 = .ok (.iload_n 1, 1) := by decide +kernel
theorem d_SU_holdingAt_9 : decode b_SU_holdingAt 9 = .ok (.invokevirtual 66, 3) := by decide +kernel
theorem d_SU_holdingAt_12 : decode b_SU_holdingAt 12 = .ok (.if_icmp .eq 8, 3) := by decide +kernel
theorem d_SU_holdingAt_15 : decode b_SU_holdingAt 15 = .ok (.bipush 16, 2) := by decide +kernel
theorem d_SU_holdingAt_17 : decode b_SU_holdingAt 17 = .ok (.goto 5, 3) := by decide +kernel
theorem d_SU_holdingAt_20 : decode b_SU_holdingAt 20 = .ok (.bipush 32, 2) := by decide +kernel
theorem d_SU_holdingAt_22 : decode b_SU_holdingAt 22 = .ok (.istore_n 2, 1) := by decide +kernel
theorem d_SU_holdingAt_23 : decode b_SU_holdingAt 23 = .ok (.iload_n 2, 1) := by decide +kernel
theorem d_SU_holdingAt_24 : decode b_SU_holdingAt 24 = .ok (.iload_n 1, 1) := by decide +kernel
theorem d_SU_holdingAt_25 : decode b_SU_holdingAt 25 = .ok (.ifCond .ne 7, 3) := by decide +kernel
theorem d_SU_holdingAt_28 : decode b_SU_holdingAt 28 = .ok (.iconst 1, 1) := by decide +kernel
theorem d_SU_holdingAt_29 : decode b_SU_holdingAt 29 = .ok (.goto 4, 3) := by decide +kernel
theorem d_SU_holdingAt_32 : decode b_SU_holdingAt 32 = .ok (.iconst 0, 1) := by decide +kernel
theorem d_SU_holdingAt_33 : decode b_SU_holdingAt 33 = .ok (.ior, 1) := by decide +kernel
theorem d_SU_holdingAt_34 : decode b_SU_holdingAt 34 = .ok (.istore_n 2, 1) := by decide +kernel
theorem d_SU_holdingAt_35 : decode b_SU_holdingAt 35 = .ok (.iload_n 2, 1) := by decide +kernel
theorem d_SU_holdingAt_36 : decode b_SU_holdingAt 36 = .ok (.iload_n 1, 1) := by decide +kernel
theorem d_SU_holdingAt_37 : decode b_SU_holdingAt 37 = .ok (.aload_n 0, 1) := by decide +kernel
theorem d_SU_holdingAt_38 : decode b_SU_holdingAt 38 = .ok (.getfield 34, 3) := by decide +kernel
theorem d_SU_holdingAt_41 : decode b_SU_holdingAt 41 = .ok (.if_icmp .ne 7, 3) := by decide +kernel
theorem d_SU_holdingAt_44 : decode b_SU_holdingAt 44 = .ok (.iconst 2, 1) := by decide +kernel
theorem d_SU_holdingAt_45 : decode b_SU_holdingAt 45 = .ok (.goto 4, 3) := by decide +kernel
theorem d_SU_holdingAt_48 : decode b_SU_holdingAt 48 = .ok (.iconst 0, 1) := by decide +kernel
theorem d_SU_holdingAt_49 : decode b_SU_holdingAt 49 = .ok (.ior, 1) := by decide +kernel
theorem d_SU_holdingAt_50 : decode b_SU_holdingAt 50 = .ok (.istore_n 2, 1) := by decide +kernel
theorem d_SU_holdingAt_51 : decode b_SU_holdingAt 51 = .ok (.iload_n 2, 1) := by decide +kernel
theorem d_SU_holdingAt_52 : decode b_SU_holdingAt 52 = .ok (.iload_n 1, 1) := by decide +kernel
theorem d_SU_holdingAt_53 : decode b_SU_holdingAt 53 = .ok (.ifCond .eq 13, 3) := by decide +kernel
theorem d_SU_holdingAt_56 : decode b_SU_holdingAt 56 = .ok (.aload_n 0, 1) := by decide +kernel
theorem d_SU_holdingAt_57 : decode b_SU_holdingAt 57 = .ok (.iload_n 1, 1) := by decide +kernel
theorem d_SU_holdingAt_58 : decode b_SU_holdingAt 58 = .ok (.iconst 1, 1) := by decide +kernel
theorem d_SU_holdingAt_59 : decode b_SU_holdingAt 59 = .ok (.isub, 1) := by decide +kernel
theorem d_SU_holdingAt_60 : decode b_SU_holdingAt 60 = .ok (.invokevirtual 69, 3) := by decide +kernel
theorem d_SU_holdingAt_63 : decode b_SU_holdingAt 63 = .ok (.ifCond .eq 7, 3) := by decide +kernel
theorem d_SU_holdingAt_66 : decode b_SU_holdingAt 66 = .ok (.iconst 4, 1) := by decide +kernel
theorem d_SU_holdingAt_67 : decode b_SU_holdingAt 67 = .ok (.goto 4, 3) := by decide +kernel
theorem d_SU_holdingAt_70 : decode b_SU_holdingAt 70 = .ok (.iconst 0, 1) := by decide +kernel
theorem d_SU_holdingAt_71 : decode b_SU_holdingAt 71 = .ok (.ior, 1) := by decide +kernel
theorem d_SU_holdingAt_72 : decode b_SU_holdingAt 72 = .ok (.istore_n 2, 1) := by decide +kernel
theorem d_SU_holdingAt_73 : decode b_SU_holdingAt 73 = .ok (.iload_n 2, 1) := by decide +kernel
theorem d_SU_holdingAt_74 : decode b_SU_holdingAt 74 = .ok (.iload_n 1, 1) := by decide +kernel
theorem d_SU_holdingAt_75 : decode b_SU_holdingAt 75 = .ok (.aload_n 0, 1) := by decide +kernel
theorem d_SU_holdingAt_76 : decode b_SU_holdingAt 76 = .ok (.getfield 34, 3) := by decide +kernel
theorem d_SU_holdingAt_79 : decode b_SU_holdingAt 79 = .ok (.if_icmp .eq 11, 3) := by decide +kernel
theorem d_SU_holdingAt_82 : decode b_SU_holdingAt 82 = .ok (.aload_n 0, 1) := by decide +kernel
theorem d_SU_holdingAt_83 : decode b_SU_holdingAt 83 = .ok (.iload_n 1, 1) := by decide +kernel
theorem d_SU_holdingAt_84 : decode b_SU_holdingAt 84 = .ok (.invokevirtual 69, 3) := by decide +kernel
theorem d_SU_holdingAt_87 : decode b_SU_holdingAt 87 = .ok (.ifCond .eq 8, 3) := by decide +kernel
theorem d_SU_holdingAt_90 : decode b_SU_holdingAt 90 = .ok (.bipush 8, 2) := by decide +kernel
theorem d_SU_holdingAt_92 : decode b_SU_holdingAt 92 = .ok (.goto 4, 3) := by decide +kernel
theorem d_SU_holdingAt_95 : decode b_SU_holdingAt 95 = .ok (.iconst 0, 1) := by decide +kernel
theorem d_SU_holdingAt_96 : decode b_SU_holdingAt 96 = .ok (.ior, 1) := by decide +kernel
theorem d_SU_holdingAt_97 : decode b_SU_holdingAt 97 = .ok (.istore_n 2, 1) := by decide +kernel
theorem d_SU_holdingAt_98 : decode b_SU_holdingAt 98 = .ok (.iload_n 2, 1) := by decide +kernel
theorem d_SU_holdingAt_99 : decode b_SU_holdingAt 99 = .ok (.ireturn, 1) := by decide +kernel
theorem d_SU_init_0 : decode b_SU_init 0 = .ok (.aload_n 0, 1) := by decide +kernel
theorem d_SU_init_1 : decode b_SU_init 1 = .ok (.invokespecial 3, 3) := by decide +kernel
theorem d_SU_init_4 : decode b_SU_init 4 = .ok (.aload_n 0, 1) := by decide +kernel
theorem d_SU_init_5 : decode b_SU_init 5 = .ok (.bipush 32, 2) := by decide +kernel
theorem d_SU_init_7 : decode b_SU_init 7 = .ok (.newarray .int, 2) := by decide +kernel
theorem d_SU_init_9 : decode b_SU_init 9 = .ok (.putfield 9, 3) := by decide +kernel
theorem d_SU_init_12 : decode b_SU_init 12 = .ok (.aload_n 0, 1) := by decide +kernel
theorem d_SU_init_13 : decode b_SU_init 13 = .ok (.bipush 33, 2) := by decide +kernel
theorem d_SU_init_15 : decode b_SU_init 15 = .ok (.newarray .int, 2) := by decide +kernel
theorem d_SU_init_17 : decode b_SU_init 17 = .ok (.putfield 15, 3) := by decide +kernel
theorem d_SU_init_20 : decode b_SU_init 20 = .ok (.aload_n 0, 1) := by decide +kernel
theorem d_SU_init_21 : decode b_SU_init 21 = .ok (.bipush 33, 2) := by decide +kernel
theorem d_SU_init_23 : decode b_SU_init 23 = .ok (.newarray .int, 2) := by decide +kernel
theorem d_SU_init_25 : decode b_SU_init 25 = .ok (.putfield 18, 3) := by decide +kernel
theorem d_SU_init_28 : decode b_SU_init 28 = .ok (.aload_n 0, 1) := by decide +kernel
theorem d_SU_init_29 : decode b_SU_init 29 = .ok (.bipush 33, 2) := by decide +kernel
theorem d_SU_init_31 : decode b_SU_init 31 = .ok (.newarray .int, 2) := by decide +kernel
theorem d_SU_init_33 : decode b_SU_init 33 = .ok (.putfield 21, 3) := by decide +kernel
theorem d_SU_init_36 : decode b_SU_init 36 = .ok (.aload_n 0, 1) := by decide +kernel
theorem d_SU_init_37 : decode b_SU_init 37 = .ok (.getfield 15, 3) := by decide +kernel
theorem d_SU_init_40 : decode b_SU_init 40 = .ok (.iconst 0, 1) := by decide +kernel
theorem d_SU_init_41 : decode b_SU_init 41 = .ok (.iconst (-1), 1) := by decide +kernel
theorem d_SU_init_42 : decode b_SU_init 42 = .ok (.iastore, 1) := by decide +kernel
theorem d_SU_init_43 : decode b_SU_init 43 = .ok (.aload_n 0, 1) := by decide +kernel
theorem d_SU_init_44 : decode b_SU_init 44 = .ok (.getfield 21, 3) := by decide +kernel
theorem d_SU_init_47 : decode b_SU_init 47 = .ok (.iconst 0, 1) := by decide +kernel
theorem d_SU_init_48 : decode b_SU_init 48 = .ok (.aload_n 0, 1) := by decide +kernel
theorem d_SU_init_49 : decode b_SU_init 49 = .ok (.iconst 0, 1) := by decide +kernel
theorem d_SU_init_50 : decode b_SU_init 50 = .ok (.invokevirtual 24, 3) := by decide +kernel
theorem d_SU_init_53 : decode b_SU_init 53 = .ok (.iastore, 1) := by decide +kernel
theorem d_SU_init_54 : decode b_SU_init 54 = .ok (.return_, 1) := by decide +kernel
