theorem d_PR_add_0 : decode b_PR_add 0 = .ok (.aload_n 0, 1) := by decide +kernel
theorem d_PR_add_1 : decode b_PR_add 1 = .ok (.getfield 74, 3) := by decide +kernel
theorem d_PR_add_4 : decode b_PR_add 4 = .ok (.sipush 808, 3) := by decide +kernel
theorem d_PR_add_7 : decode b_PR_add 7 = .ok (.if_icmp .lt 5, 3) := by decide +kernel
theorem d_PR_add_10 : decode b_PR_add 10 = .ok (.iconst 0, 1) := by decide +kernel
theorem d_PR_add_11 : decode b_PR_add 11 = .ok (.ireturn, 1) := by decide +kernel
theorem d_PR_add_12 : decode b_PR_add 12 = .ok (.aload_n 0, 1) := by decide +kernel
theorem d_PR_add_13 : decode b_PR_add 13 = .ok (.getfield 9, 3) := by decide +kernel
theorem d_PR_add_16 : decode b_PR_add 16 = .ok (.aload_n 0, 1) := by decide +kernel
theorem d_PR_add_17 : decode b_PR_add 17 = .ok (.getfield 74, 3) := by decide +kernel
theorem d_PR_add_20 : decode b_PR_add 20 = .ok (.iload_n 1, 1) := by decide +kernel
theorem d_PR_add_21 : decode b_PR_add 21 = .ok (.iastore, 1) := by decide +kernel
theorem d_PR_add_22 : decode b_PR_add 22 = .ok (.aload_n 0, 1) := by decide +kernel
theorem d_PR_add_23 : decode b_PR_add 23 = .ok (.getfield 15, 3) := by decide +kernel
theorem d_PR_add_26 : decode b_PR_add 26 = .ok (.aload_n 0, 1) := by decide +kernel
theorem d_PR_add_27 : decode b_PR_add 27 = .ok (.getfield 74, 3) := by decide +kernel
theorem d_PR_add_30 : decode b_PR_add 30 = .ok (.iload_n 2, 1) := by decide +kernel
theorem d_PR_add_31 : decode b_PR_add 31 = .ok (.iastore, 1) := by decide +kernel
theorem d_PR_add_32 : decode b_PR_add 32 = .ok (.aload_n 0, 1) := by decide +kernel
theorem d_PR_add_33 : decode b_PR_add 33 = .ok (.getfield 18, 3) := by decide +kernel
theorem d_PR_add_36 : decode b_PR_add 36 = .ok (.aload_n 0, 1) := by decide +kernel
theorem d_PR_add_37 : decode b_PR_add 37 = .ok (.getfield 74, 3) := by decide +kernel
theorem d_PR_add_40 : decode b_PR_add 40 = .ok (.iload_n 3, 1) := by decide +kernel
theorem d_PR_add_41 : decode b_PR_add 41 = .ok (.iastore, 1) := by decide +kernel
theorem d_PR_add_42 : decode b_PR_add 42 = .ok (.aload_n 0, 1) := by decide +kernel
theorem d_PR_add_43 : decode b_PR_add 43 = .ok (.dup, 1) := by decide +kernel
theorem d_PR_add_44 : decode b_PR_add 44 = .ok (.getfield 80, 3) := by decide +kernel
theorem d_PR_add_47 : decode b_PR_add 47 = .ok (.iload_n 1, 1) := by decide +kernel
theorem d_PR_add_48 : decode b_PR_add 48 = .ok (.iconst 3, 1) := by decide +kernel
theorem d_PR_add_49 : decode b_PR_add 49 = .ok (.if_icmp .ne 7, 3) := by decide +kernel
theorem d_PR_add_52 : decode b_PR_add 52 = .ok (.iconst 1, 1) := by decide +kernel
theorem d_PR_add_53 : decode b_PR_add 53 = .ok (.goto 4, 3) := by decide +kernel
theorem d_PR_add_56 : decode b_PR_add 56 = .ok (.iconst 0, 1) := by decide +kernel
theorem d_PR_add_57 : decode b_PR_add 57 = .ok (.ior, 1) := by decide +kernel
theorem d_PR_add_58 : decode b_PR_add 58 = .ok (.putfield 80, 3) := by decide +kernel
theorem d_PR_add_61 : decode b_PR_add 61 = .ok (.aload_n 0, 1) := by decide +kernel
theorem d_PR_add_62 : decode b_PR_add 62 = .ok (.dup, 1) := by decide +kernel
theorem d_PR_add_63 : decode b_PR_add 63 = .ok (.getfield 74, 3) := by decide +kernel
theorem d_PR_add_66 : decode b_PR_add 66 = .ok (.iconst 1, 1) := by decide +kernel
theorem d_PR_add_67 : decode b_PR_add 67 = .ok (.iadd, 1) := by decide +kernel
theorem d_PR_add_68 : decode b_PR_add 68 = .ok (.putfield 74, 3) := by decide +kernel
theorem d_PR_add_71 : decode b_PR_add 71 = .ok (.aload_n 0, 1) := by decide +kernel
theorem d_PR_add_72 : decode b_PR_add 72 = .ok (.getfield 74, 3) := by decide +kernel
theorem d_PR_add_75 : decode b_PR_add 75 = .ok (.iconst 1, 1) := by decide +kernel
theorem d_PR_add_76 : decode b_PR_add 76 = .ok (.isub, 1) := by decide +kernel
theorem d_PR_add_77 : decode b_PR_add 77 = .ok (.ireturn, 1) := by decide +kernel
theorem d_PR_bytesTaken_0 : decode b_PR_bytesTaken 0 = .ok (.aload_n 0, 1) := by decide +kernel
theorem d_PR_bytesTaken_1 : decode b_PR_bytesTaken 1 = .ok (.getfield 9, 3) := by decide +kernel
theorem d_PR_bytesTaken_4 : decode b_PR_bytesTaken 4 = .ok (.iload_n 1, 1) := by decide +kernel
theorem d_PR_bytesTaken_5 : decode b_PR_bytesTaken 5 = .ok (.iaload, 1) := by decide +kernel
theorem d_PR_bytesTaken_6 : decode b_PR_bytesTaken 6 = .ok (.iconst 2, 1) := by decide +kernel
theorem d_PR_bytesTaken_7 : decode b_PR_bytesTaken 7 = .ok (.if_icmp .ne 17, 3) := by decide +kernel
theorem d_PR_bytesTaken_10 : decode b_PR_bytesTaken 10 = .ok (.iload_n 3, 1) := by decide +kernel
theorem d_PR_bytesTaken_11 : decode b_PR_bytesTaken 11 = .ok (.aload_n 2, 1) := by decide +kernel
theorem d_PR_bytesTaken_12 : decode b_PR_bytesTaken 12 = .ok (.getfield 109, 3) := by decide +kernel
theorem d_PR_bytesTaken_15 : decode b_PR_bytesTaken 15 = .ok (.if_icmp .ge 7, 3) := by decide +kernel
theorem d_PR_bytesTaken_18 : decode b_PR_bytesTaken 18 = .ok (.iconst 1, 1) := by decide +kernel
theorem d_PR_bytesTaken_19 : decode b_PR_bytesTaken 19 = .ok (.goto 4, 3) := by decide +kernel
theorem d_PR_bytesTaken_22 : decode b_PR_bytesTaken 22 = .ok (.iconst 0, 1) := by decide +kernel
theorem d_PR_bytesTaken_23 : decode b_PR_bytesTaken 23 = .ok (.ireturn, 1) := by decide +kernel
theorem d_PR_bytesTaken_24 : decode b_PR_bytesTaken 24 = .ok (.aload_n 2, 1) := by decide +kernel
theorem d_PR_bytesTaken_25 : decode b_PR_bytesTaken 25 = .ok (.getfield 114, 3) := by decide +kernel
theorem d_PR_bytesTaken_28 : decode b_PR_bytesTaken 28 = .ok (.iload_n 3, 1) := by decide +kernel
theorem d_PR_bytesTaken_29 : decode b_PR_bytesTaken 29 = .ok (.iaload, 1) := by decide +kernel
theorem d_PR_bytesTaken_30 : decode b_PR_bytesTaken 30 = .ok (.istore 4, 2) := by decide +kernel
theorem d_PR_bytesTaken_32 : decode b_PR_bytesTaken 32 = .ok (.iload 4, 2) := by decide +kernel
theorem d_PR_bytesTaken_34 : decode b_PR_bytesTaken 34 = .ok (.iconst (-1), 1) := by decide +kernel
theorem d_PR_bytesTaken_35 : decode b_PR_bytesTaken 35 = .ok (.if_icmp .eq 22, 3) := by decide +kernel
theorem d_PR_bytesTaken_38 : decode b_PR_bytesTaken 38 = .ok (.aload_n 0, 1) := by decide +kernel
theorem d_PR_bytesTaken_39 : decode b_PR_bytesTaken 39 = .ok (.iload_n 1, 1) := by decide +kernel
theorem d_PR_bytesTaken_40 : decode b_PR_bytesTaken 40 = .ok (.iload 4, 2) := by decide +kernel
theorem d_PR_bytesTaken_42 : decode b_PR_bytesTaken 42 = .ok (.invokevirtual 117, 3) := by decide +kernel
theorem d_PR_bytesTaken_45 : decode b_PR_bytesTaken 45 = .ok (.ifCond .eq 12, 3) := by decide +kernel
theorem d_PR_bytesTaken_48 : decode b_PR_bytesTaken 48 = .ok (.aload_n 2, 1) := by decide +kernel
theorem d_PR_bytesTaken_49 : decode b_PR_bytesTaken 49 = .ok (.getfield 121, 3) := by decide +kernel
theorem d_PR_bytesTaken_52 : decode b_PR_bytesTaken 52 = .ok (.iload_n 3, 1) := by decide +kernel
theorem d_PR_bytesTaken_53 : decode b_PR_bytesTaken 53 = .ok (.iaload, 1) := by decide +kernel
theorem d_PR_bytesTaken_54 : decode b_PR_bytesTaken 54 = .ok (.goto 4, 3) := by decide +kernel
theorem d_PR_bytesTaken_57 : decode b_PR_bytesTaken 57 = .ok (.iconst 0, 1) := by decide +kernel
theorem d_PR_bytesTaken_58 : decode b_PR_bytesTaken 58 = .ok (.ireturn, 1) := by decide +kernel
theorem d_PR_fresh_0 : decode b_PR_fresh 0 = .ok (.lload_n 0, 1) := by decide +kernel
theorem d_PR_fresh_1 : decode b_PR_fresh 1 = .ok (.bipush 32, 2) := by decide +kernel
theorem d_PR_fresh_3 : decode b_PR_fresh 3 = .ok (.lshr, 1) := by decide +kernel
theorem d_PR_fresh_4 : decode b_PR_fresh 4 = .ok (.l2i, 1) := by decide +kernel
theorem d_PR_fresh_5 : decode b_PR_fresh 5 = .ok (.ireturn, 1) := by decide +kernel
theorem d_PR_isOn_0 : decode b_PR_isOn 0 = .ok (.aload_n 0, 1) := by decide +kernel
theorem d_PR_isOn_1 : decode b_PR_isOn 1 = .ok (.getfield 30, 3) := by decide +kernel
theorem d_PR_isOn_4 : decode b_PR_isOn 4 = .ok (.iload_n 1, 1) := by decide +kernel
theorem d_PR_isOn_5 : decode b_PR_isOn 5 = .ok (.iand, 1) := by decide +kernel
theorem d_PR_isOn_6 : decode b_PR_isOn 6 = .ok (.ifCond .eq 7, 3) := by decide +kernel
theorem d_PR_isOn_9 : decode b_PR_isOn 9 = .ok (.iconst 1, 1) := by decide +kernel
theorem d_PR_isOn_10 : decode b_PR_isOn 10 = .ok (.goto 4, 3) := by decide +kernel
theorem d_PR_isOn_13 : decode b_PR_isOn 13 = .ok (.iconst 0, 1) := by decide +kernel
theorem d_PR_isOn_14 : decode b_PR_isOn 14 = .ok (.ireturn, 1) := by decide +kernel
theorem d_PR_nameByte_0 : decode b_PR_nameByte 0 = .ok (.iload_n 1, 1) := by decide +kernel
theorem d_PR_nameByte_1 : decode b_PR_nameByte 1 = .ok (.iconst 1, 1) := by decide +kernel
theorem d_PR_nameByte_2 : decode b_PR_nameByte 2 = .ok (.if_icmp .lt 29, 3) := by decide +kernel
theorem d_PR_nameByte_5 : decode b_PR_nameByte 5 = .ok (.iload_n 1, 1) := by decide +kernel
theorem d_PR_nameByte_6 : decode b_PR_nameByte 6 = .ok (.aload_n 0, 1) := by decide +kernel
theorem d_PR_nameByte_7 : decode b_PR_nameByte 7 = .ok (.getfield 42, 3) := by decide +kernel
theorem d_PR_nameByte_10 : decode b_PR_nameByte 10 = .ok (.if_icmp .gt 21, 3) := by decide +kernel
theorem d_PR_nameByte_13 : decode b_PR_nameByte 13 = .ok (.iload_n 2, 1) := by decide +kernel
theorem d_PR_nameByte_14 : decode b_PR_nameByte 14 = .ok (.ifCond .lt 17, 3) := by decide +kernel
theorem d_PR_nameByte_17 : decode b_PR_nameByte 17 = .ok (.iload_n 2, 1) := by decide +kernel
theorem d_PR_nameByte_18 : decode b_PR_nameByte 18 = .ok (.aload_n 0, 1) := by decide +kernel
theorem d_PR_nameByte_19 : decode b_PR_nameByte 19 = .ok (.getfield 27, 3) := by decide +kernel
theorem d_PR_nameByte_22 : decode b_PR_nameByte 22 = .ok (.iload_n 1, 1) := by decide +kernel
theorem d_PR_nameByte_23 : decode b_PR_nameByte 23 = .ok (.iaload, 1) := by decide +kernel
theorem d_PR_nameByte_24 : decode b_PR_nameByte 24 = .ok (.if_icmp .ge 7, 3) := by decide +kernel
theorem d_PR_nameByte_27 : decode b_PR_nameByte 27 = .ok (.iconst 1, 1) := by decide +kernel
theorem d_PR_nameByte_28 : decode b_PR_nameByte 28 = .ok (.goto 4, 3) := by decide +kernel
theorem d_PR_nameByte_31 : decode b_PR_nameByte 31 = .ok (.iconst 0, 1) := by decide +kernel
theorem d_PR_nameByte_32 : decode b_PR_nameByte 32 = .ok (.istore_n 3, 1) := by decide +kernel
theorem d_PR_nameByte_33 : decode b_PR_nameByte 33 = .ok (.iload_n 3, 1) := by decide +kernel
theorem d_PR_nameByte_34 : decode b_PR_nameByte 34 = .ok (.ifCond .eq 17, 3) := by decide +kernel
theorem d_PR_nameByte_37 : decode b_PR_nameByte 37 = .ok (.aload_n 0, 1) := by decide +kernel
theorem d_PR_nameByte_38 : decode b_PR_nameByte 38 = .ok (.getfield 24, 3) := by decide +kernel
theorem d_PR_nameByte_41 : decode b_PR_nameByte 41 = .ok (.iload_n 1, 1) := by decide +kernel
theorem d_PR_nameByte_42 : decode b_PR_nameByte 42 = .ok (.bipush 12, 2) := by decide +kernel
theorem d_PR_nameByte_44 : decode b_PR_nameByte 44 = .ok (.imul, 1) := by decide +kernel
theorem d_PR_nameByte_45 : decode b_PR_nameByte 45 = .ok (.iload_n 2, 1) := by decide +kernel
theorem d_PR_nameByte_46 : decode b_PR_nameByte 46 = .ok (.iadd, 1) := by decide +kernel
theorem d_PR_nameByte_47 : decode b_PR_nameByte 47 = .ok (.iaload, 1) := by decide +kernel
theorem d_PR_nameByte_48 : decode b_PR_nameByte 48 = .ok (.goto 4, 3) := by decide +kernel
theorem d_PR_nameByte_51 : decode b_PR_nameByte 51 = .ok (.iconst (-1), 1) := by decide +kernel
theorem d_PR_nameByte_52 : decode b_PR_nameByte 52 = .ok (.ireturn, 1) := by decide +kernel
theorem d_PR_pair_0 : decode b_PR_pair 0 = .ok (.iload_n 0, 1) := by decide +kernel
theorem d_PR_pair_1 : decode b_PR_pair 1 = .ok (.i2l, 1) := by decide +kernel
theorem d_PR_pair_2 : decode b_PR_pair 2 = .ok (.bipush 32, 2) := by decide +kernel
theorem d_PR_pair_4 : decode b_PR_pair 4 = .ok (.lshl, 1) := by decide +kernel
theorem d_PR_pair_5 : decode b_PR_pair 5 = .ok (.iload_n 1, 1) := by decide +kernel
theorem d_PR_pair_6 : decode b_PR_pair 6 = .ok (.i2l, 1) := by decide +kernel
theorem d_PR_pair_7 : decode b_PR_pair 7 = .ok (.lor, 1) := by decide +kernel
theorem d_PR_pair_8 : decode b_PR_pair 8 = .ok (.lreturn, 1) := by decide +kernel
theorem d_PR_used_0 : decode b_PR_used 0 = .ok (.lload_n 0, 1) := by decide +kernel
theorem d_PR_used_1 : decode b_PR_used 1 = .ok (.l2i, 1) := by decide +kernel
theorem d_PR_used_2 : decode b_PR_used 2 = .ok (.ireturn, 1) := by decide +kernel
theorem d_SU_holds_0 : decode b_SU_holds 0 = .ok (.aload_n 0, 1) := by decide +kernel
theorem d_SU_holds_1 : decode b_SU_holds 1 = .ok (.getfield 21, 3) := by decide +kernel
theorem d_SU_holds_4 : decode b_SU_holds 4 = .ok (.iload_n 2, 1) := by decide +kernel
theorem d_SU_holds_5 : decode b_SU_holds 5 = .ok (.iaload, 1) := by decide +kernel
theorem d_SU_holds_6 : decode b_SU_holds 6 = .ok (.iload_n 1, 1) := by decide +kernel
theorem d_SU_holds_7 : decode b_SU_holds 7 = .ok (.ishr, 1) := by decide +kernel
theorem d_SU_holds_8 : decode b_SU_holds 8 = .ok (.iconst 1, 1) := by decide +kernel
theorem d_SU_holds_9 : decode b_SU_holds 9 = .ok (.iand, 1) := by decide +kernel
theorem d_SU_holds_10 : decode b_SU_holds 10 = .ok (.ifCond .eq 7, 3) := by decide +kernel
theorem d_SU_holds_13 : decode b_SU_holds 13 = .ok (.iconst 1, 1) := by decide +kernel
theorem d_SU_holds_14 : decode b_SU_holds 14 = .ok (.goto 4, 3) := by decide +kernel
theorem d_SU_holds_17 : decode b_SU_holds 17 = .ok (.iconst 0, 1) := by decide +kernel
theorem d_SU_holds_18 : decode b_SU_holds 18 = .ok (.ireturn, 1) := by decide +kernel
theorem d_SU_take_0 : decode b_SU_take 0 = .ok (.aload_n 0, 1) := by decide +kernel
theorem d_SU_take_1 : decode b_SU_take 1 = .ok (.aload_n 1, 1) := by decide +kernel
theorem d_SU_take_2 : decode b_SU_take 2 = .ok (.getfield 28, 3) := by decide +kernel
theorem d_SU_take_5 : decode b_SU_take 5 = .ok (.putfield 34, 3) := by decide +kernel
theorem d_SU_take_8 : decode b_SU_take 8 = .ok (.aload_n 0, 1) := by decide +kernel
theorem d_SU_take_9 : decode b_SU_take 9 = .ok (.getfield 34, 3) := by decide +kernel
theorem d_SU_take_12 : decode b_SU_take 12 = .ok (.aload_n 0, 1) := by decide +kernel
theorem d_SU_take_13 : decode b_SU_take 13 = .ok (.getfield 9, 3) := by decide +kernel
theorem d_SU_take_16 : decode b_SU_take 16 = .ok (.arraylength, 1) := by decide +kernel
theorem d_SU_take_17 : decode b_SU_take 17 = .ok (.if_icmp .le 58, 3) := by decide +kernel
theorem d_SU_take_20 : decode b_SU_take 20 = .ok (.aload_n 0, 1) := by decide +kernel
theorem d_SU_take_21 : decode b_SU_take 21 = .ok (.getfield 34, 3) := by decide +kernel
theorem d_SU_take_24 : decode b_SU_take 24 = .ok (.sipush 2000, 3) := by decide +kernel
theorem d_SU_take_27 : decode b_SU_take 27 = .ok (.iconst 2, 1) := by decide +kernel
theorem d_SU_take_28 : decode b_SU_take 28 = .ok (.aload_n 0, 1) := by decide +kernel
theorem d_SU_take_29 : decode b_SU_take 29 = .ok (.getfield 9, 3) := by decide +kernel
theorem d_SU_take_32 : decode b_SU_take 32 = .ok (.arraylength, 1) := by decide +kernel
theorem d_SU_take_33 : decode b_SU_take 33 = .ok (.imul, 1) := by decide +kernel
theorem d_SU_take_34 : decode b_SU_take 34 = .ok (.invokestatic 37, 3) := by decide +kernel
theorem d_SU_take_37 : decode b_SU_take 37 = .ok (.invokestatic 43, 3) := by decide +kernel
theorem d_SU_take_40 : decode b_SU_take 40 = .ok (.istore_n 2, 1) := by decide +kernel
theorem d_SU_take_41 : decode b_SU_take 41 = .ok (.aload_n 0, 1) := by decide +kernel
theorem d_SU_take_42 : decode b_SU_take 42 = .ok (.iload_n 2, 1) := by decide +kernel
theorem d_SU_take_43 : decode b_SU_take 43 = .ok (.newarray .int, 2) := by decide +kernel
theorem d_SU_take_45 : decode b_SU_take 45 = .ok (.putfield 9, 3) := by decide +kernel
theorem d_SU_take_48 : decode b_SU_take 48 = .ok (.aload_n 0, 1) := by decide +kernel
theorem d_SU_take_49 : decode b_SU_take 49 = .ok (.iload_n 2, 1) := by decide +kernel
theorem d_SU_take_50 : decode b_SU_take 50 = .ok (.iconst 1, 1) := by decide +kernel
theorem d_SU_take_51 : decode b_SU_take 51 = .ok (.iadd, 1) := by decide +kernel
theorem d_SU_take_52 : decode b_SU_take 52 = .ok (.newarray .int, 2) := by decide +kernel
theorem d_SU_take_54 : decode b_SU_take 54 = .ok (.putfield 15, 3) := by decide +kernel
theorem d_SU_take_57 : decode b_SU_take 57 = .ok (.aload_n 0, 1) := by decide +kernel
theorem d_SU_take_58 : decode b_SU_take 58 = .ok (.iload_n 2, 1) := by decide +kernel
theorem d_SU_take_59 : decode b_SU_take 59 = .ok (.iconst 1, 1) := by decide +kernel
theorem d_SU_take_60 : decode b_SU_take 60 = .ok (.iadd, 1) := by decide +kernel
theorem d_SU_take_61 : decode b_SU_take 61 = .ok (.newarray .int, 2) := by decide +kernel
theorem d_SU_take_63 : decode b_SU_take 63 = .ok (.putfield 18, 3) := by decide +kernel
theorem d_SU_take_66 : decode b_SU_take 66 = .ok (.aload_n 0, 1) := by decide +kernel
theorem d_SU_take_67 : decode b_SU_take 67 = .ok (.iload_n 2, 1) := by decide +kernel
theorem d_SU_take_68 : decode b_SU_take 68 = .ok (.iconst 1, 1) := by decide +kernel
theorem d_SU_take_69 : decode b_SU_take 69 = .ok (.iadd, 1) := by decide +kernel
theorem d_SU_take_70 : decode b_SU_take 70 = .ok (.newarray .int, 2) := by decide +kernel
theorem d_SU_take_72 : decode b_SU_take 72 = .ok (.putfield 21, 3) := by decide +kernel
theorem d_SU_take_75 : decode b_SU_take 75 = .ok (.aload_n 1, 1) := by decide +kernel
theorem d_SU_take_76 : decode b_SU_take 76 = .ok (.getfield 46, 3) := by decide +kernel
theorem d_SU_take_79 : decode b_SU_take 79 = .ok (.iconst 0, 1) := by decide +kernel
theorem d_SU_take_80 : decode b_SU_take 80 = .ok (.aload_n 0, 1) := by decide +kernel
theorem d_SU_take_81 : decode b_SU_take 81 = .ok (.getfield 9, 3) := by decide +kernel
theorem d_SU_take_84 : decode b_SU_take 84 = .ok (.iconst 0, 1) := by decide +kernel
theorem d_SU_take_85 : decode b_SU_take 85 = .ok (.aload_n 0, 1) := by decide +kernel
theorem d_SU_take_86 : decode b_SU_take 86 = .ok (.getfield 34, 3) := by decide +kernel
theorem d_SU_take_89 : decode b_SU_take 89 = .ok (.invokestatic 49, 3) := by decide +kernel
theorem d_SU_take_92 : decode b_SU_take 92 = .ok (.iconst 0, 1) := by decide +kernel
theorem d_SU_take_93 : decode b_SU_take 93 = .ok (.istore_n 2, 1) := by decide +kernel
theorem d_SU_take_94 : decode b_SU_take 94 = .ok (.iconst 0, 1) := by decide +kernel
theorem d_SU_take_95 : decode b_SU_take 95 = .ok (.istore_n 3, 1) := by decide +kernel
theorem d_SU_take_96 : decode b_SU_take 96 = .ok (.iload_n 3, 1) := by decide +kernel
theorem d_SU_take_97 : decode b_SU_take 97 = .ok (.aload_n 0, 1) := by decide +kernel
theorem d_SU_take_98 : decode b_SU_take 98 = .ok (.getfield 34, 3) := by decide +kernel
theorem d_SU_take_101 : decode b_SU_take 101 = .ok (.if_icmp .gt 75, 3) := by decide +kernel
theorem d_SU_take_104 : decode b_SU_take 104 = .ok (.aload_n 0, 1) := by decide +kernel
theorem d_SU_take_105 : decode b_SU_take 105 = .ok (.getfield 15, 3) := by decide +kernel
theorem d_SU_take_108 : decode b_SU_take 108 = .ok (.iload_n 3, 1) := by decide +kernel
theorem d_SU_take_109 : decode b_SU_take 109 = .ok (.aload_n 0, 1) := by decide +kernel
theorem d_SU_take_110 : decode b_SU_take 110 = .ok (.getfield 9, 3) := by decide +kernel
theorem d_SU_take_113 : decode b_SU_take 113 = .ok (.iload_n 3, 1) := by decide +kernel
theorem d_SU_take_114 : decode b_SU_take 114 = .ok (.aload_n 0, 1) := by decide +kernel
theorem d_SU_take_115 : decode b_SU_take 115 = .ok (.getfield 34, 3) := by decide +kernel
theorem d_SU_take_118 : decode b_SU_take 118 = .ok (.invokestatic 55, 3) := by decide +kernel
theorem d_SU_take_121 : decode b_SU_take 121 = .ok (.iastore, 1) := by decide +kernel
theorem d_SU_take_122 : decode b_SU_take 122 = .ok (.aload_n 0, 1) := by decide +kernel
theorem d_SU_take_123 : decode b_SU_take 123 = .ok (.getfield 15, 3) := by decide +kernel
theorem d_SU_take_126 : decode b_SU_take 126 = .ok (.iload_n 3, 1) := by decide +kernel
theorem d_SU_take_127 : decode b_SU_take 127 = .ok (.iaload, 1) := by decide +kernel
theorem d_SU_take_128 : decode b_SU_take 128 = .ok (.iconst (-1), 1) := by decide +kernel
theorem d_SU_take_129 : decode b_SU_take 129 = .ok (.if_icmp .ne 13, 3) := by decide +kernel
theorem d_SU_take_132 : decode b_SU_take 132 = .ok (.iload_n 2, 1) := by decide +kernel
theorem d_SU_take_133 : decode b_SU_take 133 = .ok (.iconst 1, 1) := by decide +kernel
theorem d_SU_take_134 : decode b_SU_take 134 = .ok (.isub, 1) := by decide +kernel
theorem d_SU_take_135 : decode b_SU_take 135 = .ok (.iconst 0, 1) := by decide +kernel
theorem d_SU_take_136 : decode b_SU_take 136 = .ok (.invokestatic 43, 3) := by decide +kernel
theorem d_SU_take_139 : decode b_SU_take 139 = .ok (.goto 12, 3) := by decide +kernel
theorem d_SU_take_142 : decode b_SU_take 142 = .ok (.aload_n 0, 1) := by decide +kernel
theorem d_SU_take_143 : decode b_SU_take 143 = .ok (.getfield 15, 3) := by decide +kernel
theorem d_SU_take_146 : decode b_SU_take 146 = .ok (.iload_n 3, 1) := by decide +kernel
theorem d_SU_take_147 : decode b_SU_take 147 = .ok (.iaload, 1) := by decide +kernel
theorem d_SU_take_148 : decode b_SU_take 148 = .ok (.invokestatic 59, 3) := by decide +kernel
theorem d_SU_take_151 : decode b_SU_take 151 = .ok (.istore_n 2, 1) := by decide +kernel
theorem d_SU_take_152 : decode b_SU_take 152 = .ok (.aload_n 0, 1) := by decide +kernel
theorem d_SU_take_153 : decode b_SU_take 153 = .ok (.getfield 18, 3) := by decide +kernel
theorem d_SU_take_156 : decode b_SU_take 156 = .ok (.iload_n 3, 1) := by decide +kernel
theorem d_SU_take_157 : decode b_SU_take 157 = .ok (.iload_n 2, 1) := by decide +kernel
theorem d_SU_take_158 : decode b_SU_take 158 = .ok (.iastore, 1) := by decide +kernel
theorem d_SU_take_159 : decode b_SU_take 159 = .ok (.aload_n 0, 1) := by decide +kernel
theorem d_SU_take_160 : decode b_SU_take 160 = .ok (.getfield 21, 3) := by decide +kernel
theorem d_SU_take_163 : decode b_SU_take 163 = .ok (.iload_n 3, 1) := by decide +kernel
theorem d_SU_take_164 : decode b_SU_take 164 = .ok (.aload_n 0, 1) := by decide +kernel
theorem d_SU_take_165 : decode b_SU_take 165 = .ok (.iload_n 3, 1) := by decide +kernel
theorem d_SU_take_166 : decode b_SU_take 166 = .ok (.invokevirtual 24, 3) := by decide +kernel
theorem d_SU_take_169 : decode b_SU_take 169 = .ok (.iastore, 1) := by decide +kernel
theorem d_SU_take_170 : decode b_SU_take 170 = .ok (.iinc 3 1, 3) := by decide +kernel
theorem d_SU_take_173 : decode b_SU_take 173 = .ok (.goto (-77), 3) := by decide +kernel
theorem d_SU_take_176 : decode b_SU_take 176 = .ok (.return_, 1) := by decide +kernel
