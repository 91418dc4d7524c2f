theorem d_PR_bytesTaken_0 : decode b_PR_bytesTaken 0 = .ok (.aload_n 0, 1) := by decide +kernel
theorem d_PR_bytesTaken_1 : decode b_PR_bytesTaken 1 = .ok (.getfield 9, 3) := by decide +kernel
theorem d_PR_bytesTaken_4 : decode b_PR_bytesTaken 4 = .ok (.iload_n 1, 1) := by decide +kernel
theorem d_PR_bytesTaken_5 : decode b_PR_bytesTaken 5 = .ok (.iaload, 1) := by decide +kernel
theorem d_PR_bytesTaken_6 : decode b_PR_bytesTaken 6 = .ok (.iconst 2, 1) := by decide +kernel
theorem d_PR_bytesTaken_7 : decode b_PR_bytesTaken 7 = .ok (.if_icmp .ne 17, 3) := by decide +kernel
theorem d_PR_bytesTaken_10 : decode b_PR_bytesTaken 10 = .ok (.iload_n 3, 1) := by decide +kernel
theorem d_PR_bytesTaken_11 : decode b_PR_bytesTaken 11 = .ok (.aload_n 2, 1) := by decide +kernel
theorem d_PR_bytesTaken_12 : decode b_PR_bytesTaken 12 = .ok (.getfield 109, 3) := by decide +kernel
theorem d_PR_bytesTaken_15 : decode b_PR_bytesTaken 15 = .ok (.if_icmp .ge 7, 3) := by decide +kernel
theorem d_PR_bytesTaken_18 : decode b_PR_bytesTaken 18 = .ok (.iconst 1, 1) := by decide +kernel
theorem d_PR_bytesTaken_19 : decode b_PR_bytesTaken 19 = .ok (.goto 4, 3) := by decide +kernel
theorem d_PR_bytesTaken_22 : decode b_PR_bytesTaken 22 = .ok (.iconst 0, 1) := by decide +kernel
theorem d_PR_bytesTaken_23 : decode b_PR_bytesTaken 23 = .ok (.ireturn, 1) := by decide +kernel
theorem d_PR_bytesTaken_24 : decode b_PR_bytesTaken 24 = .ok (.aload_n 2, 1) := by decide +kernel
theorem d_PR_bytesTaken_25 : decode b_PR_bytesTaken 25 = .ok (.getfield 114, 3) := by decide +kernel
theorem d_PR_bytesTaken_28 : decode b_PR_bytesTaken 28 = .ok (.iload_n 3, 1) := by decide +kernel
theorem d_PR_bytesTaken_29 : decode b_PR_bytesTaken 29 = .ok (.iaload, 1) := by decide +kernel
theorem d_PR_bytesTaken_30 : decode b_PR_bytesTaken 30 = .ok (.istore 4, 2) := by decide +kernel
theorem d_PR_bytesTaken_32 : decode b_PR_bytesTaken 32 = .ok (.iload 4, 2) := by decide +kernel
theorem d_PR_bytesTaken_34 : decode b_PR_bytesTaken 34 = .ok (.iconst (-1), 1) := by decide +kernel
theorem d_PR_bytesTaken_35 : decode b_PR_bytesTaken 35 = .ok (.if_icmp .eq 22, 3) := by decide +kernel
theorem d_PR_bytesTaken_38 : decode b_PR_bytesTaken 38 = .ok (.aload_n 0, 1) := by decide +kernel
theorem d_PR_bytesTaken_39 : decode b_PR_bytesTaken 39 = .ok (.iload_n 1, 1) := by decide +kernel
theorem d_PR_bytesTaken_40 : decode b_PR_bytesTaken 40 = .ok (.iload 4, 2) := by decide +kernel
theorem d_PR_bytesTaken_42 : decode b_PR_bytesTaken 42 = .ok (.invokevirtual 117, 3) := by decide +kernel
theorem d_PR_bytesTaken_45 : decode b_PR_bytesTaken 45 = .ok (.ifCond .eq 12, 3) := by decide +kernel
theorem d_PR_bytesTaken_48 : decode b_PR_bytesTaken 48 = .ok (.aload_n 2, 1) := by decide +kernel
theorem d_PR_bytesTaken_49 : decode b_PR_bytesTaken 49 = .ok (.getfield 121, 3) := by decide +kernel
theorem d_PR_bytesTaken_52 : decode b_PR_bytesTaken 52 = .ok (.iload_n 3, 1) := by decide +kernel
theorem d_PR_bytesTaken_53 : decode b_PR_bytesTaken 53 = .ok (.iaload, 1) := by decide +kernel
theorem d_PR_bytesTaken_54 : decode b_PR_bytesTaken 54 = .ok (.goto 4, 3) := by decide +kernel
theorem d_PR_bytesTaken_57 : decode b_PR_bytesTaken 57 = .ok (.iconst 0, 1) := by decide +kernel
theorem d_PR_bytesTaken_58 : decode b_PR_bytesTaken 58 = .ok (.ireturn, 1) := by decide +kernel
theorem d_PR_isOn_0 : decode b_PR_isOn 0 = .ok (.aload_n 0, 1) := by decide +kernel
theorem d_PR_isOn_1 : decode b_PR_isOn 1 = .ok (.getfield 30, 3) := by decide +kernel
theorem d_PR_isOn_4 : decode b_PR_isOn 4 = .ok (.iload_n 1, 1) := by decide +kernel
theorem d_PR_isOn_5 : decode b_PR_isOn 5 = .ok (.iand, 1) := by decide +kernel
theorem d_PR_isOn_6 : decode b_PR_isOn 6 = .ok (.ifCond .eq 7, 3) := by decide +kernel
theorem d_PR_isOn_9 : decode b_PR_isOn 9 = .ok (.iconst 1, 1) := by decide +kernel
theorem d_PR_isOn_10 : decode b_PR_isOn 10 = .ok (.goto 4, 3) := by decide +kernel
theorem d_PR_isOn_13 : decode b_PR_isOn 13 = .ok (.iconst 0, 1) := by decide +kernel
theorem d_PR_isOn_14 : decode b_PR_isOn 14 = .ok (.ireturn, 1) := by decide +kernel
theorem d_PR_nameByte_0 : decode b_PR_nameByte 0 = .ok (.iload_n 1, 1) := by decide +kernel
theorem d_PR_nameByte_1 : decode b_PR_nameByte 1 = .ok (.iconst 1, 1) := by decide +kernel
theorem d_PR_nameByte_2 : decode b_PR_nameByte 2 = .ok (.if_icmp .lt 29, 3) := by decide +kernel
theorem d_PR_nameByte_5 : decode b_PR_nameByte 5 = .ok (.iload_n 1, 1) := by decide +kernel
theorem d_PR_nameByte_6 : decode b_PR_nameByte 6 = .ok (.aload_n 0, 1) := by decide +kernel
theorem d_PR_nameByte_7 : decode b_PR_nameByte 7 = .ok (.getfield 42, 3) := by decide +kernel
theorem d_PR_nameByte_10 : decode b_PR_nameByte 10 = .ok (.if_icmp .gt 21, 3) := by decide +kernel
theorem d_PR_nameByte_13 : decode b_PR_nameByte 13 = .ok (.iload_n 2, 1) := by decide +kernel
theorem d_PR_nameByte_14 : decode b_PR_nameByte 14 = .ok (.ifCond .lt 17, 3) := by decide +kernel
theorem d_PR_nameByte_17 : decode b_PR_nameByte 17 = .ok (.iload_n 2, 1) := by decide +kernel
theorem d_PR_nameByte_18 : decode b_PR_nameByte 18 = .ok (.aload_n 0, 1) := by decide +kernel
theorem d_PR_nameByte_19 : decode b_PR_nameByte 19 = .ok (.getfield 27, 3) := by decide +kernel
theorem d_PR_nameByte_22 : decode b_PR_nameByte 22 = .ok (.iload_n 1, 1) := by decide +kernel
theorem d_PR_nameByte_23 : decode b_PR_nameByte 23 = .ok (.iaload, 1) := by decide +kernel
theorem d_PR_nameByte_24 : decode b_PR_nameByte 24 = .ok (.if_icmp .ge 7, 3) := by decide +kernel
theorem d_PR_nameByte_27 : decode b_PR_nameByte 27 = .ok (.iconst 1, 1) := by decide +kernel
theorem d_PR_nameByte_28 : decode b_PR_nameByte 28 = .ok (.goto 4, 3) := by decide +kernel
theorem d_PR_nameByte_31 : decode b_PR_nameByte 31 = .ok (.iconst 0, 1) := by decide +kernel
theorem d_PR_nameByte_32 : decode b_PR_nameByte 32 = .ok (.istore_n 3, 1) := by decide +kernel
theorem d_PR_nameByte_33 : decode b_PR_nameByte 33 = .ok (.iload_n 3, 1) := by decide +kernel
theorem d_PR_nameByte_34 : decode b_PR_nameByte 34 = .ok (.ifCond .eq 17, 3) := by decide +kernel
theorem d_PR_nameByte_37 : decode b_PR_nameByte 37 = .ok (.aload_n 0, 1) := by decide +kernel
theorem d_PR_nameByte_38 : decode b_PR_nameByte 38 = .ok (.getfield 24, 3) := by decide +kernel
theorem d_PR_nameByte_41 : decode b_PR_nameByte 41 = .ok (.iload_n 1, 1) := by decide +kernel
theorem d_PR_nameByte_42 : decode b_PR_nameByte 42 = .ok (.bipush 12, 2) := by decide +kernel
theorem d_PR_nameByte_44 : decode b_PR_nameByte 44 = .ok (.imul, 1) := by decide +kernel
theorem d_PR_nameByte_45 : decode b_PR_nameByte 45 = .ok (.iload_n 2, 1) := by decide +kernel
theorem d_PR_nameByte_46 : decode b_PR_nameByte 46 = .ok (.iadd, 1) := by decide +kernel
theorem d_PR_nameByte_47 : decode b_PR_nameByte 47 = .ok (.iaload, 1) := by decide +kernel
theorem d_PR_nameByte_48 : decode b_PR_nameByte 48 = .ok (.goto 4, 3) := by decide +kernel
theorem d_PR_nameByte_51 : decode b_PR_nameByte 51 = .ok (.iconst (-1), 1) := by decide +kernel
theorem d_PR_nameByte_52 : decode b_PR_nameByte 52 = .ok (.ireturn, 1) := by decide +kernel
theorem d_PR_used_0 : decode b_PR_used 0 = .ok (.lload_n 0, 1) := by decide +kernel
theorem d_PR_used_1 : decode b_PR_used 1 = .ok (.l2i, 1) := by decide +kernel
theorem d_PR_used_2 : decode b_PR_used 2 = .ok (.ireturn, 1) := by decide +kernel
theorem d_SU_holds_0 : decode b_SU_holds 0 = .ok (.aload_n 0, 1) := by decide +kernel
theorem d_SU_holds_1 : decode b_SU_holds 1 = .ok (.getfield 21, 3) := by decide +kernel
theorem d_SU_holds_4 : decode b_SU_holds 4 = .ok (.iload_n 2, 1) := by decide +kernel
theorem d_SU_holds_5 : decode b_SU_holds 5 = .ok (.iaload, 1) := by decide +kernel
theorem d_SU_holds_6 : decode b_SU_holds 6 = .ok (.iload_n 1, 1) := by decide +kernel
theorem d_SU_holds_7 : decode b_SU_holds 7 = .ok (.ishr, 1) := by decide +kernel
theorem d_SU_holds_8 : decode b_SU_holds 8 = .ok (.iconst 1, 1) := by decide +kernel
theorem d_SU_holds_9 : decode b_SU_holds 9 = .ok (.iand, 1) := by decide +kernel
theorem d_SU_holds_10 : decode b_SU_holds 10 = .ok (.ifCond .eq 7, 3) := by decide +kernel
theorem d_SU_holds_13 : decode b_SU_holds 13 = .ok (.iconst 1, 1) := by decide +kernel
theorem d_SU_holds_14 : decode b_SU_holds 14 = .ok (.goto 4, 3) := by decide +kernel
theorem d_SU_holds_17 : decode b_SU_holds 17 = .ok (.iconst 0, 1) := by decide +kernel
theorem d_SU_holds_18 : decode b_SU_holds 18 = .ok (.ireturn, 1) := by decide +kernel
