theorem d_RD_classPart_0 : decode b_RD_classPart 0 = .ok (.aload_n 1, 1) := by decide +kernel
theorem d_RD_classPart_1 : decode b_RD_classPart 1 = .ok (.ifnonnull 5, 3) := by decide +kernel
theorem d_RD_classPart_4 : decode b_RD_classPart 4 = .ok (.aconst_null, 1) := by decide +kernel
theorem d_RD_classPart_5 : decode b_RD_classPart 5 = .ok (.areturn, 1) := by decide +kernel
theorem d_RD_classPart_6 : decode b_RD_classPart 6 = .ok (.new 18, 3) := by decide +kernel
theorem d_RD_classPart_9 : decode b_RD_classPart 9 = .ok (.dup, 1) := by decide +kernel
theorem d_RD_classPart_10 : decode b_RD_classPart 10 = .ok (.iconst 1, 1) := by decide +kernel
theorem d_RD_classPart_11 : decode b_RD_classPart 11 = .ok (.iconst 0, 1) := by decide +kernel
theorem d_RD_classPart_12 : decode b_RD_classPart 12 = .ok (.iconst 2, 1) := by decide +kernel
theorem d_RD_classPart_13 : decode b_RD_classPart 13 = .ok (.iconst 2, 1) := by decide +kernel
theorem d_RD_classPart_14 : decode b_RD_classPart 14 = .ok (.aload_n 1, 1) := by decide +kernel
theorem d_RD_classPart_15 : decode b_RD_classPart 15 = .ok (.arraylength, 1) := by decide +kernel
theorem d_RD_classPart_16 : decode b_RD_classPart 16 = .ok (.imul, 1) := by decide +kernel
theorem d_RD_classPart_17 : decode b_RD_classPart 17 = .ok (.iadd, 1) := by decide +kernel
theorem d_RD_classPart_18 : decode b_RD_classPart 18 = .ok (.iconst 0, 1) := by decide +kernel
theorem d_RD_classPart_19 : decode b_RD_classPart 19 = .ok (.invokespecial 20, 3) := by decide +kernel
theorem d_RD_classPart_22 : decode b_RD_classPart 22 = .ok (.astore_n 2, 1) := by decide +kernel
theorem d_RD_classPart_23 : decode b_RD_classPart 23 = .ok (.aload_n 2, 1) := by decide +kernel
theorem d_RD_classPart_24 : decode b_RD_classPart 24 = .ok (.aload_n 1, 1) := by decide +kernel
theorem d_RD_classPart_25 : decode b_RD_classPart 25 = .ok (.putfield 149, 3) := by decide +kernel
theorem d_RD_classPart_28 : decode b_RD_classPart 28 = .ok (.aload_n 2, 1) := by decide +kernel
theorem d_RD_classPart_29 : decode b_RD_classPart 29 = .ok (.areturn, 1) := by decide +kernel
theorem d_RD_escaped_0 : decode b_RD_escaped 0 = .ok (.iload_n 1, 1) := by decide +kernel
theorem d_RD_escaped_1 : decode b_RD_escaped 1 = .ok (.bipush (-3), 2) := by decide +kernel
theorem d_RD_escaped_3 : decode b_RD_escaped 3 = .ok (.if_icmp .ne 15, 3) := by decide +kernel
theorem d_RD_escaped_6 : decode b_RD_escaped 6 = .ok (.new 18, 3) := by decide +kernel
theorem d_RD_escaped_9 : decode b_RD_escaped 9 = .ok (.dup, 1) := by decide +kernel
theorem d_RD_escaped_10 : decode b_RD_escaped 10 = .ok (.iconst 2, 1) := by decide +kernel
theorem d_RD_escaped_11 : decode b_RD_escaped 11 = .ok (.iconst 0, 1) := by decide +kernel
theorem d_RD_escaped_12 : decode b_RD_escaped 12 = .ok (.iconst 1, 1) := by decide +kernel
theorem d_RD_escaped_13 : decode b_RD_escaped 13 = .ok (.iconst 0, 1) := by decide +kernel
theorem d_RD_escaped_14 : decode b_RD_escaped 14 = .ok (.invokespecial 20, 3) := by decide +kernel
theorem d_RD_escaped_17 : decode b_RD_escaped 17 = .ok (.areturn, 1) := by decide +kernel
theorem d_RD_escaped_18 : decode b_RD_escaped 18 = .ok (.iload_n 1, 1) := by decide +kernel
theorem d_RD_escaped_19 : decode b_RD_escaped 19 = .ok (.bipush (-4), 2) := by decide +kernel
theorem d_RD_escaped_21 : decode b_RD_escaped 21 = .ok (.if_icmp .gt 18, 3) := by decide +kernel
theorem d_RD_escaped_24 : decode b_RD_escaped 24 = .ok (.new 18, 3) := by decide +kernel
theorem d_RD_escaped_27 : decode b_RD_escaped 27 = .ok (.dup, 1) := by decide +kernel
theorem d_RD_escaped_28 : decode b_RD_escaped 28 = .ok (.iconst 3, 1) := by decide +kernel
theorem d_RD_escaped_29 : decode b_RD_escaped 29 = .ok (.bipush (-4), 2) := by decide +kernel
theorem d_RD_escaped_31 : decode b_RD_escaped 31 = .ok (.iload_n 1, 1) := by decide +kernel
theorem d_RD_escaped_32 : decode b_RD_escaped 32 = .ok (.isub, 1) := by decide +kernel
theorem d_RD_escaped_33 : decode b_RD_escaped 33 = .ok (.iconst 1, 1) := by decide +kernel
theorem d_RD_escaped_34 : decode b_RD_escaped 34 = .ok (.iconst 1, 1) := by decide +kernel
theorem d_RD_escaped_35 : decode b_RD_escaped 35 = .ok (.invokespecial 20, 3) := by decide +kernel
theorem d_RD_escaped_38 : decode b_RD_escaped 38 = .ok (.areturn, 1) := by decide +kernel
theorem d_RD_escaped_39 : decode b_RD_escaped 39 = .ok (.aload_n 0, 1) := by decide +kernel
theorem d_RD_escaped_40 : decode b_RD_escaped 40 = .ok (.getfield 12, 3) := by decide +kernel
theorem d_RD_escaped_43 : decode b_RD_escaped 43 = .ok (.getfield 126, 3) := by decide +kernel
theorem d_RD_escaped_46 : decode b_RD_escaped 46 = .ok (.invokevirtual 130, 3) := by decide +kernel
theorem d_RD_escaped_49 : decode b_RD_escaped 49 = .ok (.aload_n 0, 1) := by decide +kernel
theorem d_RD_escaped_50 : decode b_RD_escaped 50 = .ok (.getfield 12, 3) := by decide +kernel
theorem d_RD_escaped_53 : decode b_RD_escaped 53 = .ok (.getfield 126, 3) := by decide +kernel
theorem d_RD_escaped_56 : decode b_RD_escaped 56 = .ok (.aload_n 0, 1) := by decide +kernel
theorem d_RD_escaped_57 : decode b_RD_escaped 57 = .ok (.getfield 12, 3) := by decide +kernel
theorem d_RD_escaped_60 : decode b_RD_escaped 60 = .ok (.getfield 135, 3) := by decide +kernel
theorem d_RD_escaped_63 : decode b_RD_escaped 63 = .ok (.aload_n 0, 1) := by decide +kernel
theorem d_RD_escaped_64 : decode b_RD_escaped 64 = .ok (.getfield 12, 3) := by decide +kernel
theorem d_RD_escaped_67 : decode b_RD_escaped 67 = .ok (.getfield 138, 3) := by decide +kernel
theorem d_RD_escaped_70 : decode b_RD_escaped 70 = .ok (.invokevirtual 142, 3) := by decide +kernel
theorem d_RD_escaped_73 : decode b_RD_escaped 73 = .ok (.aload_n 0, 1) := by decide +kernel
theorem d_RD_escaped_74 : decode b_RD_escaped 74 = .ok (.aload_n 0, 1) := by decide +kernel
theorem d_RD_escaped_75 : decode b_RD_escaped 75 = .ok (.getfield 12, 3) := by decide +kernel
theorem d_RD_escaped_78 : decode b_RD_escaped 78 = .ok (.getfield 126, 3) := by decide +kernel
theorem d_RD_escaped_81 : decode b_RD_escaped 81 = .ok (.iconst 0, 1) := by decide +kernel
theorem d_RD_escaped_82 : decode b_RD_escaped 82 = .ok (.invokevirtual 146, 3) := by decide +kernel
theorem d_RD_escaped_85 : decode b_RD_escaped 85 = .ok (.invokevirtual 102, 3) := by decide +kernel
theorem d_RD_escaped_88 : decode b_RD_escaped 88 = .ok (.areturn, 1) := by decide +kernel
theorem d_RD_literal_0 : decode b_RD_literal 0 = .ok (.iload_n 1, 1) := by decide +kernel
theorem d_RD_literal_1 : decode b_RD_literal 1 = .ok (.iconst (-1), 1) := by decide +kernel
theorem d_RD_literal_2 : decode b_RD_literal 2 = .ok (.if_icmp .ne 5, 3) := by decide +kernel
theorem d_RD_literal_5 : decode b_RD_literal 5 = .ok (.aconst_null, 1) := by decide +kernel
theorem d_RD_literal_6 : decode b_RD_literal 6 = .ok (.areturn, 1) := by decide +kernel
theorem d_RD_literal_7 : decode b_RD_literal 7 = .ok (.aload_n 0, 1) := by decide +kernel
theorem d_RD_literal_8 : decode b_RD_literal 8 = .ok (.iconst 1, 1) := by decide +kernel
theorem d_RD_literal_9 : decode b_RD_literal 9 = .ok (.invokevirtual 94, 3) := by decide +kernel
theorem d_RD_literal_12 : decode b_RD_literal 12 = .ok (.ifCond .eq 58, 3) := by decide +kernel
theorem d_RD_literal_15 : decode b_RD_literal 15 = .ok (.aload_n 0, 1) := by decide +kernel
theorem d_RD_literal_16 : decode b_RD_literal 16 = .ok (.getfield 12, 3) := by decide +kernel
theorem d_RD_literal_19 : decode b_RD_literal 19 = .ok (.getfield 126, 3) := by decide +kernel
theorem d_RD_literal_22 : decode b_RD_literal 22 = .ok (.invokevirtual 130, 3) := by decide +kernel
theorem d_RD_literal_25 : decode b_RD_literal 25 = .ok (.aload_n 0, 1) := by decide +kernel
theorem d_RD_literal_26 : decode b_RD_literal 26 = .ok (.getfield 12, 3) := by decide +kernel
theorem d_RD_literal_29 : decode b_RD_literal 29 = .ok (.getfield 126, 3) := by decide +kernel
theorem d_RD_literal_32 : decode b_RD_literal 32 = .ok (.iload_n 1, 1) := by decide +kernel
theorem d_RD_literal_33 : decode b_RD_literal 33 = .ok (.iload_n 1, 1) := by decide +kernel
theorem d_RD_literal_34 : decode b_RD_literal 34 = .ok (.invokevirtual 151, 3) := by decide +kernel
theorem d_RD_literal_37 : decode b_RD_literal 37 = .ok (.aload_n 0, 1) := by decide +kernel
theorem d_RD_literal_38 : decode b_RD_literal 38 = .ok (.getfield 12, 3) := by decide +kernel
theorem d_RD_literal_41 : decode b_RD_literal 41 = .ok (.getfield 126, 3) := by decide +kernel
theorem d_RD_literal_44 : decode b_RD_literal 44 = .ok (.iconst 0, 1) := by decide +kernel
theorem d_RD_literal_45 : decode b_RD_literal 45 = .ok (.invokevirtual 146, 3) := by decide +kernel
theorem d_RD_literal_48 : decode b_RD_literal 48 = .ok (.astore_n 2, 1) := by decide +kernel
theorem d_RD_literal_49 : decode b_RD_literal 49 = .ok (.aload_n 2, 1) := by decide +kernel
theorem d_RD_literal_50 : decode b_RD_literal 50 = .ok (.arraylength, 1) := by decide +kernel
theorem d_RD_literal_51 : decode b_RD_literal 51 = .ok (.iconst 2, 1) := by decide +kernel
theorem d_RD_literal_52 : decode b_RD_literal 52 = .ok (.if_icmp .gt 12, 3) := by decide +kernel
theorem d_RD_literal_55 : decode b_RD_literal 55 = .ok (.aload_n 2, 1) := by decide +kernel
theorem d_RD_literal_56 : decode b_RD_literal 56 = .ok (.iconst 0, 1) := by decide +kernel
theorem d_RD_literal_57 : decode b_RD_literal 57 = .ok (.iaload, 1) := by decide +kernel
theorem d_RD_literal_58 : decode b_RD_literal 58 = .ok (.aload_n 2, 1) := by decide +kernel
theorem d_RD_literal_59 : decode b_RD_literal 59 = .ok (.iconst 1, 1) := by decide +kernel
theorem d_RD_literal_60 : decode b_RD_literal 60 = .ok (.iaload, 1) := by decide +kernel
theorem d_RD_literal_61 : decode b_RD_literal 61 = .ok (.if_icmp .ge 9, 3) := by decide +kernel
theorem d_RD_literal_64 : decode b_RD_literal 64 = .ok (.aload_n 0, 1) := by decide +kernel
theorem d_RD_literal_65 : decode b_RD_literal 65 = .ok (.aload_n 2, 1) := by decide +kernel
theorem d_RD_literal_66 : decode b_RD_literal 66 = .ok (.invokevirtual 102, 3) := by decide +kernel
theorem d_RD_literal_69 : decode b_RD_literal 69 = .ok (.areturn, 1) := by decide +kernel
theorem d_RD_literal_70 : decode b_RD_literal 70 = .ok (.new 18, 3) := by decide +kernel
theorem d_RD_literal_73 : decode b_RD_literal 73 = .ok (.dup, 1) := by decide +kernel
theorem d_RD_literal_74 : decode b_RD_literal 74 = .ok (.iconst 0, 1) := by decide +kernel
theorem d_RD_literal_75 : decode b_RD_literal 75 = .ok (.iload_n 1, 1) := by decide +kernel
theorem d_RD_literal_76 : decode b_RD_literal 76 = .ok (.iconst 1, 1) := by decide +kernel
theorem d_RD_literal_77 : decode b_RD_literal 77 = .ok (.iconst 0, 1) := by decide +kernel
theorem d_RD_literal_78 : decode b_RD_literal 78 = .ok (.invokespecial 20, 3) := by decide +kernel
theorem d_RD_literal_81 : decode b_RD_literal 81 = .ok (.areturn, 1) := by decide +kernel
