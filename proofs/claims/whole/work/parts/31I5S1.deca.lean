theorem d_PW_compile_0 : decode b_PW_compile 0 = .ok (.iload_n 1, 1) := by decide +kernel
theorem d_PW_compile_1 : decode b_PW_compile 1 = .ok (.ifCond .lt 19, 3) := by decide +kernel
theorem d_PW_compile_4 : decode b_PW_compile 4 = .ok (.iload_n 1, 1) := by decide +kernel
theorem d_PW_compile_5 : decode b_PW_compile 5 = .ok (.bipush 6, 2) := by decide +kernel
theorem d_PW_compile_7 : decode b_PW_compile 7 = .ok (.if_icmp .ge 13, 3) := by decide +kernel
theorem d_PW_compile_10 : decode b_PW_compile 10 = .ok (.iload_n 2, 1) := by decide +kernel
theorem d_PW_compile_11 : decode b_PW_compile 11 = .ok (.ifCond .lt 9, 3) := by decide +kernel
theorem d_PW_compile_14 : decode b_PW_compile 14 = .ok (.iload_n 2, 1) := by decide +kernel
theorem d_PW_compile_15 : decode b_PW_compile 15 = .ok (.bipush 31, 2) := by decide +kernel
theorem d_PW_compile_17 : decode b_PW_compile 17 = .ok (.if_icmp .le 13, 3) := by decide +kernel
theorem d_PW_compile_20 : decode b_PW_compile 20 = .ok (.new 109, 3) := by decide +kernel
theorem d_PW_compile_23 : decode b_PW_compile 23 = .ok (.dup, 1) := by decide +kernel
theorem d_PW_compile_24 : decode b_PW_compile 24 = .ok (.ldc 111, 2) := by decide +kernel
theorem d_PW_compile_26 : decode b_PW_compile 26 = .ok (.invokespecial 113, 3) := by decide +kernel
theorem d_PW_compile_29 : decode b_PW_compile 29 = .ok (.athrow, 1) := by decide +kernel
theorem d_PW_compile_30 : decode b_PW_compile 30 = .ok (.aload_n 0, 1) := by decide +kernel
theorem d_PW_compile_31 : decode b_PW_compile 31 = .ok (.getfield 25, 3) := by decide +kernel
theorem d_PW_compile_34 : decode b_PW_compile 34 = .ok (.aload_n 0, 1) := by decide +kernel
theorem d_PW_compile_35 : decode b_PW_compile 35 = .ok (.getfield 18, 3) := by decide +kernel
theorem d_PW_compile_38 : decode b_PW_compile 38 = .ok (.iload_n 2, 1) := by decide +kernel
theorem d_PW_compile_39 : decode b_PW_compile 39 = .ok (.invokevirtual 116, 3) := by decide +kernel
theorem d_PW_compile_42 : decode b_PW_compile 42 = .ok (.astore_n 3, 1) := by decide +kernel
theorem d_PW_compile_43 : decode b_PW_compile 43 = .ok (.aload_n 0, 1) := by decide +kernel
theorem d_PW_compile_44 : decode b_PW_compile 44 = .ok (.getfield 18, 3) := by decide +kernel
theorem d_PW_compile_47 : decode b_PW_compile 47 = .ok (.invokevirtual 120, 3) := by decide +kernel
theorem d_PW_compile_50 : decode b_PW_compile 50 = .ok (.aload_n 3, 1) := by decide +kernel
theorem d_PW_compile_51 : decode b_PW_compile 51 = .ok (.ifnonnull 13, 3) := by decide +kernel
theorem d_PW_compile_54 : decode b_PW_compile 54 = .ok (.new 109, 3) := by decide +kernel
theorem d_PW_compile_57 : decode b_PW_compile 57 = .ok (.dup, 1) := by decide +kernel
theorem d_PW_compile_58 : decode b_PW_compile 58 = .ok (.ldc 123, 2) := by decide +kernel
theorem d_PW_compile_60 : decode b_PW_compile 60 = .ok (.invokespecial 113, 3) := by decide +kernel
theorem d_PW_compile_63 : decode b_PW_compile 63 = .ok (.athrow, 1) := by decide +kernel
theorem d_PW_compile_64 : decode b_PW_compile 64 = .ok (.aload_n 0, 1) := by decide +kernel
theorem d_PW_compile_65 : decode b_PW_compile 65 = .ok (.getfield 31, 3) := by decide +kernel
theorem d_PW_compile_68 : decode b_PW_compile 68 = .ok (.iload_n 1, 1) := by decide +kernel
theorem d_PW_compile_69 : decode b_PW_compile 69 = .ok (.aaload, 1) := by decide +kernel
theorem d_PW_compile_70 : decode b_PW_compile 70 = .ok (.ifnonnull 16, 3) := by decide +kernel
theorem d_PW_compile_73 : decode b_PW_compile 73 = .ok (.aload_n 0, 1) := by decide +kernel
theorem d_PW_compile_74 : decode b_PW_compile 74 = .ok (.getfield 31, 3) := by decide +kernel
theorem d_PW_compile_77 : decode b_PW_compile 77 = .ok (.iload_n 1, 1) := by decide +kernel
theorem d_PW_compile_78 : decode b_PW_compile 78 = .ok (.new 29, 3) := by decide +kernel
theorem d_PW_compile_81 : decode b_PW_compile 81 = .ok (.dup, 1) := by decide +kernel
theorem d_PW_compile_82 : decode b_PW_compile 82 = .ok (.invokespecial 125, 3) := by decide +kernel
theorem d_PW_compile_85 : decode b_PW_compile 85 = .ok (.aastore, 1) := by decide +kernel
theorem d_PW_compile_86 : decode b_PW_compile 86 = .ok (.aload_n 0, 1) := by decide +kernel
theorem d_PW_compile_87 : decode b_PW_compile 87 = .ok (.dup, 1) := by decide +kernel
theorem d_PW_compile_88 : decode b_PW_compile 88 = .ok (.getfield 126, 3) := by decide +kernel
theorem d_PW_compile_91 : decode b_PW_compile 91 = .ok (.iconst 1, 1) := by decide +kernel
theorem d_PW_compile_92 : decode b_PW_compile 92 = .ok (.iadd, 1) := by decide +kernel
theorem d_PW_compile_93 : decode b_PW_compile 93 = .ok (.putfield 126, 3) := by decide +kernel
theorem d_PW_compile_96 : decode b_PW_compile 96 = .ok (.aload_n 0, 1) := by decide +kernel
theorem d_PW_compile_97 : decode b_PW_compile 97 = .ok (.getfield 31, 3) := by decide +kernel
theorem d_PW_compile_100 : decode b_PW_compile 100 = .ok (.iload_n 1, 1) := by decide +kernel
theorem d_PW_compile_101 : decode b_PW_compile 101 = .ok (.aaload, 1) := by decide +kernel
theorem d_PW_compile_102 : decode b_PW_compile 102 = .ok (.aload_n 3, 1) := by decide +kernel
theorem d_PW_compile_103 : decode b_PW_compile 103 = .ok (.aload_n 0, 1) := by decide +kernel
theorem d_PW_compile_104 : decode b_PW_compile 104 = .ok (.getfield 25, 3) := by decide +kernel
theorem d_PW_compile_107 : decode b_PW_compile 107 = .ok (.iload_n 2, 1) := by decide +kernel
theorem d_PW_compile_108 : decode b_PW_compile 108 = .ok (.aload_n 0, 1) := by decide +kernel
theorem d_PW_compile_109 : decode b_PW_compile 109 = .ok (.getfield 126, 3) := by decide +kernel
theorem d_PW_compile_112 : decode b_PW_compile 112 = .ok (.invokevirtual 129, 3) := by decide +kernel
theorem d_PW_compile_115 : decode b_PW_compile 115 = .ok (.aload_n 0, 1) := by decide +kernel
theorem d_PW_compile_116 : decode b_PW_compile 116 = .ok (.getfield 31, 3) := by decide +kernel
theorem d_PW_compile_119 : decode b_PW_compile 119 = .ok (.iload_n 1, 1) := by decide +kernel
theorem d_PW_compile_120 : decode b_PW_compile 120 = .ok (.aaload, 1) := by decide +kernel
theorem d_PW_compile_121 : decode b_PW_compile 121 = .ok (.getfield 133, 3) := by decide +kernel
theorem d_PW_compile_124 : decode b_PW_compile 124 = .ok (.ireturn, 1) := by decide +kernel
