theorem d_MO_which_18 : decode b_MO_which 18 = .ok (.iload 4, 2) := by decide +kernel
theorem d_MO_which_20 : decode b_MO_which 20 = .ok (.ishr, 1) := by decide +kernel
theorem d_MO_which_21 : decode b_MO_which 21 = .ok (.iconst 1, 1) := by decide +kernel
theorem d_MO_which_22 : decode b_MO_which 22 = .ok (.iand, 1) := by decide +kernel
theorem d_MO_which_23 : decode b_MO_which 23 = .ok (.ifCond .eq 110, 3) := by decide +kernel
theorem d_MO_which_26 : decode b_MO_which 26 = .ok (.aload_n 0, 1) := by decide +kernel
theorem d_MO_which_27 : decode b_MO_which 27 = .ok (.getfield 109, 3) := by decide +kernel
theorem d_MO_which_30 : decode b_MO_which 30 = .ok (.iload 4, 2) := by decide +kernel
theorem d_MO_which_32 : decode b_MO_which 32 = .ok (.baload, 1) := by decide +kernel
theorem d_MO_which_33 : decode b_MO_which 33 = .ok (.ifCond .ne 6, 3) := by decide +kernel
theorem d_MO_which_36 : decode b_MO_which 36 = .ok (.goto 97, 3) := by decide +kernel
theorem d_MO_which_39 : decode b_MO_which 39 = .ok (.aload_n 0, 1) := by decide +kernel
theorem d_MO_which_40 : decode b_MO_which 40 = .ok (.aload_n 0, 1) := by decide +kernel
theorem d_MO_which_41 : decode b_MO_which 41 = .ok (.getfield 178, 3) := by decide +kernel
theorem d_MO_which_44 : decode b_MO_which 44 = .ok (.iload 4, 2) := by decide +kernel
theorem d_MO_which_46 : decode b_MO_which 46 = .ok (.aload_n 0, 1) := by decide +kernel
theorem d_MO_which_47 : decode b_MO_which 47 = .ok (.getfield 510, 3) := by decide +kernel
theorem d_MO_which_50 : decode b_MO_which 50 = .ok (.iconst 0, 1) := by decide +kernel
theorem d_MO_which_51 : decode b_MO_which 51 = .ok (.iload_n 2, 1) := by decide +kernel
theorem d_MO_which_52 : decode b_MO_which 52 = .ok (.invokevirtual 559, 3) := by decide +kernel
theorem d_MO_which_55 : decode b_MO_which 55 = .ok (.aload_n 0, 1) := by decide +kernel
theorem d_MO_which_56 : decode b_MO_which 56 = .ok (.getfield 178, 3) := by decide +kernel
theorem d_MO_which_59 : decode b_MO_which 59 = .ok (.iconst 0, 1) := by decide +kernel
theorem d_MO_which_60 : decode b_MO_which 60 = .ok (.aload_n 0, 1) := by decide +kernel
theorem d_MO_which_61 : decode b_MO_which 61 = .ok (.getfield 112, 3) := by decide +kernel
theorem d_MO_which_64 : decode b_MO_which 64 = .ok (.iload 4, 2) := by decide +kernel
theorem d_MO_which_66 : decode b_MO_which 66 = .ok (.iaload, 1) := by decide +kernel
theorem d_MO_which_67 : decode b_MO_which 67 = .ok (.invokestatic 528, 3) := by decide +kernel
theorem d_MO_which_70 : decode b_MO_which 70 = .ok (.istore 5, 2) := by decide +kernel
theorem d_MO_which_72 : decode b_MO_which 72 = .ok (.iconst 1, 1) := by decide +kernel
theorem d_MO_which_73 : decode b_MO_which 73 = .ok (.istore 6, 2) := by decide +kernel
theorem d_MO_which_75 : decode b_MO_which 75 = .ok (.iload 6, 2) := by decide +kernel
theorem d_MO_which_77 : decode b_MO_which 77 = .ok (.aload_n 0, 1) := by decide +kernel
theorem d_MO_which_78 : decode b_MO_which 78 = .ok (.getfield 510, 3) := by decide +kernel
theorem d_MO_which_81 : decode b_MO_which 81 = .ok (.if_icmp .gt 36, 3) := by decide +kernel
theorem d_MO_which_84 : decode b_MO_which 84 = .ok (.iload 5, 2) := by decide +kernel
theorem d_MO_which_86 : decode b_MO_which 86 = .ok (.ifCond .ne 31, 3) := by decide +kernel
theorem d_MO_which_89 : decode b_MO_which 89 = .ok (.iload_n 2, 1) := by decide +kernel
theorem d_MO_which_90 : decode b_MO_which 90 = .ok (.ifCond .ne 27, 3) := by decide +kernel
theorem d_MO_which_93 : decode b_MO_which 93 = .ok (.aload_n 0, 1) := by decide +kernel
theorem d_MO_which_94 : decode b_MO_which 94 = .ok (.getfield 178, 3) := by decide +kernel
theorem d_MO_which_97 : decode b_MO_which 97 = .ok (.iload 6, 2) := by decide +kernel
theorem d_MO_which_99 : decode b_MO_which 99 = .ok (.aload_n 0, 1) := by decide +kernel
theorem d_MO_which_100 : decode b_MO_which 100 = .ok (.getfield 112, 3) := by decide +kernel
theorem d_MO_which_103 : decode b_MO_which 103 = .ok (.iload 4, 2) := by decide +kernel
theorem d_MO_which_105 : decode b_MO_which 105 = .ok (.iaload, 1) := by decide +kernel
theorem d_MO_which_106 : decode b_MO_which 106 = .ok (.invokestatic 528, 3) := by decide +kernel
theorem d_MO_which_109 : decode b_MO_which 109 = .ok (.istore 5, 2) := by decide +kernel
theorem d_MO_which_111 : decode b_MO_which 111 = .ok (.iinc 6 1, 3) := by decide +kernel
theorem d_MO_which_114 : decode b_MO_which 114 = .ok (.goto (-39), 3) := by decide +kernel
theorem d_MO_which_117 : decode b_MO_which 117 = .ok (.iload 5, 2) := by decide +kernel
theorem d_MO_which_119 : decode b_MO_which 119 = .ok (.ifCond .eq 12, 3) := by decide +kernel
theorem d_MO_which_122 : decode b_MO_which 122 = .ok (.iload_n 3, 1) := by decide +kernel
theorem d_MO_which_123 : decode b_MO_which 123 = .ok (.iconst 1, 1) := by decide +kernel
theorem d_MO_which_124 : decode b_MO_which 124 = .ok (.iload 4, 2) := by decide +kernel
theorem d_MO_which_126 : decode b_MO_which 126 = .ok (.ishl, 1) := by decide +kernel
theorem d_MO_which_127 : decode b_MO_which 127 = .ok (.ior, 1) := by decide +kernel
theorem d_MO_which_128 : decode b_MO_which 128 = .ok (.goto 4, 3) := by decide +kernel
theorem d_MO_which_131 : decode b_MO_which 131 = .ok (.iload_n 3, 1) := by decide +kernel
theorem d_MO_which_132 : decode b_MO_which 132 = .ok (.istore_n 3, 1) := by decide +kernel
theorem d_MO_which_133 : decode b_MO_which 133 = .ok (.iinc 4 1, 3) := by decide +kernel
theorem d_MO_which_136 : decode b_MO_which 136 = .ok (.goto (-126), 3) := by decide +kernel
theorem d_MO_which_139 : decode b_MO_which 139 = .ok (.iload_n 3, 1) := by decide +kernel
theorem d_MO_which_140 : decode b_MO_which 140 = .ok (.ireturn, 1) := by decide +kernel
theorem d_PW_quote_0 : decode b_PW_quote 0 = .ok (.aload_n 0, 1) := by decide +kernel
theorem d_PW_quote_1 : decode b_PW_quote 1 = .ok (.getfield 85, 3) := by decide +kernel
theorem d_PW_quote_4 : decode b_PW_quote 4 = .ok (.invokevirtual 120, 3) := by decide +kernel
theorem d_PW_quote_7 : decode b_PW_quote 7 = .ok (.iconst 0, 1) := by decide +kernel
theorem d_PW_quote_8 : decode b_PW_quote 8 = .ok (.istore_n 1, 1) := by decide +kernel
theorem d_PW_quote_9 : decode b_PW_quote 9 = .ok (.iload_n 1, 1) := by decide +kernel
theorem d_PW_quote_10 : decode b_PW_quote 10 = .ok (.aload_n 0, 1) := by decide +kernel
theorem d_PW_quote_11 : decode b_PW_quote 11 = .ok (.getfield 18, 3) := by decide +kernel
theorem d_PW_quote_14 : decode b_PW_quote 14 = .ok (.getfield 101, 3) := by decide +kernel
theorem d_PW_quote_17 : decode b_PW_quote 17 = .ok (.if_icmp .ge 51, 3) := by decide +kernel
theorem d_PW_quote_20 : decode b_PW_quote 20 = .ok (.aload_n 0, 1) := by decide +kernel
theorem d_PW_quote_21 : decode b_PW_quote 21 = .ok (.getfield 18, 3) := by decide +kernel
theorem d_PW_quote_24 : decode b_PW_quote 24 = .ok (.iload_n 1, 1) := by decide +kernel
theorem d_PW_quote_25 : decode b_PW_quote 25 = .ok (.invokevirtual 228, 3) := by decide +kernel
theorem d_PW_quote_28 : decode b_PW_quote 28 = .ok (.istore_n 2, 1) := by decide +kernel
theorem d_PW_quote_29 : decode b_PW_quote 29 = .ok (.iload_n 2, 1) := by decide +kernel
theorem d_PW_quote_30 : decode b_PW_quote 30 = .ok (.sipush 128, 3) := by decide +kernel
theorem d_PW_quote_33 : decode b_PW_quote 33 = .ok (.if_icmp .ge 20, 3) := by decide +kernel
theorem d_PW_quote_36 : decode b_PW_quote 36 = .ok (.iload_n 2, 1) := by decide +kernel
theorem d_PW_quote_37 : decode b_PW_quote 37 = .ok (.invokestatic 232, 3) := by decide +kernel
theorem d_PW_quote_40 : decode b_PW_quote 40 = .ok (.ifCond .ne 13, 3) := by decide +kernel
theorem d_PW_quote_43 : decode b_PW_quote 43 = .ok (.aload_n 0, 1) := by decide +kernel
theorem d_PW_quote_44 : decode b_PW_quote 44 = .ok (.getfield 85, 3) := by decide +kernel
theorem d_PW_quote_47 : decode b_PW_quote 47 = .ok (.bipush 92, 2) := by decide +kernel
theorem d_PW_quote_49 : decode b_PW_quote 49 = .ok (.invokevirtual 197, 3) := by decide +kernel
theorem d_PW_quote_52 : decode b_PW_quote 52 = .ok (.pop, 1) := by decide +kernel
theorem d_PW_quote_53 : decode b_PW_quote 53 = .ok (.aload_n 0, 1) := by decide +kernel
theorem d_PW_quote_54 : decode b_PW_quote 54 = .ok (.getfield 85, 3) := by decide +kernel
theorem d_PW_quote_57 : decode b_PW_quote 57 = .ok (.iload_n 2, 1) := by decide +kernel
theorem d_PW_quote_58 : decode b_PW_quote 58 = .ok (.invokevirtual 197, 3) := by decide +kernel
theorem d_PW_quote_61 : decode b_PW_quote 61 = .ok (.pop, 1) := by decide +kernel
theorem d_PW_quote_62 : decode b_PW_quote 62 = .ok (.iinc 1 1, 3) := by decide +kernel
theorem d_PW_quote_65 : decode b_PW_quote 65 = .ok (.goto (-56), 3) := by decide +kernel
theorem d_PW_quote_68 : decode b_PW_quote 68 = .ok (.aload_n 0, 1) := by decide +kernel
theorem d_PW_quote_69 : decode b_PW_quote 69 = .ok (.getfield 18, 3) := by decide +kernel
theorem d_PW_quote_72 : decode b_PW_quote 72 = .ok (.invokevirtual 120, 3) := by decide +kernel
theorem d_PW_quote_75 : decode b_PW_quote 75 = .ok (.aload_n 0, 1) := by decide +kernel
theorem d_PW_quote_76 : decode b_PW_quote 76 = .ok (.getfield 85, 3) := by decide +kernel
theorem d_PW_quote_79 : decode b_PW_quote 79 = .ok (.getfield 101, 3) := by decide +kernel
theorem d_PW_quote_82 : decode b_PW_quote 82 = .ok (.ireturn, 1) := by decide +kernel
theorem d_MO_quote_0 : decode b_MO_quote 0 = .ok (.aload_n 0, 1) := by decide +kernel
theorem d_MO_quote_1 : decode b_MO_quote 1 = .ok (.iconst 0, 1) := by decide +kernel
theorem d_MO_quote_2 : decode b_MO_quote 2 = .ok (.putfield 220, 3) := by decide +kernel
theorem d_MO_quote_5 : decode b_MO_quote 5 = .ok (.aload_n 0, 1) := by decide +kernel
theorem d_MO_quote_6 : decode b_MO_quote 6 = .ok (.iconst 0, 1) := by decide +kernel
theorem d_MO_quote_7 : decode b_MO_quote 7 = .ok (.putfield 618, 3) := by decide +kernel
theorem d_MO_quote_10 : decode b_MO_quote 10 = .ok (.iconst 0, 1) := by decide +kernel
theorem d_MO_quote_11 : decode b_MO_quote 11 = .ok (.istore_n 1, 1) := by decide +kernel
theorem d_MO_quote_12 : decode b_MO_quote 12 = .ok (.iload_n 1, 1) := by decide +kernel
theorem d_MO_quote_13 : decode b_MO_quote 13 = .ok (.aload_n 0, 1) := by decide +kernel
theorem d_MO_quote_14 : decode b_MO_quote 14 = .ok (.getfield 223, 3) := by decide +kernel
theorem d_MO_quote_17 : decode b_MO_quote 17 = .ok (.if_icmp .ge 88, 3) := by decide +kernel
theorem d_MO_quote_20 : decode b_MO_quote 20 = .ok (.aload_n 0, 1) := by decide +kernel
theorem d_MO_quote_21 : decode b_MO_quote 21 = .ok (.getfield 19, 3) := by decide +kernel
theorem d_MO_quote_24 : decode b_MO_quote 24 = .ok (.iload_n 1, 1) := by decide +kernel
theorem d_MO_quote_25 : decode b_MO_quote 25 = .ok (.iaload, 1) := by decide +kernel
theorem d_MO_quote_26 : decode b_MO_quote 26 = .ok (.bipush 127, 2) := by decide +kernel
theorem d_MO_quote_28 : decode b_MO_quote 28 = .ok (.if_icmp .gt 15, 3) := by decide +kernel
theorem d_MO_quote_31 : decode b_MO_quote 31 = .ok (.aload_n 0, 1) := by decide +kernel
theorem d_MO_quote_32 : decode b_MO_quote 32 = .ok (.getfield 19, 3) := by decide +kernel
theorem d_MO_quote_35 : decode b_MO_quote 35 = .ok (.iload_n 1, 1) := by decide +kernel
theorem d_MO_quote_36 : decode b_MO_quote 36 = .ok (.iaload, 1) := by decide +kernel
theorem d_MO_quote_37 : decode b_MO_quote 37 = .ok (.invokestatic 326, 3) := by decide +kernel
theorem d_MO_quote_40 : decode b_MO_quote 40 = .ok (.ifCond .eq 7, 3) := by decide +kernel
theorem d_MO_quote_43 : decode b_MO_quote 43 = .ok (.iconst 1, 1) := by decide +kernel
theorem d_MO_quote_44 : decode b_MO_quote 44 = .ok (.goto 4, 3) := by decide +kernel
theorem d_MO_quote_47 : decode b_MO_quote 47 = .ok (.iconst 0, 1) := by decide +kernel
theorem d_MO_quote_48 : decode b_MO_quote 48 = .ok (.istore_n 2, 1) := by decide +kernel
theorem d_MO_quote_49 : decode b_MO_quote 49 = .ok (.iload_n 2, 1) := by decide +kernel
theorem d_MO_quote_50 : decode b_MO_quote 50 = .ok (.ifCond .ne 24, 3) := by decide +kernel
theorem d_MO_quote_53 : decode b_MO_quote 53 = .ok (.aload_n 0, 1) := by decide +kernel
theorem d_MO_quote_54 : decode b_MO_quote 54 = .ok (.getfield 25, 3) := by decide +kernel
theorem d_MO_quote_57 : decode b_MO_quote 57 = .ok (.aload_n 0, 1) := by decide +kernel
theorem d_MO_quote_58 : decode b_MO_quote 58 = .ok (.getfield 618, 3) := by decide +kernel
theorem d_MO_quote_61 : decode b_MO_quote 61 = .ok (.bipush 92, 2) := by decide +kernel
theorem d_MO_quote_63 : decode b_MO_quote 63 = .ok (.iastore, 1) := by decide +kernel
theorem d_MO_quote_64 : decode b_MO_quote 64 = .ok (.aload_n 0, 1) := by decide +kernel
theorem d_MO_quote_65 : decode b_MO_quote 65 = .ok (.dup, 1) := by decide +kernel
theorem d_MO_quote_66 : decode b_MO_quote 66 = .ok (.getfield 618, 3) := by decide +kernel
theorem d_MO_quote_69 : decode b_MO_quote 69 = .ok (.iconst 1, 1) := by decide +kernel
theorem d_MO_quote_70 : decode b_MO_quote 70 = .ok (.iadd, 1) := by decide +kernel
theorem d_MO_quote_71 : decode b_MO_quote 71 = .ok (.putfield 618, 3) := by decide +kernel
theorem d_MO_quote_74 : decode b_MO_quote 74 = .ok (.aload_n 0, 1) := by decide +kernel
theorem d_MO_quote_75 : decode b_MO_quote 75 = .ok (.getfield 25, 3) := by decide +kernel
theorem d_MO_quote_78 : decode b_MO_quote 78 = .ok (.aload_n 0, 1) := by decide +kernel
theorem d_MO_quote_79 : decode b_MO_quote 79 = .ok (.getfield 618, 3) := by decide +kernel
theorem d_MO_quote_82 : decode b_MO_quote 82 = .ok (.aload_n 0, 1) := by decide +kernel
theorem d_MO_quote_83 : decode b_MO_quote 83 = .ok (.getfield 19, 3) := by decide +kernel
theorem d_MO_quote_86 : decode b_MO_quote 86 = .ok (.iload_n 1, 1) := by decide +kernel
theorem d_MO_quote_87 : decode b_MO_quote 87 = .ok (.iaload, 1) := by decide +kernel
theorem d_MO_quote_88 : decode b_MO_quote 88 = .ok (.iastore, 1) := by decide +kernel
theorem d_MO_quote_89 : decode b_MO_quote 89 = .ok (.aload_n 0, 1) := by decide +kernel
theorem d_MO_quote_90 : decode b_MO_quote 90 = .ok (.dup, 1) := by decide +kernel
theorem d_MO_quote_91 : decode b_MO_quote 91 = .ok (.getfield 618, 3) := by decide +kernel
theorem d_MO_quote_94 : decode b_MO_quote 94 = .ok (.iconst 1, 1) := by decide +kernel
theorem d_MO_quote_95 : decode b_MO_quote 95 = .ok (.iadd, 1) := by decide +kernel
theorem d_MO_quote_96 : decode b_MO_quote 96 = .ok (.putfield 618, 3) := by decide +kernel
theorem d_MO_quote_99 : decode b_MO_quote 99 = .ok (.iinc 1 1, 3) := by decide +kernel
theorem d_MO_quote_102 : decode b_MO_quote 102 = .ok (.goto (-90), 3) := by decide +kernel
theorem d_MO_quote_105 : decode b_MO_quote 105 = .ok (.aload_n 0, 1) := by decide +kernel
theorem d_MO_quote_106 : decode b_MO_quote 106 = .ok (.iconst 0, 1) := by decide +kernel
theorem d_MO_quote_107 : decode b_MO_quote 107 = .ok (.putfield 223, 3) := by decide +kernel
theorem d_MO_quote_110 : decode b_MO_quote 110 = .ok (.aload_n 0, 1) := by decide +kernel
theorem d_MO_quote_111 : decode b_MO_quote 111 = .ok (.getfield 618, 3) := by decide +kernel
theorem d_MO_quote_114 : decode b_MO_quote 114 = .ok (.ireturn, 1) := by decide +kernel
theorem d_PW_output_0 : decode b_PW_output 0 = .ok (.aload_n 0, 1) := by decide +kernel
theorem d_PW_output_1 : decode b_PW_output 1 = .ok (.getfield 85, 3) := by decide +kernel
theorem d_PW_output_4 : decode b_PW_output 4 = .ok (.iload_n 1, 1) := by decide +kernel
theorem d_PW_output_5 : decode b_PW_output 5 = .ok (.invokevirtual 228, 3) := by decide +kernel
theorem d_PW_output_8 : decode b_PW_output 8 = .ok (.ireturn, 1) := by decide +kernel
theorem d_MO_output_0 : decode b_MO_output 0 = .ok (.aload_n 0, 1) := by decide +kernel
theorem d_MO_output_1 : decode b_MO_output 1 = .ok (.iconst 0, 1) := by decide +kernel
theorem d_MO_output_2 : decode b_MO_output 2 = .ok (.putfield 220, 3) := by decide +kernel
theorem d_MO_output_5 : decode b_MO_output 5 = .ok (.iload_n 1, 1) := by decide +kernel
theorem d_MO_output_6 : decode b_MO_output 6 = .ok (.ifCond .lt 11, 3) := by decide +kernel
theorem d_MO_output_9 : decode b_MO_output 9 = .ok (.iload_n 1, 1) := by decide +kernel
theorem d_MO_output_10 : decode b_MO_output 10 = .ok (.aload_n 0, 1) := by decide +kernel
theorem d_MO_output_11 : decode b_MO_output 11 = .ok (.getfield 618, 3) := by decide +kernel
theorem d_MO_output_14 : decode b_MO_output 14 = .ok (.if_icmp .lt 7, 3) := by decide +kernel
theorem d_MO_output_17 : decode b_MO_output 17 = .ok (.iconst (-1), 1) := by decide +kernel
theorem d_MO_output_18 : decode b_MO_output 18 = .ok (.goto 9, 3) := by decide +kernel
theorem d_MO_output_21 : decode b_MO_output 21 = .ok (.aload_n 0, 1) := by decide +kernel
theorem d_MO_output_22 : decode b_MO_output 22 = .ok (.getfield 25, 3) := by decide +kernel
theorem d_MO_output_25 : decode b_MO_output 25 = .ok (.iload_n 1, 1) := by decide +kernel
theorem d_MO_output_26 : decode b_MO_output 26 = .ok (.iaload, 1) := by decide +kernel
theorem d_MO_output_27 : decode b_MO_output 27 = .ok (.ireturn, 1) := by decide +kernel
theorem d_LA_keep_0 : decode b_LA_keep 0 = .ok (.aload_n 0, 1) := by decide +kernel
theorem d_LA_keep_1 : decode b_LA_keep 1 = .ok (.iload_n 1, 1) := by decide +kernel
theorem d_LA_keep_2 : decode b_LA_keep 2 = .ok (.invokevirtual 29, 3) := by decide +kernel
theorem d_LA_keep_5 : decode b_LA_keep 5 = .ok (.goto 6, 3) := by decide +kernel
theorem d_LA_keep_8 : decode b_LA_keep 8 = .ok (.astore_n 2, 1) := by decide +kernel
theorem d_LA_keep_9 : decode b_LA_keep 9 = .ok (.iconst 1, 1) := by decide +kernel
theorem d_LA_keep_10 : decode b_LA_keep 10 = .ok (.ireturn, 1) := by decide +kernel
theorem d_LA_keep_11 : decode b_LA_keep 11 = .ok (.iconst 0, 1) := by decide +kernel
theorem d_LA_keep_12 : decode b_LA_keep 12 = .ok (.ireturn, 1) := by decide +kernel
theorem d_PW_keep_0 : decode b_PW_keep 0 = .ok (.iload_n 1, 1) := by decide +kernel
theorem d_PW_keep_1 : decode b_PW_keep 1 = .ok (.iconst 4, 1) := by decide +kernel
theorem d_PW_keep_2 : decode b_PW_keep 2 = .ok (.if_icmp .lt 9, 3) := by decide +kernel
theorem d_PW_keep_5 : decode b_PW_keep 5 = .ok (.iload_n 1, 1) := by decide +kernel
theorem d_PW_keep_6 : decode b_PW_keep 6 = .ok (.bipush 64, 2) := by decide +kernel
theorem d_PW_keep_8 : decode b_PW_keep 8 = .ok (.if_icmp .le 13, 3) := by decide +kernel
theorem d_PW_keep_11 : decode b_PW_keep 11 = .ok (.new 109, 3) := by decide +kernel
theorem d_PW_keep_14 : decode b_PW_keep 14 = .ok (.dup, 1) := by decide +kernel
theorem d_PW_keep_15 : decode b_PW_keep 15 = .ok (.ldc 235, 2) := by decide +kernel
theorem d_PW_keep_17 : decode b_PW_keep 17 = .ok (.invokespecial 113, 3) := by decide +kernel
theorem d_PW_keep_20 : decode b_PW_keep 20 = .ok (.athrow, 1) := by decide +kernel
theorem d_PW_keep_21 : decode b_PW_keep 21 = .ok (.aload_n 0, 1) := by decide +kernel
theorem d_PW_keep_22 : decode b_PW_keep 22 = .ok (.getfield 69, 3) := by decide +kernel
theorem d_PW_keep_25 : decode b_PW_keep 25 = .ok (.iload_n 1, 1) := by decide +kernel
theorem d_PW_keep_26 : decode b_PW_keep 26 = .ok (.invokevirtual 237, 3) := by decide +kernel
theorem d_PW_keep_29 : decode b_PW_keep 29 = .ok (.return_, 1) := by decide +kernel
theorem d_ST_holdAtMost_0 : decode b_ST_holdAtMost 0 = .ok (.aload_n 0, 1) := by decide +kernel
theorem d_ST_holdAtMost_1 : decode b_ST_holdAtMost 1 = .ok (.iload_n 1, 1) := by decide +kernel
theorem d_ST_holdAtMost_2 : decode b_ST_holdAtMost 2 = .ok (.putfield 9, 3) := by decide +kernel
theorem d_ST_holdAtMost_5 : decode b_ST_holdAtMost 5 = .ok (.aload_n 0, 1) := by decide +kernel
theorem d_ST_holdAtMost_6 : decode b_ST_holdAtMost 6 = .ok (.iconst 0, 1) := by decide +kernel
theorem d_ST_holdAtMost_7 : decode b_ST_holdAtMost 7 = .ok (.putfield 40, 3) := by decide +kernel
theorem d_ST_holdAtMost_10 : decode b_ST_holdAtMost 10 = .ok (.return_, 1) := by decide +kernel
theorem d_MO_keep_0 : decode b_MO_keep 0 = .ok (.aload_n 0, 1) := by decide +kernel
theorem d_MO_keep_1 : decode b_MO_keep 1 = .ok (.iload_n 1, 1) := by decide +kernel
theorem d_MO_keep_2 : decode b_MO_keep 2 = .ok (.iconst 4, 1) := by decide +kernel
theorem d_MO_keep_3 : decode b_MO_keep 3 = .ok (.if_icmp .lt 9, 3) := by decide +kernel
theorem d_MO_keep_6 : decode b_MO_keep 6 = .ok (.iload_n 1, 1) := by decide +kernel
theorem d_MO_keep_7 : decode b_MO_keep 7 = .ok (.bipush 64, 2) := by decide +kernel
theorem d_MO_keep_9 : decode b_MO_keep 9 = .ok (.if_icmp .le 7, 3) := by decide +kernel
theorem d_MO_keep_12 : decode b_MO_keep 12 = .ok (.iconst 1, 1) := by decide +kernel
theorem d_MO_keep_13 : decode b_MO_keep 13 = .ok (.goto 4, 3) := by decide +kernel
theorem d_MO_keep_16 : decode b_MO_keep 16 = .ok (.iconst 0, 1) := by decide +kernel
theorem d_MO_keep_17 : decode b_MO_keep 17 = .ok (.putfield 220, 3) := by decide +kernel
theorem d_MO_keep_20 : decode b_MO_keep 20 = .ok (.return_, 1) := by decide +kernel
theorem d_PW_over_0 : decode b_PW_over 0 = .ok (.aload_n 0, 1) := by decide +kernel
theorem d_PW_over_1 : decode b_PW_over 1 = .ok (.getfield 240, 3) := by decide +kernel
theorem d_PW_over_4 : decode b_PW_over 4 = .ok (.ireturn, 1) := by decide +kernel
theorem d_MO_over_0 : decode b_MO_over 0 = .ok (.aload_n 0, 1) := by decide +kernel
theorem d_MO_over_1 : decode b_MO_over 1 = .ok (.iconst 0, 1) := by decide +kernel
theorem d_MO_over_2 : decode b_MO_over 2 = .ok (.putfield 220, 3) := by decide +kernel
theorem d_MO_over_5 : decode b_MO_over 5 = .ok (.iconst 0, 1) := by decide +kernel
theorem d_MO_over_6 : decode b_MO_over 6 = .ok (.ireturn, 1) := by decide +kernel
