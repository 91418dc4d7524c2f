theorem d_MO_quote_47 : decode b_MO_quote 47 = .ok (.iconst 0, 1) := by decide +kernel
theorem d_MO_quote_48 : decode b_MO_quote 48 = .ok (.istore_n 2, 1) := by decide +kernel
theorem d_MO_quote_49 : decode b_MO_quote 49 = .ok (.iload_n 2, 1) := by decide +kernel
theorem d_MO_quote_50 : decode b_MO_quote 50 = .ok (.ifCond .ne 24, 3) := by decide +kernel
theorem d_MO_quote_53 : decode b_MO_quote 53 = .ok (.aload_n 0, 1) := by decide +kernel
theorem d_MO_quote_54 : decode b_MO_quote 54 = .ok (.getfield 25, 3) := by decide +kernel
theorem d_MO_quote_57 : decode b_MO_quote 57 = .ok (.aload_n 0, 1) := by decide +kernel
theorem d_MO_quote_58 : decode b_MO_quote 58 = .ok (.getfield 618, 3) := by decide +kernel
theorem d_MO_quote_61 : decode b_MO_quote 61 = .ok (.bipush 92, 2) := by decide +kernel
theorem d_MO_quote_63 : decode b_MO_quote 63 = .ok (.iastore, 1) := by decide +kernel
theorem d_MO_quote_64 : decode b_MO_quote 64 = .ok (.aload_n 0, 1) := by decide +kernel
theorem d_MO_quote_65 : decode b_MO_quote 65 = .ok (.dup, 1) := by decide +kernel
theorem d_MO_quote_66 : decode b_MO_quote 66 = .ok (.getfield 618, 3) := by decide +kernel
theorem d_MO_quote_69 : decode b_MO_quote 69 = .ok (.iconst 1, 1) := by decide +kernel
theorem d_MO_quote_70 : decode b_MO_quote 70 = .ok (.iadd, 1) := by decide +kernel
theorem d_MO_quote_71 : decode b_MO_quote 71 = .ok (.putfield 618, 3) := by decide +kernel
theorem d_MO_quote_74 : decode b_MO_quote 74 = .ok (.aload_n 0, 1) := by decide +kernel
theorem d_MO_quote_75 : decode b_MO_quote 75 = .ok (.getfield 25, 3) := by decide +kernel
theorem d_MO_quote_78 : decode b_MO_quote 78 = .ok (.aload_n 0, 1) := by decide +kernel
theorem d_MO_quote_79 : decode b_MO_quote 79 = .ok (.getfield 618, 3) := by decide +kernel
theorem d_MO_quote_82 : decode b_MO_quote 82 = .ok (.aload_n 0, 1) := by decide +kernel
theorem d_MO_quote_83 : decode b_MO_quote 83 = .ok (.getfield 19, 3) := by decide +kernel
theorem d_MO_quote_86 : decode b_MO_quote 86 = .ok (.iload_n 1, 1) := by decide +kernel
theorem d_MO_quote_87 : decode b_MO_quote 87 = .ok (.iaload, 1) := by decide +kernel
theorem d_MO_quote_88 : decode b_MO_quote 88 = .ok (.iastore, 1) := by decide +kernel
theorem d_MO_quote_89 : decode b_MO_quote 89 = .ok (.aload_n 0, 1) := by decide +kernel
theorem d_MO_quote_90 : decode b_MO_quote 90 = .ok (.dup, 1) := by decide +kernel
theorem d_MO_quote_91 : decode b_MO_quote 91 = .ok (.getfield 618, 3) := by decide +kernel
theorem d_MO_quote_94 : decode b_MO_quote 94 = .ok (.iconst 1, 1) := by decide +kernel
theorem d_MO_quote_95 : decode b_MO_quote 95 = .ok (.iadd, 1) := by decide +kernel
theorem d_MO_quote_96 : decode b_MO_quote 96 = .ok (.putfield 618, 3) := by decide +kernel
theorem d_MO_quote_99 : decode b_MO_quote 99 = .ok (.iinc 1 1, 3) := by decide +kernel
theorem d_MO_quote_102 : decode b_MO_quote 102 = .ok (.goto (-90), 3) := by decide +kernel
theorem d_MO_quote_105 : decode b_MO_quote 105 = .ok (.aload_n 0, 1) := by decide +kernel
theorem d_MO_quote_106 : decode b_MO_quote 106 = .ok (.iconst 0, 1) := by decide +kernel
theorem d_MO_quote_107 : decode b_MO_quote 107 = .ok (.putfield 223, 3) := by decide +kernel
theorem d_MO_quote_110 : decode b_MO_quote 110 = .ok (.aload_n 0, 1) := by decide +kernel
theorem d_MO_quote_111 : decode b_MO_quote 111 = .ok (.getfield 618, 3) := by decide +kernel
theorem d_MO_quote_114 : decode b_MO_quote 114 = .ok (.ireturn, 1) := by decide +kernel
theorem d_MO_subject_0 : decode b_MO_subject 0 = .ok (.aload_n 0, 1) := by decide +kernel
theorem d_MO_subject_1 : decode b_MO_subject 1 = .ok (.iconst 0, 1) := by decide +kernel
theorem d_MO_subject_2 : decode b_MO_subject 2 = .ok (.putfield 220, 3) := by decide +kernel
theorem d_MO_subject_5 : decode b_MO_subject 5 = .ok (.aload_n 0, 1) := by decide +kernel
theorem d_MO_subject_6 : decode b_MO_subject 6 = .ok (.aload_n 0, 1) := by decide +kernel
theorem d_MO_subject_7 : decode b_MO_subject 7 = .ok (.getfield 223, 3) := by decide +kernel
theorem d_MO_subject_10 : decode b_MO_subject 10 = .ok (.putfield 510, 3) := by decide +kernel
theorem d_MO_subject_13 : decode b_MO_subject 13 = .ok (.iconst 0, 1) := by decide +kernel
theorem d_MO_subject_14 : decode b_MO_subject 14 = .ok (.istore_n 1, 1) := by decide +kernel
theorem d_MO_subject_15 : decode b_MO_subject 15 = .ok (.iload_n 1, 1) := by decide +kernel
theorem d_MO_subject_16 : decode b_MO_subject 16 = .ok (.aload_n 0, 1) := by decide +kernel
theorem d_MO_subject_17 : decode b_MO_subject 17 = .ok (.getfield 510, 3) := by decide +kernel
theorem d_MO_subject_20 : decode b_MO_subject 20 = .ok (.if_icmp .ge 21, 3) := by decide +kernel
theorem d_MO_subject_23 : decode b_MO_subject 23 = .ok (.aload_n 0, 1) := by decide +kernel
theorem d_MO_subject_24 : decode b_MO_subject 24 = .ok (.getfield 22, 3) := by decide +kernel
theorem d_MO_subject_27 : decode b_MO_subject 27 = .ok (.iload_n 1, 1) := by decide +kernel
theorem d_MO_subject_28 : decode b_MO_subject 28 = .ok (.aload_n 0, 1) := by decide +kernel
theorem d_MO_subject_29 : decode b_MO_subject 29 = .ok (.getfield 19, 3) := by decide +kernel
theorem d_MO_subject_32 : decode b_MO_subject 32 = .ok (.iload_n 1, 1) := by decide +kernel
theorem d_MO_subject_33 : decode b_MO_subject 33 = .ok (.iaload, 1) := by decide +kernel
theorem d_MO_subject_34 : decode b_MO_subject 34 = .ok (.iastore, 1) := by decide +kernel
theorem d_MO_subject_35 : decode b_MO_subject 35 = .ok (.iinc 1 1, 3) := by decide +kernel
theorem d_MO_subject_38 : decode b_MO_subject 38 = .ok (.goto (-23), 3) := by decide +kernel
theorem d_MO_subject_41 : decode b_MO_subject 41 = .ok (.aload_n 0, 1) := by decide +kernel
theorem d_MO_subject_42 : decode b_MO_subject 42 = .ok (.iconst 0, 1) := by decide +kernel
theorem d_MO_subject_43 : decode b_MO_subject 43 = .ok (.putfield 223, 3) := by decide +kernel
theorem d_MO_subject_46 : decode b_MO_subject 46 = .ok (.aload_n 0, 1) := by decide +kernel
theorem d_MO_subject_47 : decode b_MO_subject 47 = .ok (.getfield 510, 3) := by decide +kernel
theorem d_MO_subject_50 : decode b_MO_subject 50 = .ok (.ireturn, 1) := by decide +kernel
theorem d_MO_taken_0 : decode b_MO_taken 0 = .ok (.aload_n 0, 1) := by decide +kernel
theorem d_MO_taken_1 : decode b_MO_taken 1 = .ok (.getfield 128, 3) := by decide +kernel
theorem d_MO_taken_4 : decode b_MO_taken 4 = .ok (.iload_n 1, 1) := by decide +kernel
theorem d_MO_taken_5 : decode b_MO_taken 5 = .ok (.iaload, 1) := by decide +kernel
theorem d_MO_taken_6 : decode b_MO_taken 6 = .ok (.iconst 2, 1) := by decide +kernel
theorem d_MO_taken_7 : decode b_MO_taken 7 = .ok (.if_icmp .ne 17, 3) := by decide +kernel
theorem d_MO_taken_10 : decode b_MO_taken 10 = .ok (.iload_n 2, 1) := by decide +kernel
theorem d_MO_taken_11 : decode b_MO_taken 11 = .ok (.aload_n 0, 1) := by decide +kernel
theorem d_MO_taken_12 : decode b_MO_taken 12 = .ok (.getfield 510, 3) := by decide +kernel
theorem d_MO_taken_15 : decode b_MO_taken 15 = .ok (.if_icmp .ge 7, 3) := by decide +kernel
theorem d_MO_taken_18 : decode b_MO_taken 18 = .ok (.iconst 1, 1) := by decide +kernel
theorem d_MO_taken_19 : decode b_MO_taken 19 = .ok (.goto 4, 3) := by decide +kernel
theorem d_MO_taken_22 : decode b_MO_taken 22 = .ok (.iconst 0, 1) := by decide +kernel
theorem d_MO_taken_23 : decode b_MO_taken 23 = .ok (.ireturn, 1) := by decide +kernel
theorem d_MO_taken_24 : decode b_MO_taken 24 = .ok (.aload_n 0, 1) := by decide +kernel
theorem d_MO_taken_25 : decode b_MO_taken 25 = .ok (.getfield 128, 3) := by decide +kernel
theorem d_MO_taken_28 : decode b_MO_taken 28 = .ok (.iload_n 1, 1) := by decide +kernel
theorem d_MO_taken_29 : decode b_MO_taken 29 = .ok (.iaload, 1) := by decide +kernel
theorem d_MO_taken_30 : decode b_MO_taken 30 = .ok (.iconst 1, 1) := by decide +kernel
theorem d_MO_taken_31 : decode b_MO_taken 31 = .ok (.if_icmp .ne 10, 3) := by decide +kernel
theorem d_MO_taken_34 : decode b_MO_taken 34 = .ok (.aload_n 0, 1) := by decide +kernel
theorem d_MO_taken_35 : decode b_MO_taken 35 = .ok (.getfield 513, 3) := by decide +kernel
theorem d_MO_taken_38 : decode b_MO_taken 38 = .ok (.ifCond .ge 5, 3) := by decide +kernel
theorem d_MO_taken_41 : decode b_MO_taken 41 = .ok (.iconst 0, 1) := by decide +kernel
theorem d_MO_taken_42 : decode b_MO_taken 42 = .ok (.ireturn, 1) := by decide +kernel
theorem d_MO_taken_43 : decode b_MO_taken 43 = .ok (.iconst 0, 1) := by decide +kernel
theorem d_MO_taken_44 : decode b_MO_taken 44 = .ok (.istore_n 3, 1) := by decide +kernel
theorem d_MO_taken_45 : decode b_MO_taken 45 = .ok (.aload_n 0, 1) := by decide +kernel
theorem d_MO_taken_46 : decode b_MO_taken 46 = .ok (.getfield 137, 3) := by decide +kernel
theorem d_MO_taken_49 : decode b_MO_taken 49 = .ok (.iload_n 1, 1) := by decide +kernel
theorem d_MO_taken_50 : decode b_MO_taken 50 = .ok (.iaload, 1) := by decide +kernel
theorem d_MO_taken_51 : decode b_MO_taken 51 = .ok (.istore 4, 2) := by decide +kernel
theorem d_MO_taken_53 : decode b_MO_taken 53 = .ok (.iload 4, 2) := by decide +kernel
theorem d_MO_taken_55 : decode b_MO_taken 55 = .ok (.aload_n 0, 1) := by decide +kernel
theorem d_MO_taken_56 : decode b_MO_taken 56 = .ok (.getfield 137, 3) := by decide +kernel
theorem d_MO_taken_59 : decode b_MO_taken 59 = .ok (.iload_n 1, 1) := by decide +kernel
theorem d_MO_taken_60 : decode b_MO_taken 60 = .ok (.iaload, 1) := by decide +kernel
theorem d_MO_taken_61 : decode b_MO_taken 61 = .ok (.aload_n 0, 1) := by decide +kernel
theorem d_MO_taken_62 : decode b_MO_taken 62 = .ok (.getfield 140, 3) := by decide +kernel
theorem d_MO_taken_65 : decode b_MO_taken 65 = .ok (.iload_n 1, 1) := by decide +kernel
theorem d_MO_taken_66 : decode b_MO_taken 66 = .ok (.iaload, 1) := by decide +kernel
theorem d_MO_taken_67 : decode b_MO_taken 67 = .ok (.iadd, 1) := by decide +kernel
theorem d_MO_taken_68 : decode b_MO_taken 68 = .ok (.if_icmp .ge 47, 3) := by decide +kernel
theorem d_MO_taken_71 : decode b_MO_taken 71 = .ok (.iload_n 3, 1) := by decide +kernel
theorem d_MO_taken_72 : decode b_MO_taken 72 = .ok (.ifCond .ne 43, 3) := by decide +kernel
theorem d_MO_taken_75 : decode b_MO_taken 75 = .ok (.aload_n 0, 1) := by decide +kernel
theorem d_MO_taken_76 : decode b_MO_taken 76 = .ok (.getfield 513, 3) := by decide +kernel
theorem d_MO_taken_79 : decode b_MO_taken 79 = .ok (.aload_n 0, 1) := by decide +kernel
theorem d_MO_taken_80 : decode b_MO_taken 80 = .ok (.getfield 143, 3) := by decide +kernel
theorem d_MO_taken_83 : decode b_MO_taken 83 = .ok (.iload 4, 2) := by decide +kernel
theorem d_MO_taken_85 : decode b_MO_taken 85 = .ok (.iaload, 1) := by decide +kernel
theorem d_MO_taken_86 : decode b_MO_taken 86 = .ok (.if_icmp .lt 21, 3) := by decide +kernel
theorem d_MO_taken_89 : decode b_MO_taken 89 = .ok (.aload_n 0, 1) := by decide +kernel
theorem d_MO_taken_90 : decode b_MO_taken 90 = .ok (.getfield 513, 3) := by decide +kernel
theorem d_MO_taken_93 : decode b_MO_taken 93 = .ok (.aload_n 0, 1) := by decide +kernel
theorem d_MO_taken_94 : decode b_MO_taken 94 = .ok (.getfield 146, 3) := by decide +kernel
theorem d_MO_taken_97 : decode b_MO_taken 97 = .ok (.iload 4, 2) := by decide +kernel
theorem d_MO_taken_99 : decode b_MO_taken 99 = .ok (.iaload, 1) := by decide +kernel
theorem d_MO_taken_100 : decode b_MO_taken 100 = .ok (.if_icmp .gt 7, 3) := by decide +kernel
theorem d_MO_taken_103 : decode b_MO_taken 103 = .ok (.iconst 1, 1) := by decide +kernel
theorem d_MO_taken_104 : decode b_MO_taken 104 = .ok (.goto 4, 3) := by decide +kernel
theorem d_MO_taken_107 : decode b_MO_taken 107 = .ok (.iconst 0, 1) := by decide +kernel
theorem d_MO_taken_108 : decode b_MO_taken 108 = .ok (.istore_n 3, 1) := by decide +kernel
theorem d_MO_taken_109 : decode b_MO_taken 109 = .ok (.iinc 4 1, 3) := by decide +kernel
theorem d_MO_taken_112 : decode b_MO_taken 112 = .ok (.goto (-59), 3) := by decide +kernel
theorem d_MO_taken_115 : decode b_MO_taken 115 = .ok (.iload_n 3, 1) := by decide +kernel
theorem d_MO_taken_116 : decode b_MO_taken 116 = .ok (.ifCond .eq 10, 3) := by decide +kernel
theorem d_MO_taken_119 : decode b_MO_taken 119 = .ok (.aload_n 0, 1) := by decide +kernel
theorem d_MO_taken_120 : decode b_MO_taken 120 = .ok (.getfield 516, 3) := by decide +kernel
theorem d_MO_taken_123 : decode b_MO_taken 123 = .ok (.goto 4, 3) := by decide +kernel
theorem d_MO_taken_126 : decode b_MO_taken 126 = .ok (.iconst 0, 1) := by decide +kernel
theorem d_MO_taken_127 : decode b_MO_taken 127 = .ok (.ireturn, 1) := by decide +kernel
theorem d_MO_thrown_0 : decode b_MO_thrown 0 = .ok (.aload_n 0, 1) := by decide +kernel
theorem d_MO_thrown_1 : decode b_MO_thrown 1 = .ok (.getfield 220, 3) := by decide +kernel
theorem d_MO_thrown_4 : decode b_MO_thrown 4 = .ok (.ireturn, 1) := by decide +kernel
theorem d_MO_wordAt_0 : decode b_MO_wordAt 0 = .ok (.iload_n 1, 1) := by decide +kernel
theorem d_MO_wordAt_1 : decode b_MO_wordAt 1 = .ok (.ifCond .lt 27, 3) := by decide +kernel
theorem d_MO_wordAt_4 : decode b_MO_wordAt 4 = .ok (.iload_n 1, 1) := by decide +kernel
theorem d_MO_wordAt_5 : decode b_MO_wordAt 5 = .ok (.aload_n 0, 1) := by decide +kernel
theorem d_MO_wordAt_6 : decode b_MO_wordAt 6 = .ok (.getfield 510, 3) := by decide +kernel
theorem d_MO_wordAt_9 : decode b_MO_wordAt 9 = .ok (.if_icmp .ge 19, 3) := by decide +kernel
theorem d_MO_wordAt_12 : decode b_MO_wordAt 12 = .ok (.aload_n 0, 1) := by decide +kernel
theorem d_MO_wordAt_13 : decode b_MO_wordAt 13 = .ok (.getfield 22, 3) := by decide +kernel
theorem d_MO_wordAt_16 : decode b_MO_wordAt 16 = .ok (.iload_n 1, 1) := by decide +kernel
theorem d_MO_wordAt_17 : decode b_MO_wordAt 17 = .ok (.iaload, 1) := by decide +kernel
theorem d_MO_wordAt_18 : decode b_MO_wordAt 18 = .ok (.invokestatic 326, 3) := by decide +kernel
theorem d_MO_wordAt_21 : decode b_MO_wordAt 21 = .ok (.ifCond .eq 7, 3) := by decide +kernel
theorem d_MO_wordAt_24 : decode b_MO_wordAt 24 = .ok (.iconst 1, 1) := by decide +kernel
theorem d_MO_wordAt_25 : decode b_MO_wordAt 25 = .ok (.goto 4, 3) := by decide +kernel
theorem d_MO_wordAt_28 : decode b_MO_wordAt 28 = .ok (.iconst 0, 1) := by decide +kernel
theorem d_MO_wordAt_29 : decode b_MO_wordAt 29 = .ok (.ireturn, 1) := by decide +kernel
