theorem d_PW_feed_0 : decode b_PW_feed 0 = .ok (.aload_n 0, 1) := by decide +kernel
theorem d_PW_feed_1 : decode b_PW_feed 1 = .ok (.iconst 0, 1) := by decide +kernel
theorem d_PW_feed_2 : decode b_PW_feed 2 = .ok (.iload_n 1, 1) := by decide +kernel
theorem d_PW_feed_3 : decode b_PW_feed 3 = .ok (.invokevirtual 97, 3) := by decide +kernel
theorem d_PW_feed_6 : decode b_PW_feed 6 = .ok (.aload_n 0, 1) := by decide +kernel
theorem d_PW_feed_7 : decode b_PW_feed 7 = .ok (.iconst 4, 1) := by decide +kernel
theorem d_PW_feed_8 : decode b_PW_feed 8 = .ok (.iload_n 2, 1) := by decide +kernel
theorem d_PW_feed_9 : decode b_PW_feed 9 = .ok (.invokevirtual 97, 3) := by decide +kernel
theorem d_PW_feed_12 : decode b_PW_feed 12 = .ok (.aload_n 0, 1) := by decide +kernel
theorem d_PW_feed_13 : decode b_PW_feed 13 = .ok (.bipush 8, 2) := by decide +kernel
theorem d_PW_feed_15 : decode b_PW_feed 15 = .ok (.iload_n 3, 1) := by decide +kernel
theorem d_PW_feed_16 : decode b_PW_feed 16 = .ok (.invokevirtual 97, 3) := by decide +kernel
theorem d_PW_feed_19 : decode b_PW_feed 19 = .ok (.aload_n 0, 1) := by decide +kernel
theorem d_PW_feed_20 : decode b_PW_feed 20 = .ok (.bipush 12, 2) := by decide +kernel
theorem d_PW_feed_22 : decode b_PW_feed 22 = .ok (.iload 4, 2) := by decide +kernel
theorem d_PW_feed_24 : decode b_PW_feed 24 = .ok (.invokevirtual 97, 3) := by decide +kernel
theorem d_PW_feed_27 : decode b_PW_feed 27 = .ok (.aload_n 0, 1) := by decide +kernel
theorem d_PW_feed_28 : decode b_PW_feed 28 = .ok (.bipush 16, 2) := by decide +kernel
theorem d_PW_feed_30 : decode b_PW_feed 30 = .ok (.iload 5, 2) := by decide +kernel
theorem d_PW_feed_32 : decode b_PW_feed 32 = .ok (.invokevirtual 97, 3) := by decide +kernel
theorem d_PW_feed_35 : decode b_PW_feed 35 = .ok (.return_, 1) := by decide +kernel
theorem d_PW_makeReady_0 : decode b_PW_makeReady 0 = .ok (.iconst 0, 1) := by decide +kernel
theorem d_PW_makeReady_1 : decode b_PW_makeReady 1 = .ok (.istore_n 3, 1) := by decide +kernel
theorem d_PW_makeReady_2 : decode b_PW_makeReady 2 = .ok (.iload_n 3, 1) := by decide +kernel
theorem d_PW_makeReady_3 : decode b_PW_makeReady 3 = .ok (.iconst 4, 1) := by decide +kernel
theorem d_PW_makeReady_4 : decode b_PW_makeReady 4 = .ok (.if_icmp .ge 30, 3) := by decide +kernel
theorem d_PW_makeReady_7 : decode b_PW_makeReady 7 = .ok (.aload_n 0, 1) := by decide +kernel
theorem d_PW_makeReady_8 : decode b_PW_makeReady 8 = .ok (.getfield 9, 3) := by decide +kernel
theorem d_PW_makeReady_11 : decode b_PW_makeReady 11 = .ok (.iload_n 1, 1) := by decide +kernel
theorem d_PW_makeReady_12 : decode b_PW_makeReady 12 = .ok (.iload_n 3, 1) := by decide +kernel
theorem d_PW_makeReady_13 : decode b_PW_makeReady 13 = .ok (.iadd, 1) := by decide +kernel
theorem d_PW_makeReady_14 : decode b_PW_makeReady 14 = .ok (.iload_n 2, 1) := by decide +kernel
theorem d_PW_makeReady_15 : decode b_PW_makeReady 15 = .ok (.bipush 24, 2) := by decide +kernel
theorem d_PW_makeReady_17 : decode b_PW_makeReady 17 = .ok (.bipush 8, 2) := by decide +kernel
theorem d_PW_makeReady_19 : decode b_PW_makeReady 19 = .ok (.iload_n 3, 1) := by decide +kernel
theorem d_PW_makeReady_20 : decode b_PW_makeReady 20 = .ok (.imul, 1) := by decide +kernel
theorem d_PW_makeReady_21 : decode b_PW_makeReady 21 = .ok (.isub, 1) := by decide +kernel
theorem d_PW_makeReady_22 : decode b_PW_makeReady 22 = .ok (.iushr, 1) := by decide +kernel
theorem d_PW_makeReady_23 : decode b_PW_makeReady 23 = .ok (.sipush 255, 3) := by decide +kernel
theorem d_PW_makeReady_26 : decode b_PW_makeReady 26 = .ok (.iand, 1) := by decide +kernel
theorem d_PW_makeReady_27 : decode b_PW_makeReady 27 = .ok (.iastore, 1) := by decide +kernel
theorem d_PW_makeReady_28 : decode b_PW_makeReady 28 = .ok (.iinc 3 1, 3) := by decide +kernel
theorem d_PW_makeReady_31 : decode b_PW_makeReady 31 = .ok (.goto (-29), 3) := by decide +kernel
theorem d_PW_makeReady_34 : decode b_PW_makeReady 34 = .ok (.return_, 1) := by decide +kernel
theorem d_MO_feed_0 : decode b_MO_feed 0 = .ok (.aload_n 0, 1) := by decide +kernel
theorem d_MO_feed_1 : decode b_MO_feed 1 = .ok (.iconst 0, 1) := by decide +kernel
theorem d_MO_feed_2 : decode b_MO_feed 2 = .ok (.putfield 220, 3) := by decide +kernel
theorem d_MO_feed_5 : decode b_MO_feed 5 = .ok (.iconst 0, 1) := by decide +kernel
theorem d_MO_feed_6 : decode b_MO_feed 6 = .ok (.istore 6, 2) := by decide +kernel
theorem d_MO_feed_8 : decode b_MO_feed 8 = .ok (.iload 6, 2) := by decide +kernel
theorem d_MO_feed_10 : decode b_MO_feed 10 = .ok (.iconst 4, 1) := by decide +kernel
theorem d_MO_feed_11 : decode b_MO_feed 11 = .ok (.if_icmp .ge 107, 3) := by decide +kernel
theorem d_MO_feed_14 : decode b_MO_feed 14 = .ok (.bipush 24, 2) := by decide +kernel
theorem d_MO_feed_16 : decode b_MO_feed 16 = .ok (.bipush 8, 2) := by decide +kernel
theorem d_MO_feed_18 : decode b_MO_feed 18 = .ok (.iload 6, 2) := by decide +kernel
theorem d_MO_feed_20 : decode b_MO_feed 20 = .ok (.imul, 1) := by decide +kernel
theorem d_MO_feed_21 : decode b_MO_feed 21 = .ok (.isub, 1) := by decide +kernel
theorem d_MO_feed_22 : decode b_MO_feed 22 = .ok (.istore 7, 2) := by decide +kernel
theorem d_MO_feed_24 : decode b_MO_feed 24 = .ok (.aload_n 0, 1) := by decide +kernel
theorem d_MO_feed_25 : decode b_MO_feed 25 = .ok (.getfield 16, 3) := by decide +kernel
theorem d_MO_feed_28 : decode b_MO_feed 28 = .ok (.iload 6, 2) := by decide +kernel
theorem d_MO_feed_30 : decode b_MO_feed 30 = .ok (.iload_n 1, 1) := by decide +kernel
theorem d_MO_feed_31 : decode b_MO_feed 31 = .ok (.iload 7, 2) := by decide +kernel
theorem d_MO_feed_33 : decode b_MO_feed 33 = .ok (.ishr, 1) := by decide +kernel
theorem d_MO_feed_34 : decode b_MO_feed 34 = .ok (.sipush 255, 3) := by decide +kernel
theorem d_MO_feed_37 : decode b_MO_feed 37 = .ok (.iand, 1) := by decide +kernel
theorem d_MO_feed_38 : decode b_MO_feed 38 = .ok (.iastore, 1) := by decide +kernel
theorem d_MO_feed_39 : decode b_MO_feed 39 = .ok (.aload_n 0, 1) := by decide +kernel
theorem d_MO_feed_40 : decode b_MO_feed 40 = .ok (.getfield 16, 3) := by decide +kernel
theorem d_MO_feed_43 : decode b_MO_feed 43 = .ok (.iconst 4, 1) := by decide +kernel
theorem d_MO_feed_44 : decode b_MO_feed 44 = .ok (.iload 6, 2) := by decide +kernel
theorem d_MO_feed_46 : decode b_MO_feed 46 = .ok (.iadd, 1) := by decide +kernel
theorem d_MO_feed_47 : decode b_MO_feed 47 = .ok (.iload_n 2, 1) := by decide +kernel
theorem d_MO_feed_48 : decode b_MO_feed 48 = .ok (.iload 7, 2) := by decide +kernel
theorem d_MO_feed_50 : decode b_MO_feed 50 = .ok (.ishr, 1) := by decide +kernel
theorem d_MO_feed_51 : decode b_MO_feed 51 = .ok (.sipush 255, 3) := by decide +kernel
theorem d_MO_feed_54 : decode b_MO_feed 54 = .ok (.iand, 1) := by decide +kernel
theorem d_MO_feed_55 : decode b_MO_feed 55 = .ok (.iastore, 1) := by decide +kernel
theorem d_MO_feed_56 : decode b_MO_feed 56 = .ok (.aload_n 0, 1) := by decide +kernel
theorem d_MO_feed_57 : decode b_MO_feed 57 = .ok (.getfield 16, 3) := by decide +kernel
theorem d_MO_feed_60 : decode b_MO_feed 60 = .ok (.bipush 8, 2) := by decide +kernel
theorem d_MO_feed_62 : decode b_MO_feed 62 = .ok (.iload 6, 2) := by decide +kernel
theorem d_MO_feed_64 : decode b_MO_feed 64 = .ok (.iadd, 1) := by decide +kernel
theorem d_MO_feed_65 : decode b_MO_feed 65 = .ok (.iload_n 3, 1) := by decide +kernel
theorem d_MO_feed_66 : decode b_MO_feed 66 = .ok (.iload 7, 2) := by decide +kernel
theorem d_MO_feed_68 : decode b_MO_feed 68 = .ok (.ishr, 1) := by decide +kernel
theorem d_MO_feed_69 : decode b_MO_feed 69 = .ok (.sipush 255, 3) := by decide +kernel
theorem d_MO_feed_72 : decode b_MO_feed 72 = .ok (.iand, 1) := by decide +kernel
theorem d_MO_feed_73 : decode b_MO_feed 73 = .ok (.iastore, 1) := by decide +kernel
theorem d_MO_feed_74 : decode b_MO_feed 74 = .ok (.aload_n 0, 1) := by decide +kernel
theorem d_MO_feed_75 : decode b_MO_feed 75 = .ok (.getfield 16, 3) := by decide +kernel
theorem d_MO_feed_78 : decode b_MO_feed 78 = .ok (.bipush 12, 2) := by decide +kernel
theorem d_MO_feed_80 : decode b_MO_feed 80 = .ok (.iload 6, 2) := by decide +kernel
theorem d_MO_feed_82 : decode b_MO_feed 82 = .ok (.iadd, 1) := by decide +kernel
theorem d_MO_feed_83 : decode b_MO_feed 83 = .ok (.iload 4, 2) := by decide +kernel
theorem d_MO_feed_85 : decode b_MO_feed 85 = .ok (.iload 7, 2) := by decide +kernel
theorem d_MO_feed_87 : decode b_MO_feed 87 = .ok (.ishr, 1) := by decide +kernel
theorem d_MO_feed_88 : decode b_MO_feed 88 = .ok (.sipush 255, 3) := by decide +kernel
theorem d_MO_feed_91 : decode b_MO_feed 91 = .ok (.iand, 1) := by decide +kernel
theorem d_MO_feed_92 : decode b_MO_feed 92 = .ok (.iastore, 1) := by decide +kernel
theorem d_MO_feed_93 : decode b_MO_feed 93 = .ok (.aload_n 0, 1) := by decide +kernel
theorem d_MO_feed_94 : decode b_MO_feed 94 = .ok (.getfield 16, 3) := by decide +kernel
theorem d_MO_feed_97 : decode b_MO_feed 97 = .ok (.bipush 16, 2) := by decide +kernel
theorem d_MO_feed_99 : decode b_MO_feed 99 = .ok (.iload 6, 2) := by decide +kernel
theorem d_MO_feed_101 : decode b_MO_feed 101 = .ok (.iadd, 1) := by decide +kernel
theorem d_MO_feed_102 : decode b_MO_feed 102 = .ok (.iload 5, 2) := by decide +kernel
theorem d_MO_feed_104 : decode b_MO_feed 104 = .ok (.iload 7, 2) := by decide +kernel
theorem d_MO_feed_106 : decode b_MO_feed 106 = .ok (.ishr, 1) := by decide +kernel
theorem d_MO_feed_107 : decode b_MO_feed 107 = .ok (.sipush 255, 3) := by decide +kernel
theorem d_MO_feed_110 : decode b_MO_feed 110 = .ok (.iand, 1) := by decide +kernel
theorem d_MO_feed_111 : decode b_MO_feed 111 = .ok (.iastore, 1) := by decide +kernel
theorem d_MO_feed_112 : decode b_MO_feed 112 = .ok (.iinc 6 1, 3) := by decide +kernel
theorem d_MO_feed_115 : decode b_MO_feed 115 = .ok (.goto (-107), 3) := by decide +kernel
theorem d_MO_feed_118 : decode b_MO_feed 118 = .ok (.return_, 1) := by decide +kernel
theorem d_PW_end_0 : decode b_PW_end 0 = .ok (.iload_n 1, 1) := by decide +kernel
theorem d_PW_end_1 : decode b_PW_end 1 = .ok (.ifCond .lt 24, 3) := by decide +kernel
theorem d_PW_end_4 : decode b_PW_end 4 = .ok (.iload_n 1, 1) := by decide +kernel
theorem d_PW_end_5 : decode b_PW_end 5 = .ok (.bipush 20, 2) := by decide +kernel
theorem d_PW_end_7 : decode b_PW_end 7 = .ok (.if_icmp .gt 18, 3) := by decide +kernel
theorem d_PW_end_10 : decode b_PW_end 10 = .ok (.aload_n 0, 1) := by decide +kernel
theorem d_PW_end_11 : decode b_PW_end 11 = .ok (.getfield 18, 3) := by decide +kernel
theorem d_PW_end_14 : decode b_PW_end 14 = .ok (.getfield 101, 3) := by decide +kernel
theorem d_PW_end_17 : decode b_PW_end 17 = .ok (.iload_n 1, 1) := by decide +kernel
theorem d_PW_end_18 : decode b_PW_end 18 = .ok (.iadd, 1) := by decide +kernel
theorem d_PW_end_19 : decode b_PW_end 19 = .ok (.sipush 2000, 3) := by decide +kernel
theorem d_PW_end_22 : decode b_PW_end 22 = .ok (.if_icmp .le 5, 3) := by decide +kernel
theorem d_PW_end_25 : decode b_PW_end 25 = .ok (.iconst (-1), 1) := by decide +kernel
theorem d_PW_end_26 : decode b_PW_end 26 = .ok (.ireturn, 1) := by decide +kernel
theorem d_PW_end_27 : decode b_PW_end 27 = .ok (.aload_n 0, 1) := by decide +kernel
theorem d_PW_end_28 : decode b_PW_end 28 = .ok (.getfield 18, 3) := by decide +kernel
theorem d_PW_end_31 : decode b_PW_end 31 = .ok (.aload_n 0, 1) := by decide +kernel
theorem d_PW_end_32 : decode b_PW_end 32 = .ok (.getfield 9, 3) := by decide +kernel
theorem d_PW_end_35 : decode b_PW_end 35 = .ok (.iconst 0, 1) := by decide +kernel
theorem d_PW_end_36 : decode b_PW_end 36 = .ok (.iload_n 1, 1) := by decide +kernel
theorem d_PW_end_37 : decode b_PW_end 37 = .ok (.invokevirtual 105, 3) := by decide +kernel
theorem d_PW_end_40 : decode b_PW_end 40 = .ok (.pop, 1) := by decide +kernel
theorem d_PW_end_41 : decode b_PW_end 41 = .ok (.aload_n 0, 1) := by decide +kernel
theorem d_PW_end_42 : decode b_PW_end 42 = .ok (.getfield 9, 3) := by decide +kernel
theorem d_PW_end_45 : decode b_PW_end 45 = .ok (.iconst 0, 1) := by decide +kernel
theorem d_PW_end_46 : decode b_PW_end 46 = .ok (.invokestatic 91, 3) := by decide +kernel
theorem d_PW_end_49 : decode b_PW_end 49 = .ok (.aload_n 0, 1) := by decide +kernel
theorem d_PW_end_50 : decode b_PW_end 50 = .ok (.getfield 18, 3) := by decide +kernel
theorem d_PW_end_53 : decode b_PW_end 53 = .ok (.getfield 101, 3) := by decide +kernel
theorem d_PW_end_56 : decode b_PW_end 56 = .ok (.ireturn, 1) := by decide +kernel
theorem d_MO_end_0 : decode b_MO_end 0 = .ok (.aload_n 0, 1) := by decide +kernel
theorem d_MO_end_1 : decode b_MO_end 1 = .ok (.iconst 0, 1) := by decide +kernel
theorem d_MO_end_2 : decode b_MO_end 2 = .ok (.putfield 220, 3) := by decide +kernel
theorem d_MO_end_5 : decode b_MO_end 5 = .ok (.iload_n 1, 1) := by decide +kernel
theorem d_MO_end_6 : decode b_MO_end 6 = .ok (.ifCond .lt 21, 3) := by decide +kernel
theorem d_MO_end_9 : decode b_MO_end 9 = .ok (.iload_n 1, 1) := by decide +kernel
theorem d_MO_end_10 : decode b_MO_end 10 = .ok (.bipush 20, 2) := by decide +kernel
theorem d_MO_end_12 : decode b_MO_end 12 = .ok (.if_icmp .gt 15, 3) := by decide +kernel
theorem d_MO_end_15 : decode b_MO_end 15 = .ok (.aload_n 0, 1) := by decide +kernel
theorem d_MO_end_16 : decode b_MO_end 16 = .ok (.getfield 223, 3) := by decide +kernel
theorem d_MO_end_19 : decode b_MO_end 19 = .ok (.iload_n 1, 1) := by decide +kernel
theorem d_MO_end_20 : decode b_MO_end 20 = .ok (.iadd, 1) := by decide +kernel
theorem d_MO_end_21 : decode b_MO_end 21 = .ok (.sipush 2000, 3) := by decide +kernel
theorem d_MO_end_24 : decode b_MO_end 24 = .ok (.if_icmp .le 5, 3) := by decide +kernel
theorem d_MO_end_27 : decode b_MO_end 27 = .ok (.iconst (-1), 1) := by decide +kernel
theorem d_MO_end_28 : decode b_MO_end 28 = .ok (.ireturn, 1) := by decide +kernel
theorem d_MO_end_29 : decode b_MO_end 29 = .ok (.iconst 0, 1) := by decide +kernel
theorem d_MO_end_30 : decode b_MO_end 30 = .ok (.istore_n 2, 1) := by decide +kernel
theorem d_MO_end_31 : decode b_MO_end 31 = .ok (.iload_n 2, 1) := by decide +kernel
theorem d_MO_end_32 : decode b_MO_end 32 = .ok (.iload_n 1, 1) := by decide +kernel
theorem d_MO_end_33 : decode b_MO_end 33 = .ok (.if_icmp .ge 26, 3) := by decide +kernel
theorem d_MO_end_36 : decode b_MO_end 36 = .ok (.aload_n 0, 1) := by decide +kernel
theorem d_MO_end_37 : decode b_MO_end 37 = .ok (.getfield 19, 3) := by decide +kernel
theorem d_MO_end_40 : decode b_MO_end 40 = .ok (.aload_n 0, 1) := by decide +kernel
theorem d_MO_end_41 : decode b_MO_end 41 = .ok (.getfield 223, 3) := by decide +kernel
theorem d_MO_end_44 : decode b_MO_end 44 = .ok (.iload_n 2, 1) := by decide +kernel
theorem d_MO_end_45 : decode b_MO_end 45 = .ok (.iadd, 1) := by decide +kernel
theorem d_MO_end_46 : decode b_MO_end 46 = .ok (.aload_n 0, 1) := by decide +kernel
theorem d_MO_end_47 : decode b_MO_end 47 = .ok (.getfield 16, 3) := by decide +kernel
theorem d_MO_end_50 : decode b_MO_end 50 = .ok (.iload_n 2, 1) := by decide +kernel
theorem d_MO_end_51 : decode b_MO_end 51 = .ok (.iaload, 1) := by decide +kernel
theorem d_MO_end_52 : decode b_MO_end 52 = .ok (.iastore, 1) := by decide +kernel
theorem d_MO_end_53 : decode b_MO_end 53 = .ok (.iinc 2 1, 3) := by decide +kernel
theorem d_MO_end_56 : decode b_MO_end 56 = .ok (.goto (-25), 3) := by decide +kernel
theorem d_MO_end_59 : decode b_MO_end 59 = .ok (.aload_n 0, 1) := by decide +kernel
theorem d_MO_end_60 : decode b_MO_end 60 = .ok (.dup, 1) := by decide +kernel
theorem d_MO_end_61 : decode b_MO_end 61 = .ok (.getfield 223, 3) := by decide +kernel
theorem d_MO_end_64 : decode b_MO_end 64 = .ok (.iload_n 1, 1) := by decide +kernel
theorem d_MO_end_65 : decode b_MO_end 65 = .ok (.iadd, 1) := by decide +kernel
theorem d_MO_end_66 : decode b_MO_end 66 = .ok (.putfield 223, 3) := by decide +kernel
theorem d_MO_end_69 : decode b_MO_end 69 = .ok (.iconst 0, 1) := by decide +kernel
theorem d_MO_end_70 : decode b_MO_end 70 = .ok (.istore_n 2, 1) := by decide +kernel
theorem d_MO_end_71 : decode b_MO_end 71 = .ok (.iload_n 2, 1) := by decide +kernel
theorem d_MO_end_72 : decode b_MO_end 72 = .ok (.bipush 20, 2) := by decide +kernel
theorem d_MO_end_74 : decode b_MO_end 74 = .ok (.if_icmp .ge 16, 3) := by decide +kernel
theorem d_MO_end_77 : decode b_MO_end 77 = .ok (.aload_n 0, 1) := by decide +kernel
theorem d_MO_end_78 : decode b_MO_end 78 = .ok (.getfield 16, 3) := by decide +kernel
theorem d_MO_end_81 : decode b_MO_end 81 = .ok (.iload_n 2, 1) := by decide +kernel
theorem d_MO_end_82 : decode b_MO_end 82 = .ok (.iconst 0, 1) := by decide +kernel
theorem d_MO_end_83 : decode b_MO_end 83 = .ok (.iastore, 1) := by decide +kernel
theorem d_MO_end_84 : decode b_MO_end 84 = .ok (.iinc 2 1, 3) := by decide +kernel
theorem d_MO_end_87 : decode b_MO_end 87 = .ok (.goto (-16), 3) := by decide +kernel
theorem d_MO_end_90 : decode b_MO_end 90 = .ok (.aload_n 0, 1) := by decide +kernel
theorem d_MO_end_91 : decode b_MO_end 91 = .ok (.getfield 223, 3) := by decide +kernel
theorem d_MO_end_94 : decode b_MO_end 94 = .ok (.ireturn, 1) := by decide +kernel
theorem d_LA_compile_0 : decode b_LA_compile 0 = .ok (.aload_n 3, 1) := by decide +kernel
theorem d_LA_compile_1 : decode b_LA_compile 1 = .ok (.iconst 0, 1) := by decide +kernel
theorem d_LA_compile_2 : decode b_LA_compile 2 = .ok (.aload_n 0, 1) := by decide +kernel
theorem d_LA_compile_3 : decode b_LA_compile 3 = .ok (.iload_n 1, 1) := by decide +kernel
theorem d_LA_compile_4 : decode b_LA_compile 4 = .ok (.iload_n 2, 1) := by decide +kernel
theorem d_LA_compile_5 : decode b_LA_compile 5 = .ok (.invokevirtual 7, 3) := by decide +kernel
theorem d_LA_compile_8 : decode b_LA_compile 8 = .ok (.i2l, 1) := by decide +kernel
theorem d_LA_compile_9 : decode b_LA_compile 9 = .ok (.lastore, 1) := by decide +kernel
theorem d_LA_compile_10 : decode b_LA_compile 10 = .ok (.goto 7, 3) := by decide +kernel
theorem d_LA_compile_13 : decode b_LA_compile 13 = .ok (.astore 4, 2) := by decide +kernel
theorem d_LA_compile_15 : decode b_LA_compile 15 = .ok (.iconst 1, 1) := by decide +kernel
theorem d_LA_compile_16 : decode b_LA_compile 16 = .ok (.ireturn, 1) := by decide +kernel
theorem d_LA_compile_17 : decode b_LA_compile 17 = .ok (.iconst 0, 1) := by decide +kernel
theorem d_LA_compile_18 : decode b_LA_compile 18 = .ok (.ireturn, 1) := by decide +kernel
theorem d_PW_compile_0 : decode b_PW_compile 0 = .ok (.iload_n 1, 1) := by decide +kernel
theorem d_PW_compile_1 : decode b_PW_compile 1 = .ok (.ifCond .lt 19, 3) := by decide +kernel
theorem d_PW_compile_4 : decode b_PW_compile 4 = .ok (.iload_n 1, 1) := by decide +kernel
theorem d_PW_compile_5 : decode b_PW_compile 5 = .ok (.bipush 6, 2) := by decide +kernel
theorem d_PW_compile_7 : decode b_PW_compile 7 = .ok (.if_icmp .ge 13, 3) := by decide +kernel
theorem d_PW_compile_10 : decode b_PW_compile 10 = .ok (.iload_n 2, 1) := by decide +kernel
theorem d_PW_compile_11 : decode b_PW_compile 11 = .ok (.ifCond .lt 9, 3) := by decide +kernel
theorem d_PW_compile_14 : decode b_PW_compile 14 = .ok (.iload_n 2, 1) := by decide +kernel
theorem d_PW_compile_15 : decode b_PW_compile 15 = .ok (.bipush 31, 2) := by decide +kernel
theorem d_PW_compile_17 : decode b_PW_compile 17 = .ok (.if_icmp .le 13, 3) := by decide +kernel
theorem d_PW_compile_20 : decode b_PW_compile 20 = .ok (.new 109, 3) := by decide +kernel
theorem d_PW_compile_23 : decode b_PW_compile 23 = .ok (.dup, 1) := by decide +kernel
theorem d_PW_compile_24 : decode b_PW_compile 24 = .ok (.ldc 111, 2) := by decide +kernel
theorem d_PW_compile_26 : decode b_PW_compile 26 = .ok (.invokespecial 113, 3) := by decide +kernel
theorem d_PW_compile_29 : decode b_PW_compile 29 = .ok (.athrow, 1) := by decide +kernel
theorem d_PW_compile_30 : decode b_PW_compile 30 = .ok (.aload_n 0, 1) := by decide +kernel
theorem d_PW_compile_31 : decode b_PW_compile 31 = .ok (.getfield 25, 3) := by decide +kernel
theorem d_PW_compile_34 : decode b_PW_compile 34 = .ok (.aload_n 0, 1) := by decide +kernel
theorem d_PW_compile_35 : decode b_PW_compile 35 = .ok (.getfield 18, 3) := by decide +kernel
theorem d_PW_compile_38 : decode b_PW_compile 38 = .ok (.iload_n 2, 1) := by decide +kernel
theorem d_PW_compile_39 : decode b_PW_compile 39 = .ok (.invokevirtual 116, 3) := by decide +kernel
theorem d_PW_compile_42 : decode b_PW_compile 42 = .ok (.astore_n 3, 1) := by decide +kernel
theorem d_PW_compile_43 : decode b_PW_compile 43 = .ok (.aload_n 0, 1) := by decide +kernel
theorem d_PW_compile_44 : decode b_PW_compile 44 = .ok (.getfield 18, 3) := by decide +kernel
theorem d_PW_compile_47 : decode b_PW_compile 47 = .ok (.invokevirtual 120, 3) := by decide +kernel
theorem d_PW_compile_50 : decode b_PW_compile 50 = .ok (.aload_n 3, 1) := by decide +kernel
theorem d_PW_compile_51 : decode b_PW_compile 51 = .ok (.ifnonnull 13, 3) := by decide +kernel
theorem d_PW_compile_54 : decode b_PW_compile 54 = .ok (.new 109, 3) := by decide +kernel
theorem d_PW_compile_57 : decode b_PW_compile 57 = .ok (.dup, 1) := by decide +kernel
theorem d_PW_compile_58 : decode b_PW_compile 58 = .ok (.ldc 123, 2) := by decide +kernel
theorem d_PW_compile_60 : decode b_PW_compile 60 = .ok (.invokespecial 113, 3) := by decide +kernel
theorem d_PW_compile_63 : decode b_PW_compile 63 = .ok (.athrow, 1) := by decide +kernel
theorem d_PW_compile_64 : decode b_PW_compile 64 = .ok (.aload_n 0, 1) := by decide +kernel
theorem d_PW_compile_65 : decode b_PW_compile 65 = .ok (.getfield 31, 3) := by decide +kernel
theorem d_PW_compile_68 : decode b_PW_compile 68 = .ok (.iload_n 1, 1) := by decide +kernel
theorem d_PW_compile_69 : decode b_PW_compile 69 = .ok (.aaload, 1) := by decide +kernel
theorem d_PW_compile_70 : decode b_PW_compile 70 = .ok (.ifnonnull 16, 3) := by decide +kernel
theorem d_PW_compile_73 : decode b_PW_compile 73 = .ok (.aload_n 0, 1) := by decide +kernel
theorem d_PW_compile_74 : decode b_PW_compile 74 = .ok (.getfield 31, 3) := by decide +kernel
theorem d_PW_compile_77 : decode b_PW_compile 77 = .ok (.iload_n 1, 1) := by decide +kernel
theorem d_PW_compile_78 : decode b_PW_compile 78 = .ok (.new 29, 3) := by decide +kernel
theorem d_PW_compile_81 : decode b_PW_compile 81 = .ok (.dup, 1) := by decide +kernel
theorem d_PW_compile_82 : decode b_PW_compile 82 = .ok (.invokespecial 125, 3) := by decide +kernel
theorem d_PW_compile_85 : decode b_PW_compile 85 = .ok (.aastore, 1) := by decide +kernel
theorem d_PW_compile_86 : decode b_PW_compile 86 = .ok (.aload_n 0, 1) := by decide +kernel
theorem d_PW_compile_87 : decode b_PW_compile 87 = .ok (.dup, 1) := by decide +kernel
theorem d_PW_compile_88 : decode b_PW_compile 88 = .ok (.getfield 126, 3) := by decide +kernel
theorem d_PW_compile_91 : decode b_PW_compile 91 = .ok (.iconst 1, 1) := by decide +kernel
theorem d_PW_compile_92 : decode b_PW_compile 92 = .ok (.iadd, 1) := by decide +kernel
theorem d_PW_compile_93 : decode b_PW_compile 93 = .ok (.putfield 126, 3) := by decide +kernel
theorem d_PW_compile_96 : decode b_PW_compile 96 = .ok (.aload_n 0, 1) := by decide +kernel
theorem d_PW_compile_97 : decode b_PW_compile 97 = .ok (.getfield 31, 3) := by decide +kernel
theorem d_PW_compile_100 : decode b_PW_compile 100 = .ok (.iload_n 1, 1) := by decide +kernel
theorem d_PW_compile_101 : decode b_PW_compile 101 = .ok (.aaload, 1) := by decide +kernel
theorem d_PW_compile_102 : decode b_PW_compile 102 = .ok (.aload_n 3, 1) := by decide +kernel
theorem d_PW_compile_103 : decode b_PW_compile 103 = .ok (.aload_n 0, 1) := by decide +kernel
theorem d_PW_compile_104 : decode b_PW_compile 104 = .ok (.getfield 25, 3) := by decide +kernel
theorem d_PW_compile_107 : decode b_PW_compile 107 = .ok (.iload_n 2, 1) := by decide +kernel
theorem d_PW_compile_108 : decode b_PW_compile 108 = .ok (.aload_n 0, 1) := by decide +kernel
theorem d_PW_compile_109 : decode b_PW_compile 109 = .ok (.getfield 126, 3) := by decide +kernel
theorem d_PW_compile_112 : decode b_PW_compile 112 = .ok (.invokevirtual 129, 3) := by decide +kernel
theorem d_PW_compile_115 : decode b_PW_compile 115 = .ok (.aload_n 0, 1) := by decide +kernel
theorem d_PW_compile_116 : decode b_PW_compile 116 = .ok (.getfield 31, 3) := by decide +kernel
theorem d_PW_compile_119 : decode b_PW_compile 119 = .ok (.iload_n 1, 1) := by decide +kernel
theorem d_PW_compile_120 : decode b_PW_compile 120 = .ok (.aaload, 1) := by decide +kernel
theorem d_PW_compile_121 : decode b_PW_compile 121 = .ok (.getfield 133, 3) := by decide +kernel
theorem d_PW_compile_124 : decode b_PW_compile 124 = .ok (.ireturn, 1) := by decide +kernel
theorem d_RD_read_0 : decode b_RD_read 0 = .ok (.aload_n 0, 1) := by decide +kernel
theorem d_RD_read_1 : decode b_RD_read 1 = .ok (.getfield 12, 3) := by decide +kernel
theorem d_RD_read_4 : decode b_RD_read 4 = .ok (.aload_n 1, 1) := by decide +kernel
theorem d_RD_read_5 : decode b_RD_read 5 = .ok (.invokevirtual 34, 3) := by decide +kernel
theorem d_RD_read_8 : decode b_RD_read 8 = .ok (.aload_n 0, 1) := by decide +kernel
theorem d_RD_read_9 : decode b_RD_read 9 = .ok (.iload_n 2, 1) := by decide +kernel
theorem d_RD_read_10 : decode b_RD_read 10 = .ok (.putfield 38, 3) := by decide +kernel
theorem d_RD_read_13 : decode b_RD_read 13 = .ok (.aload_n 0, 1) := by decide +kernel
theorem d_RD_read_14 : decode b_RD_read 14 = .ok (.iconst 0, 1) := by decide +kernel
theorem d_RD_read_15 : decode b_RD_read 15 = .ok (.putfield 42, 3) := by decide +kernel
theorem d_RD_read_18 : decode b_RD_read 18 = .ok (.aload_n 0, 1) := by decide +kernel
theorem d_RD_read_19 : decode b_RD_read 19 = .ok (.iconst 0, 1) := by decide +kernel
theorem d_RD_read_20 : decode b_RD_read 20 = .ok (.putfield 45, 3) := by decide +kernel
theorem d_RD_read_23 : decode b_RD_read 23 = .ok (.new 18, 3) := by decide +kernel
theorem d_RD_read_26 : decode b_RD_read 26 = .ok (.dup, 1) := by decide +kernel
theorem d_RD_read_27 : decode b_RD_read 27 = .ok (.iconst 4, 1) := by decide +kernel
theorem d_RD_read_28 : decode b_RD_read 28 = .ok (.iconst 0, 1) := by decide +kernel
theorem d_RD_read_29 : decode b_RD_read 29 = .ok (.iconst 0, 1) := by decide +kernel
theorem d_RD_read_30 : decode b_RD_read 30 = .ok (.iconst 0, 1) := by decide +kernel
theorem d_RD_read_31 : decode b_RD_read 31 = .ok (.invokespecial 20, 3) := by decide +kernel
theorem d_RD_read_34 : decode b_RD_read 34 = .ok (.astore_n 3, 1) := by decide +kernel
theorem d_RD_read_35 : decode b_RD_read 35 = .ok (.aload_n 3, 1) := by decide +kernel
theorem d_RD_read_36 : decode b_RD_read 36 = .ok (.new 18, 3) := by decide +kernel
theorem d_RD_read_39 : decode b_RD_read 39 = .ok (.dup, 1) := by decide +kernel
theorem d_RD_read_40 : decode b_RD_read 40 = .ok (.iconst 5, 1) := by decide +kernel
theorem d_RD_read_41 : decode b_RD_read 41 = .ok (.iconst 0, 1) := by decide +kernel
theorem d_RD_read_42 : decode b_RD_read 42 = .ok (.iconst 0, 1) := by decide +kernel
theorem d_RD_read_43 : decode b_RD_read 43 = .ok (.iconst 1, 1) := by decide +kernel
theorem d_RD_read_44 : decode b_RD_read 44 = .ok (.invokespecial 20, 3) := by decide +kernel
theorem d_RD_read_47 : decode b_RD_read 47 = .ok (.invokevirtual 48, 3) := by decide +kernel
theorem d_RD_read_50 : decode b_RD_read 50 = .ok (.aload_n 0, 1) := by decide +kernel
theorem d_RD_read_51 : decode b_RD_read 51 = .ok (.aload_n 3, 1) := by decide +kernel
theorem d_RD_read_52 : decode b_RD_read 52 = .ok (.putfield 23, 3) := by decide +kernel
theorem d_RD_read_55 : decode b_RD_read 55 = .ok (.iconst 0, 1) := by decide +kernel
theorem d_RD_read_56 : decode b_RD_read 56 = .ok (.istore 4, 2) := by decide +kernel
theorem d_RD_read_58 : decode b_RD_read 58 = .ok (.iload 4, 2) := by decide +kernel
theorem d_RD_read_60 : decode b_RD_read 60 = .ok (.aload_n 0, 1) := by decide +kernel
theorem d_RD_read_61 : decode b_RD_read 61 = .ok (.getfield 12, 3) := by decide +kernel
theorem d_RD_read_64 : decode b_RD_read 64 = .ok (.getfield 52, 3) := by decide +kernel
theorem d_RD_read_67 : decode b_RD_read 67 = .ok (.if_icmp .ge 53, 3) := by decide +kernel
theorem d_RD_read_70 : decode b_RD_read 70 = .ok (.aload_n 0, 1) := by decide +kernel
theorem d_RD_read_71 : decode b_RD_read 71 = .ok (.getfield 12, 3) := by decide +kernel
theorem d_RD_read_74 : decode b_RD_read 74 = .ok (.getfield 55, 3) := by decide +kernel
theorem d_RD_read_77 : decode b_RD_read 77 = .ok (.aload_n 0, 1) := by decide +kernel
theorem d_RD_read_78 : decode b_RD_read 78 = .ok (.getfield 12, 3) := by decide +kernel
theorem d_RD_read_81 : decode b_RD_read 81 = .ok (.getfield 52, 3) := by decide +kernel
theorem d_RD_read_84 : decode b_RD_read 84 = .ok (.if_icmp .ge 36, 3) := by decide +kernel
theorem d_RD_read_87 : decode b_RD_read 87 = .ok (.aload_n 0, 1) := by decide +kernel
theorem d_RD_read_88 : decode b_RD_read 88 = .ok (.getfield 12, 3) := by decide +kernel
theorem d_RD_read_91 : decode b_RD_read 91 = .ok (.getfield 58, 3) := by decide +kernel
theorem d_RD_read_94 : decode b_RD_read 94 = .ok (.ifCond .ne 26, 3) := by decide +kernel
theorem d_RD_read_97 : decode b_RD_read 97 = .ok (.aload_n 0, 1) := by decide +kernel
theorem d_RD_read_98 : decode b_RD_read 98 = .ok (.invokevirtual 61, 3) := by decide +kernel
theorem d_RD_read_101 : decode b_RD_read 101 = .ok (.astore 5, 2) := by decide +kernel
theorem d_RD_read_103 : decode b_RD_read 103 = .ok (.aload 5, 2) := by decide +kernel
theorem d_RD_read_105 : decode b_RD_read 105 = .ok (.ifnull 9, 3) := by decide +kernel
theorem d_RD_read_108 : decode b_RD_read 108 = .ok (.aload_n 0, 1) := by decide +kernel
theorem d_RD_read_109 : decode b_RD_read 109 = .ok (.aload 5, 2) := by decide +kernel
theorem d_RD_read_111 : decode b_RD_read 111 = .ok (.invokevirtual 65, 3) := by decide +kernel
theorem d_RD_read_114 : decode b_RD_read 114 = .ok (.iinc 4 1, 3) := by decide +kernel
theorem d_RD_read_117 : decode b_RD_read 117 = .ok (.goto (-59), 3) := by decide +kernel
theorem d_RD_read_120 : decode b_RD_read 120 = .ok (.aload_n 0, 1) := by decide +kernel
theorem d_RD_read_121 : decode b_RD_read 121 = .ok (.getfield 45, 3) := by decide +kernel
theorem d_RD_read_124 : decode b_RD_read 124 = .ok (.ifCond .le 19, 3) := by decide +kernel
theorem d_RD_read_127 : decode b_RD_read 127 = .ok (.aload_n 0, 1) := by decide +kernel
theorem d_RD_read_128 : decode b_RD_read 128 = .ok (.getfield 12, 3) := by decide +kernel
theorem d_RD_read_131 : decode b_RD_read 131 = .ok (.iconst 2, 1) := by decide +kernel
theorem d_RD_read_132 : decode b_RD_read 132 = .ok (.aload_n 0, 1) := by decide +kernel
theorem d_RD_read_133 : decode b_RD_read 133 = .ok (.getfield 23, 3) := by decide +kernel
theorem d_RD_read_136 : decode b_RD_read 136 = .ok (.getfield 68, 3) := by decide +kernel
theorem d_RD_read_139 : decode b_RD_read 139 = .ok (.invokevirtual 69, 3) := by decide +kernel
theorem d_RD_read_142 : decode b_RD_read 142 = .ok (.pop, 1) := by decide +kernel
theorem d_RD_read_143 : decode b_RD_read 143 = .ok (.aload_n 3, 1) := by decide +kernel
theorem d_RD_read_144 : decode b_RD_read 144 = .ok (.invokevirtual 73, 3) := by decide +kernel
theorem d_RD_read_147 : decode b_RD_read 147 = .ok (.aload_n 3, 1) := by decide +kernel
theorem d_RD_read_148 : decode b_RD_read 148 = .ok (.getfield 76, 3) := by decide +kernel
theorem d_RD_read_151 : decode b_RD_read 151 = .ok (.sipush 400, 3) := by decide +kernel
theorem d_RD_read_154 : decode b_RD_read 154 = .ok (.if_icmp .le 14, 3) := by decide +kernel
theorem d_RD_read_157 : decode b_RD_read 157 = .ok (.aload_n 0, 1) := by decide +kernel
theorem d_RD_read_158 : decode b_RD_read 158 = .ok (.getfield 12, 3) := by decide +kernel
theorem d_RD_read_161 : decode b_RD_read 161 = .ok (.bipush 14, 2) := by decide +kernel
theorem d_RD_read_163 : decode b_RD_read 163 = .ok (.iconst (-1), 1) := by decide +kernel
theorem d_RD_read_164 : decode b_RD_read 164 = .ok (.invokevirtual 69, 3) := by decide +kernel
theorem d_RD_read_167 : decode b_RD_read 167 = .ok (.pop, 1) := by decide +kernel
theorem d_RD_read_168 : decode b_RD_read 168 = .ok (.aload_n 0, 1) := by decide +kernel
theorem d_RD_read_169 : decode b_RD_read 169 = .ok (.getfield 12, 3) := by decide +kernel
theorem d_RD_read_172 : decode b_RD_read 172 = .ok (.getfield 58, 3) := by decide +kernel
theorem d_RD_read_175 : decode b_RD_read 175 = .ok (.ifCond .ne 7, 3) := by decide +kernel
theorem d_RD_read_178 : decode b_RD_read 178 = .ok (.aload_n 3, 1) := by decide +kernel
theorem d_RD_read_179 : decode b_RD_read 179 = .ok (.goto 4, 3) := by decide +kernel
theorem d_RD_read_182 : decode b_RD_read 182 = .ok (.aconst_null, 1) := by decide +kernel
theorem d_RD_read_183 : decode b_RD_read 183 = .ok (.areturn, 1) := by decide +kernel
theorem d_TX_begin_0 : decode b_TX_begin 0 = .ok (.aload_n 0, 1) := by decide +kernel
theorem d_TX_begin_1 : decode b_TX_begin 1 = .ok (.aload_n 1, 1) := by decide +kernel
theorem d_TX_begin_2 : decode b_TX_begin 2 = .ok (.getfield 32, 3) := by decide +kernel
theorem d_TX_begin_5 : decode b_TX_begin 5 = .ok (.putfield 18, 3) := by decide +kernel
theorem d_TX_begin_8 : decode b_TX_begin 8 = .ok (.aload_n 0, 1) := by decide +kernel
theorem d_TX_begin_9 : decode b_TX_begin 9 = .ok (.aload_n 1, 1) := by decide +kernel
theorem d_TX_begin_10 : decode b_TX_begin 10 = .ok (.getfield 37, 3) := by decide +kernel
theorem d_TX_begin_13 : decode b_TX_begin 13 = .ok (.putfield 40, 3) := by decide +kernel
theorem d_TX_begin_16 : decode b_TX_begin 16 = .ok (.aload_n 0, 1) := by decide +kernel
theorem d_TX_begin_17 : decode b_TX_begin 17 = .ok (.iconst 0, 1) := by decide +kernel
theorem d_TX_begin_18 : decode b_TX_begin 18 = .ok (.putfield 43, 3) := by decide +kernel
theorem d_TX_begin_21 : decode b_TX_begin 21 = .ok (.aload_n 0, 1) := by decide +kernel
theorem d_TX_begin_22 : decode b_TX_begin 22 = .ok (.iconst 0, 1) := by decide +kernel
theorem d_TX_begin_23 : decode b_TX_begin 23 = .ok (.putfield 46, 3) := by decide +kernel
theorem d_TX_begin_26 : decode b_TX_begin 26 = .ok (.aload_n 0, 1) := by decide +kernel
theorem d_TX_begin_27 : decode b_TX_begin 27 = .ok (.iconst (-1), 1) := by decide +kernel
theorem d_TX_begin_28 : decode b_TX_begin 28 = .ok (.putfield 22, 3) := by decide +kernel
theorem d_TX_begin_31 : decode b_TX_begin 31 = .ok (.return_, 1) := by decide +kernel
theorem d_PA_push_0 : decode b_PA_push 0 = .ok (.aload_n 1, 1) := by decide +kernel
theorem d_PA_push_1 : decode b_PA_push 1 = .ok (.aload_n 0, 1) := by decide +kernel
theorem d_PA_push_2 : decode b_PA_push 2 = .ok (.getfield 31, 3) := by decide +kernel
theorem d_PA_push_5 : decode b_PA_push 5 = .ok (.putfield 35, 3) := by decide +kernel
theorem d_PA_push_8 : decode b_PA_push 8 = .ok (.aload_n 0, 1) := by decide +kernel
theorem d_PA_push_9 : decode b_PA_push 9 = .ok (.aload_n 1, 1) := by decide +kernel
theorem d_PA_push_10 : decode b_PA_push 10 = .ok (.putfield 31, 3) := by decide +kernel
theorem d_PA_push_13 : decode b_PA_push 13 = .ok (.return_, 1) := by decide +kernel
theorem d_PA_closeRows_0 : decode b_PA_closeRows 0 = .ok (.aload_n 0, 1) := by decide +kernel
theorem d_PA_closeRows_1 : decode b_PA_closeRows 1 = .ok (.getfield 31, 3) := by decide +kernel
theorem d_PA_closeRows_4 : decode b_PA_closeRows 4 = .ok (.astore_n 1, 1) := by decide +kernel
theorem d_PA_closeRows_5 : decode b_PA_closeRows 5 = .ok (.aload_n 1, 1) := by decide +kernel
theorem d_PA_closeRows_6 : decode b_PA_closeRows 6 = .ok (.ifnull 57, 3) := by decide +kernel
theorem d_PA_closeRows_9 : decode b_PA_closeRows 9 = .ok (.aload_n 1, 1) := by decide +kernel
theorem d_PA_closeRows_10 : decode b_PA_closeRows 10 = .ok (.getfield 35, 3) := by decide +kernel
theorem d_PA_closeRows_13 : decode b_PA_closeRows 13 = .ok (.ifnonnull 7, 3) := by decide +kernel
theorem d_PA_closeRows_16 : decode b_PA_closeRows 16 = .ok (.iconst 0, 1) := by decide +kernel
theorem d_PA_closeRows_17 : decode b_PA_closeRows 17 = .ok (.goto 4, 3) := by decide +kernel
theorem d_PA_closeRows_20 : decode b_PA_closeRows 20 = .ok (.iconst 1, 1) := by decide +kernel
theorem d_PA_closeRows_21 : decode b_PA_closeRows 21 = .ok (.istore_n 2, 1) := by decide +kernel
theorem d_PA_closeRows_22 : decode b_PA_closeRows 22 = .ok (.aload_n 0, 1) := by decide +kernel
theorem d_PA_closeRows_23 : decode b_PA_closeRows 23 = .ok (.ldc 42, 2) := by decide +kernel
theorem d_PA_closeRows_25 : decode b_PA_closeRows 25 = .ok (.aload_n 0, 1) := by decide +kernel
theorem d_PA_closeRows_26 : decode b_PA_closeRows 26 = .ok (.getfield 24, 3) := by decide +kernel
theorem d_PA_closeRows_29 : decode b_PA_closeRows 29 = .ok (.aload_n 1, 1) := by decide +kernel
theorem d_PA_closeRows_30 : decode b_PA_closeRows 30 = .ok (.getfield 24, 3) := by decide +kernel
theorem d_PA_closeRows_33 : decode b_PA_closeRows 33 = .ok (.iadd, 1) := by decide +kernel
theorem d_PA_closeRows_34 : decode b_PA_closeRows 34 = .ok (.iload_n 2, 1) := by decide +kernel
theorem d_PA_closeRows_35 : decode b_PA_closeRows 35 = .ok (.iadd, 1) := by decide +kernel
theorem d_PA_closeRows_36 : decode b_PA_closeRows 36 = .ok (.invokestatic 43, 3) := by decide +kernel
theorem d_PA_closeRows_39 : decode b_PA_closeRows 39 = .ok (.putfield 24, 3) := by decide +kernel
theorem d_PA_closeRows_42 : decode b_PA_closeRows 42 = .ok (.aload_n 0, 1) := by decide +kernel
theorem d_PA_closeRows_43 : decode b_PA_closeRows 43 = .ok (.dup, 1) := by decide +kernel
theorem d_PA_closeRows_44 : decode b_PA_closeRows 44 = .ok (.getfield 27, 3) := by decide +kernel
theorem d_PA_closeRows_47 : decode b_PA_closeRows 47 = .ok (.aload_n 1, 1) := by decide +kernel
theorem d_PA_closeRows_48 : decode b_PA_closeRows 48 = .ok (.getfield 27, 3) := by decide +kernel
theorem d_PA_closeRows_51 : decode b_PA_closeRows 51 = .ok (.ior, 1) := by decide +kernel
theorem d_PA_closeRows_52 : decode b_PA_closeRows 52 = .ok (.putfield 27, 3) := by decide +kernel
theorem d_PA_closeRows_55 : decode b_PA_closeRows 55 = .ok (.aload_n 1, 1) := by decide +kernel
theorem d_PA_closeRows_56 : decode b_PA_closeRows 56 = .ok (.getfield 35, 3) := by decide +kernel
theorem d_PA_closeRows_59 : decode b_PA_closeRows 59 = .ok (.astore_n 1, 1) := by decide +kernel
theorem d_PA_closeRows_60 : decode b_PA_closeRows 60 = .ok (.goto (-55), 3) := by decide +kernel
theorem d_PA_closeRows_63 : decode b_PA_closeRows 63 = .ok (.return_, 1) := by decide +kernel
theorem d_PR_build_0 : decode b_PR_build 0 = .ok (.aload_n 0, 1) := by decide +kernel
theorem d_PR_build_1 : decode b_PR_build 1 = .ok (.iload_n 3, 1) := by decide +kernel
theorem d_PR_build_2 : decode b_PR_build 2 = .ok (.putfield 30, 3) := by decide +kernel
theorem d_PR_build_5 : decode b_PR_build 5 = .ok (.aload_n 0, 1) := by decide +kernel
theorem d_PR_build_6 : decode b_PR_build 6 = .ok (.iload 4, 2) := by decide +kernel
theorem d_PR_build_8 : decode b_PR_build 8 = .ok (.putfield 34, 3) := by decide +kernel
theorem d_PR_build_11 : decode b_PR_build 11 = .ok (.aload_n 0, 1) := by decide +kernel
theorem d_PR_build_12 : decode b_PR_build 12 = .ok (.aload_n 2, 1) := by decide +kernel
theorem d_PR_build_13 : decode b_PR_build 13 = .ok (.getfield 37, 3) := by decide +kernel
theorem d_PR_build_16 : decode b_PR_build 16 = .ok (.putfield 42, 3) := by decide +kernel
theorem d_PR_build_19 : decode b_PR_build 19 = .ok (.aload_n 0, 1) := by decide +kernel
theorem d_PR_build_20 : decode b_PR_build 20 = .ok (.iconst 2, 1) := by decide +kernel
theorem d_PR_build_21 : decode b_PR_build 21 = .ok (.aload_n 0, 1) := by decide +kernel
theorem d_PR_build_22 : decode b_PR_build 22 = .ok (.getfield 42, 3) := by decide +kernel
theorem d_PR_build_25 : decode b_PR_build 25 = .ok (.iconst 1, 1) := by decide +kernel
theorem d_PR_build_26 : decode b_PR_build 26 = .ok (.iadd, 1) := by decide +kernel
theorem d_PR_build_27 : decode b_PR_build 27 = .ok (.imul, 1) := by decide +kernel
theorem d_PR_build_28 : decode b_PR_build 28 = .ok (.putfield 43, 3) := by decide +kernel
theorem d_PR_build_31 : decode b_PR_build 31 = .ok (.aload_n 0, 1) := by decide +kernel
theorem d_PR_build_32 : decode b_PR_build 32 = .ok (.aload_n 1, 1) := by decide +kernel
theorem d_PR_build_33 : decode b_PR_build 33 = .ok (.getfield 46, 3) := by decide +kernel
theorem d_PR_build_36 : decode b_PR_build 36 = .ok (.putfield 51, 3) := by decide +kernel
theorem d_PR_build_39 : decode b_PR_build 39 = .ok (.aload_n 0, 1) := by decide +kernel
theorem d_PR_build_40 : decode b_PR_build 40 = .ok (.iconst 0, 1) := by decide +kernel
theorem d_PR_build_41 : decode b_PR_build 41 = .ok (.putfield 52, 3) := by decide +kernel
theorem d_PR_build_44 : decode b_PR_build 44 = .ok (.iconst 1, 1) := by decide +kernel
theorem d_PR_build_45 : decode b_PR_build 45 = .ok (.istore 5, 2) := by decide +kernel
theorem d_PR_build_47 : decode b_PR_build 47 = .ok (.iload 5, 2) := by decide +kernel
theorem d_PR_build_49 : decode b_PR_build 49 = .ok (.aload_n 0, 1) := by decide +kernel
theorem d_PR_build_50 : decode b_PR_build 50 = .ok (.getfield 42, 3) := by decide +kernel
theorem d_PR_build_53 : decode b_PR_build 53 = .ok (.if_icmp .gt 56, 3) := by decide +kernel
theorem d_PR_build_56 : decode b_PR_build 56 = .ok (.aload_n 0, 1) := by decide +kernel
theorem d_PR_build_57 : decode b_PR_build 57 = .ok (.getfield 27, 3) := by decide +kernel
theorem d_PR_build_60 : decode b_PR_build 60 = .ok (.iload 5, 2) := by decide +kernel
theorem d_PR_build_62 : decode b_PR_build 62 = .ok (.aload_n 2, 1) := by decide +kernel
theorem d_PR_build_63 : decode b_PR_build 63 = .ok (.getfield 55, 3) := by decide +kernel
theorem d_PR_build_66 : decode b_PR_build 66 = .ok (.iload 5, 2) := by decide +kernel
theorem d_PR_build_68 : decode b_PR_build 68 = .ok (.iaload, 1) := by decide +kernel
theorem d_PR_build_69 : decode b_PR_build 69 = .ok (.iastore, 1) := by decide +kernel
theorem d_PR_build_70 : decode b_PR_build 70 = .ok (.aload_n 2, 1) := by decide +kernel
theorem d_PR_build_71 : decode b_PR_build 71 = .ok (.getfield 56, 3) := by decide +kernel
theorem d_PR_build_74 : decode b_PR_build 74 = .ok (.getfield 60, 3) := by decide +kernel
theorem d_PR_build_77 : decode b_PR_build 77 = .ok (.aload_n 2, 1) := by decide +kernel
theorem d_PR_build_78 : decode b_PR_build 78 = .ok (.getfield 65, 3) := by decide +kernel
theorem d_PR_build_81 : decode b_PR_build 81 = .ok (.iload 5, 2) := by decide +kernel
theorem d_PR_build_83 : decode b_PR_build 83 = .ok (.iaload, 1) := by decide +kernel
theorem d_PR_build_84 : decode b_PR_build 84 = .ok (.aload_n 0, 1) := by decide +kernel
theorem d_PR_build_85 : decode b_PR_build 85 = .ok (.getfield 24, 3) := by decide +kernel
theorem d_PR_build_88 : decode b_PR_build 88 = .ok (.iload 5, 2) := by decide +kernel
theorem d_PR_build_90 : decode b_PR_build 90 = .ok (.bipush 12, 2) := by decide +kernel
theorem d_PR_build_92 : decode b_PR_build 92 = .ok (.imul, 1) := by decide +kernel
theorem d_PR_build_93 : decode b_PR_build 93 = .ok (.aload_n 0, 1) := by decide +kernel
theorem d_PR_build_94 : decode b_PR_build 94 = .ok (.getfield 27, 3) := by decide +kernel
theorem d_PR_build_97 : decode b_PR_build 97 = .ok (.iload 5, 2) := by decide +kernel
theorem d_PR_build_99 : decode b_PR_build 99 = .ok (.iaload, 1) := by decide +kernel
theorem d_PR_build_100 : decode b_PR_build 100 = .ok (.invokestatic 68, 3) := by decide +kernel
theorem d_PR_build_103 : decode b_PR_build 103 = .ok (.iinc 5 1, 3) := by decide +kernel
theorem d_PR_build_106 : decode b_PR_build 106 = .ok (.goto (-59), 3) := by decide +kernel
theorem d_PR_build_109 : decode b_PR_build 109 = .ok (.aload_n 0, 1) := by decide +kernel
theorem d_PR_build_110 : decode b_PR_build 110 = .ok (.iconst 0, 1) := by decide +kernel
theorem d_PR_build_111 : decode b_PR_build 111 = .ok (.putfield 74, 3) := by decide +kernel
theorem d_PR_build_114 : decode b_PR_build 114 = .ok (.aload_n 0, 1) := by decide +kernel
theorem d_PR_build_115 : decode b_PR_build 115 = .ok (.iconst 0, 1) := by decide +kernel
theorem d_PR_build_116 : decode b_PR_build 116 = .ok (.putfield 77, 3) := by decide +kernel
theorem d_PR_build_119 : decode b_PR_build 119 = .ok (.aload_n 0, 1) := by decide +kernel
theorem d_PR_build_120 : decode b_PR_build 120 = .ok (.iconst 0, 1) := by decide +kernel
theorem d_PR_build_121 : decode b_PR_build 121 = .ok (.putfield 80, 3) := by decide +kernel
theorem d_PR_build_124 : decode b_PR_build 124 = .ok (.aload_n 0, 1) := by decide +kernel
theorem d_PR_build_125 : decode b_PR_build 125 = .ok (.bipush 9, 2) := by decide +kernel
theorem d_PR_build_127 : decode b_PR_build 127 = .ok (.iconst 0, 1) := by decide +kernel
theorem d_PR_build_128 : decode b_PR_build 128 = .ok (.iconst 0, 1) := by decide +kernel
theorem d_PR_build_129 : decode b_PR_build 129 = .ok (.invokevirtual 84, 3) := by decide +kernel
theorem d_PR_build_132 : decode b_PR_build 132 = .ok (.pop, 1) := by decide +kernel
theorem d_PR_build_133 : decode b_PR_build 133 = .ok (.aload_n 0, 1) := by decide +kernel
theorem d_PR_build_134 : decode b_PR_build 134 = .ok (.bipush 8, 2) := by decide +kernel
theorem d_PR_build_136 : decode b_PR_build 136 = .ok (.iconst 0, 1) := by decide +kernel
theorem d_PR_build_137 : decode b_PR_build 137 = .ok (.iconst 0, 1) := by decide +kernel
theorem d_PR_build_138 : decode b_PR_build 138 = .ok (.invokevirtual 84, 3) := by decide +kernel
theorem d_PR_build_141 : decode b_PR_build 141 = .ok (.istore 5, 2) := by decide +kernel
theorem d_PR_build_143 : decode b_PR_build 143 = .ok (.aload_n 0, 1) := by decide +kernel
theorem d_PR_build_144 : decode b_PR_build 144 = .ok (.aload_n 0, 1) := by decide +kernel
theorem d_PR_build_145 : decode b_PR_build 145 = .ok (.aload_n 1, 1) := by decide +kernel
theorem d_PR_build_146 : decode b_PR_build 146 = .ok (.iload 5, 2) := by decide +kernel
theorem d_PR_build_148 : decode b_PR_build 148 = .ok (.iload 5, 2) := by decide +kernel
theorem d_PR_build_150 : decode b_PR_build 150 = .ok (.invokestatic 88, 3) := by decide +kernel
theorem d_PR_build_153 : decode b_PR_build 153 = .ok (.iconst 0, 1) := by decide +kernel
theorem d_PR_build_154 : decode b_PR_build 154 = .ok (.invokevirtual 92, 3) := by decide +kernel
theorem d_PR_build_157 : decode b_PR_build 157 = .ok (.invokestatic 96, 3) := by decide +kernel
theorem d_PR_build_160 : decode b_PR_build 160 = .ok (.putfield 100, 3) := by decide +kernel
theorem d_PR_build_163 : decode b_PR_build 163 = .ok (.return_, 1) := by decide +kernel
theorem d_PR_add_0 : decode b_PR_add 0 = .ok (.aload_n 0, 1) := by decide +kernel
theorem d_PR_add_1 : decode b_PR_add 1 = .ok (.getfield 74, 3) := by decide +kernel
theorem d_PR_add_4 : decode b_PR_add 4 = .ok (.sipush 808, 3) := by decide +kernel
theorem d_PR_add_7 : decode b_PR_add 7 = .ok (.if_icmp .lt 5, 3) := by decide +kernel
theorem d_PR_add_10 : decode b_PR_add 10 = .ok (.iconst 0, 1) := by decide +kernel
theorem d_PR_add_11 : decode b_PR_add 11 = .ok (.ireturn, 1) := by decide +kernel
theorem d_PR_add_12 : decode b_PR_add 12 = .ok (.aload_n 0, 1) := by decide +kernel
theorem d_PR_add_13 : decode b_PR_add 13 = .ok (.getfield 9, 3) := by decide +kernel
theorem d_PR_add_16 : decode b_PR_add 16 = .ok (.aload_n 0, 1) := by decide +kernel
theorem d_PR_add_17 : decode b_PR_add 17 = .ok (.getfield 74, 3) := by decide +kernel
theorem d_PR_add_20 : decode b_PR_add 20 = .ok (.iload_n 1, 1) := by decide +kernel
theorem d_PR_add_21 : decode b_PR_add 21 = .ok (.iastore, 1) := by decide +kernel
theorem d_PR_add_22 : decode b_PR_add 22 = .ok (.aload_n 0, 1) := by decide +kernel
theorem d_PR_add_23 : decode b_PR_add 23 = .ok (.getfield 15, 3) := by decide +kernel
theorem d_PR_add_26 : decode b_PR_add 26 = .ok (.aload_n 0, 1) := by decide +kernel
theorem d_PR_add_27 : decode b_PR_add 27 = .ok (.getfield 74, 3) := by decide +kernel
theorem d_PR_add_30 : decode b_PR_add 30 = .ok (.iload_n 2, 1) := by decide +kernel
theorem d_PR_add_31 : decode b_PR_add 31 = .ok (.iastore, 1) := by decide +kernel
theorem d_PR_add_32 : decode b_PR_add 32 = .ok (.aload_n 0, 1) := by decide +kernel
theorem d_PR_add_33 : decode b_PR_add 33 = .ok (.getfield 18, 3) := by decide +kernel
theorem d_PR_add_36 : decode b_PR_add 36 = .ok (.aload_n 0, 1) := by decide +kernel
theorem d_PR_add_37 : decode b_PR_add 37 = .ok (.getfield 74, 3) := by decide +kernel
theorem d_PR_add_40 : decode b_PR_add 40 = .ok (.iload_n 3, 1) := by decide +kernel
theorem d_PR_add_41 : decode b_PR_add 41 = .ok (.iastore, 1) := by decide +kernel
theorem d_PR_add_42 : decode b_PR_add 42 = .ok (.aload_n 0, 1) := by decide +kernel
theorem d_PR_add_43 : decode b_PR_add 43 = .ok (.dup, 1) := by decide +kernel
theorem d_PR_add_44 : decode b_PR_add 44 = .ok (.getfield 80, 3) := by decide +kernel
theorem d_PR_add_47 : decode b_PR_add 47 = .ok (.iload_n 1, 1) := by decide +kernel
theorem d_PR_add_48 : decode b_PR_add 48 = .ok (.iconst 3, 1) := by decide +kernel
theorem d_PR_add_49 : decode b_PR_add 49 = .ok (.if_icmp .ne 7, 3) := by decide +kernel
theorem d_PR_add_52 : decode b_PR_add 52 = .ok (.iconst 1, 1) := by decide +kernel
theorem d_PR_add_53 : decode b_PR_add 53 = .ok (.goto 4, 3) := by decide +kernel
theorem d_PR_add_56 : decode b_PR_add 56 = .ok (.iconst 0, 1) := by decide +kernel
theorem d_PR_add_57 : decode b_PR_add 57 = .ok (.ior, 1) := by decide +kernel
theorem d_PR_add_58 : decode b_PR_add 58 = .ok (.putfield 80, 3) := by decide +kernel
theorem d_PR_add_61 : decode b_PR_add 61 = .ok (.aload_n 0, 1) := by decide +kernel
theorem d_PR_add_62 : decode b_PR_add 62 = .ok (.dup, 1) := by decide +kernel
theorem d_PR_add_63 : decode b_PR_add 63 = .ok (.getfield 74, 3) := by decide +kernel
theorem d_PR_add_66 : decode b_PR_add 66 = .ok (.iconst 1, 1) := by decide +kernel
theorem d_PR_add_67 : decode b_PR_add 67 = .ok (.iadd, 1) := by decide +kernel
theorem d_PR_add_68 : decode b_PR_add 68 = .ok (.putfield 74, 3) := by decide +kernel
theorem d_PR_add_71 : decode b_PR_add 71 = .ok (.aload_n 0, 1) := by decide +kernel
theorem d_PR_add_72 : decode b_PR_add 72 = .ok (.getfield 74, 3) := by decide +kernel
theorem d_PR_add_75 : decode b_PR_add 75 = .ok (.iconst 1, 1) := by decide +kernel
theorem d_PR_add_76 : decode b_PR_add 76 = .ok (.isub, 1) := by decide +kernel
theorem d_PR_add_77 : decode b_PR_add 77 = .ok (.ireturn, 1) := by decide +kernel
theorem d_PR_pair_0 : decode b_PR_pair 0 = .ok (.iload_n 0, 1) := by decide +kernel
theorem d_PR_pair_1 : decode b_PR_pair 1 = .ok (.i2l, 1) := by decide +kernel
theorem d_PR_pair_2 : decode b_PR_pair 2 = .ok (.bipush 32, 2) := by decide +kernel
theorem d_PR_pair_4 : decode b_PR_pair 4 = .ok (.lshl, 1) := by decide +kernel
theorem d_PR_pair_5 : decode b_PR_pair 5 = .ok (.iload_n 1, 1) := by decide +kernel
theorem d_PR_pair_6 : decode b_PR_pair 6 = .ok (.i2l, 1) := by decide +kernel
theorem d_PR_pair_7 : decode b_PR_pair 7 = .ok (.lor, 1) := by decide +kernel
theorem d_PR_pair_8 : decode b_PR_pair 8 = .ok (.lreturn, 1) := by decide +kernel
theorem d_PR_rows_0 : decode b_PR_rows 0 = .ok (.aload_n 1, 1) := by decide +kernel
theorem d_PR_rows_1 : decode b_PR_rows 1 = .ok (.getfield 127, 3) := by decide +kernel
theorem d_PR_rows_4 : decode b_PR_rows 4 = .ok (.ifnull 10, 3) := by decide +kernel
theorem d_PR_rows_7 : decode b_PR_rows 7 = .ok (.iload 4, 2) := by decide +kernel
theorem d_PR_rows_9 : decode b_PR_rows 9 = .ok (.bipush 30, 2) := by decide +kernel
theorem d_PR_rows_11 : decode b_PR_rows 11 = .ok (.if_icmp .le 5, 3) := by decide +kernel
theorem d_PR_rows_14 : decode b_PR_rows 14 = .ok (.lload_n 2, 1) := by decide +kernel
theorem d_PR_rows_15 : decode b_PR_rows 15 = .ok (.lreturn, 1) := by decide +kernel
theorem d_PR_rows_16 : decode b_PR_rows 16 = .ok (.aload_n 0, 1) := by decide +kernel
theorem d_PR_rows_17 : decode b_PR_rows 17 = .ok (.aload_n 1, 1) := by decide +kernel
theorem d_PR_rows_18 : decode b_PR_rows 18 = .ok (.getfield 127, 3) := by decide +kernel
theorem d_PR_rows_21 : decode b_PR_rows 21 = .ok (.lload_n 2, 1) := by decide +kernel
theorem d_PR_rows_22 : decode b_PR_rows 22 = .ok (.iload 4, 2) := by decide +kernel
theorem d_PR_rows_24 : decode b_PR_rows 24 = .ok (.invokevirtual 131, 3) := by decide +kernel
theorem d_PR_rows_27 : decode b_PR_rows 27 = .ok (.lstore 5, 2) := by decide +kernel
theorem d_PR_rows_29 : decode b_PR_rows 29 = .ok (.aload_n 1, 1) := by decide +kernel
theorem d_PR_rows_30 : decode b_PR_rows 30 = .ok (.getfield 127, 3) := by decide +kernel
theorem d_PR_rows_33 : decode b_PR_rows 33 = .ok (.getfield 134, 3) := by decide +kernel
theorem d_PR_rows_36 : decode b_PR_rows 36 = .ok (.astore 7, 2) := by decide +kernel
theorem d_PR_rows_38 : decode b_PR_rows 38 = .ok (.aload 7, 2) := by decide +kernel
theorem d_PR_rows_40 : decode b_PR_rows 40 = .ok (.ifnull 30, 3) := by decide +kernel
theorem d_PR_rows_43 : decode b_PR_rows 43 = .ok (.aload_n 0, 1) := by decide +kernel
theorem d_PR_rows_44 : decode b_PR_rows 44 = .ok (.aload_n 0, 1) := by decide +kernel
theorem d_PR_rows_45 : decode b_PR_rows 45 = .ok (.aload 7, 2) := by decide +kernel
theorem d_PR_rows_47 : decode b_PR_rows 47 = .ok (.lload_n 2, 1) := by decide +kernel
theorem d_PR_rows_48 : decode b_PR_rows 48 = .ok (.iload 4, 2) := by decide +kernel
theorem d_PR_rows_50 : decode b_PR_rows 50 = .ok (.invokevirtual 131, 3) := by decide +kernel
theorem d_PR_rows_53 : decode b_PR_rows 53 = .ok (.lload 5, 2) := by decide +kernel
theorem d_PR_rows_55 : decode b_PR_rows 55 = .ok (.invokevirtual 137, 3) := by decide +kernel
theorem d_PR_rows_58 : decode b_PR_rows 58 = .ok (.lstore 5, 2) := by decide +kernel
theorem d_PR_rows_60 : decode b_PR_rows 60 = .ok (.aload 7, 2) := by decide +kernel
theorem d_PR_rows_62 : decode b_PR_rows 62 = .ok (.getfield 134, 3) := by decide +kernel
theorem d_PR_rows_65 : decode b_PR_rows 65 = .ok (.astore 7, 2) := by decide +kernel
theorem d_PR_rows_67 : decode b_PR_rows 67 = .ok (.goto (-29), 3) := by decide +kernel
theorem d_PR_rows_70 : decode b_PR_rows 70 = .ok (.lload 5, 2) := by decide +kernel
theorem d_PR_rows_72 : decode b_PR_rows 72 = .ok (.lreturn, 1) := by decide +kernel
theorem d_PR_row_0 : decode b_PR_row 0 = .ok (.lload_n 2, 1) := by decide +kernel
theorem d_PR_row_1 : decode b_PR_row 1 = .ok (.lstore 5, 2) := by decide +kernel
theorem d_PR_row_3 : decode b_PR_row 3 = .ok (.aload_n 1, 1) := by decide +kernel
theorem d_PR_row_4 : decode b_PR_row 4 = .ok (.getfield 127, 3) := by decide +kernel
theorem d_PR_row_7 : decode b_PR_row 7 = .ok (.astore 7, 2) := by decide +kernel
theorem d_PR_row_9 : decode b_PR_row 9 = .ok (.aload 7, 2) := by decide +kernel
theorem d_PR_row_11 : decode b_PR_row 11 = .ok (.ifnull 25, 3) := by decide +kernel
theorem d_PR_row_14 : decode b_PR_row 14 = .ok (.aload_n 0, 1) := by decide +kernel
theorem d_PR_row_15 : decode b_PR_row 15 = .ok (.aload 7, 2) := by decide +kernel
theorem d_PR_row_17 : decode b_PR_row 17 = .ok (.lload 5, 2) := by decide +kernel
theorem d_PR_row_19 : decode b_PR_row 19 = .ok (.iload 4, 2) := by decide +kernel
theorem d_PR_row_21 : decode b_PR_row 21 = .ok (.invokevirtual 141, 3) := by decide +kernel
theorem d_PR_row_24 : decode b_PR_row 24 = .ok (.lstore 5, 2) := by decide +kernel
theorem d_PR_row_26 : decode b_PR_row 26 = .ok (.aload 7, 2) := by decide +kernel
theorem d_PR_row_28 : decode b_PR_row 28 = .ok (.getfield 134, 3) := by decide +kernel
theorem d_PR_row_31 : decode b_PR_row 31 = .ok (.astore 7, 2) := by decide +kernel
theorem d_PR_row_33 : decode b_PR_row 33 = .ok (.goto (-24), 3) := by decide +kernel
theorem d_PR_row_36 : decode b_PR_row 36 = .ok (.lload 5, 2) := by decide +kernel
theorem d_PR_row_38 : decode b_PR_row 38 = .ok (.lreturn, 1) := by decide +kernel
theorem d_PR_fresh_0 : decode b_PR_fresh 0 = .ok (.lload_n 0, 1) := by decide +kernel
theorem d_PR_fresh_1 : decode b_PR_fresh 1 = .ok (.bipush 32, 2) := by decide +kernel
theorem d_PR_fresh_3 : decode b_PR_fresh 3 = .ok (.lshr, 1) := by decide +kernel
theorem d_PR_fresh_4 : decode b_PR_fresh 4 = .ok (.l2i, 1) := by decide +kernel
theorem d_PR_fresh_5 : decode b_PR_fresh 5 = .ok (.ireturn, 1) := by decide +kernel
theorem d_MO_compile_0 : decode b_MO_compile 0 = .ok (.aload_n 0, 1) := by decide +kernel
theorem d_MO_compile_1 : decode b_MO_compile 1 = .ok (.iload_n 1, 1) := by decide +kernel
theorem d_MO_compile_2 : decode b_MO_compile 2 = .ok (.ifCond .lt 18, 3) := by decide +kernel
theorem d_MO_compile_5 : decode b_MO_compile 5 = .ok (.iload_n 1, 1) := by decide +kernel
theorem d_MO_compile_6 : decode b_MO_compile 6 = .ok (.iconst 5, 1) := by decide +kernel
theorem d_MO_compile_7 : decode b_MO_compile 7 = .ok (.if_icmp .gt 13, 3) := by decide +kernel
theorem d_MO_compile_10 : decode b_MO_compile 10 = .ok (.iload_n 2, 1) := by decide +kernel
theorem d_MO_compile_11 : decode b_MO_compile 11 = .ok (.ifCond .lt 9, 3) := by decide +kernel
theorem d_MO_compile_14 : decode b_MO_compile 14 = .ok (.iload_n 2, 1) := by decide +kernel
theorem d_MO_compile_15 : decode b_MO_compile 15 = .ok (.bipush 31, 2) := by decide +kernel
theorem d_MO_compile_17 : decode b_MO_compile 17 = .ok (.if_icmp .le 7, 3) := by decide +kernel
theorem d_MO_compile_20 : decode b_MO_compile 20 = .ok (.iconst 1, 1) := by decide +kernel
theorem d_MO_compile_21 : decode b_MO_compile 21 = .ok (.goto 4, 3) := by decide +kernel
theorem d_MO_compile_24 : decode b_MO_compile 24 = .ok (.iconst 0, 1) := by decide +kernel
theorem d_MO_compile_25 : decode b_MO_compile 25 = .ok (.putfield 220, 3) := by decide +kernel
theorem d_MO_compile_28 : decode b_MO_compile 28 = .ok (.aload_n 0, 1) := by decide +kernel
theorem d_MO_compile_29 : decode b_MO_compile 29 = .ok (.getfield 220, 3) := by decide +kernel
theorem d_MO_compile_32 : decode b_MO_compile 32 = .ok (.ifCond .le 5, 3) := by decide +kernel
theorem d_MO_compile_35 : decode b_MO_compile 35 = .ok (.iconst 0, 1) := by decide +kernel
theorem d_MO_compile_36 : decode b_MO_compile 36 = .ok (.ireturn, 1) := by decide +kernel
theorem d_MO_compile_37 : decode b_MO_compile 37 = .ok (.aload_n 0, 1) := by decide +kernel
theorem d_MO_compile_38 : decode b_MO_compile 38 = .ok (.iload_n 2, 1) := by decide +kernel
theorem d_MO_compile_39 : decode b_MO_compile 39 = .ok (.bipush 15, 2) := by decide +kernel
theorem d_MO_compile_41 : decode b_MO_compile 41 = .ok (.iand, 1) := by decide +kernel
theorem d_MO_compile_42 : decode b_MO_compile 42 = .ok (.invokevirtual 501, 3) := by decide +kernel
theorem d_MO_compile_45 : decode b_MO_compile 45 = .ok (.istore_n 3, 1) := by decide +kernel
theorem d_MO_compile_46 : decode b_MO_compile 46 = .ok (.aload_n 0, 1) := by decide +kernel
theorem d_MO_compile_47 : decode b_MO_compile 47 = .ok (.iconst 0, 1) := by decide +kernel
theorem d_MO_compile_48 : decode b_MO_compile 48 = .ok (.putfield 223, 3) := by decide +kernel
theorem d_MO_compile_51 : decode b_MO_compile 51 = .ok (.aload_n 0, 1) := by decide +kernel
theorem d_MO_compile_52 : decode b_MO_compile 52 = .ok (.aload_n 0, 1) := by decide +kernel
theorem d_MO_compile_53 : decode b_MO_compile 53 = .ok (.getfield 273, 3) := by decide +kernel
theorem d_MO_compile_56 : decode b_MO_compile 56 = .ok (.ifCond .le 7, 3) := by decide +kernel
theorem d_MO_compile_59 : decode b_MO_compile 59 = .ok (.iconst 1, 1) := by decide +kernel
theorem d_MO_compile_60 : decode b_MO_compile 60 = .ok (.goto 4, 3) := by decide +kernel
theorem d_MO_compile_63 : decode b_MO_compile 63 = .ok (.iconst 0, 1) := by decide +kernel
theorem d_MO_compile_64 : decode b_MO_compile 64 = .ok (.putfield 220, 3) := by decide +kernel
theorem d_MO_compile_67 : decode b_MO_compile 67 = .ok (.aload_n 0, 1) := by decide +kernel
theorem d_MO_compile_68 : decode b_MO_compile 68 = .ok (.getfield 220, 3) := by decide +kernel
theorem d_MO_compile_71 : decode b_MO_compile 71 = .ok (.ifCond .le 5, 3) := by decide +kernel
theorem d_MO_compile_74 : decode b_MO_compile 74 = .ok (.iconst 0, 1) := by decide +kernel
theorem d_MO_compile_75 : decode b_MO_compile 75 = .ok (.ireturn, 1) := by decide +kernel
theorem d_MO_compile_76 : decode b_MO_compile 76 = .ok (.aload_n 0, 1) := by decide +kernel
theorem d_MO_compile_77 : decode b_MO_compile 77 = .ok (.iload_n 1, 1) := by decide +kernel
theorem d_MO_compile_78 : decode b_MO_compile 78 = .ok (.putfield 438, 3) := by decide +kernel
theorem d_MO_compile_81 : decode b_MO_compile 81 = .ok (.aload_n 0, 1) := by decide +kernel
theorem d_MO_compile_82 : decode b_MO_compile 82 = .ok (.getfield 109, 3) := by decide +kernel
theorem d_MO_compile_85 : decode b_MO_compile 85 = .ok (.iload_n 1, 1) := by decide +kernel
theorem d_MO_compile_86 : decode b_MO_compile 86 = .ok (.iconst 1, 1) := by decide +kernel
theorem d_MO_compile_87 : decode b_MO_compile 87 = .ok (.bastore, 1) := by decide +kernel
theorem d_MO_compile_88 : decode b_MO_compile 88 = .ok (.aload_n 0, 1) := by decide +kernel
theorem d_MO_compile_89 : decode b_MO_compile 89 = .ok (.getfield 115, 3) := by decide +kernel
theorem d_MO_compile_92 : decode b_MO_compile 92 = .ok (.iload_n 1, 1) := by decide +kernel
theorem d_MO_compile_93 : decode b_MO_compile 93 = .ok (.aload_n 0, 1) := by decide +kernel
theorem d_MO_compile_94 : decode b_MO_compile 94 = .ok (.getfield 395, 3) := by decide +kernel
theorem d_MO_compile_97 : decode b_MO_compile 97 = .ok (.iastore, 1) := by decide +kernel
theorem d_MO_compile_98 : decode b_MO_compile 98 = .ok (.aload_n 0, 1) := by decide +kernel
theorem d_MO_compile_99 : decode b_MO_compile 99 = .ok (.getfield 118, 3) := by decide +kernel
theorem d_MO_compile_102 : decode b_MO_compile 102 = .ok (.iload_n 1, 1) := by decide +kernel
theorem d_MO_compile_103 : decode b_MO_compile 103 = .ok (.aload_n 0, 1) := by decide +kernel
theorem d_MO_compile_104 : decode b_MO_compile 104 = .ok (.getfield 68, 3) := by decide +kernel
theorem d_MO_compile_107 : decode b_MO_compile 107 = .ok (.iload_n 3, 1) := by decide +kernel
theorem d_MO_compile_108 : decode b_MO_compile 108 = .ok (.laload, 1) := by decide +kernel
