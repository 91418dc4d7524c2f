theorem d_PR_groupNamed_0 : decode b_PR_groupNamed 0 = .ok (.iconst (-1), 1) := by decide +kernel
theorem d_PR_groupNamed_1 : decode b_PR_groupNamed 1 = .ok (.istore 4, 2) := by decide +kernel
theorem d_PR_groupNamed_3 : decode b_PR_groupNamed 3 = .ok (.iconst 1, 1) := by decide +kernel
theorem d_PR_groupNamed_4 : decode b_PR_groupNamed 4 = .ok (.istore 5, 2) := by decide +kernel
theorem d_PR_groupNamed_6 : decode b_PR_groupNamed 6 = .ok (.iload 5, 2) := by decide +kernel
theorem d_PR_groupNamed_8 : decode b_PR_groupNamed 8 = .ok (.aload_n 0, 1) := by decide +kernel
theorem d_PR_groupNamed_9 : decode b_PR_groupNamed 9 = .ok (.getfield 42, 3) := by decide +kernel
theorem d_PR_groupNamed_12 : decode b_PR_groupNamed 12 = .ok (.if_icmp .gt 96, 3) := by decide +kernel
theorem d_PR_groupNamed_15 : decode b_PR_groupNamed 15 = .ok (.iload_n 3, 1) := by decide +kernel
theorem d_PR_groupNamed_16 : decode b_PR_groupNamed 16 = .ok (.ifCond .le 92, 3) := by decide +kernel
theorem d_PR_groupNamed_19 : decode b_PR_groupNamed 19 = .ok (.aload_n 0, 1) := by decide +kernel
theorem d_PR_groupNamed_20 : decode b_PR_groupNamed 20 = .ok (.getfield 27, 3) := by decide +kernel
theorem d_PR_groupNamed_23 : decode b_PR_groupNamed 23 = .ok (.iload 5, 2) := by decide +kernel
theorem d_PR_groupNamed_25 : decode b_PR_groupNamed 25 = .ok (.iaload, 1) := by decide +kernel
theorem d_PR_groupNamed_26 : decode b_PR_groupNamed 26 = .ok (.iload_n 3, 1) := by decide +kernel
theorem d_PR_groupNamed_27 : decode b_PR_groupNamed 27 = .ok (.if_icmp .ne 7, 3) := by decide +kernel
theorem d_PR_groupNamed_30 : decode b_PR_groupNamed 30 = .ok (.iconst 1, 1) := by decide +kernel
theorem d_PR_groupNamed_31 : decode b_PR_groupNamed 31 = .ok (.goto 4, 3) := by decide +kernel
theorem d_PR_groupNamed_34 : decode b_PR_groupNamed 34 = .ok (.iconst 0, 1) := by decide +kernel
theorem d_PR_groupNamed_35 : decode b_PR_groupNamed 35 = .ok (.istore 6, 2) := by decide +kernel
theorem d_PR_groupNamed_37 : decode b_PR_groupNamed 37 = .ok (.iconst 0, 1) := by decide +kernel
theorem d_PR_groupNamed_38 : decode b_PR_groupNamed 38 = .ok (.istore 7, 2) := by decide +kernel
theorem d_PR_groupNamed_40 : decode b_PR_groupNamed 40 = .ok (.iload 7, 2) := by decide +kernel
theorem d_PR_groupNamed_42 : decode b_PR_groupNamed 42 = .ok (.iload_n 3, 1) := by decide +kernel
theorem d_PR_groupNamed_43 : decode b_PR_groupNamed 43 = .ok (.if_icmp .ge 45, 3) := by decide +kernel
theorem d_PR_groupNamed_46 : decode b_PR_groupNamed 46 = .ok (.iload 6, 2) := by decide +kernel
theorem d_PR_groupNamed_48 : decode b_PR_groupNamed 48 = .ok (.ifCond .eq 40, 3) := by decide +kernel
theorem d_PR_groupNamed_51 : decode b_PR_groupNamed 51 = .ok (.aload_n 0, 1) := by decide +kernel
theorem d_PR_groupNamed_52 : decode b_PR_groupNamed 52 = .ok (.getfield 24, 3) := by decide +kernel
theorem d_PR_groupNamed_55 : decode b_PR_groupNamed 55 = .ok (.iload 5, 2) := by decide +kernel
theorem d_PR_groupNamed_57 : decode b_PR_groupNamed 57 = .ok (.bipush 12, 2) := by decide +kernel
theorem d_PR_groupNamed_59 : decode b_PR_groupNamed 59 = .ok (.imul, 1) := by decide +kernel
theorem d_PR_groupNamed_60 : decode b_PR_groupNamed 60 = .ok (.iload 7, 2) := by decide +kernel
theorem d_PR_groupNamed_62 : decode b_PR_groupNamed 62 = .ok (.iadd, 1) := by decide +kernel
theorem d_PR_groupNamed_63 : decode b_PR_groupNamed 63 = .ok (.iaload, 1) := by decide +kernel
theorem d_PR_groupNamed_64 : decode b_PR_groupNamed 64 = .ok (.aload_n 1, 1) := by decide +kernel
theorem d_PR_groupNamed_65 : decode b_PR_groupNamed 65 = .ok (.iload_n 2, 1) := by decide +kernel
theorem d_PR_groupNamed_66 : decode b_PR_groupNamed 66 = .ok (.iload 7, 2) := by decide +kernel
theorem d_PR_groupNamed_68 : decode b_PR_groupNamed 68 = .ok (.iadd, 1) := by decide +kernel
theorem d_PR_groupNamed_69 : decode b_PR_groupNamed 69 = .ok (.invokevirtual 103, 3) := by decide +kernel
theorem d_PR_groupNamed_72 : decode b_PR_groupNamed 72 = .ok (.if_icmp .ne 7, 3) := by decide +kernel
theorem d_PR_groupNamed_75 : decode b_PR_groupNamed 75 = .ok (.iconst 1, 1) := by decide +kernel
theorem d_PR_groupNamed_76 : decode b_PR_groupNamed 76 = .ok (.goto 4, 3) := by decide +kernel
theorem d_PR_groupNamed_79 : decode b_PR_groupNamed 79 = .ok (.iconst 0, 1) := by decide +kernel
theorem d_PR_groupNamed_80 : decode b_PR_groupNamed 80 = .ok (.istore 6, 2) := by decide +kernel
theorem d_PR_groupNamed_82 : decode b_PR_groupNamed 82 = .ok (.iinc 7 1, 3) := by decide +kernel
theorem d_PR_groupNamed_85 : decode b_PR_groupNamed 85 = .ok (.goto (-45), 3) := by decide +kernel
theorem d_PR_groupNamed_88 : decode b_PR_groupNamed 88 = .ok (.iload 6, 2) := by decide +kernel
theorem d_PR_groupNamed_90 : decode b_PR_groupNamed 90 = .ok (.ifCond .eq 8, 3) := by decide +kernel
theorem d_PR_groupNamed_93 : decode b_PR_groupNamed 93 = .ok (.iload 5, 2) := by decide +kernel
theorem d_PR_groupNamed_95 : decode b_PR_groupNamed 95 = .ok (.goto 5, 3) := by decide +kernel
theorem d_PR_groupNamed_98 : decode b_PR_groupNamed 98 = .ok (.iload 4, 2) := by decide +kernel
theorem d_PR_groupNamed_100 : decode b_PR_groupNamed 100 = .ok (.istore 4, 2) := by decide +kernel
theorem d_PR_groupNamed_102 : decode b_PR_groupNamed 102 = .ok (.iinc 5 1, 3) := by decide +kernel
theorem d_PR_groupNamed_105 : decode b_PR_groupNamed 105 = .ok (.goto (-99), 3) := by decide +kernel
theorem d_PR_groupNamed_108 : decode b_PR_groupNamed 108 = .ok (.iload 4, 2) := by decide +kernel
theorem d_PR_groupNamed_110 : decode b_PR_groupNamed 110 = .ok (.ireturn, 1) := by decide +kernel
theorem d_PW_about_0 : decode b_PW_about 0 = .ok (.aload_n 0, 1) := by decide +kernel
theorem d_PW_about_1 : decode b_PW_about 1 = .ok (.iload_n 1, 1) := by decide +kernel
theorem d_PW_about_2 : decode b_PW_about 2 = .ok (.invokevirtual 148, 3) := by decide +kernel
theorem d_PW_about_5 : decode b_PW_about 5 = .ok (.astore_n 3, 1) := by decide +kernel
theorem d_PW_about_6 : decode b_PW_about 6 = .ok (.aload_n 3, 1) := by decide +kernel
theorem d_PW_about_7 : decode b_PW_about 7 = .ok (.ifnull 12, 3) := by decide +kernel
theorem d_PW_about_10 : decode b_PW_about 10 = .ok (.iload_n 2, 1) := by decide +kernel
theorem d_PW_about_11 : decode b_PW_about 11 = .ok (.ifCond .lt 8, 3) := by decide +kernel
theorem d_PW_about_14 : decode b_PW_about 14 = .ok (.iload_n 2, 1) := by decide +kernel
theorem d_PW_about_15 : decode b_PW_about 15 = .ok (.iconst 2, 1) := by decide +kernel
theorem d_PW_about_16 : decode b_PW_about 16 = .ok (.if_icmp .le 5, 3) := by decide +kernel
theorem d_PW_about_19 : decode b_PW_about 19 = .ok (.iconst (-1), 1) := by decide +kernel
theorem d_PW_about_20 : decode b_PW_about 20 = .ok (.ireturn, 1) := by decide +kernel
theorem d_PW_about_21 : decode b_PW_about 21 = .ok (.iload_n 2, 1) := by decide +kernel
theorem d_PW_about_22 : decode b_PW_about 22 = .ok (.ifCond .ne 8, 3) := by decide +kernel
theorem d_PW_about_25 : decode b_PW_about 25 = .ok (.aload_n 3, 1) := by decide +kernel
theorem d_PW_about_26 : decode b_PW_about 26 = .ok (.getfield 133, 3) := by decide +kernel
theorem d_PW_about_29 : decode b_PW_about 29 = .ok (.ireturn, 1) := by decide +kernel
theorem d_PW_about_30 : decode b_PW_about 30 = .ok (.iload_n 2, 1) := by decide +kernel
theorem d_PW_about_31 : decode b_PW_about 31 = .ok (.iconst 1, 1) := by decide +kernel
theorem d_PW_about_32 : decode b_PW_about 32 = .ok (.if_icmp .ne 10, 3) := by decide +kernel
theorem d_PW_about_35 : decode b_PW_about 35 = .ok (.aload_n 3, 1) := by decide +kernel
theorem d_PW_about_36 : decode b_PW_about 36 = .ok (.getfield 152, 3) := by decide +kernel
theorem d_PW_about_39 : decode b_PW_about 39 = .ok (.goto 7, 3) := by decide +kernel
theorem d_PW_about_42 : decode b_PW_about 42 = .ok (.aload_n 3, 1) := by decide +kernel
theorem d_PW_about_43 : decode b_PW_about 43 = .ok (.getfield 153, 3) := by decide +kernel
theorem d_PW_about_46 : decode b_PW_about 46 = .ok (.ireturn, 1) := by decide +kernel
theorem d_PW_dollarItem_0 : decode b_PW_dollarItem 0 = .ok (.aload_n 0, 1) := by decide +kernel
theorem d_PW_dollarItem_1 : decode b_PW_dollarItem 1 = .ok (.getfield 18, 3) := by decide +kernel
theorem d_PW_dollarItem_4 : decode b_PW_dollarItem 4 = .ok (.iload_n 2, 1) := by decide +kernel
theorem d_PW_dollarItem_5 : decode b_PW_dollarItem 5 = .ok (.iconst 1, 1) := by decide +kernel
theorem d_PW_dollarItem_6 : decode b_PW_dollarItem 6 = .ok (.iadd, 1) := by decide +kernel
theorem d_PW_dollarItem_7 : decode b_PW_dollarItem 7 = .ok (.invokevirtual 228, 3) := by decide +kernel
theorem d_PW_dollarItem_10 : decode b_PW_dollarItem 10 = .ok (.istore 4, 2) := by decide +kernel
theorem d_PW_dollarItem_12 : decode b_PW_dollarItem 12 = .ok (.iload 4, 2) := by decide +kernel
theorem d_PW_dollarItem_14 : decode b_PW_dollarItem 14 = .ok (.bipush 36, 2) := by decide +kernel
theorem d_PW_dollarItem_16 : decode b_PW_dollarItem 16 = .ok (.if_icmp .ne 6, 3) := by decide +kernel
theorem d_PW_dollarItem_19 : decode b_PW_dollarItem 19 = .ok (.bipush 36, 2) := by decide +kernel
theorem d_PW_dollarItem_21 : decode b_PW_dollarItem 21 = .ok (.ireturn, 1) := by decide +kernel
theorem d_PW_dollarItem_22 : decode b_PW_dollarItem 22 = .ok (.iconst (-1), 1) := by decide +kernel
theorem d_PW_dollarItem_23 : decode b_PW_dollarItem 23 = .ok (.istore 5, 2) := by decide +kernel
theorem d_PW_dollarItem_25 : decode b_PW_dollarItem 25 = .ok (.iload 4, 2) := by decide +kernel
theorem d_PW_dollarItem_27 : decode b_PW_dollarItem 27 = .ok (.bipush 48, 2) := by decide +kernel
theorem d_PW_dollarItem_29 : decode b_PW_dollarItem 29 = .ok (.if_icmp .lt 32, 3) := by decide +kernel
theorem d_PW_dollarItem_32 : decode b_PW_dollarItem 32 = .ok (.iload 4, 2) := by decide +kernel
theorem d_PW_dollarItem_34 : decode b_PW_dollarItem 34 = .ok (.bipush 57, 2) := by decide +kernel
theorem d_PW_dollarItem_36 : decode b_PW_dollarItem 36 = .ok (.if_icmp .gt 25, 3) := by decide +kernel
theorem d_PW_dollarItem_39 : decode b_PW_dollarItem 39 = .ok (.iload 4, 2) := by decide +kernel
theorem d_PW_dollarItem_41 : decode b_PW_dollarItem 41 = .ok (.bipush 48, 2) := by decide +kernel
theorem d_PW_dollarItem_43 : decode b_PW_dollarItem 43 = .ok (.isub, 1) := by decide +kernel
theorem d_PW_dollarItem_44 : decode b_PW_dollarItem 44 = .ok (.aload_n 1, 1) := by decide +kernel
theorem d_PW_dollarItem_45 : decode b_PW_dollarItem 45 = .ok (.getfield 133, 3) := by decide +kernel
theorem d_PW_dollarItem_48 : decode b_PW_dollarItem 48 = .ok (.if_icmp .gt 13, 3) := by decide +kernel
theorem d_PW_dollarItem_51 : decode b_PW_dollarItem 51 = .ok (.iload 4, 2) := by decide +kernel
theorem d_PW_dollarItem_53 : decode b_PW_dollarItem 53 = .ok (.bipush 48, 2) := by decide +kernel
theorem d_PW_dollarItem_55 : decode b_PW_dollarItem 55 = .ok (.isub, 1) := by decide +kernel
theorem d_PW_dollarItem_56 : decode b_PW_dollarItem 56 = .ok (.istore 5, 2) := by decide +kernel
theorem d_PW_dollarItem_58 : decode b_PW_dollarItem 58 = .ok (.goto 39, 3) := by decide +kernel
theorem d_PW_dollarItem_61 : decode b_PW_dollarItem 61 = .ok (.iload 4, 2) := by decide +kernel
theorem d_PW_dollarItem_63 : decode b_PW_dollarItem 63 = .ok (.bipush 123, 2) := by decide +kernel
theorem d_PW_dollarItem_65 : decode b_PW_dollarItem 65 = .ok (.if_icmp .ne 32, 3) := by decide +kernel
theorem d_PW_dollarItem_68 : decode b_PW_dollarItem 68 = .ok (.iload_n 2, 1) := by decide +kernel
theorem d_PW_dollarItem_69 : decode b_PW_dollarItem 69 = .ok (.iload_n 3, 1) := by decide +kernel
theorem d_PW_dollarItem_70 : decode b_PW_dollarItem 70 = .ok (.iadd, 1) := by decide +kernel
theorem d_PW_dollarItem_71 : decode b_PW_dollarItem 71 = .ok (.aload_n 0, 1) := by decide +kernel
theorem d_PW_dollarItem_72 : decode b_PW_dollarItem 72 = .ok (.getfield 18, 3) := by decide +kernel
theorem d_PW_dollarItem_75 : decode b_PW_dollarItem 75 = .ok (.getfield 101, 3) := by decide +kernel
theorem d_PW_dollarItem_78 : decode b_PW_dollarItem 78 = .ok (.if_icmp .gt 19, 3) := by decide +kernel
theorem d_PW_dollarItem_81 : decode b_PW_dollarItem 81 = .ok (.aload_n 1, 1) := by decide +kernel
theorem d_PW_dollarItem_82 : decode b_PW_dollarItem 82 = .ok (.aload_n 0, 1) := by decide +kernel
theorem d_PW_dollarItem_83 : decode b_PW_dollarItem 83 = .ok (.getfield 18, 3) := by decide +kernel
theorem d_PW_dollarItem_86 : decode b_PW_dollarItem 86 = .ok (.iload_n 2, 1) := by decide +kernel
theorem d_PW_dollarItem_87 : decode b_PW_dollarItem 87 = .ok (.iconst 2, 1) := by decide +kernel
theorem d_PW_dollarItem_88 : decode b_PW_dollarItem 88 = .ok (.iadd, 1) := by decide +kernel
theorem d_PW_dollarItem_89 : decode b_PW_dollarItem 89 = .ok (.iload_n 3, 1) := by decide +kernel
theorem d_PW_dollarItem_90 : decode b_PW_dollarItem 90 = .ok (.iconst 3, 1) := by decide +kernel
theorem d_PW_dollarItem_91 : decode b_PW_dollarItem 91 = .ok (.isub, 1) := by decide +kernel
theorem d_PW_dollarItem_92 : decode b_PW_dollarItem 92 = .ok (.invokevirtual 269, 3) := by decide +kernel
theorem d_PW_dollarItem_95 : decode b_PW_dollarItem 95 = .ok (.istore 5, 2) := by decide +kernel
theorem d_PW_dollarItem_97 : decode b_PW_dollarItem 97 = .ok (.iload 5, 2) := by decide +kernel
theorem d_PW_dollarItem_99 : decode b_PW_dollarItem 99 = .ok (.iconst (-1), 1) := by decide +kernel
theorem d_PW_dollarItem_100 : decode b_PW_dollarItem 100 = .ok (.if_icmp .ne 8, 3) := by decide +kernel
theorem d_PW_dollarItem_103 : decode b_PW_dollarItem 103 = .ok (.bipush (-100), 2) := by decide +kernel
theorem d_PW_dollarItem_105 : decode b_PW_dollarItem 105 = .ok (.goto 7, 3) := by decide +kernel
theorem d_PW_dollarItem_108 : decode b_PW_dollarItem 108 = .ok (.iconst (-1), 1) := by decide +kernel
theorem d_PW_dollarItem_109 : decode b_PW_dollarItem 109 = .ok (.iload 5, 2) := by decide +kernel
theorem d_PW_dollarItem_111 : decode b_PW_dollarItem 111 = .ok (.isub, 1) := by decide +kernel
theorem d_PW_dollarItem_112 : decode b_PW_dollarItem 112 = .ok (.ireturn, 1) := by decide +kernel
theorem d_PW_dollarLength_0 : decode b_PW_dollarLength 0 = .ok (.aload_n 0, 1) := by decide +kernel
theorem d_PW_dollarLength_1 : decode b_PW_dollarLength 1 = .ok (.getfield 18, 3) := by decide +kernel
theorem d_PW_dollarLength_4 : decode b_PW_dollarLength 4 = .ok (.iload_n 1, 1) := by decide +kernel
theorem d_PW_dollarLength_5 : decode b_PW_dollarLength 5 = .ok (.iconst 1, 1) := by decide +kernel
theorem d_PW_dollarLength_6 : decode b_PW_dollarLength 6 = .ok (.iadd, 1) := by decide +kernel
theorem d_PW_dollarLength_7 : decode b_PW_dollarLength 7 = .ok (.invokevirtual 228, 3) := by decide +kernel
theorem d_PW_dollarLength_10 : decode b_PW_dollarLength 10 = .ok (.bipush 123, 2) := by decide +kernel
theorem d_PW_dollarLength_12 : decode b_PW_dollarLength 12 = .ok (.if_icmp .eq 5, 3) := by decide +kernel
theorem d_PW_dollarLength_15 : decode b_PW_dollarLength 15 = .ok (.iconst 2, 1) := by decide +kernel
theorem d_PW_dollarLength_16 : decode b_PW_dollarLength 16 = .ok (.ireturn, 1) := by decide +kernel
theorem d_PW_dollarLength_17 : decode b_PW_dollarLength 17 = .ok (.iconst 2, 1) := by decide +kernel
theorem d_PW_dollarLength_18 : decode b_PW_dollarLength 18 = .ok (.istore_n 2, 1) := by decide +kernel
theorem d_PW_dollarLength_19 : decode b_PW_dollarLength 19 = .ok (.iload_n 1, 1) := by decide +kernel
theorem d_PW_dollarLength_20 : decode b_PW_dollarLength 20 = .ok (.iconst 2, 1) := by decide +kernel
theorem d_PW_dollarLength_21 : decode b_PW_dollarLength 21 = .ok (.iadd, 1) := by decide +kernel
theorem d_PW_dollarLength_22 : decode b_PW_dollarLength 22 = .ok (.istore_n 3, 1) := by decide +kernel
theorem d_PW_dollarLength_23 : decode b_PW_dollarLength 23 = .ok (.iload_n 3, 1) := by decide +kernel
theorem d_PW_dollarLength_24 : decode b_PW_dollarLength 24 = .ok (.aload_n 0, 1) := by decide +kernel
theorem d_PW_dollarLength_25 : decode b_PW_dollarLength 25 = .ok (.getfield 18, 3) := by decide +kernel
theorem d_PW_dollarLength_28 : decode b_PW_dollarLength 28 = .ok (.getfield 101, 3) := by decide +kernel
theorem d_PW_dollarLength_31 : decode b_PW_dollarLength 31 = .ok (.if_icmp .ge 25, 3) := by decide +kernel
theorem d_PW_dollarLength_34 : decode b_PW_dollarLength 34 = .ok (.aload_n 0, 1) := by decide +kernel
theorem d_PW_dollarLength_35 : decode b_PW_dollarLength 35 = .ok (.getfield 18, 3) := by decide +kernel
theorem d_PW_dollarLength_38 : decode b_PW_dollarLength 38 = .ok (.iload_n 3, 1) := by decide +kernel
theorem d_PW_dollarLength_39 : decode b_PW_dollarLength 39 = .ok (.invokevirtual 228, 3) := by decide +kernel
theorem d_PW_dollarLength_42 : decode b_PW_dollarLength 42 = .ok (.bipush 125, 2) := by decide +kernel
theorem d_PW_dollarLength_44 : decode b_PW_dollarLength 44 = .ok (.if_icmp .eq 12, 3) := by decide +kernel
theorem d_PW_dollarLength_47 : decode b_PW_dollarLength 47 = .ok (.iinc 2 1, 3) := by decide +kernel
theorem d_PW_dollarLength_50 : decode b_PW_dollarLength 50 = .ok (.iinc 3 1, 3) := by decide +kernel
theorem d_PW_dollarLength_53 : decode b_PW_dollarLength 53 = .ok (.goto (-30), 3) := by decide +kernel
theorem d_PW_dollarLength_56 : decode b_PW_dollarLength 56 = .ok (.iload_n 2, 1) := by decide +kernel
theorem d_PW_dollarLength_57 : decode b_PW_dollarLength 57 = .ok (.iconst 1, 1) := by decide +kernel
theorem d_PW_dollarLength_58 : decode b_PW_dollarLength 58 = .ok (.iadd, 1) := by decide +kernel
theorem d_PW_dollarLength_59 : decode b_PW_dollarLength 59 = .ok (.ireturn, 1) := by decide +kernel
theorem d_PW_keep_0 : decode b_PW_keep 0 = .ok (.iload_n 1, 1) := by decide +kernel
theorem d_PW_keep_1 : decode b_PW_keep 1 = .ok (.iconst 4, 1) := by decide +kernel
theorem d_PW_keep_2 : decode b_PW_keep 2 = .ok (.if_icmp .lt 9, 3) := by decide +kernel
theorem d_PW_keep_5 : decode b_PW_keep 5 = .ok (.iload_n 1, 1) := by decide +kernel
theorem d_PW_keep_6 : decode b_PW_keep 6 = .ok (.bipush 64, 2) := by decide +kernel
theorem d_PW_keep_8 : decode b_PW_keep 8 = .ok (.if_icmp .le 13, 3) := by decide +kernel
theorem d_PW_keep_11 : decode b_PW_keep 11 = .ok (.new 109, 3) := by decide +kernel
theorem d_PW_keep_14 : decode b_PW_keep 14 = .ok (.dup, 1) := by decide +kernel
theorem d_PW_keep_15 : decode b_PW_keep 15 = .ok (.ldc 235, 2) := by decide +kernel
theorem d_PW_keep_17 : decode b_PW_keep 17 = .ok (.invokespecial 113, 3) := by decide +kernel
theorem d_PW_keep_20 : decode b_PW_keep 20 = .ok (.athrow, 1) := by decide +kernel
theorem d_PW_keep_21 : decode b_PW_keep 21 = .ok (.aload_n 0, 1) := by decide +kernel
theorem d_PW_keep_22 : decode b_PW_keep 22 = .ok (.getfield 69, 3) := by decide +kernel
theorem d_PW_keep_25 : decode b_PW_keep 25 = .ok (.iload_n 1, 1) := by decide +kernel
theorem d_PW_keep_26 : decode b_PW_keep 26 = .ok (.invokevirtual 237, 3) := by decide +kernel
theorem d_PW_keep_29 : decode b_PW_keep 29 = .ok (.return_, 1) := by decide +kernel
theorem d_PW_name_0 : decode b_PW_name 0 = .ok (.aload_n 0, 1) := by decide +kernel
theorem d_PW_name_1 : decode b_PW_name 1 = .ok (.iload_n 1, 1) := by decide +kernel
theorem d_PW_name_2 : decode b_PW_name 2 = .ok (.invokevirtual 148, 3) := by decide +kernel
theorem d_PW_name_5 : decode b_PW_name 5 = .ok (.astore 4, 2) := by decide +kernel
theorem d_PW_name_7 : decode b_PW_name 7 = .ok (.aload 4, 2) := by decide +kernel
theorem d_PW_name_9 : decode b_PW_name 9 = .ok (.ifnonnull 7, 3) := by decide +kernel
theorem d_PW_name_12 : decode b_PW_name 12 = .ok (.iconst (-1), 1) := by decide +kernel
theorem d_PW_name_13 : decode b_PW_name 13 = .ok (.goto 10, 3) := by decide +kernel
theorem d_PW_name_16 : decode b_PW_name 16 = .ok (.aload 4, 2) := by decide +kernel
theorem d_PW_name_18 : decode b_PW_name 18 = .ok (.iload_n 2, 1) := by decide +kernel
theorem d_PW_name_19 : decode b_PW_name 19 = .ok (.iload_n 3, 1) := by decide +kernel
theorem d_PW_name_20 : decode b_PW_name 20 = .ok (.invokevirtual 156, 3) := by decide +kernel
theorem d_PW_name_23 : decode b_PW_name 23 = .ok (.ireturn, 1) := by decide +kernel
theorem d_PW_quote_0 : decode b_PW_quote 0 = .ok (.aload_n 0, 1) := by decide +kernel
theorem d_PW_quote_1 : decode b_PW_quote 1 = .ok (.getfield 85, 3) := by decide +kernel
theorem d_PW_quote_4 : decode b_PW_quote 4 = .ok (.invokevirtual 120, 3) := by decide +kernel
theorem d_PW_quote_7 : decode b_PW_quote 7 = .ok (.iconst 0, 1) := by decide +kernel
theorem d_PW_quote_8 : decode b_PW_quote 8 = .ok (.istore_n 1, 1) := by decide +kernel
theorem d_PW_quote_9 : decode b_PW_quote 9 = .ok (.iload_n 1, 1) := by decide +kernel
theorem d_PW_quote_10 : decode b_PW_quote 10 = .ok (.aload_n 0, 1) := by decide +kernel
theorem d_PW_quote_11 : decode b_PW_quote 11 = .ok (.getfield 18, 3) := by decide +kernel
theorem d_PW_quote_14 : decode b_PW_quote 14 = .ok (.getfield 101, 3) := by decide +kernel
theorem d_PW_quote_17 : decode b_PW_quote 17 = .ok (.if_icmp .ge 51, 3) := by decide +kernel
theorem d_PW_quote_20 : decode b_PW_quote 20 = .ok (.aload_n 0, 1) := by decide +kernel
theorem d_PW_quote_21 : decode b_PW_quote 21 = .ok (.getfield 18, 3) := by decide +kernel
theorem d_PW_quote_24 : decode b_PW_quote 24 = .ok (.iload_n 1, 1) := by decide +kernel
theorem d_PW_quote_25 : decode b_PW_quote 25 = .ok (.invokevirtual 228, 3) := by decide +kernel
theorem d_PW_quote_28 : decode b_PW_quote 28 = .ok (.istore_n 2, 1) := by decide +kernel
theorem d_PW_quote_29 : decode b_PW_quote 29 = .ok (.iload_n 2, 1) := by decide +kernel
theorem d_PW_quote_30 : decode b_PW_quote 30 = .ok (.sipush 128, 3) := by decide +kernel
theorem d_PW_quote_33 : decode b_PW_quote 33 = .ok (.if_icmp .ge 20, 3) := by decide +kernel
theorem d_PW_quote_36 : decode b_PW_quote 36 = .ok (.iload_n 2, 1) := by decide +kernel
theorem d_PW_quote_37 : decode b_PW_quote 37 = .ok (.invokestatic 232, 3) := by decide +kernel
theorem d_PW_quote_40 : decode b_PW_quote 40 = .ok (.ifCond .ne 13, 3) := by decide +kernel
theorem d_PW_quote_43 : decode b_PW_quote 43 = .ok (.aload_n 0, 1) := by decide +kernel
theorem d_PW_quote_44 : decode b_PW_quote 44 = .ok (.getfield 85, 3) := by decide +kernel
theorem d_PW_quote_47 : decode b_PW_quote 47 = .ok (.bipush 92, 2) := by decide +kernel
theorem d_PW_quote_49 : decode b_PW_quote 49 = .ok (.invokevirtual 197, 3) := by decide +kernel
theorem d_PW_quote_52 : decode b_PW_quote 52 = .ok (.pop, 1) := by decide +kernel
theorem d_PW_quote_53 : decode b_PW_quote 53 = .ok (.aload_n 0, 1) := by decide +kernel
theorem d_PW_quote_54 : decode b_PW_quote 54 = .ok (.getfield 85, 3) := by decide +kernel
theorem d_PW_quote_57 : decode b_PW_quote 57 = .ok (.iload_n 2, 1) := by decide +kernel
theorem d_PW_quote_58 : decode b_PW_quote 58 = .ok (.invokevirtual 197, 3) := by decide +kernel
theorem d_PW_quote_61 : decode b_PW_quote 61 = .ok (.pop, 1) := by decide +kernel
theorem d_PW_quote_62 : decode b_PW_quote 62 = .ok (.iinc 1 1, 3) := by decide +kernel
theorem d_PW_quote_65 : decode b_PW_quote 65 = .ok (.goto (-56), 3) := by decide +kernel
theorem d_PW_quote_68 : decode b_PW_quote 68 = .ok (.aload_n 0, 1) := by decide +kernel
theorem d_PW_quote_69 : decode b_PW_quote 69 = .ok (.getfield 18, 3) := by decide +kernel
theorem d_PW_quote_72 : decode b_PW_quote 72 = .ok (.invokevirtual 120, 3) := by decide +kernel
theorem d_PW_quote_75 : decode b_PW_quote 75 = .ok (.aload_n 0, 1) := by decide +kernel
theorem d_PW_quote_76 : decode b_PW_quote 76 = .ok (.getfield 85, 3) := by decide +kernel
theorem d_PW_quote_79 : decode b_PW_quote 79 = .ok (.getfield 101, 3) := by decide +kernel
theorem d_PW_quote_82 : decode b_PW_quote 82 = .ok (.ireturn, 1) := by decide +kernel
theorem d_PW_readTemplate_0 : decode b_PW_readTemplate 0 = .ok (.aload_n 0, 1) := by decide +kernel
theorem d_PW_readTemplate_1 : decode b_PW_readTemplate 1 = .ok (.getfield 82, 3) := by decide +kernel
theorem d_PW_readTemplate_4 : decode b_PW_readTemplate 4 = .ok (.invokevirtual 120, 3) := by decide +kernel
theorem d_PW_readTemplate_7 : decode b_PW_readTemplate 7 = .ok (.iconst 0, 1) := by decide +kernel
theorem d_PW_readTemplate_8 : decode b_PW_readTemplate 8 = .ok (.istore_n 2, 1) := by decide +kernel
theorem d_PW_readTemplate_9 : decode b_PW_readTemplate 9 = .ok (.iconst 0, 1) := by decide +kernel
theorem d_PW_readTemplate_10 : decode b_PW_readTemplate 10 = .ok (.istore_n 3, 1) := by decide +kernel
theorem d_PW_readTemplate_11 : decode b_PW_readTemplate 11 = .ok (.iload_n 3, 1) := by decide +kernel
theorem d_PW_readTemplate_12 : decode b_PW_readTemplate 12 = .ok (.sipush 2000, 3) := by decide +kernel
theorem d_PW_readTemplate_15 : decode b_PW_readTemplate 15 = .ok (.if_icmp .ge 81, 3) := by decide +kernel
theorem d_PW_readTemplate_18 : decode b_PW_readTemplate 18 = .ok (.iload_n 2, 1) := by decide +kernel
theorem d_PW_readTemplate_19 : decode b_PW_readTemplate 19 = .ok (.aload_n 0, 1) := by decide +kernel
theorem d_PW_readTemplate_20 : decode b_PW_readTemplate 20 = .ok (.getfield 18, 3) := by decide +kernel
theorem d_PW_readTemplate_23 : decode b_PW_readTemplate 23 = .ok (.getfield 101, 3) := by decide +kernel
theorem d_PW_readTemplate_26 : decode b_PW_readTemplate 26 = .ok (.if_icmp .ge 70, 3) := by decide +kernel
theorem d_PW_readTemplate_29 : decode b_PW_readTemplate 29 = .ok (.aload_n 0, 1) := by decide +kernel
theorem d_PW_readTemplate_30 : decode b_PW_readTemplate 30 = .ok (.getfield 18, 3) := by decide +kernel
theorem d_PW_readTemplate_33 : decode b_PW_readTemplate 33 = .ok (.iload_n 2, 1) := by decide +kernel
theorem d_PW_readTemplate_34 : decode b_PW_readTemplate 34 = .ok (.invokevirtual 228, 3) := by decide +kernel
theorem d_PW_readTemplate_37 : decode b_PW_readTemplate 37 = .ok (.istore 4, 2) := by decide +kernel
theorem d_PW_readTemplate_39 : decode b_PW_readTemplate 39 = .ok (.iconst 1, 1) := by decide +kernel
theorem d_PW_readTemplate_40 : decode b_PW_readTemplate 40 = .ok (.istore 5, 2) := by decide +kernel
theorem d_PW_readTemplate_42 : decode b_PW_readTemplate 42 = .ok (.iload 4, 2) := by decide +kernel
theorem d_PW_readTemplate_44 : decode b_PW_readTemplate 44 = .ok (.bipush 36, 2) := by decide +kernel
theorem d_PW_readTemplate_46 : decode b_PW_readTemplate 46 = .ok (.if_icmp .ne 20, 3) := by decide +kernel
theorem d_PW_readTemplate_49 : decode b_PW_readTemplate 49 = .ok (.aload_n 0, 1) := by decide +kernel
theorem d_PW_readTemplate_50 : decode b_PW_readTemplate 50 = .ok (.iload_n 2, 1) := by decide +kernel
theorem d_PW_readTemplate_51 : decode b_PW_readTemplate 51 = .ok (.invokevirtual 262, 3) := by decide +kernel
theorem d_PW_readTemplate_54 : decode b_PW_readTemplate 54 = .ok (.istore 5, 2) := by decide +kernel
theorem d_PW_readTemplate_56 : decode b_PW_readTemplate 56 = .ok (.aload_n 0, 1) := by decide +kernel
theorem d_PW_readTemplate_57 : decode b_PW_readTemplate 57 = .ok (.aload_n 1, 1) := by decide +kernel
theorem d_PW_readTemplate_58 : decode b_PW_readTemplate 58 = .ok (.iload_n 2, 1) := by decide +kernel
theorem d_PW_readTemplate_59 : decode b_PW_readTemplate 59 = .ok (.iload 5, 2) := by decide +kernel
theorem d_PW_readTemplate_61 : decode b_PW_readTemplate 61 = .ok (.invokevirtual 265, 3) := by decide +kernel
theorem d_PW_readTemplate_64 : decode b_PW_readTemplate 64 = .ok (.istore 4, 2) := by decide +kernel
theorem d_PW_readTemplate_66 : decode b_PW_readTemplate 66 = .ok (.iload 4, 2) := by decide +kernel
theorem d_PW_readTemplate_68 : decode b_PW_readTemplate 68 = .ok (.bipush (-100), 2) := by decide +kernel
theorem d_PW_readTemplate_70 : decode b_PW_readTemplate 70 = .ok (.if_icmp .ne 5, 3) := by decide +kernel
theorem d_PW_readTemplate_73 : decode b_PW_readTemplate 73 = .ok (.iconst 0, 1) := by decide +kernel
theorem d_PW_readTemplate_74 : decode b_PW_readTemplate 74 = .ok (.ireturn, 1) := by decide +kernel
theorem d_PW_readTemplate_75 : decode b_PW_readTemplate 75 = .ok (.aload_n 0, 1) := by decide +kernel
theorem d_PW_readTemplate_76 : decode b_PW_readTemplate 76 = .ok (.getfield 82, 3) := by decide +kernel
theorem d_PW_readTemplate_79 : decode b_PW_readTemplate 79 = .ok (.iload 4, 2) := by decide +kernel
theorem d_PW_readTemplate_81 : decode b_PW_readTemplate 81 = .ok (.invokevirtual 197, 3) := by decide +kernel
theorem d_PW_readTemplate_84 : decode b_PW_readTemplate 84 = .ok (.pop, 1) := by decide +kernel
theorem d_PW_readTemplate_85 : decode b_PW_readTemplate 85 = .ok (.iload_n 2, 1) := by decide +kernel
theorem d_PW_readTemplate_86 : decode b_PW_readTemplate 86 = .ok (.iload 5, 2) := by decide +kernel
theorem d_PW_readTemplate_88 : decode b_PW_readTemplate 88 = .ok (.iadd, 1) := by decide +kernel
theorem d_PW_readTemplate_89 : decode b_PW_readTemplate 89 = .ok (.istore_n 2, 1) := by decide +kernel
theorem d_PW_readTemplate_90 : decode b_PW_readTemplate 90 = .ok (.iinc 3 1, 3) := by decide +kernel
theorem d_PW_readTemplate_93 : decode b_PW_readTemplate 93 = .ok (.goto (-82), 3) := by decide +kernel
theorem d_PW_readTemplate_96 : decode b_PW_readTemplate 96 = .ok (.iconst 1, 1) := by decide +kernel
theorem d_PW_readTemplate_97 : decode b_PW_readTemplate 97 = .ok (.ireturn, 1) := by decide +kernel
