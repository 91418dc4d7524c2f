theorem d_TH_find_0 : decode b_TH_find 0 = .ok (.aload_n 0, 1) := by decide +kernel
theorem d_TH_find_1 : decode b_TH_find 1 = .ok (.aload_n 1, 1) := by decide +kernel
theorem d_TH_find_2 : decode b_TH_find 2 = .ok (.putfield 36, 3) := by decide +kernel
theorem d_TH_find_5 : decode b_TH_find 5 = .ok (.aload_n 0, 1) := by decide +kernel
theorem d_TH_find_6 : decode b_TH_find 6 = .ok (.aload_n 2, 1) := by decide +kernel
theorem d_TH_find_7 : decode b_TH_find 7 = .ok (.putfield 40, 3) := by decide +kernel
theorem d_TH_find_10 : decode b_TH_find 10 = .ok (.aload_n 0, 1) := by decide +kernel
theorem d_TH_find_11 : decode b_TH_find 11 = .ok (.iload_n 3, 1) := by decide +kernel
theorem d_TH_find_12 : decode b_TH_find 12 = .ok (.putfield 44, 3) := by decide +kernel
theorem d_TH_find_15 : decode b_TH_find 15 = .ok (.aload_n 0, 1) := by decide +kernel
theorem d_TH_find_16 : decode b_TH_find 16 = .ok (.aload 5, 2) := by decide +kernel
theorem d_TH_find_18 : decode b_TH_find 18 = .ok (.putfield 9, 3) := by decide +kernel
theorem d_TH_find_21 : decode b_TH_find 21 = .ok (.aload_n 0, 1) := by decide +kernel
theorem d_TH_find_22 : decode b_TH_find 22 = .ok (.iload_n 3, 1) := by decide +kernel
theorem d_TH_find_23 : decode b_TH_find 23 = .ok (.iconst 2, 1) := by decide +kernel
theorem d_TH_find_24 : decode b_TH_find 24 = .ok (.if_icmp .eq 16, 3) := by decide +kernel
theorem d_TH_find_27 : decode b_TH_find 27 = .ok (.aload_n 1, 1) := by decide +kernel
theorem d_TH_find_28 : decode b_TH_find 28 = .ok (.bipush 16, 2) := by decide +kernel
theorem d_TH_find_30 : decode b_TH_find 30 = .ok (.invokevirtual 48, 3) := by decide +kernel
theorem d_TH_find_33 : decode b_TH_find 33 = .ok (.ifCond .ne 7, 3) := by decide +kernel
theorem d_TH_find_36 : decode b_TH_find 36 = .ok (.iconst 1, 1) := by decide +kernel
theorem d_TH_find_37 : decode b_TH_find 37 = .ok (.goto 4, 3) := by decide +kernel
theorem d_TH_find_40 : decode b_TH_find 40 = .ok (.iconst 0, 1) := by decide +kernel
theorem d_TH_find_41 : decode b_TH_find 41 = .ok (.putfield 54, 3) := by decide +kernel
theorem d_TH_find_44 : decode b_TH_find 44 = .ok (.aload_n 0, 1) := by decide +kernel
theorem d_TH_find_45 : decode b_TH_find 45 = .ok (.invokevirtual 58, 3) := by decide +kernel
theorem d_TH_find_48 : decode b_TH_find 48 = .ok (.aload_n 0, 1) := by decide +kernel
theorem d_TH_find_49 : decode b_TH_find 49 = .ok (.iconst 0, 1) := by decide +kernel
theorem d_TH_find_50 : decode b_TH_find 50 = .ok (.putfield 61, 3) := by decide +kernel
theorem d_TH_find_53 : decode b_TH_find 53 = .ok (.aload_n 0, 1) := by decide +kernel
theorem d_TH_find_54 : decode b_TH_find 54 = .ok (.iconst 0, 1) := by decide +kernel
theorem d_TH_find_55 : decode b_TH_find 55 = .ok (.putfield 64, 3) := by decide +kernel
theorem d_TH_find_58 : decode b_TH_find 58 = .ok (.iload 4, 2) := by decide +kernel
theorem d_TH_find_60 : decode b_TH_find 60 = .ok (.istore 6, 2) := by decide +kernel
theorem d_TH_find_62 : decode b_TH_find 62 = .ok (.iload 6, 2) := by decide +kernel
theorem d_TH_find_64 : decode b_TH_find 64 = .ok (.aload_n 2, 1) := by decide +kernel
theorem d_TH_find_65 : decode b_TH_find 65 = .ok (.getfield 67, 3) := by decide +kernel
theorem d_TH_find_68 : decode b_TH_find 68 = .ok (.if_icmp .gt 89, 3) := by decide +kernel
theorem d_TH_find_71 : decode b_TH_find 71 = .ok (.aload_n 0, 1) := by decide +kernel
theorem d_TH_find_72 : decode b_TH_find 72 = .ok (.getfield 61, 3) := by decide +kernel
theorem d_TH_find_75 : decode b_TH_find 75 = .ok (.ifCond .ne 45, 3) := by decide +kernel
theorem d_TH_find_78 : decode b_TH_find 78 = .ok (.iload 6, 2) := by decide +kernel
theorem d_TH_find_80 : decode b_TH_find 80 = .ok (.iload 4, 2) := by decide +kernel
theorem d_TH_find_82 : decode b_TH_find 82 = .ok (.if_icmp .eq 7, 3) := by decide +kernel
theorem d_TH_find_85 : decode b_TH_find 85 = .ok (.iload_n 3, 1) := by decide +kernel
theorem d_TH_find_86 : decode b_TH_find 86 = .ok (.ifCond .ne 34, 3) := by decide +kernel
theorem d_TH_find_89 : decode b_TH_find 89 = .ok (.aload_n 0, 1) := by decide +kernel
theorem d_TH_find_90 : decode b_TH_find 90 = .ok (.getfield 15, 3) := by decide +kernel
theorem d_TH_find_93 : decode b_TH_find 93 = .ok (.iconst 0, 1) := by decide +kernel
theorem d_TH_find_94 : decode b_TH_find 94 = .ok (.aload_n 1, 1) := by decide +kernel
theorem d_TH_find_95 : decode b_TH_find 95 = .ok (.getfield 72, 3) := by decide +kernel
theorem d_TH_find_98 : decode b_TH_find 98 = .ok (.iconst (-1), 1) := by decide +kernel
theorem d_TH_find_99 : decode b_TH_find 99 = .ok (.invokestatic 75, 3) := by decide +kernel
theorem d_TH_find_102 : decode b_TH_find 102 = .ok (.aload_n 0, 1) := by decide +kernel
theorem d_TH_find_103 : decode b_TH_find 103 = .ok (.getfield 15, 3) := by decide +kernel
theorem d_TH_find_106 : decode b_TH_find 106 = .ok (.iconst 0, 1) := by decide +kernel
theorem d_TH_find_107 : decode b_TH_find 107 = .ok (.iload 6, 2) := by decide +kernel
theorem d_TH_find_109 : decode b_TH_find 109 = .ok (.iastore, 1) := by decide +kernel
theorem d_TH_find_110 : decode b_TH_find 110 = .ok (.aload_n 0, 1) := by decide +kernel
theorem d_TH_find_111 : decode b_TH_find 111 = .ok (.aload_n 1, 1) := by decide +kernel
theorem d_TH_find_112 : decode b_TH_find 112 = .ok (.getfield 81, 3) := by decide +kernel
theorem d_TH_find_115 : decode b_TH_find 115 = .ok (.iload 6, 2) := by decide +kernel
theorem d_TH_find_117 : decode b_TH_find 117 = .ok (.invokevirtual 84, 3) := by decide +kernel
theorem d_TH_find_120 : decode b_TH_find 120 = .ok (.aload_n 0, 1) := by decide +kernel
theorem d_TH_find_121 : decode b_TH_find 121 = .ok (.invokevirtual 88, 3) := by decide +kernel
theorem d_TH_find_124 : decode b_TH_find 124 = .ok (.aload_n 0, 1) := by decide +kernel
theorem d_TH_find_125 : decode b_TH_find 125 = .ok (.getfield 91, 3) := by decide +kernel
theorem d_TH_find_128 : decode b_TH_find 128 = .ok (.ifCond .ne 17, 3) := by decide +kernel
theorem d_TH_find_131 : decode b_TH_find 131 = .ok (.aload_n 0, 1) := by decide +kernel
theorem d_TH_find_132 : decode b_TH_find 132 = .ok (.getfield 61, 3) := by decide +kernel
theorem d_TH_find_135 : decode b_TH_find 135 = .ok (.ifCond .ne 22, 3) := by decide +kernel
theorem d_TH_find_138 : decode b_TH_find 138 = .ok (.iload_n 3, 1) := by decide +kernel
theorem d_TH_find_139 : decode b_TH_find 139 = .ok (.ifCond .eq 6, 3) := by decide +kernel
theorem d_TH_find_142 : decode b_TH_find 142 = .ok (.goto 15, 3) := by decide +kernel
theorem d_TH_find_145 : decode b_TH_find 145 = .ok (.aload_n 0, 1) := by decide +kernel
theorem d_TH_find_146 : decode b_TH_find 146 = .ok (.iload 6, 2) := by decide +kernel
theorem d_TH_find_148 : decode b_TH_find 148 = .ok (.invokevirtual 94, 3) := by decide +kernel
theorem d_TH_find_151 : decode b_TH_find 151 = .ok (.iinc 6 1, 3) := by decide +kernel
theorem d_TH_find_154 : decode b_TH_find 154 = .ok (.goto (-92), 3) := by decide +kernel
theorem d_TH_find_157 : decode b_TH_find 157 = .ok (.aload_n 0, 1) := by decide +kernel
theorem d_TH_find_158 : decode b_TH_find 158 = .ok (.getfield 61, 3) := by decide +kernel
theorem d_TH_find_161 : decode b_TH_find 161 = .ok (.ifCond .eq 10, 3) := by decide +kernel
theorem d_TH_find_164 : decode b_TH_find 164 = .ok (.aload 5, 2) := by decide +kernel
theorem d_TH_find_166 : decode b_TH_find 166 = .ok (.iconst 1, 1) := by decide +kernel
theorem d_TH_find_167 : decode b_TH_find 167 = .ok (.iaload, 1) := by decide +kernel
theorem d_TH_find_168 : decode b_TH_find 168 = .ok (.goto 4, 3) := by decide +kernel
theorem d_TH_find_171 : decode b_TH_find 171 = .ok (.iconst (-1), 1) := by decide +kernel
theorem d_TH_find_172 : decode b_TH_find 172 = .ok (.ireturn, 1) := by decide +kernel
theorem d_TH_follow_0 : decode b_TH_follow 0 = .ok (.aload_n 0, 1) := by decide +kernel
theorem d_TH_follow_1 : decode b_TH_follow 1 = .ok (.getfield 33, 3) := by decide +kernel
theorem d_TH_follow_4 : decode b_TH_follow 4 = .ok (.iconst 0, 1) := by decide +kernel
theorem d_TH_follow_5 : decode b_TH_follow 5 = .ok (.iload_n 1, 1) := by decide +kernel
theorem d_TH_follow_6 : decode b_TH_follow 6 = .ok (.iastore, 1) := by decide +kernel
theorem d_TH_follow_7 : decode b_TH_follow 7 = .ok (.iconst 1, 1) := by decide +kernel
theorem d_TH_follow_8 : decode b_TH_follow 8 = .ok (.istore_n 3, 1) := by decide +kernel
theorem d_TH_follow_9 : decode b_TH_follow 9 = .ok (.iconst 0, 1) := by decide +kernel
theorem d_TH_follow_10 : decode b_TH_follow 10 = .ok (.istore 4, 2) := by decide +kernel
theorem d_TH_follow_12 : decode b_TH_follow 12 = .ok (.iload 4, 2) := by decide +kernel
theorem d_TH_follow_14 : decode b_TH_follow 14 = .ok (.sipush 1616, 3) := by decide +kernel
theorem d_TH_follow_17 : decode b_TH_follow 17 = .ok (.if_icmp .ge 50, 3) := by decide +kernel
theorem d_TH_follow_20 : decode b_TH_follow 20 = .ok (.iload_n 3, 1) := by decide +kernel
theorem d_TH_follow_21 : decode b_TH_follow 21 = .ok (.ifCond .le 46, 3) := by decide +kernel
theorem d_TH_follow_24 : decode b_TH_follow 24 = .ok (.iinc 3 (-1), 3) := by decide +kernel
theorem d_TH_follow_27 : decode b_TH_follow 27 = .ok (.aload_n 0, 1) := by decide +kernel
theorem d_TH_follow_28 : decode b_TH_follow 28 = .ok (.getfield 33, 3) := by decide +kernel
theorem d_TH_follow_31 : decode b_TH_follow 31 = .ok (.iload_n 3, 1) := by decide +kernel
theorem d_TH_follow_32 : decode b_TH_follow 32 = .ok (.iaload, 1) := by decide +kernel
theorem d_TH_follow_33 : decode b_TH_follow 33 = .ok (.istore 5, 2) := by decide +kernel
theorem d_TH_follow_35 : decode b_TH_follow 35 = .ok (.iload 5, 2) := by decide +kernel
theorem d_TH_follow_37 : decode b_TH_follow 37 = .ok (.ifCond .ge 15, 3) := by decide +kernel
theorem d_TH_follow_40 : decode b_TH_follow 40 = .ok (.aload_n 0, 1) := by decide +kernel
theorem d_TH_follow_41 : decode b_TH_follow 41 = .ok (.getfield 15, 3) := by decide +kernel
theorem d_TH_follow_44 : decode b_TH_follow 44 = .ok (.iload 5, 2) := by decide +kernel
theorem d_TH_follow_46 : decode b_TH_follow 46 = .ok (.invokestatic 131, 3) := by decide +kernel
theorem d_TH_follow_49 : decode b_TH_follow 49 = .ok (.goto 12, 3) := by decide +kernel
theorem d_TH_follow_52 : decode b_TH_follow 52 = .ok (.aload_n 0, 1) := by decide +kernel
theorem d_TH_follow_53 : decode b_TH_follow 53 = .ok (.iload 5, 2) := by decide +kernel
theorem d_TH_follow_55 : decode b_TH_follow 55 = .ok (.iload_n 2, 1) := by decide +kernel
theorem d_TH_follow_56 : decode b_TH_follow 56 = .ok (.iload_n 3, 1) := by decide +kernel
theorem d_TH_follow_57 : decode b_TH_follow 57 = .ok (.invokevirtual 134, 3) := by decide +kernel
theorem d_TH_follow_60 : decode b_TH_follow 60 = .ok (.istore_n 3, 1) := by decide +kernel
theorem d_TH_follow_61 : decode b_TH_follow 61 = .ok (.iinc 4 1, 3) := by decide +kernel
theorem d_TH_follow_64 : decode b_TH_follow 64 = .ok (.goto (-52), 3) := by decide +kernel
theorem d_TH_follow_67 : decode b_TH_follow 67 = .ok (.return_, 1) := by decide +kernel
theorem d_TH_put_0 : decode b_TH_put 0 = .ok (.aload_n 0, 1) := by decide +kernel
theorem d_TH_put_1 : decode b_TH_put 1 = .ok (.getfield 30, 3) := by decide +kernel
theorem d_TH_put_4 : decode b_TH_put 4 = .ok (.iload_n 1, 1) := by decide +kernel
theorem d_TH_put_5 : decode b_TH_put 5 = .ok (.iaload, 1) := by decide +kernel
theorem d_TH_put_6 : decode b_TH_put 6 = .ok (.aload_n 0, 1) := by decide +kernel
theorem d_TH_put_7 : decode b_TH_put 7 = .ok (.getfield 98, 3) := by decide +kernel
theorem d_TH_put_10 : decode b_TH_put 10 = .ok (.if_icmp .eq 76, 3) := by decide +kernel
theorem d_TH_put_13 : decode b_TH_put 13 = .ok (.aload_n 0, 1) := by decide +kernel
theorem d_TH_put_14 : decode b_TH_put 14 = .ok (.getfield 64, 3) := by decide +kernel
theorem d_TH_put_17 : decode b_TH_put 17 = .ok (.aload_n 0, 1) := by decide +kernel
theorem d_TH_put_18 : decode b_TH_put 18 = .ok (.getfield 21, 3) := by decide +kernel
theorem d_TH_put_21 : decode b_TH_put 21 = .ok (.arraylength, 1) := by decide +kernel
theorem d_TH_put_22 : decode b_TH_put 22 = .ok (.if_icmp .ge 64, 3) := by decide +kernel
theorem d_TH_put_25 : decode b_TH_put 25 = .ok (.aload_n 0, 1) := by decide +kernel
theorem d_TH_put_26 : decode b_TH_put 26 = .ok (.getfield 30, 3) := by decide +kernel
theorem d_TH_put_29 : decode b_TH_put 29 = .ok (.iload_n 1, 1) := by decide +kernel
theorem d_TH_put_30 : decode b_TH_put 30 = .ok (.aload_n 0, 1) := by decide +kernel
theorem d_TH_put_31 : decode b_TH_put 31 = .ok (.getfield 98, 3) := by decide +kernel
theorem d_TH_put_34 : decode b_TH_put 34 = .ok (.iastore, 1) := by decide +kernel
theorem d_TH_put_35 : decode b_TH_put 35 = .ok (.aload_n 0, 1) := by decide +kernel
theorem d_TH_put_36 : decode b_TH_put 36 = .ok (.getfield 21, 3) := by decide +kernel
theorem d_TH_put_39 : decode b_TH_put 39 = .ok (.aload_n 0, 1) := by decide +kernel
theorem d_TH_put_40 : decode b_TH_put 40 = .ok (.getfield 64, 3) := by decide +kernel
theorem d_TH_put_43 : decode b_TH_put 43 = .ok (.iload_n 1, 1) := by decide +kernel
theorem d_TH_put_44 : decode b_TH_put 44 = .ok (.iastore, 1) := by decide +kernel
theorem d_TH_put_45 : decode b_TH_put 45 = .ok (.aload_n 0, 1) := by decide +kernel
theorem d_TH_put_46 : decode b_TH_put 46 = .ok (.getfield 15, 3) := by decide +kernel
theorem d_TH_put_49 : decode b_TH_put 49 = .ok (.iconst 0, 1) := by decide +kernel
theorem d_TH_put_50 : decode b_TH_put 50 = .ok (.aload_n 0, 1) := by decide +kernel
theorem d_TH_put_51 : decode b_TH_put 51 = .ok (.getfield 27, 3) := by decide +kernel
theorem d_TH_put_54 : decode b_TH_put 54 = .ok (.aload_n 0, 1) := by decide +kernel
theorem d_TH_put_55 : decode b_TH_put 55 = .ok (.getfield 64, 3) := by decide +kernel
theorem d_TH_put_58 : decode b_TH_put 58 = .ok (.aload_n 0, 1) := by decide +kernel
theorem d_TH_put_59 : decode b_TH_put 59 = .ok (.getfield 36, 3) := by decide +kernel
theorem d_TH_put_62 : decode b_TH_put 62 = .ok (.getfield 72, 3) := by decide +kernel
theorem d_TH_put_65 : decode b_TH_put 65 = .ok (.imul, 1) := by decide +kernel
theorem d_TH_put_66 : decode b_TH_put 66 = .ok (.aload_n 0, 1) := by decide +kernel
theorem d_TH_put_67 : decode b_TH_put 67 = .ok (.getfield 36, 3) := by decide +kernel
theorem d_TH_put_70 : decode b_TH_put 70 = .ok (.getfield 72, 3) := by decide +kernel
theorem d_TH_put_73 : decode b_TH_put 73 = .ok (.invokestatic 109, 3) := by decide +kernel
theorem d_TH_put_76 : decode b_TH_put 76 = .ok (.aload_n 0, 1) := by decide +kernel
theorem d_TH_put_77 : decode b_TH_put 77 = .ok (.dup, 1) := by decide +kernel
theorem d_TH_put_78 : decode b_TH_put 78 = .ok (.getfield 64, 3) := by decide +kernel
theorem d_TH_put_81 : decode b_TH_put 81 = .ok (.iconst 1, 1) := by decide +kernel
theorem d_TH_put_82 : decode b_TH_put 82 = .ok (.iadd, 1) := by decide +kernel
theorem d_TH_put_83 : decode b_TH_put 83 = .ok (.putfield 64, 3) := by decide +kernel
theorem d_TH_put_86 : decode b_TH_put 86 = .ok (.return_, 1) := by decide +kernel
theorem d_TH_renewStamp_0 : decode b_TH_renewStamp 0 = .ok (.aload_n 0, 1) := by decide +kernel
theorem d_TH_renewStamp_1 : decode b_TH_renewStamp 1 = .ok (.getfield 98, 3) := by decide +kernel
theorem d_TH_renewStamp_4 : decode b_TH_renewStamp 4 = .ok (.ldc 101, 2) := by decide +kernel
theorem d_TH_renewStamp_6 : decode b_TH_renewStamp 6 = .ok (.if_icmp .le 16, 3) := by decide +kernel
theorem d_TH_renewStamp_9 : decode b_TH_renewStamp 9 = .ok (.aload_n 0, 1) := by decide +kernel
theorem d_TH_renewStamp_10 : decode b_TH_renewStamp 10 = .ok (.getfield 30, 3) := by decide +kernel
theorem d_TH_renewStamp_13 : decode b_TH_renewStamp 13 = .ok (.iconst 0, 1) := by decide +kernel
theorem d_TH_renewStamp_14 : decode b_TH_renewStamp 14 = .ok (.invokestatic 102, 3) := by decide +kernel
theorem d_TH_renewStamp_17 : decode b_TH_renewStamp 17 = .ok (.aload_n 0, 1) := by decide +kernel
theorem d_TH_renewStamp_18 : decode b_TH_renewStamp 18 = .ok (.iconst 0, 1) := by decide +kernel
theorem d_TH_renewStamp_19 : decode b_TH_renewStamp 19 = .ok (.putfield 98, 3) := by decide +kernel
theorem d_TH_renewStamp_22 : decode b_TH_renewStamp 22 = .ok (.aload_n 0, 1) := by decide +kernel
theorem d_TH_renewStamp_23 : decode b_TH_renewStamp 23 = .ok (.dup, 1) := by decide +kernel
theorem d_TH_renewStamp_24 : decode b_TH_renewStamp 24 = .ok (.getfield 98, 3) := by decide +kernel
theorem d_TH_renewStamp_27 : decode b_TH_renewStamp 27 = .ok (.iconst 1, 1) := by decide +kernel
theorem d_TH_renewStamp_28 : decode b_TH_renewStamp 28 = .ok (.iadd, 1) := by decide +kernel
theorem d_TH_renewStamp_29 : decode b_TH_renewStamp 29 = .ok (.putfield 98, 3) := by decide +kernel
theorem d_TH_renewStamp_32 : decode b_TH_renewStamp 32 = .ok (.return_, 1) := by decide +kernel
theorem d_TH_step_0 : decode b_TH_step 0 = .ok (.aload_n 0, 1) := by decide +kernel
theorem d_TH_step_1 : decode b_TH_step 1 = .ok (.getfield 36, 3) := by decide +kernel
theorem d_TH_step_4 : decode b_TH_step 4 = .ok (.getfield 72, 3) := by decide +kernel
theorem d_TH_step_7 : decode b_TH_step 7 = .ok (.istore_n 2, 1) := by decide +kernel
theorem d_TH_step_8 : decode b_TH_step 8 = .ok (.iconst 0, 1) := by decide +kernel
theorem d_TH_step_9 : decode b_TH_step 9 = .ok (.istore_n 3, 1) := by decide +kernel
theorem d_TH_step_10 : decode b_TH_step 10 = .ok (.iload_n 3, 1) := by decide +kernel
theorem d_TH_step_11 : decode b_TH_step 11 = .ok (.aload_n 0, 1) := by decide +kernel
theorem d_TH_step_12 : decode b_TH_step 12 = .ok (.getfield 91, 3) := by decide +kernel
theorem d_TH_step_15 : decode b_TH_step 15 = .ok (.if_icmp .ge 249, 3) := by decide +kernel
theorem d_TH_step_18 : decode b_TH_step 18 = .ok (.aload_n 0, 1) := by decide +kernel
theorem d_TH_step_19 : decode b_TH_step 19 = .ok (.dup, 1) := by decide +kernel
theorem d_TH_step_20 : decode b_TH_step 20 = .ok (.getfield 105, 3) := by decide +kernel
theorem d_TH_step_23 : decode b_TH_step 23 = .ok (.lconst 1, 1) := by decide +kernel
theorem d_TH_step_24 : decode b_TH_step 24 = .ok (.ladd, 1) := by decide +kernel
theorem d_TH_step_25 : decode b_TH_step 25 = .ok (.putfield 105, 3) := by decide +kernel
theorem d_TH_step_28 : decode b_TH_step 28 = .ok (.aload_n 0, 1) := by decide +kernel
theorem d_TH_step_29 : decode b_TH_step 29 = .ok (.getfield 61, 3) := by decide +kernel
theorem d_TH_step_32 : decode b_TH_step 32 = .ok (.ifCond .eq 21, 3) := by decide +kernel
theorem d_TH_step_35 : decode b_TH_step 35 = .ok (.aload_n 0, 1) := by decide +kernel
theorem d_TH_step_36 : decode b_TH_step 36 = .ok (.getfield 24, 3) := by decide +kernel
theorem d_TH_step_39 : decode b_TH_step 39 = .ok (.iload_n 3, 1) := by decide +kernel
theorem d_TH_step_40 : decode b_TH_step 40 = .ok (.iload_n 2, 1) := by decide +kernel
theorem d_TH_step_41 : decode b_TH_step 41 = .ok (.imul, 1) := by decide +kernel
theorem d_TH_step_42 : decode b_TH_step 42 = .ok (.iaload, 1) := by decide +kernel
theorem d_TH_step_43 : decode b_TH_step 43 = .ok (.aload_n 0, 1) := by decide +kernel
theorem d_TH_step_44 : decode b_TH_step 44 = .ok (.getfield 9, 3) := by decide +kernel
theorem d_TH_step_47 : decode b_TH_step 47 = .ok (.iconst 0, 1) := by decide +kernel
theorem d_TH_step_48 : decode b_TH_step 48 = .ok (.iaload, 1) := by decide +kernel
theorem d_TH_step_49 : decode b_TH_step 49 = .ok (.if_icmp .le 4, 3) := by decide +kernel
theorem d_TH_step_52 : decode b_TH_step 52 = .ok (.return_, 1) := by decide +kernel
theorem d_TH_step_53 : decode b_TH_step 53 = .ok (.aload_n 0, 1) := by decide +kernel
theorem d_TH_step_54 : decode b_TH_step 54 = .ok (.getfield 24, 3) := by decide +kernel
theorem d_TH_step_57 : decode b_TH_step 57 = .ok (.iload_n 3, 1) := by decide +kernel
theorem d_TH_step_58 : decode b_TH_step 58 = .ok (.iload_n 2, 1) := by decide +kernel
theorem d_TH_step_59 : decode b_TH_step 59 = .ok (.imul, 1) := by decide +kernel
theorem d_TH_step_60 : decode b_TH_step 60 = .ok (.aload_n 0, 1) := by decide +kernel
theorem d_TH_step_61 : decode b_TH_step 61 = .ok (.getfield 15, 3) := by decide +kernel
theorem d_TH_step_64 : decode b_TH_step 64 = .ok (.iconst 0, 1) := by decide +kernel
theorem d_TH_step_65 : decode b_TH_step 65 = .ok (.iload_n 2, 1) := by decide +kernel
theorem d_TH_step_66 : decode b_TH_step 66 = .ok (.invokestatic 109, 3) := by decide +kernel
theorem d_TH_step_69 : decode b_TH_step 69 = .ok (.aload_n 0, 1) := by decide +kernel
theorem d_TH_step_70 : decode b_TH_step 70 = .ok (.getfield 18, 3) := by decide +kernel
theorem d_TH_step_73 : decode b_TH_step 73 = .ok (.iload_n 3, 1) := by decide +kernel
theorem d_TH_step_74 : decode b_TH_step 74 = .ok (.iaload, 1) := by decide +kernel
theorem d_TH_step_75 : decode b_TH_step 75 = .ok (.sipush 1023, 3) := by decide +kernel
theorem d_TH_step_78 : decode b_TH_step 78 = .ok (.iand, 1) := by decide +kernel
theorem d_TH_step_79 : decode b_TH_step 79 = .ok (.istore 4, 2) := by decide +kernel
theorem d_TH_step_81 : decode b_TH_step 81 = .ok (.aload_n 0, 1) := by decide +kernel
theorem d_TH_step_82 : decode b_TH_step 82 = .ok (.getfield 18, 3) := by decide +kernel
theorem d_TH_step_85 : decode b_TH_step 85 = .ok (.iload_n 3, 1) := by decide +kernel
theorem d_TH_step_86 : decode b_TH_step 86 = .ok (.iaload, 1) := by decide +kernel
theorem d_TH_step_87 : decode b_TH_step 87 = .ok (.sipush 1024, 3) := by decide +kernel
theorem d_TH_step_90 : decode b_TH_step 90 = .ok (.if_icmp .ge 18, 3) := by decide +kernel
theorem d_TH_step_93 : decode b_TH_step 93 = .ok (.aload_n 0, 1) := by decide +kernel
theorem d_TH_step_94 : decode b_TH_step 94 = .ok (.getfield 36, 3) := by decide +kernel
theorem d_TH_step_97 : decode b_TH_step 97 = .ok (.getfield 115, 3) := by decide +kernel
theorem d_TH_step_100 : decode b_TH_step 100 = .ok (.iload 4, 2) := by decide +kernel
theorem d_TH_step_102 : decode b_TH_step 102 = .ok (.iaload, 1) := by decide +kernel
theorem d_TH_step_103 : decode b_TH_step 103 = .ok (.bipush 8, 2) := by decide +kernel
theorem d_TH_step_105 : decode b_TH_step 105 = .ok (.if_icmp .eq 100, 3) := by decide +kernel
theorem d_TH_step_108 : decode b_TH_step 108 = .ok (.aload_n 0, 1) := by decide +kernel
theorem d_TH_step_109 : decode b_TH_step 109 = .ok (.getfield 18, 3) := by decide +kernel
theorem d_TH_step_112 : decode b_TH_step 112 = .ok (.iload_n 3, 1) := by decide +kernel
theorem d_TH_step_113 : decode b_TH_step 113 = .ok (.iaload, 1) := by decide +kernel
theorem d_TH_step_114 : decode b_TH_step 114 = .ok (.sipush 1024, 3) := by decide +kernel
theorem d_TH_step_117 : decode b_TH_step 117 = .ok (.if_icmp .lt 7, 3) := by decide +kernel
theorem d_TH_step_120 : decode b_TH_step 120 = .ok (.iconst 1, 1) := by decide +kernel
theorem d_TH_step_121 : decode b_TH_step 121 = .ok (.goto 4, 3) := by decide +kernel
theorem d_TH_step_124 : decode b_TH_step 124 = .ok (.iconst 0, 1) := by decide +kernel
theorem d_TH_step_125 : decode b_TH_step 125 = .ok (.istore 5, 2) := by decide +kernel
theorem d_TH_step_127 : decode b_TH_step 127 = .ok (.iload 5, 2) := by decide +kernel
theorem d_TH_step_129 : decode b_TH_step 129 = .ok (.ifCond .eq 15, 3) := by decide +kernel
theorem d_TH_step_132 : decode b_TH_step 132 = .ok (.aload_n 0, 1) := by decide +kernel
theorem d_TH_step_133 : decode b_TH_step 133 = .ok (.getfield 40, 3) := by decide +kernel
theorem d_TH_step_136 : decode b_TH_step 136 = .ok (.getfield 118, 3) := by decide +kernel
theorem d_TH_step_139 : decode b_TH_step 139 = .ok (.iload_n 1, 1) := by decide +kernel
theorem d_TH_step_140 : decode b_TH_step 140 = .ok (.iaload, 1) := by decide +kernel
theorem d_TH_step_141 : decode b_TH_step 141 = .ok (.goto 17, 3) := by decide +kernel
theorem d_TH_step_144 : decode b_TH_step 144 = .ok (.aload_n 0, 1) := by decide +kernel
theorem d_TH_step_145 : decode b_TH_step 145 = .ok (.getfield 36, 3) := by decide +kernel
theorem d_TH_step_148 : decode b_TH_step 148 = .ok (.iload 4, 2) := by decide +kernel
theorem d_TH_step_150 : decode b_TH_step 150 = .ok (.aload_n 0, 1) := by decide +kernel
theorem d_TH_step_151 : decode b_TH_step 151 = .ok (.getfield 40, 3) := by decide +kernel
theorem d_TH_step_154 : decode b_TH_step 154 = .ok (.iload_n 1, 1) := by decide +kernel
theorem d_TH_step_155 : decode b_TH_step 155 = .ok (.invokevirtual 121, 3) := by decide +kernel
theorem d_TH_step_158 : decode b_TH_step 158 = .ok (.istore 6, 2) := by decide +kernel
theorem d_TH_step_160 : decode b_TH_step 160 = .ok (.iload 6, 2) := by decide +kernel
theorem d_TH_step_162 : decode b_TH_step 162 = .ok (.iconst 1, 1) := by decide +kernel
theorem d_TH_step_163 : decode b_TH_step 163 = .ok (.if_icmp .ne 23, 3) := by decide +kernel
theorem d_TH_step_166 : decode b_TH_step 166 = .ok (.aload_n 0, 1) := by decide +kernel
theorem d_TH_step_167 : decode b_TH_step 167 = .ok (.aload_n 0, 1) := by decide +kernel
theorem d_TH_step_168 : decode b_TH_step 168 = .ok (.getfield 36, 3) := by decide +kernel
theorem d_TH_step_171 : decode b_TH_step 171 = .ok (.getfield 125, 3) := by decide +kernel
theorem d_TH_step_174 : decode b_TH_step 174 = .ok (.iload 4, 2) := by decide +kernel
theorem d_TH_step_176 : decode b_TH_step 176 = .ok (.iaload, 1) := by decide +kernel
theorem d_TH_step_177 : decode b_TH_step 177 = .ok (.iload_n 1, 1) := by decide +kernel
theorem d_TH_step_178 : decode b_TH_step 178 = .ok (.iconst 1, 1) := by decide +kernel
theorem d_TH_step_179 : decode b_TH_step 179 = .ok (.iadd, 1) := by decide +kernel
theorem d_TH_step_180 : decode b_TH_step 180 = .ok (.invokevirtual 84, 3) := by decide +kernel
theorem d_TH_step_183 : decode b_TH_step 183 = .ok (.goto 19, 3) := by decide +kernel
theorem d_TH_step_186 : decode b_TH_step 186 = .ok (.iload 6, 2) := by decide +kernel
theorem d_TH_step_188 : decode b_TH_step 188 = .ok (.iconst 1, 1) := by decide +kernel
theorem d_TH_step_189 : decode b_TH_step 189 = .ok (.if_icmp .le 13, 3) := by decide +kernel
theorem d_TH_step_192 : decode b_TH_step 192 = .ok (.aload_n 0, 1) := by decide +kernel
theorem d_TH_step_193 : decode b_TH_step 193 = .ok (.iload 4, 2) := by decide +kernel
theorem d_TH_step_195 : decode b_TH_step 195 = .ok (.sipush 1024, 3) := by decide +kernel
theorem d_TH_step_198 : decode b_TH_step 198 = .ok (.iadd, 1) := by decide +kernel
theorem d_TH_step_199 : decode b_TH_step 199 = .ok (.invokevirtual 128, 3) := by decide +kernel
theorem d_TH_step_202 : decode b_TH_step 202 = .ok (.goto 56, 3) := by decide +kernel
theorem d_TH_step_205 : decode b_TH_step 205 = .ok (.aload_n 0, 1) := by decide +kernel
theorem d_TH_step_206 : decode b_TH_step 206 = .ok (.getfield 44, 3) := by decide +kernel
theorem d_TH_step_209 : decode b_TH_step 209 = .ok (.iconst 2, 1) := by decide +kernel
theorem d_TH_step_210 : decode b_TH_step 210 = .ok (.if_icmp .ne 14, 3) := by decide +kernel
theorem d_TH_step_213 : decode b_TH_step 213 = .ok (.iload_n 1, 1) := by decide +kernel
theorem d_TH_step_214 : decode b_TH_step 214 = .ok (.aload_n 0, 1) := by decide +kernel
theorem d_TH_step_215 : decode b_TH_step 215 = .ok (.getfield 40, 3) := by decide +kernel
theorem d_TH_step_218 : decode b_TH_step 218 = .ok (.getfield 67, 3) := by decide +kernel
theorem d_TH_step_221 : decode b_TH_step 221 = .ok (.if_icmp .ne 37, 3) := by decide +kernel
theorem d_TH_step_224 : decode b_TH_step 224 = .ok (.aload_n 0, 1) := by decide +kernel
theorem d_TH_step_225 : decode b_TH_step 225 = .ok (.getfield 15, 3) := by decide +kernel
theorem d_TH_step_228 : decode b_TH_step 228 = .ok (.iconst 0, 1) := by decide +kernel
theorem d_TH_step_229 : decode b_TH_step 229 = .ok (.aload_n 0, 1) := by decide +kernel
theorem d_TH_step_230 : decode b_TH_step 230 = .ok (.getfield 9, 3) := by decide +kernel
theorem d_TH_step_233 : decode b_TH_step 233 = .ok (.iconst 0, 1) := by decide +kernel
theorem d_TH_step_234 : decode b_TH_step 234 = .ok (.iload_n 2, 1) := by decide +kernel
theorem d_TH_step_235 : decode b_TH_step 235 = .ok (.invokestatic 109, 3) := by decide +kernel
theorem d_TH_step_238 : decode b_TH_step 238 = .ok (.aload_n 0, 1) := by decide +kernel
theorem d_TH_step_239 : decode b_TH_step 239 = .ok (.getfield 9, 3) := by decide +kernel
theorem d_TH_step_242 : decode b_TH_step 242 = .ok (.iconst 1, 1) := by decide +kernel
theorem d_TH_step_243 : decode b_TH_step 243 = .ok (.iload_n 1, 1) := by decide +kernel
theorem d_TH_step_244 : decode b_TH_step 244 = .ok (.iastore, 1) := by decide +kernel
theorem d_TH_step_245 : decode b_TH_step 245 = .ok (.aload_n 0, 1) := by decide +kernel
theorem d_TH_step_246 : decode b_TH_step 246 = .ok (.iconst 1, 1) := by decide +kernel
theorem d_TH_step_247 : decode b_TH_step 247 = .ok (.putfield 61, 3) := by decide +kernel
theorem d_TH_step_250 : decode b_TH_step 250 = .ok (.aload_n 0, 1) := by decide +kernel
theorem d_TH_step_251 : decode b_TH_step 251 = .ok (.getfield 54, 3) := by decide +kernel
theorem d_TH_step_254 : decode b_TH_step 254 = .ok (.ifCond .eq 4, 3) := by decide +kernel
theorem d_TH_step_257 : decode b_TH_step 257 = .ok (.return_, 1) := by decide +kernel
theorem d_TH_step_258 : decode b_TH_step 258 = .ok (.iinc 3 1, 3) := by decide +kernel
theorem d_TH_step_261 : decode b_TH_step 261 = .ok (.goto (-251), 3) := by decide +kernel
theorem d_TH_step_264 : decode b_TH_step 264 = .ok (.return_, 1) := by decide +kernel
theorem d_TH_turnRows_0 : decode b_TH_turnRows 0 = .ok (.aload_n 0, 1) := by decide +kernel
theorem d_TH_turnRows_1 : decode b_TH_turnRows 1 = .ok (.getfield 18, 3) := by decide +kernel
theorem d_TH_turnRows_4 : decode b_TH_turnRows 4 = .ok (.astore_n 1, 1) := by decide +kernel
theorem d_TH_turnRows_5 : decode b_TH_turnRows 5 = .ok (.aload_n 0, 1) := by decide +kernel
theorem d_TH_turnRows_6 : decode b_TH_turnRows 6 = .ok (.aload_n 0, 1) := by decide +kernel
theorem d_TH_turnRows_7 : decode b_TH_turnRows 7 = .ok (.getfield 21, 3) := by decide +kernel
theorem d_TH_turnRows_10 : decode b_TH_turnRows 10 = .ok (.putfield 18, 3) := by decide +kernel
theorem d_TH_turnRows_13 : decode b_TH_turnRows 13 = .ok (.aload_n 0, 1) := by decide +kernel
theorem d_TH_turnRows_14 : decode b_TH_turnRows 14 = .ok (.aload_n 1, 1) := by decide +kernel
theorem d_TH_turnRows_15 : decode b_TH_turnRows 15 = .ok (.putfield 21, 3) := by decide +kernel
theorem d_TH_turnRows_18 : decode b_TH_turnRows 18 = .ok (.aload_n 0, 1) := by decide +kernel
theorem d_TH_turnRows_19 : decode b_TH_turnRows 19 = .ok (.getfield 24, 3) := by decide +kernel
theorem d_TH_turnRows_22 : decode b_TH_turnRows 22 = .ok (.astore_n 2, 1) := by decide +kernel
theorem d_TH_turnRows_23 : decode b_TH_turnRows 23 = .ok (.aload_n 0, 1) := by decide +kernel
theorem d_TH_turnRows_24 : decode b_TH_turnRows 24 = .ok (.aload_n 0, 1) := by decide +kernel
theorem d_TH_turnRows_25 : decode b_TH_turnRows 25 = .ok (.getfield 27, 3) := by decide +kernel
theorem d_TH_turnRows_28 : decode b_TH_turnRows 28 = .ok (.putfield 24, 3) := by decide +kernel
theorem d_TH_turnRows_31 : decode b_TH_turnRows 31 = .ok (.aload_n 0, 1) := by decide +kernel
theorem d_TH_turnRows_32 : decode b_TH_turnRows 32 = .ok (.aload_n 2, 1) := by decide +kernel
theorem d_TH_turnRows_33 : decode b_TH_turnRows 33 = .ok (.putfield 27, 3) := by decide +kernel
theorem d_TH_turnRows_36 : decode b_TH_turnRows 36 = .ok (.aload_n 0, 1) := by decide +kernel
theorem d_TH_turnRows_37 : decode b_TH_turnRows 37 = .ok (.aload_n 0, 1) := by decide +kernel
theorem d_TH_turnRows_38 : decode b_TH_turnRows 38 = .ok (.getfield 64, 3) := by decide +kernel
theorem d_TH_turnRows_41 : decode b_TH_turnRows 41 = .ok (.putfield 91, 3) := by decide +kernel
theorem d_TH_turnRows_44 : decode b_TH_turnRows 44 = .ok (.aload_n 0, 1) := by decide +kernel
theorem d_TH_turnRows_45 : decode b_TH_turnRows 45 = .ok (.iconst 0, 1) := by decide +kernel
theorem d_TH_turnRows_46 : decode b_TH_turnRows 46 = .ok (.putfield 64, 3) := by decide +kernel
theorem d_TH_turnRows_49 : decode b_TH_turnRows 49 = .ok (.aload_n 0, 1) := by decide +kernel
theorem d_TH_turnRows_50 : decode b_TH_turnRows 50 = .ok (.dup, 1) := by decide +kernel
theorem d_TH_turnRows_51 : decode b_TH_turnRows 51 = .ok (.getfield 98, 3) := by decide +kernel
theorem d_TH_turnRows_54 : decode b_TH_turnRows 54 = .ok (.iconst 1, 1) := by decide +kernel
theorem d_TH_turnRows_55 : decode b_TH_turnRows 55 = .ok (.iadd, 1) := by decide +kernel
theorem d_TH_turnRows_56 : decode b_TH_turnRows 56 = .ok (.putfield 98, 3) := by decide +kernel
theorem d_TH_turnRows_59 : decode b_TH_turnRows 59 = .ok (.return_, 1) := by decide +kernel
theorem d_TH_walk_0 : decode b_TH_walk 0 = .ok (.iload_n 3, 1) := by decide +kernel
theorem d_TH_walk_1 : decode b_TH_walk 1 = .ok (.istore 4, 2) := by decide +kernel
theorem d_TH_walk_3 : decode b_TH_walk 3 = .ok (.iload_n 1, 1) := by decide +kernel
theorem d_TH_walk_4 : decode b_TH_walk 4 = .ok (.istore 5, 2) := by decide +kernel
theorem d_TH_walk_6 : decode b_TH_walk 6 = .ok (.iconst 0, 1) := by decide +kernel
theorem d_TH_walk_7 : decode b_TH_walk 7 = .ok (.istore 6, 2) := by decide +kernel
theorem d_TH_walk_9 : decode b_TH_walk 9 = .ok (.iload 6, 2) := by decide +kernel
theorem d_TH_walk_11 : decode b_TH_walk 11 = .ok (.sipush 808, 3) := by decide +kernel
theorem d_TH_walk_14 : decode b_TH_walk 14 = .ok (.if_icmp .ge 207, 3) := by decide +kernel
theorem d_TH_walk_17 : decode b_TH_walk 17 = .ok (.aload_n 0, 1) := by decide +kernel
theorem d_TH_walk_18 : decode b_TH_walk 18 = .ok (.getfield 30, 3) := by decide +kernel
theorem d_TH_walk_21 : decode b_TH_walk 21 = .ok (.iload 5, 2) := by decide +kernel
theorem d_TH_walk_23 : decode b_TH_walk 23 = .ok (.iaload, 1) := by decide +kernel
theorem d_TH_walk_24 : decode b_TH_walk 24 = .ok (.aload_n 0, 1) := by decide +kernel
theorem d_TH_walk_25 : decode b_TH_walk 25 = .ok (.getfield 98, 3) := by decide +kernel
theorem d_TH_walk_28 : decode b_TH_walk 28 = .ok (.if_icmp .eq 193, 3) := by decide +kernel
theorem d_TH_walk_31 : decode b_TH_walk 31 = .ok (.aload_n 0, 1) := by decide +kernel
theorem d_TH_walk_32 : decode b_TH_walk 32 = .ok (.dup, 1) := by decide +kernel
theorem d_TH_walk_33 : decode b_TH_walk 33 = .ok (.getfield 105, 3) := by decide +kernel
theorem d_TH_walk_36 : decode b_TH_walk 36 = .ok (.lconst 1, 1) := by decide +kernel
theorem d_TH_walk_37 : decode b_TH_walk 37 = .ok (.ladd, 1) := by decide +kernel
theorem d_TH_walk_38 : decode b_TH_walk 38 = .ok (.putfield 105, 3) := by decide +kernel
theorem d_TH_walk_41 : decode b_TH_walk 41 = .ok (.aload_n 0, 1) := by decide +kernel
theorem d_TH_walk_42 : decode b_TH_walk 42 = .ok (.getfield 36, 3) := by decide +kernel
theorem d_TH_walk_45 : decode b_TH_walk 45 = .ok (.getfield 115, 3) := by decide +kernel
theorem d_TH_walk_48 : decode b_TH_walk 48 = .ok (.iload 5, 2) := by decide +kernel
theorem d_TH_walk_50 : decode b_TH_walk 50 = .ok (.iaload, 1) := by decide +kernel
theorem d_TH_walk_51 : decode b_TH_walk 51 = .ok (.istore 7, 2) := by decide +kernel
theorem d_TH_walk_53 : decode b_TH_walk 53 = .ok (.aload_n 0, 1) := by decide +kernel
theorem d_TH_walk_54 : decode b_TH_walk 54 = .ok (.getfield 36, 3) := by decide +kernel
theorem d_TH_walk_57 : decode b_TH_walk 57 = .ok (.getfield 138, 3) := by decide +kernel
theorem d_TH_walk_60 : decode b_TH_walk 60 = .ok (.iload 5, 2) := by decide +kernel
theorem d_TH_walk_62 : decode b_TH_walk 62 = .ok (.iaload, 1) := by decide +kernel
theorem d_TH_walk_63 : decode b_TH_walk 63 = .ok (.istore 8, 2) := by decide +kernel
theorem d_TH_walk_65 : decode b_TH_walk 65 = .ok (.iload 7, 2) := by decide +kernel
theorem d_TH_walk_67 : decode b_TH_walk 67 = .ok (.iconst 2, 1) := by decide +kernel
theorem d_TH_walk_68 : decode b_TH_walk 68 = .ok (.if_icmp .le 10, 3) := by decide +kernel
theorem d_TH_walk_71 : decode b_TH_walk 71 = .ok (.iload 7, 2) := by decide +kernel
theorem d_TH_walk_73 : decode b_TH_walk 73 = .ok (.bipush 8, 2) := by decide +kernel
theorem d_TH_walk_75 : decode b_TH_walk 75 = .ok (.if_icmp .ne 12, 3) := by decide +kernel
theorem d_TH_walk_78 : decode b_TH_walk 78 = .ok (.aload_n 0, 1) := by decide +kernel
theorem d_TH_walk_79 : decode b_TH_walk 79 = .ok (.iload 5, 2) := by decide +kernel
theorem d_TH_walk_81 : decode b_TH_walk 81 = .ok (.invokevirtual 128, 3) := by decide +kernel
theorem d_TH_walk_84 : decode b_TH_walk 84 = .ok (.iload 4, 2) := by decide +kernel
theorem d_TH_walk_86 : decode b_TH_walk 86 = .ok (.ireturn, 1) := by decide +kernel
theorem d_TH_walk_87 : decode b_TH_walk 87 = .ok (.aload_n 0, 1) := by decide +kernel
theorem d_TH_walk_88 : decode b_TH_walk 88 = .ok (.getfield 30, 3) := by decide +kernel
theorem d_TH_walk_91 : decode b_TH_walk 91 = .ok (.iload 5, 2) := by decide +kernel
theorem d_TH_walk_93 : decode b_TH_walk 93 = .ok (.aload_n 0, 1) := by decide +kernel
theorem d_TH_walk_94 : decode b_TH_walk 94 = .ok (.getfield 98, 3) := by decide +kernel
theorem d_TH_walk_97 : decode b_TH_walk 97 = .ok (.iastore, 1) := by decide +kernel
theorem d_TH_walk_98 : decode b_TH_walk 98 = .ok (.iload 7, 2) := by decide +kernel
theorem d_TH_walk_100 : decode b_TH_walk 100 = .ok (.bipush 9, 2) := by decide +kernel
theorem d_TH_walk_102 : decode b_TH_walk 102 = .ok (.if_icmp .eq 22, 3) := by decide +kernel
theorem d_TH_walk_105 : decode b_TH_walk 105 = .ok (.iload 7, 2) := by decide +kernel
theorem d_TH_walk_107 : decode b_TH_walk 107 = .ok (.iconst 3, 1) := by decide +kernel
theorem d_TH_walk_108 : decode b_TH_walk 108 = .ok (.if_icmp .ne 19, 3) := by decide +kernel
theorem d_TH_walk_111 : decode b_TH_walk 111 = .ok (.aload_n 0, 1) := by decide +kernel
theorem d_TH_walk_112 : decode b_TH_walk 112 = .ok (.getfield 40, 3) := by decide +kernel
theorem d_TH_walk_115 : decode b_TH_walk 115 = .ok (.iload 8, 2) := by decide +kernel
theorem d_TH_walk_117 : decode b_TH_walk 117 = .ok (.iload_n 2, 1) := by decide +kernel
theorem d_TH_walk_118 : decode b_TH_walk 118 = .ok (.invokevirtual 141, 3) := by decide +kernel
theorem d_TH_walk_121 : decode b_TH_walk 121 = .ok (.ifCond .ne 6, 3) := by decide +kernel
theorem d_TH_walk_124 : decode b_TH_walk 124 = .ok (.iload 4, 2) := by decide +kernel
theorem d_TH_walk_126 : decode b_TH_walk 126 = .ok (.ireturn, 1) := by decide +kernel
theorem d_TH_walk_127 : decode b_TH_walk 127 = .ok (.iload 7, 2) := by decide +kernel
theorem d_TH_walk_129 : decode b_TH_walk 129 = .ok (.bipush 6, 2) := by decide +kernel
theorem d_TH_walk_131 : decode b_TH_walk 131 = .ok (.if_icmp .ne 28, 3) := by decide +kernel
theorem d_TH_walk_134 : decode b_TH_walk 134 = .ok (.iload 4, 2) := by decide +kernel
theorem d_TH_walk_136 : decode b_TH_walk 136 = .ok (.aload_n 0, 1) := by decide +kernel
theorem d_TH_walk_137 : decode b_TH_walk 137 = .ok (.getfield 33, 3) := by decide +kernel
theorem d_TH_walk_140 : decode b_TH_walk 140 = .ok (.arraylength, 1) := by decide +kernel
theorem d_TH_walk_141 : decode b_TH_walk 141 = .ok (.if_icmp .ge 18, 3) := by decide +kernel
theorem d_TH_walk_144 : decode b_TH_walk 144 = .ok (.aload_n 0, 1) := by decide +kernel
theorem d_TH_walk_145 : decode b_TH_walk 145 = .ok (.getfield 33, 3) := by decide +kernel
theorem d_TH_walk_148 : decode b_TH_walk 148 = .ok (.iload 4, 2) := by decide +kernel
theorem d_TH_walk_150 : decode b_TH_walk 150 = .ok (.iload 8, 2) := by decide +kernel
theorem d_TH_walk_152 : decode b_TH_walk 152 = .ok (.iastore, 1) := by decide +kernel
theorem d_TH_walk_153 : decode b_TH_walk 153 = .ok (.iinc 4 1, 3) := by decide +kernel
theorem d_TH_walk_156 : decode b_TH_walk 156 = .ok (.goto 47, 3) := by decide +kernel
theorem d_TH_walk_159 : decode b_TH_walk 159 = .ok (.iload 7, 2) := by decide +kernel
theorem d_TH_walk_161 : decode b_TH_walk 161 = .ok (.bipush 7, 2) := by decide +kernel
theorem d_TH_walk_163 : decode b_TH_walk 163 = .ok (.if_icmp .ne 40, 3) := by decide +kernel
theorem d_TH_walk_166 : decode b_TH_walk 166 = .ok (.iload 4, 2) := by decide +kernel
theorem d_TH_walk_168 : decode b_TH_walk 168 = .ok (.aload_n 0, 1) := by decide +kernel
theorem d_TH_walk_169 : decode b_TH_walk 169 = .ok (.getfield 33, 3) := by decide +kernel
theorem d_TH_walk_172 : decode b_TH_walk 172 = .ok (.arraylength, 1) := by decide +kernel
theorem d_TH_walk_173 : decode b_TH_walk 173 = .ok (.if_icmp .ge 30, 3) := by decide +kernel
theorem d_TH_walk_176 : decode b_TH_walk 176 = .ok (.aload_n 0, 1) := by decide +kernel
theorem d_TH_walk_177 : decode b_TH_walk 177 = .ok (.getfield 33, 3) := by decide +kernel
theorem d_TH_walk_180 : decode b_TH_walk 180 = .ok (.iload 4, 2) := by decide +kernel
theorem d_TH_walk_182 : decode b_TH_walk 182 = .ok (.aload_n 0, 1) := by decide +kernel
theorem d_TH_walk_183 : decode b_TH_walk 183 = .ok (.getfield 15, 3) := by decide +kernel
theorem d_TH_walk_186 : decode b_TH_walk 186 = .ok (.iload 8, 2) := by decide +kernel
theorem d_TH_walk_188 : decode b_TH_walk 188 = .ok (.invokestatic 145, 3) := by decide +kernel
theorem d_TH_walk_191 : decode b_TH_walk 191 = .ok (.iastore, 1) := by decide +kernel
theorem d_TH_walk_192 : decode b_TH_walk 192 = .ok (.iinc 4 1, 3) := by decide +kernel
theorem d_TH_walk_195 : decode b_TH_walk 195 = .ok (.aload_n 0, 1) := by decide +kernel
theorem d_TH_walk_196 : decode b_TH_walk 196 = .ok (.getfield 15, 3) := by decide +kernel
theorem d_TH_walk_199 : decode b_TH_walk 199 = .ok (.iload 8, 2) := by decide +kernel
theorem d_TH_walk_201 : decode b_TH_walk 201 = .ok (.iload_n 2, 1) := by decide +kernel
theorem d_TH_walk_202 : decode b_TH_walk 202 = .ok (.iastore, 1) := by decide +kernel
theorem d_TH_walk_203 : decode b_TH_walk 203 = .ok (.aload_n 0, 1) := by decide +kernel
theorem d_TH_walk_204 : decode b_TH_walk 204 = .ok (.getfield 36, 3) := by decide +kernel
theorem d_TH_walk_207 : decode b_TH_walk 207 = .ok (.getfield 125, 3) := by decide +kernel
theorem d_TH_walk_210 : decode b_TH_walk 210 = .ok (.iload 5, 2) := by decide +kernel
theorem d_TH_walk_212 : decode b_TH_walk 212 = .ok (.iaload, 1) := by decide +kernel
theorem d_TH_walk_213 : decode b_TH_walk 213 = .ok (.istore 5, 2) := by decide +kernel
theorem d_TH_walk_215 : decode b_TH_walk 215 = .ok (.iinc 6 1, 3) := by decide +kernel
theorem d_TH_walk_218 : decode b_TH_walk 218 = .ok (.goto (-209), 3) := by decide +kernel
theorem d_TH_walk_221 : decode b_TH_walk 221 = .ok (.iload 4, 2) := by decide +kernel
theorem d_TH_walk_223 : decode b_TH_walk 223 = .ok (.ireturn, 1) := by decide +kernel
