theorem d_AR_copyOf_0 : decode b_AR_copyOf 0 = .ok (.iload_n 1, 1) := by decide +kernel
theorem d_AR_copyOf_1 : decode b_AR_copyOf 1 = .ok (.aload_n 0, 1) := by decide +kernel
theorem d_AR_copyOf_2 : decode b_AR_copyOf 2 = .ok (.arraylength, 1) := by decide +kernel
theorem d_AR_copyOf_3 : decode b_AR_copyOf 3 = .ok (.if_icmp .ne 11, 3) := by decide +kernel
theorem d_AR_copyOf_6 : decode b_AR_copyOf 6 = .ok (.aload_n 0, 1) := by decide +kernel
theorem d_AR_copyOf_7 : decode b_AR_copyOf 7 = .ok (.invokevirtual 316, 3) := by decide +kernel
theorem d_AR_copyOf_10 : decode b_AR_copyOf 10 = .ok (.checkcast 317, 3) := by decide +kernel
theorem d_AR_copyOf_13 : decode b_AR_copyOf 13 = .ok (.areturn, 1) := by decide +kernel
theorem d_AR_copyOf_14 : decode b_AR_copyOf 14 = .ok (.iload_n 1, 1) := by decide +kernel
theorem d_AR_copyOf_15 : decode b_AR_copyOf 15 = .ok (.newarray .int, 2) := by decide +kernel
theorem d_AR_copyOf_17 : decode b_AR_copyOf 17 = .ok (.astore_n 2, 1) := by decide +kernel
theorem d_AR_copyOf_18 : decode b_AR_copyOf 18 = .ok (.aload_n 0, 1) := by decide +kernel
theorem d_AR_copyOf_19 : decode b_AR_copyOf 19 = .ok (.iconst 0, 1) := by decide +kernel
theorem d_AR_copyOf_20 : decode b_AR_copyOf 20 = .ok (.aload_n 2, 1) := by decide +kernel
theorem d_AR_copyOf_21 : decode b_AR_copyOf 21 = .ok (.iconst 0, 1) := by decide +kernel
theorem d_AR_copyOf_22 : decode b_AR_copyOf 22 = .ok (.aload_n 0, 1) := by decide +kernel
theorem d_AR_copyOf_23 : decode b_AR_copyOf 23 = .ok (.arraylength, 1) := by decide +kernel
theorem d_AR_copyOf_24 : decode b_AR_copyOf 24 = .ok (.iload_n 1, 1) := by decide +kernel
theorem d_AR_copyOf_25 : decode b_AR_copyOf 25 = .ok (.invokestatic 304, 3) := by decide +kernel
theorem d_AR_copyOf_28 : decode b_AR_copyOf 28 = .ok (.invokestatic 150, 3) := by decide +kernel
theorem d_AR_copyOf_31 : decode b_AR_copyOf 31 = .ok (.aload_n 2, 1) := by decide +kernel
theorem d_AR_copyOf_32 : decode b_AR_copyOf 32 = .ok (.areturn, 1) := by decide +kernel
theorem d_AR_fillr_0 : decode b_AR_fillr 0 = .ok (.aload_n 0, 1) := by decide +kernel
theorem d_AR_fillr_1 : decode b_AR_fillr 1 = .ok (.arraylength, 1) := by decide +kernel
theorem d_AR_fillr_2 : decode b_AR_fillr 2 = .ok (.iload_n 1, 1) := by decide +kernel
theorem d_AR_fillr_3 : decode b_AR_fillr 3 = .ok (.iload_n 2, 1) := by decide +kernel
theorem d_AR_fillr_4 : decode b_AR_fillr 4 = .ok (.invokestatic 13, 3) := by decide +kernel
theorem d_AR_fillr_7 : decode b_AR_fillr 7 = .ok (.iload_n 1, 1) := by decide +kernel
theorem d_AR_fillr_8 : decode b_AR_fillr 8 = .ok (.istore 4, 2) := by decide +kernel
theorem d_AR_fillr_10 : decode b_AR_fillr 10 = .ok (.iload 4, 2) := by decide +kernel
theorem d_AR_fillr_12 : decode b_AR_fillr 12 = .ok (.iload_n 2, 1) := by decide +kernel
theorem d_AR_fillr_13 : decode b_AR_fillr 13 = .ok (.if_icmp .ge 14, 3) := by decide +kernel
theorem d_AR_fillr_16 : decode b_AR_fillr 16 = .ok (.aload_n 0, 1) := by decide +kernel
theorem d_AR_fillr_17 : decode b_AR_fillr 17 = .ok (.iload 4, 2) := by decide +kernel
theorem d_AR_fillr_19 : decode b_AR_fillr 19 = .ok (.iload_n 3, 1) := by decide +kernel
theorem d_AR_fillr_20 : decode b_AR_fillr 20 = .ok (.iastore, 1) := by decide +kernel
theorem d_AR_fillr_21 : decode b_AR_fillr 21 = .ok (.iinc 4 1, 3) := by decide +kernel
theorem d_AR_fillr_24 : decode b_AR_fillr 24 = .ok (.goto (-14), 3) := by decide +kernel
theorem d_AR_fillr_27 : decode b_AR_fillr 27 = .ok (.return_, 1) := by decide +kernel
theorem d_AR_rangeCheck_0 : decode b_AR_rangeCheck 0 = .ok (.iload_n 1, 1) := by decide +kernel
theorem d_AR_rangeCheck_1 : decode b_AR_rangeCheck 1 = .ok (.iload_n 2, 1) := by decide +kernel
theorem d_AR_rangeCheck_2 : decode b_AR_rangeCheck 2 = .ok (.if_icmp .le 44, 3) := by decide +kernel
theorem d_AR_rangeCheck_5 : decode b_AR_rangeCheck 5 = .ok (.new 43, 3) := by decide +kernel
theorem d_AR_rangeCheck_8 : decode b_AR_rangeCheck 8 = .ok (.dup, 1) := by decide +kernel
theorem d_AR_rangeCheck_9 : decode b_AR_rangeCheck 9 = .ok (.new 45, 3) := by decide +kernel
theorem d_AR_rangeCheck_12 : decode b_AR_rangeCheck 12 = .ok (.dup, 1) := by decide +kernel
theorem d_AR_rangeCheck_13 : decode b_AR_rangeCheck 13 = .ok (.invokespecial 47, 3) := by decide +kernel
theorem d_AR_rangeCheck_16 : decode b_AR_rangeCheck 16 = .ok (.ldc 48, 2) := by decide +kernel
theorem d_AR_rangeCheck_18 : decode b_AR_rangeCheck 18 = .ok (.invokevirtual 50, 3) := by decide +kernel
theorem d_AR_rangeCheck_21 : decode b_AR_rangeCheck 21 = .ok (.iload_n 1, 1) := by decide +kernel
theorem d_AR_rangeCheck_22 : decode b_AR_rangeCheck 22 = .ok (.invokevirtual 54, 3) := by decide +kernel
theorem d_AR_rangeCheck_25 : decode b_AR_rangeCheck 25 = .ok (.ldc 57, 2) := by decide +kernel
theorem d_AR_rangeCheck_27 : decode b_AR_rangeCheck 27 = .ok (.invokevirtual 50, 3) := by decide +kernel
theorem d_AR_rangeCheck_30 : decode b_AR_rangeCheck 30 = .ok (.iload_n 2, 1) := by decide +kernel
theorem d_AR_rangeCheck_31 : decode b_AR_rangeCheck 31 = .ok (.invokevirtual 54, 3) := by decide +kernel
theorem d_AR_rangeCheck_34 : decode b_AR_rangeCheck 34 = .ok (.ldc 59, 2) := by decide +kernel
theorem d_AR_rangeCheck_36 : decode b_AR_rangeCheck 36 = .ok (.invokevirtual 50, 3) := by decide +kernel
theorem d_AR_rangeCheck_39 : decode b_AR_rangeCheck 39 = .ok (.invokevirtual 61, 3) := by decide +kernel
theorem d_AR_rangeCheck_42 : decode b_AR_rangeCheck 42 = .ok (.invokespecial 65, 3) := by decide +kernel
theorem d_AR_rangeCheck_45 : decode b_AR_rangeCheck 45 = .ok (.athrow, 1) := by decide +kernel
theorem d_AR_rangeCheck_46 : decode b_AR_rangeCheck 46 = .ok (.iload_n 1, 1) := by decide +kernel
theorem d_AR_rangeCheck_47 : decode b_AR_rangeCheck 47 = .ok (.ifCond .ge 12, 3) := by decide +kernel
theorem d_AR_rangeCheck_50 : decode b_AR_rangeCheck 50 = .ok (.new 68, 3) := by decide +kernel
theorem d_AR_rangeCheck_53 : decode b_AR_rangeCheck 53 = .ok (.dup, 1) := by decide +kernel
theorem d_AR_rangeCheck_54 : decode b_AR_rangeCheck 54 = .ok (.iload_n 1, 1) := by decide +kernel
theorem d_AR_rangeCheck_55 : decode b_AR_rangeCheck 55 = .ok (.invokespecial 70, 3) := by decide +kernel
theorem d_AR_rangeCheck_58 : decode b_AR_rangeCheck 58 = .ok (.athrow, 1) := by decide +kernel
theorem d_AR_rangeCheck_59 : decode b_AR_rangeCheck 59 = .ok (.iload_n 2, 1) := by decide +kernel
theorem d_AR_rangeCheck_60 : decode b_AR_rangeCheck 60 = .ok (.iload_n 0, 1) := by decide +kernel
theorem d_AR_rangeCheck_61 : decode b_AR_rangeCheck 61 = .ok (.if_icmp .le 12, 3) := by decide +kernel
theorem d_AR_rangeCheck_64 : decode b_AR_rangeCheck 64 = .ok (.new 68, 3) := by decide +kernel
theorem d_AR_rangeCheck_67 : decode b_AR_rangeCheck 67 = .ok (.dup, 1) := by decide +kernel
theorem d_AR_rangeCheck_68 : decode b_AR_rangeCheck 68 = .ok (.iload_n 2, 1) := by decide +kernel
theorem d_AR_rangeCheck_69 : decode b_AR_rangeCheck 69 = .ok (.invokespecial 70, 3) := by decide +kernel
theorem d_AR_rangeCheck_72 : decode b_AR_rangeCheck 72 = .ok (.athrow, 1) := by decide +kernel
theorem d_AR_rangeCheck_73 : decode b_AR_rangeCheck 73 = .ok (.return_, 1) := by decide +kernel
theorem d_CS_add_0 : decode b_CS_add 0 = .ok (.aload_n 0, 1) := by decide +kernel
theorem d_CS_add_1 : decode b_CS_add 1 = .ok (.iload_n 1, 1) := by decide +kernel
theorem d_CS_add_2 : decode b_CS_add 2 = .ok (.iconst 1, 1) := by decide +kernel
theorem d_CS_add_3 : decode b_CS_add 3 = .ok (.isub, 1) := by decide +kernel
theorem d_CS_add_4 : decode b_CS_add 4 = .ok (.invokevirtual 19, 3) := by decide +kernel
theorem d_CS_add_7 : decode b_CS_add 7 = .ok (.istore_n 3, 1) := by decide +kernel
theorem d_CS_add_8 : decode b_CS_add 8 = .ok (.iload_n 3, 1) := by decide +kernel
theorem d_CS_add_9 : decode b_CS_add 9 = .ok (.istore 4, 2) := by decide +kernel
theorem d_CS_add_11 : decode b_CS_add 11 = .ok (.iload_n 1, 1) := by decide +kernel
theorem d_CS_add_12 : decode b_CS_add 12 = .ok (.istore 5, 2) := by decide +kernel
theorem d_CS_add_14 : decode b_CS_add 14 = .ok (.iload_n 2, 1) := by decide +kernel
theorem d_CS_add_15 : decode b_CS_add 15 = .ok (.istore 6, 2) := by decide +kernel
theorem d_CS_add_17 : decode b_CS_add 17 = .ok (.iload 4, 2) := by decide +kernel
theorem d_CS_add_19 : decode b_CS_add 19 = .ok (.aload_n 0, 1) := by decide +kernel
theorem d_CS_add_20 : decode b_CS_add 20 = .ok (.getfield 15, 3) := by decide +kernel
theorem d_CS_add_23 : decode b_CS_add 23 = .ok (.if_icmp .ge 58, 3) := by decide +kernel
theorem d_CS_add_26 : decode b_CS_add 26 = .ok (.aload_n 0, 1) := by decide +kernel
theorem d_CS_add_27 : decode b_CS_add 27 = .ok (.getfield 9, 3) := by decide +kernel
theorem d_CS_add_30 : decode b_CS_add 30 = .ok (.iconst 2, 1) := by decide +kernel
theorem d_CS_add_31 : decode b_CS_add 31 = .ok (.iload 4, 2) := by decide +kernel
theorem d_CS_add_33 : decode b_CS_add 33 = .ok (.imul, 1) := by decide +kernel
theorem d_CS_add_34 : decode b_CS_add 34 = .ok (.iaload, 1) := by decide +kernel
theorem d_CS_add_35 : decode b_CS_add 35 = .ok (.iload_n 2, 1) := by decide +kernel
theorem d_CS_add_36 : decode b_CS_add 36 = .ok (.iconst 1, 1) := by decide +kernel
theorem d_CS_add_37 : decode b_CS_add 37 = .ok (.iadd, 1) := by decide +kernel
theorem d_CS_add_38 : decode b_CS_add 38 = .ok (.if_icmp .gt 43, 3) := by decide +kernel
theorem d_CS_add_41 : decode b_CS_add 41 = .ok (.iload 5, 2) := by decide +kernel
theorem d_CS_add_43 : decode b_CS_add 43 = .ok (.aload_n 0, 1) := by decide +kernel
theorem d_CS_add_44 : decode b_CS_add 44 = .ok (.getfield 9, 3) := by decide +kernel
theorem d_CS_add_47 : decode b_CS_add 47 = .ok (.iconst 2, 1) := by decide +kernel
theorem d_CS_add_48 : decode b_CS_add 48 = .ok (.iload 4, 2) := by decide +kernel
theorem d_CS_add_50 : decode b_CS_add 50 = .ok (.imul, 1) := by decide +kernel
theorem d_CS_add_51 : decode b_CS_add 51 = .ok (.iaload, 1) := by decide +kernel
theorem d_CS_add_52 : decode b_CS_add 52 = .ok (.invokestatic 23, 3) := by decide +kernel
theorem d_CS_add_55 : decode b_CS_add 55 = .ok (.istore 5, 2) := by decide +kernel
theorem d_CS_add_57 : decode b_CS_add 57 = .ok (.iload 6, 2) := by decide +kernel
theorem d_CS_add_59 : decode b_CS_add 59 = .ok (.aload_n 0, 1) := by decide +kernel
theorem d_CS_add_60 : decode b_CS_add 60 = .ok (.getfield 9, 3) := by decide +kernel
theorem d_CS_add_63 : decode b_CS_add 63 = .ok (.iconst 2, 1) := by decide +kernel
theorem d_CS_add_64 : decode b_CS_add 64 = .ok (.iload 4, 2) := by decide +kernel
theorem d_CS_add_66 : decode b_CS_add 66 = .ok (.imul, 1) := by decide +kernel
theorem d_CS_add_67 : decode b_CS_add 67 = .ok (.iconst 1, 1) := by decide +kernel
theorem d_CS_add_68 : decode b_CS_add 68 = .ok (.iadd, 1) := by decide +kernel
theorem d_CS_add_69 : decode b_CS_add 69 = .ok (.iaload, 1) := by decide +kernel
theorem d_CS_add_70 : decode b_CS_add 70 = .ok (.invokestatic 29, 3) := by decide +kernel
theorem d_CS_add_73 : decode b_CS_add 73 = .ok (.istore 6, 2) := by decide +kernel
theorem d_CS_add_75 : decode b_CS_add 75 = .ok (.iinc 4 1, 3) := by decide +kernel
theorem d_CS_add_78 : decode b_CS_add 78 = .ok (.goto (-61), 3) := by decide +kernel
theorem d_CS_add_81 : decode b_CS_add 81 = .ok (.iconst 2, 1) := by decide +kernel
theorem d_CS_add_82 : decode b_CS_add 82 = .ok (.aload_n 0, 1) := by decide +kernel
theorem d_CS_add_83 : decode b_CS_add 83 = .ok (.getfield 15, 3) := by decide +kernel
theorem d_CS_add_86 : decode b_CS_add 86 = .ok (.imul, 1) := by decide +kernel
theorem d_CS_add_87 : decode b_CS_add 87 = .ok (.iconst 2, 1) := by decide +kernel
theorem d_CS_add_88 : decode b_CS_add 88 = .ok (.iadd, 1) := by decide +kernel
theorem d_CS_add_89 : decode b_CS_add 89 = .ok (.aload_n 0, 1) := by decide +kernel
theorem d_CS_add_90 : decode b_CS_add 90 = .ok (.getfield 9, 3) := by decide +kernel
theorem d_CS_add_93 : decode b_CS_add 93 = .ok (.arraylength, 1) := by decide +kernel
theorem d_CS_add_94 : decode b_CS_add 94 = .ok (.if_icmp .le 21, 3) := by decide +kernel
theorem d_CS_add_97 : decode b_CS_add 97 = .ok (.aload_n 0, 1) := by decide +kernel
theorem d_CS_add_98 : decode b_CS_add 98 = .ok (.aload_n 0, 1) := by decide +kernel
theorem d_CS_add_99 : decode b_CS_add 99 = .ok (.getfield 9, 3) := by decide +kernel
theorem d_CS_add_102 : decode b_CS_add 102 = .ok (.iconst 2, 1) := by decide +kernel
theorem d_CS_add_103 : decode b_CS_add 103 = .ok (.aload_n 0, 1) := by decide +kernel
theorem d_CS_add_104 : decode b_CS_add 104 = .ok (.getfield 9, 3) := by decide +kernel
theorem d_CS_add_107 : decode b_CS_add 107 = .ok (.arraylength, 1) := by decide +kernel
theorem d_CS_add_108 : decode b_CS_add 108 = .ok (.imul, 1) := by decide +kernel
theorem d_CS_add_109 : decode b_CS_add 109 = .ok (.invokestatic 32, 3) := by decide +kernel
theorem d_CS_add_112 : decode b_CS_add 112 = .ok (.putfield 9, 3) := by decide +kernel
theorem d_CS_add_115 : decode b_CS_add 115 = .ok (.aload_n 0, 1) := by decide +kernel
theorem d_CS_add_116 : decode b_CS_add 116 = .ok (.getfield 9, 3) := by decide +kernel
theorem d_CS_add_119 : decode b_CS_add 119 = .ok (.iconst 2, 1) := by decide +kernel
theorem d_CS_add_120 : decode b_CS_add 120 = .ok (.iload 4, 2) := by decide +kernel
theorem d_CS_add_122 : decode b_CS_add 122 = .ok (.imul, 1) := by decide +kernel
theorem d_CS_add_123 : decode b_CS_add 123 = .ok (.aload_n 0, 1) := by decide +kernel
theorem d_CS_add_124 : decode b_CS_add 124 = .ok (.getfield 9, 3) := by decide +kernel
theorem d_CS_add_127 : decode b_CS_add 127 = .ok (.iconst 2, 1) := by decide +kernel
theorem d_CS_add_128 : decode b_CS_add 128 = .ok (.iload_n 3, 1) := by decide +kernel
theorem d_CS_add_129 : decode b_CS_add 129 = .ok (.imul, 1) := by decide +kernel
theorem d_CS_add_130 : decode b_CS_add 130 = .ok (.iconst 2, 1) := by decide +kernel
theorem d_CS_add_131 : decode b_CS_add 131 = .ok (.iadd, 1) := by decide +kernel
theorem d_CS_add_132 : decode b_CS_add 132 = .ok (.iconst 2, 1) := by decide +kernel
theorem d_CS_add_133 : decode b_CS_add 133 = .ok (.aload_n 0, 1) := by decide +kernel
theorem d_CS_add_134 : decode b_CS_add 134 = .ok (.getfield 15, 3) := by decide +kernel
theorem d_CS_add_137 : decode b_CS_add 137 = .ok (.iload 4, 2) := by decide +kernel
theorem d_CS_add_139 : decode b_CS_add 139 = .ok (.isub, 1) := by decide +kernel
theorem d_CS_add_140 : decode b_CS_add 140 = .ok (.imul, 1) := by decide +kernel
theorem d_CS_add_141 : decode b_CS_add 141 = .ok (.invokestatic 38, 3) := by decide +kernel
theorem d_CS_add_144 : decode b_CS_add 144 = .ok (.aload_n 0, 1) := by decide +kernel
theorem d_CS_add_145 : decode b_CS_add 145 = .ok (.getfield 9, 3) := by decide +kernel
theorem d_CS_add_148 : decode b_CS_add 148 = .ok (.iconst 2, 1) := by decide +kernel
theorem d_CS_add_149 : decode b_CS_add 149 = .ok (.iload_n 3, 1) := by decide +kernel
theorem d_CS_add_150 : decode b_CS_add 150 = .ok (.imul, 1) := by decide +kernel
theorem d_CS_add_151 : decode b_CS_add 151 = .ok (.iload 5, 2) := by decide +kernel
theorem d_CS_add_153 : decode b_CS_add 153 = .ok (.iastore, 1) := by decide +kernel
theorem d_CS_add_154 : decode b_CS_add 154 = .ok (.aload_n 0, 1) := by decide +kernel
theorem d_CS_add_155 : decode b_CS_add 155 = .ok (.getfield 9, 3) := by decide +kernel
theorem d_CS_add_158 : decode b_CS_add 158 = .ok (.iconst 2, 1) := by decide +kernel
theorem d_CS_add_159 : decode b_CS_add 159 = .ok (.iload_n 3, 1) := by decide +kernel
theorem d_CS_add_160 : decode b_CS_add 160 = .ok (.imul, 1) := by decide +kernel
theorem d_CS_add_161 : decode b_CS_add 161 = .ok (.iconst 1, 1) := by decide +kernel
theorem d_CS_add_162 : decode b_CS_add 162 = .ok (.iadd, 1) := by decide +kernel
theorem d_CS_add_163 : decode b_CS_add 163 = .ok (.iload 6, 2) := by decide +kernel
theorem d_CS_add_165 : decode b_CS_add 165 = .ok (.iastore, 1) := by decide +kernel
theorem d_CS_add_166 : decode b_CS_add 166 = .ok (.aload_n 0, 1) := by decide +kernel
theorem d_CS_add_167 : decode b_CS_add 167 = .ok (.dup, 1) := by decide +kernel
theorem d_CS_add_168 : decode b_CS_add 168 = .ok (.getfield 15, 3) := by decide +kernel
theorem d_CS_add_171 : decode b_CS_add 171 = .ok (.iconst 1, 1) := by decide +kernel
theorem d_CS_add_172 : decode b_CS_add 172 = .ok (.iload 4, 2) := by decide +kernel
theorem d_CS_add_174 : decode b_CS_add 174 = .ok (.iload_n 3, 1) := by decide +kernel
theorem d_CS_add_175 : decode b_CS_add 175 = .ok (.isub, 1) := by decide +kernel
theorem d_CS_add_176 : decode b_CS_add 176 = .ok (.isub, 1) := by decide +kernel
theorem d_CS_add_177 : decode b_CS_add 177 = .ok (.iadd, 1) := by decide +kernel
theorem d_CS_add_178 : decode b_CS_add 178 = .ok (.putfield 15, 3) := by decide +kernel
theorem d_CS_add_181 : decode b_CS_add 181 = .ok (.return_, 1) := by decide +kernel
theorem d_CS_addAlike_0 : decode b_CS_addAlike 0 = .ok (.aload_n 0, 1) := by decide +kernel
theorem d_CS_addAlike_1 : decode b_CS_addAlike 1 = .ok (.iload_n 1, 1) := by decide +kernel
theorem d_CS_addAlike_2 : decode b_CS_addAlike 2 = .ok (.iload_n 2, 1) := by decide +kernel
theorem d_CS_addAlike_3 : decode b_CS_addAlike 3 = .ok (.invokevirtual 44, 3) := by decide +kernel
theorem d_CS_addAlike_6 : decode b_CS_addAlike 6 = .ok (.iconst 0, 1) := by decide +kernel
theorem d_CS_addAlike_7 : decode b_CS_addAlike 7 = .ok (.istore_n 3, 1) := by decide +kernel
theorem d_CS_addAlike_8 : decode b_CS_addAlike 8 = .ok (.iload_n 3, 1) := by decide +kernel
theorem d_CS_addAlike_9 : decode b_CS_addAlike 9 = .ok (.iconst 2, 1) := by decide +kernel
theorem d_CS_addAlike_10 : decode b_CS_addAlike 10 = .ok (.iadd, 1) := by decide +kernel
theorem d_CS_addAlike_11 : decode b_CS_addAlike 11 = .ok (.getstatic 48, 3) := by decide +kernel
theorem d_CS_addAlike_14 : decode b_CS_addAlike 14 = .ok (.arraylength, 1) := by decide +kernel
theorem d_CS_addAlike_15 : decode b_CS_addAlike 15 = .ok (.if_icmp .ge 77, 3) := by decide +kernel
theorem d_CS_addAlike_18 : decode b_CS_addAlike 18 = .ok (.getstatic 48, 3) := by decide +kernel
theorem d_CS_addAlike_21 : decode b_CS_addAlike 21 = .ok (.iload_n 3, 1) := by decide +kernel
theorem d_CS_addAlike_22 : decode b_CS_addAlike 22 = .ok (.iconst 2, 1) := by decide +kernel
theorem d_CS_addAlike_23 : decode b_CS_addAlike 23 = .ok (.iadd, 1) := by decide +kernel
theorem d_CS_addAlike_24 : decode b_CS_addAlike 24 = .ok (.iaload, 1) := by decide +kernel
theorem d_CS_addAlike_25 : decode b_CS_addAlike 25 = .ok (.istore 4, 2) := by decide +kernel
theorem d_CS_addAlike_27 : decode b_CS_addAlike 27 = .ok (.aload_n 0, 1) := by decide +kernel
theorem d_CS_addAlike_28 : decode b_CS_addAlike 28 = .ok (.iload_n 1, 1) := by decide +kernel
theorem d_CS_addAlike_29 : decode b_CS_addAlike 29 = .ok (.getstatic 48, 3) := by decide +kernel
theorem d_CS_addAlike_32 : decode b_CS_addAlike 32 = .ok (.iload_n 3, 1) := by decide +kernel
theorem d_CS_addAlike_33 : decode b_CS_addAlike 33 = .ok (.iaload, 1) := by decide +kernel
theorem d_CS_addAlike_34 : decode b_CS_addAlike 34 = .ok (.invokestatic 29, 3) := by decide +kernel
theorem d_CS_addAlike_37 : decode b_CS_addAlike 37 = .ok (.iload_n 2, 1) := by decide +kernel
theorem d_CS_addAlike_38 : decode b_CS_addAlike 38 = .ok (.getstatic 48, 3) := by decide +kernel
theorem d_CS_addAlike_41 : decode b_CS_addAlike 41 = .ok (.iload_n 3, 1) := by decide +kernel
theorem d_CS_addAlike_42 : decode b_CS_addAlike 42 = .ok (.iconst 1, 1) := by decide +kernel
theorem d_CS_addAlike_43 : decode b_CS_addAlike 43 = .ok (.iadd, 1) := by decide +kernel
theorem d_CS_addAlike_44 : decode b_CS_addAlike 44 = .ok (.iaload, 1) := by decide +kernel
theorem d_CS_addAlike_45 : decode b_CS_addAlike 45 = .ok (.invokestatic 23, 3) := by decide +kernel
theorem d_CS_addAlike_48 : decode b_CS_addAlike 48 = .ok (.iload 4, 2) := by decide +kernel
theorem d_CS_addAlike_50 : decode b_CS_addAlike 50 = .ok (.invokevirtual 51, 3) := by decide +kernel
theorem d_CS_addAlike_53 : decode b_CS_addAlike 53 = .ok (.aload_n 0, 1) := by decide +kernel
theorem d_CS_addAlike_54 : decode b_CS_addAlike 54 = .ok (.iload_n 1, 1) := by decide +kernel
theorem d_CS_addAlike_55 : decode b_CS_addAlike 55 = .ok (.getstatic 48, 3) := by decide +kernel
theorem d_CS_addAlike_58 : decode b_CS_addAlike 58 = .ok (.iload_n 3, 1) := by decide +kernel
theorem d_CS_addAlike_59 : decode b_CS_addAlike 59 = .ok (.iaload, 1) := by decide +kernel
theorem d_CS_addAlike_60 : decode b_CS_addAlike 60 = .ok (.iload 4, 2) := by decide +kernel
theorem d_CS_addAlike_62 : decode b_CS_addAlike 62 = .ok (.iadd, 1) := by decide +kernel
theorem d_CS_addAlike_63 : decode b_CS_addAlike 63 = .ok (.invokestatic 29, 3) := by decide +kernel
theorem d_CS_addAlike_66 : decode b_CS_addAlike 66 = .ok (.iload_n 2, 1) := by decide +kernel
theorem d_CS_addAlike_67 : decode b_CS_addAlike 67 = .ok (.getstatic 48, 3) := by decide +kernel
theorem d_CS_addAlike_70 : decode b_CS_addAlike 70 = .ok (.iload_n 3, 1) := by decide +kernel
theorem d_CS_addAlike_71 : decode b_CS_addAlike 71 = .ok (.iconst 1, 1) := by decide +kernel
theorem d_CS_addAlike_72 : decode b_CS_addAlike 72 = .ok (.iadd, 1) := by decide +kernel
theorem d_CS_addAlike_73 : decode b_CS_addAlike 73 = .ok (.iaload, 1) := by decide +kernel
theorem d_CS_addAlike_74 : decode b_CS_addAlike 74 = .ok (.iload 4, 2) := by decide +kernel
theorem d_CS_addAlike_76 : decode b_CS_addAlike 76 = .ok (.iadd, 1) := by decide +kernel
theorem d_CS_addAlike_77 : decode b_CS_addAlike 77 = .ok (.invokestatic 23, 3) := by decide +kernel
theorem d_CS_addAlike_80 : decode b_CS_addAlike 80 = .ok (.iload 4, 2) := by decide +kernel
theorem d_CS_addAlike_82 : decode b_CS_addAlike 82 = .ok (.ineg, 1) := by decide +kernel
theorem d_CS_addAlike_83 : decode b_CS_addAlike 83 = .ok (.invokevirtual 51, 3) := by decide +kernel
theorem d_CS_addAlike_86 : decode b_CS_addAlike 86 = .ok (.iinc 3 3, 3) := by decide +kernel
theorem d_CS_addAlike_89 : decode b_CS_addAlike 89 = .ok (.goto (-81), 3) := by decide +kernel
theorem d_CS_addAlike_92 : decode b_CS_addAlike 92 = .ok (.iconst 0, 1) := by decide +kernel
theorem d_CS_addAlike_93 : decode b_CS_addAlike 93 = .ok (.istore_n 3, 1) := by decide +kernel
theorem d_CS_addAlike_94 : decode b_CS_addAlike 94 = .ok (.iload_n 3, 1) := by decide +kernel
theorem d_CS_addAlike_95 : decode b_CS_addAlike 95 = .ok (.iconst 3, 1) := by decide +kernel
theorem d_CS_addAlike_96 : decode b_CS_addAlike 96 = .ok (.iadd, 1) := by decide +kernel
theorem d_CS_addAlike_97 : decode b_CS_addAlike 97 = .ok (.getstatic 55, 3) := by decide +kernel
theorem d_CS_addAlike_100 : decode b_CS_addAlike 100 = .ok (.arraylength, 1) := by decide +kernel
theorem d_CS_addAlike_101 : decode b_CS_addAlike 101 = .ok (.if_icmp .ge 97, 3) := by decide +kernel
theorem d_CS_addAlike_104 : decode b_CS_addAlike 104 = .ok (.iconst 0, 1) := by decide +kernel
theorem d_CS_addAlike_105 : decode b_CS_addAlike 105 = .ok (.istore 4, 2) := by decide +kernel
theorem d_CS_addAlike_107 : decode b_CS_addAlike 107 = .ok (.iload_n 3, 1) := by decide +kernel
theorem d_CS_addAlike_108 : decode b_CS_addAlike 108 = .ok (.istore 5, 2) := by decide +kernel
theorem d_CS_addAlike_110 : decode b_CS_addAlike 110 = .ok (.iload 5, 2) := by decide +kernel
theorem d_CS_addAlike_112 : decode b_CS_addAlike 112 = .ok (.iload_n 3, 1) := by decide +kernel
theorem d_CS_addAlike_113 : decode b_CS_addAlike 113 = .ok (.iconst 4, 1) := by decide +kernel
theorem d_CS_addAlike_114 : decode b_CS_addAlike 114 = .ok (.iadd, 1) := by decide +kernel
theorem d_CS_addAlike_115 : decode b_CS_addAlike 115 = .ok (.if_icmp .ge 39, 3) := by decide +kernel
theorem d_CS_addAlike_118 : decode b_CS_addAlike 118 = .ok (.iload 4, 2) := by decide +kernel
theorem d_CS_addAlike_120 : decode b_CS_addAlike 120 = .ok (.getstatic 55, 3) := by decide +kernel
theorem d_CS_addAlike_123 : decode b_CS_addAlike 123 = .ok (.iload 5, 2) := by decide +kernel
theorem d_CS_addAlike_125 : decode b_CS_addAlike 125 = .ok (.iaload, 1) := by decide +kernel
theorem d_CS_addAlike_126 : decode b_CS_addAlike 126 = .ok (.iload_n 1, 1) := by decide +kernel
theorem d_CS_addAlike_127 : decode b_CS_addAlike 127 = .ok (.if_icmp .lt 17, 3) := by decide +kernel
theorem d_CS_addAlike_130 : decode b_CS_addAlike 130 = .ok (.getstatic 55, 3) := by decide +kernel
theorem d_CS_addAlike_133 : decode b_CS_addAlike 133 = .ok (.iload 5, 2) := by decide +kernel
theorem d_CS_addAlike_135 : decode b_CS_addAlike 135 = .ok (.iaload, 1) := by decide +kernel
theorem d_CS_addAlike_136 : decode b_CS_addAlike 136 = .ok (.iload_n 2, 1) := by decide +kernel
theorem d_CS_addAlike_137 : decode b_CS_addAlike 137 = .ok (.if_icmp .gt 7, 3) := by decide +kernel
theorem d_CS_addAlike_140 : decode b_CS_addAlike 140 = .ok (.iconst 1, 1) := by decide +kernel
theorem d_CS_addAlike_141 : decode b_CS_addAlike 141 = .ok (.goto 4, 3) := by decide +kernel
theorem d_CS_addAlike_144 : decode b_CS_addAlike 144 = .ok (.iconst 0, 1) := by decide +kernel
theorem d_CS_addAlike_145 : decode b_CS_addAlike 145 = .ok (.ior, 1) := by decide +kernel
theorem d_CS_addAlike_146 : decode b_CS_addAlike 146 = .ok (.istore 4, 2) := by decide +kernel
theorem d_CS_addAlike_148 : decode b_CS_addAlike 148 = .ok (.iinc 5 1, 3) := by decide +kernel
theorem d_CS_addAlike_151 : decode b_CS_addAlike 151 = .ok (.goto (-41), 3) := by decide +kernel
theorem d_CS_addAlike_154 : decode b_CS_addAlike 154 = .ok (.iload_n 3, 1) := by decide +kernel
theorem d_CS_addAlike_155 : decode b_CS_addAlike 155 = .ok (.istore 5, 2) := by decide +kernel
theorem d_CS_addAlike_157 : decode b_CS_addAlike 157 = .ok (.iload 5, 2) := by decide +kernel
theorem d_CS_addAlike_159 : decode b_CS_addAlike 159 = .ok (.iload_n 3, 1) := by decide +kernel
theorem d_CS_addAlike_160 : decode b_CS_addAlike 160 = .ok (.iconst 4, 1) := by decide +kernel
theorem d_CS_addAlike_161 : decode b_CS_addAlike 161 = .ok (.iadd, 1) := by decide +kernel
theorem d_CS_addAlike_162 : decode b_CS_addAlike 162 = .ok (.if_icmp .ge 30, 3) := by decide +kernel
theorem d_CS_addAlike_165 : decode b_CS_addAlike 165 = .ok (.iload 4, 2) := by decide +kernel
theorem d_CS_addAlike_167 : decode b_CS_addAlike 167 = .ok (.ifCond .eq 25, 3) := by decide +kernel
theorem d_CS_addAlike_170 : decode b_CS_addAlike 170 = .ok (.aload_n 0, 1) := by decide +kernel
theorem d_CS_addAlike_171 : decode b_CS_addAlike 171 = .ok (.getstatic 55, 3) := by decide +kernel
theorem d_CS_addAlike_174 : decode b_CS_addAlike 174 = .ok (.iload 5, 2) := by decide +kernel
theorem d_CS_addAlike_176 : decode b_CS_addAlike 176 = .ok (.iaload, 1) := by decide +kernel
theorem d_CS_addAlike_177 : decode b_CS_addAlike 177 = .ok (.getstatic 55, 3) := by decide +kernel
theorem d_CS_addAlike_180 : decode b_CS_addAlike 180 = .ok (.iload 5, 2) := by decide +kernel
theorem d_CS_addAlike_182 : decode b_CS_addAlike 182 = .ok (.iaload, 1) := by decide +kernel
theorem d_CS_addAlike_183 : decode b_CS_addAlike 183 = .ok (.invokevirtual 44, 3) := by decide +kernel
theorem d_CS_addAlike_186 : decode b_CS_addAlike 186 = .ok (.iinc 5 1, 3) := by decide +kernel
theorem d_CS_addAlike_189 : decode b_CS_addAlike 189 = .ok (.goto (-32), 3) := by decide +kernel
theorem d_CS_addAlike_192 : decode b_CS_addAlike 192 = .ok (.iinc 3 4, 3) := by decide +kernel
theorem d_CS_addAlike_195 : decode b_CS_addAlike 195 = .ok (.goto (-101), 3) := by decide +kernel
theorem d_CS_addAlike_198 : decode b_CS_addAlike 198 = .ok (.return_, 1) := by decide +kernel
theorem d_CS_addAll_0 : decode b_CS_addAll 0 = .ok (.iconst 0, 1) := by decide +kernel
theorem d_CS_addAll_1 : decode b_CS_addAll 1 = .ok (.istore_n 3, 1) := by decide +kernel
theorem d_CS_addAll_2 : decode b_CS_addAll 2 = .ok (.iconst 0, 1) := by decide +kernel
theorem d_CS_addAll_3 : decode b_CS_addAll 3 = .ok (.istore 4, 2) := by decide +kernel
theorem d_CS_addAll_5 : decode b_CS_addAll 5 = .ok (.iload 4, 2) := by decide +kernel
theorem d_CS_addAll_7 : decode b_CS_addAll 7 = .ok (.iconst 1, 1) := by decide +kernel
theorem d_CS_addAll_8 : decode b_CS_addAll 8 = .ok (.iadd, 1) := by decide +kernel
theorem d_CS_addAll_9 : decode b_CS_addAll 9 = .ok (.aload_n 1, 1) := by decide +kernel
theorem d_CS_addAll_10 : decode b_CS_addAll 10 = .ok (.arraylength, 1) := by decide +kernel
theorem d_CS_addAll_11 : decode b_CS_addAll 11 = .ok (.if_icmp .ge 58, 3) := by decide +kernel
theorem d_CS_addAll_14 : decode b_CS_addAll 14 = .ok (.iload_n 2, 1) := by decide +kernel
theorem d_CS_addAll_15 : decode b_CS_addAll 15 = .ok (.ifCond .ne 20, 3) := by decide +kernel
theorem d_CS_addAll_18 : decode b_CS_addAll 18 = .ok (.aload_n 0, 1) := by decide +kernel
theorem d_CS_addAll_19 : decode b_CS_addAll 19 = .ok (.aload_n 1, 1) := by decide +kernel
theorem d_CS_addAll_20 : decode b_CS_addAll 20 = .ok (.iload 4, 2) := by decide +kernel
theorem d_CS_addAll_22 : decode b_CS_addAll 22 = .ok (.iaload, 1) := by decide +kernel
theorem d_CS_addAll_23 : decode b_CS_addAll 23 = .ok (.aload_n 1, 1) := by decide +kernel
theorem d_CS_addAll_24 : decode b_CS_addAll 24 = .ok (.iload 4, 2) := by decide +kernel
theorem d_CS_addAll_26 : decode b_CS_addAll 26 = .ok (.iconst 1, 1) := by decide +kernel
theorem d_CS_addAll_27 : decode b_CS_addAll 27 = .ok (.iadd, 1) := by decide +kernel
theorem d_CS_addAll_28 : decode b_CS_addAll 28 = .ok (.iaload, 1) := by decide +kernel
theorem d_CS_addAll_29 : decode b_CS_addAll 29 = .ok (.invokevirtual 44, 3) := by decide +kernel
theorem d_CS_addAll_32 : decode b_CS_addAll 32 = .ok (.goto 22, 3) := by decide +kernel
theorem d_CS_addAll_35 : decode b_CS_addAll 35 = .ok (.aload_n 1, 1) := by decide +kernel
theorem d_CS_addAll_36 : decode b_CS_addAll 36 = .ok (.iload 4, 2) := by decide +kernel
theorem d_CS_addAll_38 : decode b_CS_addAll 38 = .ok (.iaload, 1) := by decide +kernel
theorem d_CS_addAll_39 : decode b_CS_addAll 39 = .ok (.iload_n 3, 1) := by decide +kernel
theorem d_CS_addAll_40 : decode b_CS_addAll 40 = .ok (.if_icmp .le 14, 3) := by decide +kernel
theorem d_CS_addAll_43 : decode b_CS_addAll 43 = .ok (.aload_n 0, 1) := by decide +kernel
theorem d_CS_addAll_44 : decode b_CS_addAll 44 = .ok (.iload_n 3, 1) := by decide +kernel
theorem d_CS_addAll_45 : decode b_CS_addAll 45 = .ok (.aload_n 1, 1) := by decide +kernel
theorem d_CS_addAll_46 : decode b_CS_addAll 46 = .ok (.iload 4, 2) := by decide +kernel
theorem d_CS_addAll_48 : decode b_CS_addAll 48 = .ok (.iaload, 1) := by decide +kernel
theorem d_CS_addAll_49 : decode b_CS_addAll 49 = .ok (.iconst 1, 1) := by decide +kernel
theorem d_CS_addAll_50 : decode b_CS_addAll 50 = .ok (.isub, 1) := by decide +kernel
theorem d_CS_addAll_51 : decode b_CS_addAll 51 = .ok (.invokevirtual 44, 3) := by decide +kernel
theorem d_CS_addAll_54 : decode b_CS_addAll 54 = .ok (.aload_n 1, 1) := by decide +kernel
theorem d_CS_addAll_55 : decode b_CS_addAll 55 = .ok (.iload 4, 2) := by decide +kernel
theorem d_CS_addAll_57 : decode b_CS_addAll 57 = .ok (.iconst 1, 1) := by decide +kernel
theorem d_CS_addAll_58 : decode b_CS_addAll 58 = .ok (.iadd, 1) := by decide +kernel
theorem d_CS_addAll_59 : decode b_CS_addAll 59 = .ok (.iaload, 1) := by decide +kernel
theorem d_CS_addAll_60 : decode b_CS_addAll 60 = .ok (.iconst 1, 1) := by decide +kernel
theorem d_CS_addAll_61 : decode b_CS_addAll 61 = .ok (.iadd, 1) := by decide +kernel
theorem d_CS_addAll_62 : decode b_CS_addAll 62 = .ok (.istore_n 3, 1) := by decide +kernel
theorem d_CS_addAll_63 : decode b_CS_addAll 63 = .ok (.iinc 4 2, 3) := by decide +kernel
theorem d_CS_addAll_66 : decode b_CS_addAll 66 = .ok (.goto (-61), 3) := by decide +kernel
theorem d_CS_addAll_69 : decode b_CS_addAll 69 = .ok (.iload_n 2, 1) := by decide +kernel
theorem d_CS_addAll_70 : decode b_CS_addAll 70 = .ok (.ifCond .eq 16, 3) := by decide +kernel
theorem d_CS_addAll_73 : decode b_CS_addAll 73 = .ok (.iload_n 3, 1) := by decide +kernel
theorem d_CS_addAll_74 : decode b_CS_addAll 74 = .ok (.ldc 58, 2) := by decide +kernel
theorem d_CS_addAll_76 : decode b_CS_addAll 76 = .ok (.if_icmp .gt 10, 3) := by decide +kernel
theorem d_CS_addAll_79 : decode b_CS_addAll 79 = .ok (.aload_n 0, 1) := by decide +kernel
theorem d_CS_addAll_80 : decode b_CS_addAll 80 = .ok (.iload_n 3, 1) := by decide +kernel
theorem d_CS_addAll_81 : decode b_CS_addAll 81 = .ok (.ldc 58, 2) := by decide +kernel
theorem d_CS_addAll_83 : decode b_CS_addAll 83 = .ok (.invokevirtual 44, 3) := by decide +kernel
theorem d_CS_addAll_86 : decode b_CS_addAll 86 = .ok (.return_, 1) := by decide +kernel
theorem d_CS_addMoved_0 : decode b_CS_addMoved 0 = .ok (.iload_n 1, 1) := by decide +kernel
theorem d_CS_addMoved_1 : decode b_CS_addMoved 1 = .ok (.iload_n 2, 1) := by decide +kernel
theorem d_CS_addMoved_2 : decode b_CS_addMoved 2 = .ok (.if_icmp .gt 13, 3) := by decide +kernel
theorem d_CS_addMoved_5 : decode b_CS_addMoved 5 = .ok (.aload_n 0, 1) := by decide +kernel
theorem d_CS_addMoved_6 : decode b_CS_addMoved 6 = .ok (.iload_n 1, 1) := by decide +kernel
theorem d_CS_addMoved_7 : decode b_CS_addMoved 7 = .ok (.iload_n 3, 1) := by decide +kernel
theorem d_CS_addMoved_8 : decode b_CS_addMoved 8 = .ok (.iadd, 1) := by decide +kernel
theorem d_CS_addMoved_9 : decode b_CS_addMoved 9 = .ok (.iload_n 2, 1) := by decide +kernel
theorem d_CS_addMoved_10 : decode b_CS_addMoved 10 = .ok (.iload_n 3, 1) := by decide +kernel
theorem d_CS_addMoved_11 : decode b_CS_addMoved 11 = .ok (.iadd, 1) := by decide +kernel
theorem d_CS_addMoved_12 : decode b_CS_addMoved 12 = .ok (.invokevirtual 44, 3) := by decide +kernel
theorem d_CS_addMoved_15 : decode b_CS_addMoved 15 = .ok (.return_, 1) := by decide +kernel
theorem d_CS_clear_0 : decode b_CS_clear 0 = .ok (.aload_n 0, 1) := by decide +kernel
theorem d_CS_clear_1 : decode b_CS_clear 1 = .ok (.iconst 0, 1) := by decide +kernel
theorem d_CS_clear_2 : decode b_CS_clear 2 = .ok (.putfield 15, 3) := by decide +kernel
theorem d_CS_clear_5 : decode b_CS_clear 5 = .ok (.return_, 1) := by decide +kernel
theorem d_CS_meets_0 : decode b_CS_meets 0 = .ok (.aload_n 0, 1) := by decide +kernel
theorem d_CS_meets_1 : decode b_CS_meets 1 = .ok (.iload_n 1, 1) := by decide +kernel
theorem d_CS_meets_2 : decode b_CS_meets 2 = .ok (.invokevirtual 19, 3) := by decide +kernel
theorem d_CS_meets_5 : decode b_CS_meets 5 = .ok (.istore_n 3, 1) := by decide +kernel
theorem d_CS_meets_6 : decode b_CS_meets 6 = .ok (.iload_n 3, 1) := by decide +kernel
theorem d_CS_meets_7 : decode b_CS_meets 7 = .ok (.aload_n 0, 1) := by decide +kernel
theorem d_CS_meets_8 : decode b_CS_meets 8 = .ok (.getfield 15, 3) := by decide +kernel
theorem d_CS_meets_11 : decode b_CS_meets 11 = .ok (.if_icmp .ge 19, 3) := by decide +kernel
theorem d_CS_meets_14 : decode b_CS_meets 14 = .ok (.aload_n 0, 1) := by decide +kernel
theorem d_CS_meets_15 : decode b_CS_meets 15 = .ok (.getfield 9, 3) := by decide +kernel
theorem d_CS_meets_18 : decode b_CS_meets 18 = .ok (.iconst 2, 1) := by decide +kernel
theorem d_CS_meets_19 : decode b_CS_meets 19 = .ok (.iload_n 3, 1) := by decide +kernel
theorem d_CS_meets_20 : decode b_CS_meets 20 = .ok (.imul, 1) := by decide +kernel
theorem d_CS_meets_21 : decode b_CS_meets 21 = .ok (.iaload, 1) := by decide +kernel
theorem d_CS_meets_22 : decode b_CS_meets 22 = .ok (.iload_n 2, 1) := by decide +kernel
theorem d_CS_meets_23 : decode b_CS_meets 23 = .ok (.if_icmp .gt 7, 3) := by decide +kernel
theorem d_CS_meets_26 : decode b_CS_meets 26 = .ok (.iconst 1, 1) := by decide +kernel
theorem d_CS_meets_27 : decode b_CS_meets 27 = .ok (.goto 4, 3) := by decide +kernel
theorem d_CS_meets_30 : decode b_CS_meets 30 = .ok (.iconst 0, 1) := by decide +kernel
theorem d_CS_meets_31 : decode b_CS_meets 31 = .ok (.ireturn, 1) := by decide +kernel
theorem d_CS_rangeFrom_0 : decode b_CS_rangeFrom 0 = .ok (.iconst 0, 1) := by decide +kernel
theorem d_CS_rangeFrom_1 : decode b_CS_rangeFrom 1 = .ok (.istore_n 2, 1) := by decide +kernel
theorem d_CS_rangeFrom_2 : decode b_CS_rangeFrom 2 = .ok (.aload_n 0, 1) := by decide +kernel
theorem d_CS_rangeFrom_3 : decode b_CS_rangeFrom 3 = .ok (.getfield 15, 3) := by decide +kernel
theorem d_CS_rangeFrom_6 : decode b_CS_rangeFrom 6 = .ok (.istore_n 3, 1) := by decide +kernel
theorem d_CS_rangeFrom_7 : decode b_CS_rangeFrom 7 = .ok (.iconst 0, 1) := by decide +kernel
theorem d_CS_rangeFrom_8 : decode b_CS_rangeFrom 8 = .ok (.istore 4, 2) := by decide +kernel
theorem d_CS_rangeFrom_10 : decode b_CS_rangeFrom 10 = .ok (.iload 4, 2) := by decide +kernel
theorem d_CS_rangeFrom_12 : decode b_CS_rangeFrom 12 = .ok (.bipush 32, 2) := by decide +kernel
theorem d_CS_rangeFrom_14 : decode b_CS_rangeFrom 14 = .ok (.if_icmp .ge 47, 3) := by decide +kernel
theorem d_CS_rangeFrom_17 : decode b_CS_rangeFrom 17 = .ok (.iload_n 2, 1) := by decide +kernel
theorem d_CS_rangeFrom_18 : decode b_CS_rangeFrom 18 = .ok (.iload_n 3, 1) := by decide +kernel
theorem d_CS_rangeFrom_19 : decode b_CS_rangeFrom 19 = .ok (.if_icmp .ge 42, 3) := by decide +kernel
theorem d_CS_rangeFrom_22 : decode b_CS_rangeFrom 22 = .ok (.iload_n 2, 1) := by decide +kernel
theorem d_CS_rangeFrom_23 : decode b_CS_rangeFrom 23 = .ok (.iload_n 3, 1) := by decide +kernel
theorem d_CS_rangeFrom_24 : decode b_CS_rangeFrom 24 = .ok (.iadd, 1) := by decide +kernel
theorem d_CS_rangeFrom_25 : decode b_CS_rangeFrom 25 = .ok (.iconst 1, 1) := by decide +kernel
theorem d_CS_rangeFrom_26 : decode b_CS_rangeFrom 26 = .ok (.iushr, 1) := by decide +kernel
theorem d_CS_rangeFrom_27 : decode b_CS_rangeFrom 27 = .ok (.istore 5, 2) := by decide +kernel
theorem d_CS_rangeFrom_29 : decode b_CS_rangeFrom 29 = .ok (.aload_n 0, 1) := by decide +kernel
theorem d_CS_rangeFrom_30 : decode b_CS_rangeFrom 30 = .ok (.getfield 9, 3) := by decide +kernel
theorem d_CS_rangeFrom_33 : decode b_CS_rangeFrom 33 = .ok (.iconst 2, 1) := by decide +kernel
theorem d_CS_rangeFrom_34 : decode b_CS_rangeFrom 34 = .ok (.iload 5, 2) := by decide +kernel
theorem d_CS_rangeFrom_36 : decode b_CS_rangeFrom 36 = .ok (.imul, 1) := by decide +kernel
theorem d_CS_rangeFrom_37 : decode b_CS_rangeFrom 37 = .ok (.iconst 1, 1) := by decide +kernel
theorem d_CS_rangeFrom_38 : decode b_CS_rangeFrom 38 = .ok (.iadd, 1) := by decide +kernel
theorem d_CS_rangeFrom_39 : decode b_CS_rangeFrom 39 = .ok (.iaload, 1) := by decide +kernel
theorem d_CS_rangeFrom_40 : decode b_CS_rangeFrom 40 = .ok (.iload_n 1, 1) := by decide +kernel
theorem d_CS_rangeFrom_41 : decode b_CS_rangeFrom 41 = .ok (.if_icmp .ge 11, 3) := by decide +kernel
theorem d_CS_rangeFrom_44 : decode b_CS_rangeFrom 44 = .ok (.iload 5, 2) := by decide +kernel
theorem d_CS_rangeFrom_46 : decode b_CS_rangeFrom 46 = .ok (.iconst 1, 1) := by decide +kernel
theorem d_CS_rangeFrom_47 : decode b_CS_rangeFrom 47 = .ok (.iadd, 1) := by decide +kernel
theorem d_CS_rangeFrom_48 : decode b_CS_rangeFrom 48 = .ok (.istore_n 2, 1) := by decide +kernel
theorem d_CS_rangeFrom_49 : decode b_CS_rangeFrom 49 = .ok (.goto 6, 3) := by decide +kernel
theorem d_CS_rangeFrom_52 : decode b_CS_rangeFrom 52 = .ok (.iload 5, 2) := by decide +kernel
theorem d_CS_rangeFrom_54 : decode b_CS_rangeFrom 54 = .ok (.istore_n 3, 1) := by decide +kernel
theorem d_CS_rangeFrom_55 : decode b_CS_rangeFrom 55 = .ok (.iinc 4 1, 3) := by decide +kernel
theorem d_CS_rangeFrom_58 : decode b_CS_rangeFrom 58 = .ok (.goto (-48), 3) := by decide +kernel
theorem d_CS_rangeFrom_61 : decode b_CS_rangeFrom 61 = .ok (.iload_n 2, 1) := by decide +kernel
theorem d_CS_rangeFrom_62 : decode b_CS_rangeFrom 62 = .ok (.ireturn, 1) := by decide +kernel
theorem d_CS_ranges_0 : decode b_CS_ranges 0 = .ok (.aload_n 0, 1) := by decide +kernel
theorem d_CS_ranges_1 : decode b_CS_ranges 1 = .ok (.getfield 9, 3) := by decide +kernel
theorem d_CS_ranges_4 : decode b_CS_ranges 4 = .ok (.iconst 2, 1) := by decide +kernel
theorem d_CS_ranges_5 : decode b_CS_ranges 5 = .ok (.aload_n 0, 1) := by decide +kernel
theorem d_CS_ranges_6 : decode b_CS_ranges 6 = .ok (.getfield 15, 3) := by decide +kernel
theorem d_CS_ranges_9 : decode b_CS_ranges 9 = .ok (.imul, 1) := by decide +kernel
theorem d_CS_ranges_10 : decode b_CS_ranges 10 = .ok (.invokestatic 32, 3) := by decide +kernel
theorem d_CS_ranges_13 : decode b_CS_ranges 13 = .ok (.astore_n 2, 1) := by decide +kernel
theorem d_CS_ranges_14 : decode b_CS_ranges 14 = .ok (.iload_n 1, 1) := by decide +kernel
theorem d_CS_ranges_15 : decode b_CS_ranges 15 = .ok (.ifCond .eq 27, 3) := by decide +kernel
theorem d_CS_ranges_18 : decode b_CS_ranges 18 = .ok (.aload_n 0, 1) := by decide +kernel
theorem d_CS_ranges_19 : decode b_CS_ranges 19 = .ok (.invokevirtual 59, 3) := by decide +kernel
theorem d_CS_ranges_22 : decode b_CS_ranges 22 = .ok (.aload_n 0, 1) := by decide +kernel
theorem d_CS_ranges_23 : decode b_CS_ranges 23 = .ok (.aload_n 2, 1) := by decide +kernel
theorem d_CS_ranges_24 : decode b_CS_ranges 24 = .ok (.iconst 1, 1) := by decide +kernel
theorem d_CS_ranges_25 : decode b_CS_ranges 25 = .ok (.invokevirtual 62, 3) := by decide +kernel
theorem d_CS_ranges_28 : decode b_CS_ranges 28 = .ok (.aload_n 0, 1) := by decide +kernel
theorem d_CS_ranges_29 : decode b_CS_ranges 29 = .ok (.getfield 9, 3) := by decide +kernel
theorem d_CS_ranges_32 : decode b_CS_ranges 32 = .ok (.iconst 2, 1) := by decide +kernel
theorem d_CS_ranges_33 : decode b_CS_ranges 33 = .ok (.aload_n 0, 1) := by decide +kernel
theorem d_CS_ranges_34 : decode b_CS_ranges 34 = .ok (.getfield 15, 3) := by decide +kernel
theorem d_CS_ranges_37 : decode b_CS_ranges 37 = .ok (.imul, 1) := by decide +kernel
theorem d_CS_ranges_38 : decode b_CS_ranges 38 = .ok (.invokestatic 32, 3) := by decide +kernel
theorem d_CS_ranges_41 : decode b_CS_ranges 41 = .ok (.astore_n 2, 1) := by decide +kernel
theorem d_CS_ranges_42 : decode b_CS_ranges 42 = .ok (.aload_n 2, 1) := by decide +kernel
theorem d_CS_ranges_43 : decode b_CS_ranges 43 = .ok (.arraylength, 1) := by decide +kernel
theorem d_CS_ranges_44 : decode b_CS_ranges 44 = .ok (.iconst 2, 1) := by decide +kernel
theorem d_CS_ranges_45 : decode b_CS_ranges 45 = .ok (.iadd, 1) := by decide +kernel
theorem d_CS_ranges_46 : decode b_CS_ranges 46 = .ok (.newarray .int, 2) := by decide +kernel
theorem d_CS_ranges_48 : decode b_CS_ranges 48 = .ok (.astore_n 3, 1) := by decide +kernel
theorem d_CS_ranges_49 : decode b_CS_ranges 49 = .ok (.iconst 0, 1) := by decide +kernel
theorem d_CS_ranges_50 : decode b_CS_ranges 50 = .ok (.istore 4, 2) := by decide +kernel
theorem d_CS_ranges_52 : decode b_CS_ranges 52 = .ok (.iconst 0, 1) := by decide +kernel
theorem d_CS_ranges_53 : decode b_CS_ranges 53 = .ok (.istore 5, 2) := by decide +kernel
theorem d_CS_ranges_55 : decode b_CS_ranges 55 = .ok (.iload 5, 2) := by decide +kernel
theorem d_CS_ranges_57 : decode b_CS_ranges 57 = .ok (.iconst 1, 1) := by decide +kernel
theorem d_CS_ranges_58 : decode b_CS_ranges 58 = .ok (.iadd, 1) := by decide +kernel
theorem d_CS_ranges_59 : decode b_CS_ranges 59 = .ok (.aload_n 2, 1) := by decide +kernel
theorem d_CS_ranges_60 : decode b_CS_ranges 60 = .ok (.arraylength, 1) := by decide +kernel
theorem d_CS_ranges_61 : decode b_CS_ranges 61 = .ok (.if_icmp .ge 85, 3) := by decide +kernel
theorem d_CS_ranges_64 : decode b_CS_ranges 64 = .ok (.aload_n 2, 1) := by decide +kernel
theorem d_CS_ranges_65 : decode b_CS_ranges 65 = .ok (.iload 5, 2) := by decide +kernel
theorem d_CS_ranges_67 : decode b_CS_ranges 67 = .ok (.iaload, 1) := by decide +kernel
theorem d_CS_ranges_68 : decode b_CS_ranges 68 = .ok (.ldc 66, 2) := by decide +kernel
theorem d_CS_ranges_70 : decode b_CS_ranges 70 = .ok (.if_icmp .ge 31, 3) := by decide +kernel
theorem d_CS_ranges_73 : decode b_CS_ranges 73 = .ok (.aload_n 3, 1) := by decide +kernel
theorem d_CS_ranges_74 : decode b_CS_ranges 74 = .ok (.iload 4, 2) := by decide +kernel
theorem d_CS_ranges_76 : decode b_CS_ranges 76 = .ok (.aload_n 2, 1) := by decide +kernel
theorem d_CS_ranges_77 : decode b_CS_ranges 77 = .ok (.iload 5, 2) := by decide +kernel
theorem d_CS_ranges_79 : decode b_CS_ranges 79 = .ok (.iaload, 1) := by decide +kernel
theorem d_CS_ranges_80 : decode b_CS_ranges 80 = .ok (.iastore, 1) := by decide +kernel
theorem d_CS_ranges_81 : decode b_CS_ranges 81 = .ok (.aload_n 3, 1) := by decide +kernel
theorem d_CS_ranges_82 : decode b_CS_ranges 82 = .ok (.iload 4, 2) := by decide +kernel
theorem d_CS_ranges_84 : decode b_CS_ranges 84 = .ok (.iconst 1, 1) := by decide +kernel
theorem d_CS_ranges_85 : decode b_CS_ranges 85 = .ok (.iadd, 1) := by decide +kernel
theorem d_CS_ranges_86 : decode b_CS_ranges 86 = .ok (.aload_n 2, 1) := by decide +kernel
theorem d_CS_ranges_87 : decode b_CS_ranges 87 = .ok (.iload 5, 2) := by decide +kernel
theorem d_CS_ranges_89 : decode b_CS_ranges 89 = .ok (.iconst 1, 1) := by decide +kernel
theorem d_CS_ranges_90 : decode b_CS_ranges 90 = .ok (.iadd, 1) := by decide +kernel
theorem d_CS_ranges_91 : decode b_CS_ranges 91 = .ok (.iaload, 1) := by decide +kernel
theorem d_CS_ranges_92 : decode b_CS_ranges 92 = .ok (.ldc 67, 2) := by decide +kernel
theorem d_CS_ranges_94 : decode b_CS_ranges 94 = .ok (.invokestatic 23, 3) := by decide +kernel
theorem d_CS_ranges_97 : decode b_CS_ranges 97 = .ok (.iastore, 1) := by decide +kernel
theorem d_CS_ranges_98 : decode b_CS_ranges 98 = .ok (.iinc 4 2, 3) := by decide +kernel
theorem d_CS_ranges_101 : decode b_CS_ranges 101 = .ok (.aload_n 2, 1) := by decide +kernel
theorem d_CS_ranges_102 : decode b_CS_ranges 102 = .ok (.iload 5, 2) := by decide +kernel
theorem d_CS_ranges_104 : decode b_CS_ranges 104 = .ok (.iconst 1, 1) := by decide +kernel
theorem d_CS_ranges_105 : decode b_CS_ranges 105 = .ok (.iadd, 1) := by decide +kernel
theorem d_CS_ranges_106 : decode b_CS_ranges 106 = .ok (.iaload, 1) := by decide +kernel
theorem d_CS_ranges_107 : decode b_CS_ranges 107 = .ok (.ldc 68, 2) := by decide +kernel
theorem d_CS_ranges_109 : decode b_CS_ranges 109 = .ok (.if_icmp .le 31, 3) := by decide +kernel
theorem d_CS_ranges_112 : decode b_CS_ranges 112 = .ok (.aload_n 3, 1) := by decide +kernel
theorem d_CS_ranges_113 : decode b_CS_ranges 113 = .ok (.iload 4, 2) := by decide +kernel
theorem d_CS_ranges_115 : decode b_CS_ranges 115 = .ok (.aload_n 2, 1) := by decide +kernel
theorem d_CS_ranges_116 : decode b_CS_ranges 116 = .ok (.iload 5, 2) := by decide +kernel
theorem d_CS_ranges_118 : decode b_CS_ranges 118 = .ok (.iaload, 1) := by decide +kernel
theorem d_CS_ranges_119 : decode b_CS_ranges 119 = .ok (.ldc 69, 2) := by decide +kernel
theorem d_CS_ranges_121 : decode b_CS_ranges 121 = .ok (.invokestatic 29, 3) := by decide +kernel
theorem d_CS_ranges_124 : decode b_CS_ranges 124 = .ok (.iastore, 1) := by decide +kernel
theorem d_CS_ranges_125 : decode b_CS_ranges 125 = .ok (.aload_n 3, 1) := by decide +kernel
theorem d_CS_ranges_126 : decode b_CS_ranges 126 = .ok (.iload 4, 2) := by decide +kernel
theorem d_CS_ranges_128 : decode b_CS_ranges 128 = .ok (.iconst 1, 1) := by decide +kernel
theorem d_CS_ranges_129 : decode b_CS_ranges 129 = .ok (.iadd, 1) := by decide +kernel
theorem d_CS_ranges_130 : decode b_CS_ranges 130 = .ok (.aload_n 2, 1) := by decide +kernel
theorem d_CS_ranges_131 : decode b_CS_ranges 131 = .ok (.iload 5, 2) := by decide +kernel
theorem d_CS_ranges_133 : decode b_CS_ranges 133 = .ok (.iconst 1, 1) := by decide +kernel
theorem d_CS_ranges_134 : decode b_CS_ranges 134 = .ok (.iadd, 1) := by decide +kernel
theorem d_CS_ranges_135 : decode b_CS_ranges 135 = .ok (.iaload, 1) := by decide +kernel
theorem d_CS_ranges_136 : decode b_CS_ranges 136 = .ok (.iastore, 1) := by decide +kernel
theorem d_CS_ranges_137 : decode b_CS_ranges 137 = .ok (.iinc 4 2, 3) := by decide +kernel
theorem d_CS_ranges_140 : decode b_CS_ranges 140 = .ok (.iinc 5 2, 3) := by decide +kernel
theorem d_CS_ranges_143 : decode b_CS_ranges 143 = .ok (.goto (-88), 3) := by decide +kernel
theorem d_CS_ranges_146 : decode b_CS_ranges 146 = .ok (.aload_n 3, 1) := by decide +kernel
theorem d_CS_ranges_147 : decode b_CS_ranges 147 = .ok (.iload 4, 2) := by decide +kernel
theorem d_CS_ranges_149 : decode b_CS_ranges 149 = .ok (.invokestatic 32, 3) := by decide +kernel
theorem d_CS_ranges_152 : decode b_CS_ranges 152 = .ok (.areturn, 1) := by decide +kernel
theorem d_PR_has_0 : decode b_PR_has 0 = .ok (.aload_n 0, 1) := by decide +kernel
theorem d_PR_has_1 : decode b_PR_has 1 = .ok (.getfield 9, 3) := by decide +kernel
theorem d_PR_has_4 : decode b_PR_has 4 = .ok (.iload_n 1, 1) := by decide +kernel
theorem d_PR_has_5 : decode b_PR_has 5 = .ok (.iaload, 1) := by decide +kernel
theorem d_PR_has_6 : decode b_PR_has 6 = .ok (.ifCond .ne 19, 3) := by decide +kernel
theorem d_PR_has_9 : decode b_PR_has 9 = .ok (.aload_n 0, 1) := by decide +kernel
theorem d_PR_has_10 : decode b_PR_has 10 = .ok (.getfield 18, 3) := by decide +kernel
theorem d_PR_has_13 : decode b_PR_has 13 = .ok (.iload_n 1, 1) := by decide +kernel
theorem d_PR_has_14 : decode b_PR_has 14 = .ok (.iaload, 1) := by decide +kernel
theorem d_PR_has_15 : decode b_PR_has 15 = .ok (.iload_n 2, 1) := by decide +kernel
theorem d_PR_has_16 : decode b_PR_has 16 = .ok (.if_icmp .ne 7, 3) := by decide +kernel
theorem d_PR_has_19 : decode b_PR_has 19 = .ok (.iconst 1, 1) := by decide +kernel
theorem d_PR_has_20 : decode b_PR_has 20 = .ok (.goto 4, 3) := by decide +kernel
theorem d_PR_has_23 : decode b_PR_has 23 = .ok (.iconst 0, 1) := by decide +kernel
theorem d_PR_has_24 : decode b_PR_has 24 = .ok (.ireturn, 1) := by decide +kernel
theorem d_PR_has_25 : decode b_PR_has 25 = .ok (.aload_n 0, 1) := by decide +kernel
theorem d_PR_has_26 : decode b_PR_has 26 = .ok (.getfield 18, 3) := by decide +kernel
theorem d_PR_has_29 : decode b_PR_has 29 = .ok (.iload_n 1, 1) := by decide +kernel
theorem d_PR_has_30 : decode b_PR_has 30 = .ok (.iaload, 1) := by decide +kernel
theorem d_PR_has_31 : decode b_PR_has 31 = .ok (.istore_n 3, 1) := by decide +kernel
theorem d_PR_has_32 : decode b_PR_has 32 = .ok (.iconst 0, 1) := by decide +kernel
theorem d_PR_has_33 : decode b_PR_has 33 = .ok (.istore 4, 2) := by decide +kernel
theorem d_PR_has_35 : decode b_PR_has 35 = .ok (.aload_n 0, 1) := by decide +kernel
theorem d_PR_has_36 : decode b_PR_has 36 = .ok (.getfield 21, 3) := by decide +kernel
theorem d_PR_has_39 : decode b_PR_has 39 = .ok (.iload_n 3, 1) := by decide +kernel
theorem d_PR_has_40 : decode b_PR_has 40 = .ok (.iaload, 1) := by decide +kernel
theorem d_PR_has_41 : decode b_PR_has 41 = .ok (.istore 5, 2) := by decide +kernel
theorem d_PR_has_43 : decode b_PR_has 43 = .ok (.iconst 0, 1) := by decide +kernel
theorem d_PR_has_44 : decode b_PR_has 44 = .ok (.istore 6, 2) := by decide +kernel
theorem d_PR_has_46 : decode b_PR_has 46 = .ok (.iload 6, 2) := by decide +kernel
theorem d_PR_has_48 : decode b_PR_has 48 = .ok (.bipush 32, 2) := by decide +kernel
theorem d_PR_has_50 : decode b_PR_has 50 = .ok (.if_icmp .ge 55, 3) := by decide +kernel
theorem d_PR_has_53 : decode b_PR_has 53 = .ok (.iload 4, 2) := by decide +kernel
theorem d_PR_has_55 : decode b_PR_has 55 = .ok (.iload 5, 2) := by decide +kernel
theorem d_PR_has_57 : decode b_PR_has 57 = .ok (.if_icmp .ge 48, 3) := by decide +kernel
theorem d_PR_has_60 : decode b_PR_has 60 = .ok (.iload 4, 2) := by decide +kernel
theorem d_PR_has_62 : decode b_PR_has 62 = .ok (.iload 5, 2) := by decide +kernel
theorem d_PR_has_64 : decode b_PR_has 64 = .ok (.iadd, 1) := by decide +kernel
theorem d_PR_has_65 : decode b_PR_has 65 = .ok (.iconst 1, 1) := by decide +kernel
theorem d_PR_has_66 : decode b_PR_has 66 = .ok (.iushr, 1) := by decide +kernel
theorem d_PR_has_67 : decode b_PR_has 67 = .ok (.istore 7, 2) := by decide +kernel
theorem d_PR_has_69 : decode b_PR_has 69 = .ok (.aload_n 0, 1) := by decide +kernel
theorem d_PR_has_70 : decode b_PR_has 70 = .ok (.getfield 21, 3) := by decide +kernel
theorem d_PR_has_73 : decode b_PR_has 73 = .ok (.iload_n 3, 1) := by decide +kernel
theorem d_PR_has_74 : decode b_PR_has 74 = .ok (.iconst 2, 1) := by decide +kernel
theorem d_PR_has_75 : decode b_PR_has 75 = .ok (.iload 7, 2) := by decide +kernel
theorem d_PR_has_77 : decode b_PR_has 77 = .ok (.imul, 1) := by decide +kernel
theorem d_PR_has_78 : decode b_PR_has 78 = .ok (.iadd, 1) := by decide +kernel
theorem d_PR_has_79 : decode b_PR_has 79 = .ok (.iconst 2, 1) := by decide +kernel
theorem d_PR_has_80 : decode b_PR_has 80 = .ok (.iadd, 1) := by decide +kernel
theorem d_PR_has_81 : decode b_PR_has 81 = .ok (.iaload, 1) := by decide +kernel
theorem d_PR_has_82 : decode b_PR_has 82 = .ok (.iload_n 2, 1) := by decide +kernel
theorem d_PR_has_83 : decode b_PR_has 83 = .ok (.if_icmp .ge 12, 3) := by decide +kernel
theorem d_PR_has_86 : decode b_PR_has 86 = .ok (.iload 7, 2) := by decide +kernel
theorem d_PR_has_88 : decode b_PR_has 88 = .ok (.iconst 1, 1) := by decide +kernel
theorem d_PR_has_89 : decode b_PR_has 89 = .ok (.iadd, 1) := by decide +kernel
theorem d_PR_has_90 : decode b_PR_has 90 = .ok (.istore 4, 2) := by decide +kernel
theorem d_PR_has_92 : decode b_PR_has 92 = .ok (.goto 7, 3) := by decide +kernel
theorem d_PR_has_95 : decode b_PR_has 95 = .ok (.iload 7, 2) := by decide +kernel
theorem d_PR_has_97 : decode b_PR_has 97 = .ok (.istore 5, 2) := by decide +kernel
theorem d_PR_has_99 : decode b_PR_has 99 = .ok (.iinc 6 1, 3) := by decide +kernel
theorem d_PR_has_102 : decode b_PR_has 102 = .ok (.goto (-56), 3) := by decide +kernel
theorem d_PR_has_105 : decode b_PR_has 105 = .ok (.iload 4, 2) := by decide +kernel
theorem d_PR_has_107 : decode b_PR_has 107 = .ok (.aload_n 0, 1) := by decide +kernel
theorem d_PR_has_108 : decode b_PR_has 108 = .ok (.getfield 21, 3) := by decide +kernel
theorem d_PR_has_111 : decode b_PR_has 111 = .ok (.iload_n 3, 1) := by decide +kernel
theorem d_PR_has_112 : decode b_PR_has 112 = .ok (.iaload, 1) := by decide +kernel
theorem d_PR_has_113 : decode b_PR_has 113 = .ok (.if_icmp .ge 24, 3) := by decide +kernel
theorem d_PR_has_116 : decode b_PR_has 116 = .ok (.aload_n 0, 1) := by decide +kernel
theorem d_PR_has_117 : decode b_PR_has 117 = .ok (.getfield 21, 3) := by decide +kernel
theorem d_PR_has_120 : decode b_PR_has 120 = .ok (.iload_n 3, 1) := by decide +kernel
theorem d_PR_has_121 : decode b_PR_has 121 = .ok (.iconst 2, 1) := by decide +kernel
theorem d_PR_has_122 : decode b_PR_has 122 = .ok (.iload 4, 2) := by decide +kernel
theorem d_PR_has_124 : decode b_PR_has 124 = .ok (.imul, 1) := by decide +kernel
theorem d_PR_has_125 : decode b_PR_has 125 = .ok (.iadd, 1) := by decide +kernel
theorem d_PR_has_126 : decode b_PR_has 126 = .ok (.iconst 1, 1) := by decide +kernel
theorem d_PR_has_127 : decode b_PR_has 127 = .ok (.iadd, 1) := by decide +kernel
theorem d_PR_has_128 : decode b_PR_has 128 = .ok (.iaload, 1) := by decide +kernel
theorem d_PR_has_129 : decode b_PR_has 129 = .ok (.iload_n 2, 1) := by decide +kernel
theorem d_PR_has_130 : decode b_PR_has 130 = .ok (.if_icmp .gt 7, 3) := by decide +kernel
theorem d_PR_has_133 : decode b_PR_has 133 = .ok (.iconst 1, 1) := by decide +kernel
theorem d_PR_has_134 : decode b_PR_has 134 = .ok (.goto 4, 3) := by decide +kernel
theorem d_PR_has_137 : decode b_PR_has 137 = .ok (.iconst 0, 1) := by decide +kernel
theorem d_PR_has_138 : decode b_PR_has 138 = .ok (.ireturn, 1) := by decide +kernel
theorem d_PR_takes_0 : decode b_PR_takes 0 = .ok (.aload_n 0, 1) := by decide +kernel
theorem d_PR_takes_1 : decode b_PR_takes 1 = .ok (.getfield 9, 3) := by decide +kernel
theorem d_PR_takes_4 : decode b_PR_takes 4 = .ok (.iload_n 1, 1) := by decide +kernel
theorem d_PR_takes_5 : decode b_PR_takes 5 = .ok (.iaload, 1) := by decide +kernel
theorem d_PR_takes_6 : decode b_PR_takes 6 = .ok (.iconst 2, 1) := by decide +kernel
theorem d_PR_takes_7 : decode b_PR_takes 7 = .ok (.if_icmp .gt 7, 3) := by decide +kernel
theorem d_PR_takes_10 : decode b_PR_takes 10 = .ok (.iconst 1, 1) := by decide +kernel
theorem d_PR_takes_11 : decode b_PR_takes 11 = .ok (.goto 4, 3) := by decide +kernel
theorem d_PR_takes_14 : decode b_PR_takes 14 = .ok (.iconst 0, 1) := by decide +kernel
theorem d_PR_takes_15 : decode b_PR_takes 15 = .ok (.ireturn, 1) := by decide +kernel
theorem d_PW_codeAt_0 : decode b_PW_codeAt 0 = .ok (.iload_n 1, 1) := by decide +kernel
theorem d_PW_codeAt_1 : decode b_PW_codeAt 1 = .ok (.ifCond .lt 14, 3) := by decide +kernel
theorem d_PW_codeAt_4 : decode b_PW_codeAt 4 = .ok (.iload_n 1, 1) := by decide +kernel
theorem d_PW_codeAt_5 : decode b_PW_codeAt 5 = .ok (.iload_n 2, 1) := by decide +kernel
theorem d_PW_codeAt_6 : decode b_PW_codeAt 6 = .ok (.if_icmp .ge 9, 3) := by decide +kernel
theorem d_PW_codeAt_9 : decode b_PW_codeAt 9 = .ok (.iload_n 1, 1) := by decide +kernel
theorem d_PW_codeAt_10 : decode b_PW_codeAt 10 = .ok (.aload_n 0, 1) := by decide +kernel
theorem d_PW_codeAt_11 : decode b_PW_codeAt 11 = .ok (.arraylength, 1) := by decide +kernel
theorem d_PW_codeAt_12 : decode b_PW_codeAt 12 = .ok (.if_icmp .lt 5, 3) := by decide +kernel
theorem d_PW_codeAt_15 : decode b_PW_codeAt 15 = .ok (.iconst (-1), 1) := by decide +kernel
theorem d_PW_codeAt_16 : decode b_PW_codeAt 16 = .ok (.ireturn, 1) := by decide +kernel
theorem d_PW_codeAt_17 : decode b_PW_codeAt 17 = .ok (.aload_n 0, 1) := by decide +kernel
theorem d_PW_codeAt_18 : decode b_PW_codeAt 18 = .ok (.iload_n 1, 1) := by decide +kernel
theorem d_PW_codeAt_19 : decode b_PW_codeAt 19 = .ok (.iaload, 1) := by decide +kernel
theorem d_PW_codeAt_20 : decode b_PW_codeAt 20 = .ok (.istore_n 3, 1) := by decide +kernel
theorem d_PW_codeAt_21 : decode b_PW_codeAt 21 = .ok (.iload_n 3, 1) := by decide +kernel
theorem d_PW_codeAt_22 : decode b_PW_codeAt 22 = .ok (.sipush 128, 3) := by decide +kernel
theorem d_PW_codeAt_25 : decode b_PW_codeAt 25 = .ok (.if_icmp .ge 5, 3) := by decide +kernel
theorem d_PW_codeAt_28 : decode b_PW_codeAt 28 = .ok (.iload_n 3, 1) := by decide +kernel
theorem d_PW_codeAt_29 : decode b_PW_codeAt 29 = .ok (.ireturn, 1) := by decide +kernel
theorem d_PW_codeAt_30 : decode b_PW_codeAt 30 = .ok (.iload_n 3, 1) := by decide +kernel
theorem d_PW_codeAt_31 : decode b_PW_codeAt 31 = .ok (.sipush 194, 3) := by decide +kernel
theorem d_PW_codeAt_34 : decode b_PW_codeAt 34 = .ok (.if_icmp .lt 10, 3) := by decide +kernel
theorem d_PW_codeAt_37 : decode b_PW_codeAt 37 = .ok (.iload_n 3, 1) := by decide +kernel
theorem d_PW_codeAt_38 : decode b_PW_codeAt 38 = .ok (.sipush 244, 3) := by decide +kernel
theorem d_PW_codeAt_41 : decode b_PW_codeAt 41 = .ok (.if_icmp .le 7, 3) := by decide +kernel
theorem d_PW_codeAt_44 : decode b_PW_codeAt 44 = .ok (.iconst 0, 1) := by decide +kernel
theorem d_PW_codeAt_45 : decode b_PW_codeAt 45 = .ok (.goto 26, 3) := by decide +kernel
theorem d_PW_codeAt_48 : decode b_PW_codeAt 48 = .ok (.iload_n 3, 1) := by decide +kernel
theorem d_PW_codeAt_49 : decode b_PW_codeAt 49 = .ok (.sipush 224, 3) := by decide +kernel
theorem d_PW_codeAt_52 : decode b_PW_codeAt 52 = .ok (.if_icmp .ge 7, 3) := by decide +kernel
theorem d_PW_codeAt_55 : decode b_PW_codeAt 55 = .ok (.iconst 2, 1) := by decide +kernel
theorem d_PW_codeAt_56 : decode b_PW_codeAt 56 = .ok (.goto 15, 3) := by decide +kernel
theorem d_PW_codeAt_59 : decode b_PW_codeAt 59 = .ok (.iload_n 3, 1) := by decide +kernel
theorem d_PW_codeAt_60 : decode b_PW_codeAt 60 = .ok (.sipush 240, 3) := by decide +kernel
theorem d_PW_codeAt_63 : decode b_PW_codeAt 63 = .ok (.if_icmp .ge 7, 3) := by decide +kernel
theorem d_PW_codeAt_66 : decode b_PW_codeAt 66 = .ok (.iconst 3, 1) := by decide +kernel
theorem d_PW_codeAt_67 : decode b_PW_codeAt 67 = .ok (.goto 4, 3) := by decide +kernel
theorem d_PW_codeAt_70 : decode b_PW_codeAt 70 = .ok (.iconst 4, 1) := by decide +kernel
theorem d_PW_codeAt_71 : decode b_PW_codeAt 71 = .ok (.istore 4, 2) := by decide +kernel
theorem d_PW_codeAt_73 : decode b_PW_codeAt 73 = .ok (.iload 4, 2) := by decide +kernel
theorem d_PW_codeAt_75 : decode b_PW_codeAt 75 = .ok (.ifCond .eq 11, 3) := by decide +kernel
theorem d_PW_codeAt_78 : decode b_PW_codeAt 78 = .ok (.iload_n 1, 1) := by decide +kernel
theorem d_PW_codeAt_79 : decode b_PW_codeAt 79 = .ok (.iload 4, 2) := by decide +kernel
theorem d_PW_codeAt_81 : decode b_PW_codeAt 81 = .ok (.iadd, 1) := by decide +kernel
theorem d_PW_codeAt_82 : decode b_PW_codeAt 82 = .ok (.iload_n 2, 1) := by decide +kernel
theorem d_PW_codeAt_83 : decode b_PW_codeAt 83 = .ok (.if_icmp .le 5, 3) := by decide +kernel
theorem d_PW_codeAt_86 : decode b_PW_codeAt 86 = .ok (.iconst (-1), 1) := by decide +kernel
theorem d_PW_codeAt_87 : decode b_PW_codeAt 87 = .ok (.ireturn, 1) := by decide +kernel
theorem d_PW_codeAt_88 : decode b_PW_codeAt 88 = .ok (.iload_n 3, 1) := by decide +kernel
theorem d_PW_codeAt_89 : decode b_PW_codeAt 89 = .ok (.bipush 127, 2) := by decide +kernel
theorem d_PW_codeAt_91 : decode b_PW_codeAt 91 = .ok (.iload 4, 2) := by decide +kernel
theorem d_PW_codeAt_93 : decode b_PW_codeAt 93 = .ok (.ishr, 1) := by decide +kernel
theorem d_PW_codeAt_94 : decode b_PW_codeAt 94 = .ok (.iand, 1) := by decide +kernel
theorem d_PW_codeAt_95 : decode b_PW_codeAt 95 = .ok (.istore 5, 2) := by decide +kernel
theorem d_PW_codeAt_97 : decode b_PW_codeAt 97 = .ok (.iconst 1, 1) := by decide +kernel
theorem d_PW_codeAt_98 : decode b_PW_codeAt 98 = .ok (.istore 6, 2) := by decide +kernel
theorem d_PW_codeAt_100 : decode b_PW_codeAt 100 = .ok (.iload 6, 2) := by decide +kernel
theorem d_PW_codeAt_102 : decode b_PW_codeAt 102 = .ok (.iload 4, 2) := by decide +kernel
theorem d_PW_codeAt_104 : decode b_PW_codeAt 104 = .ok (.if_icmp .ge 44, 3) := by decide +kernel
theorem d_PW_codeAt_107 : decode b_PW_codeAt 107 = .ok (.aload_n 0, 1) := by decide +kernel
theorem d_PW_codeAt_108 : decode b_PW_codeAt 108 = .ok (.iload_n 1, 1) := by decide +kernel
theorem d_PW_codeAt_109 : decode b_PW_codeAt 109 = .ok (.iload 6, 2) := by decide +kernel
theorem d_PW_codeAt_111 : decode b_PW_codeAt 111 = .ok (.iadd, 1) := by decide +kernel
theorem d_PW_codeAt_112 : decode b_PW_codeAt 112 = .ok (.iaload, 1) := by decide +kernel
theorem d_PW_codeAt_113 : decode b_PW_codeAt 113 = .ok (.istore 7, 2) := by decide +kernel
theorem d_PW_codeAt_115 : decode b_PW_codeAt 115 = .ok (.iload 7, 2) := by decide +kernel
theorem d_PW_codeAt_117 : decode b_PW_codeAt 117 = .ok (.sipush 192, 3) := by decide +kernel
theorem d_PW_codeAt_120 : decode b_PW_codeAt 120 = .ok (.iand, 1) := by decide +kernel
theorem d_PW_codeAt_121 : decode b_PW_codeAt 121 = .ok (.sipush 128, 3) := by decide +kernel
theorem d_PW_codeAt_124 : decode b_PW_codeAt 124 = .ok (.if_icmp .eq 5, 3) := by decide +kernel
theorem d_PW_codeAt_127 : decode b_PW_codeAt 127 = .ok (.iconst (-1), 1) := by decide +kernel
theorem d_PW_codeAt_128 : decode b_PW_codeAt 128 = .ok (.ireturn, 1) := by decide +kernel
theorem d_PW_codeAt_129 : decode b_PW_codeAt 129 = .ok (.iload 5, 2) := by decide +kernel
theorem d_PW_codeAt_131 : decode b_PW_codeAt 131 = .ok (.bipush 6, 2) := by decide +kernel
theorem d_PW_codeAt_133 : decode b_PW_codeAt 133 = .ok (.ishl, 1) := by decide +kernel
