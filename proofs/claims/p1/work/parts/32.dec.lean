theorem d_MO_about_31 : decode b_MO_about 31 = .ok (.iconst 1, 1) := by decide +kernel
theorem d_MO_about_32 : decode b_MO_about 32 = .ok (.if_icmp .ne 12, 3) := by decide +kernel
theorem d_MO_about_35 : decode b_MO_about 35 = .ok (.aload_n 0, 1) := by decide +kernel
theorem d_MO_about_36 : decode b_MO_about 36 = .ok (.getfield 118, 3) := by decide +kernel
theorem d_MO_about_39 : decode b_MO_about 39 = .ok (.iload_n 1, 1) := by decide +kernel
theorem d_MO_about_40 : decode b_MO_about 40 = .ok (.iaload, 1) := by decide +kernel
theorem d_MO_about_41 : decode b_MO_about 41 = .ok (.goto 18, 3) := by decide +kernel
theorem d_MO_about_44 : decode b_MO_about 44 = .ok (.iload_n 2, 1) := by decide +kernel
theorem d_MO_about_45 : decode b_MO_about 45 = .ok (.iconst 2, 1) := by decide +kernel
theorem d_MO_about_46 : decode b_MO_about 46 = .ok (.if_icmp .ne 12, 3) := by decide +kernel
theorem d_MO_about_49 : decode b_MO_about 49 = .ok (.aload_n 0, 1) := by decide +kernel
theorem d_MO_about_50 : decode b_MO_about 50 = .ok (.getfield 121, 3) := by decide +kernel
theorem d_MO_about_53 : decode b_MO_about 53 = .ok (.iload_n 1, 1) := by decide +kernel
theorem d_MO_about_54 : decode b_MO_about 54 = .ok (.iaload, 1) := by decide +kernel
theorem d_MO_about_55 : decode b_MO_about 55 = .ok (.goto 4, 3) := by decide +kernel
theorem d_MO_about_58 : decode b_MO_about 58 = .ok (.iconst (-1), 1) := by decide +kernel
theorem d_MO_about_59 : decode b_MO_about 59 = .ok (.ireturn, 1) := by decide +kernel
theorem d_MO_isThere_0 : decode b_MO_isThere 0 = .ok (.iload_n 1, 1) := by decide +kernel
theorem d_MO_isThere_1 : decode b_MO_isThere 1 = .ok (.ifCond .lt 22, 3) := by decide +kernel
theorem d_MO_isThere_4 : decode b_MO_isThere 4 = .ok (.iload_n 1, 1) := by decide +kernel
theorem d_MO_isThere_5 : decode b_MO_isThere 5 = .ok (.bipush 6, 2) := by decide +kernel
theorem d_MO_isThere_7 : decode b_MO_isThere 7 = .ok (.if_icmp .ge 16, 3) := by decide +kernel
theorem d_MO_isThere_10 : decode b_MO_isThere 10 = .ok (.aload_n 0, 1) := by decide +kernel
theorem d_MO_isThere_11 : decode b_MO_isThere 11 = .ok (.getfield 109, 3) := by decide +kernel
theorem d_MO_isThere_14 : decode b_MO_isThere 14 = .ok (.iload_n 1, 1) := by decide +kernel
theorem d_MO_isThere_15 : decode b_MO_isThere 15 = .ok (.baload, 1) := by decide +kernel
theorem d_MO_isThere_16 : decode b_MO_isThere 16 = .ok (.ifCond .eq 7, 3) := by decide +kernel
theorem d_MO_isThere_19 : decode b_MO_isThere 19 = .ok (.iconst 1, 1) := by decide +kernel
theorem d_MO_isThere_20 : decode b_MO_isThere 20 = .ok (.goto 4, 3) := by decide +kernel
theorem d_MO_isThere_23 : decode b_MO_isThere 23 = .ok (.iconst 0, 1) := by decide +kernel
theorem d_MO_isThere_24 : decode b_MO_isThere 24 = .ok (.ireturn, 1) := by decide +kernel
theorem d_PW_name_0 : decode b_PW_name 0 = .ok (.aload_n 0, 1) := by decide +kernel
theorem d_PW_name_1 : decode b_PW_name 1 = .ok (.iload_n 1, 1) := by decide +kernel
theorem d_PW_name_2 : decode b_PW_name 2 = .ok (.invokevirtual 148, 3) := by decide +kernel
theorem d_PW_name_5 : decode b_PW_name 5 = .ok (.astore 4, 2) := by decide +kernel
theorem d_PW_name_7 : decode b_PW_name 7 = .ok (.aload 4, 2) := by decide +kernel
theorem d_PW_name_9 : decode b_PW_name 9 = .ok (.ifnonnull 7, 3) := by decide +kernel
theorem d_PW_name_12 : decode b_PW_name 12 = .ok (.iconst (-1), 1) := by decide +kernel
theorem d_PW_name_13 : decode b_PW_name 13 = .ok (.goto 10, 3) := by decide +kernel
theorem d_PW_name_16 : decode b_PW_name 16 = .ok (.aload 4, 2) := by decide +kernel
theorem d_PW_name_18 : decode b_PW_name 18 = .ok (.iload_n 2, 1) := by decide +kernel
theorem d_PW_name_19 : decode b_PW_name 19 = .ok (.iload_n 3, 1) := by decide +kernel
theorem d_PW_name_20 : decode b_PW_name 20 = .ok (.invokevirtual 156, 3) := by decide +kernel
theorem d_PW_name_23 : decode b_PW_name 23 = .ok (.ireturn, 1) := by decide +kernel
theorem d_MO_name_0 : decode b_MO_name 0 = .ok (.aload_n 0, 1) := by decide +kernel
theorem d_MO_name_1 : decode b_MO_name 1 = .ok (.iconst 0, 1) := by decide +kernel
theorem d_MO_name_2 : decode b_MO_name 2 = .ok (.putfield 220, 3) := by decide +kernel
theorem d_MO_name_5 : decode b_MO_name 5 = .ok (.aload_n 0, 1) := by decide +kernel
theorem d_MO_name_6 : decode b_MO_name 6 = .ok (.iload_n 1, 1) := by decide +kernel
theorem d_MO_name_7 : decode b_MO_name 7 = .ok (.invokevirtual 507, 3) := by decide +kernel
theorem d_MO_name_10 : decode b_MO_name 10 = .ok (.ifCond .eq 33, 3) := by decide +kernel
theorem d_MO_name_13 : decode b_MO_name 13 = .ok (.iload_n 2, 1) := by decide +kernel
theorem d_MO_name_14 : decode b_MO_name 14 = .ok (.iconst 1, 1) := by decide +kernel
theorem d_MO_name_15 : decode b_MO_name 15 = .ok (.if_icmp .lt 28, 3) := by decide +kernel
theorem d_MO_name_18 : decode b_MO_name 18 = .ok (.iload_n 2, 1) := by decide +kernel
theorem d_MO_name_19 : decode b_MO_name 19 = .ok (.bipush 9, 2) := by decide +kernel
theorem d_MO_name_21 : decode b_MO_name 21 = .ok (.if_icmp .gt 22, 3) := by decide +kernel
theorem d_MO_name_24 : decode b_MO_name 24 = .ok (.iload_n 3, 1) := by decide +kernel
theorem d_MO_name_25 : decode b_MO_name 25 = .ok (.ifCond .lt 18, 3) := by decide +kernel
theorem d_MO_name_28 : decode b_MO_name 28 = .ok (.iload_n 3, 1) := by decide +kernel
theorem d_MO_name_29 : decode b_MO_name 29 = .ok (.aload_n 0, 1) := by decide +kernel
theorem d_MO_name_30 : decode b_MO_name 30 = .ok (.getfield 155, 3) := by decide +kernel
theorem d_MO_name_33 : decode b_MO_name 33 = .ok (.bipush 10, 2) := by decide +kernel
theorem d_MO_name_35 : decode b_MO_name 35 = .ok (.iload_n 1, 1) := by decide +kernel
theorem d_MO_name_36 : decode b_MO_name 36 = .ok (.imul, 1) := by decide +kernel
theorem d_MO_name_37 : decode b_MO_name 37 = .ok (.iload_n 2, 1) := by decide +kernel
theorem d_MO_name_38 : decode b_MO_name 38 = .ok (.iadd, 1) := by decide +kernel
theorem d_MO_name_39 : decode b_MO_name 39 = .ok (.iaload, 1) := by decide +kernel
theorem d_MO_name_40 : decode b_MO_name 40 = .ok (.if_icmp .lt 7, 3) := by decide +kernel
theorem d_MO_name_43 : decode b_MO_name 43 = .ok (.iconst (-1), 1) := by decide +kernel
theorem d_MO_name_44 : decode b_MO_name 44 = .ok (.goto 19, 3) := by decide +kernel
theorem d_MO_name_47 : decode b_MO_name 47 = .ok (.aload_n 0, 1) := by decide +kernel
theorem d_MO_name_48 : decode b_MO_name 48 = .ok (.getfield 152, 3) := by decide +kernel
theorem d_MO_name_51 : decode b_MO_name 51 = .ok (.bipush 120, 2) := by decide +kernel
theorem d_MO_name_53 : decode b_MO_name 53 = .ok (.iload_n 1, 1) := by decide +kernel
theorem d_MO_name_54 : decode b_MO_name 54 = .ok (.imul, 1) := by decide +kernel
theorem d_MO_name_55 : decode b_MO_name 55 = .ok (.bipush 12, 2) := by decide +kernel
theorem d_MO_name_57 : decode b_MO_name 57 = .ok (.iload_n 2, 1) := by decide +kernel
theorem d_MO_name_58 : decode b_MO_name 58 = .ok (.imul, 1) := by decide +kernel
theorem d_MO_name_59 : decode b_MO_name 59 = .ok (.iadd, 1) := by decide +kernel
theorem d_MO_name_60 : decode b_MO_name 60 = .ok (.iload_n 3, 1) := by decide +kernel
theorem d_MO_name_61 : decode b_MO_name 61 = .ok (.iadd, 1) := by decide +kernel
theorem d_MO_name_62 : decode b_MO_name 62 = .ok (.iaload, 1) := by decide +kernel
theorem d_MO_name_63 : decode b_MO_name 63 = .ok (.ireturn, 1) := by decide +kernel
theorem d_PW_subject_0 : decode b_PW_subject 0 = .ok (.aload_n 0, 1) := by decide +kernel
theorem d_PW_subject_1 : decode b_PW_subject 1 = .ok (.getfield 38, 3) := by decide +kernel
theorem d_PW_subject_4 : decode b_PW_subject 4 = .ok (.aload_n 0, 1) := by decide +kernel
theorem d_PW_subject_5 : decode b_PW_subject 5 = .ok (.getfield 18, 3) := by decide +kernel
theorem d_PW_subject_8 : decode b_PW_subject 8 = .ok (.invokevirtual 160, 3) := by decide +kernel
theorem d_PW_subject_11 : decode b_PW_subject 11 = .ok (.aload_n 0, 1) := by decide +kernel
theorem d_PW_subject_12 : decode b_PW_subject 12 = .ok (.getfield 18, 3) := by decide +kernel
theorem d_PW_subject_15 : decode b_PW_subject 15 = .ok (.invokevirtual 120, 3) := by decide +kernel
theorem d_PW_subject_18 : decode b_PW_subject 18 = .ok (.aload_n 0, 1) := by decide +kernel
theorem d_PW_subject_19 : decode b_PW_subject 19 = .ok (.getfield 38, 3) := by decide +kernel
theorem d_PW_subject_22 : decode b_PW_subject 22 = .ok (.getfield 164, 3) := by decide +kernel
theorem d_PW_subject_25 : decode b_PW_subject 25 = .ok (.ireturn, 1) := by decide +kernel
theorem d_SU_take_0 : decode b_SU_take 0 = .ok (.aload_n 0, 1) := by decide +kernel
theorem d_SU_take_1 : decode b_SU_take 1 = .ok (.aload_n 1, 1) := by decide +kernel
theorem d_SU_take_2 : decode b_SU_take 2 = .ok (.getfield 28, 3) := by decide +kernel
theorem d_SU_take_5 : decode b_SU_take 5 = .ok (.putfield 34, 3) := by decide +kernel
theorem d_SU_take_8 : decode b_SU_take 8 = .ok (.aload_n 0, 1) := by decide +kernel
theorem d_SU_take_9 : decode b_SU_take 9 = .ok (.getfield 34, 3) := by decide +kernel
theorem d_SU_take_12 : decode b_SU_take 12 = .ok (.aload_n 0, 1) := by decide +kernel
theorem d_SU_take_13 : decode b_SU_take 13 = .ok (.getfield 9, 3) := by decide +kernel
theorem d_SU_take_16 : decode b_SU_take 16 = .ok (.arraylength, 1) := by decide +kernel
theorem d_SU_take_17 : decode b_SU_take 17 = .ok (.if_icmp .le 58, 3) := by decide +kernel
theorem d_SU_take_20 : decode b_SU_take 20 = .ok (.aload_n 0, 1) := by decide +kernel
theorem d_SU_take_21 : decode b_SU_take 21 = .ok (.getfield 34, 3) := by decide +kernel
theorem d_SU_take_24 : decode b_SU_take 24 = .ok (.sipush 2000, 3) := by decide +kernel
theorem d_SU_take_27 : decode b_SU_take 27 = .ok (.iconst 2, 1) := by decide +kernel
theorem d_SU_take_28 : decode b_SU_take 28 = .ok (.aload_n 0, 1) := by decide +kernel
theorem d_SU_take_29 : decode b_SU_take 29 = .ok (.getfield 9, 3) := by decide +kernel
theorem d_SU_take_32 : decode b_SU_take 32 = .ok (.arraylength, 1) := by decide +kernel
theorem d_SU_take_33 : decode b_SU_take 33 = .ok (.imul, 1) := by decide +kernel
theorem d_SU_take_34 : decode b_SU_take 34 = .ok (.invokestatic 37, 3) := by decide +kernel
theorem d_SU_take_37 : decode b_SU_take 37 = .ok (.invokestatic 43, 3) := by decide +kernel
theorem d_SU_take_40 : decode b_SU_take 40 = .ok (.istore_n 2, 1) := by decide +kernel
theorem d_SU_take_41 : decode b_SU_take 41 = .ok (.aload_n 0, 1) := by decide +kernel
theorem d_SU_take_42 : decode b_SU_take 42 = .ok (.iload_n 2, 1) := by decide +kernel
theorem d_SU_take_43 : decode b_SU_take 43 = .ok (.newarray .int, 2) := by decide +kernel
theorem d_SU_take_45 : decode b_SU_take 45 = .ok (.putfield 9, 3) := by decide +kernel
theorem d_SU_take_48 : decode b_SU_take 48 = .ok (.aload_n 0, 1) := by decide +kernel
theorem d_SU_take_49 : decode b_SU_take 49 = .ok (.iload_n 2, 1) := by decide +kernel
theorem d_SU_take_50 : decode b_SU_take 50 = .ok (.iconst 1, 1) := by decide +kernel
theorem d_SU_take_51 : decode b_SU_take 51 = .ok (.iadd, 1) := by decide +kernel
theorem d_SU_take_52 : decode b_SU_take 52 = .ok (.newarray .int, 2) := by decide +kernel
theorem d_SU_take_54 : decode b_SU_take 54 = .ok (.putfield 15, 3) := by decide +kernel
theorem d_SU_take_57 : decode b_SU_take 57 = .ok (.aload_n 0, 1) := by decide +kernel
theorem d_SU_take_58 : decode b_SU_take 58 = .ok (.iload_n 2, 1) := by decide +kernel
theorem d_SU_take_59 : decode b_SU_take 59 = .ok (.iconst 1, 1) := by decide +kernel
theorem d_SU_take_60 : decode b_SU_take 60 = .ok (.iadd, 1) := by decide +kernel
theorem d_SU_take_61 : decode b_SU_take 61 = .ok (.newarray .int, 2) := by decide +kernel
theorem d_SU_take_63 : decode b_SU_take 63 = .ok (.putfield 18, 3) := by decide +kernel
theorem d_SU_take_66 : decode b_SU_take 66 = .ok (.aload_n 0, 1) := by decide +kernel
theorem d_SU_take_67 : decode b_SU_take 67 = .ok (.iload_n 2, 1) := by decide +kernel
theorem d_SU_take_68 : decode b_SU_take 68 = .ok (.iconst 1, 1) := by decide +kernel
theorem d_SU_take_69 : decode b_SU_take 69 = .ok (.iadd, 1) := by decide +kernel
theorem d_SU_take_70 : decode b_SU_take 70 = .ok (.newarray .int, 2) := by decide +kernel
theorem d_SU_take_72 : decode b_SU_take 72 = .ok (.putfield 21, 3) := by decide +kernel
theorem d_SU_take_75 : decode b_SU_take 75 = .ok (.aload_n 1, 1) := by decide +kernel
theorem d_SU_take_76 : decode b_SU_take 76 = .ok (.getfield 46, 3) := by decide +kernel
theorem d_SU_take_79 : decode b_SU_take 79 = .ok (.iconst 0, 1) := by decide +kernel
theorem d_SU_take_80 : decode b_SU_take 80 = .ok (.aload_n 0, 1) := by decide +kernel
theorem d_SU_take_81 : decode b_SU_take 81 = .ok (.getfield 9, 3) := by decide +kernel
theorem d_SU_take_84 : decode b_SU_take 84 = .ok (.iconst 0, 1) := by decide +kernel
theorem d_SU_take_85 : decode b_SU_take 85 = .ok (.aload_n 0, 1) := by decide +kernel
theorem d_SU_take_86 : decode b_SU_take 86 = .ok (.getfield 34, 3) := by decide +kernel
theorem d_SU_take_89 : decode b_SU_take 89 = .ok (.invokestatic 49, 3) := by decide +kernel
theorem d_SU_take_92 : decode b_SU_take 92 = .ok (.iconst 0, 1) := by decide +kernel
theorem d_SU_take_93 : decode b_SU_take 93 = .ok (.istore_n 2, 1) := by decide +kernel
theorem d_SU_take_94 : decode b_SU_take 94 = .ok (.iconst 0, 1) := by decide +kernel
theorem d_SU_take_95 : decode b_SU_take 95 = .ok (.istore_n 3, 1) := by decide +kernel
theorem d_SU_take_96 : decode b_SU_take 96 = .ok (.iload_n 3, 1) := by decide +kernel
theorem d_SU_take_97 : decode b_SU_take 97 = .ok (.aload_n 0, 1) := by decide +kernel
theorem d_SU_take_98 : decode b_SU_take 98 = .ok (.getfield 34, 3) := by decide +kernel
theorem d_SU_take_101 : decode b_SU_take 101 = .ok (.if_icmp .gt 75, 3) := by decide +kernel
theorem d_SU_take_104 : decode b_SU_take 104 = .ok (.aload_n 0, 1) := by decide +kernel
theorem d_SU_take_105 : decode b_SU_take 105 = .ok (.getfield 15, 3) := by decide +kernel
theorem d_SU_take_108 : decode b_SU_take 108 = .ok (.iload_n 3, 1) := by decide +kernel
theorem d_SU_take_109 : decode b_SU_take 109 = .ok (.aload_n 0, 1) := by decide +kernel
theorem d_SU_take_110 : decode b_SU_take 110 = .ok (.getfield 9, 3) := by decide +kernel
theorem d_SU_take_113 : decode b_SU_take 113 = .ok (.iload_n 3, 1) := by decide +kernel
theorem d_SU_take_114 : decode b_SU_take 114 = .ok (.aload_n 0, 1) := by decide +kernel
theorem d_SU_take_115 : decode b_SU_take 115 = .ok (.getfield 34, 3) := by decide +kernel
theorem d_SU_take_118 : decode b_SU_take 118 = .ok (.invokestatic 55, 3) := by decide +kernel
theorem d_SU_take_121 : decode b_SU_take 121 = .ok (.iastore, 1) := by decide +kernel
theorem d_SU_take_122 : decode b_SU_take 122 = .ok (.aload_n 0, 1) := by decide +kernel
theorem d_SU_take_123 : decode b_SU_take 123 = .ok (.getfield 15, 3) := by decide +kernel
theorem d_SU_take_126 : decode b_SU_take 126 = .ok (.iload_n 3, 1) := by decide +kernel
theorem d_SU_take_127 : decode b_SU_take 127 = .ok (.iaload, 1) := by decide +kernel
theorem d_SU_take_128 : decode b_SU_take 128 = .ok (.iconst (-1), 1) := by decide +kernel
theorem d_SU_take_129 : decode b_SU_take 129 = .ok (.if_icmp .ne 13, 3) := by decide +kernel
theorem d_SU_take_132 : decode b_SU_take 132 = .ok (.iload_n 2, 1) := by decide +kernel
theorem d_SU_take_133 : decode b_SU_take 133 = .ok (.iconst 1, 1) := by decide +kernel
theorem d_SU_take_134 : decode b_SU_take 134 = .ok (.isub, 1) := by decide +kernel
theorem d_SU_take_135 : decode b_SU_take 135 = .ok (.iconst 0, 1) := by decide +kernel
theorem d_SU_take_136 : decode b_SU_take 136 = .ok (.invokestatic 43, 3) := by decide +kernel
theorem d_SU_take_139 : decode b_SU_take 139 = .ok (.goto 12, 3) := by decide +kernel
theorem d_SU_take_142 : decode b_SU_take 142 = .ok (.aload_n 0, 1) := by decide +kernel
theorem d_SU_take_143 : decode b_SU_take 143 = .ok (.getfield 15, 3) := by decide +kernel
theorem d_SU_take_146 : decode b_SU_take 146 = .ok (.iload_n 3, 1) := by decide +kernel
theorem d_SU_take_147 : decode b_SU_take 147 = .ok (.iaload, 1) := by decide +kernel
theorem d_SU_take_148 : decode b_SU_take 148 = .ok (.invokestatic 59, 3) := by decide +kernel
theorem d_SU_take_151 : decode b_SU_take 151 = .ok (.istore_n 2, 1) := by decide +kernel
theorem d_SU_take_152 : decode b_SU_take 152 = .ok (.aload_n 0, 1) := by decide +kernel
theorem d_SU_take_153 : decode b_SU_take 153 = .ok (.getfield 18, 3) := by decide +kernel
theorem d_SU_take_156 : decode b_SU_take 156 = .ok (.iload_n 3, 1) := by decide +kernel
theorem d_SU_take_157 : decode b_SU_take 157 = .ok (.iload_n 2, 1) := by decide +kernel
theorem d_SU_take_158 : decode b_SU_take 158 = .ok (.iastore, 1) := by decide +kernel
theorem d_SU_take_159 : decode b_SU_take 159 = .ok (.aload_n 0, 1) := by decide +kernel
theorem d_SU_take_160 : decode b_SU_take 160 = .ok (.getfield 21, 3) := by decide +kernel
theorem d_SU_take_163 : decode b_SU_take 163 = .ok (.iload_n 3, 1) := by decide +kernel
theorem d_SU_take_164 : decode b_SU_take 164 = .ok (.aload_n 0, 1) := by decide +kernel
theorem d_SU_take_165 : decode b_SU_take 165 = .ok (.iload_n 3, 1) := by decide +kernel
theorem d_SU_take_166 : decode b_SU_take 166 = .ok (.invokevirtual 24, 3) := by decide +kernel
theorem d_SU_take_169 : decode b_SU_take 169 = .ok (.iastore, 1) := by decide +kernel
theorem d_SU_take_170 : decode b_SU_take 170 = .ok (.iinc 3 1, 3) := by decide +kernel
theorem d_SU_take_173 : decode b_SU_take 173 = .ok (.goto (-77), 3) := by decide +kernel
theorem d_SU_take_176 : decode b_SU_take 176 = .ok (.return_, 1) := by decide +kernel
theorem d_PW_codeAt_0 : decode b_PW_codeAt 0 = .ok (.iload_n 1, 1) := by decide +kernel
theorem d_PW_codeAt_1 : decode b_PW_codeAt 1 = .ok (.ifCond .lt 14, 3) := by decide +kernel
theorem d_PW_codeAt_4 : decode b_PW_codeAt 4 = .ok (.iload_n 1, 1) := by decide +kernel
theorem d_PW_codeAt_5 : decode b_PW_codeAt 5 = .ok (.iload_n 2, 1) := by decide +kernel
theorem d_PW_codeAt_6 : decode b_PW_codeAt 6 = .ok (.if_icmp .ge 9, 3) := by decide +kernel
theorem d_PW_codeAt_9 : decode b_PW_codeAt 9 = .ok (.iload_n 1, 1) := by decide +kernel
theorem d_PW_codeAt_10 : decode b_PW_codeAt 10 = .ok (.aload_n 0, 1) := by decide +kernel
theorem d_PW_codeAt_11 : decode b_PW_codeAt 11 = .ok (.arraylength, 1) := by decide +kernel
theorem d_PW_codeAt_12 : decode b_PW_codeAt 12 = .ok (.if_icmp .lt 5, 3) := by decide +kernel
theorem d_PW_codeAt_15 : decode b_PW_codeAt 15 = .ok (.iconst (-1), 1) := by decide +kernel
theorem d_PW_codeAt_16 : decode b_PW_codeAt 16 = .ok (.ireturn, 1) := by decide +kernel
theorem d_PW_codeAt_17 : decode b_PW_codeAt 17 = .ok (.aload_n 0, 1) := by decide +kernel
theorem d_PW_codeAt_18 : decode b_PW_codeAt 18 = .ok (.iload_n 1, 1) := by decide +kernel
theorem d_PW_codeAt_19 : decode b_PW_codeAt 19 = .ok (.iaload, 1) := by decide +kernel
theorem d_PW_codeAt_20 : decode b_PW_codeAt 20 = .ok (.istore_n 3, 1) := by decide +kernel
theorem d_PW_codeAt_21 : decode b_PW_codeAt 21 = .ok (.iload_n 3, 1) := by decide +kernel
theorem d_PW_codeAt_22 : decode b_PW_codeAt 22 = .ok (.sipush 128, 3) := by decide +kernel
theorem d_PW_codeAt_25 : decode b_PW_codeAt 25 = .ok (.if_icmp .ge 5, 3) := by decide +kernel
theorem d_PW_codeAt_28 : decode b_PW_codeAt 28 = .ok (.iload_n 3, 1) := by decide +kernel
theorem d_PW_codeAt_29 : decode b_PW_codeAt 29 = .ok (.ireturn, 1) := by decide +kernel
theorem d_PW_codeAt_30 : decode b_PW_codeAt 30 = .ok (.iload_n 3, 1) := by decide +kernel
theorem d_PW_codeAt_31 : decode b_PW_codeAt 31 = .ok (.sipush 194, 3) := by decide +kernel
theorem d_PW_codeAt_34 : decode b_PW_codeAt 34 = .ok (.if_icmp .lt 10, 3) := by decide +kernel
theorem d_PW_codeAt_37 : decode b_PW_codeAt 37 = .ok (.iload_n 3, 1) := by decide +kernel
theorem d_PW_codeAt_38 : decode b_PW_codeAt 38 = .ok (.sipush 244, 3) := by decide +kernel
theorem d_PW_codeAt_41 : decode b_PW_codeAt 41 = .ok (.if_icmp .le 7, 3) := by decide +kernel
theorem d_PW_codeAt_44 : decode b_PW_codeAt 44 = .ok (.iconst 0, 1) := by decide +kernel
theorem d_PW_codeAt_45 : decode b_PW_codeAt 45 = .ok (.goto 26, 3) := by decide +kernel
theorem d_PW_codeAt_48 : decode b_PW_codeAt 48 = .ok (.iload_n 3, 1) := by decide +kernel
theorem d_PW_codeAt_49 : decode b_PW_codeAt 49 = .ok (.sipush 224, 3) := by decide +kernel
theorem d_PW_codeAt_52 : decode b_PW_codeAt 52 = .ok (.if_icmp .ge 7, 3) := by decide +kernel
theorem d_PW_codeAt_55 : decode b_PW_codeAt 55 = .ok (.iconst 2, 1) := by decide +kernel
theorem d_PW_codeAt_56 : decode b_PW_codeAt 56 = .ok (.goto 15, 3) := by decide +kernel
theorem d_PW_codeAt_59 : decode b_PW_codeAt 59 = .ok (.iload_n 3, 1) := by decide +kernel
theorem d_PW_codeAt_60 : decode b_PW_codeAt 60 = .ok (.sipush 240, 3) := by decide +kernel
theorem d_PW_codeAt_63 : decode b_PW_codeAt 63 = .ok (.if_icmp .ge 7, 3) := by decide +kernel
theorem d_PW_codeAt_66 : decode b_PW_codeAt 66 = .ok (.iconst 3, 1) := by decide +kernel
theorem d_PW_codeAt_67 : decode b_PW_codeAt 67 = .ok (.goto 4, 3) := by decide +kernel
theorem d_PW_codeAt_70 : decode b_PW_codeAt 70 = .ok (.iconst 4, 1) := by decide +kernel
theorem d_PW_codeAt_71 : decode b_PW_codeAt 71 = .ok (.istore 4, 2) := by decide +kernel
theorem d_PW_codeAt_73 : decode b_PW_codeAt 73 = .ok (.iload 4, 2) := by decide +kernel
theorem d_PW_codeAt_75 : decode b_PW_codeAt 75 = .ok (.ifCond .eq 11, 3) := by decide +kernel
theorem d_PW_codeAt_78 : decode b_PW_codeAt 78 = .ok (.iload_n 1, 1) := by decide +kernel
theorem d_PW_codeAt_79 : decode b_PW_codeAt 79 = .ok (.iload 4, 2) := by decide +kernel
theorem d_PW_codeAt_81 : decode b_PW_codeAt 81 = .ok (.iadd, 1) := by decide +kernel
theorem d_PW_codeAt_82 : decode b_PW_codeAt 82 = .ok (.iload_n 2, 1) := by decide +kernel
theorem d_PW_codeAt_83 : decode b_PW_codeAt 83 = .ok (.if_icmp .le 5, 3) := by decide +kernel
theorem d_PW_codeAt_86 : decode b_PW_codeAt 86 = .ok (.iconst (-1), 1) := by decide +kernel
theorem d_PW_codeAt_87 : decode b_PW_codeAt 87 = .ok (.ireturn, 1) := by decide +kernel
theorem d_PW_codeAt_88 : decode b_PW_codeAt 88 = .ok (.iload_n 3, 1) := by decide +kernel
theorem d_PW_codeAt_89 : decode b_PW_codeAt 89 = .ok (.bipush 127, 2) := by decide +kernel
theorem d_PW_codeAt_91 : decode b_PW_codeAt 91 = .ok (.iload 4, 2) := by decide +kernel
theorem d_PW_codeAt_93 : decode b_PW_codeAt 93 = .ok (.ishr, 1) := by decide +kernel
theorem d_PW_codeAt_94 : decode b_PW_codeAt 94 = .ok (.iand, 1) := by decide +kernel
theorem d_PW_codeAt_95 : decode b_PW_codeAt 95 = .ok (.istore 5, 2) := by decide +kernel
theorem d_PW_codeAt_97 : decode b_PW_codeAt 97 = .ok (.iconst 1, 1) := by decide +kernel
theorem d_PW_codeAt_98 : decode b_PW_codeAt 98 = .ok (.istore 6, 2) := by decide +kernel
theorem d_PW_codeAt_100 : decode b_PW_codeAt 100 = .ok (.iload 6, 2) := by decide +kernel
theorem d_PW_codeAt_102 : decode b_PW_codeAt 102 = .ok (.iload 4, 2) := by decide +kernel
theorem d_PW_codeAt_104 : decode b_PW_codeAt 104 = .ok (.if_icmp .ge 44, 3) := by decide +kernel
theorem d_PW_codeAt_107 : decode b_PW_codeAt 107 = .ok (.aload_n 0, 1) := by decide +kernel
theorem d_PW_codeAt_108 : decode b_PW_codeAt 108 = .ok (.iload_n 1, 1) := by decide +kernel
theorem d_PW_codeAt_109 : decode b_PW_codeAt 109 = .ok (.iload 6, 2) := by decide +kernel
theorem d_PW_codeAt_111 : decode b_PW_codeAt 111 = .ok (.iadd, 1) := by decide +kernel
theorem d_PW_codeAt_112 : decode b_PW_codeAt 112 = .ok (.iaload, 1) := by decide +kernel
theorem d_PW_codeAt_113 : decode b_PW_codeAt 113 = .ok (.istore 7, 2) := by decide +kernel
theorem d_PW_codeAt_115 : decode b_PW_codeAt 115 = .ok (.iload 7, 2) := by decide +kernel
theorem d_PW_codeAt_117 : decode b_PW_codeAt 117 = .ok (.sipush 192, 3) := by decide +kernel
theorem d_PW_codeAt_120 : decode b_PW_codeAt 120 = .ok (.iand, 1) := by decide +kernel
theorem d_PW_codeAt_121 : decode b_PW_codeAt 121 = .ok (.sipush 128, 3) := by decide +kernel
theorem d_PW_codeAt_124 : decode b_PW_codeAt 124 = .ok (.if_icmp .eq 5, 3) := by decide +kernel
theorem d_PW_codeAt_127 : decode b_PW_codeAt 127 = .ok (.iconst (-1), 1) := by decide +kernel
theorem d_PW_codeAt_128 : decode b_PW_codeAt 128 = .ok (.ireturn, 1) := by decide +kernel
theorem d_PW_codeAt_129 : decode b_PW_codeAt 129 = .ok (.iload 5, 2) := by decide +kernel
theorem d_PW_codeAt_131 : decode b_PW_codeAt 131 = .ok (.bipush 6, 2) := by decide +kernel
theorem d_PW_codeAt_133 : decode b_PW_codeAt 133 = .ok (.ishl, 1) := by decide +kernel
theorem d_PW_codeAt_134 : decode b_PW_codeAt 134 = .ok (.iload 7, 2) := by decide +kernel
theorem d_PW_codeAt_136 : decode b_PW_codeAt 136 = .ok (.bipush 63, 2) := by decide +kernel
theorem d_PW_codeAt_138 : decode b_PW_codeAt 138 = .ok (.iand, 1) := by decide +kernel
theorem d_PW_codeAt_139 : decode b_PW_codeAt 139 = .ok (.ior, 1) := by decide +kernel
theorem d_PW_codeAt_140 : decode b_PW_codeAt 140 = .ok (.istore 5, 2) := by decide +kernel
theorem d_PW_codeAt_142 : decode b_PW_codeAt 142 = .ok (.iinc 6 1, 3) := by decide +kernel
theorem d_PW_codeAt_145 : decode b_PW_codeAt 145 = .ok (.goto (-45), 3) := by decide +kernel
theorem d_PW_codeAt_148 : decode b_PW_codeAt 148 = .ok (.iload 5, 2) := by decide +kernel
theorem d_PW_codeAt_150 : decode b_PW_codeAt 150 = .ok (.invokestatic 279, 3) := by decide +kernel
theorem d_PW_codeAt_153 : decode b_PW_codeAt 153 = .ok (.iload 4, 2) := by decide +kernel
theorem d_PW_codeAt_155 : decode b_PW_codeAt 155 = .ok (.if_icmp .ne 16, 3) := by decide +kernel
theorem d_PW_codeAt_158 : decode b_PW_codeAt 158 = .ok (.iload 5, 2) := by decide +kernel
theorem d_PW_codeAt_160 : decode b_PW_codeAt 160 = .ok (.invokestatic 282, 3) := by decide +kernel
theorem d_PW_codeAt_163 : decode b_PW_codeAt 163 = .ok (.ifCond .eq 8, 3) := by decide +kernel
theorem d_PW_codeAt_166 : decode b_PW_codeAt 166 = .ok (.iload 5, 2) := by decide +kernel
theorem d_PW_codeAt_168 : decode b_PW_codeAt 168 = .ok (.goto 4, 3) := by decide +kernel
theorem d_PW_codeAt_171 : decode b_PW_codeAt 171 = .ok (.iconst (-1), 1) := by decide +kernel
theorem d_PW_codeAt_172 : decode b_PW_codeAt 172 = .ok (.ireturn, 1) := by decide +kernel
theorem d_MO_subject_0 : decode b_MO_subject 0 = .ok (.aload_n 0, 1) := by decide +kernel
theorem d_MO_subject_1 : decode b_MO_subject 1 = .ok (.iconst 0, 1) := by decide +kernel
theorem d_MO_subject_2 : decode b_MO_subject 2 = .ok (.putfield 220, 3) := by decide +kernel
theorem d_MO_subject_5 : decode b_MO_subject 5 = .ok (.aload_n 0, 1) := by decide +kernel
theorem d_MO_subject_6 : decode b_MO_subject 6 = .ok (.aload_n 0, 1) := by decide +kernel
theorem d_MO_subject_7 : decode b_MO_subject 7 = .ok (.getfield 223, 3) := by decide +kernel
theorem d_MO_subject_10 : decode b_MO_subject 10 = .ok (.putfield 510, 3) := by decide +kernel
theorem d_MO_subject_13 : decode b_MO_subject 13 = .ok (.iconst 0, 1) := by decide +kernel
theorem d_MO_subject_14 : decode b_MO_subject 14 = .ok (.istore_n 1, 1) := by decide +kernel
theorem d_MO_subject_15 : decode b_MO_subject 15 = .ok (.iload_n 1, 1) := by decide +kernel
theorem d_MO_subject_16 : decode b_MO_subject 16 = .ok (.aload_n 0, 1) := by decide +kernel
theorem d_MO_subject_17 : decode b_MO_subject 17 = .ok (.getfield 510, 3) := by decide +kernel
theorem d_MO_subject_20 : decode b_MO_subject 20 = .ok (.if_icmp .ge 21, 3) := by decide +kernel
theorem d_MO_subject_23 : decode b_MO_subject 23 = .ok (.aload_n 0, 1) := by decide +kernel
theorem d_MO_subject_24 : decode b_MO_subject 24 = .ok (.getfield 22, 3) := by decide +kernel
theorem d_MO_subject_27 : decode b_MO_subject 27 = .ok (.iload_n 1, 1) := by decide +kernel
theorem d_MO_subject_28 : decode b_MO_subject 28 = .ok (.aload_n 0, 1) := by decide +kernel
theorem d_MO_subject_29 : decode b_MO_subject 29 = .ok (.getfield 19, 3) := by decide +kernel
theorem d_MO_subject_32 : decode b_MO_subject 32 = .ok (.iload_n 1, 1) := by decide +kernel
theorem d_MO_subject_33 : decode b_MO_subject 33 = .ok (.iaload, 1) := by decide +kernel
theorem d_MO_subject_34 : decode b_MO_subject 34 = .ok (.iastore, 1) := by decide +kernel
theorem d_MO_subject_35 : decode b_MO_subject 35 = .ok (.iinc 1 1, 3) := by decide +kernel
theorem d_MO_subject_38 : decode b_MO_subject 38 = .ok (.goto (-23), 3) := by decide +kernel
theorem d_MO_subject_41 : decode b_MO_subject 41 = .ok (.aload_n 0, 1) := by decide +kernel
theorem d_MO_subject_42 : decode b_MO_subject 42 = .ok (.iconst 0, 1) := by decide +kernel
theorem d_MO_subject_43 : decode b_MO_subject 43 = .ok (.putfield 223, 3) := by decide +kernel
theorem d_MO_subject_46 : decode b_MO_subject 46 = .ok (.aload_n 0, 1) := by decide +kernel
theorem d_MO_subject_47 : decode b_MO_subject 47 = .ok (.getfield 510, 3) := by decide +kernel
theorem d_MO_subject_50 : decode b_MO_subject 50 = .ok (.ireturn, 1) := by decide +kernel
theorem d_LA_match_0 : decode b_LA_match 0 = .ok (.aload 5, 2) := by decide +kernel
theorem d_LA_match_2 : decode b_LA_match 2 = .ok (.iconst 0, 1) := by decide +kernel
theorem d_LA_match_3 : decode b_LA_match 3 = .ok (.aload_n 0, 1) := by decide +kernel
theorem d_LA_match_4 : decode b_LA_match 4 = .ok (.iload_n 1, 1) := by decide +kernel
theorem d_LA_match_5 : decode b_LA_match 5 = .ok (.iload_n 2, 1) := by decide +kernel
theorem d_LA_match_6 : decode b_LA_match 6 = .ok (.iload_n 3, 1) := by decide +kernel
theorem d_LA_match_7 : decode b_LA_match 7 = .ok (.iload 4, 2) := by decide +kernel
theorem d_LA_match_9 : decode b_LA_match 9 = .ok (.invokevirtual 15, 3) := by decide +kernel
theorem d_LA_match_12 : decode b_LA_match 12 = .ok (.i2l, 1) := by decide +kernel
theorem d_LA_match_13 : decode b_LA_match 13 = .ok (.lastore, 1) := by decide +kernel
theorem d_LA_match_14 : decode b_LA_match 14 = .ok (.goto 7, 3) := by decide +kernel
theorem d_LA_match_17 : decode b_LA_match 17 = .ok (.astore 6, 2) := by decide +kernel
theorem d_LA_match_19 : decode b_LA_match 19 = .ok (.iconst 1, 1) := by decide +kernel
theorem d_LA_match_20 : decode b_LA_match 20 = .ok (.ireturn, 1) := by decide +kernel
theorem d_LA_match_21 : decode b_LA_match 21 = .ok (.iconst 0, 1) := by decide +kernel
theorem d_LA_match_22 : decode b_LA_match 22 = .ok (.ireturn, 1) := by decide +kernel
theorem d_PW_match_0 : decode b_PW_match 0 = .ok (.aload_n 0, 1) := by decide +kernel
theorem d_PW_match_1 : decode b_PW_match 1 = .ok (.iload_n 1, 1) := by decide +kernel
theorem d_PW_match_2 : decode b_PW_match 2 = .ok (.invokevirtual 148, 3) := by decide +kernel
theorem d_PW_match_5 : decode b_PW_match 5 = .ok (.astore 5, 2) := by decide +kernel
theorem d_PW_match_7 : decode b_PW_match 7 = .ok (.aload 5, 2) := by decide +kernel
theorem d_PW_match_9 : decode b_PW_match 9 = .ok (.ifnull 21, 3) := by decide +kernel
theorem d_PW_match_12 : decode b_PW_match 12 = .ok (.iload_n 2, 1) := by decide +kernel
theorem d_PW_match_13 : decode b_PW_match 13 = .ok (.ifCond .lt 17, 3) := by decide +kernel
theorem d_PW_match_16 : decode b_PW_match 16 = .ok (.iload_n 2, 1) := by decide +kernel
theorem d_PW_match_17 : decode b_PW_match 17 = .ok (.iconst 2, 1) := by decide +kernel
theorem d_PW_match_18 : decode b_PW_match 18 = .ok (.if_icmp .gt 12, 3) := by decide +kernel
theorem d_PW_match_21 : decode b_PW_match 21 = .ok (.iload_n 3, 1) := by decide +kernel
theorem d_PW_match_22 : decode b_PW_match 22 = .ok (.ifCond .lt 8, 3) := by decide +kernel
theorem d_PW_match_25 : decode b_PW_match 25 = .ok (.iload_n 3, 1) := by decide +kernel
theorem d_PW_match_26 : decode b_PW_match 26 = .ok (.iconst 4, 1) := by decide +kernel
theorem d_PW_match_27 : decode b_PW_match 27 = .ok (.if_icmp .le 13, 3) := by decide +kernel
theorem d_PW_match_30 : decode b_PW_match 30 = .ok (.new 109, 3) := by decide +kernel
theorem d_PW_match_33 : decode b_PW_match 33 = .ok (.dup, 1) := by decide +kernel
theorem d_PW_match_34 : decode b_PW_match 34 = .ok (.ldc 167, 2) := by decide +kernel
theorem d_PW_match_36 : decode b_PW_match 36 = .ok (.invokespecial 113, 3) := by decide +kernel
theorem d_PW_match_39 : decode b_PW_match 39 = .ok (.athrow, 1) := by decide +kernel
theorem d_PW_match_40 : decode b_PW_match 40 = .ok (.iload 4, 2) := by decide +kernel
theorem d_PW_match_42 : decode b_PW_match 42 = .ok (.ifCond .lt 15, 3) := by decide +kernel
theorem d_PW_match_45 : decode b_PW_match 45 = .ok (.iload 4, 2) := by decide +kernel
theorem d_PW_match_47 : decode b_PW_match 47 = .ok (.aload_n 0, 1) := by decide +kernel
theorem d_PW_match_48 : decode b_PW_match 48 = .ok (.getfield 38, 3) := by decide +kernel
theorem d_PW_match_51 : decode b_PW_match 51 = .ok (.getfield 164, 3) := by decide +kernel
theorem d_PW_match_54 : decode b_PW_match 54 = .ok (.if_icmp .le 13, 3) := by decide +kernel
theorem d_PW_match_57 : decode b_PW_match 57 = .ok (.new 109, 3) := by decide +kernel
theorem d_PW_match_60 : decode b_PW_match 60 = .ok (.dup, 1) := by decide +kernel
theorem d_PW_match_61 : decode b_PW_match 61 = .ok (.ldc 169, 2) := by decide +kernel
theorem d_PW_match_63 : decode b_PW_match 63 = .ok (.invokespecial 113, 3) := by decide +kernel
theorem d_PW_match_66 : decode b_PW_match 66 = .ok (.athrow, 1) := by decide +kernel
theorem d_PW_match_67 : decode b_PW_match 67 = .ok (.aload_n 0, 1) := by decide +kernel
theorem d_PW_match_68 : decode b_PW_match 68 = .ok (.aload 5, 2) := by decide +kernel
theorem d_PW_match_70 : decode b_PW_match 70 = .ok (.iload_n 2, 1) := by decide +kernel
theorem d_PW_match_71 : decode b_PW_match 71 = .ok (.iload_n 3, 1) := by decide +kernel
theorem d_PW_match_72 : decode b_PW_match 72 = .ok (.iload 4, 2) := by decide +kernel
theorem d_PW_match_74 : decode b_PW_match 74 = .ok (.invokevirtual 171, 3) := by decide +kernel
theorem d_PW_match_77 : decode b_PW_match 77 = .ok (.istore 6, 2) := by decide +kernel
theorem d_PW_match_79 : decode b_PW_match 79 = .ok (.aload_n 0, 1) := by decide +kernel
theorem d_PW_match_80 : decode b_PW_match 80 = .ok (.aload 5, 2) := by decide +kernel
theorem d_PW_match_82 : decode b_PW_match 82 = .ok (.getfield 152, 3) := by decide +kernel
theorem d_PW_match_85 : decode b_PW_match 85 = .ok (.iconst 1, 1) := by decide +kernel
theorem d_PW_match_86 : decode b_PW_match 86 = .ok (.invokevirtual 175, 3) := by decide +kernel
theorem d_PW_match_89 : decode b_PW_match 89 = .ok (.aload_n 0, 1) := by decide +kernel
theorem d_PW_match_90 : decode b_PW_match 90 = .ok (.getfield 73, 3) := by decide +kernel
theorem d_PW_match_93 : decode b_PW_match 93 = .ok (.iconst (-1), 1) := by decide +kernel
theorem d_PW_match_94 : decode b_PW_match 94 = .ok (.invokestatic 91, 3) := by decide +kernel
theorem d_PW_match_97 : decode b_PW_match 97 = .ok (.iload 6, 2) := by decide +kernel
theorem d_PW_match_99 : decode b_PW_match 99 = .ok (.iconst (-1), 1) := by decide +kernel
theorem d_PW_match_100 : decode b_PW_match 100 = .ok (.if_icmp .eq 21, 3) := by decide +kernel
theorem d_PW_match_103 : decode b_PW_match 103 = .ok (.aload_n 0, 1) := by decide +kernel
theorem d_PW_match_104 : decode b_PW_match 104 = .ok (.getfield 42, 3) := by decide +kernel
theorem d_PW_match_107 : decode b_PW_match 107 = .ok (.iconst 0, 1) := by decide +kernel
theorem d_PW_match_108 : decode b_PW_match 108 = .ok (.aload_n 0, 1) := by decide +kernel
theorem d_PW_match_109 : decode b_PW_match 109 = .ok (.getfield 73, 3) := by decide +kernel
theorem d_PW_match_112 : decode b_PW_match 112 = .ok (.iconst 0, 1) := by decide +kernel
theorem d_PW_match_113 : decode b_PW_match 113 = .ok (.aload 5, 2) := by decide +kernel
theorem d_PW_match_115 : decode b_PW_match 115 = .ok (.getfield 178, 3) := by decide +kernel
theorem d_PW_match_118 : decode b_PW_match 118 = .ok (.invokestatic 181, 3) := by decide +kernel
theorem d_PW_match_121 : decode b_PW_match 121 = .ok (.iload 6, 2) := by decide +kernel
theorem d_PW_match_123 : decode b_PW_match 123 = .ok (.ireturn, 1) := by decide +kernel
theorem d_MO_match_0 : decode b_MO_match 0 = .ok (.aload_n 0, 1) := by decide +kernel
theorem d_MO_match_1 : decode b_MO_match 1 = .ok (.aload_n 0, 1) := by decide +kernel
theorem d_MO_match_2 : decode b_MO_match 2 = .ok (.iload_n 1, 1) := by decide +kernel
theorem d_MO_match_3 : decode b_MO_match 3 = .ok (.invokevirtual 507, 3) := by decide +kernel
theorem d_MO_match_6 : decode b_MO_match 6 = .ok (.ifCond .eq 35, 3) := by decide +kernel
theorem d_MO_match_9 : decode b_MO_match 9 = .ok (.iload_n 2, 1) := by decide +kernel
theorem d_MO_match_10 : decode b_MO_match 10 = .ok (.ifCond .lt 31, 3) := by decide +kernel
theorem d_MO_match_13 : decode b_MO_match 13 = .ok (.iload_n 2, 1) := by decide +kernel
theorem d_MO_match_14 : decode b_MO_match 14 = .ok (.iconst 2, 1) := by decide +kernel
theorem d_MO_match_15 : decode b_MO_match 15 = .ok (.if_icmp .gt 26, 3) := by decide +kernel
theorem d_MO_match_18 : decode b_MO_match 18 = .ok (.iload_n 3, 1) := by decide +kernel
theorem d_MO_match_19 : decode b_MO_match 19 = .ok (.ifCond .lt 22, 3) := by decide +kernel
theorem d_MO_match_22 : decode b_MO_match 22 = .ok (.iload_n 3, 1) := by decide +kernel
theorem d_MO_match_23 : decode b_MO_match 23 = .ok (.iconst 4, 1) := by decide +kernel
theorem d_MO_match_24 : decode b_MO_match 24 = .ok (.if_icmp .gt 17, 3) := by decide +kernel
theorem d_MO_match_27 : decode b_MO_match 27 = .ok (.iload 4, 2) := by decide +kernel
theorem d_MO_match_29 : decode b_MO_match 29 = .ok (.ifCond .lt 12, 3) := by decide +kernel
theorem d_MO_match_32 : decode b_MO_match 32 = .ok (.iload 4, 2) := by decide +kernel
theorem d_MO_match_34 : decode b_MO_match 34 = .ok (.aload_n 0, 1) := by decide +kernel
theorem d_MO_match_35 : decode b_MO_match 35 = .ok (.getfield 510, 3) := by decide +kernel
theorem d_MO_match_38 : decode b_MO_match 38 = .ok (.if_icmp .le 7, 3) := by decide +kernel
theorem d_MO_match_41 : decode b_MO_match 41 = .ok (.iconst 1, 1) := by decide +kernel
theorem d_MO_match_42 : decode b_MO_match 42 = .ok (.goto 4, 3) := by decide +kernel
theorem d_MO_match_45 : decode b_MO_match 45 = .ok (.iconst 0, 1) := by decide +kernel
theorem d_MO_match_46 : decode b_MO_match 46 = .ok (.putfield 220, 3) := by decide +kernel
theorem d_MO_match_49 : decode b_MO_match 49 = .ok (.aload_n 0, 1) := by decide +kernel
theorem d_MO_match_50 : decode b_MO_match 50 = .ok (.getfield 220, 3) := by decide +kernel
theorem d_MO_match_53 : decode b_MO_match 53 = .ok (.ifCond .le 5, 3) := by decide +kernel
theorem d_MO_match_56 : decode b_MO_match 56 = .ok (.iconst 0, 1) := by decide +kernel
theorem d_MO_match_57 : decode b_MO_match 57 = .ok (.ireturn, 1) := by decide +kernel
theorem d_MO_match_58 : decode b_MO_match 58 = .ok (.iload_n 2, 1) := by decide +kernel
theorem d_MO_match_59 : decode b_MO_match 59 = .ok (.iconst 2, 1) := by decide +kernel
theorem d_MO_match_60 : decode b_MO_match 60 = .ok (.if_icmp .ne 63, 3) := by decide +kernel
theorem d_MO_match_63 : decode b_MO_match 63 = .ok (.aload_n 0, 1) := by decide +kernel
theorem d_MO_match_64 : decode b_MO_match 64 = .ok (.aload_n 0, 1) := by decide +kernel
theorem d_MO_match_65 : decode b_MO_match 65 = .ok (.getfield 181, 3) := by decide +kernel
theorem d_MO_match_68 : decode b_MO_match 68 = .ok (.iload_n 1, 1) := by decide +kernel
theorem d_MO_match_69 : decode b_MO_match 69 = .ok (.aload_n 0, 1) := by decide +kernel
theorem d_MO_match_70 : decode b_MO_match 70 = .ok (.getfield 510, 3) := by decide +kernel
theorem d_MO_match_73 : decode b_MO_match 73 = .ok (.iload 4, 2) := by decide +kernel
theorem d_MO_match_75 : decode b_MO_match 75 = .ok (.iconst 1, 1) := by decide +kernel
theorem d_MO_match_76 : decode b_MO_match 76 = .ok (.invokevirtual 559, 3) := by decide +kernel
theorem d_MO_match_79 : decode b_MO_match 79 = .ok (.aload_n 0, 1) := by decide +kernel
theorem d_MO_match_80 : decode b_MO_match 80 = .ok (.aload_n 0, 1) := by decide +kernel
theorem d_MO_match_81 : decode b_MO_match 81 = .ok (.getfield 181, 3) := by decide +kernel
theorem d_MO_match_84 : decode b_MO_match 84 = .ok (.iload 4, 2) := by decide +kernel
theorem d_MO_match_86 : decode b_MO_match 86 = .ok (.aload_n 0, 1) := by decide +kernel
theorem d_MO_match_87 : decode b_MO_match 87 = .ok (.getfield 112, 3) := by decide +kernel
theorem d_MO_match_90 : decode b_MO_match 90 = .ok (.iload_n 1, 1) := by decide +kernel
theorem d_MO_match_91 : decode b_MO_match 91 = .ok (.iaload, 1) := by decide +kernel
theorem d_MO_match_92 : decode b_MO_match 92 = .ok (.invokestatic 528, 3) := by decide +kernel
theorem d_MO_match_95 : decode b_MO_match 95 = .ok (.putfield 563, 3) := by decide +kernel
theorem d_MO_match_98 : decode b_MO_match 98 = .ok (.aload_n 0, 1) := by decide +kernel
theorem d_MO_match_99 : decode b_MO_match 99 = .ok (.getfield 563, 3) := by decide +kernel
theorem d_MO_match_102 : decode b_MO_match 102 = .ok (.ifCond .eq 57, 3) := by decide +kernel
theorem d_MO_match_105 : decode b_MO_match 105 = .ok (.aload_n 0, 1) := by decide +kernel
theorem d_MO_match_106 : decode b_MO_match 106 = .ok (.aload_n 0, 1) := by decide +kernel
theorem d_MO_match_107 : decode b_MO_match 107 = .ok (.getfield 181, 3) := by decide +kernel
theorem d_MO_match_110 : decode b_MO_match 110 = .ok (.iload_n 1, 1) := by decide +kernel
theorem d_MO_match_111 : decode b_MO_match 111 = .ok (.iload 4, 2) := by decide +kernel
theorem d_MO_match_113 : decode b_MO_match 113 = .ok (.aload_n 0, 1) := by decide +kernel
theorem d_MO_match_114 : decode b_MO_match 114 = .ok (.getfield 510, 3) := by decide +kernel
theorem d_MO_match_117 : decode b_MO_match 117 = .ok (.invokevirtual 552, 3) := by decide +kernel
theorem d_MO_match_120 : decode b_MO_match 120 = .ok (.goto 39, 3) := by decide +kernel
theorem d_MO_match_123 : decode b_MO_match 123 = .ok (.aload_n 0, 1) := by decide +kernel
theorem d_MO_match_124 : decode b_MO_match 124 = .ok (.aload_n 0, 1) := by decide +kernel
theorem d_MO_match_125 : decode b_MO_match 125 = .ok (.getfield 178, 3) := by decide +kernel
theorem d_MO_match_128 : decode b_MO_match 128 = .ok (.iload_n 1, 1) := by decide +kernel
theorem d_MO_match_129 : decode b_MO_match 129 = .ok (.aload_n 0, 1) := by decide +kernel
theorem d_MO_match_130 : decode b_MO_match 130 = .ok (.getfield 510, 3) := by decide +kernel
theorem d_MO_match_133 : decode b_MO_match 133 = .ok (.iload 4, 2) := by decide +kernel
theorem d_MO_match_135 : decode b_MO_match 135 = .ok (.iconst 0, 1) := by decide +kernel
theorem d_MO_match_136 : decode b_MO_match 136 = .ok (.invokevirtual 559, 3) := by decide +kernel
theorem d_MO_match_139 : decode b_MO_match 139 = .ok (.aload_n 0, 1) := by decide +kernel
theorem d_MO_match_140 : decode b_MO_match 140 = .ok (.aload_n 0, 1) := by decide +kernel
theorem d_MO_match_141 : decode b_MO_match 141 = .ok (.iload_n 1, 1) := by decide +kernel
theorem d_MO_match_142 : decode b_MO_match 142 = .ok (.iload 4, 2) := by decide +kernel
theorem d_MO_match_144 : decode b_MO_match 144 = .ok (.iload_n 2, 1) := by decide +kernel
theorem d_MO_match_145 : decode b_MO_match 145 = .ok (.ifCond .ne 7, 3) := by decide +kernel
theorem d_MO_match_148 : decode b_MO_match 148 = .ok (.iconst 1, 1) := by decide +kernel
theorem d_MO_match_149 : decode b_MO_match 149 = .ok (.goto 4, 3) := by decide +kernel
theorem d_MO_match_152 : decode b_MO_match 152 = .ok (.iconst 0, 1) := by decide +kernel
theorem d_MO_match_153 : decode b_MO_match 153 = .ok (.invokevirtual 566, 3) := by decide +kernel
theorem d_MO_match_156 : decode b_MO_match 156 = .ok (.putfield 563, 3) := by decide +kernel
theorem d_MO_match_159 : decode b_MO_match 159 = .ok (.iconst 0, 1) := by decide +kernel
theorem d_MO_match_160 : decode b_MO_match 160 = .ok (.istore 5, 2) := by decide +kernel
theorem d_MO_match_162 : decode b_MO_match 162 = .ok (.iload 5, 2) := by decide +kernel
theorem d_MO_match_164 : decode b_MO_match 164 = .ok (.bipush 20, 2) := by decide +kernel
theorem d_MO_match_166 : decode b_MO_match 166 = .ok (.if_icmp .ge 23, 3) := by decide +kernel
theorem d_MO_match_169 : decode b_MO_match 169 = .ok (.aload_n 0, 1) := by decide +kernel
theorem d_MO_match_170 : decode b_MO_match 170 = .ok (.getfield 193, 3) := by decide +kernel
theorem d_MO_match_173 : decode b_MO_match 173 = .ok (.iload 5, 2) := by decide +kernel
theorem d_MO_match_175 : decode b_MO_match 175 = .ok (.aload_n 0, 1) := by decide +kernel
theorem d_MO_match_176 : decode b_MO_match 176 = .ok (.getfield 190, 3) := by decide +kernel
theorem d_MO_match_179 : decode b_MO_match 179 = .ok (.iload 5, 2) := by decide +kernel
theorem d_MO_match_181 : decode b_MO_match 181 = .ok (.iaload, 1) := by decide +kernel
theorem d_MO_match_182 : decode b_MO_match 182 = .ok (.iastore, 1) := by decide +kernel
theorem d_MO_match_183 : decode b_MO_match 183 = .ok (.iinc 5 1, 3) := by decide +kernel
theorem d_MO_match_186 : decode b_MO_match 186 = .ok (.goto (-24), 3) := by decide +kernel
theorem d_MO_match_189 : decode b_MO_match 189 = .ok (.aload_n 0, 1) := by decide +kernel
theorem d_MO_match_190 : decode b_MO_match 190 = .ok (.aload_n 0, 1) := by decide +kernel
theorem d_MO_match_191 : decode b_MO_match 191 = .ok (.getfield 115, 3) := by decide +kernel
theorem d_MO_match_194 : decode b_MO_match 194 = .ok (.iload_n 1, 1) := by decide +kernel
theorem d_MO_match_195 : decode b_MO_match 195 = .ok (.iaload, 1) := by decide +kernel
theorem d_MO_match_196 : decode b_MO_match 196 = .ok (.putfield 570, 3) := by decide +kernel
theorem d_MO_match_199 : decode b_MO_match 199 = .ok (.aload_n 0, 1) := by decide +kernel
theorem d_MO_match_200 : decode b_MO_match 200 = .ok (.getfield 563, 3) := by decide +kernel
theorem d_MO_match_203 : decode b_MO_match 203 = .ok (.ifCond .eq 12, 3) := by decide +kernel
theorem d_MO_match_206 : decode b_MO_match 206 = .ok (.aload_n 0, 1) := by decide +kernel
theorem d_MO_match_207 : decode b_MO_match 207 = .ok (.getfield 193, 3) := by decide +kernel
theorem d_MO_match_210 : decode b_MO_match 210 = .ok (.iconst 1, 1) := by decide +kernel
theorem d_MO_match_211 : decode b_MO_match 211 = .ok (.iaload, 1) := by decide +kernel
theorem d_MO_match_212 : decode b_MO_match 212 = .ok (.goto 4, 3) := by decide +kernel
theorem d_MO_match_215 : decode b_MO_match 215 = .ok (.iconst (-1), 1) := by decide +kernel
theorem d_MO_match_216 : decode b_MO_match 216 = .ok (.ireturn, 1) := by decide +kernel
theorem d_PW_group_0 : decode b_PW_group 0 = .ok (.iload_n 1, 1) := by decide +kernel
theorem d_PW_group_1 : decode b_PW_group 1 = .ok (.ifCond .lt 18, 3) := by decide +kernel
theorem d_PW_group_4 : decode b_PW_group 4 = .ok (.iload_n 1, 1) := by decide +kernel
theorem d_PW_group_5 : decode b_PW_group 5 = .ok (.bipush 9, 2) := by decide +kernel
theorem d_PW_group_7 : decode b_PW_group 7 = .ok (.if_icmp .gt 12, 3) := by decide +kernel
theorem d_PW_group_10 : decode b_PW_group 10 = .ok (.iload_n 2, 1) := by decide +kernel
theorem d_PW_group_11 : decode b_PW_group 11 = .ok (.ifCond .lt 8, 3) := by decide +kernel
theorem d_PW_group_14 : decode b_PW_group 14 = .ok (.iload_n 2, 1) := by decide +kernel
theorem d_PW_group_15 : decode b_PW_group 15 = .ok (.iconst 1, 1) := by decide +kernel
theorem d_PW_group_16 : decode b_PW_group 16 = .ok (.if_icmp .le 5, 3) := by decide +kernel
theorem d_PW_group_19 : decode b_PW_group 19 = .ok (.iconst (-1), 1) := by decide +kernel
theorem d_PW_group_20 : decode b_PW_group 20 = .ok (.ireturn, 1) := by decide +kernel
theorem d_PW_group_21 : decode b_PW_group 21 = .ok (.aload_n 0, 1) := by decide +kernel
theorem d_PW_group_22 : decode b_PW_group 22 = .ok (.getfield 73, 3) := by decide +kernel
theorem d_PW_group_25 : decode b_PW_group 25 = .ok (.iconst 2, 1) := by decide +kernel
theorem d_PW_group_26 : decode b_PW_group 26 = .ok (.iload_n 1, 1) := by decide +kernel
theorem d_PW_group_27 : decode b_PW_group 27 = .ok (.imul, 1) := by decide +kernel
theorem d_PW_group_28 : decode b_PW_group 28 = .ok (.iload_n 2, 1) := by decide +kernel
theorem d_PW_group_29 : decode b_PW_group 29 = .ok (.iadd, 1) := by decide +kernel
theorem d_PW_group_30 : decode b_PW_group 30 = .ok (.iaload, 1) := by decide +kernel
theorem d_PW_group_31 : decode b_PW_group 31 = .ok (.ireturn, 1) := by decide +kernel
theorem d_MO_group_0 : decode b_MO_group 0 = .ok (.aload_n 0, 1) := by decide +kernel
theorem d_MO_group_1 : decode b_MO_group 1 = .ok (.iconst 0, 1) := by decide +kernel
theorem d_MO_group_2 : decode b_MO_group 2 = .ok (.putfield 220, 3) := by decide +kernel
theorem d_MO_group_5 : decode b_MO_group 5 = .ok (.aload_n 0, 1) := by decide +kernel
theorem d_MO_group_6 : decode b_MO_group 6 = .ok (.getfield 563, 3) := by decide +kernel
theorem d_MO_group_9 : decode b_MO_group 9 = .ok (.ifCond .eq 24, 3) := by decide +kernel
theorem d_MO_group_12 : decode b_MO_group 12 = .ok (.iload_n 1, 1) := by decide +kernel
theorem d_MO_group_13 : decode b_MO_group 13 = .ok (.ifCond .lt 20, 3) := by decide +kernel
theorem d_MO_group_16 : decode b_MO_group 16 = .ok (.iload_n 1, 1) := by decide +kernel
theorem d_MO_group_17 : decode b_MO_group 17 = .ok (.aload_n 0, 1) := by decide +kernel
theorem d_MO_group_18 : decode b_MO_group 18 = .ok (.getfield 570, 3) := by decide +kernel
theorem d_MO_group_21 : decode b_MO_group 21 = .ok (.if_icmp .gt 12, 3) := by decide +kernel
theorem d_MO_group_24 : decode b_MO_group 24 = .ok (.iload_n 2, 1) := by decide +kernel
theorem d_MO_group_25 : decode b_MO_group 25 = .ok (.ifCond .lt 8, 3) := by decide +kernel
theorem d_MO_group_28 : decode b_MO_group 28 = .ok (.iload_n 2, 1) := by decide +kernel
theorem d_MO_group_29 : decode b_MO_group 29 = .ok (.iconst 1, 1) := by decide +kernel
theorem d_MO_group_30 : decode b_MO_group 30 = .ok (.if_icmp .le 7, 3) := by decide +kernel
theorem d_MO_group_33 : decode b_MO_group 33 = .ok (.iconst (-1), 1) := by decide +kernel
theorem d_MO_group_34 : decode b_MO_group 34 = .ok (.goto 13, 3) := by decide +kernel
theorem d_MO_group_37 : decode b_MO_group 37 = .ok (.aload_n 0, 1) := by decide +kernel
theorem d_MO_group_38 : decode b_MO_group 38 = .ok (.getfield 193, 3) := by decide +kernel
theorem d_MO_group_41 : decode b_MO_group 41 = .ok (.iconst 2, 1) := by decide +kernel
theorem d_MO_group_42 : decode b_MO_group 42 = .ok (.iload_n 1, 1) := by decide +kernel
theorem d_MO_group_43 : decode b_MO_group 43 = .ok (.imul, 1) := by decide +kernel
theorem d_MO_group_44 : decode b_MO_group 44 = .ok (.iload_n 2, 1) := by decide +kernel
theorem d_MO_group_45 : decode b_MO_group 45 = .ok (.iadd, 1) := by decide +kernel
theorem d_MO_group_46 : decode b_MO_group 46 = .ok (.iaload, 1) := by decide +kernel
theorem d_MO_group_47 : decode b_MO_group 47 = .ok (.ireturn, 1) := by decide +kernel
theorem d_LA_all_0 : decode b_LA_all 0 = .ok (.aload_n 2, 1) := by decide +kernel
theorem d_LA_all_1 : decode b_LA_all 1 = .ok (.iconst 0, 1) := by decide +kernel
theorem d_LA_all_2 : decode b_LA_all 2 = .ok (.aload_n 0, 1) := by decide +kernel
theorem d_LA_all_3 : decode b_LA_all 3 = .ok (.iload_n 1, 1) := by decide +kernel
theorem d_LA_all_4 : decode b_LA_all 4 = .ok (.invokevirtual 19, 3) := by decide +kernel
theorem d_LA_all_7 : decode b_LA_all 7 = .ok (.i2l, 1) := by decide +kernel
theorem d_LA_all_8 : decode b_LA_all 8 = .ok (.lastore, 1) := by decide +kernel
theorem d_LA_all_9 : decode b_LA_all 9 = .ok (.goto 6, 3) := by decide +kernel
theorem d_LA_all_12 : decode b_LA_all 12 = .ok (.astore_n 3, 1) := by decide +kernel
theorem d_LA_all_13 : decode b_LA_all 13 = .ok (.iconst 1, 1) := by decide +kernel
theorem d_LA_all_14 : decode b_LA_all 14 = .ok (.ireturn, 1) := by decide +kernel
theorem d_LA_all_15 : decode b_LA_all 15 = .ok (.iconst 0, 1) := by decide +kernel
theorem d_LA_all_16 : decode b_LA_all 16 = .ok (.ireturn, 1) := by decide +kernel
theorem d_PW_all_0 : decode b_PW_all 0 = .ok (.aload_n 0, 1) := by decide +kernel
theorem d_PW_all_1 : decode b_PW_all 1 = .ok (.iload_n 1, 1) := by decide +kernel
theorem d_PW_all_2 : decode b_PW_all 2 = .ok (.invokevirtual 148, 3) := by decide +kernel
theorem d_PW_all_5 : decode b_PW_all 5 = .ok (.astore_n 2, 1) := by decide +kernel
theorem d_PW_all_6 : decode b_PW_all 6 = .ok (.aload_n 2, 1) := by decide +kernel
theorem d_PW_all_7 : decode b_PW_all 7 = .ok (.ifnonnull 13, 3) := by decide +kernel
theorem d_PW_all_10 : decode b_PW_all 10 = .ok (.new 109, 3) := by decide +kernel
theorem d_PW_all_13 : decode b_PW_all 13 = .ok (.dup, 1) := by decide +kernel
theorem d_PW_all_14 : decode b_PW_all 14 = .ok (.ldc 187, 2) := by decide +kernel
theorem d_PW_all_16 : decode b_PW_all 16 = .ok (.invokespecial 113, 3) := by decide +kernel
theorem d_PW_all_19 : decode b_PW_all 19 = .ok (.athrow, 1) := by decide +kernel
theorem d_PW_all_20 : decode b_PW_all 20 = .ok (.aload_n 0, 1) := by decide +kernel
theorem d_PW_all_21 : decode b_PW_all 21 = .ok (.getfield 76, 3) := by decide +kernel
theorem d_PW_all_24 : decode b_PW_all 24 = .ok (.invokevirtual 120, 3) := by decide +kernel
theorem d_PW_all_27 : decode b_PW_all 27 = .ok (.iconst (-1), 1) := by decide +kernel
theorem d_PW_all_28 : decode b_PW_all 28 = .ok (.istore_n 3, 1) := by decide +kernel
theorem d_PW_all_29 : decode b_PW_all 29 = .ok (.aload_n 0, 1) := by decide +kernel
theorem d_PW_all_30 : decode b_PW_all 30 = .ok (.getfield 55, 3) := by decide +kernel
theorem d_PW_all_33 : decode b_PW_all 33 = .ok (.aload_n 2, 1) := by decide +kernel
theorem d_PW_all_34 : decode b_PW_all 34 = .ok (.aload_n 0, 1) := by decide +kernel
theorem d_PW_all_35 : decode b_PW_all 35 = .ok (.getfield 38, 3) := by decide +kernel
theorem d_PW_all_38 : decode b_PW_all 38 = .ok (.iconst 0, 1) := by decide +kernel
theorem d_PW_all_39 : decode b_PW_all 39 = .ok (.iconst 0, 1) := by decide +kernel
theorem d_PW_all_40 : decode b_PW_all 40 = .ok (.aload_n 0, 1) := by decide +kernel
theorem d_PW_all_41 : decode b_PW_all 41 = .ok (.getfield 42, 3) := by decide +kernel
theorem d_PW_all_44 : decode b_PW_all 44 = .ok (.invokevirtual 189, 3) := by decide +kernel
theorem d_PW_all_47 : decode b_PW_all 47 = .ok (.iconst 0, 1) := by decide +kernel
theorem d_PW_all_48 : decode b_PW_all 48 = .ok (.istore 4, 2) := by decide +kernel
theorem d_PW_all_50 : decode b_PW_all 50 = .ok (.iload 4, 2) := by decide +kernel
theorem d_PW_all_52 : decode b_PW_all 52 = .ok (.aload_n 0, 1) := by decide +kernel
theorem d_PW_all_53 : decode b_PW_all 53 = .ok (.getfield 38, 3) := by decide +kernel
theorem d_PW_all_56 : decode b_PW_all 56 = .ok (.getfield 164, 3) := by decide +kernel
theorem d_PW_all_59 : decode b_PW_all 59 = .ok (.if_icmp .gt 52, 3) := by decide +kernel
theorem d_PW_all_62 : decode b_PW_all 62 = .ok (.aload_n 0, 1) := by decide +kernel
theorem d_PW_all_63 : decode b_PW_all 63 = .ok (.iload_n 3, 1) := by decide +kernel
theorem d_PW_all_64 : decode b_PW_all 64 = .ok (.invokevirtual 193, 3) := by decide +kernel
theorem d_PW_all_67 : decode b_PW_all 67 = .ok (.ifCond .eq 44, 3) := by decide +kernel
theorem d_PW_all_70 : decode b_PW_all 70 = .ok (.aload_n 0, 1) := by decide +kernel
theorem d_PW_all_71 : decode b_PW_all 71 = .ok (.getfield 76, 3) := by decide +kernel
theorem d_PW_all_74 : decode b_PW_all 74 = .ok (.aload_n 0, 1) := by decide +kernel
theorem d_PW_all_75 : decode b_PW_all 75 = .ok (.getfield 42, 3) := by decide +kernel
theorem d_PW_all_78 : decode b_PW_all 78 = .ok (.iconst 0, 1) := by decide +kernel
theorem d_PW_all_79 : decode b_PW_all 79 = .ok (.iaload, 1) := by decide +kernel
theorem d_PW_all_80 : decode b_PW_all 80 = .ok (.invokevirtual 197, 3) := by decide +kernel
theorem d_PW_all_83 : decode b_PW_all 83 = .ok (.pop, 1) := by decide +kernel
theorem d_PW_all_84 : decode b_PW_all 84 = .ok (.aload_n 0, 1) := by decide +kernel
theorem d_PW_all_85 : decode b_PW_all 85 = .ok (.getfield 76, 3) := by decide +kernel
theorem d_PW_all_88 : decode b_PW_all 88 = .ok (.aload_n 0, 1) := by decide +kernel
theorem d_PW_all_89 : decode b_PW_all 89 = .ok (.getfield 42, 3) := by decide +kernel
theorem d_PW_all_92 : decode b_PW_all 92 = .ok (.iconst 1, 1) := by decide +kernel
theorem d_PW_all_93 : decode b_PW_all 93 = .ok (.iaload, 1) := by decide +kernel
theorem d_PW_all_94 : decode b_PW_all 94 = .ok (.invokevirtual 197, 3) := by decide +kernel
theorem d_PW_all_97 : decode b_PW_all 97 = .ok (.pop, 1) := by decide +kernel
theorem d_PW_all_98 : decode b_PW_all 98 = .ok (.aload_n 0, 1) := by decide +kernel
theorem d_PW_all_99 : decode b_PW_all 99 = .ok (.getfield 42, 3) := by decide +kernel
theorem d_PW_all_102 : decode b_PW_all 102 = .ok (.iconst 1, 1) := by decide +kernel
theorem d_PW_all_103 : decode b_PW_all 103 = .ok (.iaload, 1) := by decide +kernel
theorem d_PW_all_104 : decode b_PW_all 104 = .ok (.istore_n 3, 1) := by decide +kernel
theorem d_PW_all_105 : decode b_PW_all 105 = .ok (.iinc 4 1, 3) := by decide +kernel
theorem d_PW_all_108 : decode b_PW_all 108 = .ok (.goto (-58), 3) := by decide +kernel
theorem d_PW_all_111 : decode b_PW_all 111 = .ok (.aload_n 0, 1) := by decide +kernel
theorem d_PW_all_112 : decode b_PW_all 112 = .ok (.aload_n 2, 1) := by decide +kernel
theorem d_PW_all_113 : decode b_PW_all 113 = .ok (.getfield 152, 3) := by decide +kernel
theorem d_PW_all_116 : decode b_PW_all 116 = .ok (.aload_n 0, 1) := by decide +kernel
theorem d_PW_all_117 : decode b_PW_all 117 = .ok (.getfield 76, 3) := by decide +kernel
theorem d_PW_all_120 : decode b_PW_all 120 = .ok (.getfield 101, 3) := by decide +kernel
theorem d_PW_all_123 : decode b_PW_all 123 = .ok (.iconst 2, 1) := by decide +kernel
theorem d_PW_all_124 : decode b_PW_all 124 = .ok (.idiv, 1) := by decide +kernel
theorem d_PW_all_125 : decode b_PW_all 125 = .ok (.invokevirtual 175, 3) := by decide +kernel
theorem d_PW_all_128 : decode b_PW_all 128 = .ok (.aload_n 0, 1) := by decide +kernel
theorem d_PW_all_129 : decode b_PW_all 129 = .ok (.getfield 76, 3) := by decide +kernel
theorem d_PW_all_132 : decode b_PW_all 132 = .ok (.getfield 101, 3) := by decide +kernel
theorem d_PW_all_135 : decode b_PW_all 135 = .ok (.iconst 2, 1) := by decide +kernel
theorem d_PW_all_136 : decode b_PW_all 136 = .ok (.idiv, 1) := by decide +kernel
theorem d_PW_all_137 : decode b_PW_all 137 = .ok (.ireturn, 1) := by decide +kernel
theorem d_MO_all_0 : decode b_MO_all 0 = .ok (.aload_n 0, 1) := by decide +kernel
theorem d_MO_all_1 : decode b_MO_all 1 = .ok (.aload_n 0, 1) := by decide +kernel
theorem d_MO_all_2 : decode b_MO_all 2 = .ok (.iload_n 1, 1) := by decide +kernel
theorem d_MO_all_3 : decode b_MO_all 3 = .ok (.invokevirtual 507, 3) := by decide +kernel
theorem d_MO_all_6 : decode b_MO_all 6 = .ok (.ifCond .eq 7, 3) := by decide +kernel
theorem d_MO_all_9 : decode b_MO_all 9 = .ok (.iconst 0, 1) := by decide +kernel
theorem d_MO_all_10 : decode b_MO_all 10 = .ok (.goto 4, 3) := by decide +kernel
theorem d_MO_all_13 : decode b_MO_all 13 = .ok (.iconst 1, 1) := by decide +kernel
theorem d_MO_all_14 : decode b_MO_all 14 = .ok (.putfield 220, 3) := by decide +kernel
theorem d_MO_all_17 : decode b_MO_all 17 = .ok (.aload_n 0, 1) := by decide +kernel
theorem d_MO_all_18 : decode b_MO_all 18 = .ok (.getfield 220, 3) := by decide +kernel
theorem d_MO_all_21 : decode b_MO_all 21 = .ok (.ifCond .le 5, 3) := by decide +kernel
theorem d_MO_all_24 : decode b_MO_all 24 = .ok (.iconst 0, 1) := by decide +kernel
theorem d_MO_all_25 : decode b_MO_all 25 = .ok (.ireturn, 1) := by decide +kernel
theorem d_MO_all_26 : decode b_MO_all 26 = .ok (.aload_n 0, 1) := by decide +kernel
theorem d_MO_all_27 : decode b_MO_all 27 = .ok (.iconst 0, 1) := by decide +kernel
theorem d_MO_all_28 : decode b_MO_all 28 = .ok (.putfield 579, 3) := by decide +kernel
theorem d_MO_all_31 : decode b_MO_all 31 = .ok (.aload_n 0, 1) := by decide +kernel
theorem d_MO_all_32 : decode b_MO_all 32 = .ok (.iload_n 1, 1) := by decide +kernel
theorem d_MO_all_33 : decode b_MO_all 33 = .ok (.invokevirtual 582, 3) := by decide +kernel
theorem d_MO_all_36 : decode b_MO_all 36 = .ok (.aload_n 0, 1) := by decide +kernel
theorem d_MO_all_37 : decode b_MO_all 37 = .ok (.iload_n 1, 1) := by decide +kernel
theorem d_MO_all_38 : decode b_MO_all 38 = .ok (.invokevirtual 585, 3) := by decide +kernel
theorem d_MO_all_41 : decode b_MO_all 41 = .ok (.ifCond .eq 52, 3) := by decide +kernel
theorem d_MO_all_44 : decode b_MO_all 44 = .ok (.aload_n 0, 1) := by decide +kernel
theorem d_MO_all_45 : decode b_MO_all 45 = .ok (.getfield 211, 3) := by decide +kernel
theorem d_MO_all_48 : decode b_MO_all 48 = .ok (.iconst 2, 1) := by decide +kernel
theorem d_MO_all_49 : decode b_MO_all 49 = .ok (.aload_n 0, 1) := by decide +kernel
theorem d_MO_all_50 : decode b_MO_all 50 = .ok (.getfield 579, 3) := by decide +kernel
theorem d_MO_all_53 : decode b_MO_all 53 = .ok (.imul, 1) := by decide +kernel
theorem d_MO_all_54 : decode b_MO_all 54 = .ok (.aload_n 0, 1) := by decide +kernel
theorem d_MO_all_55 : decode b_MO_all 55 = .ok (.getfield 190, 3) := by decide +kernel
theorem d_MO_all_58 : decode b_MO_all 58 = .ok (.iconst 0, 1) := by decide +kernel
theorem d_MO_all_59 : decode b_MO_all 59 = .ok (.iaload, 1) := by decide +kernel
theorem d_MO_all_60 : decode b_MO_all 60 = .ok (.iastore, 1) := by decide +kernel
theorem d_MO_all_61 : decode b_MO_all 61 = .ok (.aload_n 0, 1) := by decide +kernel
theorem d_MO_all_62 : decode b_MO_all 62 = .ok (.getfield 211, 3) := by decide +kernel
theorem d_MO_all_65 : decode b_MO_all 65 = .ok (.iconst 2, 1) := by decide +kernel
theorem d_MO_all_66 : decode b_MO_all 66 = .ok (.aload_n 0, 1) := by decide +kernel
theorem d_MO_all_67 : decode b_MO_all 67 = .ok (.getfield 579, 3) := by decide +kernel
theorem d_MO_all_70 : decode b_MO_all 70 = .ok (.imul, 1) := by decide +kernel
theorem d_MO_all_71 : decode b_MO_all 71 = .ok (.iconst 1, 1) := by decide +kernel
theorem d_MO_all_72 : decode b_MO_all 72 = .ok (.iadd, 1) := by decide +kernel
theorem d_MO_all_73 : decode b_MO_all 73 = .ok (.aload_n 0, 1) := by decide +kernel
theorem d_MO_all_74 : decode b_MO_all 74 = .ok (.getfield 190, 3) := by decide +kernel
theorem d_MO_all_77 : decode b_MO_all 77 = .ok (.iconst 1, 1) := by decide +kernel
theorem d_MO_all_78 : decode b_MO_all 78 = .ok (.iaload, 1) := by decide +kernel
