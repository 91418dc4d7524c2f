theorem d_ST_makeEdge_45 : decode b_ST_makeEdge 45 = .ok (.sipush 1024, 3) := by decide +kernel
theorem d_ST_makeEdge_48 : decode b_ST_makeEdge 48 = .ok (.if_icmp .ge 23, 3) := by decide +kernel
theorem d_ST_makeEdge_51 : decode b_ST_makeEdge 51 = .ok (.aload_n 0, 1) := by decide +kernel
theorem d_ST_makeEdge_52 : decode b_ST_makeEdge 52 = .ok (.aload_n 0, 1) := by decide +kernel
theorem d_ST_makeEdge_53 : decode b_ST_makeEdge 53 = .ok (.getfield 22, 3) := by decide +kernel
theorem d_ST_makeEdge_56 : decode b_ST_makeEdge 56 = .ok (.iload_n 3, 1) := by decide +kernel
theorem d_ST_makeEdge_57 : decode b_ST_makeEdge 57 = .ok (.iaload, 1) := by decide +kernel
theorem d_ST_makeEdge_58 : decode b_ST_makeEdge 58 = .ok (.aload_n 0, 1) := by decide +kernel
theorem d_ST_makeEdge_59 : decode b_ST_makeEdge 59 = .ok (.getfield 28, 3) := by decide +kernel
theorem d_ST_makeEdge_62 : decode b_ST_makeEdge 62 = .ok (.iload_n 1, 1) := by decide +kernel
theorem d_ST_makeEdge_63 : decode b_ST_makeEdge 63 = .ok (.iaload, 1) := by decide +kernel
theorem d_ST_makeEdge_64 : decode b_ST_makeEdge 64 = .ok (.iload_n 2, 1) := by decide +kernel
theorem d_ST_makeEdge_65 : decode b_ST_makeEdge 65 = .ok (.invokevirtual 151, 3) := by decide +kernel
theorem d_ST_makeEdge_68 : decode b_ST_makeEdge 68 = .ok (.goto 39, 3) := by decide +kernel
theorem d_ST_makeEdge_71 : decode b_ST_makeEdge 71 = .ok (.aload_n 0, 1) := by decide +kernel
theorem d_ST_makeEdge_72 : decode b_ST_makeEdge 72 = .ok (.iload_n 2, 1) := by decide +kernel
theorem d_ST_makeEdge_73 : decode b_ST_makeEdge 73 = .ok (.iconst 1, 1) := by decide +kernel
theorem d_ST_makeEdge_74 : decode b_ST_makeEdge 74 = .ok (.if_icmp .ne 24, 3) := by decide +kernel
theorem d_ST_makeEdge_77 : decode b_ST_makeEdge 77 = .ok (.aload_n 0, 1) := by decide +kernel
theorem d_ST_makeEdge_78 : decode b_ST_makeEdge 78 = .ok (.getfield 74, 3) := by decide +kernel
theorem d_ST_makeEdge_81 : decode b_ST_makeEdge 81 = .ok (.getfield 155, 3) := by decide +kernel
theorem d_ST_makeEdge_84 : decode b_ST_makeEdge 84 = .ok (.aload_n 0, 1) := by decide +kernel
theorem d_ST_makeEdge_85 : decode b_ST_makeEdge 85 = .ok (.getfield 22, 3) := by decide +kernel
theorem d_ST_makeEdge_88 : decode b_ST_makeEdge 88 = .ok (.iload_n 3, 1) := by decide +kernel
theorem d_ST_makeEdge_89 : decode b_ST_makeEdge 89 = .ok (.iaload, 1) := by decide +kernel
theorem d_ST_makeEdge_90 : decode b_ST_makeEdge 90 = .ok (.sipush 1024, 3) := by decide +kernel
theorem d_ST_makeEdge_93 : decode b_ST_makeEdge 93 = .ok (.isub, 1) := by decide +kernel
theorem d_ST_makeEdge_94 : decode b_ST_makeEdge 94 = .ok (.iaload, 1) := by decide +kernel
theorem d_ST_makeEdge_95 : decode b_ST_makeEdge 95 = .ok (.goto 9, 3) := by decide +kernel
theorem d_ST_makeEdge_98 : decode b_ST_makeEdge 98 = .ok (.aload_n 0, 1) := by decide +kernel
theorem d_ST_makeEdge_99 : decode b_ST_makeEdge 99 = .ok (.getfield 22, 3) := by decide +kernel
theorem d_ST_makeEdge_102 : decode b_ST_makeEdge 102 = .ok (.iload_n 3, 1) := by decide +kernel
theorem d_ST_makeEdge_103 : decode b_ST_makeEdge 103 = .ok (.iaload, 1) := by decide +kernel
theorem d_ST_makeEdge_104 : decode b_ST_makeEdge 104 = .ok (.invokevirtual 132, 3) := by decide +kernel
theorem d_ST_makeEdge_107 : decode b_ST_makeEdge 107 = .ok (.iinc 3 1, 3) := by decide +kernel
theorem d_ST_makeEdge_110 : decode b_ST_makeEdge 110 = .ok (.goto (-83), 3) := by decide +kernel
theorem d_ST_makeEdge_113 : decode b_ST_makeEdge 113 = .ok (.aload_n 0, 1) := by decide +kernel
theorem d_ST_makeEdge_114 : decode b_ST_makeEdge 114 = .ok (.getfield 70, 3) := by decide +kernel
theorem d_ST_makeEdge_117 : decode b_ST_makeEdge 117 = .ok (.ifCond .eq 21, 3) := by decide +kernel
theorem d_ST_makeEdge_120 : decode b_ST_makeEdge 120 = .ok (.aload_n 0, 1) := by decide +kernel
theorem d_ST_makeEdge_121 : decode b_ST_makeEdge 121 = .ok (.aload_n 0, 1) := by decide +kernel
theorem d_ST_makeEdge_122 : decode b_ST_makeEdge 122 = .ok (.getfield 74, 3) := by decide +kernel
theorem d_ST_makeEdge_125 : decode b_ST_makeEdge 125 = .ok (.getfield 129, 3) := by decide +kernel
theorem d_ST_makeEdge_128 : decode b_ST_makeEdge 128 = .ok (.aload_n 0, 1) := by decide +kernel
theorem d_ST_makeEdge_129 : decode b_ST_makeEdge 129 = .ok (.getfield 28, 3) := by decide +kernel
theorem d_ST_makeEdge_132 : decode b_ST_makeEdge 132 = .ok (.iload_n 1, 1) := by decide +kernel
theorem d_ST_makeEdge_133 : decode b_ST_makeEdge 133 = .ok (.iaload, 1) := by decide +kernel
theorem d_ST_makeEdge_134 : decode b_ST_makeEdge 134 = .ok (.iload_n 2, 1) := by decide +kernel
theorem d_ST_makeEdge_135 : decode b_ST_makeEdge 135 = .ok (.invokevirtual 151, 3) := by decide +kernel
theorem d_ST_makeEdge_138 : decode b_ST_makeEdge 138 = .ok (.aload_n 0, 1) := by decide +kernel
theorem d_ST_makeEdge_139 : decode b_ST_makeEdge 139 = .ok (.getfield 40, 3) := by decide +kernel
theorem d_ST_makeEdge_142 : decode b_ST_makeEdge 142 = .ok (.istore_n 3, 1) := by decide +kernel
theorem d_ST_makeEdge_143 : decode b_ST_makeEdge 143 = .ok (.iload_n 2, 1) := by decide +kernel
theorem d_ST_makeEdge_144 : decode b_ST_makeEdge 144 = .ok (.ifCond .ne 7, 3) := by decide +kernel
theorem d_ST_makeEdge_147 : decode b_ST_makeEdge 147 = .ok (.iload_n 1, 1) := by decide +kernel
theorem d_ST_makeEdge_148 : decode b_ST_makeEdge 148 = .ok (.goto 12, 3) := by decide +kernel
theorem d_ST_makeEdge_151 : decode b_ST_makeEdge 151 = .ok (.aload_n 0, 1) := by decide +kernel
theorem d_ST_makeEdge_152 : decode b_ST_makeEdge 152 = .ok (.aload_n 0, 1) := by decide +kernel
theorem d_ST_makeEdge_153 : decode b_ST_makeEdge 153 = .ok (.iload_n 2, 1) := by decide +kernel
theorem d_ST_makeEdge_154 : decode b_ST_makeEdge 154 = .ok (.invokevirtual 158, 3) := by decide +kernel
theorem d_ST_makeEdge_157 : decode b_ST_makeEdge 157 = .ok (.invokevirtual 145, 3) := by decide +kernel
theorem d_ST_makeEdge_160 : decode b_ST_makeEdge 160 = .ok (.istore 4, 2) := by decide +kernel
theorem d_ST_makeEdge_162 : decode b_ST_makeEdge 162 = .ok (.iconst 2, 1) := by decide +kernel
theorem d_ST_makeEdge_163 : decode b_ST_makeEdge 163 = .ok (.iload 4, 2) := by decide +kernel
theorem d_ST_makeEdge_165 : decode b_ST_makeEdge 165 = .ok (.iconst 1, 1) := by decide +kernel
theorem d_ST_makeEdge_166 : decode b_ST_makeEdge 166 = .ok (.iadd, 1) := by decide +kernel
theorem d_ST_makeEdge_167 : decode b_ST_makeEdge 167 = .ok (.imul, 1) := by decide +kernel
theorem d_ST_makeEdge_168 : decode b_ST_makeEdge 168 = .ok (.aload_n 0, 1) := by decide +kernel
theorem d_ST_makeEdge_169 : decode b_ST_makeEdge 169 = .ok (.getfield 148, 3) := by decide +kernel
theorem d_ST_makeEdge_172 : decode b_ST_makeEdge 172 = .ok (.ifCond .eq 7, 3) := by decide +kernel
theorem d_ST_makeEdge_175 : decode b_ST_makeEdge 175 = .ok (.iconst 1, 1) := by decide +kernel
theorem d_ST_makeEdge_176 : decode b_ST_makeEdge 176 = .ok (.goto 4, 3) := by decide +kernel
theorem d_ST_makeEdge_179 : decode b_ST_makeEdge 179 = .ok (.iconst 0, 1) := by decide +kernel
theorem d_ST_makeEdge_180 : decode b_ST_makeEdge 180 = .ok (.iadd, 1) := by decide +kernel
theorem d_ST_makeEdge_181 : decode b_ST_makeEdge 181 = .ok (.istore 5, 2) := by decide +kernel
theorem d_ST_makeEdge_183 : decode b_ST_makeEdge 183 = .ok (.aload_n 0, 1) := by decide +kernel
theorem d_ST_makeEdge_184 : decode b_ST_makeEdge 184 = .ok (.getfield 40, 3) := by decide +kernel
theorem d_ST_makeEdge_187 : decode b_ST_makeEdge 187 = .ok (.iload_n 3, 1) := by decide +kernel
theorem d_ST_makeEdge_188 : decode b_ST_makeEdge 188 = .ok (.if_icmp .lt 20, 3) := by decide +kernel
theorem d_ST_makeEdge_191 : decode b_ST_makeEdge 191 = .ok (.aload_n 0, 1) := by decide +kernel
theorem d_ST_makeEdge_192 : decode b_ST_makeEdge 192 = .ok (.getfield 19, 3) := by decide +kernel
theorem d_ST_makeEdge_195 : decode b_ST_makeEdge 195 = .ok (.iload_n 1, 1) := by decide +kernel
theorem d_ST_makeEdge_196 : decode b_ST_makeEdge 196 = .ok (.aload_n 0, 1) := by decide +kernel
theorem d_ST_makeEdge_197 : decode b_ST_makeEdge 197 = .ok (.getfield 63, 3) := by decide +kernel
theorem d_ST_makeEdge_200 : decode b_ST_makeEdge 200 = .ok (.iconst 5, 1) := by decide +kernel
theorem d_ST_makeEdge_201 : decode b_ST_makeEdge 201 = .ok (.iadd, 1) := by decide +kernel
theorem d_ST_makeEdge_202 : decode b_ST_makeEdge 202 = .ok (.imul, 1) := by decide +kernel
theorem d_ST_makeEdge_203 : decode b_ST_makeEdge 203 = .ok (.iload_n 2, 1) := by decide +kernel
theorem d_ST_makeEdge_204 : decode b_ST_makeEdge 204 = .ok (.iadd, 1) := by decide +kernel
theorem d_ST_makeEdge_205 : decode b_ST_makeEdge 205 = .ok (.iload 5, 2) := by decide +kernel
theorem d_ST_makeEdge_207 : decode b_ST_makeEdge 207 = .ok (.iastore, 1) := by decide +kernel
theorem d_ST_makeEdge_208 : decode b_ST_makeEdge 208 = .ok (.iload 5, 2) := by decide +kernel
theorem d_ST_makeEdge_210 : decode b_ST_makeEdge 210 = .ok (.ireturn, 1) := by decide +kernel
theorem d_ST_prepare_0 : decode b_ST_prepare 0 = .ok (.aload_n 0, 1) := by decide +kernel
theorem d_ST_prepare_1 : decode b_ST_prepare 1 = .ok (.aload_n 1, 1) := by decide +kernel
theorem d_ST_prepare_2 : decode b_ST_prepare 2 = .ok (.putfield 74, 3) := by decide +kernel
theorem d_ST_prepare_5 : decode b_ST_prepare 5 = .ok (.aload_n 0, 1) := by decide +kernel
theorem d_ST_prepare_6 : decode b_ST_prepare 6 = .ok (.getfield 78, 3) := by decide +kernel
theorem d_ST_prepare_9 : decode b_ST_prepare 9 = .ok (.aload_n 1, 1) := by decide +kernel
theorem d_ST_prepare_10 : decode b_ST_prepare 10 = .ok (.getfield 81, 3) := by decide +kernel
theorem d_ST_prepare_13 : decode b_ST_prepare 13 = .ok (.if_icmp .eq 20, 3) := by decide +kernel
theorem d_ST_prepare_16 : decode b_ST_prepare 16 = .ok (.aload_n 0, 1) := by decide +kernel
theorem d_ST_prepare_17 : decode b_ST_prepare 17 = .ok (.aload_n 1, 1) := by decide +kernel
theorem d_ST_prepare_18 : decode b_ST_prepare 18 = .ok (.getfield 81, 3) := by decide +kernel
theorem d_ST_prepare_21 : decode b_ST_prepare 21 = .ok (.putfield 78, 3) := by decide +kernel
theorem d_ST_prepare_24 : decode b_ST_prepare 24 = .ok (.aload_n 0, 1) := by decide +kernel
theorem d_ST_prepare_25 : decode b_ST_prepare 25 = .ok (.invokevirtual 84, 3) := by decide +kernel
theorem d_ST_prepare_28 : decode b_ST_prepare 28 = .ok (.aload_n 0, 1) := by decide +kernel
theorem d_ST_prepare_29 : decode b_ST_prepare 29 = .ok (.iconst 0, 1) := by decide +kernel
theorem d_ST_prepare_30 : decode b_ST_prepare 30 = .ok (.putfield 40, 3) := by decide +kernel
theorem d_ST_prepare_33 : decode b_ST_prepare 33 = .ok (.aload_n 0, 1) := by decide +kernel
theorem d_ST_prepare_34 : decode b_ST_prepare 34 = .ok (.getfield 63, 3) := by decide +kernel
theorem d_ST_prepare_37 : decode b_ST_prepare 37 = .ok (.bipush 120, 2) := by decide +kernel
theorem d_ST_prepare_39 : decode b_ST_prepare 39 = .ok (.if_icmp .le 5, 3) := by decide +kernel
theorem d_ST_prepare_42 : decode b_ST_prepare 42 = .ok (.iconst 0, 1) := by decide +kernel
theorem d_ST_prepare_43 : decode b_ST_prepare 43 = .ok (.ireturn, 1) := by decide +kernel
theorem d_ST_prepare_44 : decode b_ST_prepare 44 = .ok (.aload_n 0, 1) := by decide +kernel
theorem d_ST_prepare_45 : decode b_ST_prepare 45 = .ok (.getfield 70, 3) := by decide +kernel
theorem d_ST_prepare_48 : decode b_ST_prepare 48 = .ok (.iload_n 2, 1) := by decide +kernel
theorem d_ST_prepare_49 : decode b_ST_prepare 49 = .ok (.if_icmp .eq 13, 3) := by decide +kernel
theorem d_ST_prepare_52 : decode b_ST_prepare 52 = .ok (.aload_n 0, 1) := by decide +kernel
theorem d_ST_prepare_53 : decode b_ST_prepare 53 = .ok (.iload_n 2, 1) := by decide +kernel
theorem d_ST_prepare_54 : decode b_ST_prepare 54 = .ok (.putfield 70, 3) := by decide +kernel
theorem d_ST_prepare_57 : decode b_ST_prepare 57 = .ok (.aload_n 0, 1) := by decide +kernel
theorem d_ST_prepare_58 : decode b_ST_prepare 58 = .ok (.iconst 0, 1) := by decide +kernel
theorem d_ST_prepare_59 : decode b_ST_prepare 59 = .ok (.putfield 40, 3) := by decide +kernel
theorem d_ST_prepare_62 : decode b_ST_prepare 62 = .ok (.iconst 1, 1) := by decide +kernel
theorem d_ST_prepare_63 : decode b_ST_prepare 63 = .ok (.ireturn, 1) := by decide +kernel
theorem d_ST_signAt_0 : decode b_ST_signAt 0 = .ok (.iload_n 2, 1) := by decide +kernel
theorem d_ST_signAt_1 : decode b_ST_signAt 1 = .ok (.aload_n 1, 1) := by decide +kernel
theorem d_ST_signAt_2 : decode b_ST_signAt 2 = .ok (.getfield 51, 3) := by decide +kernel
theorem d_ST_signAt_5 : decode b_ST_signAt 5 = .ok (.if_icmp .lt 5, 3) := by decide +kernel
theorem d_ST_signAt_8 : decode b_ST_signAt 8 = .ok (.iconst 0, 1) := by decide +kernel
theorem d_ST_signAt_9 : decode b_ST_signAt 9 = .ok (.ireturn, 1) := by decide +kernel
theorem d_ST_signAt_10 : decode b_ST_signAt 10 = .ok (.aload_n 1, 1) := by decide +kernel
theorem d_ST_signAt_11 : decode b_ST_signAt 11 = .ok (.getfield 117, 3) := by decide +kernel
theorem d_ST_signAt_14 : decode b_ST_signAt 14 = .ok (.iload_n 2, 1) := by decide +kernel
theorem d_ST_signAt_15 : decode b_ST_signAt 15 = .ok (.iaload, 1) := by decide +kernel
theorem d_ST_signAt_16 : decode b_ST_signAt 16 = .ok (.istore_n 3, 1) := by decide +kernel
theorem d_ST_signAt_17 : decode b_ST_signAt 17 = .ok (.iload_n 3, 1) := by decide +kernel
theorem d_ST_signAt_18 : decode b_ST_signAt 18 = .ok (.iconst (-1), 1) := by decide +kernel
theorem d_ST_signAt_19 : decode b_ST_signAt 19 = .ok (.if_icmp .eq 11, 3) := by decide +kernel
theorem d_ST_signAt_22 : decode b_ST_signAt 22 = .ok (.iconst 5, 1) := by decide +kernel
theorem d_ST_signAt_23 : decode b_ST_signAt 23 = .ok (.aload_n 0, 1) := by decide +kernel
theorem d_ST_signAt_24 : decode b_ST_signAt 24 = .ok (.iload_n 3, 1) := by decide +kernel
theorem d_ST_signAt_25 : decode b_ST_signAt 25 = .ok (.invokevirtual 107, 3) := by decide +kernel
theorem d_ST_signAt_28 : decode b_ST_signAt 28 = .ok (.iadd, 1) := by decide +kernel
theorem d_ST_signAt_29 : decode b_ST_signAt 29 = .ok (.ireturn, 1) := by decide +kernel
theorem d_ST_signAt_30 : decode b_ST_signAt 30 = .ok (.aload_n 1, 1) := by decide +kernel
theorem d_ST_signAt_31 : decode b_ST_signAt 31 = .ok (.getfield 120, 3) := by decide +kernel
theorem d_ST_signAt_34 : decode b_ST_signAt 34 = .ok (.iload_n 2, 1) := by decide +kernel
theorem d_ST_signAt_35 : decode b_ST_signAt 35 = .ok (.iaload, 1) := by decide +kernel
theorem d_ST_signAt_36 : decode b_ST_signAt 36 = .ok (.ifCond .le 12, 3) := by decide +kernel
theorem d_ST_signAt_39 : decode b_ST_signAt 39 = .ok (.aload_n 1, 1) := by decide +kernel
theorem d_ST_signAt_40 : decode b_ST_signAt 40 = .ok (.getfield 120, 3) := by decide +kernel
theorem d_ST_signAt_43 : decode b_ST_signAt 43 = .ok (.iload_n 2, 1) := by decide +kernel
theorem d_ST_signAt_44 : decode b_ST_signAt 44 = .ok (.iaload, 1) := by decide +kernel
theorem d_ST_signAt_45 : decode b_ST_signAt 45 = .ok (.goto 4, 3) := by decide +kernel
theorem d_ST_signAt_48 : decode b_ST_signAt 48 = .ok (.iconst 4, 1) := by decide +kernel
theorem d_ST_signAt_49 : decode b_ST_signAt 49 = .ok (.ireturn, 1) := by decide +kernel
theorem d_ST_takeSign_0 : decode b_ST_takeSign 0 = .ok (.aload_n 0, 1) := by decide +kernel
theorem d_ST_takeSign_1 : decode b_ST_takeSign 1 = .ok (.getfield 74, 3) := by decide +kernel
theorem d_ST_takeSign_4 : decode b_ST_takeSign 4 = .ok (.getfield 95, 3) := by decide +kernel
theorem d_ST_takeSign_7 : decode b_ST_takeSign 7 = .ok (.iload_n 1, 1) := by decide +kernel
theorem d_ST_takeSign_8 : decode b_ST_takeSign 8 = .ok (.iaload, 1) := by decide +kernel
theorem d_ST_takeSign_9 : decode b_ST_takeSign 9 = .ok (.iconst 2, 1) := by decide +kernel
theorem d_ST_takeSign_10 : decode b_ST_takeSign 10 = .ok (.if_icmp .ne 21, 3) := by decide +kernel
theorem d_ST_takeSign_13 : decode b_ST_takeSign 13 = .ok (.iload_n 2, 1) := by decide +kernel
theorem d_ST_takeSign_14 : decode b_ST_takeSign 14 = .ok (.ifCond .eq 16, 3) := by decide +kernel
theorem d_ST_takeSign_17 : decode b_ST_takeSign 17 = .ok (.aload_n 0, 1) := by decide +kernel
theorem d_ST_takeSign_18 : decode b_ST_takeSign 18 = .ok (.aload_n 0, 1) := by decide +kernel
theorem d_ST_takeSign_19 : decode b_ST_takeSign 19 = .ok (.getfield 74, 3) := by decide +kernel
theorem d_ST_takeSign_22 : decode b_ST_takeSign 22 = .ok (.getfield 155, 3) := by decide +kernel
theorem d_ST_takeSign_25 : decode b_ST_takeSign 25 = .ok (.iload_n 1, 1) := by decide +kernel
theorem d_ST_takeSign_26 : decode b_ST_takeSign 26 = .ok (.iaload, 1) := by decide +kernel
theorem d_ST_takeSign_27 : decode b_ST_takeSign 27 = .ok (.invokevirtual 132, 3) := by decide +kernel
theorem d_ST_takeSign_30 : decode b_ST_takeSign 30 = .ok (.return_, 1) := by decide +kernel
theorem d_ST_takeSign_31 : decode b_ST_takeSign 31 = .ok (.iload_n 2, 1) := by decide +kernel
theorem d_ST_takeSign_32 : decode b_ST_takeSign 32 = .ok (.iconst 5, 1) := by decide +kernel
theorem d_ST_takeSign_33 : decode b_ST_takeSign 33 = .ok (.if_icmp .ge 7, 3) := by decide +kernel
theorem d_ST_takeSign_36 : decode b_ST_takeSign 36 = .ok (.iconst (-1), 1) := by decide +kernel
theorem d_ST_takeSign_37 : decode b_ST_takeSign 37 = .ok (.goto 11, 3) := by decide +kernel
theorem d_ST_takeSign_40 : decode b_ST_takeSign 40 = .ok (.aload_n 0, 1) := by decide +kernel
theorem d_ST_takeSign_41 : decode b_ST_takeSign 41 = .ok (.getfield 15, 3) := by decide +kernel
theorem d_ST_takeSign_44 : decode b_ST_takeSign 44 = .ok (.iload_n 2, 1) := by decide +kernel
theorem d_ST_takeSign_45 : decode b_ST_takeSign 45 = .ok (.iconst 5, 1) := by decide +kernel
theorem d_ST_takeSign_46 : decode b_ST_takeSign 46 = .ok (.isub, 1) := by decide +kernel
theorem d_ST_takeSign_47 : decode b_ST_takeSign 47 = .ok (.iaload, 1) := by decide +kernel
theorem d_ST_takeSign_48 : decode b_ST_takeSign 48 = .ok (.istore_n 3, 1) := by decide +kernel
theorem d_ST_takeSign_49 : decode b_ST_takeSign 49 = .ok (.iload_n 3, 1) := by decide +kernel
theorem d_ST_takeSign_50 : decode b_ST_takeSign 50 = .ok (.iconst (-1), 1) := by decide +kernel
theorem d_ST_takeSign_51 : decode b_ST_takeSign 51 = .ok (.if_icmp .eq 43, 3) := by decide +kernel
theorem d_ST_takeSign_54 : decode b_ST_takeSign 54 = .ok (.aload_n 0, 1) := by decide +kernel
theorem d_ST_takeSign_55 : decode b_ST_takeSign 55 = .ok (.getfield 74, 3) := by decide +kernel
theorem d_ST_takeSign_58 : decode b_ST_takeSign 58 = .ok (.iload_n 1, 1) := by decide +kernel
theorem d_ST_takeSign_59 : decode b_ST_takeSign 59 = .ok (.iload_n 3, 1) := by decide +kernel
theorem d_ST_takeSign_60 : decode b_ST_takeSign 60 = .ok (.invokevirtual 172, 3) := by decide +kernel
theorem d_ST_takeSign_63 : decode b_ST_takeSign 63 = .ok (.ifCond .eq 31, 3) := by decide +kernel
theorem d_ST_takeSign_66 : decode b_ST_takeSign 66 = .ok (.aload_n 0, 1) := by decide +kernel
theorem d_ST_takeSign_67 : decode b_ST_takeSign 67 = .ok (.iload_n 3, 1) := by decide +kernel
theorem d_ST_takeSign_68 : decode b_ST_takeSign 68 = .ok (.sipush 128, 3) := by decide +kernel
theorem d_ST_takeSign_71 : decode b_ST_takeSign 71 = .ok (.if_icmp .ge 15, 3) := by decide +kernel
theorem d_ST_takeSign_74 : decode b_ST_takeSign 74 = .ok (.aload_n 0, 1) := by decide +kernel
theorem d_ST_takeSign_75 : decode b_ST_takeSign 75 = .ok (.getfield 74, 3) := by decide +kernel
theorem d_ST_takeSign_78 : decode b_ST_takeSign 78 = .ok (.getfield 155, 3) := by decide +kernel
theorem d_ST_takeSign_81 : decode b_ST_takeSign 81 = .ok (.iload_n 1, 1) := by decide +kernel
theorem d_ST_takeSign_82 : decode b_ST_takeSign 82 = .ok (.iaload, 1) := by decide +kernel
theorem d_ST_takeSign_83 : decode b_ST_takeSign 83 = .ok (.goto 8, 3) := by decide +kernel
theorem d_ST_takeSign_86 : decode b_ST_takeSign 86 = .ok (.iload_n 1, 1) := by decide +kernel
theorem d_ST_takeSign_87 : decode b_ST_takeSign 87 = .ok (.sipush 1024, 3) := by decide +kernel
theorem d_ST_takeSign_90 : decode b_ST_takeSign 90 = .ok (.iadd, 1) := by decide +kernel
theorem d_ST_takeSign_91 : decode b_ST_takeSign 91 = .ok (.invokevirtual 132, 3) := by decide +kernel
theorem d_ST_takeSign_94 : decode b_ST_takeSign 94 = .ok (.return_, 1) := by decide +kernel
theorem d_ST_tell_0 : decode b_ST_tell 0 = .ok (.aload_n 0, 1) := by decide +kernel
theorem d_ST_tell_1 : decode b_ST_tell 1 = .ok (.aload_n 1, 1) := by decide +kernel
theorem d_ST_tell_2 : decode b_ST_tell 2 = .ok (.iload_n 3, 1) := by decide +kernel
theorem d_ST_tell_3 : decode b_ST_tell 3 = .ok (.ifCond .ne 7, 3) := by decide +kernel
theorem d_ST_tell_6 : decode b_ST_tell 6 = .ok (.iconst 1, 1) := by decide +kernel
theorem d_ST_tell_7 : decode b_ST_tell 7 = .ok (.goto 4, 3) := by decide +kernel
theorem d_ST_tell_10 : decode b_ST_tell 10 = .ok (.iconst 0, 1) := by decide +kernel
theorem d_ST_tell_11 : decode b_ST_tell 11 = .ok (.invokevirtual 43, 3) := by decide +kernel
theorem d_ST_tell_14 : decode b_ST_tell 14 = .ok (.ifCond .ne 6, 3) := by decide +kernel
theorem d_ST_tell_17 : decode b_ST_tell 17 = .ok (.bipush (-2), 2) := by decide +kernel
theorem d_ST_tell_19 : decode b_ST_tell 19 = .ok (.ireturn, 1) := by decide +kernel
theorem d_ST_tell_20 : decode b_ST_tell 20 = .ok (.aload_n 0, 1) := by decide +kernel
theorem d_ST_tell_21 : decode b_ST_tell 21 = .ok (.aload_n 2, 1) := by decide +kernel
theorem d_ST_tell_22 : decode b_ST_tell 22 = .ok (.iload 4, 2) := by decide +kernel
theorem d_ST_tell_24 : decode b_ST_tell 24 = .ok (.invokevirtual 47, 3) := by decide +kernel
theorem d_ST_tell_27 : decode b_ST_tell 27 = .ok (.istore 5, 2) := by decide +kernel
theorem d_ST_tell_29 : decode b_ST_tell 29 = .ok (.iload 4, 2) := by decide +kernel
theorem d_ST_tell_31 : decode b_ST_tell 31 = .ok (.istore 6, 2) := by decide +kernel
theorem d_ST_tell_33 : decode b_ST_tell 33 = .ok (.iload 6, 2) := by decide +kernel
theorem d_ST_tell_35 : decode b_ST_tell 35 = .ok (.aload_n 2, 1) := by decide +kernel
theorem d_ST_tell_36 : decode b_ST_tell 36 = .ok (.getfield 51, 3) := by decide +kernel
theorem d_ST_tell_39 : decode b_ST_tell 39 = .ok (.if_icmp .gt 117, 3) := by decide +kernel
theorem d_ST_tell_42 : decode b_ST_tell 42 = .ok (.aload_n 0, 1) := by decide +kernel
theorem d_ST_tell_43 : decode b_ST_tell 43 = .ok (.dup, 1) := by decide +kernel
theorem d_ST_tell_44 : decode b_ST_tell 44 = .ok (.getfield 56, 3) := by decide +kernel
theorem d_ST_tell_47 : decode b_ST_tell 47 = .ok (.lconst 1, 1) := by decide +kernel
theorem d_ST_tell_48 : decode b_ST_tell 48 = .ok (.ladd, 1) := by decide +kernel
theorem d_ST_tell_49 : decode b_ST_tell 49 = .ok (.putfield 56, 3) := by decide +kernel
theorem d_ST_tell_52 : decode b_ST_tell 52 = .ok (.aload_n 0, 1) := by decide +kernel
theorem d_ST_tell_53 : decode b_ST_tell 53 = .ok (.aload_n 2, 1) := by decide +kernel
theorem d_ST_tell_54 : decode b_ST_tell 54 = .ok (.iload 6, 2) := by decide +kernel
theorem d_ST_tell_56 : decode b_ST_tell 56 = .ok (.invokevirtual 60, 3) := by decide +kernel
theorem d_ST_tell_59 : decode b_ST_tell 59 = .ok (.istore 7, 2) := by decide +kernel
theorem d_ST_tell_61 : decode b_ST_tell 61 = .ok (.aload_n 0, 1) := by decide +kernel
theorem d_ST_tell_62 : decode b_ST_tell 62 = .ok (.getfield 19, 3) := by decide +kernel
theorem d_ST_tell_65 : decode b_ST_tell 65 = .ok (.iload 5, 2) := by decide +kernel
theorem d_ST_tell_67 : decode b_ST_tell 67 = .ok (.aload_n 0, 1) := by decide +kernel
theorem d_ST_tell_68 : decode b_ST_tell 68 = .ok (.getfield 63, 3) := by decide +kernel
theorem d_ST_tell_71 : decode b_ST_tell 71 = .ok (.iconst 5, 1) := by decide +kernel
theorem d_ST_tell_72 : decode b_ST_tell 72 = .ok (.iadd, 1) := by decide +kernel
theorem d_ST_tell_73 : decode b_ST_tell 73 = .ok (.imul, 1) := by decide +kernel
theorem d_ST_tell_74 : decode b_ST_tell 74 = .ok (.iload 7, 2) := by decide +kernel
theorem d_ST_tell_76 : decode b_ST_tell 76 = .ok (.iadd, 1) := by decide +kernel
theorem d_ST_tell_77 : decode b_ST_tell 77 = .ok (.iaload, 1) := by decide +kernel
theorem d_ST_tell_78 : decode b_ST_tell 78 = .ok (.istore 8, 2) := by decide +kernel
theorem d_ST_tell_80 : decode b_ST_tell 80 = .ok (.iload 8, 2) := by decide +kernel
theorem d_ST_tell_82 : decode b_ST_tell 82 = .ok (.ifCond .ne 13, 3) := by decide +kernel
theorem d_ST_tell_85 : decode b_ST_tell 85 = .ok (.aload_n 0, 1) := by decide +kernel
theorem d_ST_tell_86 : decode b_ST_tell 86 = .ok (.iload 5, 2) := by decide +kernel
theorem d_ST_tell_88 : decode b_ST_tell 88 = .ok (.iload 7, 2) := by decide +kernel
theorem d_ST_tell_90 : decode b_ST_tell 90 = .ok (.invokevirtual 66, 3) := by decide +kernel
theorem d_ST_tell_93 : decode b_ST_tell 93 = .ok (.istore 8, 2) := by decide +kernel
theorem d_ST_tell_95 : decode b_ST_tell 95 = .ok (.iload 8, 2) := by decide +kernel
theorem d_ST_tell_97 : decode b_ST_tell 97 = .ok (.iconst 1, 1) := by decide +kernel
theorem d_ST_tell_98 : decode b_ST_tell 98 = .ok (.iand, 1) := by decide +kernel
theorem d_ST_tell_99 : decode b_ST_tell 99 = .ok (.ifCond .eq 15, 3) := by decide +kernel
theorem d_ST_tell_102 : decode b_ST_tell 102 = .ok (.iload_n 3, 1) := by decide +kernel
theorem d_ST_tell_103 : decode b_ST_tell 103 = .ok (.iconst 2, 1) := by decide +kernel
theorem d_ST_tell_104 : decode b_ST_tell 104 = .ok (.if_icmp .ne 8, 3) := by decide +kernel
theorem d_ST_tell_107 : decode b_ST_tell 107 = .ok (.iload 7, 2) := by decide +kernel
theorem d_ST_tell_109 : decode b_ST_tell 109 = .ok (.ifCond .ne 5, 3) := by decide +kernel
theorem d_ST_tell_112 : decode b_ST_tell 112 = .ok (.iconst 1, 1) := by decide +kernel
theorem d_ST_tell_113 : decode b_ST_tell 113 = .ok (.ireturn, 1) := by decide +kernel
theorem d_ST_tell_114 : decode b_ST_tell 114 = .ok (.iload 8, 2) := by decide +kernel
theorem d_ST_tell_116 : decode b_ST_tell 116 = .ok (.iconst 1, 1) := by decide +kernel
theorem d_ST_tell_117 : decode b_ST_tell 117 = .ok (.ishr, 1) := by decide +kernel
theorem d_ST_tell_118 : decode b_ST_tell 118 = .ok (.iconst 1, 1) := by decide +kernel
theorem d_ST_tell_119 : decode b_ST_tell 119 = .ok (.isub, 1) := by decide +kernel
theorem d_ST_tell_120 : decode b_ST_tell 120 = .ok (.istore 5, 2) := by decide +kernel
theorem d_ST_tell_122 : decode b_ST_tell 122 = .ok (.aload_n 0, 1) := by decide +kernel
theorem d_ST_tell_123 : decode b_ST_tell 123 = .ok (.getfield 70, 3) := by decide +kernel
theorem d_ST_tell_126 : decode b_ST_tell 126 = .ok (.ifCond .ne 24, 3) := by decide +kernel
theorem d_ST_tell_129 : decode b_ST_tell 129 = .ok (.aload_n 0, 1) := by decide +kernel
theorem d_ST_tell_130 : decode b_ST_tell 130 = .ok (.getfield 25, 3) := by decide +kernel
theorem d_ST_tell_133 : decode b_ST_tell 133 = .ok (.iload 5, 2) := by decide +kernel
theorem d_ST_tell_135 : decode b_ST_tell 135 = .ok (.iaload, 1) := by decide +kernel
theorem d_ST_tell_136 : decode b_ST_tell 136 = .ok (.aload_n 0, 1) := by decide +kernel
theorem d_ST_tell_137 : decode b_ST_tell 137 = .ok (.getfield 25, 3) := by decide +kernel
theorem d_ST_tell_140 : decode b_ST_tell 140 = .ok (.iload 5, 2) := by decide +kernel
theorem d_ST_tell_142 : decode b_ST_tell 142 = .ok (.iconst 1, 1) := by decide +kernel
theorem d_ST_tell_143 : decode b_ST_tell 143 = .ok (.iadd, 1) := by decide +kernel
theorem d_ST_tell_144 : decode b_ST_tell 144 = .ok (.iaload, 1) := by decide +kernel
theorem d_ST_tell_145 : decode b_ST_tell 145 = .ok (.if_icmp .ne 5, 3) := by decide +kernel
theorem d_ST_tell_148 : decode b_ST_tell 148 = .ok (.iconst 0, 1) := by decide +kernel
theorem d_ST_tell_149 : decode b_ST_tell 149 = .ok (.ireturn, 1) := by decide +kernel
theorem d_ST_tell_150 : decode b_ST_tell 150 = .ok (.iinc 6 1, 3) := by decide +kernel
theorem d_ST_tell_153 : decode b_ST_tell 153 = .ok (.goto (-120), 3) := by decide +kernel
theorem d_ST_tell_156 : decode b_ST_tell 156 = .ok (.iconst 0, 1) := by decide +kernel
theorem d_ST_tell_157 : decode b_ST_tell 157 = .ok (.ireturn, 1) := by decide +kernel
