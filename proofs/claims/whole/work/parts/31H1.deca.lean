theorem d_PA_closeRows_0 : decode b_PA_closeRows 0 = .ok (.aload_n 0, 1) := by decide +kernel
theorem d_PA_closeRows_1 : decode b_PA_closeRows 1 = .ok (.getfield 31, 3) := by decide +kernel
theorem d_PA_closeRows_4 : decode b_PA_closeRows 4 = .ok (.astore_n 1, 1) := by decide +kernel
theorem d_PA_closeRows_5 : decode b_PA_closeRows 5 = .ok (.aload_n 1, 1) := by decide +kernel
theorem d_PA_closeRows_6 : decode b_PA_closeRows 6 = .ok (.ifnull 57, 3) := by decide +kernel
theorem d_PA_closeRows_9 : decode b_PA_closeRows 9 = .ok (.aload_n 1, 1) := by decide +kernel
theorem d_PA_closeRows_10 : decode b_PA_closeRows 10 = .ok (.getfield 35, 3) := by decide +kernel
theorem d_PA_closeRows_13 : decode b_PA_closeRows 13 = .ok (.ifnonnull 7, 3) := by decide +kernel
theorem d_PA_closeRows_16 : decode b_PA_closeRows 16 = .ok (.iconst 0, 1) := by decide +kernel
theorem d_PA_closeRows_17 : decode b_PA_closeRows 17 = .ok (.goto 4, 3) := by decide +kernel
theorem d_PA_closeRows_20 : decode b_PA_closeRows 20 = .ok (.iconst 1, 1) := by decide +kernel
theorem d_PA_closeRows_21 : decode b_PA_closeRows 21 = .ok (.istore_n 2, 1) := by decide +kernel
theorem d_PA_closeRows_22 : decode b_PA_closeRows 22 = .ok (.aload_n 0, 1) := by decide +kernel
theorem d_PA_closeRows_23 : decode b_PA_closeRows 23 = .ok (.ldc 42, 2) := by decide +kernel
theorem d_PA_closeRows_25 : decode b_PA_closeRows 25 = .ok (.aload_n 0, 1) := by decide +kernel
theorem d_PA_closeRows_26 : decode b_PA_closeRows 26 = .ok (.getfield 24, 3) := by decide +kernel
theorem d_PA_closeRows_29 : decode b_PA_closeRows 29 = .ok (.aload_n 1, 1) := by decide +kernel
theorem d_PA_closeRows_30 : decode b_PA_closeRows 30 = .ok (.getfield 24, 3) := by decide +kernel
theorem d_PA_closeRows_33 : decode b_PA_closeRows 33 = .ok (.iadd, 1) := by decide +kernel
theorem d_PA_closeRows_34 : decode b_PA_closeRows 34 = .ok (.iload_n 2, 1) := by decide +kernel
theorem d_PA_closeRows_35 : decode b_PA_closeRows 35 = .ok (.iadd, 1) := by decide +kernel
theorem d_PA_closeRows_36 : decode b_PA_closeRows 36 = .ok (.invokestatic 43, 3) := by decide +kernel
theorem d_PA_closeRows_39 : decode b_PA_closeRows 39 = .ok (.putfield 24, 3) := by decide +kernel
theorem d_PA_closeRows_42 : decode b_PA_closeRows 42 = .ok (.aload_n 0, 1) := by decide +kernel
theorem d_PA_closeRows_43 : decode b_PA_closeRows 43 = .ok (.dup, 1) := by decide +kernel
theorem d_PA_closeRows_44 : decode b_PA_closeRows 44 = .ok (.getfield 27, 3) := by decide +kernel
theorem d_PA_closeRows_47 : decode b_PA_closeRows 47 = .ok (.aload_n 1, 1) := by decide +kernel
theorem d_PA_closeRows_48 : decode b_PA_closeRows 48 = .ok (.getfield 27, 3) := by decide +kernel
theorem d_PA_closeRows_51 : decode b_PA_closeRows 51 = .ok (.ior, 1) := by decide +kernel
theorem d_PA_closeRows_52 : decode b_PA_closeRows 52 = .ok (.putfield 27, 3) := by decide +kernel
theorem d_PA_closeRows_55 : decode b_PA_closeRows 55 = .ok (.aload_n 1, 1) := by decide +kernel
theorem d_PA_closeRows_56 : decode b_PA_closeRows 56 = .ok (.getfield 35, 3) := by decide +kernel
theorem d_PA_closeRows_59 : decode b_PA_closeRows 59 = .ok (.astore_n 1, 1) := by decide +kernel
theorem d_PA_closeRows_60 : decode b_PA_closeRows 60 = .ok (.goto (-55), 3) := by decide +kernel
theorem d_PA_closeRows_63 : decode b_PA_closeRows 63 = .ok (.return_, 1) := by decide +kernel
theorem d_RD_append_0 : decode b_RD_append 0 = .ok (.aload_n 0, 1) := by decide +kernel
theorem d_RD_append_1 : decode b_RD_append 1 = .ok (.invokevirtual 119, 3) := by decide +kernel
theorem d_RD_append_4 : decode b_RD_append 4 = .ok (.ifCond .eq 181, 3) := by decide +kernel
theorem d_RD_append_7 : decode b_RD_append 7 = .ok (.aload_n 0, 1) := by decide +kernel
theorem d_RD_append_8 : decode b_RD_append 8 = .ok (.getfield 12, 3) := by decide +kernel
theorem d_RD_append_11 : decode b_RD_append 11 = .ok (.getfield 55, 3) := by decide +kernel
theorem d_RD_append_14 : decode b_RD_append 14 = .ok (.istore_n 2, 1) := by decide +kernel
theorem d_RD_append_15 : decode b_RD_append 15 = .ok (.aload_n 0, 1) := by decide +kernel
theorem d_RD_append_16 : decode b_RD_append 16 = .ok (.getfield 12, 3) := by decide +kernel
theorem d_RD_append_19 : decode b_RD_append 19 = .ok (.iconst 0, 1) := by decide +kernel
theorem d_RD_append_20 : decode b_RD_append 20 = .ok (.invokevirtual 79, 3) := by decide +kernel
theorem d_RD_append_23 : decode b_RD_append 23 = .ok (.bipush 123, 2) := by decide +kernel
theorem d_RD_append_25 : decode b_RD_append 25 = .ok (.if_icmp .ne 7, 3) := by decide +kernel
theorem d_RD_append_28 : decode b_RD_append 28 = .ok (.iconst 1, 1) := by decide +kernel
theorem d_RD_append_29 : decode b_RD_append 29 = .ok (.goto 4, 3) := by decide +kernel
theorem d_RD_append_32 : decode b_RD_append 32 = .ok (.iconst 0, 1) := by decide +kernel
theorem d_RD_append_33 : decode b_RD_append 33 = .ok (.istore_n 3, 1) := by decide +kernel
theorem d_RD_append_34 : decode b_RD_append 34 = .ok (.aload_n 0, 1) := by decide +kernel
theorem d_RD_append_35 : decode b_RD_append 35 = .ok (.getfield 184, 3) := by decide +kernel
theorem d_RD_append_38 : decode b_RD_append 38 = .ok (.bipush 100, 2) := by decide +kernel
theorem d_RD_append_40 : decode b_RD_append 40 = .ok (.if_icmp .gt 33, 3) := by decide +kernel
theorem d_RD_append_43 : decode b_RD_append 43 = .ok (.aload_n 0, 1) := by decide +kernel
theorem d_RD_append_44 : decode b_RD_append 44 = .ok (.getfield 187, 3) := by decide +kernel
theorem d_RD_append_47 : decode b_RD_append 47 = .ok (.sipush 1000, 3) := by decide +kernel
theorem d_RD_append_50 : decode b_RD_append 50 = .ok (.if_icmp .eq 27, 3) := by decide +kernel
theorem d_RD_append_53 : decode b_RD_append 53 = .ok (.aload_n 0, 1) := by decide +kernel
theorem d_RD_append_54 : decode b_RD_append 54 = .ok (.getfield 187, 3) := by decide +kernel
theorem d_RD_append_57 : decode b_RD_append 57 = .ok (.bipush 100, 2) := by decide +kernel
theorem d_RD_append_59 : decode b_RD_append 59 = .ok (.if_icmp .gt 14, 3) := by decide +kernel
theorem d_RD_append_62 : decode b_RD_append 62 = .ok (.aload_n 0, 1) := by decide +kernel
theorem d_RD_append_63 : decode b_RD_append 63 = .ok (.getfield 184, 3) := by decide +kernel
theorem d_RD_append_66 : decode b_RD_append 66 = .ok (.aload_n 0, 1) := by decide +kernel
theorem d_RD_append_67 : decode b_RD_append 67 = .ok (.getfield 187, 3) := by decide +kernel
theorem d_RD_append_70 : decode b_RD_append 70 = .ok (.if_icmp .le 7, 3) := by decide +kernel
theorem d_RD_append_73 : decode b_RD_append 73 = .ok (.iconst 1, 1) := by decide +kernel
theorem d_RD_append_74 : decode b_RD_append 74 = .ok (.goto 4, 3) := by decide +kernel
theorem d_RD_append_77 : decode b_RD_append 77 = .ok (.iconst 0, 1) := by decide +kernel
theorem d_RD_append_78 : decode b_RD_append 78 = .ok (.istore 4, 2) := by decide +kernel
theorem d_RD_append_80 : decode b_RD_append 80 = .ok (.iload_n 3, 1) := by decide +kernel
theorem d_RD_append_81 : decode b_RD_append 81 = .ok (.ifCond .eq 20, 3) := by decide +kernel
theorem d_RD_append_84 : decode b_RD_append 84 = .ok (.iload 4, 2) := by decide +kernel
theorem d_RD_append_86 : decode b_RD_append 86 = .ok (.ifCond .eq 15, 3) := by decide +kernel
theorem d_RD_append_89 : decode b_RD_append 89 = .ok (.aload_n 0, 1) := by decide +kernel
theorem d_RD_append_90 : decode b_RD_append 90 = .ok (.getfield 12, 3) := by decide +kernel
theorem d_RD_append_93 : decode b_RD_append 93 = .ok (.bipush 9, 2) := by decide +kernel
theorem d_RD_append_95 : decode b_RD_append 95 = .ok (.iload_n 2, 1) := by decide +kernel
theorem d_RD_append_96 : decode b_RD_append 96 = .ok (.invokevirtual 69, 3) := by decide +kernel
theorem d_RD_append_99 : decode b_RD_append 99 = .ok (.pop, 1) := by decide +kernel
theorem d_RD_append_100 : decode b_RD_append 100 = .ok (.return_, 1) := by decide +kernel
theorem d_RD_append_101 : decode b_RD_append 101 = .ok (.aload_n 0, 1) := by decide +kernel
theorem d_RD_append_102 : decode b_RD_append 102 = .ok (.getfield 12, 3) := by decide +kernel
theorem d_RD_append_105 : decode b_RD_append 105 = .ok (.aload_n 0, 1) := by decide +kernel
theorem d_RD_append_106 : decode b_RD_append 106 = .ok (.getfield 190, 3) := by decide +kernel
theorem d_RD_append_109 : decode b_RD_append 109 = .ok (.putfield 55, 3) := by decide +kernel
theorem d_RD_append_112 : decode b_RD_append 112 = .ok (.aload_n 0, 1) := by decide +kernel
theorem d_RD_append_113 : decode b_RD_append 113 = .ok (.getfield 12, 3) := by decide +kernel
theorem d_RD_append_116 : decode b_RD_append 116 = .ok (.iconst 0, 1) := by decide +kernel
theorem d_RD_append_117 : decode b_RD_append 117 = .ok (.invokevirtual 79, 3) := by decide +kernel
theorem d_RD_append_120 : decode b_RD_append 120 = .ok (.bipush 63, 2) := by decide +kernel
theorem d_RD_append_122 : decode b_RD_append 122 = .ok (.if_icmp .ne 7, 3) := by decide +kernel
theorem d_RD_append_125 : decode b_RD_append 125 = .ok (.iconst 1, 1) := by decide +kernel
theorem d_RD_append_126 : decode b_RD_append 126 = .ok (.goto 4, 3) := by decide +kernel
theorem d_RD_append_129 : decode b_RD_append 129 = .ok (.iconst 0, 1) := by decide +kernel
theorem d_RD_append_130 : decode b_RD_append 130 = .ok (.istore 5, 2) := by decide +kernel
theorem d_RD_append_132 : decode b_RD_append 132 = .ok (.aload_n 0, 1) := by decide +kernel
theorem d_RD_append_133 : decode b_RD_append 133 = .ok (.getfield 12, 3) := by decide +kernel
theorem d_RD_append_136 : decode b_RD_append 136 = .ok (.dup, 1) := by decide +kernel
theorem d_RD_append_137 : decode b_RD_append 137 = .ok (.getfield 55, 3) := by decide +kernel
theorem d_RD_append_140 : decode b_RD_append 140 = .ok (.iload 5, 2) := by decide +kernel
theorem d_RD_append_142 : decode b_RD_append 142 = .ok (.ifCond .eq 7, 3) := by decide +kernel
theorem d_RD_append_145 : decode b_RD_append 145 = .ok (.iconst 1, 1) := by decide +kernel
theorem d_RD_append_146 : decode b_RD_append 146 = .ok (.goto 4, 3) := by decide +kernel
theorem d_RD_append_149 : decode b_RD_append 149 = .ok (.iconst 0, 1) := by decide +kernel
theorem d_RD_append_150 : decode b_RD_append 150 = .ok (.iadd, 1) := by decide +kernel
theorem d_RD_append_151 : decode b_RD_append 151 = .ok (.putfield 55, 3) := by decide +kernel
theorem d_RD_append_154 : decode b_RD_append 154 = .ok (.aload_n 1, 1) := by decide +kernel
theorem d_RD_append_155 : decode b_RD_append 155 = .ok (.aload_n 0, 1) := by decide +kernel
theorem d_RD_append_156 : decode b_RD_append 156 = .ok (.getfield 184, 3) := by decide +kernel
theorem d_RD_append_159 : decode b_RD_append 159 = .ok (.aload_n 0, 1) := by decide +kernel
theorem d_RD_append_160 : decode b_RD_append 160 = .ok (.getfield 187, 3) := by decide +kernel
theorem d_RD_append_163 : decode b_RD_append 163 = .ok (.iload 5, 2) := by decide +kernel
theorem d_RD_append_165 : decode b_RD_append 165 = .ok (.aload_n 0, 1) := by decide +kernel
theorem d_RD_append_166 : decode b_RD_append 166 = .ok (.bipush 8, 2) := by decide +kernel
theorem d_RD_append_168 : decode b_RD_append 168 = .ok (.invokevirtual 94, 3) := by decide +kernel
theorem d_RD_append_171 : decode b_RD_append 171 = .ok (.if_icmp .eq 7, 3) := by decide +kernel
theorem d_RD_append_174 : decode b_RD_append 174 = .ok (.iconst 1, 1) := by decide +kernel
theorem d_RD_append_175 : decode b_RD_append 175 = .ok (.goto 4, 3) := by decide +kernel
theorem d_RD_append_178 : decode b_RD_append 178 = .ok (.iconst 0, 1) := by decide +kernel
theorem d_RD_append_179 : decode b_RD_append 179 = .ok (.invokevirtual 193, 3) := by decide +kernel
theorem d_RD_append_182 : decode b_RD_append 182 = .ok (.goto 10, 3) := by decide +kernel
theorem d_RD_append_185 : decode b_RD_append 185 = .ok (.aload_n 1, 1) := by decide +kernel
theorem d_RD_append_186 : decode b_RD_append 186 = .ok (.iconst 1, 1) := by decide +kernel
theorem d_RD_append_187 : decode b_RD_append 187 = .ok (.iconst 1, 1) := by decide +kernel
theorem d_RD_append_188 : decode b_RD_append 188 = .ok (.iconst 0, 1) := by decide +kernel
theorem d_RD_append_189 : decode b_RD_append 189 = .ok (.invokevirtual 193, 3) := by decide +kernel
theorem d_RD_append_192 : decode b_RD_append 192 = .ok (.aload_n 0, 1) := by decide +kernel
theorem d_RD_append_193 : decode b_RD_append 193 = .ok (.getfield 23, 3) := by decide +kernel
theorem d_RD_append_196 : decode b_RD_append 196 = .ok (.aload_n 1, 1) := by decide +kernel
theorem d_RD_append_197 : decode b_RD_append 197 = .ok (.invokevirtual 197, 3) := by decide +kernel
theorem d_RD_append_200 : decode b_RD_append 200 = .ok (.return_, 1) := by decide +kernel
theorem d_RD_close_0 : decode b_RD_close 0 = .ok (.aload_n 0, 1) := by decide +kernel
theorem d_RD_close_1 : decode b_RD_close 1 = .ok (.getfield 23, 3) := by decide +kernel
theorem d_RD_close_4 : decode b_RD_close 4 = .ok (.getfield 172, 3) := by decide +kernel
theorem d_RD_close_7 : decode b_RD_close 7 = .ok (.ifnonnull 21, 3) := by decide +kernel
theorem d_RD_close_10 : decode b_RD_close 10 = .ok (.aload_n 0, 1) := by decide +kernel
theorem d_RD_close_11 : decode b_RD_close 11 = .ok (.getfield 12, 3) := by decide +kernel
theorem d_RD_close_14 : decode b_RD_close 14 = .ok (.iconst 3, 1) := by decide +kernel
theorem d_RD_close_15 : decode b_RD_close 15 = .ok (.aload_n 0, 1) := by decide +kernel
theorem d_RD_close_16 : decode b_RD_close 16 = .ok (.getfield 12, 3) := by decide +kernel
theorem d_RD_close_19 : decode b_RD_close 19 = .ok (.getfield 55, 3) := by decide +kernel
theorem d_RD_close_22 : decode b_RD_close 22 = .ok (.invokevirtual 69, 3) := by decide +kernel
theorem d_RD_close_25 : decode b_RD_close 25 = .ok (.pop, 1) := by decide +kernel
theorem d_RD_close_26 : decode b_RD_close 26 = .ok (.aconst_null, 1) := by decide +kernel
theorem d_RD_close_27 : decode b_RD_close 27 = .ok (.areturn, 1) := by decide +kernel
theorem d_RD_close_28 : decode b_RD_close 28 = .ok (.aload_n 0, 1) := by decide +kernel
theorem d_RD_close_29 : decode b_RD_close 29 = .ok (.getfield 23, 3) := by decide +kernel
theorem d_RD_close_32 : decode b_RD_close 32 = .ok (.astore_n 1, 1) := by decide +kernel
theorem d_RD_close_33 : decode b_RD_close 33 = .ok (.aload_n 0, 1) := by decide +kernel
theorem d_RD_close_34 : decode b_RD_close 34 = .ok (.aload_n 1, 1) := by decide +kernel
theorem d_RD_close_35 : decode b_RD_close 35 = .ok (.getfield 172, 3) := by decide +kernel
theorem d_RD_close_38 : decode b_RD_close 38 = .ok (.putfield 23, 3) := by decide +kernel
theorem d_RD_close_41 : decode b_RD_close 41 = .ok (.aload_n 0, 1) := by decide +kernel
theorem d_RD_close_42 : decode b_RD_close 42 = .ok (.dup, 1) := by decide +kernel
theorem d_RD_close_43 : decode b_RD_close 43 = .ok (.getfield 45, 3) := by decide +kernel
theorem d_RD_close_46 : decode b_RD_close 46 = .ok (.iconst 1, 1) := by decide +kernel
theorem d_RD_close_47 : decode b_RD_close 47 = .ok (.isub, 1) := by decide +kernel
theorem d_RD_close_48 : decode b_RD_close 48 = .ok (.putfield 45, 3) := by decide +kernel
theorem d_RD_close_51 : decode b_RD_close 51 = .ok (.aload_n 0, 1) := by decide +kernel
theorem d_RD_close_52 : decode b_RD_close 52 = .ok (.getfield 12, 3) := by decide +kernel
theorem d_RD_close_55 : decode b_RD_close 55 = .ok (.dup, 1) := by decide +kernel
theorem d_RD_close_56 : decode b_RD_close 56 = .ok (.getfield 55, 3) := by decide +kernel
theorem d_RD_close_59 : decode b_RD_close 59 = .ok (.iconst 1, 1) := by decide +kernel
theorem d_RD_close_60 : decode b_RD_close 60 = .ok (.iadd, 1) := by decide +kernel
theorem d_RD_close_61 : decode b_RD_close 61 = .ok (.putfield 55, 3) := by decide +kernel
theorem d_RD_close_64 : decode b_RD_close 64 = .ok (.aload_n 0, 1) := by decide +kernel
theorem d_RD_close_65 : decode b_RD_close 65 = .ok (.aload_n 1, 1) := by decide +kernel
theorem d_RD_close_66 : decode b_RD_close 66 = .ok (.getfield 169, 3) := by decide +kernel
theorem d_RD_close_69 : decode b_RD_close 69 = .ok (.putfield 38, 3) := by decide +kernel
theorem d_RD_close_72 : decode b_RD_close 72 = .ok (.aload_n 1, 1) := by decide +kernel
theorem d_RD_close_73 : decode b_RD_close 73 = .ok (.invokevirtual 73, 3) := by decide +kernel
theorem d_RD_close_76 : decode b_RD_close 76 = .ok (.aload_n 1, 1) := by decide +kernel
theorem d_RD_close_77 : decode b_RD_close 77 = .ok (.areturn, 1) := by decide +kernel
theorem d_RD_enter_0 : decode b_RD_enter 0 = .ok (.aload_n 0, 1) := by decide +kernel
theorem d_RD_enter_1 : decode b_RD_enter 1 = .ok (.getfield 45, 3) := by decide +kernel
theorem d_RD_enter_4 : decode b_RD_enter 4 = .ok (.bipush 30, 2) := by decide +kernel
theorem d_RD_enter_6 : decode b_RD_enter 6 = .ok (.if_icmp .ge 16, 3) := by decide +kernel
theorem d_RD_enter_9 : decode b_RD_enter 9 = .ok (.iload_n 2, 1) := by decide +kernel
theorem d_RD_enter_10 : decode b_RD_enter 10 = .ok (.ifCond .eq 38, 3) := by decide +kernel
theorem d_RD_enter_13 : decode b_RD_enter 13 = .ok (.aload_n 0, 1) := by decide +kernel
theorem d_RD_enter_14 : decode b_RD_enter 14 = .ok (.getfield 42, 3) := by decide +kernel
theorem d_RD_enter_17 : decode b_RD_enter 17 = .ok (.bipush 9, 2) := by decide +kernel
theorem d_RD_enter_19 : decode b_RD_enter 19 = .ok (.if_icmp .lt 29, 3) := by decide +kernel
theorem d_RD_enter_22 : decode b_RD_enter 22 = .ok (.aload_n 0, 1) := by decide +kernel
theorem d_RD_enter_23 : decode b_RD_enter 23 = .ok (.getfield 12, 3) := by decide +kernel
theorem d_RD_enter_26 : decode b_RD_enter 26 = .ok (.aload_n 0, 1) := by decide +kernel
theorem d_RD_enter_27 : decode b_RD_enter 27 = .ok (.getfield 45, 3) := by decide +kernel
theorem d_RD_enter_30 : decode b_RD_enter 30 = .ok (.bipush 30, 2) := by decide +kernel
theorem d_RD_enter_32 : decode b_RD_enter 32 = .ok (.if_icmp .lt 8, 3) := by decide +kernel
theorem d_RD_enter_35 : decode b_RD_enter 35 = .ok (.bipush 12, 2) := by decide +kernel
theorem d_RD_enter_37 : decode b_RD_enter 37 = .ok (.goto 5, 3) := by decide +kernel
theorem d_RD_enter_40 : decode b_RD_enter 40 = .ok (.bipush 13, 2) := by decide +kernel
theorem d_RD_enter_42 : decode b_RD_enter 42 = .ok (.iload_n 1, 1) := by decide +kernel
theorem d_RD_enter_43 : decode b_RD_enter 43 = .ok (.invokevirtual 69, 3) := by decide +kernel
theorem d_RD_enter_46 : decode b_RD_enter 46 = .ok (.pop, 1) := by decide +kernel
theorem d_RD_enter_47 : decode b_RD_enter 47 = .ok (.return_, 1) := by decide +kernel
theorem d_RD_enter_48 : decode b_RD_enter 48 = .ok (.iload_n 2, 1) := by decide +kernel
theorem d_RD_enter_49 : decode b_RD_enter 49 = .ok (.ifCond .eq 45, 3) := by decide +kernel
theorem d_RD_enter_52 : decode b_RD_enter 52 = .ok (.aload_n 0, 1) := by decide +kernel
theorem d_RD_enter_53 : decode b_RD_enter 53 = .ok (.dup, 1) := by decide +kernel
theorem d_RD_enter_54 : decode b_RD_enter 54 = .ok (.getfield 42, 3) := by decide +kernel
theorem d_RD_enter_57 : decode b_RD_enter 57 = .ok (.iconst 1, 1) := by decide +kernel
theorem d_RD_enter_58 : decode b_RD_enter 58 = .ok (.iadd, 1) := by decide +kernel
theorem d_RD_enter_59 : decode b_RD_enter 59 = .ok (.putfield 42, 3) := by decide +kernel
theorem d_RD_enter_62 : decode b_RD_enter 62 = .ok (.aload_n 0, 1) := by decide +kernel
theorem d_RD_enter_63 : decode b_RD_enter 63 = .ok (.getfield 27, 3) := by decide +kernel
theorem d_RD_enter_66 : decode b_RD_enter 66 = .ok (.aload_n 0, 1) := by decide +kernel
theorem d_RD_enter_67 : decode b_RD_enter 67 = .ok (.getfield 42, 3) := by decide +kernel
theorem d_RD_enter_70 : decode b_RD_enter 70 = .ok (.iload 4, 2) := by decide +kernel
theorem d_RD_enter_72 : decode b_RD_enter 72 = .ok (.ifCond .le 9, 3) := by decide +kernel
theorem d_RD_enter_75 : decode b_RD_enter 75 = .ok (.iload_n 1, 1) := by decide +kernel
theorem d_RD_enter_76 : decode b_RD_enter 76 = .ok (.iconst 4, 1) := by decide +kernel
theorem d_RD_enter_77 : decode b_RD_enter 77 = .ok (.iadd, 1) := by decide +kernel
theorem d_RD_enter_78 : decode b_RD_enter 78 = .ok (.goto 4, 3) := by decide +kernel
theorem d_RD_enter_81 : decode b_RD_enter 81 = .ok (.iconst 0, 1) := by decide +kernel
theorem d_RD_enter_82 : decode b_RD_enter 82 = .ok (.iastore, 1) := by decide +kernel
theorem d_RD_enter_83 : decode b_RD_enter 83 = .ok (.aload_n 0, 1) := by decide +kernel
theorem d_RD_enter_84 : decode b_RD_enter 84 = .ok (.getfield 31, 3) := by decide +kernel
theorem d_RD_enter_87 : decode b_RD_enter 87 = .ok (.aload_n 0, 1) := by decide +kernel
theorem d_RD_enter_88 : decode b_RD_enter 88 = .ok (.getfield 42, 3) := by decide +kernel
theorem d_RD_enter_91 : decode b_RD_enter 91 = .ok (.iload 4, 2) := by decide +kernel
theorem d_RD_enter_93 : decode b_RD_enter 93 = .ok (.iastore, 1) := by decide +kernel
theorem d_RD_enter_94 : decode b_RD_enter 94 = .ok (.new 18, 3) := by decide +kernel
theorem d_RD_enter_97 : decode b_RD_enter 97 = .ok (.dup, 1) := by decide +kernel
theorem d_RD_enter_98 : decode b_RD_enter 98 = .ok (.iconst 4, 1) := by decide +kernel
theorem d_RD_enter_99 : decode b_RD_enter 99 = .ok (.iload_n 2, 1) := by decide +kernel
theorem d_RD_enter_100 : decode b_RD_enter 100 = .ok (.ifCond .eq 10, 3) := by decide +kernel
theorem d_RD_enter_103 : decode b_RD_enter 103 = .ok (.aload_n 0, 1) := by decide +kernel
theorem d_RD_enter_104 : decode b_RD_enter 104 = .ok (.getfield 42, 3) := by decide +kernel
theorem d_RD_enter_107 : decode b_RD_enter 107 = .ok (.goto 4, 3) := by decide +kernel
theorem d_RD_enter_110 : decode b_RD_enter 110 = .ok (.iconst 0, 1) := by decide +kernel
theorem d_RD_enter_111 : decode b_RD_enter 111 = .ok (.iload_n 2, 1) := by decide +kernel
theorem d_RD_enter_112 : decode b_RD_enter 112 = .ok (.ifCond .eq 7, 3) := by decide +kernel
theorem d_RD_enter_115 : decode b_RD_enter 115 = .ok (.iconst 2, 1) := by decide +kernel
theorem d_RD_enter_116 : decode b_RD_enter 116 = .ok (.goto 4, 3) := by decide +kernel
theorem d_RD_enter_119 : decode b_RD_enter 119 = .ok (.iconst 0, 1) := by decide +kernel
theorem d_RD_enter_120 : decode b_RD_enter 120 = .ok (.iconst 0, 1) := by decide +kernel
theorem d_RD_enter_121 : decode b_RD_enter 121 = .ok (.invokespecial 20, 3) := by decide +kernel
theorem d_RD_enter_124 : decode b_RD_enter 124 = .ok (.astore 5, 2) := by decide +kernel
theorem d_RD_enter_126 : decode b_RD_enter 126 = .ok (.aload 5, 2) := by decide +kernel
theorem d_RD_enter_128 : decode b_RD_enter 128 = .ok (.iload_n 1, 1) := by decide +kernel
theorem d_RD_enter_129 : decode b_RD_enter 129 = .ok (.putfield 68, 3) := by decide +kernel
theorem d_RD_enter_132 : decode b_RD_enter 132 = .ok (.aload 5, 2) := by decide +kernel
theorem d_RD_enter_134 : decode b_RD_enter 134 = .ok (.aload_n 0, 1) := by decide +kernel
theorem d_RD_enter_135 : decode b_RD_enter 135 = .ok (.getfield 38, 3) := by decide +kernel
theorem d_RD_enter_138 : decode b_RD_enter 138 = .ok (.putfield 169, 3) := by decide +kernel
theorem d_RD_enter_141 : decode b_RD_enter 141 = .ok (.aload 5, 2) := by decide +kernel
theorem d_RD_enter_143 : decode b_RD_enter 143 = .ok (.new 18, 3) := by decide +kernel
theorem d_RD_enter_146 : decode b_RD_enter 146 = .ok (.dup, 1) := by decide +kernel
theorem d_RD_enter_147 : decode b_RD_enter 147 = .ok (.iconst 5, 1) := by decide +kernel
theorem d_RD_enter_148 : decode b_RD_enter 148 = .ok (.iconst 0, 1) := by decide +kernel
theorem d_RD_enter_149 : decode b_RD_enter 149 = .ok (.iconst 0, 1) := by decide +kernel
theorem d_RD_enter_150 : decode b_RD_enter 150 = .ok (.iconst 1, 1) := by decide +kernel
theorem d_RD_enter_151 : decode b_RD_enter 151 = .ok (.invokespecial 20, 3) := by decide +kernel
theorem d_RD_enter_154 : decode b_RD_enter 154 = .ok (.invokevirtual 48, 3) := by decide +kernel
theorem d_RD_enter_157 : decode b_RD_enter 157 = .ok (.aload 5, 2) := by decide +kernel
theorem d_RD_enter_159 : decode b_RD_enter 159 = .ok (.aload_n 0, 1) := by decide +kernel
theorem d_RD_enter_160 : decode b_RD_enter 160 = .ok (.getfield 23, 3) := by decide +kernel
theorem d_RD_enter_163 : decode b_RD_enter 163 = .ok (.putfield 172, 3) := by decide +kernel
theorem d_RD_enter_166 : decode b_RD_enter 166 = .ok (.aload_n 0, 1) := by decide +kernel
theorem d_RD_enter_167 : decode b_RD_enter 167 = .ok (.aload 5, 2) := by decide +kernel
theorem d_RD_enter_169 : decode b_RD_enter 169 = .ok (.putfield 23, 3) := by decide +kernel
theorem d_RD_enter_172 : decode b_RD_enter 172 = .ok (.aload_n 0, 1) := by decide +kernel
theorem d_RD_enter_173 : decode b_RD_enter 173 = .ok (.dup, 1) := by decide +kernel
theorem d_RD_enter_174 : decode b_RD_enter 174 = .ok (.getfield 45, 3) := by decide +kernel
theorem d_RD_enter_177 : decode b_RD_enter 177 = .ok (.iconst 1, 1) := by decide +kernel
theorem d_RD_enter_178 : decode b_RD_enter 178 = .ok (.iadd, 1) := by decide +kernel
theorem d_RD_enter_179 : decode b_RD_enter 179 = .ok (.putfield 45, 3) := by decide +kernel
theorem d_RD_enter_182 : decode b_RD_enter 182 = .ok (.aload_n 0, 1) := by decide +kernel
theorem d_RD_enter_183 : decode b_RD_enter 183 = .ok (.iload_n 3, 1) := by decide +kernel
theorem d_RD_enter_184 : decode b_RD_enter 184 = .ok (.putfield 38, 3) := by decide +kernel
theorem d_RD_enter_187 : decode b_RD_enter 187 = .ok (.return_, 1) := by decide +kernel
theorem d_RD_open_0 : decode b_RD_open 0 = .ok (.aload_n 0, 1) := by decide +kernel
theorem d_RD_open_1 : decode b_RD_open 1 = .ok (.getfield 12, 3) := by decide +kernel
theorem d_RD_open_4 : decode b_RD_open 4 = .ok (.iload_n 1, 1) := by decide +kernel
theorem d_RD_open_5 : decode b_RD_open 5 = .ok (.iconst 1, 1) := by decide +kernel
theorem d_RD_open_6 : decode b_RD_open 6 = .ok (.iadd, 1) := by decide +kernel
theorem d_RD_open_7 : decode b_RD_open 7 = .ok (.putfield 55, 3) := by decide +kernel
theorem d_RD_open_10 : decode b_RD_open 10 = .ok (.aload_n 0, 1) := by decide +kernel
theorem d_RD_open_11 : decode b_RD_open 11 = .ok (.getfield 12, 3) := by decide +kernel
theorem d_RD_open_14 : decode b_RD_open 14 = .ok (.iconst 0, 1) := by decide +kernel
theorem d_RD_open_15 : decode b_RD_open 15 = .ok (.invokevirtual 79, 3) := by decide +kernel
theorem d_RD_open_18 : decode b_RD_open 18 = .ok (.bipush 63, 2) := by decide +kernel
theorem d_RD_open_20 : decode b_RD_open 20 = .ok (.if_icmp .eq 17, 3) := by decide +kernel
theorem d_RD_open_23 : decode b_RD_open 23 = .ok (.aload_n 0, 1) := by decide +kernel
theorem d_RD_open_24 : decode b_RD_open 24 = .ok (.iload_n 1, 1) := by decide +kernel
theorem d_RD_open_25 : decode b_RD_open 25 = .ok (.iconst 1, 1) := by decide +kernel
theorem d_RD_open_26 : decode b_RD_open 26 = .ok (.aload_n 0, 1) := by decide +kernel
theorem d_RD_open_27 : decode b_RD_open 27 = .ok (.getfield 38, 3) := by decide +kernel
theorem d_RD_open_30 : decode b_RD_open 30 = .ok (.iconst 0, 1) := by decide +kernel
theorem d_RD_open_31 : decode b_RD_open 31 = .ok (.invokevirtual 155, 3) := by decide +kernel
theorem d_RD_open_34 : decode b_RD_open 34 = .ok (.goto 179, 3) := by decide +kernel
theorem d_RD_open_37 : decode b_RD_open 37 = .ok (.aload_n 0, 1) := by decide +kernel
theorem d_RD_open_38 : decode b_RD_open 38 = .ok (.getfield 12, 3) := by decide +kernel
theorem d_RD_open_41 : decode b_RD_open 41 = .ok (.iconst 1, 1) := by decide +kernel
theorem d_RD_open_42 : decode b_RD_open 42 = .ok (.invokevirtual 79, 3) := by decide +kernel
theorem d_RD_open_45 : decode b_RD_open 45 = .ok (.bipush 80, 2) := by decide +kernel
theorem d_RD_open_47 : decode b_RD_open 47 = .ok (.if_icmp .ne 88, 3) := by decide +kernel
theorem d_RD_open_50 : decode b_RD_open 50 = .ok (.aload_n 0, 1) := by decide +kernel
theorem d_RD_open_51 : decode b_RD_open 51 = .ok (.getfield 12, 3) := by decide +kernel
theorem d_RD_open_54 : decode b_RD_open 54 = .ok (.iconst 2, 1) := by decide +kernel
theorem d_RD_open_55 : decode b_RD_open 55 = .ok (.invokevirtual 79, 3) := by decide +kernel
theorem d_RD_open_58 : decode b_RD_open 58 = .ok (.bipush 60, 2) := by decide +kernel
theorem d_RD_open_60 : decode b_RD_open 60 = .ok (.if_icmp .ne 75, 3) := by decide +kernel
theorem d_RD_open_63 : decode b_RD_open 63 = .ok (.aload_n 0, 1) := by decide +kernel
theorem d_RD_open_64 : decode b_RD_open 64 = .ok (.iload_n 1, 1) := by decide +kernel
theorem d_RD_open_65 : decode b_RD_open 65 = .ok (.iconst 4, 1) := by decide +kernel
theorem d_RD_open_66 : decode b_RD_open 66 = .ok (.iadd, 1) := by decide +kernel
theorem d_RD_open_67 : decode b_RD_open 67 = .ok (.invokevirtual 159, 3) := by decide +kernel
theorem d_RD_open_70 : decode b_RD_open 70 = .ok (.istore_n 2, 1) := by decide +kernel
theorem d_RD_open_71 : decode b_RD_open 71 = .ok (.aload_n 0, 1) := by decide +kernel
theorem d_RD_open_72 : decode b_RD_open 72 = .ok (.getfield 12, 3) := by decide +kernel
theorem d_RD_open_75 : decode b_RD_open 75 = .ok (.iload_n 1, 1) := by decide +kernel
theorem d_RD_open_76 : decode b_RD_open 76 = .ok (.iconst 5, 1) := by decide +kernel
theorem d_RD_open_77 : decode b_RD_open 77 = .ok (.iadd, 1) := by decide +kernel
theorem d_RD_open_78 : decode b_RD_open 78 = .ok (.iload_n 2, 1) := by decide +kernel
theorem d_RD_open_79 : decode b_RD_open 79 = .ok (.iadd, 1) := by decide +kernel
theorem d_RD_open_80 : decode b_RD_open 80 = .ok (.putfield 55, 3) := by decide +kernel
theorem d_RD_open_83 : decode b_RD_open 83 = .ok (.iload_n 2, 1) := by decide +kernel
theorem d_RD_open_84 : decode b_RD_open 84 = .ok (.ifCond .eq 14, 3) := by decide +kernel
theorem d_RD_open_87 : decode b_RD_open 87 = .ok (.aload_n 0, 1) := by decide +kernel
theorem d_RD_open_88 : decode b_RD_open 88 = .ok (.iload_n 1, 1) := by decide +kernel
theorem d_RD_open_89 : decode b_RD_open 89 = .ok (.iconst 4, 1) := by decide +kernel
theorem d_RD_open_90 : decode b_RD_open 90 = .ok (.iadd, 1) := by decide +kernel
theorem d_RD_open_91 : decode b_RD_open 91 = .ok (.iload_n 2, 1) := by decide +kernel
theorem d_RD_open_92 : decode b_RD_open 92 = .ok (.invokevirtual 162, 3) := by decide +kernel
theorem d_RD_open_95 : decode b_RD_open 95 = .ok (.ifCond .eq 26, 3) := by decide +kernel
theorem d_RD_open_98 : decode b_RD_open 98 = .ok (.aload_n 0, 1) := by decide +kernel
theorem d_RD_open_99 : decode b_RD_open 99 = .ok (.getfield 12, 3) := by decide +kernel
theorem d_RD_open_102 : decode b_RD_open 102 = .ok (.iload_n 2, 1) := by decide +kernel
theorem d_RD_open_103 : decode b_RD_open 103 = .ok (.ifCond .ne 8, 3) := by decide +kernel
theorem d_RD_open_106 : decode b_RD_open 106 = .ok (.bipush 10, 2) := by decide +kernel
theorem d_RD_open_108 : decode b_RD_open 108 = .ok (.goto 5, 3) := by decide +kernel
theorem d_RD_open_111 : decode b_RD_open 111 = .ok (.bipush 11, 2) := by decide +kernel
theorem d_RD_open_113 : decode b_RD_open 113 = .ok (.iload_n 1, 1) := by decide +kernel
theorem d_RD_open_114 : decode b_RD_open 114 = .ok (.invokevirtual 69, 3) := by decide +kernel
theorem d_RD_open_117 : decode b_RD_open 117 = .ok (.pop, 1) := by decide +kernel
theorem d_RD_open_118 : decode b_RD_open 118 = .ok (.goto 14, 3) := by decide +kernel
theorem d_RD_open_121 : decode b_RD_open 121 = .ok (.aload_n 0, 1) := by decide +kernel
theorem d_RD_open_122 : decode b_RD_open 122 = .ok (.iload_n 1, 1) := by decide +kernel
theorem d_RD_open_123 : decode b_RD_open 123 = .ok (.iconst 1, 1) := by decide +kernel
theorem d_RD_open_124 : decode b_RD_open 124 = .ok (.aload_n 0, 1) := by decide +kernel
theorem d_RD_open_125 : decode b_RD_open 125 = .ok (.getfield 38, 3) := by decide +kernel
theorem d_RD_open_128 : decode b_RD_open 128 = .ok (.iload_n 2, 1) := by decide +kernel
theorem d_RD_open_129 : decode b_RD_open 129 = .ok (.invokevirtual 155, 3) := by decide +kernel
theorem d_RD_open_132 : decode b_RD_open 132 = .ok (.goto 81, 3) := by decide +kernel
theorem d_RD_open_135 : decode b_RD_open 135 = .ok (.aload_n 0, 1) := by decide +kernel
theorem d_RD_open_136 : decode b_RD_open 136 = .ok (.getfield 12, 3) := by decide +kernel
theorem d_RD_open_139 : decode b_RD_open 139 = .ok (.iload_n 1, 1) := by decide +kernel
theorem d_RD_open_140 : decode b_RD_open 140 = .ok (.iconst 2, 1) := by decide +kernel
theorem d_RD_open_141 : decode b_RD_open 141 = .ok (.iadd, 1) := by decide +kernel
theorem d_RD_open_142 : decode b_RD_open 142 = .ok (.putfield 55, 3) := by decide +kernel
theorem d_RD_open_145 : decode b_RD_open 145 = .ok (.aload_n 0, 1) := by decide +kernel
theorem d_RD_open_146 : decode b_RD_open 146 = .ok (.iload_n 1, 1) := by decide +kernel
theorem d_RD_open_147 : decode b_RD_open 147 = .ok (.invokevirtual 166, 3) := by decide +kernel
theorem d_RD_open_150 : decode b_RD_open 150 = .ok (.istore_n 2, 1) := by decide +kernel
theorem d_RD_open_151 : decode b_RD_open 151 = .ok (.aload_n 0, 1) := by decide +kernel
theorem d_RD_open_152 : decode b_RD_open 152 = .ok (.getfield 12, 3) := by decide +kernel
theorem d_RD_open_155 : decode b_RD_open 155 = .ok (.iconst 0, 1) := by decide +kernel
theorem d_RD_open_156 : decode b_RD_open 156 = .ok (.invokevirtual 79, 3) := by decide +kernel
theorem d_RD_open_159 : decode b_RD_open 159 = .ok (.bipush 58, 2) := by decide +kernel
theorem d_RD_open_161 : decode b_RD_open 161 = .ok (.if_icmp .ne 7, 3) := by decide +kernel
theorem d_RD_open_164 : decode b_RD_open 164 = .ok (.iconst 1, 1) := by decide +kernel
theorem d_RD_open_165 : decode b_RD_open 165 = .ok (.goto 4, 3) := by decide +kernel
theorem d_RD_open_168 : decode b_RD_open 168 = .ok (.iconst 0, 1) := by decide +kernel
theorem d_RD_open_169 : decode b_RD_open 169 = .ok (.istore_n 3, 1) := by decide +kernel
theorem d_RD_open_170 : decode b_RD_open 170 = .ok (.aload_n 0, 1) := by decide +kernel
theorem d_RD_open_171 : decode b_RD_open 171 = .ok (.getfield 12, 3) := by decide +kernel
theorem d_RD_open_174 : decode b_RD_open 174 = .ok (.dup, 1) := by decide +kernel
theorem d_RD_open_175 : decode b_RD_open 175 = .ok (.getfield 55, 3) := by decide +kernel
theorem d_RD_open_178 : decode b_RD_open 178 = .ok (.iconst 1, 1) := by decide +kernel
theorem d_RD_open_179 : decode b_RD_open 179 = .ok (.iadd, 1) := by decide +kernel
theorem d_RD_open_180 : decode b_RD_open 180 = .ok (.putfield 55, 3) := by decide +kernel
theorem d_RD_open_183 : decode b_RD_open 183 = .ok (.iload_n 2, 1) := by decide +kernel
theorem d_RD_open_184 : decode b_RD_open 184 = .ok (.iconst (-1), 1) := by decide +kernel
theorem d_RD_open_185 : decode b_RD_open 185 = .ok (.if_icmp .eq 18, 3) := by decide +kernel
theorem d_RD_open_188 : decode b_RD_open 188 = .ok (.iload_n 3, 1) := by decide +kernel
theorem d_RD_open_189 : decode b_RD_open 189 = .ok (.ifCond .eq 14, 3) := by decide +kernel
theorem d_RD_open_192 : decode b_RD_open 192 = .ok (.aload_n 0, 1) := by decide +kernel
theorem d_RD_open_193 : decode b_RD_open 193 = .ok (.iload_n 1, 1) := by decide +kernel
theorem d_RD_open_194 : decode b_RD_open 194 = .ok (.iconst 0, 1) := by decide +kernel
theorem d_RD_open_195 : decode b_RD_open 195 = .ok (.iload_n 2, 1) := by decide +kernel
theorem d_RD_open_196 : decode b_RD_open 196 = .ok (.iconst 0, 1) := by decide +kernel
theorem d_RD_open_197 : decode b_RD_open 197 = .ok (.invokevirtual 155, 3) := by decide +kernel
theorem d_RD_open_200 : decode b_RD_open 200 = .ok (.goto 13, 3) := by decide +kernel
theorem d_RD_open_203 : decode b_RD_open 203 = .ok (.iload_n 2, 1) := by decide +kernel
theorem d_RD_open_204 : decode b_RD_open 204 = .ok (.iconst (-1), 1) := by decide +kernel
theorem d_RD_open_205 : decode b_RD_open 205 = .ok (.if_icmp .eq 8, 3) := by decide +kernel
theorem d_RD_open_208 : decode b_RD_open 208 = .ok (.aload_n 0, 1) := by decide +kernel
theorem d_RD_open_209 : decode b_RD_open 209 = .ok (.iload_n 2, 1) := by decide +kernel
theorem d_RD_open_210 : decode b_RD_open 210 = .ok (.putfield 38, 3) := by decide +kernel
theorem d_RD_open_213 : decode b_RD_open 213 = .ok (.return_, 1) := by decide +kernel
