theorem d_RD_read_0 : decode b_RD_read 0 = .ok (.aload_n 0, 1) := by decide +kernel
theorem d_RD_read_1 : decode b_RD_read 1 = .ok (.getfield 12, 3) := by decide +kernel
theorem d_RD_read_4 : decode b_RD_read 4 = .ok (.aload_n 1, 1) := by decide +kernel
theorem d_RD_read_5 : decode b_RD_read 5 = .ok (.invokevirtual 34, 3) := by decide +kernel
theorem d_RD_read_8 : decode b_RD_read 8 = .ok (.aload_n 0, 1) := by decide +kernel
theorem d_RD_read_9 : decode b_RD_read 9 = .ok (.iload_n 2, 1) := by decide +kernel
theorem d_RD_read_10 : decode b_RD_read 10 = .ok (.putfield 38, 3) := by decide +kernel
theorem d_RD_read_13 : decode b_RD_read 13 = .ok (.aload_n 0, 1) := by decide +kernel
theorem d_RD_read_14 : decode b_RD_read 14 = .ok (.iconst 0, 1) := by decide +kernel
theorem d_RD_read_15 : decode b_RD_read 15 = .ok (.putfield 42, 3) := by decide +kernel
theorem d_RD_read_18 : decode b_RD_read 18 = .ok (.aload_n 0, 1) := by decide +kernel
theorem d_RD_read_19 : decode b_RD_read 19 = .ok (.iconst 0, 1) := by decide +kernel
theorem d_RD_read_20 : decode b_RD_read 20 = .ok (.putfield 45, 3) := by decide +kernel
theorem d_RD_read_23 : decode b_RD_read 23 = .ok (.new 18, 3) := by decide +kernel
theorem d_RD_read_26 : decode b_RD_read 26 = .ok (.dup, 1) := by decide +kernel
theorem d_RD_read_27 : decode b_RD_read 27 = .ok (.iconst 4, 1) := by decide +kernel
theorem d_RD_read_28 : decode b_RD_read 28 = .ok (.iconst 0, 1) := by decide +kernel
theorem d_RD_read_29 : decode b_RD_read 29 = .ok (.iconst 0, 1) := by decide +kernel
theorem d_RD_read_30 : decode b_RD_read 30 = .ok (.iconst 0, 1) := by decide +kernel
theorem d_RD_read_31 : decode b_RD_read 31 = .ok (.invokespecial 20, 3) := by decide +kernel
theorem d_RD_read_34 : decode b_RD_read 34 = .ok (.astore_n 3, 1) := by decide +kernel
theorem d_RD_read_35 : decode b_RD_read 35 = .ok (.aload_n 3, 1) := by decide +kernel
theorem d_RD_read_36 : decode b_RD_read 36 = .ok (.new 18, 3) := by decide +kernel
theorem d_RD_read_39 : decode b_RD_read 39 = .ok (.dup, 1) := by decide +kernel
theorem d_RD_read_40 : decode b_RD_read 40 = .ok (.iconst 5, 1) := by decide +kernel
theorem d_RD_read_41 : decode b_RD_read 41 = .ok (.iconst 0, 1) := by decide +kernel
theorem d_RD_read_42 : decode b_RD_read 42 = .ok (.iconst 0, 1) := by decide +kernel
theorem d_RD_read_43 : decode b_RD_read 43 = .ok (.iconst 1, 1) := by decide +kernel
theorem d_RD_read_44 : decode b_RD_read 44 = .ok (.invokespecial 20, 3) := by decide +kernel
theorem d_RD_read_47 : decode b_RD_read 47 = .ok (.invokevirtual 48, 3) := by decide +kernel
theorem d_RD_read_50 : decode b_RD_read 50 = .ok (.aload_n 0, 1) := by decide +kernel
theorem d_RD_read_51 : decode b_RD_read 51 = .ok (.aload_n 3, 1) := by decide +kernel
theorem d_RD_read_52 : decode b_RD_read 52 = .ok (.putfield 23, 3) := by decide +kernel
theorem d_RD_read_55 : decode b_RD_read 55 = .ok (.iconst 0, 1) := by decide +kernel
theorem d_RD_read_56 : decode b_RD_read 56 = .ok (.istore 4, 2) := by decide +kernel
theorem d_RD_read_58 : decode b_RD_read 58 = .ok (.iload 4, 2) := by decide +kernel
theorem d_RD_read_60 : decode b_RD_read 60 = .ok (.aload_n 0, 1) := by decide +kernel
theorem d_RD_read_61 : decode b_RD_read 61 = .ok (.getfield 12, 3) := by decide +kernel
theorem d_RD_read_64 : decode b_RD_read 64 = .ok (.getfield 52, 3) := by decide +kernel
theorem d_RD_read_67 : decode b_RD_read 67 = .ok (.if_icmp .ge 53, 3) := by decide +kernel
theorem d_RD_read_70 : decode b_RD_read 70 = .ok (.aload_n 0, 1) := by decide +kernel
theorem d_RD_read_71 : decode b_RD_read 71 = .ok (.getfield 12, 3) := by decide +kernel
theorem d_RD_read_74 : decode b_RD_read 74 = .ok (.getfield 55, 3) := by decide +kernel
theorem d_RD_read_77 : decode b_RD_read 77 = .ok (.aload_n 0, 1) := by decide +kernel
theorem d_RD_read_78 : decode b_RD_read 78 = .ok (.getfield 12, 3) := by decide +kernel
theorem d_RD_read_81 : decode b_RD_read 81 = .ok (.getfield 52, 3) := by decide +kernel
theorem d_RD_read_84 : decode b_RD_read 84 = .ok (.if_icmp .ge 36, 3) := by decide +kernel
theorem d_RD_read_87 : decode b_RD_read 87 = .ok (.aload_n 0, 1) := by decide +kernel
theorem d_RD_read_88 : decode b_RD_read 88 = .ok (.getfield 12, 3) := by decide +kernel
theorem d_RD_read_91 : decode b_RD_read 91 = .ok (.getfield 58, 3) := by decide +kernel
theorem d_RD_read_94 : decode b_RD_read 94 = .ok (.ifCond .ne 26, 3) := by decide +kernel
theorem d_RD_read_97 : decode b_RD_read 97 = .ok (.aload_n 0, 1) := by decide +kernel
theorem d_RD_read_98 : decode b_RD_read 98 = .ok (.invokevirtual 61, 3) := by decide +kernel
theorem d_RD_read_101 : decode b_RD_read 101 = .ok (.astore 5, 2) := by decide +kernel
theorem d_RD_read_103 : decode b_RD_read 103 = .ok (.aload 5, 2) := by decide +kernel
theorem d_RD_read_105 : decode b_RD_read 105 = .ok (.ifnull 9, 3) := by decide +kernel
theorem d_RD_read_108 : decode b_RD_read 108 = .ok (.aload_n 0, 1) := by decide +kernel
theorem d_RD_read_109 : decode b_RD_read 109 = .ok (.aload 5, 2) := by decide +kernel
theorem d_RD_read_111 : decode b_RD_read 111 = .ok (.invokevirtual 65, 3) := by decide +kernel
theorem d_RD_read_114 : decode b_RD_read 114 = .ok (.iinc 4 1, 3) := by decide +kernel
theorem d_RD_read_117 : decode b_RD_read 117 = .ok (.goto (-59), 3) := by decide +kernel
theorem d_RD_read_120 : decode b_RD_read 120 = .ok (.aload_n 0, 1) := by decide +kernel
theorem d_RD_read_121 : decode b_RD_read 121 = .ok (.getfield 45, 3) := by decide +kernel
theorem d_RD_read_124 : decode b_RD_read 124 = .ok (.ifCond .le 19, 3) := by decide +kernel
theorem d_RD_read_127 : decode b_RD_read 127 = .ok (.aload_n 0, 1) := by decide +kernel
theorem d_RD_read_128 : decode b_RD_read 128 = .ok (.getfield 12, 3) := by decide +kernel
theorem d_RD_read_131 : decode b_RD_read 131 = .ok (.iconst 2, 1) := by decide +kernel
theorem d_RD_read_132 : decode b_RD_read 132 = .ok (.aload_n 0, 1) := by decide +kernel
theorem d_RD_read_133 : decode b_RD_read 133 = .ok (.getfield 23, 3) := by decide +kernel
theorem d_RD_read_136 : decode b_RD_read 136 = .ok (.getfield 68, 3) := by decide +kernel
theorem d_RD_read_139 : decode b_RD_read 139 = .ok (.invokevirtual 69, 3) := by decide +kernel
theorem d_RD_read_142 : decode b_RD_read 142 = .ok (.pop, 1) := by decide +kernel
theorem d_RD_read_143 : decode b_RD_read 143 = .ok (.aload_n 3, 1) := by decide +kernel
theorem d_RD_read_144 : decode b_RD_read 144 = .ok (.invokevirtual 73, 3) := by decide +kernel
theorem d_RD_read_147 : decode b_RD_read 147 = .ok (.aload_n 3, 1) := by decide +kernel
theorem d_RD_read_148 : decode b_RD_read 148 = .ok (.getfield 76, 3) := by decide +kernel
theorem d_RD_read_151 : decode b_RD_read 151 = .ok (.sipush 400, 3) := by decide +kernel
theorem d_RD_read_154 : decode b_RD_read 154 = .ok (.if_icmp .le 14, 3) := by decide +kernel
theorem d_RD_read_157 : decode b_RD_read 157 = .ok (.aload_n 0, 1) := by decide +kernel
theorem d_RD_read_158 : decode b_RD_read 158 = .ok (.getfield 12, 3) := by decide +kernel
theorem d_RD_read_161 : decode b_RD_read 161 = .ok (.bipush 14, 2) := by decide +kernel
theorem d_RD_read_163 : decode b_RD_read 163 = .ok (.iconst (-1), 1) := by decide +kernel
theorem d_RD_read_164 : decode b_RD_read 164 = .ok (.invokevirtual 69, 3) := by decide +kernel
theorem d_RD_read_167 : decode b_RD_read 167 = .ok (.pop, 1) := by decide +kernel
theorem d_RD_read_168 : decode b_RD_read 168 = .ok (.aload_n 0, 1) := by decide +kernel
theorem d_RD_read_169 : decode b_RD_read 169 = .ok (.getfield 12, 3) := by decide +kernel
theorem d_RD_read_172 : decode b_RD_read 172 = .ok (.getfield 58, 3) := by decide +kernel
theorem d_RD_read_175 : decode b_RD_read 175 = .ok (.ifCond .ne 7, 3) := by decide +kernel
theorem d_RD_read_178 : decode b_RD_read 178 = .ok (.aload_n 3, 1) := by decide +kernel
theorem d_RD_read_179 : decode b_RD_read 179 = .ok (.goto 4, 3) := by decide +kernel
theorem d_RD_read_182 : decode b_RD_read 182 = .ok (.aconst_null, 1) := by decide +kernel
theorem d_RD_read_183 : decode b_RD_read 183 = .ok (.areturn, 1) := by decide +kernel
