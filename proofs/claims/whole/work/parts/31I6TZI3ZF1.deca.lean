theorem d_MO_openNumbered_0 : decode b_MO_openNumbered 0 = .ok (.aload_n 0, 1) := by decide +kernel
theorem d_MO_openNumbered_1 : decode b_MO_openNumbered 1 = .ok (.getfield 282, 3) := by decide +kernel
theorem d_MO_openNumbered_4 : decode b_MO_openNumbered 4 = .ok (.bipush 30, 2) := by decide +kernel
theorem d_MO_openNumbered_6 : decode b_MO_openNumbered 6 = .ok (.if_icmp .ne 13, 3) := by decide +kernel
theorem d_MO_openNumbered_9 : decode b_MO_openNumbered 9 = .ok (.aload_n 0, 1) := by decide +kernel
theorem d_MO_openNumbered_10 : decode b_MO_openNumbered 10 = .ok (.bipush 12, 2) := by decide +kernel
theorem d_MO_openNumbered_12 : decode b_MO_openNumbered 12 = .ok (.iload_n 1, 1) := by decide +kernel
theorem d_MO_openNumbered_13 : decode b_MO_openNumbered 13 = .ok (.invokevirtual 304, 3) := by decide +kernel
theorem d_MO_openNumbered_16 : decode b_MO_openNumbered 16 = .ok (.goto 19, 3) := by decide +kernel
theorem d_MO_openNumbered_19 : decode b_MO_openNumbered 19 = .ok (.aload_n 0, 1) := by decide +kernel
theorem d_MO_openNumbered_20 : decode b_MO_openNumbered 20 = .ok (.getfield 395, 3) := by decide +kernel
theorem d_MO_openNumbered_23 : decode b_MO_openNumbered 23 = .ok (.bipush 9, 2) := by decide +kernel
theorem d_MO_openNumbered_25 : decode b_MO_openNumbered 25 = .ok (.if_icmp .ne 10, 3) := by decide +kernel
theorem d_MO_openNumbered_28 : decode b_MO_openNumbered 28 = .ok (.aload_n 0, 1) := by decide +kernel
theorem d_MO_openNumbered_29 : decode b_MO_openNumbered 29 = .ok (.bipush 13, 2) := by decide +kernel
theorem d_MO_openNumbered_31 : decode b_MO_openNumbered 31 = .ok (.iload_n 1, 1) := by decide +kernel
theorem d_MO_openNumbered_32 : decode b_MO_openNumbered 32 = .ok (.invokevirtual 304, 3) := by decide +kernel
theorem d_MO_openNumbered_35 : decode b_MO_openNumbered 35 = .ok (.aload_n 0, 1) := by decide +kernel
theorem d_MO_openNumbered_36 : decode b_MO_openNumbered 36 = .ok (.getfield 273, 3) := by decide +kernel
theorem d_MO_openNumbered_39 : decode b_MO_openNumbered 39 = .ok (.ifCond .le 4, 3) := by decide +kernel
theorem d_MO_openNumbered_42 : decode b_MO_openNumbered 42 = .ok (.return_, 1) := by decide +kernel
theorem d_MO_openNumbered_43 : decode b_MO_openNumbered 43 = .ok (.aload_n 0, 1) := by decide +kernel
theorem d_MO_openNumbered_44 : decode b_MO_openNumbered 44 = .ok (.dup, 1) := by decide +kernel
theorem d_MO_openNumbered_45 : decode b_MO_openNumbered 45 = .ok (.getfield 395, 3) := by decide +kernel
theorem d_MO_openNumbered_48 : decode b_MO_openNumbered 48 = .ok (.iconst 1, 1) := by decide +kernel
theorem d_MO_openNumbered_49 : decode b_MO_openNumbered 49 = .ok (.iadd, 1) := by decide +kernel
theorem d_MO_openNumbered_50 : decode b_MO_openNumbered 50 = .ok (.putfield 395, 3) := by decide +kernel
theorem d_MO_openNumbered_53 : decode b_MO_openNumbered 53 = .ok (.aload_n 0, 1) := by decide +kernel
theorem d_MO_openNumbered_54 : decode b_MO_openNumbered 54 = .ok (.getfield 106, 3) := by decide +kernel
theorem d_MO_openNumbered_57 : decode b_MO_openNumbered 57 = .ok (.aload_n 0, 1) := by decide +kernel
theorem d_MO_openNumbered_58 : decode b_MO_openNumbered 58 = .ok (.getfield 395, 3) := by decide +kernel
theorem d_MO_openNumbered_61 : decode b_MO_openNumbered 61 = .ok (.iload_n 3, 1) := by decide +kernel
theorem d_MO_openNumbered_62 : decode b_MO_openNumbered 62 = .ok (.iastore, 1) := by decide +kernel
theorem d_MO_openNumbered_63 : decode b_MO_openNumbered 63 = .ok (.iconst 0, 1) := by decide +kernel
theorem d_MO_openNumbered_64 : decode b_MO_openNumbered 64 = .ok (.istore 4, 2) := by decide +kernel
theorem d_MO_openNumbered_66 : decode b_MO_openNumbered 66 = .ok (.iload 4, 2) := by decide +kernel
theorem d_MO_openNumbered_68 : decode b_MO_openNumbered 68 = .ok (.iload_n 3, 1) := by decide +kernel
theorem d_MO_openNumbered_69 : decode b_MO_openNumbered 69 = .ok (.if_icmp .ge 33, 3) := by decide +kernel
theorem d_MO_openNumbered_72 : decode b_MO_openNumbered 72 = .ok (.aload_n 0, 1) := by decide +kernel
theorem d_MO_openNumbered_73 : decode b_MO_openNumbered 73 = .ok (.getfield 103, 3) := by decide +kernel
theorem d_MO_openNumbered_76 : decode b_MO_openNumbered 76 = .ok (.bipush 12, 2) := by decide +kernel
theorem d_MO_openNumbered_78 : decode b_MO_openNumbered 78 = .ok (.aload_n 0, 1) := by decide +kernel
theorem d_MO_openNumbered_79 : decode b_MO_openNumbered 79 = .ok (.getfield 395, 3) := by decide +kernel
theorem d_MO_openNumbered_82 : decode b_MO_openNumbered 82 = .ok (.imul, 1) := by decide +kernel
theorem d_MO_openNumbered_83 : decode b_MO_openNumbered 83 = .ok (.iload 4, 2) := by decide +kernel
theorem d_MO_openNumbered_85 : decode b_MO_openNumbered 85 = .ok (.iadd, 1) := by decide +kernel
theorem d_MO_openNumbered_86 : decode b_MO_openNumbered 86 = .ok (.aload_n 0, 1) := by decide +kernel
theorem d_MO_openNumbered_87 : decode b_MO_openNumbered 87 = .ok (.getfield 19, 3) := by decide +kernel
theorem d_MO_openNumbered_90 : decode b_MO_openNumbered 90 = .ok (.iload_n 2, 1) := by decide +kernel
theorem d_MO_openNumbered_91 : decode b_MO_openNumbered 91 = .ok (.iload 4, 2) := by decide +kernel
theorem d_MO_openNumbered_93 : decode b_MO_openNumbered 93 = .ok (.iadd, 1) := by decide +kernel
theorem d_MO_openNumbered_94 : decode b_MO_openNumbered 94 = .ok (.iaload, 1) := by decide +kernel
theorem d_MO_openNumbered_95 : decode b_MO_openNumbered 95 = .ok (.iastore, 1) := by decide +kernel
theorem d_MO_openNumbered_96 : decode b_MO_openNumbered 96 = .ok (.iinc 4 1, 3) := by decide +kernel
theorem d_MO_openNumbered_99 : decode b_MO_openNumbered 99 = .ok (.goto (-33), 3) := by decide +kernel
theorem d_MO_openNumbered_102 : decode b_MO_openNumbered 102 = .ok (.aload_n 0, 1) := by decide +kernel
theorem d_MO_openNumbered_103 : decode b_MO_openNumbered 103 = .ok (.dup, 1) := by decide +kernel
theorem d_MO_openNumbered_104 : decode b_MO_openNumbered 104 = .ok (.getfield 282, 3) := by decide +kernel
theorem d_MO_openNumbered_107 : decode b_MO_openNumbered 107 = .ok (.iconst 1, 1) := by decide +kernel
theorem d_MO_openNumbered_108 : decode b_MO_openNumbered 108 = .ok (.iadd, 1) := by decide +kernel
theorem d_MO_openNumbered_109 : decode b_MO_openNumbered 109 = .ok (.putfield 282, 3) := by decide +kernel
theorem d_MO_openNumbered_112 : decode b_MO_openNumbered 112 = .ok (.aload_n 0, 1) := by decide +kernel
theorem d_MO_openNumbered_113 : decode b_MO_openNumbered 113 = .ok (.iload_n 1, 1) := by decide +kernel
theorem d_MO_openNumbered_114 : decode b_MO_openNumbered 114 = .ok (.aload_n 0, 1) := by decide +kernel
theorem d_MO_openNumbered_115 : decode b_MO_openNumbered 115 = .ok (.getfield 276, 3) := by decide +kernel
theorem d_MO_openNumbered_118 : decode b_MO_openNumbered 118 = .ok (.aload_n 0, 1) := by decide +kernel
theorem d_MO_openNumbered_119 : decode b_MO_openNumbered 119 = .ok (.getfield 395, 3) := by decide +kernel
theorem d_MO_openNumbered_122 : decode b_MO_openNumbered 122 = .ok (.invokevirtual 392, 3) := by decide +kernel
theorem d_MO_openNumbered_125 : decode b_MO_openNumbered 125 = .ok (.return_, 1) := by decide +kernel
theorem d_MO_readGroup_0 : decode b_MO_readGroup 0 = .ok (.aload_n 0, 1) := by decide +kernel
theorem d_MO_readGroup_1 : decode b_MO_readGroup 1 = .ok (.getfield 279, 3) := by decide +kernel
theorem d_MO_readGroup_4 : decode b_MO_readGroup 4 = .ok (.istore_n 1, 1) := by decide +kernel
theorem d_MO_readGroup_5 : decode b_MO_readGroup 5 = .ok (.aload_n 0, 1) := by decide +kernel
theorem d_MO_readGroup_6 : decode b_MO_readGroup 6 = .ok (.iconst 1, 1) := by decide +kernel
theorem d_MO_readGroup_7 : decode b_MO_readGroup 7 = .ok (.invokevirtual 297, 3) := by decide +kernel
theorem d_MO_readGroup_10 : decode b_MO_readGroup 10 = .ok (.bipush 63, 2) := by decide +kernel
theorem d_MO_readGroup_12 : decode b_MO_readGroup 12 = .ok (.if_icmp .eq 21, 3) := by decide +kernel
theorem d_MO_readGroup_15 : decode b_MO_readGroup 15 = .ok (.aload_n 0, 1) := by decide +kernel
theorem d_MO_readGroup_16 : decode b_MO_readGroup 16 = .ok (.dup, 1) := by decide +kernel
theorem d_MO_readGroup_17 : decode b_MO_readGroup 17 = .ok (.getfield 279, 3) := by decide +kernel
theorem d_MO_readGroup_20 : decode b_MO_readGroup 20 = .ok (.iconst 1, 1) := by decide +kernel
theorem d_MO_readGroup_21 : decode b_MO_readGroup 21 = .ok (.iadd, 1) := by decide +kernel
theorem d_MO_readGroup_22 : decode b_MO_readGroup 22 = .ok (.putfield 279, 3) := by decide +kernel
theorem d_MO_readGroup_25 : decode b_MO_readGroup 25 = .ok (.aload_n 0, 1) := by decide +kernel
theorem d_MO_readGroup_26 : decode b_MO_readGroup 26 = .ok (.iload_n 1, 1) := by decide +kernel
theorem d_MO_readGroup_27 : decode b_MO_readGroup 27 = .ok (.iconst (-1), 1) := by decide +kernel
theorem d_MO_readGroup_28 : decode b_MO_readGroup 28 = .ok (.iconst 0, 1) := by decide +kernel
theorem d_MO_readGroup_29 : decode b_MO_readGroup 29 = .ok (.invokevirtual 382, 3) := by decide +kernel
theorem d_MO_readGroup_32 : decode b_MO_readGroup 32 = .ok (.return_, 1) := by decide +kernel
theorem d_MO_readGroup_33 : decode b_MO_readGroup 33 = .ok (.aload_n 0, 1) := by decide +kernel
theorem d_MO_readGroup_34 : decode b_MO_readGroup 34 = .ok (.iconst 2, 1) := by decide +kernel
theorem d_MO_readGroup_35 : decode b_MO_readGroup 35 = .ok (.invokevirtual 297, 3) := by decide +kernel
theorem d_MO_readGroup_38 : decode b_MO_readGroup 38 = .ok (.bipush 80, 2) := by decide +kernel
theorem d_MO_readGroup_40 : decode b_MO_readGroup 40 = .ok (.if_icmp .ne 9, 3) := by decide +kernel
theorem d_MO_readGroup_43 : decode b_MO_readGroup 43 = .ok (.aload_n 0, 1) := by decide +kernel
theorem d_MO_readGroup_44 : decode b_MO_readGroup 44 = .ok (.iload_n 1, 1) := by decide +kernel
theorem d_MO_readGroup_45 : decode b_MO_readGroup 45 = .ok (.invokevirtual 386, 3) := by decide +kernel
theorem d_MO_readGroup_48 : decode b_MO_readGroup 48 = .ok (.return_, 1) := by decide +kernel
theorem d_MO_readGroup_49 : decode b_MO_readGroup 49 = .ok (.aload_n 0, 1) := by decide +kernel
theorem d_MO_readGroup_50 : decode b_MO_readGroup 50 = .ok (.getfield 276, 3) := by decide +kernel
theorem d_MO_readGroup_53 : decode b_MO_readGroup 53 = .ok (.istore_n 2, 1) := by decide +kernel
theorem d_MO_readGroup_54 : decode b_MO_readGroup 54 = .ok (.iconst 2, 1) := by decide +kernel
theorem d_MO_readGroup_55 : decode b_MO_readGroup 55 = .ok (.istore_n 3, 1) := by decide +kernel
theorem d_MO_readGroup_56 : decode b_MO_readGroup 56 = .ok (.aload_n 0, 1) := by decide +kernel
theorem d_MO_readGroup_57 : decode b_MO_readGroup 57 = .ok (.iload_n 3, 1) := by decide +kernel
theorem d_MO_readGroup_58 : decode b_MO_readGroup 58 = .ok (.invokevirtual 297, 3) := by decide +kernel
theorem d_MO_readGroup_61 : decode b_MO_readGroup 61 = .ok (.invokestatic 389, 3) := by decide +kernel
theorem d_MO_readGroup_64 : decode b_MO_readGroup 64 = .ok (.ifCond .le 20, 3) := by decide +kernel
theorem d_MO_readGroup_67 : decode b_MO_readGroup 67 = .ok (.iload_n 2, 1) := by decide +kernel
theorem d_MO_readGroup_68 : decode b_MO_readGroup 68 = .ok (.aload_n 0, 1) := by decide +kernel
theorem d_MO_readGroup_69 : decode b_MO_readGroup 69 = .ok (.iload_n 3, 1) := by decide +kernel
theorem d_MO_readGroup_70 : decode b_MO_readGroup 70 = .ok (.invokevirtual 297, 3) := by decide +kernel
theorem d_MO_readGroup_73 : decode b_MO_readGroup 73 = .ok (.invokestatic 389, 3) := by decide +kernel
theorem d_MO_readGroup_76 : decode b_MO_readGroup 76 = .ok (.ior, 1) := by decide +kernel
theorem d_MO_readGroup_77 : decode b_MO_readGroup 77 = .ok (.istore_n 2, 1) := by decide +kernel
theorem d_MO_readGroup_78 : decode b_MO_readGroup 78 = .ok (.iinc 3 1, 3) := by decide +kernel
theorem d_MO_readGroup_81 : decode b_MO_readGroup 81 = .ok (.goto (-25), 3) := by decide +kernel
theorem d_MO_readGroup_84 : decode b_MO_readGroup 84 = .ok (.aload_n 0, 1) := by decide +kernel
theorem d_MO_readGroup_85 : decode b_MO_readGroup 85 = .ok (.iload_n 3, 1) := by decide +kernel
theorem d_MO_readGroup_86 : decode b_MO_readGroup 86 = .ok (.invokevirtual 297, 3) := by decide +kernel
theorem d_MO_readGroup_89 : decode b_MO_readGroup 89 = .ok (.bipush 45, 2) := by decide +kernel
theorem d_MO_readGroup_91 : decode b_MO_readGroup 91 = .ok (.if_icmp .ne 54, 3) := by decide +kernel
theorem d_MO_readGroup_94 : decode b_MO_readGroup 94 = .ok (.iinc 3 1, 3) := by decide +kernel
theorem d_MO_readGroup_97 : decode b_MO_readGroup 97 = .ok (.aload_n 0, 1) := by decide +kernel
theorem d_MO_readGroup_98 : decode b_MO_readGroup 98 = .ok (.iload_n 3, 1) := by decide +kernel
theorem d_MO_readGroup_99 : decode b_MO_readGroup 99 = .ok (.invokevirtual 297, 3) := by decide +kernel
theorem d_MO_readGroup_102 : decode b_MO_readGroup 102 = .ok (.invokestatic 389, 3) := by decide +kernel
theorem d_MO_readGroup_105 : decode b_MO_readGroup 105 = .ok (.ifCond .ne 10, 3) := by decide +kernel
theorem d_MO_readGroup_108 : decode b_MO_readGroup 108 = .ok (.aload_n 0, 1) := by decide +kernel
theorem d_MO_readGroup_109 : decode b_MO_readGroup 109 = .ok (.bipush 10, 2) := by decide +kernel
theorem d_MO_readGroup_111 : decode b_MO_readGroup 111 = .ok (.iload_n 1, 1) := by decide +kernel
theorem d_MO_readGroup_112 : decode b_MO_readGroup 112 = .ok (.invokevirtual 304, 3) := by decide +kernel
theorem d_MO_readGroup_115 : decode b_MO_readGroup 115 = .ok (.aload_n 0, 1) := by decide +kernel
theorem d_MO_readGroup_116 : decode b_MO_readGroup 116 = .ok (.iload_n 3, 1) := by decide +kernel
theorem d_MO_readGroup_117 : decode b_MO_readGroup 117 = .ok (.invokevirtual 297, 3) := by decide +kernel
theorem d_MO_readGroup_120 : decode b_MO_readGroup 120 = .ok (.invokestatic 389, 3) := by decide +kernel
theorem d_MO_readGroup_123 : decode b_MO_readGroup 123 = .ok (.ifCond .le 22, 3) := by decide +kernel
theorem d_MO_readGroup_126 : decode b_MO_readGroup 126 = .ok (.iload_n 2, 1) := by decide +kernel
theorem d_MO_readGroup_127 : decode b_MO_readGroup 127 = .ok (.aload_n 0, 1) := by decide +kernel
theorem d_MO_readGroup_128 : decode b_MO_readGroup 128 = .ok (.iload_n 3, 1) := by decide +kernel
theorem d_MO_readGroup_129 : decode b_MO_readGroup 129 = .ok (.invokevirtual 297, 3) := by decide +kernel
theorem d_MO_readGroup_132 : decode b_MO_readGroup 132 = .ok (.invokestatic 389, 3) := by decide +kernel
theorem d_MO_readGroup_135 : decode b_MO_readGroup 135 = .ok (.iconst (-1), 1) := by decide +kernel
theorem d_MO_readGroup_136 : decode b_MO_readGroup 136 = .ok (.ixor, 1) := by decide +kernel
theorem d_MO_readGroup_137 : decode b_MO_readGroup 137 = .ok (.iand, 1) := by decide +kernel
theorem d_MO_readGroup_138 : decode b_MO_readGroup 138 = .ok (.istore_n 2, 1) := by decide +kernel
theorem d_MO_readGroup_139 : decode b_MO_readGroup 139 = .ok (.iinc 3 1, 3) := by decide +kernel
theorem d_MO_readGroup_142 : decode b_MO_readGroup 142 = .ok (.goto (-27), 3) := by decide +kernel
theorem d_MO_readGroup_145 : decode b_MO_readGroup 145 = .ok (.aload_n 0, 1) := by decide +kernel
theorem d_MO_readGroup_146 : decode b_MO_readGroup 146 = .ok (.iload_n 3, 1) := by decide +kernel
theorem d_MO_readGroup_147 : decode b_MO_readGroup 147 = .ok (.invokevirtual 297, 3) := by decide +kernel
theorem d_MO_readGroup_150 : decode b_MO_readGroup 150 = .ok (.istore 4, 2) := by decide +kernel
theorem d_MO_readGroup_152 : decode b_MO_readGroup 152 = .ok (.iload 4, 2) := by decide +kernel
theorem d_MO_readGroup_154 : decode b_MO_readGroup 154 = .ok (.bipush 58, 2) := by decide +kernel
theorem d_MO_readGroup_156 : decode b_MO_readGroup 156 = .ok (.if_icmp .eq 20, 3) := by decide +kernel
theorem d_MO_readGroup_159 : decode b_MO_readGroup 159 = .ok (.iload 4, 2) := by decide +kernel
theorem d_MO_readGroup_161 : decode b_MO_readGroup 161 = .ok (.bipush 41, 2) := by decide +kernel
theorem d_MO_readGroup_163 : decode b_MO_readGroup 163 = .ok (.if_icmp .eq 13, 3) := by decide +kernel
theorem d_MO_readGroup_166 : decode b_MO_readGroup 166 = .ok (.aload_n 0, 1) := by decide +kernel
theorem d_MO_readGroup_167 : decode b_MO_readGroup 167 = .ok (.bipush 10, 2) := by decide +kernel
theorem d_MO_readGroup_169 : decode b_MO_readGroup 169 = .ok (.iload_n 1, 1) := by decide +kernel
theorem d_MO_readGroup_170 : decode b_MO_readGroup 170 = .ok (.invokevirtual 304, 3) := by decide +kernel
theorem d_MO_readGroup_173 : decode b_MO_readGroup 173 = .ok (.goto 26, 3) := by decide +kernel
theorem d_MO_readGroup_176 : decode b_MO_readGroup 176 = .ok (.iload 4, 2) := by decide +kernel
theorem d_MO_readGroup_178 : decode b_MO_readGroup 178 = .ok (.bipush 58, 2) := by decide +kernel
theorem d_MO_readGroup_180 : decode b_MO_readGroup 180 = .ok (.if_icmp .ne 19, 3) := by decide +kernel
theorem d_MO_readGroup_183 : decode b_MO_readGroup 183 = .ok (.aload_n 0, 1) := by decide +kernel
theorem d_MO_readGroup_184 : decode b_MO_readGroup 184 = .ok (.getfield 282, 3) := by decide +kernel
theorem d_MO_readGroup_187 : decode b_MO_readGroup 187 = .ok (.bipush 30, 2) := by decide +kernel
theorem d_MO_readGroup_189 : decode b_MO_readGroup 189 = .ok (.if_icmp .ne 10, 3) := by decide +kernel
theorem d_MO_readGroup_192 : decode b_MO_readGroup 192 = .ok (.aload_n 0, 1) := by decide +kernel
theorem d_MO_readGroup_193 : decode b_MO_readGroup 193 = .ok (.bipush 12, 2) := by decide +kernel
theorem d_MO_readGroup_195 : decode b_MO_readGroup 195 = .ok (.iload_n 1, 1) := by decide +kernel
theorem d_MO_readGroup_196 : decode b_MO_readGroup 196 = .ok (.invokevirtual 304, 3) := by decide +kernel
theorem d_MO_readGroup_199 : decode b_MO_readGroup 199 = .ok (.aload_n 0, 1) := by decide +kernel
theorem d_MO_readGroup_200 : decode b_MO_readGroup 200 = .ok (.getfield 273, 3) := by decide +kernel
theorem d_MO_readGroup_203 : decode b_MO_readGroup 203 = .ok (.ifCond .le 4, 3) := by decide +kernel
theorem d_MO_readGroup_206 : decode b_MO_readGroup 206 = .ok (.return_, 1) := by decide +kernel
theorem d_MO_readGroup_207 : decode b_MO_readGroup 207 = .ok (.aload_n 0, 1) := by decide +kernel
theorem d_MO_readGroup_208 : decode b_MO_readGroup 208 = .ok (.dup, 1) := by decide +kernel
theorem d_MO_readGroup_209 : decode b_MO_readGroup 209 = .ok (.getfield 279, 3) := by decide +kernel
theorem d_MO_readGroup_212 : decode b_MO_readGroup 212 = .ok (.iload_n 3, 1) := by decide +kernel
theorem d_MO_readGroup_213 : decode b_MO_readGroup 213 = .ok (.iconst 1, 1) := by decide +kernel
theorem d_MO_readGroup_214 : decode b_MO_readGroup 214 = .ok (.iadd, 1) := by decide +kernel
theorem d_MO_readGroup_215 : decode b_MO_readGroup 215 = .ok (.iadd, 1) := by decide +kernel
theorem d_MO_readGroup_216 : decode b_MO_readGroup 216 = .ok (.putfield 279, 3) := by decide +kernel
theorem d_MO_readGroup_219 : decode b_MO_readGroup 219 = .ok (.iload 4, 2) := by decide +kernel
theorem d_MO_readGroup_221 : decode b_MO_readGroup 221 = .ok (.bipush 41, 2) := by decide +kernel
theorem d_MO_readGroup_223 : decode b_MO_readGroup 223 = .ok (.if_icmp .ne 21, 3) := by decide +kernel
theorem d_MO_readGroup_226 : decode b_MO_readGroup 226 = .ok (.aload_n 0, 1) := by decide +kernel
theorem d_MO_readGroup_227 : decode b_MO_readGroup 227 = .ok (.iload_n 2, 1) := by decide +kernel
theorem d_MO_readGroup_228 : decode b_MO_readGroup 228 = .ok (.putfield 276, 3) := by decide +kernel
theorem d_MO_readGroup_231 : decode b_MO_readGroup 231 = .ok (.aload_n 0, 1) := by decide +kernel
theorem d_MO_readGroup_232 : decode b_MO_readGroup 232 = .ok (.aload_n 0, 1) := by decide +kernel
theorem d_MO_readGroup_233 : decode b_MO_readGroup 233 = .ok (.iconst 0, 1) := by decide +kernel
theorem d_MO_readGroup_234 : decode b_MO_readGroup 234 = .ok (.iconst 0, 1) := by decide +kernel
theorem d_MO_readGroup_235 : decode b_MO_readGroup 235 = .ok (.lconst 0, 1) := by decide +kernel
theorem d_MO_readGroup_236 : decode b_MO_readGroup 236 = .ok (.invokevirtual 269, 3) := by decide +kernel
theorem d_MO_readGroup_239 : decode b_MO_readGroup 239 = .ok (.iconst 2, 1) := by decide +kernel
theorem d_MO_readGroup_240 : decode b_MO_readGroup 240 = .ok (.invokevirtual 375, 3) := by decide +kernel
theorem d_MO_readGroup_243 : decode b_MO_readGroup 243 = .ok (.return_, 1) := by decide +kernel
theorem d_MO_readGroup_244 : decode b_MO_readGroup 244 = .ok (.aload_n 0, 1) := by decide +kernel
theorem d_MO_readGroup_245 : decode b_MO_readGroup 245 = .ok (.dup, 1) := by decide +kernel
theorem d_MO_readGroup_246 : decode b_MO_readGroup 246 = .ok (.getfield 282, 3) := by decide +kernel
theorem d_MO_readGroup_249 : decode b_MO_readGroup 249 = .ok (.iconst 1, 1) := by decide +kernel
theorem d_MO_readGroup_250 : decode b_MO_readGroup 250 = .ok (.iadd, 1) := by decide +kernel
theorem d_MO_readGroup_251 : decode b_MO_readGroup 251 = .ok (.putfield 282, 3) := by decide +kernel
theorem d_MO_readGroup_254 : decode b_MO_readGroup 254 = .ok (.aload_n 0, 1) := by decide +kernel
theorem d_MO_readGroup_255 : decode b_MO_readGroup 255 = .ok (.iload_n 1, 1) := by decide +kernel
theorem d_MO_readGroup_256 : decode b_MO_readGroup 256 = .ok (.aload_n 0, 1) := by decide +kernel
theorem d_MO_readGroup_257 : decode b_MO_readGroup 257 = .ok (.getfield 276, 3) := by decide +kernel
theorem d_MO_readGroup_260 : decode b_MO_readGroup 260 = .ok (.iconst 0, 1) := by decide +kernel
theorem d_MO_readGroup_261 : decode b_MO_readGroup 261 = .ok (.invokevirtual 392, 3) := by decide +kernel
theorem d_MO_readGroup_264 : decode b_MO_readGroup 264 = .ok (.aload_n 0, 1) := by decide +kernel
theorem d_MO_readGroup_265 : decode b_MO_readGroup 265 = .ok (.iload_n 2, 1) := by decide +kernel
theorem d_MO_readGroup_266 : decode b_MO_readGroup 266 = .ok (.putfield 276, 3) := by decide +kernel
theorem d_MO_readGroup_269 : decode b_MO_readGroup 269 = .ok (.return_, 1) := by decide +kernel
theorem d_MO_readName_0 : decode b_MO_readName 0 = .ok (.aload_n 0, 1) := by decide +kernel
theorem d_MO_readName_1 : decode b_MO_readName 1 = .ok (.getfield 279, 3) := by decide +kernel
theorem d_MO_readName_4 : decode b_MO_readName 4 = .ok (.iconst 4, 1) := by decide +kernel
theorem d_MO_readName_5 : decode b_MO_readName 5 = .ok (.iadd, 1) := by decide +kernel
theorem d_MO_readName_6 : decode b_MO_readName 6 = .ok (.istore_n 2, 1) := by decide +kernel
theorem d_MO_readName_7 : decode b_MO_readName 7 = .ok (.iconst 0, 1) := by decide +kernel
theorem d_MO_readName_8 : decode b_MO_readName 8 = .ok (.istore_n 3, 1) := by decide +kernel
theorem d_MO_readName_9 : decode b_MO_readName 9 = .ok (.iload_n 3, 1) := by decide +kernel
theorem d_MO_readName_10 : decode b_MO_readName 10 = .ok (.bipush 13, 2) := by decide +kernel
theorem d_MO_readName_12 : decode b_MO_readName 12 = .ok (.if_icmp .ge 32, 3) := by decide +kernel
theorem d_MO_readName_15 : decode b_MO_readName 15 = .ok (.aload_n 0, 1) := by decide +kernel
theorem d_MO_readName_16 : decode b_MO_readName 16 = .ok (.iconst 4, 1) := by decide +kernel
theorem d_MO_readName_17 : decode b_MO_readName 17 = .ok (.iload_n 3, 1) := by decide +kernel
theorem d_MO_readName_18 : decode b_MO_readName 18 = .ok (.iadd, 1) := by decide +kernel
theorem d_MO_readName_19 : decode b_MO_readName 19 = .ok (.invokevirtual 297, 3) := by decide +kernel
theorem d_MO_readName_22 : decode b_MO_readName 22 = .ok (.ifCond .lt 22, 3) := by decide +kernel
theorem d_MO_readName_25 : decode b_MO_readName 25 = .ok (.aload_n 0, 1) := by decide +kernel
theorem d_MO_readName_26 : decode b_MO_readName 26 = .ok (.iconst 4, 1) := by decide +kernel
theorem d_MO_readName_27 : decode b_MO_readName 27 = .ok (.iload_n 3, 1) := by decide +kernel
theorem d_MO_readName_28 : decode b_MO_readName 28 = .ok (.iadd, 1) := by decide +kernel
theorem d_MO_readName_29 : decode b_MO_readName 29 = .ok (.invokevirtual 297, 3) := by decide +kernel
theorem d_MO_readName_32 : decode b_MO_readName 32 = .ok (.invokestatic 326, 3) := by decide +kernel
theorem d_MO_readName_35 : decode b_MO_readName 35 = .ok (.ifCond .eq 9, 3) := by decide +kernel
theorem d_MO_readName_38 : decode b_MO_readName 38 = .ok (.iinc 3 1, 3) := by decide +kernel
theorem d_MO_readName_41 : decode b_MO_readName 41 = .ok (.goto (-32), 3) := by decide +kernel
theorem d_MO_readName_44 : decode b_MO_readName 44 = .ok (.aload_n 0, 1) := by decide +kernel
theorem d_MO_readName_45 : decode b_MO_readName 45 = .ok (.iconst 3, 1) := by decide +kernel
theorem d_MO_readName_46 : decode b_MO_readName 46 = .ok (.invokevirtual 297, 3) := by decide +kernel
theorem d_MO_readName_49 : decode b_MO_readName 49 = .ok (.bipush 60, 2) := by decide +kernel
theorem d_MO_readName_51 : decode b_MO_readName 51 = .ok (.if_icmp .ne 26, 3) := by decide +kernel
theorem d_MO_readName_54 : decode b_MO_readName 54 = .ok (.iload_n 3, 1) := by decide +kernel
theorem d_MO_readName_55 : decode b_MO_readName 55 = .ok (.iconst 1, 1) := by decide +kernel
theorem d_MO_readName_56 : decode b_MO_readName 56 = .ok (.if_icmp .lt 21, 3) := by decide +kernel
theorem d_MO_readName_59 : decode b_MO_readName 59 = .ok (.iload_n 3, 1) := by decide +kernel
theorem d_MO_readName_60 : decode b_MO_readName 60 = .ok (.bipush 12, 2) := by decide +kernel
theorem d_MO_readName_62 : decode b_MO_readName 62 = .ok (.if_icmp .gt 15, 3) := by decide +kernel
theorem d_MO_readName_65 : decode b_MO_readName 65 = .ok (.aload_n 0, 1) := by decide +kernel
theorem d_MO_readName_66 : decode b_MO_readName 66 = .ok (.iconst 4, 1) := by decide +kernel
theorem d_MO_readName_67 : decode b_MO_readName 67 = .ok (.iload_n 3, 1) := by decide +kernel
theorem d_MO_readName_68 : decode b_MO_readName 68 = .ok (.iadd, 1) := by decide +kernel
theorem d_MO_readName_69 : decode b_MO_readName 69 = .ok (.invokevirtual 297, 3) := by decide +kernel
theorem d_MO_readName_72 : decode b_MO_readName 72 = .ok (.bipush 62, 2) := by decide +kernel
theorem d_MO_readName_74 : decode b_MO_readName 74 = .ok (.if_icmp .eq 11, 3) := by decide +kernel
theorem d_MO_readName_77 : decode b_MO_readName 77 = .ok (.aload_n 0, 1) := by decide +kernel
theorem d_MO_readName_78 : decode b_MO_readName 78 = .ok (.bipush 10, 2) := by decide +kernel
theorem d_MO_readName_80 : decode b_MO_readName 80 = .ok (.iload_n 1, 1) := by decide +kernel
theorem d_MO_readName_81 : decode b_MO_readName 81 = .ok (.invokevirtual 304, 3) := by decide +kernel
theorem d_MO_readName_84 : decode b_MO_readName 84 = .ok (.return_, 1) := by decide +kernel
theorem d_MO_readName_85 : decode b_MO_readName 85 = .ok (.iconst 1, 1) := by decide +kernel
theorem d_MO_readName_86 : decode b_MO_readName 86 = .ok (.istore 4, 2) := by decide +kernel
theorem d_MO_readName_88 : decode b_MO_readName 88 = .ok (.iload 4, 2) := by decide +kernel
theorem d_MO_readName_90 : decode b_MO_readName 90 = .ok (.aload_n 0, 1) := by decide +kernel
theorem d_MO_readName_91 : decode b_MO_readName 91 = .ok (.getfield 395, 3) := by decide +kernel
theorem d_MO_readName_94 : decode b_MO_readName 94 = .ok (.if_icmp .gt 98, 3) := by decide +kernel
theorem d_MO_readName_97 : decode b_MO_readName 97 = .ok (.iload 4, 2) := by decide +kernel
theorem d_MO_readName_99 : decode b_MO_readName 99 = .ok (.bipush 10, 2) := by decide +kernel
theorem d_MO_readName_101 : decode b_MO_readName 101 = .ok (.if_icmp .ge 91, 3) := by decide +kernel
theorem d_MO_readName_104 : decode b_MO_readName 104 = .ok (.aload_n 0, 1) := by decide +kernel
theorem d_MO_readName_105 : decode b_MO_readName 105 = .ok (.getfield 106, 3) := by decide +kernel
theorem d_MO_readName_108 : decode b_MO_readName 108 = .ok (.iload 4, 2) := by decide +kernel
theorem d_MO_readName_110 : decode b_MO_readName 110 = .ok (.iaload, 1) := by decide +kernel
theorem d_MO_readName_111 : decode b_MO_readName 111 = .ok (.iload_n 3, 1) := by decide +kernel
theorem d_MO_readName_112 : decode b_MO_readName 112 = .ok (.if_icmp .ne 7, 3) := by decide +kernel
theorem d_MO_readName_115 : decode b_MO_readName 115 = .ok (.iconst 1, 1) := by decide +kernel
theorem d_MO_readName_116 : decode b_MO_readName 116 = .ok (.goto 4, 3) := by decide +kernel
theorem d_MO_readName_119 : decode b_MO_readName 119 = .ok (.iconst 0, 1) := by decide +kernel
theorem d_MO_readName_120 : decode b_MO_readName 120 = .ok (.istore 5, 2) := by decide +kernel
theorem d_MO_readName_122 : decode b_MO_readName 122 = .ok (.iconst 0, 1) := by decide +kernel
theorem d_MO_readName_123 : decode b_MO_readName 123 = .ok (.istore 6, 2) := by decide +kernel
theorem d_MO_readName_125 : decode b_MO_readName 125 = .ok (.iload 6, 2) := by decide +kernel
theorem d_MO_readName_127 : decode b_MO_readName 127 = .ok (.iload_n 3, 1) := by decide +kernel
theorem d_MO_readName_128 : decode b_MO_readName 128 = .ok (.if_icmp .ge 46, 3) := by decide +kernel
theorem d_MO_readName_131 : decode b_MO_readName 131 = .ok (.iload 5, 2) := by decide +kernel
theorem d_MO_readName_133 : decode b_MO_readName 133 = .ok (.ifCond .eq 41, 3) := by decide +kernel
theorem d_MO_readName_136 : decode b_MO_readName 136 = .ok (.aload_n 0, 1) := by decide +kernel
theorem d_MO_readName_137 : decode b_MO_readName 137 = .ok (.getfield 103, 3) := by decide +kernel
theorem d_MO_readName_140 : decode b_MO_readName 140 = .ok (.bipush 12, 2) := by decide +kernel
theorem d_MO_readName_142 : decode b_MO_readName 142 = .ok (.iload 4, 2) := by decide +kernel
theorem d_MO_readName_144 : decode b_MO_readName 144 = .ok (.imul, 1) := by decide +kernel
theorem d_MO_readName_145 : decode b_MO_readName 145 = .ok (.iload 6, 2) := by decide +kernel
theorem d_MO_readName_147 : decode b_MO_readName 147 = .ok (.iadd, 1) := by decide +kernel
theorem d_MO_readName_148 : decode b_MO_readName 148 = .ok (.iaload, 1) := by decide +kernel
theorem d_MO_readName_149 : decode b_MO_readName 149 = .ok (.aload_n 0, 1) := by decide +kernel
theorem d_MO_readName_150 : decode b_MO_readName 150 = .ok (.getfield 19, 3) := by decide +kernel
theorem d_MO_readName_153 : decode b_MO_readName 153 = .ok (.iload_n 2, 1) := by decide +kernel
theorem d_MO_readName_154 : decode b_MO_readName 154 = .ok (.iload 6, 2) := by decide +kernel
theorem d_MO_readName_156 : decode b_MO_readName 156 = .ok (.iadd, 1) := by decide +kernel
theorem d_MO_readName_157 : decode b_MO_readName 157 = .ok (.iaload, 1) := by decide +kernel
theorem d_MO_readName_158 : decode b_MO_readName 158 = .ok (.if_icmp .ne 7, 3) := by decide +kernel
theorem d_MO_readName_161 : decode b_MO_readName 161 = .ok (.iconst 1, 1) := by decide +kernel
theorem d_MO_readName_162 : decode b_MO_readName 162 = .ok (.goto 4, 3) := by decide +kernel
theorem d_MO_readName_165 : decode b_MO_readName 165 = .ok (.iconst 0, 1) := by decide +kernel
theorem d_MO_readName_166 : decode b_MO_readName 166 = .ok (.istore 5, 2) := by decide +kernel
theorem d_MO_readName_168 : decode b_MO_readName 168 = .ok (.iinc 6 1, 3) := by decide +kernel
theorem d_MO_readName_171 : decode b_MO_readName 171 = .ok (.goto (-46), 3) := by decide +kernel
theorem d_MO_readName_174 : decode b_MO_readName 174 = .ok (.iload 5, 2) := by decide +kernel
theorem d_MO_readName_176 : decode b_MO_readName 176 = .ok (.ifCond .eq 10, 3) := by decide +kernel
theorem d_MO_readName_179 : decode b_MO_readName 179 = .ok (.aload_n 0, 1) := by decide +kernel
theorem d_MO_readName_180 : decode b_MO_readName 180 = .ok (.bipush 11, 2) := by decide +kernel
theorem d_MO_readName_182 : decode b_MO_readName 182 = .ok (.iload_n 1, 1) := by decide +kernel
theorem d_MO_readName_183 : decode b_MO_readName 183 = .ok (.invokevirtual 304, 3) := by decide +kernel
theorem d_MO_readName_186 : decode b_MO_readName 186 = .ok (.iinc 4 1, 3) := by decide +kernel
theorem d_MO_readName_189 : decode b_MO_readName 189 = .ok (.goto (-101), 3) := by decide +kernel
theorem d_MO_readName_192 : decode b_MO_readName 192 = .ok (.aload_n 0, 1) := by decide +kernel
theorem d_MO_readName_193 : decode b_MO_readName 193 = .ok (.dup, 1) := by decide +kernel
theorem d_MO_readName_194 : decode b_MO_readName 194 = .ok (.getfield 279, 3) := by decide +kernel
theorem d_MO_readName_197 : decode b_MO_readName 197 = .ok (.iconst 5, 1) := by decide +kernel
theorem d_MO_readName_198 : decode b_MO_readName 198 = .ok (.iload_n 3, 1) := by decide +kernel
theorem d_MO_readName_199 : decode b_MO_readName 199 = .ok (.iadd, 1) := by decide +kernel
theorem d_MO_readName_200 : decode b_MO_readName 200 = .ok (.iadd, 1) := by decide +kernel
theorem d_MO_readName_201 : decode b_MO_readName 201 = .ok (.putfield 279, 3) := by decide +kernel
theorem d_MO_readName_204 : decode b_MO_readName 204 = .ok (.aload_n 0, 1) := by decide +kernel
theorem d_MO_readName_205 : decode b_MO_readName 205 = .ok (.getfield 273, 3) := by decide +kernel
theorem d_MO_readName_208 : decode b_MO_readName 208 = .ok (.ifCond .ne 10, 3) := by decide +kernel
theorem d_MO_readName_211 : decode b_MO_readName 211 = .ok (.aload_n 0, 1) := by decide +kernel
theorem d_MO_readName_212 : decode b_MO_readName 212 = .ok (.iload_n 1, 1) := by decide +kernel
theorem d_MO_readName_213 : decode b_MO_readName 213 = .ok (.iload_n 2, 1) := by decide +kernel
theorem d_MO_readName_214 : decode b_MO_readName 214 = .ok (.iload_n 3, 1) := by decide +kernel
theorem d_MO_readName_215 : decode b_MO_readName 215 = .ok (.invokevirtual 382, 3) := by decide +kernel
theorem d_MO_readName_218 : decode b_MO_readName 218 = .ok (.return_, 1) := by decide +kernel
