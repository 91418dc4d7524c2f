theorem d_MO_closeRound_0 : decode b_MO_closeRound 0 = .ok (.aload_n 0, 1) := by decide +kernel
theorem d_MO_closeRound_1 : decode b_MO_closeRound 1 = .ok (.getfield 158, 3) := by decide +kernel
theorem d_MO_closeRound_4 : decode b_MO_closeRound 4 = .ok (.iload_n 1, 1) := by decide +kernel
theorem d_MO_closeRound_5 : decode b_MO_closeRound 5 = .ok (.iaload, 1) := by decide +kernel
theorem d_MO_closeRound_6 : decode b_MO_closeRound 6 = .ok (.istore_n 2, 1) := by decide +kernel
theorem d_MO_closeRound_7 : decode b_MO_closeRound 7 = .ok (.iconst 0, 1) := by decide +kernel
theorem d_MO_closeRound_8 : decode b_MO_closeRound 8 = .ok (.istore_n 3, 1) := by decide +kernel
theorem d_MO_closeRound_9 : decode b_MO_closeRound 9 = .ok (.iload_n 3, 1) := by decide +kernel
theorem d_MO_closeRound_10 : decode b_MO_closeRound 10 = .ok (.aload_n 0, 1) := by decide +kernel
theorem d_MO_closeRound_11 : decode b_MO_closeRound 11 = .ok (.getfield 161, 3) := by decide +kernel
theorem d_MO_closeRound_14 : decode b_MO_closeRound 14 = .ok (.iload_n 1, 1) := by decide +kernel
theorem d_MO_closeRound_15 : decode b_MO_closeRound 15 = .ok (.iaload, 1) := by decide +kernel
theorem d_MO_closeRound_16 : decode b_MO_closeRound 16 = .ok (.if_icmp .gt 112, 3) := by decide +kernel
theorem d_MO_closeRound_19 : decode b_MO_closeRound 19 = .ok (.sipush 12500, 3) := by decide +kernel
theorem d_MO_closeRound_22 : decode b_MO_closeRound 22 = .ok (.aload_n 0, 1) := by decide +kernel
theorem d_MO_closeRound_23 : decode b_MO_closeRound 23 = .ok (.getfield 438, 3) := by decide +kernel
theorem d_MO_closeRound_26 : decode b_MO_closeRound 26 = .ok (.imul, 1) := by decide +kernel
theorem d_MO_closeRound_27 : decode b_MO_closeRound 27 = .ok (.aload_n 0, 1) := by decide +kernel
theorem d_MO_closeRound_28 : decode b_MO_closeRound 28 = .ok (.getfield 174, 3) := by decide +kernel
theorem d_MO_closeRound_31 : decode b_MO_closeRound 31 = .ok (.aload_n 0, 1) := by decide +kernel
theorem d_MO_closeRound_32 : decode b_MO_closeRound 32 = .ok (.getfield 167, 3) := by decide +kernel
theorem d_MO_closeRound_35 : decode b_MO_closeRound 35 = .ok (.iload_n 1, 1) := by decide +kernel
theorem d_MO_closeRound_36 : decode b_MO_closeRound 36 = .ok (.iaload, 1) := by decide +kernel
theorem d_MO_closeRound_37 : decode b_MO_closeRound 37 = .ok (.iload_n 3, 1) := by decide +kernel
theorem d_MO_closeRound_38 : decode b_MO_closeRound 38 = .ok (.iadd, 1) := by decide +kernel
theorem d_MO_closeRound_39 : decode b_MO_closeRound 39 = .ok (.iaload, 1) := by decide +kernel
theorem d_MO_closeRound_40 : decode b_MO_closeRound 40 = .ok (.iadd, 1) := by decide +kernel
theorem d_MO_closeRound_41 : decode b_MO_closeRound 41 = .ok (.istore 4, 2) := by decide +kernel
theorem d_MO_closeRound_43 : decode b_MO_closeRound 43 = .ok (.aload_n 0, 1) := by decide +kernel
theorem d_MO_closeRound_44 : decode b_MO_closeRound 44 = .ok (.getfield 174, 3) := by decide +kernel
theorem d_MO_closeRound_47 : decode b_MO_closeRound 47 = .ok (.aload_n 0, 1) := by decide +kernel
theorem d_MO_closeRound_48 : decode b_MO_closeRound 48 = .ok (.getfield 164, 3) := by decide +kernel
theorem d_MO_closeRound_51 : decode b_MO_closeRound 51 = .ok (.iload_n 1, 1) := by decide +kernel
theorem d_MO_closeRound_52 : decode b_MO_closeRound 52 = .ok (.iaload, 1) := by decide +kernel
theorem d_MO_closeRound_53 : decode b_MO_closeRound 53 = .ok (.iload_n 3, 1) := by decide +kernel
theorem d_MO_closeRound_54 : decode b_MO_closeRound 54 = .ok (.iadd, 1) := by decide +kernel
theorem d_MO_closeRound_55 : decode b_MO_closeRound 55 = .ok (.iaload, 1) := by decide +kernel
theorem d_MO_closeRound_56 : decode b_MO_closeRound 56 = .ok (.istore 5, 2) := by decide +kernel
theorem d_MO_closeRound_58 : decode b_MO_closeRound 58 = .ok (.aload_n 0, 1) := by decide +kernel
theorem d_MO_closeRound_59 : decode b_MO_closeRound 59 = .ok (.getfield 131, 3) := by decide +kernel
theorem d_MO_closeRound_62 : decode b_MO_closeRound 62 = .ok (.iload 4, 2) := by decide +kernel
theorem d_MO_closeRound_64 : decode b_MO_closeRound 64 = .ok (.aload_n 0, 1) := by decide +kernel
theorem d_MO_closeRound_65 : decode b_MO_closeRound 65 = .ok (.getfield 72, 3) := by decide +kernel
theorem d_MO_closeRound_68 : decode b_MO_closeRound 68 = .ok (.iload_n 2, 1) := by decide +kernel
theorem d_MO_closeRound_69 : decode b_MO_closeRound 69 = .ok (.baload, 1) := by decide +kernel
theorem d_MO_closeRound_70 : decode b_MO_closeRound 70 = .ok (.ifCond .eq 8, 3) := by decide +kernel
theorem d_MO_closeRound_73 : decode b_MO_closeRound 73 = .ok (.iload 5, 2) := by decide +kernel
theorem d_MO_closeRound_75 : decode b_MO_closeRound 75 = .ok (.goto 14, 3) := by decide +kernel
theorem d_MO_closeRound_78 : decode b_MO_closeRound 78 = .ok (.aload_n 0, 1) := by decide +kernel
theorem d_MO_closeRound_79 : decode b_MO_closeRound 79 = .ok (.getfield 174, 3) := by decide +kernel
theorem d_MO_closeRound_82 : decode b_MO_closeRound 82 = .ok (.aload_n 0, 1) := by decide +kernel
theorem d_MO_closeRound_83 : decode b_MO_closeRound 83 = .ok (.getfield 448, 3) := by decide +kernel
theorem d_MO_closeRound_86 : decode b_MO_closeRound 86 = .ok (.iload_n 3, 1) := by decide +kernel
theorem d_MO_closeRound_87 : decode b_MO_closeRound 87 = .ok (.iadd, 1) := by decide +kernel
theorem d_MO_closeRound_88 : decode b_MO_closeRound 88 = .ok (.iaload, 1) := by decide +kernel
theorem d_MO_closeRound_89 : decode b_MO_closeRound 89 = .ok (.iastore, 1) := by decide +kernel
theorem d_MO_closeRound_90 : decode b_MO_closeRound 90 = .ok (.aload_n 0, 1) := by decide +kernel
theorem d_MO_closeRound_91 : decode b_MO_closeRound 91 = .ok (.getfield 134, 3) := by decide +kernel
theorem d_MO_closeRound_94 : decode b_MO_closeRound 94 = .ok (.iload 4, 2) := by decide +kernel
theorem d_MO_closeRound_96 : decode b_MO_closeRound 96 = .ok (.aload_n 0, 1) := by decide +kernel
theorem d_MO_closeRound_97 : decode b_MO_closeRound 97 = .ok (.getfield 72, 3) := by decide +kernel
theorem d_MO_closeRound_100 : decode b_MO_closeRound 100 = .ok (.iload_n 2, 1) := by decide +kernel
theorem d_MO_closeRound_101 : decode b_MO_closeRound 101 = .ok (.baload, 1) := by decide +kernel
theorem d_MO_closeRound_102 : decode b_MO_closeRound 102 = .ok (.ifCond .eq 17, 3) := by decide +kernel
theorem d_MO_closeRound_105 : decode b_MO_closeRound 105 = .ok (.aload_n 0, 1) := by decide +kernel
theorem d_MO_closeRound_106 : decode b_MO_closeRound 106 = .ok (.getfield 174, 3) := by decide +kernel
theorem d_MO_closeRound_109 : decode b_MO_closeRound 109 = .ok (.aload_n 0, 1) := by decide +kernel
theorem d_MO_closeRound_110 : decode b_MO_closeRound 110 = .ok (.getfield 448, 3) := by decide +kernel
theorem d_MO_closeRound_113 : decode b_MO_closeRound 113 = .ok (.iload_n 3, 1) := by decide +kernel
theorem d_MO_closeRound_114 : decode b_MO_closeRound 114 = .ok (.iadd, 1) := by decide +kernel
theorem d_MO_closeRound_115 : decode b_MO_closeRound 115 = .ok (.iaload, 1) := by decide +kernel
theorem d_MO_closeRound_116 : decode b_MO_closeRound 116 = .ok (.goto 5, 3) := by decide +kernel
theorem d_MO_closeRound_119 : decode b_MO_closeRound 119 = .ok (.iload 5, 2) := by decide +kernel
theorem d_MO_closeRound_121 : decode b_MO_closeRound 121 = .ok (.iastore, 1) := by decide +kernel
theorem d_MO_closeRound_122 : decode b_MO_closeRound 122 = .ok (.iinc 3 1, 3) := by decide +kernel
theorem d_MO_closeRound_125 : decode b_MO_closeRound 125 = .ok (.goto (-116), 3) := by decide +kernel
theorem d_MO_closeRound_128 : decode b_MO_closeRound 128 = .ok (.return_, 1) := by decide +kernel
theorem d_MO_compile_0 : decode b_MO_compile 0 = .ok (.aload_n 0, 1) := by decide +kernel
theorem d_MO_compile_1 : decode b_MO_compile 1 = .ok (.iload_n 1, 1) := by decide +kernel
theorem d_MO_compile_2 : decode b_MO_compile 2 = .ok (.ifCond .lt 18, 3) := by decide +kernel
theorem d_MO_compile_5 : decode b_MO_compile 5 = .ok (.iload_n 1, 1) := by decide +kernel
theorem d_MO_compile_6 : decode b_MO_compile 6 = .ok (.iconst 5, 1) := by decide +kernel
theorem d_MO_compile_7 : decode b_MO_compile 7 = .ok (.if_icmp .gt 13, 3) := by decide +kernel
theorem d_MO_compile_10 : decode b_MO_compile 10 = .ok (.iload_n 2, 1) := by decide +kernel
theorem d_MO_compile_11 : decode b_MO_compile 11 = .ok (.ifCond .lt 9, 3) := by decide +kernel
theorem d_MO_compile_14 : decode b_MO_compile 14 = .ok (.iload_n 2, 1) := by decide +kernel
theorem d_MO_compile_15 : decode b_MO_compile 15 = .ok (.bipush 31, 2) := by decide +kernel
theorem d_MO_compile_17 : decode b_MO_compile 17 = .ok (.if_icmp .le 7, 3) := by decide +kernel
theorem d_MO_compile_20 : decode b_MO_compile 20 = .ok (.iconst 1, 1) := by decide +kernel
theorem d_MO_compile_21 : decode b_MO_compile 21 = .ok (.goto 4, 3) := by decide +kernel
theorem d_MO_compile_24 : decode b_MO_compile 24 = .ok (.iconst 0, 1) := by decide +kernel
theorem d_MO_compile_25 : decode b_MO_compile 25 = .ok (.putfield 220, 3) := by decide +kernel
theorem d_MO_compile_28 : decode b_MO_compile 28 = .ok (.aload_n 0, 1) := by decide +kernel
theorem d_MO_compile_29 : decode b_MO_compile 29 = .ok (.getfield 220, 3) := by decide +kernel
theorem d_MO_compile_32 : decode b_MO_compile 32 = .ok (.ifCond .le 5, 3) := by decide +kernel
theorem d_MO_compile_35 : decode b_MO_compile 35 = .ok (.iconst 0, 1) := by decide +kernel
theorem d_MO_compile_36 : decode b_MO_compile 36 = .ok (.ireturn, 1) := by decide +kernel
theorem d_MO_compile_37 : decode b_MO_compile 37 = .ok (.aload_n 0, 1) := by decide +kernel
theorem d_MO_compile_38 : decode b_MO_compile 38 = .ok (.iload_n 2, 1) := by decide +kernel
theorem d_MO_compile_39 : decode b_MO_compile 39 = .ok (.bipush 15, 2) := by decide +kernel
theorem d_MO_compile_41 : decode b_MO_compile 41 = .ok (.iand, 1) := by decide +kernel
theorem d_MO_compile_42 : decode b_MO_compile 42 = .ok (.invokevirtual 501, 3) := by decide +kernel
theorem d_MO_compile_45 : decode b_MO_compile 45 = .ok (.istore_n 3, 1) := by decide +kernel
theorem d_MO_compile_46 : decode b_MO_compile 46 = .ok (.aload_n 0, 1) := by decide +kernel
theorem d_MO_compile_47 : decode b_MO_compile 47 = .ok (.iconst 0, 1) := by decide +kernel
theorem d_MO_compile_48 : decode b_MO_compile 48 = .ok (.putfield 223, 3) := by decide +kernel
theorem d_MO_compile_51 : decode b_MO_compile 51 = .ok (.aload_n 0, 1) := by decide +kernel
theorem d_MO_compile_52 : decode b_MO_compile 52 = .ok (.aload_n 0, 1) := by decide +kernel
theorem d_MO_compile_53 : decode b_MO_compile 53 = .ok (.getfield 273, 3) := by decide +kernel
theorem d_MO_compile_56 : decode b_MO_compile 56 = .ok (.ifCond .le 7, 3) := by decide +kernel
theorem d_MO_compile_59 : decode b_MO_compile 59 = .ok (.iconst 1, 1) := by decide +kernel
theorem d_MO_compile_60 : decode b_MO_compile 60 = .ok (.goto 4, 3) := by decide +kernel
theorem d_MO_compile_63 : decode b_MO_compile 63 = .ok (.iconst 0, 1) := by decide +kernel
theorem d_MO_compile_64 : decode b_MO_compile 64 = .ok (.putfield 220, 3) := by decide +kernel
theorem d_MO_compile_67 : decode b_MO_compile 67 = .ok (.aload_n 0, 1) := by decide +kernel
theorem d_MO_compile_68 : decode b_MO_compile 68 = .ok (.getfield 220, 3) := by decide +kernel
theorem d_MO_compile_71 : decode b_MO_compile 71 = .ok (.ifCond .le 5, 3) := by decide +kernel
theorem d_MO_compile_74 : decode b_MO_compile 74 = .ok (.iconst 0, 1) := by decide +kernel
theorem d_MO_compile_75 : decode b_MO_compile 75 = .ok (.ireturn, 1) := by decide +kernel
theorem d_MO_compile_76 : decode b_MO_compile 76 = .ok (.aload_n 0, 1) := by decide +kernel
theorem d_MO_compile_77 : decode b_MO_compile 77 = .ok (.iload_n 1, 1) := by decide +kernel
theorem d_MO_compile_78 : decode b_MO_compile 78 = .ok (.putfield 438, 3) := by decide +kernel
theorem d_MO_compile_81 : decode b_MO_compile 81 = .ok (.aload_n 0, 1) := by decide +kernel
theorem d_MO_compile_82 : decode b_MO_compile 82 = .ok (.getfield 109, 3) := by decide +kernel
theorem d_MO_compile_85 : decode b_MO_compile 85 = .ok (.iload_n 1, 1) := by decide +kernel
theorem d_MO_compile_86 : decode b_MO_compile 86 = .ok (.iconst 1, 1) := by decide +kernel
theorem d_MO_compile_87 : decode b_MO_compile 87 = .ok (.bastore, 1) := by decide +kernel
theorem d_MO_compile_88 : decode b_MO_compile 88 = .ok (.aload_n 0, 1) := by decide +kernel
theorem d_MO_compile_89 : decode b_MO_compile 89 = .ok (.getfield 115, 3) := by decide +kernel
theorem d_MO_compile_92 : decode b_MO_compile 92 = .ok (.iload_n 1, 1) := by decide +kernel
theorem d_MO_compile_93 : decode b_MO_compile 93 = .ok (.aload_n 0, 1) := by decide +kernel
theorem d_MO_compile_94 : decode b_MO_compile 94 = .ok (.getfield 395, 3) := by decide +kernel
theorem d_MO_compile_97 : decode b_MO_compile 97 = .ok (.iastore, 1) := by decide +kernel
theorem d_MO_compile_98 : decode b_MO_compile 98 = .ok (.aload_n 0, 1) := by decide +kernel
theorem d_MO_compile_99 : decode b_MO_compile 99 = .ok (.getfield 118, 3) := by decide +kernel
theorem d_MO_compile_102 : decode b_MO_compile 102 = .ok (.iload_n 1, 1) := by decide +kernel
theorem d_MO_compile_103 : decode b_MO_compile 103 = .ok (.aload_n 0, 1) := by decide +kernel
theorem d_MO_compile_104 : decode b_MO_compile 104 = .ok (.getfield 68, 3) := by decide +kernel
theorem d_MO_compile_107 : decode b_MO_compile 107 = .ok (.iload_n 3, 1) := by decide +kernel
theorem d_MO_compile_108 : decode b_MO_compile 108 = .ok (.laload, 1) := by decide +kernel
theorem d_MO_compile_109 : decode b_MO_compile 109 = .ok (.l2i, 1) := by decide +kernel
theorem d_MO_compile_110 : decode b_MO_compile 110 = .ok (.iastore, 1) := by decide +kernel
theorem d_MO_compile_111 : decode b_MO_compile 111 = .ok (.aload_n 0, 1) := by decide +kernel
theorem d_MO_compile_112 : decode b_MO_compile 112 = .ok (.getfield 121, 3) := by decide +kernel
theorem d_MO_compile_115 : decode b_MO_compile 115 = .ok (.iload_n 1, 1) := by decide +kernel
theorem d_MO_compile_116 : decode b_MO_compile 116 = .ok (.iload_n 2, 1) := by decide +kernel
theorem d_MO_compile_117 : decode b_MO_compile 117 = .ok (.iastore, 1) := by decide +kernel
theorem d_MO_compile_118 : decode b_MO_compile 118 = .ok (.aload_n 0, 1) := by decide +kernel
theorem d_MO_compile_119 : decode b_MO_compile 119 = .ok (.getfield 124, 3) := by decide +kernel
theorem d_MO_compile_122 : decode b_MO_compile 122 = .ok (.iload_n 1, 1) := by decide +kernel
theorem d_MO_compile_123 : decode b_MO_compile 123 = .ok (.iconst 0, 1) := by decide +kernel
theorem d_MO_compile_124 : decode b_MO_compile 124 = .ok (.iastore, 1) := by decide +kernel
theorem d_MO_compile_125 : decode b_MO_compile 125 = .ok (.aload_n 0, 1) := by decide +kernel
theorem d_MO_compile_126 : decode b_MO_compile 126 = .ok (.getfield 149, 3) := by decide +kernel
theorem d_MO_compile_129 : decode b_MO_compile 129 = .ok (.iload_n 1, 1) := by decide +kernel
theorem d_MO_compile_130 : decode b_MO_compile 130 = .ok (.iconst 0, 1) := by decide +kernel
theorem d_MO_compile_131 : decode b_MO_compile 131 = .ok (.iastore, 1) := by decide +kernel
theorem d_MO_compile_132 : decode b_MO_compile 132 = .ok (.iconst 0, 1) := by decide +kernel
theorem d_MO_compile_133 : decode b_MO_compile 133 = .ok (.istore 4, 2) := by decide +kernel
theorem d_MO_compile_135 : decode b_MO_compile 135 = .ok (.iload 4, 2) := by decide +kernel
theorem d_MO_compile_137 : decode b_MO_compile 137 = .ok (.bipush 10, 2) := by decide +kernel
theorem d_MO_compile_139 : decode b_MO_compile 139 = .ok (.if_icmp .ge 93, 3) := by decide +kernel
theorem d_MO_compile_142 : decode b_MO_compile 142 = .ok (.aload_n 0, 1) := by decide +kernel
theorem d_MO_compile_143 : decode b_MO_compile 143 = .ok (.getfield 155, 3) := by decide +kernel
theorem d_MO_compile_146 : decode b_MO_compile 146 = .ok (.bipush 10, 2) := by decide +kernel
theorem d_MO_compile_148 : decode b_MO_compile 148 = .ok (.iload_n 1, 1) := by decide +kernel
theorem d_MO_compile_149 : decode b_MO_compile 149 = .ok (.imul, 1) := by decide +kernel
theorem d_MO_compile_150 : decode b_MO_compile 150 = .ok (.iload 4, 2) := by decide +kernel
theorem d_MO_compile_152 : decode b_MO_compile 152 = .ok (.iadd, 1) := by decide +kernel
theorem d_MO_compile_153 : decode b_MO_compile 153 = .ok (.iload 4, 2) := by decide +kernel
theorem d_MO_compile_155 : decode b_MO_compile 155 = .ok (.ifCond .le 22, 3) := by decide +kernel
theorem d_MO_compile_158 : decode b_MO_compile 158 = .ok (.iload 4, 2) := by decide +kernel
theorem d_MO_compile_160 : decode b_MO_compile 160 = .ok (.aload_n 0, 1) := by decide +kernel
theorem d_MO_compile_161 : decode b_MO_compile 161 = .ok (.getfield 395, 3) := by decide +kernel
theorem d_MO_compile_164 : decode b_MO_compile 164 = .ok (.if_icmp .gt 13, 3) := by decide +kernel
theorem d_MO_compile_167 : decode b_MO_compile 167 = .ok (.aload_n 0, 1) := by decide +kernel
theorem d_MO_compile_168 : decode b_MO_compile 168 = .ok (.getfield 106, 3) := by decide +kernel
theorem d_MO_compile_171 : decode b_MO_compile 171 = .ok (.iload 4, 2) := by decide +kernel
theorem d_MO_compile_173 : decode b_MO_compile 173 = .ok (.iaload, 1) := by decide +kernel
theorem d_MO_compile_174 : decode b_MO_compile 174 = .ok (.goto 4, 3) := by decide +kernel
theorem d_MO_compile_177 : decode b_MO_compile 177 = .ok (.iconst 0, 1) := by decide +kernel
theorem d_MO_compile_178 : decode b_MO_compile 178 = .ok (.iastore, 1) := by decide +kernel
theorem d_MO_compile_179 : decode b_MO_compile 179 = .ok (.iconst 0, 1) := by decide +kernel
theorem d_MO_compile_180 : decode b_MO_compile 180 = .ok (.istore 5, 2) := by decide +kernel
theorem d_MO_compile_182 : decode b_MO_compile 182 = .ok (.iload 5, 2) := by decide +kernel
theorem d_MO_compile_184 : decode b_MO_compile 184 = .ok (.bipush 12, 2) := by decide +kernel
theorem d_MO_compile_186 : decode b_MO_compile 186 = .ok (.if_icmp .ge 40, 3) := by decide +kernel
theorem d_MO_compile_189 : decode b_MO_compile 189 = .ok (.aload_n 0, 1) := by decide +kernel
theorem d_MO_compile_190 : decode b_MO_compile 190 = .ok (.getfield 152, 3) := by decide +kernel
theorem d_MO_compile_193 : decode b_MO_compile 193 = .ok (.bipush 120, 2) := by decide +kernel
theorem d_MO_compile_195 : decode b_MO_compile 195 = .ok (.iload_n 1, 1) := by decide +kernel
theorem d_MO_compile_196 : decode b_MO_compile 196 = .ok (.imul, 1) := by decide +kernel
theorem d_MO_compile_197 : decode b_MO_compile 197 = .ok (.bipush 12, 2) := by decide +kernel
theorem d_MO_compile_199 : decode b_MO_compile 199 = .ok (.iload 4, 2) := by decide +kernel
theorem d_MO_compile_201 : decode b_MO_compile 201 = .ok (.imul, 1) := by decide +kernel
theorem d_MO_compile_202 : decode b_MO_compile 202 = .ok (.iadd, 1) := by decide +kernel
theorem d_MO_compile_203 : decode b_MO_compile 203 = .ok (.iload 5, 2) := by decide +kernel
theorem d_MO_compile_205 : decode b_MO_compile 205 = .ok (.iadd, 1) := by decide +kernel
theorem d_MO_compile_206 : decode b_MO_compile 206 = .ok (.aload_n 0, 1) := by decide +kernel
theorem d_MO_compile_207 : decode b_MO_compile 207 = .ok (.getfield 103, 3) := by decide +kernel
theorem d_MO_compile_210 : decode b_MO_compile 210 = .ok (.bipush 12, 2) := by decide +kernel
theorem d_MO_compile_212 : decode b_MO_compile 212 = .ok (.iload 4, 2) := by decide +kernel
theorem d_MO_compile_214 : decode b_MO_compile 214 = .ok (.imul, 1) := by decide +kernel
theorem d_MO_compile_215 : decode b_MO_compile 215 = .ok (.iload 5, 2) := by decide +kernel
theorem d_MO_compile_217 : decode b_MO_compile 217 = .ok (.iadd, 1) := by decide +kernel
theorem d_MO_compile_218 : decode b_MO_compile 218 = .ok (.iaload, 1) := by decide +kernel
theorem d_MO_compile_219 : decode b_MO_compile 219 = .ok (.iastore, 1) := by decide +kernel
theorem d_MO_compile_220 : decode b_MO_compile 220 = .ok (.iinc 5 1, 3) := by decide +kernel
theorem d_MO_compile_223 : decode b_MO_compile 223 = .ok (.goto (-41), 3) := by decide +kernel
theorem d_MO_compile_226 : decode b_MO_compile 226 = .ok (.iinc 4 1, 3) := by decide +kernel
theorem d_MO_compile_229 : decode b_MO_compile 229 = .ok (.goto (-94), 3) := by decide +kernel
theorem d_MO_compile_232 : decode b_MO_compile 232 = .ok (.aload_n 0, 1) := by decide +kernel
theorem d_MO_compile_233 : decode b_MO_compile 233 = .ok (.iconst 0, 1) := by decide +kernel
theorem d_MO_compile_234 : decode b_MO_compile 234 = .ok (.putfield 445, 3) := by decide +kernel
theorem d_MO_compile_237 : decode b_MO_compile 237 = .ok (.aload_n 0, 1) := by decide +kernel
theorem d_MO_compile_238 : decode b_MO_compile 238 = .ok (.iconst 0, 1) := by decide +kernel
theorem d_MO_compile_239 : decode b_MO_compile 239 = .ok (.putfield 451, 3) := by decide +kernel
theorem d_MO_compile_242 : decode b_MO_compile 242 = .ok (.aload_n 0, 1) := by decide +kernel
theorem d_MO_compile_243 : decode b_MO_compile 243 = .ok (.invokevirtual 454, 3) := by decide +kernel
theorem d_MO_compile_246 : decode b_MO_compile 246 = .ok (.istore 4, 2) := by decide +kernel
theorem d_MO_compile_248 : decode b_MO_compile 248 = .ok (.aload_n 0, 1) := by decide +kernel
theorem d_MO_compile_249 : decode b_MO_compile 249 = .ok (.getfield 174, 3) := by decide +kernel
theorem d_MO_compile_252 : decode b_MO_compile 252 = .ok (.iload 4, 2) := by decide +kernel
theorem d_MO_compile_254 : decode b_MO_compile 254 = .ok (.aload_n 0, 1) := by decide +kernel
theorem d_MO_compile_255 : decode b_MO_compile 255 = .ok (.iconst 0, 1) := by decide +kernel
theorem d_MO_compile_256 : decode b_MO_compile 256 = .ok (.iconst (-1), 1) := by decide +kernel
theorem d_MO_compile_257 : decode b_MO_compile 257 = .ok (.iconst 0, 1) := by decide +kernel
theorem d_MO_compile_258 : decode b_MO_compile 258 = .ok (.invokevirtual 441, 3) := by decide +kernel
theorem d_MO_compile_261 : decode b_MO_compile 261 = .ok (.iastore, 1) := by decide +kernel
theorem d_MO_compile_262 : decode b_MO_compile 262 = .ok (.aload_n 0, 1) := by decide +kernel
theorem d_MO_compile_263 : decode b_MO_compile 263 = .ok (.bipush 6, 2) := by decide +kernel
theorem d_MO_compile_265 : decode b_MO_compile 265 = .ok (.iconst (-1), 1) := by decide +kernel
theorem d_MO_compile_266 : decode b_MO_compile 266 = .ok (.iconst 0, 1) := by decide +kernel
theorem d_MO_compile_267 : decode b_MO_compile 267 = .ok (.invokevirtual 441, 3) := by decide +kernel
theorem d_MO_compile_270 : decode b_MO_compile 270 = .ok (.istore 5, 2) := by decide +kernel
theorem d_MO_compile_272 : decode b_MO_compile 272 = .ok (.aload_n 0, 1) := by decide +kernel
theorem d_MO_compile_273 : decode b_MO_compile 273 = .ok (.iload_n 3, 1) := by decide +kernel
theorem d_MO_compile_274 : decode b_MO_compile 274 = .ok (.iconst 0, 1) := by decide +kernel
theorem d_MO_compile_275 : decode b_MO_compile 275 = .ok (.iload 4, 2) := by decide +kernel
theorem d_MO_compile_277 : decode b_MO_compile 277 = .ok (.invokevirtual 464, 3) := by decide +kernel
theorem d_MO_compile_280 : decode b_MO_compile 280 = .ok (.aload_n 0, 1) := by decide +kernel
theorem d_MO_compile_281 : decode b_MO_compile 281 = .ok (.getfield 445, 3) := by decide +kernel
theorem d_MO_compile_284 : decode b_MO_compile 284 = .ok (.ifCond .le 16, 3) := by decide +kernel
theorem d_MO_compile_287 : decode b_MO_compile 287 = .ok (.aload_n 0, 1) := by decide +kernel
theorem d_MO_compile_288 : decode b_MO_compile 288 = .ok (.aload_n 0, 1) := by decide +kernel
theorem d_MO_compile_289 : decode b_MO_compile 289 = .ok (.getfield 445, 3) := by decide +kernel
theorem d_MO_compile_292 : decode b_MO_compile 292 = .ok (.iconst 1, 1) := by decide +kernel
theorem d_MO_compile_293 : decode b_MO_compile 293 = .ok (.isub, 1) := by decide +kernel
theorem d_MO_compile_294 : decode b_MO_compile 294 = .ok (.invokevirtual 504, 3) := by decide +kernel
theorem d_MO_compile_297 : decode b_MO_compile 297 = .ok (.goto (-17), 3) := by decide +kernel
theorem d_MO_compile_300 : decode b_MO_compile 300 = .ok (.aload_n 0, 1) := by decide +kernel
theorem d_MO_compile_301 : decode b_MO_compile 301 = .ok (.getfield 112, 3) := by decide +kernel
theorem d_MO_compile_304 : decode b_MO_compile 304 = .ok (.iload_n 1, 1) := by decide +kernel
theorem d_MO_compile_305 : decode b_MO_compile 305 = .ok (.aload_n 0, 1) := by decide +kernel
theorem d_MO_compile_306 : decode b_MO_compile 306 = .ok (.getfield 174, 3) := by decide +kernel
theorem d_MO_compile_309 : decode b_MO_compile 309 = .ok (.aload_n 0, 1) := by decide +kernel
theorem d_MO_compile_310 : decode b_MO_compile 310 = .ok (.getfield 448, 3) := by decide +kernel
theorem d_MO_compile_313 : decode b_MO_compile 313 = .ok (.iaload, 1) := by decide +kernel
theorem d_MO_compile_314 : decode b_MO_compile 314 = .ok (.iastore, 1) := by decide +kernel
theorem d_MO_compile_315 : decode b_MO_compile 315 = .ok (.aload_n 0, 1) := by decide +kernel
theorem d_MO_compile_316 : decode b_MO_compile 316 = .ok (.getfield 395, 3) := by decide +kernel
theorem d_MO_compile_319 : decode b_MO_compile 319 = .ok (.ireturn, 1) := by decide +kernel
theorem d_MO_go_0 : decode b_MO_go 0 = .ok (.aload_n 0, 1) := by decide +kernel
theorem d_MO_go_1 : decode b_MO_go 1 = .ok (.getfield 158, 3) := by decide +kernel
theorem d_MO_go_4 : decode b_MO_go 4 = .ok (.iload_n 1, 1) := by decide +kernel
theorem d_MO_go_5 : decode b_MO_go 5 = .ok (.iaload, 1) := by decide +kernel
theorem d_MO_go_6 : decode b_MO_go 6 = .ok (.istore_n 2, 1) := by decide +kernel
theorem d_MO_go_7 : decode b_MO_go 7 = .ok (.aload_n 0, 1) := by decide +kernel
theorem d_MO_go_8 : decode b_MO_go 8 = .ok (.getfield 161, 3) := by decide +kernel
theorem d_MO_go_11 : decode b_MO_go 11 = .ok (.iload_n 1, 1) := by decide +kernel
theorem d_MO_go_12 : decode b_MO_go 12 = .ok (.iaload, 1) := by decide +kernel
theorem d_MO_go_13 : decode b_MO_go 13 = .ok (.istore_n 3, 1) := by decide +kernel
theorem d_MO_go_14 : decode b_MO_go 14 = .ok (.aload_n 0, 1) := by decide +kernel
theorem d_MO_go_15 : decode b_MO_go 15 = .ok (.getfield 68, 3) := by decide +kernel
theorem d_MO_go_18 : decode b_MO_go 18 = .ok (.iload_n 2, 1) := by decide +kernel
theorem d_MO_go_19 : decode b_MO_go 19 = .ok (.laload, 1) := by decide +kernel
theorem d_MO_go_20 : decode b_MO_go 20 = .ok (.lconst 0, 1) := by decide +kernel
theorem d_MO_go_21 : decode b_MO_go 21 = .ok (.lcmp, 1) := by decide +kernel
theorem d_MO_go_22 : decode b_MO_go 22 = .ok (.ifCond .ne 14, 3) := by decide +kernel
theorem d_MO_go_25 : decode b_MO_go 25 = .ok (.aload_n 0, 1) := by decide +kernel
theorem d_MO_go_26 : decode b_MO_go 26 = .ok (.aload_n 0, 1) := by decide +kernel
theorem d_MO_go_27 : decode b_MO_go 27 = .ok (.getfield 164, 3) := by decide +kernel
theorem d_MO_go_30 : decode b_MO_go 30 = .ok (.iload_n 1, 1) := by decide +kernel
theorem d_MO_go_31 : decode b_MO_go 31 = .ok (.iaload, 1) := by decide +kernel
theorem d_MO_go_32 : decode b_MO_go 32 = .ok (.invokevirtual 461, 3) := by decide +kernel
theorem d_MO_go_35 : decode b_MO_go 35 = .ok (.return_, 1) := by decide +kernel
theorem d_MO_go_36 : decode b_MO_go 36 = .ok (.aload_n 0, 1) := by decide +kernel
theorem d_MO_go_37 : decode b_MO_go 37 = .ok (.getfield 50, 3) := by decide +kernel
theorem d_MO_go_40 : decode b_MO_go 40 = .ok (.iload_n 2, 1) := by decide +kernel
theorem d_MO_go_41 : decode b_MO_go 41 = .ok (.iaload, 1) := by decide +kernel
theorem d_MO_go_42 : decode b_MO_go 42 = .ok (.tableswitch 153 1 6 #[38, 73, 104, 129, 137, 145], 38) := by decide +kernel
theorem d_MO_go_80 : decode b_MO_go 80 = .ok (.aload_n 0, 1) := by decide +kernel
theorem d_MO_go_81 : decode b_MO_go 81 = .ok (.aload_n 0, 1) := by decide +kernel
theorem d_MO_go_82 : decode b_MO_go 82 = .ok (.aload_n 0, 1) := by decide +kernel
theorem d_MO_go_83 : decode b_MO_go 83 = .ok (.aload_n 0, 1) := by decide +kernel
theorem d_MO_go_84 : decode b_MO_go 84 = .ok (.getfield 53, 3) := by decide +kernel
theorem d_MO_go_87 : decode b_MO_go 87 = .ok (.iload_n 2, 1) := by decide +kernel
theorem d_MO_go_88 : decode b_MO_go 88 = .ok (.iaload, 1) := by decide +kernel
theorem d_MO_go_89 : decode b_MO_go 89 = .ok (.aload_n 0, 1) := by decide +kernel
theorem d_MO_go_90 : decode b_MO_go 90 = .ok (.getfield 174, 3) := by decide +kernel
theorem d_MO_go_93 : decode b_MO_go 93 = .ok (.aload_n 0, 1) := by decide +kernel
theorem d_MO_go_94 : decode b_MO_go 94 = .ok (.getfield 164, 3) := by decide +kernel
theorem d_MO_go_97 : decode b_MO_go 97 = .ok (.iload_n 1, 1) := by decide +kernel
theorem d_MO_go_98 : decode b_MO_go 98 = .ok (.iaload, 1) := by decide +kernel
theorem d_MO_go_99 : decode b_MO_go 99 = .ok (.iload_n 3, 1) := by decide +kernel
theorem d_MO_go_100 : decode b_MO_go 100 = .ok (.iadd, 1) := by decide +kernel
theorem d_MO_go_101 : decode b_MO_go 101 = .ok (.iaload, 1) := by decide +kernel
theorem d_MO_go_102 : decode b_MO_go 102 = .ok (.invokevirtual 483, 3) := by decide +kernel
theorem d_MO_go_105 : decode b_MO_go 105 = .ok (.iload_n 3, 1) := by decide +kernel
theorem d_MO_go_106 : decode b_MO_go 106 = .ok (.invokevirtual 486, 3) := by decide +kernel
theorem d_MO_go_109 : decode b_MO_go 109 = .ok (.invokevirtual 461, 3) := by decide +kernel
theorem d_MO_go_112 : decode b_MO_go 112 = .ok (.goto 88, 3) := by decide +kernel
theorem d_MO_go_115 : decode b_MO_go 115 = .ok (.aload_n 0, 1) := by decide +kernel
theorem d_MO_go_116 : decode b_MO_go 116 = .ok (.aload_n 0, 1) := by decide +kernel
theorem d_MO_go_117 : decode b_MO_go 117 = .ok (.aload_n 0, 1) := by decide +kernel
theorem d_MO_go_118 : decode b_MO_go 118 = .ok (.iconst 2, 1) := by decide +kernel
theorem d_MO_go_119 : decode b_MO_go 119 = .ok (.aload_n 0, 1) := by decide +kernel
theorem d_MO_go_120 : decode b_MO_go 120 = .ok (.getfield 174, 3) := by decide +kernel
theorem d_MO_go_123 : decode b_MO_go 123 = .ok (.aload_n 0, 1) := by decide +kernel
theorem d_MO_go_124 : decode b_MO_go 124 = .ok (.getfield 164, 3) := by decide +kernel
theorem d_MO_go_127 : decode b_MO_go 127 = .ok (.iload_n 1, 1) := by decide +kernel
theorem d_MO_go_128 : decode b_MO_go 128 = .ok (.iaload, 1) := by decide +kernel
theorem d_MO_go_129 : decode b_MO_go 129 = .ok (.iload_n 3, 1) := by decide +kernel
theorem d_MO_go_130 : decode b_MO_go 130 = .ok (.iadd, 1) := by decide +kernel
theorem d_MO_go_131 : decode b_MO_go 131 = .ok (.iaload, 1) := by decide +kernel
theorem d_MO_go_132 : decode b_MO_go 132 = .ok (.iconst 0, 1) := by decide +kernel
theorem d_MO_go_133 : decode b_MO_go 133 = .ok (.invokevirtual 441, 3) := by decide +kernel
theorem d_MO_go_136 : decode b_MO_go 136 = .ok (.iload_n 3, 1) := by decide +kernel
theorem d_MO_go_137 : decode b_MO_go 137 = .ok (.invokevirtual 486, 3) := by decide +kernel
theorem d_MO_go_140 : decode b_MO_go 140 = .ok (.invokevirtual 461, 3) := by decide +kernel
theorem d_MO_go_143 : decode b_MO_go 143 = .ok (.goto 57, 3) := by decide +kernel
theorem d_MO_go_146 : decode b_MO_go 146 = .ok (.aload_n 0, 1) := by decide +kernel
theorem d_MO_go_147 : decode b_MO_go 147 = .ok (.aload_n 0, 1) := by decide +kernel
theorem d_MO_go_148 : decode b_MO_go 148 = .ok (.iconst 5, 1) := by decide +kernel
theorem d_MO_go_149 : decode b_MO_go 149 = .ok (.aload_n 0, 1) := by decide +kernel
theorem d_MO_go_150 : decode b_MO_go 150 = .ok (.getfield 164, 3) := by decide +kernel
theorem d_MO_go_153 : decode b_MO_go 153 = .ok (.iload_n 1, 1) := by decide +kernel
theorem d_MO_go_154 : decode b_MO_go 154 = .ok (.iaload, 1) := by decide +kernel
theorem d_MO_go_155 : decode b_MO_go 155 = .ok (.aload_n 0, 1) := by decide +kernel
theorem d_MO_go_156 : decode b_MO_go 156 = .ok (.getfield 53, 3) := by decide +kernel
theorem d_MO_go_159 : decode b_MO_go 159 = .ok (.iload_n 2, 1) := by decide +kernel
theorem d_MO_go_160 : decode b_MO_go 160 = .ok (.iaload, 1) := by decide +kernel
theorem d_MO_go_161 : decode b_MO_go 161 = .ok (.iload_n 3, 1) := by decide +kernel
theorem d_MO_go_162 : decode b_MO_go 162 = .ok (.invokevirtual 470, 3) := by decide +kernel
theorem d_MO_go_165 : decode b_MO_go 165 = .ok (.invokevirtual 461, 3) := by decide +kernel
theorem d_MO_go_168 : decode b_MO_go 168 = .ok (.goto 32, 3) := by decide +kernel
theorem d_MO_go_171 : decode b_MO_go 171 = .ok (.aload_n 0, 1) := by decide +kernel
theorem d_MO_go_172 : decode b_MO_go 172 = .ok (.iload_n 1, 1) := by decide +kernel
theorem d_MO_go_173 : decode b_MO_go 173 = .ok (.invokevirtual 489, 3) := by decide +kernel
theorem d_MO_go_176 : decode b_MO_go 176 = .ok (.goto 24, 3) := by decide +kernel
theorem d_MO_go_179 : decode b_MO_go 179 = .ok (.aload_n 0, 1) := by decide +kernel
theorem d_MO_go_180 : decode b_MO_go 180 = .ok (.iload_n 1, 1) := by decide +kernel
theorem d_MO_go_181 : decode b_MO_go 181 = .ok (.invokevirtual 492, 3) := by decide +kernel
theorem d_MO_go_184 : decode b_MO_go 184 = .ok (.goto 16, 3) := by decide +kernel
theorem d_MO_go_187 : decode b_MO_go 187 = .ok (.aload_n 0, 1) := by decide +kernel
theorem d_MO_go_188 : decode b_MO_go 188 = .ok (.iload_n 1, 1) := by decide +kernel
theorem d_MO_go_189 : decode b_MO_go 189 = .ok (.invokevirtual 495, 3) := by decide +kernel
theorem d_MO_go_192 : decode b_MO_go 192 = .ok (.goto 8, 3) := by decide +kernel
theorem d_MO_go_195 : decode b_MO_go 195 = .ok (.aload_n 0, 1) := by decide +kernel
theorem d_MO_go_196 : decode b_MO_go 196 = .ok (.iload_n 1, 1) := by decide +kernel
theorem d_MO_go_197 : decode b_MO_go 197 = .ok (.invokevirtual 498, 3) := by decide +kernel
theorem d_MO_go_200 : decode b_MO_go 200 = .ok (.return_, 1) := by decide +kernel
theorem d_MO_goEither_0 : decode b_MO_goEither 0 = .ok (.aload_n 0, 1) := by decide +kernel
theorem d_MO_goEither_1 : decode b_MO_goEither 1 = .ok (.getfield 170, 3) := by decide +kernel
theorem d_MO_goEither_4 : decode b_MO_goEither 4 = .ok (.iload_n 1, 1) := by decide +kernel
theorem d_MO_goEither_5 : decode b_MO_goEither 5 = .ok (.iaload, 1) := by decide +kernel
theorem d_MO_goEither_6 : decode b_MO_goEither 6 = .ok (.iconst 1, 1) := by decide +kernel
theorem d_MO_goEither_7 : decode b_MO_goEither 7 = .ok (.if_icmp .ne 13, 3) := by decide +kernel
theorem d_MO_goEither_10 : decode b_MO_goEither 10 = .ok (.aload_n 0, 1) := by decide +kernel
theorem d_MO_goEither_11 : decode b_MO_goEither 11 = .ok (.getfield 167, 3) := by decide +kernel
theorem d_MO_goEither_14 : decode b_MO_goEither 14 = .ok (.iload_n 1, 1) := by decide +kernel
theorem d_MO_goEither_15 : decode b_MO_goEither 15 = .ok (.aload_n 0, 1) := by decide +kernel
theorem d_MO_goEither_16 : decode b_MO_goEither 16 = .ok (.getfield 448, 3) := by decide +kernel
theorem d_MO_goEither_19 : decode b_MO_goEither 19 = .ok (.iastore, 1) := by decide +kernel
theorem d_MO_goEither_20 : decode b_MO_goEither 20 = .ok (.aload_n 0, 1) := by decide +kernel
theorem d_MO_goEither_21 : decode b_MO_goEither 21 = .ok (.getfield 170, 3) := by decide +kernel
theorem d_MO_goEither_24 : decode b_MO_goEither 24 = .ok (.iload_n 1, 1) := by decide +kernel
theorem d_MO_goEither_25 : decode b_MO_goEither 25 = .ok (.iaload, 1) := by decide +kernel
theorem d_MO_goEither_26 : decode b_MO_goEither 26 = .ok (.iconst 1, 1) := by decide +kernel
theorem d_MO_goEither_27 : decode b_MO_goEither 27 = .ok (.if_icmp .le 29, 3) := by decide +kernel
theorem d_MO_goEither_30 : decode b_MO_goEither 30 = .ok (.aload_n 0, 1) := by decide +kernel
theorem d_MO_goEither_31 : decode b_MO_goEither 31 = .ok (.getfield 167, 3) := by decide +kernel
theorem d_MO_goEither_34 : decode b_MO_goEither 34 = .ok (.iload_n 1, 1) := by decide +kernel
theorem d_MO_goEither_35 : decode b_MO_goEither 35 = .ok (.aload_n 0, 1) := by decide +kernel
theorem d_MO_goEither_36 : decode b_MO_goEither 36 = .ok (.aload_n 0, 1) := by decide +kernel
theorem d_MO_goEither_37 : decode b_MO_goEither 37 = .ok (.getfield 448, 3) := by decide +kernel
theorem d_MO_goEither_40 : decode b_MO_goEither 40 = .ok (.aload_n 0, 1) := by decide +kernel
theorem d_MO_goEither_41 : decode b_MO_goEither 41 = .ok (.getfield 167, 3) := by decide +kernel
theorem d_MO_goEither_44 : decode b_MO_goEither 44 = .ok (.iload_n 1, 1) := by decide +kernel
theorem d_MO_goEither_45 : decode b_MO_goEither 45 = .ok (.iaload, 1) := by decide +kernel
theorem d_MO_goEither_46 : decode b_MO_goEither 46 = .ok (.aload_n 0, 1) := by decide +kernel
theorem d_MO_goEither_47 : decode b_MO_goEither 47 = .ok (.getfield 161, 3) := by decide +kernel
theorem d_MO_goEither_50 : decode b_MO_goEither 50 = .ok (.iload_n 1, 1) := by decide +kernel
theorem d_MO_goEither_51 : decode b_MO_goEither 51 = .ok (.iaload, 1) := by decide +kernel
theorem d_MO_goEither_52 : decode b_MO_goEither 52 = .ok (.invokevirtual 467, 3) := by decide +kernel
theorem d_MO_goEither_55 : decode b_MO_goEither 55 = .ok (.iastore, 1) := by decide +kernel
theorem d_MO_goEither_56 : decode b_MO_goEither 56 = .ok (.aload_n 0, 1) := by decide +kernel
theorem d_MO_goEither_57 : decode b_MO_goEither 57 = .ok (.aload_n 0, 1) := by decide +kernel
theorem d_MO_goEither_58 : decode b_MO_goEither 58 = .ok (.getfield 158, 3) := by decide +kernel
theorem d_MO_goEither_61 : decode b_MO_goEither 61 = .ok (.iload_n 1, 1) := by decide +kernel
theorem d_MO_goEither_62 : decode b_MO_goEither 62 = .ok (.iaload, 1) := by decide +kernel
theorem d_MO_goEither_63 : decode b_MO_goEither 63 = .ok (.aload_n 0, 1) := by decide +kernel
theorem d_MO_goEither_64 : decode b_MO_goEither 64 = .ok (.getfield 170, 3) := by decide +kernel
theorem d_MO_goEither_67 : decode b_MO_goEither 67 = .ok (.iload_n 1, 1) := by decide +kernel
theorem d_MO_goEither_68 : decode b_MO_goEither 68 = .ok (.iaload, 1) := by decide +kernel
theorem d_MO_goEither_69 : decode b_MO_goEither 69 = .ok (.invokevirtual 457, 3) := by decide +kernel
theorem d_MO_goEither_72 : decode b_MO_goEither 72 = .ok (.istore_n 2, 1) := by decide +kernel
theorem d_MO_goEither_73 : decode b_MO_goEither 73 = .ok (.iload_n 2, 1) := by decide +kernel
theorem d_MO_goEither_74 : decode b_MO_goEither 74 = .ok (.ifCond .ge 14, 3) := by decide +kernel
theorem d_MO_goEither_77 : decode b_MO_goEither 77 = .ok (.aload_n 0, 1) := by decide +kernel
theorem d_MO_goEither_78 : decode b_MO_goEither 78 = .ok (.aload_n 0, 1) := by decide +kernel
theorem d_MO_goEither_79 : decode b_MO_goEither 79 = .ok (.getfield 167, 3) := by decide +kernel
theorem d_MO_goEither_82 : decode b_MO_goEither 82 = .ok (.iload_n 1, 1) := by decide +kernel
theorem d_MO_goEither_83 : decode b_MO_goEither 83 = .ok (.iaload, 1) := by decide +kernel
theorem d_MO_goEither_84 : decode b_MO_goEither 84 = .ok (.invokevirtual 461, 3) := by decide +kernel
theorem d_MO_goEither_87 : decode b_MO_goEither 87 = .ok (.return_, 1) := by decide +kernel
theorem d_MO_goEither_88 : decode b_MO_goEither 88 = .ok (.aload_n 0, 1) := by decide +kernel
theorem d_MO_goEither_89 : decode b_MO_goEither 89 = .ok (.getfield 170, 3) := by decide +kernel
theorem d_MO_goEither_92 : decode b_MO_goEither 92 = .ok (.iload_n 1, 1) := by decide +kernel
theorem d_MO_goEither_93 : decode b_MO_goEither 93 = .ok (.dup2, 1) := by decide +kernel
theorem d_MO_goEither_94 : decode b_MO_goEither 94 = .ok (.iaload, 1) := by decide +kernel
theorem d_MO_goEither_95 : decode b_MO_goEither 95 = .ok (.iconst 1, 1) := by decide +kernel
theorem d_MO_goEither_96 : decode b_MO_goEither 96 = .ok (.iadd, 1) := by decide +kernel
theorem d_MO_goEither_97 : decode b_MO_goEither 97 = .ok (.iastore, 1) := by decide +kernel
theorem d_MO_goEither_98 : decode b_MO_goEither 98 = .ok (.aload_n 0, 1) := by decide +kernel
theorem d_MO_goEither_99 : decode b_MO_goEither 99 = .ok (.iload_n 2, 1) := by decide +kernel
theorem d_MO_goEither_100 : decode b_MO_goEither 100 = .ok (.aload_n 0, 1) := by decide +kernel
theorem d_MO_goEither_101 : decode b_MO_goEither 101 = .ok (.getfield 161, 3) := by decide +kernel
theorem d_MO_goEither_104 : decode b_MO_goEither 104 = .ok (.iload_n 1, 1) := by decide +kernel
theorem d_MO_goEither_105 : decode b_MO_goEither 105 = .ok (.iaload, 1) := by decide +kernel
theorem d_MO_goEither_106 : decode b_MO_goEither 106 = .ok (.aload_n 0, 1) := by decide +kernel
theorem d_MO_goEither_107 : decode b_MO_goEither 107 = .ok (.getfield 164, 3) := by decide +kernel
theorem d_MO_goEither_110 : decode b_MO_goEither 110 = .ok (.iload_n 1, 1) := by decide +kernel
theorem d_MO_goEither_111 : decode b_MO_goEither 111 = .ok (.iaload, 1) := by decide +kernel
theorem d_MO_goEither_112 : decode b_MO_goEither 112 = .ok (.invokevirtual 464, 3) := by decide +kernel
theorem d_MO_goEither_115 : decode b_MO_goEither 115 = .ok (.return_, 1) := by decide +kernel
theorem d_MO_goGroup_0 : decode b_MO_goGroup 0 = .ok (.aload_n 0, 1) := by decide +kernel
theorem d_MO_goGroup_1 : decode b_MO_goGroup 1 = .ok (.getfield 158, 3) := by decide +kernel
theorem d_MO_goGroup_4 : decode b_MO_goGroup 4 = .ok (.iload_n 1, 1) := by decide +kernel
theorem d_MO_goGroup_5 : decode b_MO_goGroup 5 = .ok (.iaload, 1) := by decide +kernel
theorem d_MO_goGroup_6 : decode b_MO_goGroup 6 = .ok (.istore_n 2, 1) := by decide +kernel
theorem d_MO_goGroup_7 : decode b_MO_goGroup 7 = .ok (.aload_n 0, 1) := by decide +kernel
theorem d_MO_goGroup_8 : decode b_MO_goGroup 8 = .ok (.getfield 53, 3) := by decide +kernel
theorem d_MO_goGroup_11 : decode b_MO_goGroup 11 = .ok (.iload_n 2, 1) := by decide +kernel
theorem d_MO_goGroup_12 : decode b_MO_goGroup 12 = .ok (.iaload, 1) := by decide +kernel
theorem d_MO_goGroup_13 : decode b_MO_goGroup 13 = .ok (.istore_n 3, 1) := by decide +kernel
theorem d_MO_goGroup_14 : decode b_MO_goGroup 14 = .ok (.aload_n 0, 1) := by decide +kernel
theorem d_MO_goGroup_15 : decode b_MO_goGroup 15 = .ok (.getfield 170, 3) := by decide +kernel
theorem d_MO_goGroup_18 : decode b_MO_goGroup 18 = .ok (.iload_n 1, 1) := by decide +kernel
theorem d_MO_goGroup_19 : decode b_MO_goGroup 19 = .ok (.iaload, 1) := by decide +kernel
theorem d_MO_goGroup_20 : decode b_MO_goGroup 20 = .ok (.ifCond .ne 62, 3) := by decide +kernel
theorem d_MO_goGroup_23 : decode b_MO_goGroup 23 = .ok (.aload_n 0, 1) := by decide +kernel
theorem d_MO_goGroup_24 : decode b_MO_goGroup 24 = .ok (.getfield 170, 3) := by decide +kernel
theorem d_MO_goGroup_27 : decode b_MO_goGroup 27 = .ok (.iload_n 1, 1) := by decide +kernel
theorem d_MO_goGroup_28 : decode b_MO_goGroup 28 = .ok (.iconst 1, 1) := by decide +kernel
theorem d_MO_goGroup_29 : decode b_MO_goGroup 29 = .ok (.iastore, 1) := by decide +kernel
theorem d_MO_goGroup_30 : decode b_MO_goGroup 30 = .ok (.aload_n 0, 1) := by decide +kernel
theorem d_MO_goGroup_31 : decode b_MO_goGroup 31 = .ok (.aload_n 0, 1) := by decide +kernel
theorem d_MO_goGroup_32 : decode b_MO_goGroup 32 = .ok (.getfield 56, 3) := by decide +kernel
theorem d_MO_goGroup_35 : decode b_MO_goGroup 35 = .ok (.iload_n 2, 1) := by decide +kernel
theorem d_MO_goGroup_36 : decode b_MO_goGroup 36 = .ok (.iaload, 1) := by decide +kernel
theorem d_MO_goGroup_37 : decode b_MO_goGroup 37 = .ok (.aload_n 0, 1) := by decide +kernel
theorem d_MO_goGroup_38 : decode b_MO_goGroup 38 = .ok (.getfield 161, 3) := by decide +kernel
theorem d_MO_goGroup_41 : decode b_MO_goGroup 41 = .ok (.iload_n 1, 1) := by decide +kernel
theorem d_MO_goGroup_42 : decode b_MO_goGroup 42 = .ok (.iaload, 1) := by decide +kernel
theorem d_MO_goGroup_43 : decode b_MO_goGroup 43 = .ok (.iload_n 3, 1) := by decide +kernel
theorem d_MO_goGroup_44 : decode b_MO_goGroup 44 = .ok (.ifCond .le 28, 3) := by decide +kernel
theorem d_MO_goGroup_47 : decode b_MO_goGroup 47 = .ok (.aload_n 0, 1) := by decide +kernel
theorem d_MO_goGroup_48 : decode b_MO_goGroup 48 = .ok (.iconst 4, 1) := by decide +kernel
theorem d_MO_goGroup_49 : decode b_MO_goGroup 49 = .ok (.aload_n 0, 1) := by decide +kernel
theorem d_MO_goGroup_50 : decode b_MO_goGroup 50 = .ok (.getfield 164, 3) := by decide +kernel
theorem d_MO_goGroup_53 : decode b_MO_goGroup 53 = .ok (.iload_n 1, 1) := by decide +kernel
theorem d_MO_goGroup_54 : decode b_MO_goGroup 54 = .ok (.iaload, 1) := by decide +kernel
theorem d_MO_goGroup_55 : decode b_MO_goGroup 55 = .ok (.iconst 2, 1) := by decide +kernel
theorem d_MO_goGroup_56 : decode b_MO_goGroup 56 = .ok (.iload_n 3, 1) := by decide +kernel
theorem d_MO_goGroup_57 : decode b_MO_goGroup 57 = .ok (.imul, 1) := by decide +kernel
theorem d_MO_goGroup_58 : decode b_MO_goGroup 58 = .ok (.iconst 1, 1) := by decide +kernel
theorem d_MO_goGroup_59 : decode b_MO_goGroup 59 = .ok (.iadd, 1) := by decide +kernel
theorem d_MO_goGroup_60 : decode b_MO_goGroup 60 = .ok (.aload_n 0, 1) := by decide +kernel
theorem d_MO_goGroup_61 : decode b_MO_goGroup 61 = .ok (.getfield 161, 3) := by decide +kernel
theorem d_MO_goGroup_64 : decode b_MO_goGroup 64 = .ok (.iload_n 1, 1) := by decide +kernel
theorem d_MO_goGroup_65 : decode b_MO_goGroup 65 = .ok (.iaload, 1) := by decide +kernel
theorem d_MO_goGroup_66 : decode b_MO_goGroup 66 = .ok (.invokevirtual 470, 3) := by decide +kernel
theorem d_MO_goGroup_69 : decode b_MO_goGroup 69 = .ok (.goto 9, 3) := by decide +kernel
theorem d_MO_goGroup_72 : decode b_MO_goGroup 72 = .ok (.aload_n 0, 1) := by decide +kernel
theorem d_MO_goGroup_73 : decode b_MO_goGroup 73 = .ok (.getfield 164, 3) := by decide +kernel
theorem d_MO_goGroup_76 : decode b_MO_goGroup 76 = .ok (.iload_n 1, 1) := by decide +kernel
theorem d_MO_goGroup_77 : decode b_MO_goGroup 77 = .ok (.iaload, 1) := by decide +kernel
theorem d_MO_goGroup_78 : decode b_MO_goGroup 78 = .ok (.invokevirtual 464, 3) := by decide +kernel
theorem d_MO_goGroup_81 : decode b_MO_goGroup 81 = .ok (.return_, 1) := by decide +kernel
theorem d_MO_goGroup_82 : decode b_MO_goGroup 82 = .ok (.aload_n 0, 1) := by decide +kernel
theorem d_MO_goGroup_83 : decode b_MO_goGroup 83 = .ok (.iload_n 3, 1) := by decide +kernel
theorem d_MO_goGroup_84 : decode b_MO_goGroup 84 = .ok (.ifCond .le 24, 3) := by decide +kernel
theorem d_MO_goGroup_87 : decode b_MO_goGroup 87 = .ok (.aload_n 0, 1) := by decide +kernel
theorem d_MO_goGroup_88 : decode b_MO_goGroup 88 = .ok (.iconst 4, 1) := by decide +kernel
theorem d_MO_goGroup_89 : decode b_MO_goGroup 89 = .ok (.aload_n 0, 1) := by decide +kernel
theorem d_MO_goGroup_90 : decode b_MO_goGroup 90 = .ok (.getfield 448, 3) := by decide +kernel
theorem d_MO_goGroup_93 : decode b_MO_goGroup 93 = .ok (.iconst 2, 1) := by decide +kernel
theorem d_MO_goGroup_94 : decode b_MO_goGroup 94 = .ok (.iload_n 3, 1) := by decide +kernel
theorem d_MO_goGroup_95 : decode b_MO_goGroup 95 = .ok (.imul, 1) := by decide +kernel
theorem d_MO_goGroup_96 : decode b_MO_goGroup 96 = .ok (.aload_n 0, 1) := by decide +kernel
theorem d_MO_goGroup_97 : decode b_MO_goGroup 97 = .ok (.getfield 161, 3) := by decide +kernel
theorem d_MO_goGroup_100 : decode b_MO_goGroup 100 = .ok (.iload_n 1, 1) := by decide +kernel
theorem d_MO_goGroup_101 : decode b_MO_goGroup 101 = .ok (.iaload, 1) := by decide +kernel
theorem d_MO_goGroup_102 : decode b_MO_goGroup 102 = .ok (.invokevirtual 470, 3) := by decide +kernel
theorem d_MO_goGroup_105 : decode b_MO_goGroup 105 = .ok (.goto 7, 3) := by decide +kernel
theorem d_MO_goGroup_108 : decode b_MO_goGroup 108 = .ok (.aload_n 0, 1) := by decide +kernel
theorem d_MO_goGroup_109 : decode b_MO_goGroup 109 = .ok (.getfield 448, 3) := by decide +kernel
theorem d_MO_goGroup_112 : decode b_MO_goGroup 112 = .ok (.invokevirtual 461, 3) := by decide +kernel
theorem d_MO_goGroup_115 : decode b_MO_goGroup 115 = .ok (.return_, 1) := by decide +kernel
theorem d_MO_goRepeat_0 : decode b_MO_goRepeat 0 = .ok (.aload_n 0, 1) := by decide +kernel
theorem d_MO_goRepeat_1 : decode b_MO_goRepeat 1 = .ok (.getfield 158, 3) := by decide +kernel
theorem d_MO_goRepeat_4 : decode b_MO_goRepeat 4 = .ok (.iload_n 1, 1) := by decide +kernel
theorem d_MO_goRepeat_5 : decode b_MO_goRepeat 5 = .ok (.iaload, 1) := by decide +kernel
theorem d_MO_goRepeat_6 : decode b_MO_goRepeat 6 = .ok (.istore_n 2, 1) := by decide +kernel
theorem d_MO_goRepeat_7 : decode b_MO_goRepeat 7 = .ok (.aload_n 0, 1) := by decide +kernel
theorem d_MO_goRepeat_8 : decode b_MO_goRepeat 8 = .ok (.getfield 170, 3) := by decide +kernel
theorem d_MO_goRepeat_11 : decode b_MO_goRepeat 11 = .ok (.iload_n 1, 1) := by decide +kernel
theorem d_MO_goRepeat_12 : decode b_MO_goRepeat 12 = .ok (.iaload, 1) := by decide +kernel
theorem d_MO_goRepeat_13 : decode b_MO_goRepeat 13 = .ok (.istore_n 3, 1) := by decide +kernel
theorem d_MO_goRepeat_14 : decode b_MO_goRepeat 14 = .ok (.aload_n 0, 1) := by decide +kernel
theorem d_MO_goRepeat_15 : decode b_MO_goRepeat 15 = .ok (.getfield 65, 3) := by decide +kernel
theorem d_MO_goRepeat_18 : decode b_MO_goRepeat 18 = .ok (.iload_n 2, 1) := by decide +kernel
theorem d_MO_goRepeat_19 : decode b_MO_goRepeat 19 = .ok (.iaload, 1) := by decide +kernel
theorem d_MO_goRepeat_20 : decode b_MO_goRepeat 20 = .ok (.ifCond .ge 7, 3) := by decide +kernel
theorem d_MO_goRepeat_23 : decode b_MO_goRepeat 23 = .ok (.iconst 1, 1) := by decide +kernel
theorem d_MO_goRepeat_24 : decode b_MO_goRepeat 24 = .ok (.goto 4, 3) := by decide +kernel
theorem d_MO_goRepeat_27 : decode b_MO_goRepeat 27 = .ok (.iconst 0, 1) := by decide +kernel
theorem d_MO_goRepeat_28 : decode b_MO_goRepeat 28 = .ok (.istore 4, 2) := by decide +kernel
theorem d_MO_goRepeat_30 : decode b_MO_goRepeat 30 = .ok (.iload 4, 2) := by decide +kernel
theorem d_MO_goRepeat_32 : decode b_MO_goRepeat 32 = .ok (.ifCond .eq 7, 3) := by decide +kernel
theorem d_MO_goRepeat_35 : decode b_MO_goRepeat 35 = .ok (.iconst 1, 1) := by decide +kernel
theorem d_MO_goRepeat_36 : decode b_MO_goRepeat 36 = .ok (.goto 16, 3) := by decide +kernel
theorem d_MO_goRepeat_39 : decode b_MO_goRepeat 39 = .ok (.aload_n 0, 1) := by decide +kernel
theorem d_MO_goRepeat_40 : decode b_MO_goRepeat 40 = .ok (.getfield 65, 3) := by decide +kernel
theorem d_MO_goRepeat_43 : decode b_MO_goRepeat 43 = .ok (.iload_n 2, 1) := by decide +kernel
theorem d_MO_goRepeat_44 : decode b_MO_goRepeat 44 = .ok (.iaload, 1) := by decide +kernel
theorem d_MO_goRepeat_45 : decode b_MO_goRepeat 45 = .ok (.aload_n 0, 1) := by decide +kernel
theorem d_MO_goRepeat_46 : decode b_MO_goRepeat 46 = .ok (.getfield 62, 3) := by decide +kernel
theorem d_MO_goRepeat_49 : decode b_MO_goRepeat 49 = .ok (.iload_n 2, 1) := by decide +kernel
theorem d_MO_goRepeat_50 : decode b_MO_goRepeat 50 = .ok (.iaload, 1) := by decide +kernel
theorem d_MO_goRepeat_51 : decode b_MO_goRepeat 51 = .ok (.isub, 1) := by decide +kernel
theorem d_MO_goRepeat_52 : decode b_MO_goRepeat 52 = .ok (.istore 5, 2) := by decide +kernel
theorem d_MO_goRepeat_54 : decode b_MO_goRepeat 54 = .ok (.iload 4, 2) := by decide +kernel
theorem d_MO_goRepeat_56 : decode b_MO_goRepeat 56 = .ok (.ifCond .eq 13, 3) := by decide +kernel
theorem d_MO_goRepeat_59 : decode b_MO_goRepeat 59 = .ok (.iload_n 3, 1) := by decide +kernel
theorem d_MO_goRepeat_60 : decode b_MO_goRepeat 60 = .ok (.ifCond .ne 9, 3) := by decide +kernel
theorem d_MO_goRepeat_63 : decode b_MO_goRepeat 63 = .ok (.aload_n 0, 1) := by decide +kernel
theorem d_MO_goRepeat_64 : decode b_MO_goRepeat 64 = .ok (.iload_n 1, 1) := by decide +kernel
theorem d_MO_goRepeat_65 : decode b_MO_goRepeat 65 = .ok (.invokevirtual 474, 3) := by decide +kernel
theorem d_MO_goRepeat_68 : decode b_MO_goRepeat 68 = .ok (.return_, 1) := by decide +kernel
theorem d_MO_goRepeat_69 : decode b_MO_goRepeat 69 = .ok (.iload 4, 2) := by decide +kernel
theorem d_MO_goRepeat_71 : decode b_MO_goRepeat 71 = .ok (.ifCond .eq 16, 3) := by decide +kernel
theorem d_MO_goRepeat_74 : decode b_MO_goRepeat 74 = .ok (.iload_n 3, 1) := by decide +kernel
theorem d_MO_goRepeat_75 : decode b_MO_goRepeat 75 = .ok (.iconst 1, 1) := by decide +kernel
theorem d_MO_goRepeat_76 : decode b_MO_goRepeat 76 = .ok (.if_icmp .ne 11, 3) := by decide +kernel
theorem d_MO_goRepeat_79 : decode b_MO_goRepeat 79 = .ok (.aload_n 0, 1) := by decide +kernel
theorem d_MO_goRepeat_80 : decode b_MO_goRepeat 80 = .ok (.iload_n 1, 1) := by decide +kernel
theorem d_MO_goRepeat_81 : decode b_MO_goRepeat 81 = .ok (.invokevirtual 477, 3) := by decide +kernel
theorem d_MO_goRepeat_84 : decode b_MO_goRepeat 84 = .ok (.goto 59, 3) := by decide +kernel
theorem d_MO_goRepeat_87 : decode b_MO_goRepeat 87 = .ok (.iload_n 3, 1) := by decide +kernel
theorem d_MO_goRepeat_88 : decode b_MO_goRepeat 88 = .ok (.ifCond .le 39, 3) := by decide +kernel
theorem d_MO_goRepeat_91 : decode b_MO_goRepeat 91 = .ok (.iload_n 3, 1) := by decide +kernel
theorem d_MO_goRepeat_92 : decode b_MO_goRepeat 92 = .ok (.iload 5, 2) := by decide +kernel
theorem d_MO_goRepeat_94 : decode b_MO_goRepeat 94 = .ok (.if_icmp .gt 33, 3) := by decide +kernel
theorem d_MO_goRepeat_97 : decode b_MO_goRepeat 97 = .ok (.aload_n 0, 1) := by decide +kernel
theorem d_MO_goRepeat_98 : decode b_MO_goRepeat 98 = .ok (.getfield 167, 3) := by decide +kernel
theorem d_MO_goRepeat_101 : decode b_MO_goRepeat 101 = .ok (.iload_n 1, 1) := by decide +kernel
theorem d_MO_goRepeat_102 : decode b_MO_goRepeat 102 = .ok (.aload_n 0, 1) := by decide +kernel
theorem d_MO_goRepeat_103 : decode b_MO_goRepeat 103 = .ok (.iload_n 2, 1) := by decide +kernel
theorem d_MO_goRepeat_104 : decode b_MO_goRepeat 104 = .ok (.aload_n 0, 1) := by decide +kernel
theorem d_MO_goRepeat_105 : decode b_MO_goRepeat 105 = .ok (.getfield 448, 3) := by decide +kernel
theorem d_MO_goRepeat_108 : decode b_MO_goRepeat 108 = .ok (.aload_n 0, 1) := by decide +kernel
theorem d_MO_goRepeat_109 : decode b_MO_goRepeat 109 = .ok (.getfield 164, 3) := by decide +kernel
theorem d_MO_goRepeat_112 : decode b_MO_goRepeat 112 = .ok (.iload_n 1, 1) := by decide +kernel
theorem d_MO_goRepeat_113 : decode b_MO_goRepeat 113 = .ok (.iaload, 1) := by decide +kernel
theorem d_MO_goRepeat_114 : decode b_MO_goRepeat 114 = .ok (.aload_n 0, 1) := by decide +kernel
theorem d_MO_goRepeat_115 : decode b_MO_goRepeat 115 = .ok (.getfield 161, 3) := by decide +kernel
theorem d_MO_goRepeat_118 : decode b_MO_goRepeat 118 = .ok (.iload_n 1, 1) := by decide +kernel
theorem d_MO_goRepeat_119 : decode b_MO_goRepeat 119 = .ok (.iaload, 1) := by decide +kernel
theorem d_MO_goRepeat_120 : decode b_MO_goRepeat 120 = .ok (.invokevirtual 480, 3) := by decide +kernel
theorem d_MO_goRepeat_123 : decode b_MO_goRepeat 123 = .ok (.iastore, 1) := by decide +kernel
theorem d_MO_goRepeat_124 : decode b_MO_goRepeat 124 = .ok (.goto 19, 3) := by decide +kernel
theorem d_MO_goRepeat_127 : decode b_MO_goRepeat 127 = .ok (.iload_n 3, 1) := by decide +kernel
theorem d_MO_goRepeat_128 : decode b_MO_goRepeat 128 = .ok (.iload 5, 2) := by decide +kernel
theorem d_MO_goRepeat_130 : decode b_MO_goRepeat 130 = .ok (.if_icmp .le 13, 3) := by decide +kernel
theorem d_MO_goRepeat_133 : decode b_MO_goRepeat 133 = .ok (.aload_n 0, 1) := by decide +kernel
theorem d_MO_goRepeat_134 : decode b_MO_goRepeat 134 = .ok (.getfield 167, 3) := by decide +kernel
theorem d_MO_goRepeat_137 : decode b_MO_goRepeat 137 = .ok (.iload_n 1, 1) := by decide +kernel
theorem d_MO_goRepeat_138 : decode b_MO_goRepeat 138 = .ok (.aload_n 0, 1) := by decide +kernel
theorem d_MO_goRepeat_139 : decode b_MO_goRepeat 139 = .ok (.getfield 448, 3) := by decide +kernel
theorem d_MO_goRepeat_142 : decode b_MO_goRepeat 142 = .ok (.iastore, 1) := by decide +kernel
theorem d_MO_goRepeat_143 : decode b_MO_goRepeat 143 = .ok (.iload_n 3, 1) := by decide +kernel
theorem d_MO_goRepeat_144 : decode b_MO_goRepeat 144 = .ok (.iload 5, 2) := by decide +kernel
theorem d_MO_goRepeat_146 : decode b_MO_goRepeat 146 = .ok (.aload_n 0, 1) := by decide +kernel
theorem d_MO_goRepeat_147 : decode b_MO_goRepeat 147 = .ok (.getfield 62, 3) := by decide +kernel
theorem d_MO_goRepeat_150 : decode b_MO_goRepeat 150 = .ok (.iload_n 2, 1) := by decide +kernel
theorem d_MO_goRepeat_151 : decode b_MO_goRepeat 151 = .ok (.iaload, 1) := by decide +kernel
theorem d_MO_goRepeat_152 : decode b_MO_goRepeat 152 = .ok (.iadd, 1) := by decide +kernel
theorem d_MO_goRepeat_153 : decode b_MO_goRepeat 153 = .ok (.if_icmp .lt 14, 3) := by decide +kernel
theorem d_MO_goRepeat_156 : decode b_MO_goRepeat 156 = .ok (.aload_n 0, 1) := by decide +kernel
theorem d_MO_goRepeat_157 : decode b_MO_goRepeat 157 = .ok (.aload_n 0, 1) := by decide +kernel
theorem d_MO_goRepeat_158 : decode b_MO_goRepeat 158 = .ok (.getfield 167, 3) := by decide +kernel
theorem d_MO_goRepeat_161 : decode b_MO_goRepeat 161 = .ok (.iload_n 1, 1) := by decide +kernel
theorem d_MO_goRepeat_162 : decode b_MO_goRepeat 162 = .ok (.iaload, 1) := by decide +kernel
theorem d_MO_goRepeat_163 : decode b_MO_goRepeat 163 = .ok (.invokevirtual 461, 3) := by decide +kernel
theorem d_MO_goRepeat_166 : decode b_MO_goRepeat 166 = .ok (.return_, 1) := by decide +kernel
theorem d_MO_goRepeat_167 : decode b_MO_goRepeat 167 = .ok (.aload_n 0, 1) := by decide +kernel
theorem d_MO_goRepeat_168 : decode b_MO_goRepeat 168 = .ok (.getfield 170, 3) := by decide +kernel
theorem d_MO_goRepeat_171 : decode b_MO_goRepeat 171 = .ok (.iload_n 1, 1) := by decide +kernel
theorem d_MO_goRepeat_172 : decode b_MO_goRepeat 172 = .ok (.iload_n 3, 1) := by decide +kernel
theorem d_MO_goRepeat_173 : decode b_MO_goRepeat 173 = .ok (.iconst 1, 1) := by decide +kernel
theorem d_MO_goRepeat_174 : decode b_MO_goRepeat 174 = .ok (.iadd, 1) := by decide +kernel
theorem d_MO_goRepeat_175 : decode b_MO_goRepeat 175 = .ok (.iastore, 1) := by decide +kernel
theorem d_MO_goRepeat_176 : decode b_MO_goRepeat 176 = .ok (.aload_n 0, 1) := by decide +kernel
theorem d_MO_goRepeat_177 : decode b_MO_goRepeat 177 = .ok (.aload_n 0, 1) := by decide +kernel
theorem d_MO_goRepeat_178 : decode b_MO_goRepeat 178 = .ok (.getfield 56, 3) := by decide +kernel
theorem d_MO_goRepeat_181 : decode b_MO_goRepeat 181 = .ok (.iload_n 2, 1) := by decide +kernel
theorem d_MO_goRepeat_182 : decode b_MO_goRepeat 182 = .ok (.iaload, 1) := by decide +kernel
theorem d_MO_goRepeat_183 : decode b_MO_goRepeat 183 = .ok (.aload_n 0, 1) := by decide +kernel
theorem d_MO_goRepeat_184 : decode b_MO_goRepeat 184 = .ok (.getfield 161, 3) := by decide +kernel
theorem d_MO_goRepeat_187 : decode b_MO_goRepeat 187 = .ok (.iload_n 1, 1) := by decide +kernel
theorem d_MO_goRepeat_188 : decode b_MO_goRepeat 188 = .ok (.iaload, 1) := by decide +kernel
theorem d_MO_goRepeat_189 : decode b_MO_goRepeat 189 = .ok (.aload_n 0, 1) := by decide +kernel
theorem d_MO_goRepeat_190 : decode b_MO_goRepeat 190 = .ok (.getfield 167, 3) := by decide +kernel
theorem d_MO_goRepeat_193 : decode b_MO_goRepeat 193 = .ok (.iload_n 1, 1) := by decide +kernel
theorem d_MO_goRepeat_194 : decode b_MO_goRepeat 194 = .ok (.iaload, 1) := by decide +kernel
theorem d_MO_goRepeat_195 : decode b_MO_goRepeat 195 = .ok (.invokevirtual 464, 3) := by decide +kernel
theorem d_MO_goRepeat_198 : decode b_MO_goRepeat 198 = .ok (.return_, 1) := by decide +kernel
theorem d_MO_goRow_0 : decode b_MO_goRow 0 = .ok (.aload_n 0, 1) := by decide +kernel
theorem d_MO_goRow_1 : decode b_MO_goRow 1 = .ok (.getfield 170, 3) := by decide +kernel
theorem d_MO_goRow_4 : decode b_MO_goRow 4 = .ok (.iload_n 1, 1) := by decide +kernel
theorem d_MO_goRow_5 : decode b_MO_goRow 5 = .ok (.iaload, 1) := by decide +kernel
theorem d_MO_goRow_6 : decode b_MO_goRow 6 = .ok (.ifCond .le 13, 3) := by decide +kernel
theorem d_MO_goRow_9 : decode b_MO_goRow 9 = .ok (.aload_n 0, 1) := by decide +kernel
theorem d_MO_goRow_10 : decode b_MO_goRow 10 = .ok (.getfield 167, 3) := by decide +kernel
theorem d_MO_goRow_13 : decode b_MO_goRow 13 = .ok (.iload_n 1, 1) := by decide +kernel
theorem d_MO_goRow_14 : decode b_MO_goRow 14 = .ok (.aload_n 0, 1) := by decide +kernel
theorem d_MO_goRow_15 : decode b_MO_goRow 15 = .ok (.getfield 448, 3) := by decide +kernel
theorem d_MO_goRow_18 : decode b_MO_goRow 18 = .ok (.iastore, 1) := by decide +kernel
theorem d_MO_goRow_19 : decode b_MO_goRow 19 = .ok (.aload_n 0, 1) := by decide +kernel
theorem d_MO_goRow_20 : decode b_MO_goRow 20 = .ok (.aload_n 0, 1) := by decide +kernel
theorem d_MO_goRow_21 : decode b_MO_goRow 21 = .ok (.getfield 158, 3) := by decide +kernel
theorem d_MO_goRow_24 : decode b_MO_goRow 24 = .ok (.iload_n 1, 1) := by decide +kernel
theorem d_MO_goRow_25 : decode b_MO_goRow 25 = .ok (.iaload, 1) := by decide +kernel
theorem d_MO_goRow_26 : decode b_MO_goRow 26 = .ok (.aload_n 0, 1) := by decide +kernel
theorem d_MO_goRow_27 : decode b_MO_goRow 27 = .ok (.getfield 170, 3) := by decide +kernel
theorem d_MO_goRow_30 : decode b_MO_goRow 30 = .ok (.iload_n 1, 1) := by decide +kernel
theorem d_MO_goRow_31 : decode b_MO_goRow 31 = .ok (.iaload, 1) := by decide +kernel
theorem d_MO_goRow_32 : decode b_MO_goRow 32 = .ok (.invokevirtual 457, 3) := by decide +kernel
theorem d_MO_goRow_35 : decode b_MO_goRow 35 = .ok (.istore_n 2, 1) := by decide +kernel
theorem d_MO_goRow_36 : decode b_MO_goRow 36 = .ok (.iload_n 2, 1) := by decide +kernel
theorem d_MO_goRow_37 : decode b_MO_goRow 37 = .ok (.ifCond .ge 14, 3) := by decide +kernel
theorem d_MO_goRow_40 : decode b_MO_goRow 40 = .ok (.aload_n 0, 1) := by decide +kernel
theorem d_MO_goRow_41 : decode b_MO_goRow 41 = .ok (.aload_n 0, 1) := by decide +kernel
theorem d_MO_goRow_42 : decode b_MO_goRow 42 = .ok (.getfield 167, 3) := by decide +kernel
theorem d_MO_goRow_45 : decode b_MO_goRow 45 = .ok (.iload_n 1, 1) := by decide +kernel
theorem d_MO_goRow_46 : decode b_MO_goRow 46 = .ok (.iaload, 1) := by decide +kernel
theorem d_MO_goRow_47 : decode b_MO_goRow 47 = .ok (.invokevirtual 461, 3) := by decide +kernel
theorem d_MO_goRow_50 : decode b_MO_goRow 50 = .ok (.return_, 1) := by decide +kernel
theorem d_MO_goRow_51 : decode b_MO_goRow 51 = .ok (.aload_n 0, 1) := by decide +kernel
theorem d_MO_goRow_52 : decode b_MO_goRow 52 = .ok (.getfield 170, 3) := by decide +kernel
theorem d_MO_goRow_55 : decode b_MO_goRow 55 = .ok (.iload_n 1, 1) := by decide +kernel
theorem d_MO_goRow_56 : decode b_MO_goRow 56 = .ok (.dup2, 1) := by decide +kernel
theorem d_MO_goRow_57 : decode b_MO_goRow 57 = .ok (.iaload, 1) := by decide +kernel
theorem d_MO_goRow_58 : decode b_MO_goRow 58 = .ok (.iconst 1, 1) := by decide +kernel
theorem d_MO_goRow_59 : decode b_MO_goRow 59 = .ok (.iadd, 1) := by decide +kernel
theorem d_MO_goRow_60 : decode b_MO_goRow 60 = .ok (.iastore, 1) := by decide +kernel
theorem d_MO_goRow_61 : decode b_MO_goRow 61 = .ok (.aload_n 0, 1) := by decide +kernel
theorem d_MO_goRow_62 : decode b_MO_goRow 62 = .ok (.iload_n 2, 1) := by decide +kernel
theorem d_MO_goRow_63 : decode b_MO_goRow 63 = .ok (.aload_n 0, 1) := by decide +kernel
theorem d_MO_goRow_64 : decode b_MO_goRow 64 = .ok (.getfield 161, 3) := by decide +kernel
theorem d_MO_goRow_67 : decode b_MO_goRow 67 = .ok (.iload_n 1, 1) := by decide +kernel
theorem d_MO_goRow_68 : decode b_MO_goRow 68 = .ok (.iaload, 1) := by decide +kernel
theorem d_MO_goRow_69 : decode b_MO_goRow 69 = .ok (.aload_n 0, 1) := by decide +kernel
theorem d_MO_goRow_70 : decode b_MO_goRow 70 = .ok (.getfield 167, 3) := by decide +kernel
theorem d_MO_goRow_73 : decode b_MO_goRow 73 = .ok (.iload_n 1, 1) := by decide +kernel
theorem d_MO_goRow_74 : decode b_MO_goRow 74 = .ok (.iaload, 1) := by decide +kernel
theorem d_MO_goRow_75 : decode b_MO_goRow 75 = .ok (.invokevirtual 464, 3) := by decide +kernel
theorem d_MO_goRow_78 : decode b_MO_goRow 78 = .ok (.return_, 1) := by decide +kernel
theorem d_MO_openRound_0 : decode b_MO_openRound 0 = .ok (.aload_n 0, 1) := by decide +kernel
theorem d_MO_openRound_1 : decode b_MO_openRound 1 = .ok (.getfield 161, 3) := by decide +kernel
theorem d_MO_openRound_4 : decode b_MO_openRound 4 = .ok (.iload_n 1, 1) := by decide +kernel
theorem d_MO_openRound_5 : decode b_MO_openRound 5 = .ok (.iaload, 1) := by decide +kernel
theorem d_MO_openRound_6 : decode b_MO_openRound 6 = .ok (.istore_n 2, 1) := by decide +kernel
theorem d_MO_openRound_7 : decode b_MO_openRound 7 = .ok (.aload_n 0, 1) := by decide +kernel
theorem d_MO_openRound_8 : decode b_MO_openRound 8 = .ok (.invokevirtual 454, 3) := by decide +kernel
theorem d_MO_openRound_11 : decode b_MO_openRound 11 = .ok (.istore_n 3, 1) := by decide +kernel
theorem d_MO_openRound_12 : decode b_MO_openRound 12 = .ok (.iconst 0, 1) := by decide +kernel
theorem d_MO_openRound_13 : decode b_MO_openRound 13 = .ok (.istore 4, 2) := by decide +kernel
theorem d_MO_openRound_15 : decode b_MO_openRound 15 = .ok (.iload 4, 2) := by decide +kernel
theorem d_MO_openRound_17 : decode b_MO_openRound 17 = .ok (.iload_n 2, 1) := by decide +kernel
theorem d_MO_openRound_18 : decode b_MO_openRound 18 = .ok (.if_icmp .gt 25, 3) := by decide +kernel
theorem d_MO_openRound_21 : decode b_MO_openRound 21 = .ok (.aload_n 0, 1) := by decide +kernel
theorem d_MO_openRound_22 : decode b_MO_openRound 22 = .ok (.getfield 174, 3) := by decide +kernel
theorem d_MO_openRound_25 : decode b_MO_openRound 25 = .ok (.iload_n 3, 1) := by decide +kernel
theorem d_MO_openRound_26 : decode b_MO_openRound 26 = .ok (.iload 4, 2) := by decide +kernel
theorem d_MO_openRound_28 : decode b_MO_openRound 28 = .ok (.iadd, 1) := by decide +kernel
theorem d_MO_openRound_29 : decode b_MO_openRound 29 = .ok (.aload_n 0, 1) := by decide +kernel
theorem d_MO_openRound_30 : decode b_MO_openRound 30 = .ok (.iconst 3, 1) := by decide +kernel
