theorem d_MO_part_0 : decode b_MO_part 0 = .ok (.aload_n 0, 1) := by decide +kernel
theorem d_MO_part_1 : decode b_MO_part 1 = .ok (.getfield 88, 3) := by decide +kernel
theorem d_MO_part_4 : decode b_MO_part 4 = .ok (.aload_n 0, 1) := by decide +kernel
theorem d_MO_part_5 : decode b_MO_part 5 = .ok (.getfield 282, 3) := by decide +kernel
theorem d_MO_part_8 : decode b_MO_part 8 = .ok (.iaload, 1) := by decide +kernel
theorem d_MO_part_9 : decode b_MO_part 9 = .ok (.ifCond .ge 16, 3) := by decide +kernel
theorem d_MO_part_12 : decode b_MO_part 12 = .ok (.aload_n 0, 1) := by decide +kernel
theorem d_MO_part_13 : decode b_MO_part 13 = .ok (.getfield 88, 3) := by decide +kernel
theorem d_MO_part_16 : decode b_MO_part 16 = .ok (.aload_n 0, 1) := by decide +kernel
theorem d_MO_part_17 : decode b_MO_part 17 = .ok (.getfield 282, 3) := by decide +kernel
theorem d_MO_part_20 : decode b_MO_part 20 = .ok (.iload_n 1, 1) := by decide +kernel
theorem d_MO_part_21 : decode b_MO_part 21 = .ok (.iastore, 1) := by decide +kernel
theorem d_MO_part_22 : decode b_MO_part 22 = .ok (.goto 18, 3) := by decide +kernel
theorem d_MO_part_25 : decode b_MO_part 25 = .ok (.aload_n 0, 1) := by decide +kernel
theorem d_MO_part_26 : decode b_MO_part 26 = .ok (.getfield 59, 3) := by decide +kernel
theorem d_MO_part_29 : decode b_MO_part 29 = .ok (.aload_n 0, 1) := by decide +kernel
theorem d_MO_part_30 : decode b_MO_part 30 = .ok (.getfield 91, 3) := by decide +kernel
theorem d_MO_part_33 : decode b_MO_part 33 = .ok (.aload_n 0, 1) := by decide +kernel
theorem d_MO_part_34 : decode b_MO_part 34 = .ok (.getfield 282, 3) := by decide +kernel
theorem d_MO_part_37 : decode b_MO_part 37 = .ok (.iaload, 1) := by decide +kernel
theorem d_MO_part_38 : decode b_MO_part 38 = .ok (.iload_n 1, 1) := by decide +kernel
theorem d_MO_part_39 : decode b_MO_part 39 = .ok (.iastore, 1) := by decide +kernel
theorem d_MO_part_40 : decode b_MO_part 40 = .ok (.aload_n 0, 1) := by decide +kernel
theorem d_MO_part_41 : decode b_MO_part 41 = .ok (.getfield 91, 3) := by decide +kernel
theorem d_MO_part_44 : decode b_MO_part 44 = .ok (.aload_n 0, 1) := by decide +kernel
theorem d_MO_part_45 : decode b_MO_part 45 = .ok (.getfield 282, 3) := by decide +kernel
theorem d_MO_part_48 : decode b_MO_part 48 = .ok (.iload_n 1, 1) := by decide +kernel
theorem d_MO_part_49 : decode b_MO_part 49 = .ok (.iastore, 1) := by decide +kernel
theorem d_MO_part_50 : decode b_MO_part 50 = .ok (.aload_n 0, 1) := by decide +kernel
theorem d_MO_part_51 : decode b_MO_part 51 = .ok (.getfield 100, 3) := by decide +kernel
theorem d_MO_part_54 : decode b_MO_part 54 = .ok (.aload_n 0, 1) := by decide +kernel
theorem d_MO_part_55 : decode b_MO_part 55 = .ok (.getfield 282, 3) := by decide +kernel
theorem d_MO_part_58 : decode b_MO_part 58 = .ok (.iload_n 2, 1) := by decide +kernel
theorem d_MO_part_59 : decode b_MO_part 59 = .ok (.iastore, 1) := by decide +kernel
theorem d_MO_part_60 : decode b_MO_part 60 = .ok (.return_, 1) := by decide +kernel
theorem d_MO_repeat_0 : decode b_MO_repeat 0 = .ok (.aload_n 0, 1) := by decide +kernel
theorem d_MO_repeat_1 : decode b_MO_repeat 1 = .ok (.getfield 91, 3) := by decide +kernel
theorem d_MO_repeat_4 : decode b_MO_repeat 4 = .ok (.aload_n 0, 1) := by decide +kernel
theorem d_MO_repeat_5 : decode b_MO_repeat 5 = .ok (.getfield 282, 3) := by decide +kernel
theorem d_MO_repeat_8 : decode b_MO_repeat 8 = .ok (.iaload, 1) := by decide +kernel
theorem d_MO_repeat_9 : decode b_MO_repeat 9 = .ok (.istore 4, 2) := by decide +kernel
theorem d_MO_repeat_11 : decode b_MO_repeat 11 = .ok (.aload_n 0, 1) := by decide +kernel
theorem d_MO_repeat_12 : decode b_MO_repeat 12 = .ok (.aload_n 0, 1) := by decide +kernel
theorem d_MO_repeat_13 : decode b_MO_repeat 13 = .ok (.getfield 50, 3) := by decide +kernel
theorem d_MO_repeat_16 : decode b_MO_repeat 16 = .ok (.iload 4, 2) := by decide +kernel
theorem d_MO_repeat_18 : decode b_MO_repeat 18 = .ok (.iaload, 1) := by decide +kernel
theorem d_MO_repeat_19 : decode b_MO_repeat 19 = .ok (.aload_n 0, 1) := by decide +kernel
theorem d_MO_repeat_20 : decode b_MO_repeat 20 = .ok (.getfield 53, 3) := by decide +kernel
theorem d_MO_repeat_23 : decode b_MO_repeat 23 = .ok (.iload 4, 2) := by decide +kernel
theorem d_MO_repeat_25 : decode b_MO_repeat 25 = .ok (.iaload, 1) := by decide +kernel
theorem d_MO_repeat_26 : decode b_MO_repeat 26 = .ok (.aload_n 0, 1) := by decide +kernel
theorem d_MO_repeat_27 : decode b_MO_repeat 27 = .ok (.getfield 68, 3) := by decide +kernel
theorem d_MO_repeat_30 : decode b_MO_repeat 30 = .ok (.iload 4, 2) := by decide +kernel
theorem d_MO_repeat_32 : decode b_MO_repeat 32 = .ok (.laload, 1) := by decide +kernel
theorem d_MO_repeat_33 : decode b_MO_repeat 33 = .ok (.invokevirtual 269, 3) := by decide +kernel
theorem d_MO_repeat_36 : decode b_MO_repeat 36 = .ok (.istore 5, 2) := by decide +kernel
theorem d_MO_repeat_38 : decode b_MO_repeat 38 = .ok (.aload_n 0, 1) := by decide +kernel
theorem d_MO_repeat_39 : decode b_MO_repeat 39 = .ok (.getfield 56, 3) := by decide +kernel
theorem d_MO_repeat_42 : decode b_MO_repeat 42 = .ok (.iload 5, 2) := by decide +kernel
theorem d_MO_repeat_44 : decode b_MO_repeat 44 = .ok (.aload_n 0, 1) := by decide +kernel
theorem d_MO_repeat_45 : decode b_MO_repeat 45 = .ok (.getfield 56, 3) := by decide +kernel
theorem d_MO_repeat_48 : decode b_MO_repeat 48 = .ok (.iload 4, 2) := by decide +kernel
theorem d_MO_repeat_50 : decode b_MO_repeat 50 = .ok (.iaload, 1) := by decide +kernel
theorem d_MO_repeat_51 : decode b_MO_repeat 51 = .ok (.iastore, 1) := by decide +kernel
theorem d_MO_repeat_52 : decode b_MO_repeat 52 = .ok (.aload_n 0, 1) := by decide +kernel
theorem d_MO_repeat_53 : decode b_MO_repeat 53 = .ok (.getfield 62, 3) := by decide +kernel
theorem d_MO_repeat_56 : decode b_MO_repeat 56 = .ok (.iload 5, 2) := by decide +kernel
theorem d_MO_repeat_58 : decode b_MO_repeat 58 = .ok (.aload_n 0, 1) := by decide +kernel
theorem d_MO_repeat_59 : decode b_MO_repeat 59 = .ok (.getfield 62, 3) := by decide +kernel
theorem d_MO_repeat_62 : decode b_MO_repeat 62 = .ok (.iload 4, 2) := by decide +kernel
theorem d_MO_repeat_64 : decode b_MO_repeat 64 = .ok (.iaload, 1) := by decide +kernel
theorem d_MO_repeat_65 : decode b_MO_repeat 65 = .ok (.iastore, 1) := by decide +kernel
theorem d_MO_repeat_66 : decode b_MO_repeat 66 = .ok (.aload_n 0, 1) := by decide +kernel
theorem d_MO_repeat_67 : decode b_MO_repeat 67 = .ok (.getfield 65, 3) := by decide +kernel
theorem d_MO_repeat_70 : decode b_MO_repeat 70 = .ok (.iload 5, 2) := by decide +kernel
theorem d_MO_repeat_72 : decode b_MO_repeat 72 = .ok (.aload_n 0, 1) := by decide +kernel
theorem d_MO_repeat_73 : decode b_MO_repeat 73 = .ok (.getfield 65, 3) := by decide +kernel
theorem d_MO_repeat_76 : decode b_MO_repeat 76 = .ok (.iload 4, 2) := by decide +kernel
theorem d_MO_repeat_78 : decode b_MO_repeat 78 = .ok (.iaload, 1) := by decide +kernel
theorem d_MO_repeat_79 : decode b_MO_repeat 79 = .ok (.iastore, 1) := by decide +kernel
theorem d_MO_repeat_80 : decode b_MO_repeat 80 = .ok (.aload_n 0, 1) := by decide +kernel
theorem d_MO_repeat_81 : decode b_MO_repeat 81 = .ok (.getfield 72, 3) := by decide +kernel
theorem d_MO_repeat_84 : decode b_MO_repeat 84 = .ok (.iload 5, 2) := by decide +kernel
theorem d_MO_repeat_86 : decode b_MO_repeat 86 = .ok (.aload_n 0, 1) := by decide +kernel
theorem d_MO_repeat_87 : decode b_MO_repeat 87 = .ok (.getfield 72, 3) := by decide +kernel
theorem d_MO_repeat_90 : decode b_MO_repeat 90 = .ok (.iload 4, 2) := by decide +kernel
theorem d_MO_repeat_92 : decode b_MO_repeat 92 = .ok (.baload, 1) := by decide +kernel
theorem d_MO_repeat_93 : decode b_MO_repeat 93 = .ok (.bastore, 1) := by decide +kernel
theorem d_MO_repeat_94 : decode b_MO_repeat 94 = .ok (.aload_n 0, 1) := by decide +kernel
theorem d_MO_repeat_95 : decode b_MO_repeat 95 = .ok (.getfield 68, 3) := by decide +kernel
theorem d_MO_repeat_98 : decode b_MO_repeat 98 = .ok (.iload 4, 2) := by decide +kernel
theorem d_MO_repeat_100 : decode b_MO_repeat 100 = .ok (.laload, 1) := by decide +kernel
theorem d_MO_repeat_101 : decode b_MO_repeat 101 = .ok (.lstore 6, 2) := by decide +kernel
theorem d_MO_repeat_103 : decode b_MO_repeat 103 = .ok (.aload_n 0, 1) := by decide +kernel
theorem d_MO_repeat_104 : decode b_MO_repeat 104 = .ok (.getfield 50, 3) := by decide +kernel
theorem d_MO_repeat_107 : decode b_MO_repeat 107 = .ok (.iload 4, 2) := by decide +kernel
theorem d_MO_repeat_109 : decode b_MO_repeat 109 = .ok (.bipush 7, 2) := by decide +kernel
theorem d_MO_repeat_111 : decode b_MO_repeat 111 = .ok (.iastore, 1) := by decide +kernel
theorem d_MO_repeat_112 : decode b_MO_repeat 112 = .ok (.aload_n 0, 1) := by decide +kernel
theorem d_MO_repeat_113 : decode b_MO_repeat 113 = .ok (.getfield 56, 3) := by decide +kernel
theorem d_MO_repeat_116 : decode b_MO_repeat 116 = .ok (.iload 4, 2) := by decide +kernel
theorem d_MO_repeat_118 : decode b_MO_repeat 118 = .ok (.iload 5, 2) := by decide +kernel
theorem d_MO_repeat_120 : decode b_MO_repeat 120 = .ok (.iastore, 1) := by decide +kernel
theorem d_MO_repeat_121 : decode b_MO_repeat 121 = .ok (.aload_n 0, 1) := by decide +kernel
theorem d_MO_repeat_122 : decode b_MO_repeat 122 = .ok (.getfield 68, 3) := by decide +kernel
theorem d_MO_repeat_125 : decode b_MO_repeat 125 = .ok (.iload 4, 2) := by decide +kernel
theorem d_MO_repeat_127 : decode b_MO_repeat 127 = .ok (.iload_n 2, 1) := by decide +kernel
theorem d_MO_repeat_128 : decode b_MO_repeat 128 = .ok (.ifCond .ge 27, 3) := by decide +kernel
theorem d_MO_repeat_131 : decode b_MO_repeat 131 = .ok (.iload_n 1, 1) := by decide +kernel
theorem d_MO_repeat_132 : decode b_MO_repeat 132 = .ok (.ifCond .ne 10, 3) := by decide +kernel
theorem d_MO_repeat_135 : decode b_MO_repeat 135 = .ok (.lload 6, 2) := by decide +kernel
theorem d_MO_repeat_137 : decode b_MO_repeat 137 = .ok (.lconst 1, 1) := by decide +kernel
theorem d_MO_repeat_138 : decode b_MO_repeat 138 = .ok (.ladd, 1) := by decide +kernel
theorem d_MO_repeat_139 : decode b_MO_repeat 139 = .ok (.goto 27, 3) := by decide +kernel
theorem d_MO_repeat_142 : decode b_MO_repeat 142 = .ok (.iload_n 1, 1) := by decide +kernel
theorem d_MO_repeat_143 : decode b_MO_repeat 143 = .ok (.i2l, 1) := by decide +kernel
theorem d_MO_repeat_144 : decode b_MO_repeat 144 = .ok (.lload 6, 2) := by decide +kernel
theorem d_MO_repeat_146 : decode b_MO_repeat 146 = .ok (.lmul, 1) := by decide +kernel
theorem d_MO_repeat_147 : decode b_MO_repeat 147 = .ok (.lload 6, 2) := by decide +kernel
theorem d_MO_repeat_149 : decode b_MO_repeat 149 = .ok (.ladd, 1) := by decide +kernel
theorem d_MO_repeat_150 : decode b_MO_repeat 150 = .ok (.lconst 1, 1) := by decide +kernel
theorem d_MO_repeat_151 : decode b_MO_repeat 151 = .ok (.ladd, 1) := by decide +kernel
theorem d_MO_repeat_152 : decode b_MO_repeat 152 = .ok (.goto 14, 3) := by decide +kernel
theorem d_MO_repeat_155 : decode b_MO_repeat 155 = .ok (.iload_n 2, 1) := by decide +kernel
theorem d_MO_repeat_156 : decode b_MO_repeat 156 = .ok (.i2l, 1) := by decide +kernel
theorem d_MO_repeat_157 : decode b_MO_repeat 157 = .ok (.lload 6, 2) := by decide +kernel
theorem d_MO_repeat_159 : decode b_MO_repeat 159 = .ok (.lmul, 1) := by decide +kernel
theorem d_MO_repeat_160 : decode b_MO_repeat 160 = .ok (.iload_n 2, 1) := by decide +kernel
theorem d_MO_repeat_161 : decode b_MO_repeat 161 = .ok (.i2l, 1) := by decide +kernel
theorem d_MO_repeat_162 : decode b_MO_repeat 162 = .ok (.ladd, 1) := by decide +kernel
theorem d_MO_repeat_163 : decode b_MO_repeat 163 = .ok (.iload_n 1, 1) := by decide +kernel
theorem d_MO_repeat_164 : decode b_MO_repeat 164 = .ok (.i2l, 1) := by decide +kernel
theorem d_MO_repeat_165 : decode b_MO_repeat 165 = .ok (.lsub, 1) := by decide +kernel
theorem d_MO_repeat_166 : decode b_MO_repeat 166 = .ok (.invokestatic 288, 3) := by decide +kernel
theorem d_MO_repeat_169 : decode b_MO_repeat 169 = .ok (.lastore, 1) := by decide +kernel
theorem d_MO_repeat_170 : decode b_MO_repeat 170 = .ok (.aload_n 0, 1) := by decide +kernel
theorem d_MO_repeat_171 : decode b_MO_repeat 171 = .ok (.getfield 62, 3) := by decide +kernel
theorem d_MO_repeat_174 : decode b_MO_repeat 174 = .ok (.iload 4, 2) := by decide +kernel
theorem d_MO_repeat_176 : decode b_MO_repeat 176 = .ok (.iload_n 1, 1) := by decide +kernel
theorem d_MO_repeat_177 : decode b_MO_repeat 177 = .ok (.iastore, 1) := by decide +kernel
theorem d_MO_repeat_178 : decode b_MO_repeat 178 = .ok (.aload_n 0, 1) := by decide +kernel
theorem d_MO_repeat_179 : decode b_MO_repeat 179 = .ok (.getfield 65, 3) := by decide +kernel
theorem d_MO_repeat_182 : decode b_MO_repeat 182 = .ok (.iload 4, 2) := by decide +kernel
theorem d_MO_repeat_184 : decode b_MO_repeat 184 = .ok (.iload_n 2, 1) := by decide +kernel
theorem d_MO_repeat_185 : decode b_MO_repeat 185 = .ok (.iastore, 1) := by decide +kernel
theorem d_MO_repeat_186 : decode b_MO_repeat 186 = .ok (.aload_n 0, 1) := by decide +kernel
theorem d_MO_repeat_187 : decode b_MO_repeat 187 = .ok (.getfield 72, 3) := by decide +kernel
theorem d_MO_repeat_190 : decode b_MO_repeat 190 = .ok (.iload 4, 2) := by decide +kernel
theorem d_MO_repeat_192 : decode b_MO_repeat 192 = .ok (.iload_n 3, 1) := by decide +kernel
theorem d_MO_repeat_193 : decode b_MO_repeat 193 = .ok (.bastore, 1) := by decide +kernel
theorem d_MO_repeat_194 : decode b_MO_repeat 194 = .ok (.aload_n 0, 1) := by decide +kernel
theorem d_MO_repeat_195 : decode b_MO_repeat 195 = .ok (.getfield 100, 3) := by decide +kernel
theorem d_MO_repeat_198 : decode b_MO_repeat 198 = .ok (.aload_n 0, 1) := by decide +kernel
theorem d_MO_repeat_199 : decode b_MO_repeat 199 = .ok (.getfield 282, 3) := by decide +kernel
theorem d_MO_repeat_202 : decode b_MO_repeat 202 = .ok (.iconst 2, 1) := by decide +kernel
theorem d_MO_repeat_203 : decode b_MO_repeat 203 = .ok (.iastore, 1) := by decide +kernel
theorem d_MO_repeat_204 : decode b_MO_repeat 204 = .ok (.return_, 1) := by decide +kernel
theorem d_MO_setNode_0 : decode b_MO_setNode 0 = .ok (.aload_n 0, 1) := by decide +kernel
theorem d_MO_setNode_1 : decode b_MO_setNode 1 = .ok (.iconst 1, 1) := by decide +kernel
theorem d_MO_setNode_2 : decode b_MO_setNode 2 = .ok (.iload_n 1, 1) := by decide +kernel
theorem d_MO_setNode_3 : decode b_MO_setNode 3 = .ok (.iload_n 2, 1) := by decide +kernel
theorem d_MO_setNode_4 : decode b_MO_setNode 4 = .ok (.ifCond .eq 7, 3) := by decide +kernel
theorem d_MO_setNode_7 : decode b_MO_setNode 7 = .ok (.lconst 1, 1) := by decide +kernel
theorem d_MO_setNode_8 : decode b_MO_setNode 8 = .ok (.goto 14, 3) := by decide +kernel
theorem d_MO_setNode_11 : decode b_MO_setNode 11 = .ok (.iconst 2, 1) := by decide +kernel
theorem d_MO_setNode_12 : decode b_MO_setNode 12 = .ok (.iconst 4, 1) := by decide +kernel
theorem d_MO_setNode_13 : decode b_MO_setNode 13 = .ok (.aload_n 0, 1) := by decide +kernel
theorem d_MO_setNode_14 : decode b_MO_setNode 14 = .ok (.getfield 37, 3) := by decide +kernel
theorem d_MO_setNode_17 : decode b_MO_setNode 17 = .ok (.iload_n 1, 1) := by decide +kernel
theorem d_MO_setNode_18 : decode b_MO_setNode 18 = .ok (.iaload, 1) := by decide +kernel
theorem d_MO_setNode_19 : decode b_MO_setNode 19 = .ok (.imul, 1) := by decide +kernel
theorem d_MO_setNode_20 : decode b_MO_setNode 20 = .ok (.iadd, 1) := by decide +kernel
theorem d_MO_setNode_21 : decode b_MO_setNode 21 = .ok (.i2l, 1) := by decide +kernel
theorem d_MO_setNode_22 : decode b_MO_setNode 22 = .ok (.invokevirtual 269, 3) := by decide +kernel
theorem d_MO_setNode_25 : decode b_MO_setNode 25 = .ok (.ireturn, 1) := by decide +kernel
