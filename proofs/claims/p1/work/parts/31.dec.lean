theorem d_MO_compile_109 : decode b_MO_compile 109 = .ok (.l2i, 1) := by decide +kernel
theorem d_MO_compile_110 : decode b_MO_compile 110 = .ok (.iastore, 1) := by decide +kernel
theorem d_MO_compile_111 : decode b_MO_compile 111 = .ok (.aload_n 0, 1) := by decide +kernel
theorem d_MO_compile_112 : decode b_MO_compile 112 = .ok (.getfield 121, 3) := by decide +kernel
theorem d_MO_compile_115 : decode b_MO_compile 115 = .ok (.iload_n 1, 1) := by decide +kernel
theorem d_MO_compile_116 : decode b_MO_compile 116 = .ok (.iload_n 2, 1) := by decide +kernel
theorem d_MO_compile_117 : decode b_MO_compile 117 = .ok (.iastore, 1) := by decide +kernel
theorem d_MO_compile_118 : decode b_MO_compile 118 = .ok (.aload_n 0, 1) := by decide +kernel
theorem d_MO_compile_119 : decode b_MO_compile 119 = .ok (.getfield 124, 3) := by decide +kernel
theorem d_MO_compile_122 : decode b_MO_compile 122 = .ok (.iload_n 1, 1) := by decide +kernel
theorem d_MO_compile_123 : decode b_MO_compile 123 = .ok (.iconst 0, 1) := by decide +kernel
theorem d_MO_compile_124 : decode b_MO_compile 124 = .ok (.iastore, 1) := by decide +kernel
theorem d_MO_compile_125 : decode b_MO_compile 125 = .ok (.aload_n 0, 1) := by decide +kernel
theorem d_MO_compile_126 : decode b_MO_compile 126 = .ok (.getfield 149, 3) := by decide +kernel
theorem d_MO_compile_129 : decode b_MO_compile 129 = .ok (.iload_n 1, 1) := by decide +kernel
theorem d_MO_compile_130 : decode b_MO_compile 130 = .ok (.iconst 0, 1) := by decide +kernel
theorem d_MO_compile_131 : decode b_MO_compile 131 = .ok (.iastore, 1) := by decide +kernel
theorem d_MO_compile_132 : decode b_MO_compile 132 = .ok (.iconst 0, 1) := by decide +kernel
theorem d_MO_compile_133 : decode b_MO_compile 133 = .ok (.istore 4, 2) := by decide +kernel
theorem d_MO_compile_135 : decode b_MO_compile 135 = .ok (.iload 4, 2) := by decide +kernel
theorem d_MO_compile_137 : decode b_MO_compile 137 = .ok (.bipush 10, 2) := by decide +kernel
theorem d_MO_compile_139 : decode b_MO_compile 139 = .ok (.if_icmp .ge 93, 3) := by decide +kernel
theorem d_MO_compile_142 : decode b_MO_compile 142 = .ok (.aload_n 0, 1) := by decide +kernel
theorem d_MO_compile_143 : decode b_MO_compile 143 = .ok (.getfield 155, 3) := by decide +kernel
theorem d_MO_compile_146 : decode b_MO_compile 146 = .ok (.bipush 10, 2) := by decide +kernel
theorem d_MO_compile_148 : decode b_MO_compile 148 = .ok (.iload_n 1, 1) := by decide +kernel
theorem d_MO_compile_149 : decode b_MO_compile 149 = .ok (.imul, 1) := by decide +kernel
theorem d_MO_compile_150 : decode b_MO_compile 150 = .ok (.iload 4, 2) := by decide +kernel
theorem d_MO_compile_152 : decode b_MO_compile 152 = .ok (.iadd, 1) := by decide +kernel
theorem d_MO_compile_153 : decode b_MO_compile 153 = .ok (.iload 4, 2) := by decide +kernel
theorem d_MO_compile_155 : decode b_MO_compile 155 = .ok (.ifCond .le 22, 3) := by decide +kernel
theorem d_MO_compile_158 : decode b_MO_compile 158 = .ok (.iload 4, 2) := by decide +kernel
theorem d_MO_compile_160 : decode b_MO_compile 160 = .ok (.aload_n 0, 1) := by decide +kernel
theorem d_MO_compile_161 : decode b_MO_compile 161 = .ok (.getfield 395, 3) := by decide +kernel
theorem d_MO_compile_164 : decode b_MO_compile 164 = .ok (.if_icmp .gt 13, 3) := by decide +kernel
theorem d_MO_compile_167 : decode b_MO_compile 167 = .ok (.aload_n 0, 1) := by decide +kernel
theorem d_MO_compile_168 : decode b_MO_compile 168 = .ok (.getfield 106, 3) := by decide +kernel
theorem d_MO_compile_171 : decode b_MO_compile 171 = .ok (.iload 4, 2) := by decide +kernel
theorem d_MO_compile_173 : decode b_MO_compile 173 = .ok (.iaload, 1) := by decide +kernel
theorem d_MO_compile_174 : decode b_MO_compile 174 = .ok (.goto 4, 3) := by decide +kernel
theorem d_MO_compile_177 : decode b_MO_compile 177 = .ok (.iconst 0, 1) := by decide +kernel
theorem d_MO_compile_178 : decode b_MO_compile 178 = .ok (.iastore, 1) := by decide +kernel
theorem d_MO_compile_179 : decode b_MO_compile 179 = .ok (.iconst 0, 1) := by decide +kernel
theorem d_MO_compile_180 : decode b_MO_compile 180 = .ok (.istore 5, 2) := by decide +kernel
theorem d_MO_compile_182 : decode b_MO_compile 182 = .ok (.iload 5, 2) := by decide +kernel
theorem d_MO_compile_184 : decode b_MO_compile 184 = .ok (.bipush 12, 2) := by decide +kernel
theorem d_MO_compile_186 : decode b_MO_compile 186 = .ok (.if_icmp .ge 40, 3) := by decide +kernel
theorem d_MO_compile_189 : decode b_MO_compile 189 = .ok (.aload_n 0, 1) := by decide +kernel
theorem d_MO_compile_190 : decode b_MO_compile 190 = .ok (.getfield 152, 3) := by decide +kernel
theorem d_MO_compile_193 : decode b_MO_compile 193 = .ok (.bipush 120, 2) := by decide +kernel
theorem d_MO_compile_195 : decode b_MO_compile 195 = .ok (.iload_n 1, 1) := by decide +kernel
theorem d_MO_compile_196 : decode b_MO_compile 196 = .ok (.imul, 1) := by decide +kernel
theorem d_MO_compile_197 : decode b_MO_compile 197 = .ok (.bipush 12, 2) := by decide +kernel
theorem d_MO_compile_199 : decode b_MO_compile 199 = .ok (.iload 4, 2) := by decide +kernel
theorem d_MO_compile_201 : decode b_MO_compile 201 = .ok (.imul, 1) := by decide +kernel
theorem d_MO_compile_202 : decode b_MO_compile 202 = .ok (.iadd, 1) := by decide +kernel
theorem d_MO_compile_203 : decode b_MO_compile 203 = .ok (.iload 5, 2) := by decide +kernel
theorem d_MO_compile_205 : decode b_MO_compile 205 = .ok (.iadd, 1) := by decide +kernel
theorem d_MO_compile_206 : decode b_MO_compile 206 = .ok (.aload_n 0, 1) := by decide +kernel
theorem d_MO_compile_207 : decode b_MO_compile 207 = .ok (.getfield 103, 3) := by decide +kernel
theorem d_MO_compile_210 : decode b_MO_compile 210 = .ok (.bipush 12, 2) := by decide +kernel
theorem d_MO_compile_212 : decode b_MO_compile 212 = .ok (.iload 4, 2) := by decide +kernel
theorem d_MO_compile_214 : decode b_MO_compile 214 = .ok (.imul, 1) := by decide +kernel
theorem d_MO_compile_215 : decode b_MO_compile 215 = .ok (.iload 5, 2) := by decide +kernel
theorem d_MO_compile_217 : decode b_MO_compile 217 = .ok (.iadd, 1) := by decide +kernel
theorem d_MO_compile_218 : decode b_MO_compile 218 = .ok (.iaload, 1) := by decide +kernel
theorem d_MO_compile_219 : decode b_MO_compile 219 = .ok (.iastore, 1) := by decide +kernel
theorem d_MO_compile_220 : decode b_MO_compile 220 = .ok (.iinc 5 1, 3) := by decide +kernel
theorem d_MO_compile_223 : decode b_MO_compile 223 = .ok (.goto (-41), 3) := by decide +kernel
theorem d_MO_compile_226 : decode b_MO_compile 226 = .ok (.iinc 4 1, 3) := by decide +kernel
theorem d_MO_compile_229 : decode b_MO_compile 229 = .ok (.goto (-94), 3) := by decide +kernel
theorem d_MO_compile_232 : decode b_MO_compile 232 = .ok (.aload_n 0, 1) := by decide +kernel
theorem d_MO_compile_233 : decode b_MO_compile 233 = .ok (.iconst 0, 1) := by decide +kernel
theorem d_MO_compile_234 : decode b_MO_compile 234 = .ok (.putfield 445, 3) := by decide +kernel
theorem d_MO_compile_237 : decode b_MO_compile 237 = .ok (.aload_n 0, 1) := by decide +kernel
theorem d_MO_compile_238 : decode b_MO_compile 238 = .ok (.iconst 0, 1) := by decide +kernel
theorem d_MO_compile_239 : decode b_MO_compile 239 = .ok (.putfield 451, 3) := by decide +kernel
theorem d_MO_compile_242 : decode b_MO_compile 242 = .ok (.aload_n 0, 1) := by decide +kernel
theorem d_MO_compile_243 : decode b_MO_compile 243 = .ok (.invokevirtual 454, 3) := by decide +kernel
theorem d_MO_compile_246 : decode b_MO_compile 246 = .ok (.istore 4, 2) := by decide +kernel
theorem d_MO_compile_248 : decode b_MO_compile 248 = .ok (.aload_n 0, 1) := by decide +kernel
theorem d_MO_compile_249 : decode b_MO_compile 249 = .ok (.getfield 174, 3) := by decide +kernel
theorem d_MO_compile_252 : decode b_MO_compile 252 = .ok (.iload 4, 2) := by decide +kernel
theorem d_MO_compile_254 : decode b_MO_compile 254 = .ok (.aload_n 0, 1) := by decide +kernel
theorem d_MO_compile_255 : decode b_MO_compile 255 = .ok (.iconst 0, 1) := by decide +kernel
theorem d_MO_compile_256 : decode b_MO_compile 256 = .ok (.iconst (-1), 1) := by decide +kernel
theorem d_MO_compile_257 : decode b_MO_compile 257 = .ok (.iconst 0, 1) := by decide +kernel
theorem d_MO_compile_258 : decode b_MO_compile 258 = .ok (.invokevirtual 441, 3) := by decide +kernel
theorem d_MO_compile_261 : decode b_MO_compile 261 = .ok (.iastore, 1) := by decide +kernel
theorem d_MO_compile_262 : decode b_MO_compile 262 = .ok (.aload_n 0, 1) := by decide +kernel
theorem d_MO_compile_263 : decode b_MO_compile 263 = .ok (.bipush 6, 2) := by decide +kernel
theorem d_MO_compile_265 : decode b_MO_compile 265 = .ok (.iconst (-1), 1) := by decide +kernel
theorem d_MO_compile_266 : decode b_MO_compile 266 = .ok (.iconst 0, 1) := by decide +kernel
theorem d_MO_compile_267 : decode b_MO_compile 267 = .ok (.invokevirtual 441, 3) := by decide +kernel
theorem d_MO_compile_270 : decode b_MO_compile 270 = .ok (.istore 5, 2) := by decide +kernel
theorem d_MO_compile_272 : decode b_MO_compile 272 = .ok (.aload_n 0, 1) := by decide +kernel
theorem d_MO_compile_273 : decode b_MO_compile 273 = .ok (.iload_n 3, 1) := by decide +kernel
theorem d_MO_compile_274 : decode b_MO_compile 274 = .ok (.iconst 0, 1) := by decide +kernel
theorem d_MO_compile_275 : decode b_MO_compile 275 = .ok (.iload 4, 2) := by decide +kernel
theorem d_MO_compile_277 : decode b_MO_compile 277 = .ok (.invokevirtual 464, 3) := by decide +kernel
theorem d_MO_compile_280 : decode b_MO_compile 280 = .ok (.aload_n 0, 1) := by decide +kernel
theorem d_MO_compile_281 : decode b_MO_compile 281 = .ok (.getfield 445, 3) := by decide +kernel
theorem d_MO_compile_284 : decode b_MO_compile 284 = .ok (.ifCond .le 16, 3) := by decide +kernel
theorem d_MO_compile_287 : decode b_MO_compile 287 = .ok (.aload_n 0, 1) := by decide +kernel
theorem d_MO_compile_288 : decode b_MO_compile 288 = .ok (.aload_n 0, 1) := by decide +kernel
theorem d_MO_compile_289 : decode b_MO_compile 289 = .ok (.getfield 445, 3) := by decide +kernel
theorem d_MO_compile_292 : decode b_MO_compile 292 = .ok (.iconst 1, 1) := by decide +kernel
theorem d_MO_compile_293 : decode b_MO_compile 293 = .ok (.isub, 1) := by decide +kernel
theorem d_MO_compile_294 : decode b_MO_compile 294 = .ok (.invokevirtual 504, 3) := by decide +kernel
theorem d_MO_compile_297 : decode b_MO_compile 297 = .ok (.goto (-17), 3) := by decide +kernel
theorem d_MO_compile_300 : decode b_MO_compile 300 = .ok (.aload_n 0, 1) := by decide +kernel
theorem d_MO_compile_301 : decode b_MO_compile 301 = .ok (.getfield 112, 3) := by decide +kernel
theorem d_MO_compile_304 : decode b_MO_compile 304 = .ok (.iload_n 1, 1) := by decide +kernel
theorem d_MO_compile_305 : decode b_MO_compile 305 = .ok (.aload_n 0, 1) := by decide +kernel
theorem d_MO_compile_306 : decode b_MO_compile 306 = .ok (.getfield 174, 3) := by decide +kernel
theorem d_MO_compile_309 : decode b_MO_compile 309 = .ok (.aload_n 0, 1) := by decide +kernel
theorem d_MO_compile_310 : decode b_MO_compile 310 = .ok (.getfield 448, 3) := by decide +kernel
theorem d_MO_compile_313 : decode b_MO_compile 313 = .ok (.iaload, 1) := by decide +kernel
theorem d_MO_compile_314 : decode b_MO_compile 314 = .ok (.iastore, 1) := by decide +kernel
theorem d_MO_compile_315 : decode b_MO_compile 315 = .ok (.aload_n 0, 1) := by decide +kernel
theorem d_MO_compile_316 : decode b_MO_compile 316 = .ok (.getfield 395, 3) := by decide +kernel
theorem d_MO_compile_319 : decode b_MO_compile 319 = .ok (.ireturn, 1) := by decide +kernel
theorem d_MO_read_0 : decode b_MO_read 0 = .ok (.aload_n 0, 1) := by decide +kernel
theorem d_MO_read_1 : decode b_MO_read 1 = .ok (.iconst 0, 1) := by decide +kernel
theorem d_MO_read_2 : decode b_MO_read 2 = .ok (.putfield 279, 3) := by decide +kernel
theorem d_MO_read_5 : decode b_MO_read 5 = .ok (.aload_n 0, 1) := by decide +kernel
theorem d_MO_read_6 : decode b_MO_read 6 = .ok (.iload_n 1, 1) := by decide +kernel
theorem d_MO_read_7 : decode b_MO_read 7 = .ok (.putfield 276, 3) := by decide +kernel
theorem d_MO_read_10 : decode b_MO_read 10 = .ok (.aload_n 0, 1) := by decide +kernel
theorem d_MO_read_11 : decode b_MO_read 11 = .ok (.iconst 0, 1) := by decide +kernel
theorem d_MO_read_12 : decode b_MO_read 12 = .ok (.putfield 273, 3) := by decide +kernel
theorem d_MO_read_15 : decode b_MO_read 15 = .ok (.aload_n 0, 1) := by decide +kernel
theorem d_MO_read_16 : decode b_MO_read 16 = .ok (.iconst (-1), 1) := by decide +kernel
theorem d_MO_read_17 : decode b_MO_read 17 = .ok (.putfield 75, 3) := by decide +kernel
theorem d_MO_read_20 : decode b_MO_read 20 = .ok (.aload_n 0, 1) := by decide +kernel
theorem d_MO_read_21 : decode b_MO_read 21 = .ok (.iconst 0, 1) := by decide +kernel
theorem d_MO_read_22 : decode b_MO_read 22 = .ok (.putfield 395, 3) := by decide +kernel
theorem d_MO_read_25 : decode b_MO_read 25 = .ok (.aload_n 0, 1) := by decide +kernel
theorem d_MO_read_26 : decode b_MO_read 26 = .ok (.iconst 0, 1) := by decide +kernel
theorem d_MO_read_27 : decode b_MO_read 27 = .ok (.putfield 282, 3) := by decide +kernel
theorem d_MO_read_30 : decode b_MO_read 30 = .ok (.aload_n 0, 1) := by decide +kernel
theorem d_MO_read_31 : decode b_MO_read 31 = .ok (.iconst 0, 1) := by decide +kernel
theorem d_MO_read_32 : decode b_MO_read 32 = .ok (.putfield 264, 3) := by decide +kernel
theorem d_MO_read_35 : decode b_MO_read 35 = .ok (.aload_n 0, 1) := by decide +kernel
theorem d_MO_read_36 : decode b_MO_read 36 = .ok (.iconst 0, 1) := by decide +kernel
theorem d_MO_read_37 : decode b_MO_read 37 = .ok (.putfield 258, 3) := by decide +kernel
theorem d_MO_read_40 : decode b_MO_read 40 = .ok (.aload_n 0, 1) := by decide +kernel
theorem d_MO_read_41 : decode b_MO_read 41 = .ok (.iconst 0, 1) := by decide +kernel
theorem d_MO_read_42 : decode b_MO_read 42 = .ok (.putfield 248, 3) := by decide +kernel
theorem d_MO_read_45 : decode b_MO_read 45 = .ok (.aload_n 0, 1) := by decide +kernel
theorem d_MO_read_46 : decode b_MO_read 46 = .ok (.iconst (-1), 1) := by decide +kernel
theorem d_MO_read_47 : decode b_MO_read 47 = .ok (.aload_n 0, 1) := by decide +kernel
theorem d_MO_read_48 : decode b_MO_read 48 = .ok (.getfield 276, 3) := by decide +kernel
theorem d_MO_read_51 : decode b_MO_read 51 = .ok (.iconst 0, 1) := by decide +kernel
theorem d_MO_read_52 : decode b_MO_read 52 = .ok (.invokevirtual 392, 3) := by decide +kernel
theorem d_MO_read_55 : decode b_MO_read 55 = .ok (.aload_n 0, 1) := by decide +kernel
theorem d_MO_read_56 : decode b_MO_read 56 = .ok (.getfield 273, 3) := by decide +kernel
theorem d_MO_read_59 : decode b_MO_read 59 = .ok (.ifCond .ne 21, 3) := by decide +kernel
theorem d_MO_read_62 : decode b_MO_read 62 = .ok (.aload_n 0, 1) := by decide +kernel
theorem d_MO_read_63 : decode b_MO_read 63 = .ok (.getfield 279, 3) := by decide +kernel
theorem d_MO_read_66 : decode b_MO_read 66 = .ok (.aload_n 0, 1) := by decide +kernel
theorem d_MO_read_67 : decode b_MO_read 67 = .ok (.getfield 223, 3) := by decide +kernel
theorem d_MO_read_70 : decode b_MO_read 70 = .ok (.if_icmp .ge 10, 3) := by decide +kernel
theorem d_MO_read_73 : decode b_MO_read 73 = .ok (.aload_n 0, 1) := by decide +kernel
theorem d_MO_read_74 : decode b_MO_read 74 = .ok (.invokevirtual 433, 3) := by decide +kernel
theorem d_MO_read_77 : decode b_MO_read 77 = .ok (.goto (-22), 3) := by decide +kernel
theorem d_MO_read_80 : decode b_MO_read 80 = .ok (.aload_n 0, 1) := by decide +kernel
theorem d_MO_read_81 : decode b_MO_read 81 = .ok (.getfield 273, 3) := by decide +kernel
theorem d_MO_read_84 : decode b_MO_read 84 = .ok (.ifCond .ne 24, 3) := by decide +kernel
theorem d_MO_read_87 : decode b_MO_read 87 = .ok (.aload_n 0, 1) := by decide +kernel
theorem d_MO_read_88 : decode b_MO_read 88 = .ok (.getfield 282, 3) := by decide +kernel
theorem d_MO_read_91 : decode b_MO_read 91 = .ok (.ifCond .le 17, 3) := by decide +kernel
theorem d_MO_read_94 : decode b_MO_read 94 = .ok (.aload_n 0, 1) := by decide +kernel
theorem d_MO_read_95 : decode b_MO_read 95 = .ok (.iconst 2, 1) := by decide +kernel
theorem d_MO_read_96 : decode b_MO_read 96 = .ok (.aload_n 0, 1) := by decide +kernel
theorem d_MO_read_97 : decode b_MO_read 97 = .ok (.getfield 79, 3) := by decide +kernel
theorem d_MO_read_100 : decode b_MO_read 100 = .ok (.aload_n 0, 1) := by decide +kernel
theorem d_MO_read_101 : decode b_MO_read 101 = .ok (.getfield 282, 3) := by decide +kernel
theorem d_MO_read_104 : decode b_MO_read 104 = .ok (.iaload, 1) := by decide +kernel
theorem d_MO_read_105 : decode b_MO_read 105 = .ok (.invokevirtual 304, 3) := by decide +kernel
theorem d_MO_read_108 : decode b_MO_read 108 = .ok (.aload_n 0, 1) := by decide +kernel
theorem d_MO_read_109 : decode b_MO_read 109 = .ok (.getfield 273, 3) := by decide +kernel
theorem d_MO_read_112 : decode b_MO_read 112 = .ok (.ifCond .le 5, 3) := by decide +kernel
theorem d_MO_read_115 : decode b_MO_read 115 = .ok (.iconst (-1), 1) := by decide +kernel
theorem d_MO_read_116 : decode b_MO_read 116 = .ok (.ireturn, 1) := by decide +kernel
theorem d_MO_read_117 : decode b_MO_read 117 = .ok (.aload_n 0, 1) := by decide +kernel
theorem d_MO_read_118 : decode b_MO_read 118 = .ok (.invokevirtual 398, 3) := by decide +kernel
theorem d_MO_read_121 : decode b_MO_read 121 = .ok (.istore_n 2, 1) := by decide +kernel
theorem d_MO_read_122 : decode b_MO_read 122 = .ok (.aload_n 0, 1) := by decide +kernel
theorem d_MO_read_123 : decode b_MO_read 123 = .ok (.getfield 68, 3) := by decide +kernel
theorem d_MO_read_126 : decode b_MO_read 126 = .ok (.iload_n 2, 1) := by decide +kernel
theorem d_MO_read_127 : decode b_MO_read 127 = .ok (.laload, 1) := by decide +kernel
theorem d_MO_read_128 : decode b_MO_read 128 = .ok (.ldc2_w 436, 3) := by decide +kernel
theorem d_MO_read_131 : decode b_MO_read 131 = .ok (.lcmp, 1) := by decide +kernel
theorem d_MO_read_132 : decode b_MO_read 132 = .ok (.ifCond .le 10, 3) := by decide +kernel
theorem d_MO_read_135 : decode b_MO_read 135 = .ok (.aload_n 0, 1) := by decide +kernel
theorem d_MO_read_136 : decode b_MO_read 136 = .ok (.bipush 14, 2) := by decide +kernel
theorem d_MO_read_138 : decode b_MO_read 138 = .ok (.iconst (-1), 1) := by decide +kernel
theorem d_MO_read_139 : decode b_MO_read 139 = .ok (.invokevirtual 304, 3) := by decide +kernel
theorem d_MO_read_142 : decode b_MO_read 142 = .ok (.iload_n 2, 1) := by decide +kernel
theorem d_MO_read_143 : decode b_MO_read 143 = .ok (.ireturn, 1) := by decide +kernel
theorem d_MO_openGroup_0 : decode b_MO_openGroup 0 = .ok (.aload_n 0, 1) := by decide +kernel
theorem d_MO_openGroup_1 : decode b_MO_openGroup 1 = .ok (.getfield 79, 3) := by decide +kernel
theorem d_MO_openGroup_4 : decode b_MO_openGroup 4 = .ok (.aload_n 0, 1) := by decide +kernel
theorem d_MO_openGroup_5 : decode b_MO_openGroup 5 = .ok (.getfield 282, 3) := by decide +kernel
theorem d_MO_openGroup_8 : decode b_MO_openGroup 8 = .ok (.iload_n 1, 1) := by decide +kernel
theorem d_MO_openGroup_9 : decode b_MO_openGroup 9 = .ok (.iastore, 1) := by decide +kernel
theorem d_MO_openGroup_10 : decode b_MO_openGroup 10 = .ok (.aload_n 0, 1) := by decide +kernel
theorem d_MO_openGroup_11 : decode b_MO_openGroup 11 = .ok (.getfield 82, 3) := by decide +kernel
theorem d_MO_openGroup_14 : decode b_MO_openGroup 14 = .ok (.aload_n 0, 1) := by decide +kernel
theorem d_MO_openGroup_15 : decode b_MO_openGroup 15 = .ok (.getfield 282, 3) := by decide +kernel
theorem d_MO_openGroup_18 : decode b_MO_openGroup 18 = .ok (.iload_n 2, 1) := by decide +kernel
theorem d_MO_openGroup_19 : decode b_MO_openGroup 19 = .ok (.iastore, 1) := by decide +kernel
theorem d_MO_openGroup_20 : decode b_MO_openGroup 20 = .ok (.aload_n 0, 1) := by decide +kernel
theorem d_MO_openGroup_21 : decode b_MO_openGroup 21 = .ok (.getfield 85, 3) := by decide +kernel
theorem d_MO_openGroup_24 : decode b_MO_openGroup 24 = .ok (.aload_n 0, 1) := by decide +kernel
theorem d_MO_openGroup_25 : decode b_MO_openGroup 25 = .ok (.getfield 282, 3) := by decide +kernel
theorem d_MO_openGroup_28 : decode b_MO_openGroup 28 = .ok (.iload_n 3, 1) := by decide +kernel
theorem d_MO_openGroup_29 : decode b_MO_openGroup 29 = .ok (.iastore, 1) := by decide +kernel
theorem d_MO_openGroup_30 : decode b_MO_openGroup 30 = .ok (.aload_n 0, 1) := by decide +kernel
theorem d_MO_openGroup_31 : decode b_MO_openGroup 31 = .ok (.getfield 94, 3) := by decide +kernel
theorem d_MO_openGroup_34 : decode b_MO_openGroup 34 = .ok (.aload_n 0, 1) := by decide +kernel
theorem d_MO_openGroup_35 : decode b_MO_openGroup 35 = .ok (.getfield 282, 3) := by decide +kernel
theorem d_MO_openGroup_38 : decode b_MO_openGroup 38 = .ok (.iconst (-1), 1) := by decide +kernel
theorem d_MO_openGroup_39 : decode b_MO_openGroup 39 = .ok (.iastore, 1) := by decide +kernel
theorem d_MO_openGroup_40 : decode b_MO_openGroup 40 = .ok (.aload_n 0, 1) := by decide +kernel
theorem d_MO_openGroup_41 : decode b_MO_openGroup 41 = .ok (.invokevirtual 285, 3) := by decide +kernel
theorem d_MO_openGroup_44 : decode b_MO_openGroup 44 = .ok (.return_, 1) := by decide +kernel
theorem d_MO_openRow_0 : decode b_MO_openRow 0 = .ok (.aload_n 0, 1) := by decide +kernel
theorem d_MO_openRow_1 : decode b_MO_openRow 1 = .ok (.getfield 88, 3) := by decide +kernel
theorem d_MO_openRow_4 : decode b_MO_openRow 4 = .ok (.aload_n 0, 1) := by decide +kernel
theorem d_MO_openRow_5 : decode b_MO_openRow 5 = .ok (.getfield 282, 3) := by decide +kernel
theorem d_MO_openRow_8 : decode b_MO_openRow 8 = .ok (.iconst (-1), 1) := by decide +kernel
theorem d_MO_openRow_9 : decode b_MO_openRow 9 = .ok (.iastore, 1) := by decide +kernel
theorem d_MO_openRow_10 : decode b_MO_openRow 10 = .ok (.aload_n 0, 1) := by decide +kernel
theorem d_MO_openRow_11 : decode b_MO_openRow 11 = .ok (.getfield 100, 3) := by decide +kernel
theorem d_MO_openRow_14 : decode b_MO_openRow 14 = .ok (.aload_n 0, 1) := by decide +kernel
theorem d_MO_openRow_15 : decode b_MO_openRow 15 = .ok (.getfield 282, 3) := by decide +kernel
theorem d_MO_openRow_18 : decode b_MO_openRow 18 = .ok (.iconst 0, 1) := by decide +kernel
theorem d_MO_openRow_19 : decode b_MO_openRow 19 = .ok (.iastore, 1) := by decide +kernel
theorem d_MO_openRow_20 : decode b_MO_openRow 20 = .ok (.return_, 1) := by decide +kernel
theorem d_MO_closeAll_0 : decode b_MO_closeAll 0 = .ok (.aload_n 0, 1) := by decide +kernel
theorem d_MO_closeAll_1 : decode b_MO_closeAll 1 = .ok (.invokevirtual 292, 3) := by decide +kernel
theorem d_MO_closeAll_4 : decode b_MO_closeAll 4 = .ok (.ldc2_w 295, 3) := by decide +kernel
theorem d_MO_closeAll_7 : decode b_MO_closeAll 7 = .ok (.lstore_n 1, 1) := by decide +kernel
theorem d_MO_closeAll_8 : decode b_MO_closeAll 8 = .ok (.aload_n 0, 1) := by decide +kernel
theorem d_MO_closeAll_9 : decode b_MO_closeAll 9 = .ok (.getfield 94, 3) := by decide +kernel
theorem d_MO_closeAll_12 : decode b_MO_closeAll 12 = .ok (.aload_n 0, 1) := by decide +kernel
theorem d_MO_closeAll_13 : decode b_MO_closeAll 13 = .ok (.getfield 282, 3) := by decide +kernel
theorem d_MO_closeAll_16 : decode b_MO_closeAll 16 = .ok (.iaload, 1) := by decide +kernel
theorem d_MO_closeAll_17 : decode b_MO_closeAll 17 = .ok (.istore_n 3, 1) := by decide +kernel
theorem d_MO_closeAll_18 : decode b_MO_closeAll 18 = .ok (.iload_n 3, 1) := by decide +kernel
theorem d_MO_closeAll_19 : decode b_MO_closeAll 19 = .ok (.ifCond .lt 27, 3) := by decide +kernel
theorem d_MO_closeAll_22 : decode b_MO_closeAll 22 = .ok (.lload_n 1, 1) := by decide +kernel
theorem d_MO_closeAll_23 : decode b_MO_closeAll 23 = .ok (.lconst 1, 1) := by decide +kernel
theorem d_MO_closeAll_24 : decode b_MO_closeAll 24 = .ok (.ladd, 1) := by decide +kernel
theorem d_MO_closeAll_25 : decode b_MO_closeAll 25 = .ok (.aload_n 0, 1) := by decide +kernel
theorem d_MO_closeAll_26 : decode b_MO_closeAll 26 = .ok (.getfield 68, 3) := by decide +kernel
theorem d_MO_closeAll_29 : decode b_MO_closeAll 29 = .ok (.iload_n 3, 1) := by decide +kernel
theorem d_MO_closeAll_30 : decode b_MO_closeAll 30 = .ok (.laload, 1) := by decide +kernel
theorem d_MO_closeAll_31 : decode b_MO_closeAll 31 = .ok (.ladd, 1) := by decide +kernel
theorem d_MO_closeAll_32 : decode b_MO_closeAll 32 = .ok (.invokestatic 288, 3) := by decide +kernel
theorem d_MO_closeAll_35 : decode b_MO_closeAll 35 = .ok (.lstore_n 1, 1) := by decide +kernel
theorem d_MO_closeAll_36 : decode b_MO_closeAll 36 = .ok (.aload_n 0, 1) := by decide +kernel
theorem d_MO_closeAll_37 : decode b_MO_closeAll 37 = .ok (.getfield 59, 3) := by decide +kernel
theorem d_MO_closeAll_40 : decode b_MO_closeAll 40 = .ok (.iload_n 3, 1) := by decide +kernel
theorem d_MO_closeAll_41 : decode b_MO_closeAll 41 = .ok (.iaload, 1) := by decide +kernel
theorem d_MO_closeAll_42 : decode b_MO_closeAll 42 = .ok (.istore_n 3, 1) := by decide +kernel
theorem d_MO_closeAll_43 : decode b_MO_closeAll 43 = .ok (.goto (-25), 3) := by decide +kernel
theorem d_MO_closeAll_46 : decode b_MO_closeAll 46 = .ok (.aload_n 0, 1) := by decide +kernel
theorem d_MO_closeAll_47 : decode b_MO_closeAll 47 = .ok (.iconst 5, 1) := by decide +kernel
theorem d_MO_closeAll_48 : decode b_MO_closeAll 48 = .ok (.iconst 0, 1) := by decide +kernel
theorem d_MO_closeAll_49 : decode b_MO_closeAll 49 = .ok (.lload_n 1, 1) := by decide +kernel
theorem d_MO_closeAll_50 : decode b_MO_closeAll 50 = .ok (.invokevirtual 269, 3) := by decide +kernel
theorem d_MO_closeAll_53 : decode b_MO_closeAll 53 = .ok (.istore_n 3, 1) := by decide +kernel
theorem d_MO_closeAll_54 : decode b_MO_closeAll 54 = .ok (.aload_n 0, 1) := by decide +kernel
theorem d_MO_closeAll_55 : decode b_MO_closeAll 55 = .ok (.getfield 56, 3) := by decide +kernel
theorem d_MO_closeAll_58 : decode b_MO_closeAll 58 = .ok (.iload_n 3, 1) := by decide +kernel
theorem d_MO_closeAll_59 : decode b_MO_closeAll 59 = .ok (.aload_n 0, 1) := by decide +kernel
theorem d_MO_closeAll_60 : decode b_MO_closeAll 60 = .ok (.getfield 94, 3) := by decide +kernel
theorem d_MO_closeAll_63 : decode b_MO_closeAll 63 = .ok (.aload_n 0, 1) := by decide +kernel
theorem d_MO_closeAll_64 : decode b_MO_closeAll 64 = .ok (.getfield 282, 3) := by decide +kernel
theorem d_MO_closeAll_67 : decode b_MO_closeAll 67 = .ok (.iaload, 1) := by decide +kernel
theorem d_MO_closeAll_68 : decode b_MO_closeAll 68 = .ok (.iastore, 1) := by decide +kernel
theorem d_MO_closeAll_69 : decode b_MO_closeAll 69 = .ok (.iload_n 3, 1) := by decide +kernel
theorem d_MO_closeAll_70 : decode b_MO_closeAll 70 = .ok (.ireturn, 1) := by decide +kernel
theorem d_MO_closeRow_0 : decode b_MO_closeRow 0 = .ok (.lconst 0, 1) := by decide +kernel
theorem d_MO_closeRow_1 : decode b_MO_closeRow 1 = .ok (.lstore_n 1, 1) := by decide +kernel
theorem d_MO_closeRow_2 : decode b_MO_closeRow 2 = .ok (.aload_n 0, 1) := by decide +kernel
theorem d_MO_closeRow_3 : decode b_MO_closeRow 3 = .ok (.getfield 88, 3) := by decide +kernel
theorem d_MO_closeRow_6 : decode b_MO_closeRow 6 = .ok (.aload_n 0, 1) := by decide +kernel
theorem d_MO_closeRow_7 : decode b_MO_closeRow 7 = .ok (.getfield 282, 3) := by decide +kernel
theorem d_MO_closeRow_10 : decode b_MO_closeRow 10 = .ok (.iaload, 1) := by decide +kernel
theorem d_MO_closeRow_11 : decode b_MO_closeRow 11 = .ok (.istore_n 3, 1) := by decide +kernel
theorem d_MO_closeRow_12 : decode b_MO_closeRow 12 = .ok (.iload_n 3, 1) := by decide +kernel
theorem d_MO_closeRow_13 : decode b_MO_closeRow 13 = .ok (.ifCond .lt 25, 3) := by decide +kernel
theorem d_MO_closeRow_16 : decode b_MO_closeRow 16 = .ok (.lload_n 1, 1) := by decide +kernel
theorem d_MO_closeRow_17 : decode b_MO_closeRow 17 = .ok (.aload_n 0, 1) := by decide +kernel
theorem d_MO_closeRow_18 : decode b_MO_closeRow 18 = .ok (.getfield 68, 3) := by decide +kernel
theorem d_MO_closeRow_21 : decode b_MO_closeRow 21 = .ok (.iload_n 3, 1) := by decide +kernel
theorem d_MO_closeRow_22 : decode b_MO_closeRow 22 = .ok (.laload, 1) := by decide +kernel
theorem d_MO_closeRow_23 : decode b_MO_closeRow 23 = .ok (.ladd, 1) := by decide +kernel
theorem d_MO_closeRow_24 : decode b_MO_closeRow 24 = .ok (.invokestatic 288, 3) := by decide +kernel
theorem d_MO_closeRow_27 : decode b_MO_closeRow 27 = .ok (.lstore_n 1, 1) := by decide +kernel
theorem d_MO_closeRow_28 : decode b_MO_closeRow 28 = .ok (.aload_n 0, 1) := by decide +kernel
theorem d_MO_closeRow_29 : decode b_MO_closeRow 29 = .ok (.getfield 59, 3) := by decide +kernel
theorem d_MO_closeRow_32 : decode b_MO_closeRow 32 = .ok (.iload_n 3, 1) := by decide +kernel
theorem d_MO_closeRow_33 : decode b_MO_closeRow 33 = .ok (.iaload, 1) := by decide +kernel
theorem d_MO_closeRow_34 : decode b_MO_closeRow 34 = .ok (.istore_n 3, 1) := by decide +kernel
theorem d_MO_closeRow_35 : decode b_MO_closeRow 35 = .ok (.goto (-23), 3) := by decide +kernel
theorem d_MO_closeRow_38 : decode b_MO_closeRow 38 = .ok (.aload_n 0, 1) := by decide +kernel
theorem d_MO_closeRow_39 : decode b_MO_closeRow 39 = .ok (.iconst 4, 1) := by decide +kernel
theorem d_MO_closeRow_40 : decode b_MO_closeRow 40 = .ok (.iconst 0, 1) := by decide +kernel
theorem d_MO_closeRow_41 : decode b_MO_closeRow 41 = .ok (.lload_n 1, 1) := by decide +kernel
theorem d_MO_closeRow_42 : decode b_MO_closeRow 42 = .ok (.invokevirtual 269, 3) := by decide +kernel
theorem d_MO_closeRow_45 : decode b_MO_closeRow 45 = .ok (.istore_n 3, 1) := by decide +kernel
theorem d_MO_closeRow_46 : decode b_MO_closeRow 46 = .ok (.aload_n 0, 1) := by decide +kernel
theorem d_MO_closeRow_47 : decode b_MO_closeRow 47 = .ok (.getfield 56, 3) := by decide +kernel
theorem d_MO_closeRow_50 : decode b_MO_closeRow 50 = .ok (.iload_n 3, 1) := by decide +kernel
theorem d_MO_closeRow_51 : decode b_MO_closeRow 51 = .ok (.aload_n 0, 1) := by decide +kernel
theorem d_MO_closeRow_52 : decode b_MO_closeRow 52 = .ok (.getfield 88, 3) := by decide +kernel
theorem d_MO_closeRow_55 : decode b_MO_closeRow 55 = .ok (.aload_n 0, 1) := by decide +kernel
theorem d_MO_closeRow_56 : decode b_MO_closeRow 56 = .ok (.getfield 282, 3) := by decide +kernel
theorem d_MO_closeRow_59 : decode b_MO_closeRow 59 = .ok (.iaload, 1) := by decide +kernel
theorem d_MO_closeRow_60 : decode b_MO_closeRow 60 = .ok (.iastore, 1) := by decide +kernel
theorem d_MO_closeRow_61 : decode b_MO_closeRow 61 = .ok (.aload_n 0, 1) := by decide +kernel
theorem d_MO_closeRow_62 : decode b_MO_closeRow 62 = .ok (.getfield 94, 3) := by decide +kernel
theorem d_MO_closeRow_65 : decode b_MO_closeRow 65 = .ok (.aload_n 0, 1) := by decide +kernel
theorem d_MO_closeRow_66 : decode b_MO_closeRow 66 = .ok (.getfield 282, 3) := by decide +kernel
theorem d_MO_closeRow_69 : decode b_MO_closeRow 69 = .ok (.iaload, 1) := by decide +kernel
theorem d_MO_closeRow_70 : decode b_MO_closeRow 70 = .ok (.ifCond .ge 16, 3) := by decide +kernel
theorem d_MO_closeRow_73 : decode b_MO_closeRow 73 = .ok (.aload_n 0, 1) := by decide +kernel
theorem d_MO_closeRow_74 : decode b_MO_closeRow 74 = .ok (.getfield 94, 3) := by decide +kernel
theorem d_MO_closeRow_77 : decode b_MO_closeRow 77 = .ok (.aload_n 0, 1) := by decide +kernel
theorem d_MO_closeRow_78 : decode b_MO_closeRow 78 = .ok (.getfield 282, 3) := by decide +kernel
theorem d_MO_closeRow_81 : decode b_MO_closeRow 81 = .ok (.iload_n 3, 1) := by decide +kernel
theorem d_MO_closeRow_82 : decode b_MO_closeRow 82 = .ok (.iastore, 1) := by decide +kernel
theorem d_MO_closeRow_83 : decode b_MO_closeRow 83 = .ok (.goto 18, 3) := by decide +kernel
theorem d_MO_closeRow_86 : decode b_MO_closeRow 86 = .ok (.aload_n 0, 1) := by decide +kernel
theorem d_MO_closeRow_87 : decode b_MO_closeRow 87 = .ok (.getfield 59, 3) := by decide +kernel
theorem d_MO_closeRow_90 : decode b_MO_closeRow 90 = .ok (.aload_n 0, 1) := by decide +kernel
theorem d_MO_closeRow_91 : decode b_MO_closeRow 91 = .ok (.getfield 97, 3) := by decide +kernel
theorem d_MO_closeRow_94 : decode b_MO_closeRow 94 = .ok (.aload_n 0, 1) := by decide +kernel
theorem d_MO_closeRow_95 : decode b_MO_closeRow 95 = .ok (.getfield 282, 3) := by decide +kernel
theorem d_MO_closeRow_98 : decode b_MO_closeRow 98 = .ok (.iaload, 1) := by decide +kernel
theorem d_MO_closeRow_99 : decode b_MO_closeRow 99 = .ok (.iload_n 3, 1) := by decide +kernel
theorem d_MO_closeRow_100 : decode b_MO_closeRow 100 = .ok (.iastore, 1) := by decide +kernel
theorem d_MO_closeRow_101 : decode b_MO_closeRow 101 = .ok (.aload_n 0, 1) := by decide +kernel
theorem d_MO_closeRow_102 : decode b_MO_closeRow 102 = .ok (.getfield 97, 3) := by decide +kernel
theorem d_MO_closeRow_105 : decode b_MO_closeRow 105 = .ok (.aload_n 0, 1) := by decide +kernel
theorem d_MO_closeRow_106 : decode b_MO_closeRow 106 = .ok (.getfield 282, 3) := by decide +kernel
theorem d_MO_closeRow_109 : decode b_MO_closeRow 109 = .ok (.iload_n 3, 1) := by decide +kernel
theorem d_MO_closeRow_110 : decode b_MO_closeRow 110 = .ok (.iastore, 1) := by decide +kernel
theorem d_MO_closeRow_111 : decode b_MO_closeRow 111 = .ok (.aload_n 0, 1) := by decide +kernel
theorem d_MO_closeRow_112 : decode b_MO_closeRow 112 = .ok (.invokevirtual 285, 3) := by decide +kernel
theorem d_MO_closeRow_115 : decode b_MO_closeRow 115 = .ok (.return_, 1) := by decide +kernel
theorem d_MO_node_0 : decode b_MO_node 0 = .ok (.aload_n 0, 1) := by decide +kernel
theorem d_MO_node_1 : decode b_MO_node 1 = .ok (.getfield 50, 3) := by decide +kernel
theorem d_MO_node_4 : decode b_MO_node 4 = .ok (.aload_n 0, 1) := by decide +kernel
theorem d_MO_node_5 : decode b_MO_node 5 = .ok (.getfield 264, 3) := by decide +kernel
theorem d_MO_node_8 : decode b_MO_node 8 = .ok (.iload_n 1, 1) := by decide +kernel
theorem d_MO_node_9 : decode b_MO_node 9 = .ok (.iastore, 1) := by decide +kernel
theorem d_MO_node_10 : decode b_MO_node 10 = .ok (.aload_n 0, 1) := by decide +kernel
theorem d_MO_node_11 : decode b_MO_node 11 = .ok (.getfield 53, 3) := by decide +kernel
theorem d_MO_node_14 : decode b_MO_node 14 = .ok (.aload_n 0, 1) := by decide +kernel
theorem d_MO_node_15 : decode b_MO_node 15 = .ok (.getfield 264, 3) := by decide +kernel
theorem d_MO_node_18 : decode b_MO_node 18 = .ok (.iload_n 2, 1) := by decide +kernel
theorem d_MO_node_19 : decode b_MO_node 19 = .ok (.iastore, 1) := by decide +kernel
theorem d_MO_node_20 : decode b_MO_node 20 = .ok (.aload_n 0, 1) := by decide +kernel
theorem d_MO_node_21 : decode b_MO_node 21 = .ok (.getfield 56, 3) := by decide +kernel
theorem d_MO_node_24 : decode b_MO_node 24 = .ok (.aload_n 0, 1) := by decide +kernel
theorem d_MO_node_25 : decode b_MO_node 25 = .ok (.getfield 264, 3) := by decide +kernel
theorem d_MO_node_28 : decode b_MO_node 28 = .ok (.iconst (-1), 1) := by decide +kernel
theorem d_MO_node_29 : decode b_MO_node 29 = .ok (.iastore, 1) := by decide +kernel
theorem d_MO_node_30 : decode b_MO_node 30 = .ok (.aload_n 0, 1) := by decide +kernel
theorem d_MO_node_31 : decode b_MO_node 31 = .ok (.getfield 59, 3) := by decide +kernel
theorem d_MO_node_34 : decode b_MO_node 34 = .ok (.aload_n 0, 1) := by decide +kernel
theorem d_MO_node_35 : decode b_MO_node 35 = .ok (.getfield 264, 3) := by decide +kernel
theorem d_MO_node_38 : decode b_MO_node 38 = .ok (.iconst (-1), 1) := by decide +kernel
theorem d_MO_node_39 : decode b_MO_node 39 = .ok (.iastore, 1) := by decide +kernel
theorem d_MO_node_40 : decode b_MO_node 40 = .ok (.aload_n 0, 1) := by decide +kernel
theorem d_MO_node_41 : decode b_MO_node 41 = .ok (.getfield 68, 3) := by decide +kernel
theorem d_MO_node_44 : decode b_MO_node 44 = .ok (.aload_n 0, 1) := by decide +kernel
theorem d_MO_node_45 : decode b_MO_node 45 = .ok (.getfield 264, 3) := by decide +kernel
theorem d_MO_node_48 : decode b_MO_node 48 = .ok (.lload_n 3, 1) := by decide +kernel
theorem d_MO_node_49 : decode b_MO_node 49 = .ok (.lastore, 1) := by decide +kernel
theorem d_MO_node_50 : decode b_MO_node 50 = .ok (.aload_n 0, 1) := by decide +kernel
theorem d_MO_node_51 : decode b_MO_node 51 = .ok (.dup, 1) := by decide +kernel
theorem d_MO_node_52 : decode b_MO_node 52 = .ok (.getfield 264, 3) := by decide +kernel
theorem d_MO_node_55 : decode b_MO_node 55 = .ok (.iconst 1, 1) := by decide +kernel
theorem d_MO_node_56 : decode b_MO_node 56 = .ok (.iadd, 1) := by decide +kernel
theorem d_MO_node_57 : decode b_MO_node 57 = .ok (.putfield 264, 3) := by decide +kernel
theorem d_MO_node_60 : decode b_MO_node 60 = .ok (.aload_n 0, 1) := by decide +kernel
theorem d_MO_node_61 : decode b_MO_node 61 = .ok (.getfield 264, 3) := by decide +kernel
theorem d_MO_node_64 : decode b_MO_node 64 = .ok (.iconst 1, 1) := by decide +kernel
theorem d_MO_node_65 : decode b_MO_node 65 = .ok (.isub, 1) := by decide +kernel
theorem d_MO_node_66 : decode b_MO_node 66 = .ok (.ireturn, 1) := by decide +kernel
theorem d_MO_atMost_0 : decode b_MO_atMost 0 = .ok (.lload_n 0, 1) := by decide +kernel
theorem d_MO_atMost_1 : decode b_MO_atMost 1 = .ok (.ldc2_w 267, 3) := by decide +kernel
theorem d_MO_atMost_4 : decode b_MO_atMost 4 = .ok (.lcmp, 1) := by decide +kernel
theorem d_MO_atMost_5 : decode b_MO_atMost 5 = .ok (.ifCond .le 9, 3) := by decide +kernel
theorem d_MO_atMost_8 : decode b_MO_atMost 8 = .ok (.ldc2_w 267, 3) := by decide +kernel
theorem d_MO_atMost_11 : decode b_MO_atMost 11 = .ok (.goto 4, 3) := by decide +kernel
theorem d_MO_atMost_14 : decode b_MO_atMost 14 = .ok (.lload_n 0, 1) := by decide +kernel
theorem d_MO_atMost_15 : decode b_MO_atMost 15 = .ok (.lreturn, 1) := by decide +kernel
theorem d_MO_row_0 : decode b_MO_row 0 = .ok (.aload_n 0, 1) := by decide +kernel
theorem d_MO_row_1 : decode b_MO_row 1 = .ok (.dup, 1) := by decide +kernel
theorem d_MO_row_2 : decode b_MO_row 2 = .ok (.getfield 451, 3) := by decide +kernel
theorem d_MO_row_5 : decode b_MO_row 5 = .ok (.iconst 1, 1) := by decide +kernel
theorem d_MO_row_6 : decode b_MO_row 6 = .ok (.iadd, 1) := by decide +kernel
theorem d_MO_row_7 : decode b_MO_row 7 = .ok (.putfield 451, 3) := by decide +kernel
theorem d_MO_row_10 : decode b_MO_row 10 = .ok (.bipush 32, 2) := by decide +kernel
theorem d_MO_row_12 : decode b_MO_row 12 = .ok (.aload_n 0, 1) := by decide +kernel
theorem d_MO_row_13 : decode b_MO_row 13 = .ok (.getfield 451, 3) := by decide +kernel
theorem d_MO_row_16 : decode b_MO_row 16 = .ok (.iconst 1, 1) := by decide +kernel
theorem d_MO_row_17 : decode b_MO_row 17 = .ok (.isub, 1) := by decide +kernel
theorem d_MO_row_18 : decode b_MO_row 18 = .ok (.imul, 1) := by decide +kernel
theorem d_MO_row_19 : decode b_MO_row 19 = .ok (.ireturn, 1) := by decide +kernel
theorem d_MO_addStep_0 : decode b_MO_addStep 0 = .ok (.sipush 12500, 3) := by decide +kernel
theorem d_MO_addStep_3 : decode b_MO_addStep 3 = .ok (.aload_n 0, 1) := by decide +kernel
theorem d_MO_addStep_4 : decode b_MO_addStep 4 = .ok (.getfield 438, 3) := by decide +kernel
theorem d_MO_addStep_7 : decode b_MO_addStep 7 = .ok (.imul, 1) := by decide +kernel
theorem d_MO_addStep_8 : decode b_MO_addStep 8 = .ok (.aload_n 0, 1) := by decide +kernel
theorem d_MO_addStep_9 : decode b_MO_addStep 9 = .ok (.getfield 124, 3) := by decide +kernel
theorem d_MO_addStep_12 : decode b_MO_addStep 12 = .ok (.aload_n 0, 1) := by decide +kernel
theorem d_MO_addStep_13 : decode b_MO_addStep 13 = .ok (.getfield 438, 3) := by decide +kernel
theorem d_MO_addStep_16 : decode b_MO_addStep 16 = .ok (.iaload, 1) := by decide +kernel
theorem d_MO_addStep_17 : decode b_MO_addStep 17 = .ok (.iadd, 1) := by decide +kernel
theorem d_MO_addStep_18 : decode b_MO_addStep 18 = .ok (.istore 4, 2) := by decide +kernel
theorem d_MO_addStep_20 : decode b_MO_addStep 20 = .ok (.aload_n 0, 1) := by decide +kernel
theorem d_MO_addStep_21 : decode b_MO_addStep 21 = .ok (.getfield 128, 3) := by decide +kernel
theorem d_MO_addStep_24 : decode b_MO_addStep 24 = .ok (.iload 4, 2) := by decide +kernel
theorem d_MO_addStep_26 : decode b_MO_addStep 26 = .ok (.iload_n 1, 1) := by decide +kernel
theorem d_MO_addStep_27 : decode b_MO_addStep 27 = .ok (.iastore, 1) := by decide +kernel
theorem d_MO_addStep_28 : decode b_MO_addStep 28 = .ok (.aload_n 0, 1) := by decide +kernel
theorem d_MO_addStep_29 : decode b_MO_addStep 29 = .ok (.getfield 131, 3) := by decide +kernel
theorem d_MO_addStep_32 : decode b_MO_addStep 32 = .ok (.iload 4, 2) := by decide +kernel
theorem d_MO_addStep_34 : decode b_MO_addStep 34 = .ok (.iload_n 2, 1) := by decide +kernel
theorem d_MO_addStep_35 : decode b_MO_addStep 35 = .ok (.iastore, 1) := by decide +kernel
theorem d_MO_addStep_36 : decode b_MO_addStep 36 = .ok (.aload_n 0, 1) := by decide +kernel
theorem d_MO_addStep_37 : decode b_MO_addStep 37 = .ok (.getfield 134, 3) := by decide +kernel
theorem d_MO_addStep_40 : decode b_MO_addStep 40 = .ok (.iload 4, 2) := by decide +kernel
theorem d_MO_addStep_42 : decode b_MO_addStep 42 = .ok (.iload_n 3, 1) := by decide +kernel
theorem d_MO_addStep_43 : decode b_MO_addStep 43 = .ok (.iastore, 1) := by decide +kernel
theorem d_MO_addStep_44 : decode b_MO_addStep 44 = .ok (.aload_n 0, 1) := by decide +kernel
theorem d_MO_addStep_45 : decode b_MO_addStep 45 = .ok (.getfield 124, 3) := by decide +kernel
theorem d_MO_addStep_48 : decode b_MO_addStep 48 = .ok (.aload_n 0, 1) := by decide +kernel
theorem d_MO_addStep_49 : decode b_MO_addStep 49 = .ok (.getfield 438, 3) := by decide +kernel
theorem d_MO_addStep_52 : decode b_MO_addStep 52 = .ok (.dup2, 1) := by decide +kernel
theorem d_MO_addStep_53 : decode b_MO_addStep 53 = .ok (.iaload, 1) := by decide +kernel
theorem d_MO_addStep_54 : decode b_MO_addStep 54 = .ok (.iconst 1, 1) := by decide +kernel
theorem d_MO_addStep_55 : decode b_MO_addStep 55 = .ok (.iadd, 1) := by decide +kernel
theorem d_MO_addStep_56 : decode b_MO_addStep 56 = .ok (.iastore, 1) := by decide +kernel
theorem d_MO_addStep_57 : decode b_MO_addStep 57 = .ok (.aload_n 0, 1) := by decide +kernel
theorem d_MO_addStep_58 : decode b_MO_addStep 58 = .ok (.getfield 124, 3) := by decide +kernel
theorem d_MO_addStep_61 : decode b_MO_addStep 61 = .ok (.aload_n 0, 1) := by decide +kernel
theorem d_MO_addStep_62 : decode b_MO_addStep 62 = .ok (.getfield 438, 3) := by decide +kernel
theorem d_MO_addStep_65 : decode b_MO_addStep 65 = .ok (.iaload, 1) := by decide +kernel
theorem d_MO_addStep_66 : decode b_MO_addStep 66 = .ok (.iconst 1, 1) := by decide +kernel
theorem d_MO_addStep_67 : decode b_MO_addStep 67 = .ok (.isub, 1) := by decide +kernel
theorem d_MO_addStep_68 : decode b_MO_addStep 68 = .ok (.ireturn, 1) := by decide +kernel
theorem d_MO_open_0 : decode b_MO_open 0 = .ok (.aload_n 0, 1) := by decide +kernel
theorem d_MO_open_1 : decode b_MO_open 1 = .ok (.getfield 158, 3) := by decide +kernel
theorem d_MO_open_4 : decode b_MO_open 4 = .ok (.aload_n 0, 1) := by decide +kernel
theorem d_MO_open_5 : decode b_MO_open 5 = .ok (.getfield 445, 3) := by decide +kernel
theorem d_MO_open_8 : decode b_MO_open 8 = .ok (.iload_n 1, 1) := by decide +kernel
theorem d_MO_open_9 : decode b_MO_open 9 = .ok (.iastore, 1) := by decide +kernel
theorem d_MO_open_10 : decode b_MO_open 10 = .ok (.aload_n 0, 1) := by decide +kernel
theorem d_MO_open_11 : decode b_MO_open 11 = .ok (.getfield 161, 3) := by decide +kernel
theorem d_MO_open_14 : decode b_MO_open 14 = .ok (.aload_n 0, 1) := by decide +kernel
theorem d_MO_open_15 : decode b_MO_open 15 = .ok (.getfield 445, 3) := by decide +kernel
theorem d_MO_open_18 : decode b_MO_open 18 = .ok (.iload_n 2, 1) := by decide +kernel
theorem d_MO_open_19 : decode b_MO_open 19 = .ok (.iastore, 1) := by decide +kernel
theorem d_MO_open_20 : decode b_MO_open 20 = .ok (.aload_n 0, 1) := by decide +kernel
theorem d_MO_open_21 : decode b_MO_open 21 = .ok (.getfield 164, 3) := by decide +kernel
theorem d_MO_open_24 : decode b_MO_open 24 = .ok (.aload_n 0, 1) := by decide +kernel
theorem d_MO_open_25 : decode b_MO_open 25 = .ok (.getfield 445, 3) := by decide +kernel
theorem d_MO_open_28 : decode b_MO_open 28 = .ok (.iload_n 3, 1) := by decide +kernel
theorem d_MO_open_29 : decode b_MO_open 29 = .ok (.iastore, 1) := by decide +kernel
theorem d_MO_open_30 : decode b_MO_open 30 = .ok (.aload_n 0, 1) := by decide +kernel
theorem d_MO_open_31 : decode b_MO_open 31 = .ok (.getfield 167, 3) := by decide +kernel
theorem d_MO_open_34 : decode b_MO_open 34 = .ok (.aload_n 0, 1) := by decide +kernel
theorem d_MO_open_35 : decode b_MO_open 35 = .ok (.getfield 445, 3) := by decide +kernel
theorem d_MO_open_38 : decode b_MO_open 38 = .ok (.iload_n 3, 1) := by decide +kernel
theorem d_MO_open_39 : decode b_MO_open 39 = .ok (.iastore, 1) := by decide +kernel
theorem d_MO_open_40 : decode b_MO_open 40 = .ok (.aload_n 0, 1) := by decide +kernel
theorem d_MO_open_41 : decode b_MO_open 41 = .ok (.getfield 170, 3) := by decide +kernel
theorem d_MO_open_44 : decode b_MO_open 44 = .ok (.aload_n 0, 1) := by decide +kernel
theorem d_MO_open_45 : decode b_MO_open 45 = .ok (.getfield 445, 3) := by decide +kernel
theorem d_MO_open_48 : decode b_MO_open 48 = .ok (.iconst 0, 1) := by decide +kernel
theorem d_MO_open_49 : decode b_MO_open 49 = .ok (.iastore, 1) := by decide +kernel
theorem d_MO_open_50 : decode b_MO_open 50 = .ok (.aload_n 0, 1) := by decide +kernel
theorem d_MO_open_51 : decode b_MO_open 51 = .ok (.dup, 1) := by decide +kernel
theorem d_MO_open_52 : decode b_MO_open 52 = .ok (.getfield 445, 3) := by decide +kernel
theorem d_MO_open_55 : decode b_MO_open 55 = .ok (.iconst 1, 1) := by decide +kernel
theorem d_MO_open_56 : decode b_MO_open 56 = .ok (.iadd, 1) := by decide +kernel
theorem d_MO_open_57 : decode b_MO_open 57 = .ok (.putfield 445, 3) := by decide +kernel
theorem d_MO_open_60 : decode b_MO_open 60 = .ok (.return_, 1) := by decide +kernel
theorem d_MO_go_0 : decode b_MO_go 0 = .ok (.aload_n 0, 1) := by decide +kernel
theorem d_MO_go_1 : decode b_MO_go 1 = .ok (.getfield 158, 3) := by decide +kernel
theorem d_MO_go_4 : decode b_MO_go 4 = .ok (.iload_n 1, 1) := by decide +kernel
theorem d_MO_go_5 : decode b_MO_go 5 = .ok (.iaload, 1) := by decide +kernel
theorem d_MO_go_6 : decode b_MO_go 6 = .ok (.istore_n 2, 1) := by decide +kernel
theorem d_MO_go_7 : decode b_MO_go 7 = .ok (.aload_n 0, 1) := by decide +kernel
theorem d_MO_go_8 : decode b_MO_go 8 = .ok (.getfield 161, 3) := by decide +kernel
theorem d_MO_go_11 : decode b_MO_go 11 = .ok (.iload_n 1, 1) := by decide +kernel
theorem d_MO_go_12 : decode b_MO_go 12 = .ok (.iaload, 1) := by decide +kernel
theorem d_MO_go_13 : decode b_MO_go 13 = .ok (.istore_n 3, 1) := by decide +kernel
theorem d_MO_go_14 : decode b_MO_go 14 = .ok (.aload_n 0, 1) := by decide +kernel
theorem d_MO_go_15 : decode b_MO_go 15 = .ok (.getfield 68, 3) := by decide +kernel
theorem d_MO_go_18 : decode b_MO_go 18 = .ok (.iload_n 2, 1) := by decide +kernel
theorem d_MO_go_19 : decode b_MO_go 19 = .ok (.laload, 1) := by decide +kernel
theorem d_MO_go_20 : decode b_MO_go 20 = .ok (.lconst 0, 1) := by decide +kernel
theorem d_MO_go_21 : decode b_MO_go 21 = .ok (.lcmp, 1) := by decide +kernel
theorem d_MO_go_22 : decode b_MO_go 22 = .ok (.ifCond .ne 14, 3) := by decide +kernel
theorem d_MO_go_25 : decode b_MO_go 25 = .ok (.aload_n 0, 1) := by decide +kernel
theorem d_MO_go_26 : decode b_MO_go 26 = .ok (.aload_n 0, 1) := by decide +kernel
theorem d_MO_go_27 : decode b_MO_go 27 = .ok (.getfield 164, 3) := by decide +kernel
theorem d_MO_go_30 : decode b_MO_go 30 = .ok (.iload_n 1, 1) := by decide +kernel
theorem d_MO_go_31 : decode b_MO_go 31 = .ok (.iaload, 1) := by decide +kernel
theorem d_MO_go_32 : decode b_MO_go 32 = .ok (.invokevirtual 461, 3) := by decide +kernel
theorem d_MO_go_35 : decode b_MO_go 35 = .ok (.return_, 1) := by decide +kernel
theorem d_MO_go_36 : decode b_MO_go 36 = .ok (.aload_n 0, 1) := by decide +kernel
theorem d_MO_go_37 : decode b_MO_go 37 = .ok (.getfield 50, 3) := by decide +kernel
theorem d_MO_go_40 : decode b_MO_go 40 = .ok (.iload_n 2, 1) := by decide +kernel
theorem d_MO_go_41 : decode b_MO_go 41 = .ok (.iaload, 1) := by decide +kernel
theorem d_MO_go_42 : decode b_MO_go 42 = .ok (.tableswitch 153 1 6 #[38, 73, 104, 129, 137, 145], 38) := by decide +kernel
theorem d_MO_go_80 : decode b_MO_go 80 = .ok (.aload_n 0, 1) := by decide +kernel
theorem d_MO_go_81 : decode b_MO_go 81 = .ok (.aload_n 0, 1) := by decide +kernel
theorem d_MO_go_82 : decode b_MO_go 82 = .ok (.aload_n 0, 1) := by decide +kernel
theorem d_MO_go_83 : decode b_MO_go 83 = .ok (.aload_n 0, 1) := by decide +kernel
theorem d_MO_go_84 : decode b_MO_go 84 = .ok (.getfield 53, 3) := by decide +kernel
theorem d_MO_go_87 : decode b_MO_go 87 = .ok (.iload_n 2, 1) := by decide +kernel
theorem d_MO_go_88 : decode b_MO_go 88 = .ok (.iaload, 1) := by decide +kernel
theorem d_MO_go_89 : decode b_MO_go 89 = .ok (.aload_n 0, 1) := by decide +kernel
theorem d_MO_go_90 : decode b_MO_go 90 = .ok (.getfield 174, 3) := by decide +kernel
theorem d_MO_go_93 : decode b_MO_go 93 = .ok (.aload_n 0, 1) := by decide +kernel
theorem d_MO_go_94 : decode b_MO_go 94 = .ok (.getfield 164, 3) := by decide +kernel
theorem d_MO_go_97 : decode b_MO_go 97 = .ok (.iload_n 1, 1) := by decide +kernel
theorem d_MO_go_98 : decode b_MO_go 98 = .ok (.iaload, 1) := by decide +kernel
theorem d_MO_go_99 : decode b_MO_go 99 = .ok (.iload_n 3, 1) := by decide +kernel
theorem d_MO_go_100 : decode b_MO_go 100 = .ok (.iadd, 1) := by decide +kernel
theorem d_MO_go_101 : decode b_MO_go 101 = .ok (.iaload, 1) := by decide +kernel
theorem d_MO_go_102 : decode b_MO_go 102 = .ok (.invokevirtual 483, 3) := by decide +kernel
theorem d_MO_go_105 : decode b_MO_go 105 = .ok (.iload_n 3, 1) := by decide +kernel
theorem d_MO_go_106 : decode b_MO_go 106 = .ok (.invokevirtual 486, 3) := by decide +kernel
theorem d_MO_go_109 : decode b_MO_go 109 = .ok (.invokevirtual 461, 3) := by decide +kernel
theorem d_MO_go_112 : decode b_MO_go 112 = .ok (.goto 88, 3) := by decide +kernel
theorem d_MO_go_115 : decode b_MO_go 115 = .ok (.aload_n 0, 1) := by decide +kernel
theorem d_MO_go_116 : decode b_MO_go 116 = .ok (.aload_n 0, 1) := by decide +kernel
theorem d_MO_go_117 : decode b_MO_go 117 = .ok (.aload_n 0, 1) := by decide +kernel
theorem d_MO_go_118 : decode b_MO_go 118 = .ok (.iconst 2, 1) := by decide +kernel
theorem d_MO_go_119 : decode b_MO_go 119 = .ok (.aload_n 0, 1) := by decide +kernel
theorem d_MO_go_120 : decode b_MO_go 120 = .ok (.getfield 174, 3) := by decide +kernel
theorem d_MO_go_123 : decode b_MO_go 123 = .ok (.aload_n 0, 1) := by decide +kernel
theorem d_MO_go_124 : decode b_MO_go 124 = .ok (.getfield 164, 3) := by decide +kernel
theorem d_MO_go_127 : decode b_MO_go 127 = .ok (.iload_n 1, 1) := by decide +kernel
theorem d_MO_go_128 : decode b_MO_go 128 = .ok (.iaload, 1) := by decide +kernel
theorem d_MO_go_129 : decode b_MO_go 129 = .ok (.iload_n 3, 1) := by decide +kernel
theorem d_MO_go_130 : decode b_MO_go 130 = .ok (.iadd, 1) := by decide +kernel
theorem d_MO_go_131 : decode b_MO_go 131 = .ok (.iaload, 1) := by decide +kernel
theorem d_MO_go_132 : decode b_MO_go 132 = .ok (.iconst 0, 1) := by decide +kernel
theorem d_MO_go_133 : decode b_MO_go 133 = .ok (.invokevirtual 441, 3) := by decide +kernel
theorem d_MO_go_136 : decode b_MO_go 136 = .ok (.iload_n 3, 1) := by decide +kernel
theorem d_MO_go_137 : decode b_MO_go 137 = .ok (.invokevirtual 486, 3) := by decide +kernel
theorem d_MO_go_140 : decode b_MO_go 140 = .ok (.invokevirtual 461, 3) := by decide +kernel
theorem d_MO_go_143 : decode b_MO_go 143 = .ok (.goto 57, 3) := by decide +kernel
theorem d_MO_go_146 : decode b_MO_go 146 = .ok (.aload_n 0, 1) := by decide +kernel
theorem d_MO_go_147 : decode b_MO_go 147 = .ok (.aload_n 0, 1) := by decide +kernel
theorem d_MO_go_148 : decode b_MO_go 148 = .ok (.iconst 5, 1) := by decide +kernel
theorem d_MO_go_149 : decode b_MO_go 149 = .ok (.aload_n 0, 1) := by decide +kernel
theorem d_MO_go_150 : decode b_MO_go 150 = .ok (.getfield 164, 3) := by decide +kernel
theorem d_MO_go_153 : decode b_MO_go 153 = .ok (.iload_n 1, 1) := by decide +kernel
theorem d_MO_go_154 : decode b_MO_go 154 = .ok (.iaload, 1) := by decide +kernel
theorem d_MO_go_155 : decode b_MO_go 155 = .ok (.aload_n 0, 1) := by decide +kernel
theorem d_MO_go_156 : decode b_MO_go 156 = .ok (.getfield 53, 3) := by decide +kernel
theorem d_MO_go_159 : decode b_MO_go 159 = .ok (.iload_n 2, 1) := by decide +kernel
theorem d_MO_go_160 : decode b_MO_go 160 = .ok (.iaload, 1) := by decide +kernel
theorem d_MO_go_161 : decode b_MO_go 161 = .ok (.iload_n 3, 1) := by decide +kernel
theorem d_MO_go_162 : decode b_MO_go 162 = .ok (.invokevirtual 470, 3) := by decide +kernel
theorem d_MO_go_165 : decode b_MO_go 165 = .ok (.invokevirtual 461, 3) := by decide +kernel
theorem d_MO_go_168 : decode b_MO_go 168 = .ok (.goto 32, 3) := by decide +kernel
theorem d_MO_go_171 : decode b_MO_go 171 = .ok (.aload_n 0, 1) := by decide +kernel
theorem d_MO_go_172 : decode b_MO_go 172 = .ok (.iload_n 1, 1) := by decide +kernel
theorem d_MO_go_173 : decode b_MO_go 173 = .ok (.invokevirtual 489, 3) := by decide +kernel
theorem d_MO_go_176 : decode b_MO_go 176 = .ok (.goto 24, 3) := by decide +kernel
theorem d_MO_go_179 : decode b_MO_go 179 = .ok (.aload_n 0, 1) := by decide +kernel
theorem d_MO_go_180 : decode b_MO_go 180 = .ok (.iload_n 1, 1) := by decide +kernel
theorem d_MO_go_181 : decode b_MO_go 181 = .ok (.invokevirtual 492, 3) := by decide +kernel
theorem d_MO_go_184 : decode b_MO_go 184 = .ok (.goto 16, 3) := by decide +kernel
theorem d_MO_go_187 : decode b_MO_go 187 = .ok (.aload_n 0, 1) := by decide +kernel
theorem d_MO_go_188 : decode b_MO_go 188 = .ok (.iload_n 1, 1) := by decide +kernel
theorem d_MO_go_189 : decode b_MO_go 189 = .ok (.invokevirtual 495, 3) := by decide +kernel
theorem d_MO_go_192 : decode b_MO_go 192 = .ok (.goto 8, 3) := by decide +kernel
theorem d_MO_go_195 : decode b_MO_go 195 = .ok (.aload_n 0, 1) := by decide +kernel
theorem d_MO_go_196 : decode b_MO_go 196 = .ok (.iload_n 1, 1) := by decide +kernel
theorem d_MO_go_197 : decode b_MO_go 197 = .ok (.invokevirtual 498, 3) := by decide +kernel
theorem d_MO_go_200 : decode b_MO_go 200 = .ok (.return_, 1) := by decide +kernel
theorem d_MO_done_0 : decode b_MO_done 0 = .ok (.aload_n 0, 1) := by decide +kernel
theorem d_MO_done_1 : decode b_MO_done 1 = .ok (.dup, 1) := by decide +kernel
theorem d_MO_done_2 : decode b_MO_done 2 = .ok (.getfield 445, 3) := by decide +kernel
theorem d_MO_done_5 : decode b_MO_done 5 = .ok (.iconst 1, 1) := by decide +kernel
theorem d_MO_done_6 : decode b_MO_done 6 = .ok (.isub, 1) := by decide +kernel
theorem d_MO_done_7 : decode b_MO_done 7 = .ok (.putfield 445, 3) := by decide +kernel
theorem d_MO_done_10 : decode b_MO_done 10 = .ok (.aload_n 0, 1) := by decide +kernel
theorem d_MO_done_11 : decode b_MO_done 11 = .ok (.iload_n 1, 1) := by decide +kernel
theorem d_MO_done_12 : decode b_MO_done 12 = .ok (.putfield 448, 3) := by decide +kernel
theorem d_MO_done_15 : decode b_MO_done 15 = .ok (.return_, 1) := by decide +kernel
theorem d_MO_thrown_0 : decode b_MO_thrown 0 = .ok (.aload_n 0, 1) := by decide +kernel
theorem d_MO_thrown_1 : decode b_MO_thrown 1 = .ok (.getfield 220, 3) := by decide +kernel
theorem d_MO_thrown_4 : decode b_MO_thrown 4 = .ok (.ireturn, 1) := by decide +kernel
theorem d_PW_fault_0 : decode b_PW_fault 0 = .ok (.iload_n 1, 1) := by decide +kernel
theorem d_PW_fault_1 : decode b_PW_fault 1 = .ok (.ifCond .ne 14, 3) := by decide +kernel
theorem d_PW_fault_4 : decode b_PW_fault 4 = .ok (.aload_n 0, 1) := by decide +kernel
theorem d_PW_fault_5 : decode b_PW_fault 5 = .ok (.getfield 25, 3) := by decide +kernel
theorem d_PW_fault_8 : decode b_PW_fault 8 = .ok (.getfield 136, 3) := by decide +kernel
theorem d_PW_fault_11 : decode b_PW_fault 11 = .ok (.getfield 140, 3) := by decide +kernel
theorem d_PW_fault_14 : decode b_PW_fault 14 = .ok (.ireturn, 1) := by decide +kernel
theorem d_PW_fault_15 : decode b_PW_fault 15 = .ok (.iload_n 1, 1) := by decide +kernel
theorem d_PW_fault_16 : decode b_PW_fault 16 = .ok (.iconst 1, 1) := by decide +kernel
theorem d_PW_fault_17 : decode b_PW_fault 17 = .ok (.if_icmp .ne 16, 3) := by decide +kernel
theorem d_PW_fault_20 : decode b_PW_fault 20 = .ok (.aload_n 0, 1) := by decide +kernel
theorem d_PW_fault_21 : decode b_PW_fault 21 = .ok (.getfield 25, 3) := by decide +kernel
theorem d_PW_fault_24 : decode b_PW_fault 24 = .ok (.getfield 136, 3) := by decide +kernel
theorem d_PW_fault_27 : decode b_PW_fault 27 = .ok (.getfield 145, 3) := by decide +kernel
theorem d_PW_fault_30 : decode b_PW_fault 30 = .ok (.goto 4, 3) := by decide +kernel
theorem d_PW_fault_33 : decode b_PW_fault 33 = .ok (.iconst (-1), 1) := by decide +kernel
theorem d_PW_fault_34 : decode b_PW_fault 34 = .ok (.ireturn, 1) := by decide +kernel
theorem d_MO_fault_0 : decode b_MO_fault 0 = .ok (.aload_n 0, 1) := by decide +kernel
theorem d_MO_fault_1 : decode b_MO_fault 1 = .ok (.iconst 0, 1) := by decide +kernel
theorem d_MO_fault_2 : decode b_MO_fault 2 = .ok (.putfield 220, 3) := by decide +kernel
theorem d_MO_fault_5 : decode b_MO_fault 5 = .ok (.iload_n 1, 1) := by decide +kernel
theorem d_MO_fault_6 : decode b_MO_fault 6 = .ok (.ifCond .ne 10, 3) := by decide +kernel
theorem d_MO_fault_9 : decode b_MO_fault 9 = .ok (.aload_n 0, 1) := by decide +kernel
theorem d_MO_fault_10 : decode b_MO_fault 10 = .ok (.getfield 273, 3) := by decide +kernel
theorem d_MO_fault_13 : decode b_MO_fault 13 = .ok (.goto 16, 3) := by decide +kernel
theorem d_MO_fault_16 : decode b_MO_fault 16 = .ok (.iload_n 1, 1) := by decide +kernel
theorem d_MO_fault_17 : decode b_MO_fault 17 = .ok (.iconst 1, 1) := by decide +kernel
theorem d_MO_fault_18 : decode b_MO_fault 18 = .ok (.if_icmp .ne 10, 3) := by decide +kernel
theorem d_MO_fault_21 : decode b_MO_fault 21 = .ok (.aload_n 0, 1) := by decide +kernel
theorem d_MO_fault_22 : decode b_MO_fault 22 = .ok (.getfield 75, 3) := by decide +kernel
theorem d_MO_fault_25 : decode b_MO_fault 25 = .ok (.goto 4, 3) := by decide +kernel
theorem d_MO_fault_28 : decode b_MO_fault 28 = .ok (.iconst (-1), 1) := by decide +kernel
theorem d_MO_fault_29 : decode b_MO_fault 29 = .ok (.ireturn, 1) := by decide +kernel
theorem d_PW_about_0 : decode b_PW_about 0 = .ok (.aload_n 0, 1) := by decide +kernel
theorem d_PW_about_1 : decode b_PW_about 1 = .ok (.iload_n 1, 1) := by decide +kernel
theorem d_PW_about_2 : decode b_PW_about 2 = .ok (.invokevirtual 148, 3) := by decide +kernel
theorem d_PW_about_5 : decode b_PW_about 5 = .ok (.astore_n 3, 1) := by decide +kernel
theorem d_PW_about_6 : decode b_PW_about 6 = .ok (.aload_n 3, 1) := by decide +kernel
theorem d_PW_about_7 : decode b_PW_about 7 = .ok (.ifnull 12, 3) := by decide +kernel
theorem d_PW_about_10 : decode b_PW_about 10 = .ok (.iload_n 2, 1) := by decide +kernel
theorem d_PW_about_11 : decode b_PW_about 11 = .ok (.ifCond .lt 8, 3) := by decide +kernel
theorem d_PW_about_14 : decode b_PW_about 14 = .ok (.iload_n 2, 1) := by decide +kernel
theorem d_PW_about_15 : decode b_PW_about 15 = .ok (.iconst 2, 1) := by decide +kernel
theorem d_PW_about_16 : decode b_PW_about 16 = .ok (.if_icmp .le 5, 3) := by decide +kernel
theorem d_PW_about_19 : decode b_PW_about 19 = .ok (.iconst (-1), 1) := by decide +kernel
theorem d_PW_about_20 : decode b_PW_about 20 = .ok (.ireturn, 1) := by decide +kernel
theorem d_PW_about_21 : decode b_PW_about 21 = .ok (.iload_n 2, 1) := by decide +kernel
theorem d_PW_about_22 : decode b_PW_about 22 = .ok (.ifCond .ne 8, 3) := by decide +kernel
theorem d_PW_about_25 : decode b_PW_about 25 = .ok (.aload_n 3, 1) := by decide +kernel
theorem d_PW_about_26 : decode b_PW_about 26 = .ok (.getfield 133, 3) := by decide +kernel
theorem d_PW_about_29 : decode b_PW_about 29 = .ok (.ireturn, 1) := by decide +kernel
theorem d_PW_about_30 : decode b_PW_about 30 = .ok (.iload_n 2, 1) := by decide +kernel
theorem d_PW_about_31 : decode b_PW_about 31 = .ok (.iconst 1, 1) := by decide +kernel
theorem d_PW_about_32 : decode b_PW_about 32 = .ok (.if_icmp .ne 10, 3) := by decide +kernel
theorem d_PW_about_35 : decode b_PW_about 35 = .ok (.aload_n 3, 1) := by decide +kernel
theorem d_PW_about_36 : decode b_PW_about 36 = .ok (.getfield 152, 3) := by decide +kernel
theorem d_PW_about_39 : decode b_PW_about 39 = .ok (.goto 7, 3) := by decide +kernel
theorem d_PW_about_42 : decode b_PW_about 42 = .ok (.aload_n 3, 1) := by decide +kernel
theorem d_PW_about_43 : decode b_PW_about 43 = .ok (.getfield 153, 3) := by decide +kernel
theorem d_PW_about_46 : decode b_PW_about 46 = .ok (.ireturn, 1) := by decide +kernel
theorem d_PW_programAt_0 : decode b_PW_programAt 0 = .ok (.iload_n 1, 1) := by decide +kernel
theorem d_PW_programAt_1 : decode b_PW_programAt 1 = .ok (.ifCond .lt 18, 3) := by decide +kernel
theorem d_PW_programAt_4 : decode b_PW_programAt 4 = .ok (.iload_n 1, 1) := by decide +kernel
theorem d_PW_programAt_5 : decode b_PW_programAt 5 = .ok (.bipush 6, 2) := by decide +kernel
theorem d_PW_programAt_7 : decode b_PW_programAt 7 = .ok (.if_icmp .ge 12, 3) := by decide +kernel
theorem d_PW_programAt_10 : decode b_PW_programAt 10 = .ok (.aload_n 0, 1) := by decide +kernel
theorem d_PW_programAt_11 : decode b_PW_programAt 11 = .ok (.getfield 31, 3) := by decide +kernel
theorem d_PW_programAt_14 : decode b_PW_programAt 14 = .ok (.iload_n 1, 1) := by decide +kernel
theorem d_PW_programAt_15 : decode b_PW_programAt 15 = .ok (.aaload, 1) := by decide +kernel
theorem d_PW_programAt_16 : decode b_PW_programAt 16 = .ok (.goto 4, 3) := by decide +kernel
theorem d_PW_programAt_19 : decode b_PW_programAt 19 = .ok (.aconst_null, 1) := by decide +kernel
theorem d_PW_programAt_20 : decode b_PW_programAt 20 = .ok (.areturn, 1) := by decide +kernel
theorem d_MO_about_0 : decode b_MO_about 0 = .ok (.aload_n 0, 1) := by decide +kernel
theorem d_MO_about_1 : decode b_MO_about 1 = .ok (.iconst 0, 1) := by decide +kernel
theorem d_MO_about_2 : decode b_MO_about 2 = .ok (.putfield 220, 3) := by decide +kernel
theorem d_MO_about_5 : decode b_MO_about 5 = .ok (.aload_n 0, 1) := by decide +kernel
theorem d_MO_about_6 : decode b_MO_about 6 = .ok (.iload_n 1, 1) := by decide +kernel
theorem d_MO_about_7 : decode b_MO_about 7 = .ok (.invokevirtual 507, 3) := by decide +kernel
theorem d_MO_about_10 : decode b_MO_about 10 = .ok (.ifCond .ne 7, 3) := by decide +kernel
theorem d_MO_about_13 : decode b_MO_about 13 = .ok (.iconst (-1), 1) := by decide +kernel
theorem d_MO_about_14 : decode b_MO_about 14 = .ok (.goto 45, 3) := by decide +kernel
theorem d_MO_about_17 : decode b_MO_about 17 = .ok (.iload_n 2, 1) := by decide +kernel
theorem d_MO_about_18 : decode b_MO_about 18 = .ok (.ifCond .ne 12, 3) := by decide +kernel
theorem d_MO_about_21 : decode b_MO_about 21 = .ok (.aload_n 0, 1) := by decide +kernel
theorem d_MO_about_22 : decode b_MO_about 22 = .ok (.getfield 115, 3) := by decide +kernel
theorem d_MO_about_25 : decode b_MO_about 25 = .ok (.iload_n 1, 1) := by decide +kernel
theorem d_MO_about_26 : decode b_MO_about 26 = .ok (.iaload, 1) := by decide +kernel
theorem d_MO_about_27 : decode b_MO_about 27 = .ok (.goto 32, 3) := by decide +kernel
theorem d_MO_about_30 : decode b_MO_about 30 = .ok (.iload_n 2, 1) := by decide +kernel
