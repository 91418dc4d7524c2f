theorem d_MO_read_0 : decode b_MO_read 0 = .ok (.aload_n 0, 1) := by decide +kernel
theorem d_MO_read_1 : decode b_MO_read 1 = .ok (.iconst 0, 1) := by decide +kernel
theorem d_MO_read_2 : decode b_MO_read 2 = .ok (.putfield 279, 3) := by decide +kernel
theorem d_MO_read_5 : decode b_MO_read 5 = .ok (.aload_n 0, 1) := by decide +kernel
theorem d_MO_read_6 : decode b_MO_read 6 = .ok (.iload_n 1, 1) := by decide +kernel
theorem d_MO_read_7 : decode b_MO_read 7 = .ok (.putfield 276, 3) := by decide +kernel
theorem d_MO_read_10 : decode b_MO_read 10 = .ok (.aload_n 0, 1) := by decide +kernel
theorem d_MO_read_11 : decode b_MO_read 11 = .ok (.iconst 0, 1) := by decide +kernel
theorem d_MO_read_12 : decode b_MO_read 12 = .ok (.putfield 273, 3) := by decide +kernel
theorem d_MO_read_15 : decode b_MO_read 15 = .ok (.aload_n 0, 1) := by decide +kernel
theorem d_MO_read_16 : decode b_MO_read 16 = .ok (.iconst (-1), 1) := by decide +kernel
theorem d_MO_read_17 : decode b_MO_read 17 = .ok (.putfield 75, 3) := by decide +kernel
theorem d_MO_read_20 : decode b_MO_read 20 = .ok (.aload_n 0, 1) := by decide +kernel
theorem d_MO_read_21 : decode b_MO_read 21 = .ok (.iconst 0, 1) := by decide +kernel
theorem d_MO_read_22 : decode b_MO_read 22 = .ok (.putfield 395, 3) := by decide +kernel
theorem d_MO_read_25 : decode b_MO_read 25 = .ok (.aload_n 0, 1) := by decide +kernel
theorem d_MO_read_26 : decode b_MO_read 26 = .ok (.iconst 0, 1) := by decide +kernel
theorem d_MO_read_27 : decode b_MO_read 27 = .ok (.putfield 282, 3) := by decide +kernel
theorem d_MO_read_30 : decode b_MO_read 30 = .ok (.aload_n 0, 1) := by decide +kernel
theorem d_MO_read_31 : decode b_MO_read 31 = .ok (.iconst 0, 1) := by decide +kernel
theorem d_MO_read_32 : decode b_MO_read 32 = .ok (.putfield 264, 3) := by decide +kernel
theorem d_MO_read_35 : decode b_MO_read 35 = .ok (.aload_n 0, 1) := by decide +kernel
theorem d_MO_read_36 : decode b_MO_read 36 = .ok (.iconst 0, 1) := by decide +kernel
theorem d_MO_read_37 : decode b_MO_read 37 = .ok (.putfield 258, 3) := by decide +kernel
theorem d_MO_read_40 : decode b_MO_read 40 = .ok (.aload_n 0, 1) := by decide +kernel
theorem d_MO_read_41 : decode b_MO_read 41 = .ok (.iconst 0, 1) := by decide +kernel
theorem d_MO_read_42 : decode b_MO_read 42 = .ok (.putfield 248, 3) := by decide +kernel
theorem d_MO_read_45 : decode b_MO_read 45 = .ok (.aload_n 0, 1) := by decide +kernel
theorem d_MO_read_46 : decode b_MO_read 46 = .ok (.iconst (-1), 1) := by decide +kernel
theorem d_MO_read_47 : decode b_MO_read 47 = .ok (.aload_n 0, 1) := by decide +kernel
theorem d_MO_read_48 : decode b_MO_read 48 = .ok (.getfield 276, 3) := by decide +kernel
theorem d_MO_read_51 : decode b_MO_read 51 = .ok (.iconst 0, 1) := by decide +kernel
theorem d_MO_read_52 : decode b_MO_read 52 = .ok (.invokevirtual 392, 3) := by decide +kernel
theorem d_MO_read_55 : decode b_MO_read 55 = .ok (.aload_n 0, 1) := by decide +kernel
theorem d_MO_read_56 : decode b_MO_read 56 = .ok (.getfield 273, 3) := by decide +kernel
theorem d_MO_read_59 : decode b_MO_read 59 = .ok (.ifCond .ne 21, 3) := by decide +kernel
theorem d_MO_read_62 : decode b_MO_read 62 = .ok (.aload_n 0, 1) := by decide +kernel
theorem d_MO_read_63 : decode b_MO_read 63 = .ok (.getfield 279, 3) := by decide +kernel
theorem d_MO_read_66 : decode b_MO_read 66 = .ok (.aload_n 0, 1) := by decide +kernel
theorem d_MO_read_67 : decode b_MO_read 67 = .ok (.getfield 223, 3) := by decide +kernel
theorem d_MO_read_70 : decode b_MO_read 70 = .ok (.if_icmp .ge 10, 3) := by decide +kernel
theorem d_MO_read_73 : decode b_MO_read 73 = .ok (.aload_n 0, 1) := by decide +kernel
theorem d_MO_read_74 : decode b_MO_read 74 = .ok (.invokevirtual 433, 3) := by decide +kernel
theorem d_MO_read_77 : decode b_MO_read 77 = .ok (.goto (-22), 3) := by decide +kernel
theorem d_MO_read_80 : decode b_MO_read 80 = .ok (.aload_n 0, 1) := by decide +kernel
theorem d_MO_read_81 : decode b_MO_read 81 = .ok (.getfield 273, 3) := by decide +kernel
theorem d_MO_read_84 : decode b_MO_read 84 = .ok (.ifCond .ne 24, 3) := by decide +kernel
theorem d_MO_read_87 : decode b_MO_read 87 = .ok (.aload_n 0, 1) := by decide +kernel
theorem d_MO_read_88 : decode b_MO_read 88 = .ok (.getfield 282, 3) := by decide +kernel
theorem d_MO_read_91 : decode b_MO_read 91 = .ok (.ifCond .le 17, 3) := by decide +kernel
theorem d_MO_read_94 : decode b_MO_read 94 = .ok (.aload_n 0, 1) := by decide +kernel
theorem d_MO_read_95 : decode b_MO_read 95 = .ok (.iconst 2, 1) := by decide +kernel
theorem d_MO_read_96 : decode b_MO_read 96 = .ok (.aload_n 0, 1) := by decide +kernel
theorem d_MO_read_97 : decode b_MO_read 97 = .ok (.getfield 79, 3) := by decide +kernel
theorem d_MO_read_100 : decode b_MO_read 100 = .ok (.aload_n 0, 1) := by decide +kernel
theorem d_MO_read_101 : decode b_MO_read 101 = .ok (.getfield 282, 3) := by decide +kernel
theorem d_MO_read_104 : decode b_MO_read 104 = .ok (.iaload, 1) := by decide +kernel
theorem d_MO_read_105 : decode b_MO_read 105 = .ok (.invokevirtual 304, 3) := by decide +kernel
theorem d_MO_read_108 : decode b_MO_read 108 = .ok (.aload_n 0, 1) := by decide +kernel
theorem d_MO_read_109 : decode b_MO_read 109 = .ok (.getfield 273, 3) := by decide +kernel
theorem d_MO_read_112 : decode b_MO_read 112 = .ok (.ifCond .le 5, 3) := by decide +kernel
theorem d_MO_read_115 : decode b_MO_read 115 = .ok (.iconst (-1), 1) := by decide +kernel
theorem d_MO_read_116 : decode b_MO_read 116 = .ok (.ireturn, 1) := by decide +kernel
theorem d_MO_read_117 : decode b_MO_read 117 = .ok (.aload_n 0, 1) := by decide +kernel
theorem d_MO_read_118 : decode b_MO_read 118 = .ok (.invokevirtual 398, 3) := by decide +kernel
theorem d_MO_read_121 : decode b_MO_read 121 = .ok (.istore_n 2, 1) := by decide +kernel
theorem d_MO_read_122 : decode b_MO_read 122 = .ok (.aload_n 0, 1) := by decide +kernel
theorem d_MO_read_123 : decode b_MO_read 123 = .ok (.getfield 68, 3) := by decide +kernel
theorem d_MO_read_126 : decode b_MO_read 126 = .ok (.iload_n 2, 1) := by decide +kernel
theorem d_MO_read_127 : decode b_MO_read 127 = .ok (.laload, 1) := by decide +kernel
theorem d_MO_read_128 : decode b_MO_read 128 = .ok (.ldc2_w 436, 3) := by decide +kernel
theorem d_MO_read_131 : decode b_MO_read 131 = .ok (.lcmp, 1) := by decide +kernel
theorem d_MO_read_132 : decode b_MO_read 132 = .ok (.ifCond .le 10, 3) := by decide +kernel
theorem d_MO_read_135 : decode b_MO_read 135 = .ok (.aload_n 0, 1) := by decide +kernel
theorem d_MO_read_136 : decode b_MO_read 136 = .ok (.bipush 14, 2) := by decide +kernel
theorem d_MO_read_138 : decode b_MO_read 138 = .ok (.iconst (-1), 1) := by decide +kernel
theorem d_MO_read_139 : decode b_MO_read 139 = .ok (.invokevirtual 304, 3) := by decide +kernel
theorem d_MO_read_142 : decode b_MO_read 142 = .ok (.iload_n 2, 1) := by decide +kernel
theorem d_MO_read_143 : decode b_MO_read 143 = .ok (.ireturn, 1) := by decide +kernel
theorem d_MO_readPart_0 : decode b_MO_readPart 0 = .ok (.aload_n 0, 1) := by decide +kernel
theorem d_MO_readPart_1 : decode b_MO_readPart 1 = .ok (.iconst 0, 1) := by decide +kernel
theorem d_MO_readPart_2 : decode b_MO_readPart 2 = .ok (.invokevirtual 297, 3) := by decide +kernel
theorem d_MO_readPart_5 : decode b_MO_readPart 5 = .ok (.istore_n 1, 1) := by decide +kernel
theorem d_MO_readPart_6 : decode b_MO_readPart 6 = .ok (.iload_n 1, 1) := by decide +kernel
theorem d_MO_readPart_7 : decode b_MO_readPart 7 = .ok (.lookupswitch 261 #[(36, 186), (40, 118), (41, 125), (42, 223), (43, 223), (46, 111), (63, 223), (91, 104), (92, 97), (94, 149), (124, 132)], 97) := by decide +kernel
theorem d_MO_readPart_104 : decode b_MO_readPart 104 = .ok (.aload_n 0, 1) := by decide +kernel
theorem d_MO_readPart_105 : decode b_MO_readPart 105 = .ok (.invokevirtual 412, 3) := by decide +kernel
theorem d_MO_readPart_108 : decode b_MO_readPart 108 = .ok (.goto 204, 3) := by decide +kernel
theorem d_MO_readPart_111 : decode b_MO_readPart 111 = .ok (.aload_n 0, 1) := by decide +kernel
theorem d_MO_readPart_112 : decode b_MO_readPart 112 = .ok (.invokevirtual 415, 3) := by decide +kernel
theorem d_MO_readPart_115 : decode b_MO_readPart 115 = .ok (.goto 197, 3) := by decide +kernel
theorem d_MO_readPart_118 : decode b_MO_readPart 118 = .ok (.aload_n 0, 1) := by decide +kernel
theorem d_MO_readPart_119 : decode b_MO_readPart 119 = .ok (.invokevirtual 418, 3) := by decide +kernel
theorem d_MO_readPart_122 : decode b_MO_readPart 122 = .ok (.goto 190, 3) := by decide +kernel
theorem d_MO_readPart_125 : decode b_MO_readPart 125 = .ok (.aload_n 0, 1) := by decide +kernel
theorem d_MO_readPart_126 : decode b_MO_readPart 126 = .ok (.invokevirtual 421, 3) := by decide +kernel
theorem d_MO_readPart_129 : decode b_MO_readPart 129 = .ok (.goto 183, 3) := by decide +kernel
theorem d_MO_readPart_132 : decode b_MO_readPart 132 = .ok (.aload_n 0, 1) := by decide +kernel
theorem d_MO_readPart_133 : decode b_MO_readPart 133 = .ok (.invokevirtual 424, 3) := by decide +kernel
theorem d_MO_readPart_136 : decode b_MO_readPart 136 = .ok (.goto 176, 3) := by decide +kernel
theorem d_MO_readPart_139 : decode b_MO_readPart 139 = .ok (.aload_n 0, 1) := by decide +kernel
theorem d_MO_readPart_140 : decode b_MO_readPart 140 = .ok (.invokevirtual 292, 3) := by decide +kernel
theorem d_MO_readPart_143 : decode b_MO_readPart 143 = .ok (.aload_n 0, 1) := by decide +kernel
theorem d_MO_readPart_144 : decode b_MO_readPart 144 = .ok (.dup, 1) := by decide +kernel
theorem d_MO_readPart_145 : decode b_MO_readPart 145 = .ok (.getfield 279, 3) := by decide +kernel
theorem d_MO_readPart_148 : decode b_MO_readPart 148 = .ok (.iconst 1, 1) := by decide +kernel
theorem d_MO_readPart_149 : decode b_MO_readPart 149 = .ok (.iadd, 1) := by decide +kernel
theorem d_MO_readPart_150 : decode b_MO_readPart 150 = .ok (.putfield 279, 3) := by decide +kernel
theorem d_MO_readPart_153 : decode b_MO_readPart 153 = .ok (.goto 159, 3) := by decide +kernel
theorem d_MO_readPart_156 : decode b_MO_readPart 156 = .ok (.aload_n 0, 1) := by decide +kernel
theorem d_MO_readPart_157 : decode b_MO_readPart 157 = .ok (.aload_n 0, 1) := by decide +kernel
theorem d_MO_readPart_158 : decode b_MO_readPart 158 = .ok (.iconst 3, 1) := by decide +kernel
theorem d_MO_readPart_159 : decode b_MO_readPart 159 = .ok (.aload_n 0, 1) := by decide +kernel
theorem d_MO_readPart_160 : decode b_MO_readPart 160 = .ok (.iconst 2, 1) := by decide +kernel
theorem d_MO_readPart_161 : decode b_MO_readPart 161 = .ok (.invokevirtual 355, 3) := by decide +kernel
theorem d_MO_readPart_164 : decode b_MO_readPart 164 = .ok (.ifCond .eq 7, 3) := by decide +kernel
theorem d_MO_readPart_167 : decode b_MO_readPart 167 = .ok (.iconst 4, 1) := by decide +kernel
theorem d_MO_readPart_168 : decode b_MO_readPart 168 = .ok (.goto 4, 3) := by decide +kernel
theorem d_MO_readPart_171 : decode b_MO_readPart 171 = .ok (.iconst 0, 1) := by decide +kernel
theorem d_MO_readPart_172 : decode b_MO_readPart 172 = .ok (.lconst 1, 1) := by decide +kernel
theorem d_MO_readPart_173 : decode b_MO_readPart 173 = .ok (.invokevirtual 269, 3) := by decide +kernel
theorem d_MO_readPart_176 : decode b_MO_readPart 176 = .ok (.iconst 1, 1) := by decide +kernel
theorem d_MO_readPart_177 : decode b_MO_readPart 177 = .ok (.invokevirtual 375, 3) := by decide +kernel
theorem d_MO_readPart_180 : decode b_MO_readPart 180 = .ok (.aload_n 0, 1) := by decide +kernel
theorem d_MO_readPart_181 : decode b_MO_readPart 181 = .ok (.dup, 1) := by decide +kernel
theorem d_MO_readPart_182 : decode b_MO_readPart 182 = .ok (.getfield 279, 3) := by decide +kernel
theorem d_MO_readPart_185 : decode b_MO_readPart 185 = .ok (.iconst 1, 1) := by decide +kernel
theorem d_MO_readPart_186 : decode b_MO_readPart 186 = .ok (.iadd, 1) := by decide +kernel
theorem d_MO_readPart_187 : decode b_MO_readPart 187 = .ok (.putfield 279, 3) := by decide +kernel
theorem d_MO_readPart_190 : decode b_MO_readPart 190 = .ok (.goto 122, 3) := by decide +kernel
theorem d_MO_readPart_193 : decode b_MO_readPart 193 = .ok (.aload_n 0, 1) := by decide +kernel
theorem d_MO_readPart_194 : decode b_MO_readPart 194 = .ok (.aload_n 0, 1) := by decide +kernel
theorem d_MO_readPart_195 : decode b_MO_readPart 195 = .ok (.iconst 3, 1) := by decide +kernel
theorem d_MO_readPart_196 : decode b_MO_readPart 196 = .ok (.aload_n 0, 1) := by decide +kernel
theorem d_MO_readPart_197 : decode b_MO_readPart 197 = .ok (.iconst 2, 1) := by decide +kernel
theorem d_MO_readPart_198 : decode b_MO_readPart 198 = .ok (.invokevirtual 355, 3) := by decide +kernel
theorem d_MO_readPart_201 : decode b_MO_readPart 201 = .ok (.ifCond .eq 7, 3) := by decide +kernel
theorem d_MO_readPart_204 : decode b_MO_readPart 204 = .ok (.iconst 5, 1) := by decide +kernel
theorem d_MO_readPart_205 : decode b_MO_readPart 205 = .ok (.goto 4, 3) := by decide +kernel
theorem d_MO_readPart_208 : decode b_MO_readPart 208 = .ok (.iconst 1, 1) := by decide +kernel
theorem d_MO_readPart_209 : decode b_MO_readPart 209 = .ok (.lconst 1, 1) := by decide +kernel
theorem d_MO_readPart_210 : decode b_MO_readPart 210 = .ok (.invokevirtual 269, 3) := by decide +kernel
theorem d_MO_readPart_213 : decode b_MO_readPart 213 = .ok (.iconst 1, 1) := by decide +kernel
theorem d_MO_readPart_214 : decode b_MO_readPart 214 = .ok (.invokevirtual 375, 3) := by decide +kernel
theorem d_MO_readPart_217 : decode b_MO_readPart 217 = .ok (.aload_n 0, 1) := by decide +kernel
theorem d_MO_readPart_218 : decode b_MO_readPart 218 = .ok (.dup, 1) := by decide +kernel
theorem d_MO_readPart_219 : decode b_MO_readPart 219 = .ok (.getfield 279, 3) := by decide +kernel
theorem d_MO_readPart_222 : decode b_MO_readPart 222 = .ok (.iconst 1, 1) := by decide +kernel
theorem d_MO_readPart_223 : decode b_MO_readPart 223 = .ok (.iadd, 1) := by decide +kernel
theorem d_MO_readPart_224 : decode b_MO_readPart 224 = .ok (.putfield 279, 3) := by decide +kernel
theorem d_MO_readPart_227 : decode b_MO_readPart 227 = .ok (.goto 85, 3) := by decide +kernel
theorem d_MO_readPart_230 : decode b_MO_readPart 230 = .ok (.aload_n 0, 1) := by decide +kernel
theorem d_MO_readPart_231 : decode b_MO_readPart 231 = .ok (.iload_n 1, 1) := by decide +kernel
theorem d_MO_readPart_232 : decode b_MO_readPart 232 = .ok (.bipush 43, 2) := by decide +kernel
theorem d_MO_readPart_234 : decode b_MO_readPart 234 = .ok (.if_icmp .ne 7, 3) := by decide +kernel
theorem d_MO_readPart_237 : decode b_MO_readPart 237 = .ok (.iconst 1, 1) := by decide +kernel
theorem d_MO_readPart_238 : decode b_MO_readPart 238 = .ok (.goto 4, 3) := by decide +kernel
theorem d_MO_readPart_241 : decode b_MO_readPart 241 = .ok (.iconst 0, 1) := by decide +kernel
theorem d_MO_readPart_242 : decode b_MO_readPart 242 = .ok (.putfield 403, 3) := by decide +kernel
theorem d_MO_readPart_245 : decode b_MO_readPart 245 = .ok (.aload_n 0, 1) := by decide +kernel
theorem d_MO_readPart_246 : decode b_MO_readPart 246 = .ok (.iload_n 1, 1) := by decide +kernel
theorem d_MO_readPart_247 : decode b_MO_readPart 247 = .ok (.bipush 63, 2) := by decide +kernel
theorem d_MO_readPart_249 : decode b_MO_readPart 249 = .ok (.if_icmp .ne 7, 3) := by decide +kernel
theorem d_MO_readPart_252 : decode b_MO_readPart 252 = .ok (.iconst 1, 1) := by decide +kernel
theorem d_MO_readPart_253 : decode b_MO_readPart 253 = .ok (.goto 4, 3) := by decide +kernel
theorem d_MO_readPart_256 : decode b_MO_readPart 256 = .ok (.iconst (-1), 1) := by decide +kernel
theorem d_MO_readPart_257 : decode b_MO_readPart 257 = .ok (.putfield 406, 3) := by decide +kernel
theorem d_MO_readPart_260 : decode b_MO_readPart 260 = .ok (.aload_n 0, 1) := by decide +kernel
theorem d_MO_readPart_261 : decode b_MO_readPart 261 = .ok (.iconst 1, 1) := by decide +kernel
theorem d_MO_readPart_262 : decode b_MO_readPart 262 = .ok (.invokevirtual 427, 3) := by decide +kernel
theorem d_MO_readPart_265 : decode b_MO_readPart 265 = .ok (.goto 47, 3) := by decide +kernel
theorem d_MO_readPart_268 : decode b_MO_readPart 268 = .ok (.iload_n 1, 1) := by decide +kernel
theorem d_MO_readPart_269 : decode b_MO_readPart 269 = .ok (.bipush 123, 2) := by decide +kernel
theorem d_MO_readPart_271 : decode b_MO_readPart 271 = .ok (.if_icmp .ne 10, 3) := by decide +kernel
theorem d_MO_readPart_274 : decode b_MO_readPart 274 = .ok (.aload_n 0, 1) := by decide +kernel
theorem d_MO_readPart_275 : decode b_MO_readPart 275 = .ok (.invokevirtual 430, 3) := by decide +kernel
theorem d_MO_readPart_278 : decode b_MO_readPart 278 = .ok (.goto 4, 3) := by decide +kernel
theorem d_MO_readPart_281 : decode b_MO_readPart 281 = .ok (.iconst (-1), 1) := by decide +kernel
theorem d_MO_readPart_282 : decode b_MO_readPart 282 = .ok (.istore_n 2, 1) := by decide +kernel
theorem d_MO_readPart_283 : decode b_MO_readPart 283 = .ok (.iload_n 2, 1) := by decide +kernel
theorem d_MO_readPart_284 : decode b_MO_readPart 284 = .ok (.ifCond .le 11, 3) := by decide +kernel
theorem d_MO_readPart_287 : decode b_MO_readPart 287 = .ok (.aload_n 0, 1) := by decide +kernel
theorem d_MO_readPart_288 : decode b_MO_readPart 288 = .ok (.iload_n 2, 1) := by decide +kernel
theorem d_MO_readPart_289 : decode b_MO_readPart 289 = .ok (.invokevirtual 427, 3) := by decide +kernel
theorem d_MO_readPart_292 : decode b_MO_readPart 292 = .ok (.goto 20, 3) := by decide +kernel
theorem d_MO_readPart_295 : decode b_MO_readPart 295 = .ok (.aload_n 0, 1) := by decide +kernel
theorem d_MO_readPart_296 : decode b_MO_readPart 296 = .ok (.invokevirtual 348, 3) := by decide +kernel
theorem d_MO_readPart_299 : decode b_MO_readPart 299 = .ok (.istore_n 3, 1) := by decide +kernel
theorem d_MO_readPart_300 : decode b_MO_readPart 300 = .ok (.aload_n 0, 1) := by decide +kernel
theorem d_MO_readPart_301 : decode b_MO_readPart 301 = .ok (.getfield 273, 3) := by decide +kernel
theorem d_MO_readPart_304 : decode b_MO_readPart 304 = .ok (.ifCond .ne 8, 3) := by decide +kernel
theorem d_MO_readPart_307 : decode b_MO_readPart 307 = .ok (.aload_n 0, 1) := by decide +kernel
theorem d_MO_readPart_308 : decode b_MO_readPart 308 = .ok (.iload_n 3, 1) := by decide +kernel
theorem d_MO_readPart_309 : decode b_MO_readPart 309 = .ok (.invokevirtual 378, 3) := by decide +kernel
theorem d_MO_readPart_312 : decode b_MO_readPart 312 = .ok (.return_, 1) := by decide +kernel
