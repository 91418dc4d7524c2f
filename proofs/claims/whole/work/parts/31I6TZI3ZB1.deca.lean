theorem d_MO_begin_0 : decode b_MO_begin 0 = .ok (.aload_n 0, 1) := by decide +kernel
theorem d_MO_begin_1 : decode b_MO_begin 1 = .ok (.iconst 0, 1) := by decide +kernel
theorem d_MO_begin_2 : decode b_MO_begin 2 = .ok (.putfield 237, 3) := by decide +kernel
theorem d_MO_begin_5 : decode b_MO_begin 5 = .ok (.iconst 0, 1) := by decide +kernel
theorem d_MO_begin_6 : decode b_MO_begin 6 = .ok (.istore_n 1, 1) := by decide +kernel
theorem d_MO_begin_7 : decode b_MO_begin 7 = .ok (.iload_n 1, 1) := by decide +kernel
theorem d_MO_begin_8 : decode b_MO_begin 8 = .ok (.sipush 1200, 3) := by decide +kernel
theorem d_MO_begin_11 : decode b_MO_begin 11 = .ok (.if_icmp .ge 16, 3) := by decide +kernel
theorem d_MO_begin_14 : decode b_MO_begin 14 = .ok (.aload_n 0, 1) := by decide +kernel
theorem d_MO_begin_15 : decode b_MO_begin 15 = .ok (.getfield 46, 3) := by decide +kernel
theorem d_MO_begin_18 : decode b_MO_begin 18 = .ok (.iload_n 1, 1) := by decide +kernel
theorem d_MO_begin_19 : decode b_MO_begin 19 = .ok (.iconst 0, 1) := by decide +kernel
theorem d_MO_begin_20 : decode b_MO_begin 20 = .ok (.bastore, 1) := by decide +kernel
theorem d_MO_begin_21 : decode b_MO_begin 21 = .ok (.iinc 1 1, 3) := by decide +kernel
theorem d_MO_begin_24 : decode b_MO_begin 24 = .ok (.goto (-17), 3) := by decide +kernel
theorem d_MO_begin_27 : decode b_MO_begin 27 = .ok (.return_, 1) := by decide +kernel
theorem d_MO_close_0 : decode b_MO_close 0 = .ok (.aload_n 0, 1) := by decide +kernel
theorem d_MO_close_1 : decode b_MO_close 1 = .ok (.invokevirtual 255, 3) := by decide +kernel
theorem d_MO_close_4 : decode b_MO_close 4 = .ok (.iconst 1, 1) := by decide +kernel
theorem d_MO_close_5 : decode b_MO_close 5 = .ok (.istore_n 2, 1) := by decide +kernel
theorem d_MO_close_6 : decode b_MO_close 6 = .ok (.iload_n 2, 1) := by decide +kernel
theorem d_MO_close_7 : decode b_MO_close 7 = .ok (.aload_n 0, 1) := by decide +kernel
theorem d_MO_close_8 : decode b_MO_close 8 = .ok (.getfield 237, 3) := by decide +kernel
theorem d_MO_close_11 : decode b_MO_close 11 = .ok (.if_icmp .ge 100, 3) := by decide +kernel
theorem d_MO_close_14 : decode b_MO_close 14 = .ok (.aload_n 0, 1) := by decide +kernel
theorem d_MO_close_15 : decode b_MO_close 15 = .ok (.getfield 28, 3) := by decide +kernel
theorem d_MO_close_18 : decode b_MO_close 18 = .ok (.iload_n 2, 1) := by decide +kernel
theorem d_MO_close_19 : decode b_MO_close 19 = .ok (.iaload, 1) := by decide +kernel
theorem d_MO_close_20 : decode b_MO_close 20 = .ok (.istore_n 3, 1) := by decide +kernel
theorem d_MO_close_21 : decode b_MO_close 21 = .ok (.aload_n 0, 1) := by decide +kernel
theorem d_MO_close_22 : decode b_MO_close 22 = .ok (.getfield 31, 3) := by decide +kernel
theorem d_MO_close_25 : decode b_MO_close 25 = .ok (.iload_n 2, 1) := by decide +kernel
theorem d_MO_close_26 : decode b_MO_close 26 = .ok (.iaload, 1) := by decide +kernel
theorem d_MO_close_27 : decode b_MO_close 27 = .ok (.istore 4, 2) := by decide +kernel
theorem d_MO_close_29 : decode b_MO_close 29 = .ok (.iload_n 2, 1) := by decide +kernel
theorem d_MO_close_30 : decode b_MO_close 30 = .ok (.istore 5, 2) := by decide +kernel
theorem d_MO_close_32 : decode b_MO_close 32 = .ok (.iload 5, 2) := by decide +kernel
theorem d_MO_close_34 : decode b_MO_close 34 = .ok (.ifCond .le 54, 3) := by decide +kernel
theorem d_MO_close_37 : decode b_MO_close 37 = .ok (.aload_n 0, 1) := by decide +kernel
theorem d_MO_close_38 : decode b_MO_close 38 = .ok (.getfield 28, 3) := by decide +kernel
theorem d_MO_close_41 : decode b_MO_close 41 = .ok (.iload 5, 2) := by decide +kernel
theorem d_MO_close_43 : decode b_MO_close 43 = .ok (.iconst 1, 1) := by decide +kernel
theorem d_MO_close_44 : decode b_MO_close 44 = .ok (.isub, 1) := by decide +kernel
theorem d_MO_close_45 : decode b_MO_close 45 = .ok (.iaload, 1) := by decide +kernel
theorem d_MO_close_46 : decode b_MO_close 46 = .ok (.iload_n 3, 1) := by decide +kernel
theorem d_MO_close_47 : decode b_MO_close 47 = .ok (.if_icmp .le 41, 3) := by decide +kernel
theorem d_MO_close_50 : decode b_MO_close 50 = .ok (.aload_n 0, 1) := by decide +kernel
theorem d_MO_close_51 : decode b_MO_close 51 = .ok (.getfield 28, 3) := by decide +kernel
theorem d_MO_close_54 : decode b_MO_close 54 = .ok (.iload 5, 2) := by decide +kernel
theorem d_MO_close_56 : decode b_MO_close 56 = .ok (.aload_n 0, 1) := by decide +kernel
theorem d_MO_close_57 : decode b_MO_close 57 = .ok (.getfield 28, 3) := by decide +kernel
theorem d_MO_close_60 : decode b_MO_close 60 = .ok (.iload 5, 2) := by decide +kernel
theorem d_MO_close_62 : decode b_MO_close 62 = .ok (.iconst 1, 1) := by decide +kernel
theorem d_MO_close_63 : decode b_MO_close 63 = .ok (.isub, 1) := by decide +kernel
theorem d_MO_close_64 : decode b_MO_close 64 = .ok (.iaload, 1) := by decide +kernel
theorem d_MO_close_65 : decode b_MO_close 65 = .ok (.iastore, 1) := by decide +kernel
theorem d_MO_close_66 : decode b_MO_close 66 = .ok (.aload_n 0, 1) := by decide +kernel
theorem d_MO_close_67 : decode b_MO_close 67 = .ok (.getfield 31, 3) := by decide +kernel
theorem d_MO_close_70 : decode b_MO_close 70 = .ok (.iload 5, 2) := by decide +kernel
theorem d_MO_close_72 : decode b_MO_close 72 = .ok (.aload_n 0, 1) := by decide +kernel
theorem d_MO_close_73 : decode b_MO_close 73 = .ok (.getfield 31, 3) := by decide +kernel
theorem d_MO_close_76 : decode b_MO_close 76 = .ok (.iload 5, 2) := by decide +kernel
theorem d_MO_close_78 : decode b_MO_close 78 = .ok (.iconst 1, 1) := by decide +kernel
theorem d_MO_close_79 : decode b_MO_close 79 = .ok (.isub, 1) := by decide +kernel
theorem d_MO_close_80 : decode b_MO_close 80 = .ok (.iaload, 1) := by decide +kernel
theorem d_MO_close_81 : decode b_MO_close 81 = .ok (.iastore, 1) := by decide +kernel
theorem d_MO_close_82 : decode b_MO_close 82 = .ok (.iinc 5 (-1), 3) := by decide +kernel
theorem d_MO_close_85 : decode b_MO_close 85 = .ok (.goto (-53), 3) := by decide +kernel
theorem d_MO_close_88 : decode b_MO_close 88 = .ok (.aload_n 0, 1) := by decide +kernel
theorem d_MO_close_89 : decode b_MO_close 89 = .ok (.getfield 28, 3) := by decide +kernel
theorem d_MO_close_92 : decode b_MO_close 92 = .ok (.iload 5, 2) := by decide +kernel
theorem d_MO_close_94 : decode b_MO_close 94 = .ok (.iload_n 3, 1) := by decide +kernel
theorem d_MO_close_95 : decode b_MO_close 95 = .ok (.iastore, 1) := by decide +kernel
theorem d_MO_close_96 : decode b_MO_close 96 = .ok (.aload_n 0, 1) := by decide +kernel
theorem d_MO_close_97 : decode b_MO_close 97 = .ok (.getfield 31, 3) := by decide +kernel
theorem d_MO_close_100 : decode b_MO_close 100 = .ok (.iload 5, 2) := by decide +kernel
theorem d_MO_close_102 : decode b_MO_close 102 = .ok (.iload 4, 2) := by decide +kernel
theorem d_MO_close_104 : decode b_MO_close 104 = .ok (.iastore, 1) := by decide +kernel
theorem d_MO_close_105 : decode b_MO_close 105 = .ok (.iinc 2 1, 3) := by decide +kernel
theorem d_MO_close_108 : decode b_MO_close 108 = .ok (.goto (-102), 3) := by decide +kernel
theorem d_MO_close_111 : decode b_MO_close 111 = .ok (.iconst 0, 1) := by decide +kernel
theorem d_MO_close_112 : decode b_MO_close 112 = .ok (.istore_n 2, 1) := by decide +kernel
theorem d_MO_close_113 : decode b_MO_close 113 = .ok (.iconst 0, 1) := by decide +kernel
theorem d_MO_close_114 : decode b_MO_close 114 = .ok (.istore_n 3, 1) := by decide +kernel
theorem d_MO_close_115 : decode b_MO_close 115 = .ok (.iload_n 3, 1) := by decide +kernel
theorem d_MO_close_116 : decode b_MO_close 116 = .ok (.aload_n 0, 1) := by decide +kernel
theorem d_MO_close_117 : decode b_MO_close 117 = .ok (.getfield 237, 3) := by decide +kernel
theorem d_MO_close_120 : decode b_MO_close 120 = .ok (.if_icmp .ge 104, 3) := by decide +kernel
theorem d_MO_close_123 : decode b_MO_close 123 = .ok (.iload_n 2, 1) := by decide +kernel
theorem d_MO_close_124 : decode b_MO_close 124 = .ok (.ifCond .le 67, 3) := by decide +kernel
theorem d_MO_close_127 : decode b_MO_close 127 = .ok (.aload_n 0, 1) := by decide +kernel
theorem d_MO_close_128 : decode b_MO_close 128 = .ok (.getfield 28, 3) := by decide +kernel
theorem d_MO_close_131 : decode b_MO_close 131 = .ok (.iload_n 3, 1) := by decide +kernel
theorem d_MO_close_132 : decode b_MO_close 132 = .ok (.iaload, 1) := by decide +kernel
theorem d_MO_close_133 : decode b_MO_close 133 = .ok (.aload_n 0, 1) := by decide +kernel
theorem d_MO_close_134 : decode b_MO_close 134 = .ok (.getfield 31, 3) := by decide +kernel
theorem d_MO_close_137 : decode b_MO_close 137 = .ok (.iload_n 2, 1) := by decide +kernel
theorem d_MO_close_138 : decode b_MO_close 138 = .ok (.iconst 1, 1) := by decide +kernel
theorem d_MO_close_139 : decode b_MO_close 139 = .ok (.isub, 1) := by decide +kernel
theorem d_MO_close_140 : decode b_MO_close 140 = .ok (.iaload, 1) := by decide +kernel
theorem d_MO_close_141 : decode b_MO_close 141 = .ok (.iconst 1, 1) := by decide +kernel
theorem d_MO_close_142 : decode b_MO_close 142 = .ok (.iadd, 1) := by decide +kernel
theorem d_MO_close_143 : decode b_MO_close 143 = .ok (.if_icmp .gt 48, 3) := by decide +kernel
theorem d_MO_close_146 : decode b_MO_close 146 = .ok (.aload_n 0, 1) := by decide +kernel
theorem d_MO_close_147 : decode b_MO_close 147 = .ok (.getfield 31, 3) := by decide +kernel
theorem d_MO_close_150 : decode b_MO_close 150 = .ok (.iload_n 2, 1) := by decide +kernel
theorem d_MO_close_151 : decode b_MO_close 151 = .ok (.iconst 1, 1) := by decide +kernel
theorem d_MO_close_152 : decode b_MO_close 152 = .ok (.isub, 1) := by decide +kernel
theorem d_MO_close_153 : decode b_MO_close 153 = .ok (.aload_n 0, 1) := by decide +kernel
theorem d_MO_close_154 : decode b_MO_close 154 = .ok (.getfield 31, 3) := by decide +kernel
theorem d_MO_close_157 : decode b_MO_close 157 = .ok (.iload_n 3, 1) := by decide +kernel
theorem d_MO_close_158 : decode b_MO_close 158 = .ok (.iaload, 1) := by decide +kernel
theorem d_MO_close_159 : decode b_MO_close 159 = .ok (.aload_n 0, 1) := by decide +kernel
theorem d_MO_close_160 : decode b_MO_close 160 = .ok (.getfield 31, 3) := by decide +kernel
theorem d_MO_close_163 : decode b_MO_close 163 = .ok (.iload_n 2, 1) := by decide +kernel
theorem d_MO_close_164 : decode b_MO_close 164 = .ok (.iconst 1, 1) := by decide +kernel
theorem d_MO_close_165 : decode b_MO_close 165 = .ok (.isub, 1) := by decide +kernel
theorem d_MO_close_166 : decode b_MO_close 166 = .ok (.iaload, 1) := by decide +kernel
theorem d_MO_close_167 : decode b_MO_close 167 = .ok (.if_icmp .le 12, 3) := by decide +kernel
theorem d_MO_close_170 : decode b_MO_close 170 = .ok (.aload_n 0, 1) := by decide +kernel
theorem d_MO_close_171 : decode b_MO_close 171 = .ok (.getfield 31, 3) := by decide +kernel
theorem d_MO_close_174 : decode b_MO_close 174 = .ok (.iload_n 3, 1) := by decide +kernel
theorem d_MO_close_175 : decode b_MO_close 175 = .ok (.iaload, 1) := by decide +kernel
theorem d_MO_close_176 : decode b_MO_close 176 = .ok (.goto 11, 3) := by decide +kernel
theorem d_MO_close_179 : decode b_MO_close 179 = .ok (.aload_n 0, 1) := by decide +kernel
theorem d_MO_close_180 : decode b_MO_close 180 = .ok (.getfield 31, 3) := by decide +kernel
theorem d_MO_close_183 : decode b_MO_close 183 = .ok (.iload_n 2, 1) := by decide +kernel
theorem d_MO_close_184 : decode b_MO_close 184 = .ok (.iconst 1, 1) := by decide +kernel
theorem d_MO_close_185 : decode b_MO_close 185 = .ok (.isub, 1) := by decide +kernel
theorem d_MO_close_186 : decode b_MO_close 186 = .ok (.iaload, 1) := by decide +kernel
theorem d_MO_close_187 : decode b_MO_close 187 = .ok (.iastore, 1) := by decide +kernel
theorem d_MO_close_188 : decode b_MO_close 188 = .ok (.goto 30, 3) := by decide +kernel
theorem d_MO_close_191 : decode b_MO_close 191 = .ok (.aload_n 0, 1) := by decide +kernel
theorem d_MO_close_192 : decode b_MO_close 192 = .ok (.getfield 28, 3) := by decide +kernel
theorem d_MO_close_195 : decode b_MO_close 195 = .ok (.iload_n 2, 1) := by decide +kernel
theorem d_MO_close_196 : decode b_MO_close 196 = .ok (.aload_n 0, 1) := by decide +kernel
theorem d_MO_close_197 : decode b_MO_close 197 = .ok (.getfield 28, 3) := by decide +kernel
theorem d_MO_close_200 : decode b_MO_close 200 = .ok (.iload_n 3, 1) := by decide +kernel
theorem d_MO_close_201 : decode b_MO_close 201 = .ok (.iaload, 1) := by decide +kernel
theorem d_MO_close_202 : decode b_MO_close 202 = .ok (.iastore, 1) := by decide +kernel
theorem d_MO_close_203 : decode b_MO_close 203 = .ok (.aload_n 0, 1) := by decide +kernel
theorem d_MO_close_204 : decode b_MO_close 204 = .ok (.getfield 31, 3) := by decide +kernel
theorem d_MO_close_207 : decode b_MO_close 207 = .ok (.iload_n 2, 1) := by decide +kernel
theorem d_MO_close_208 : decode b_MO_close 208 = .ok (.aload_n 0, 1) := by decide +kernel
theorem d_MO_close_209 : decode b_MO_close 209 = .ok (.getfield 31, 3) := by decide +kernel
theorem d_MO_close_212 : decode b_MO_close 212 = .ok (.iload_n 3, 1) := by decide +kernel
theorem d_MO_close_213 : decode b_MO_close 213 = .ok (.iaload, 1) := by decide +kernel
theorem d_MO_close_214 : decode b_MO_close 214 = .ok (.iastore, 1) := by decide +kernel
theorem d_MO_close_215 : decode b_MO_close 215 = .ok (.iinc 2 1, 3) := by decide +kernel
theorem d_MO_close_218 : decode b_MO_close 218 = .ok (.iinc 3 1, 3) := by decide +kernel
theorem d_MO_close_221 : decode b_MO_close 221 = .ok (.goto (-106), 3) := by decide +kernel
theorem d_MO_close_224 : decode b_MO_close 224 = .ok (.aload_n 0, 1) := by decide +kernel
theorem d_MO_close_225 : decode b_MO_close 225 = .ok (.getfield 34, 3) := by decide +kernel
theorem d_MO_close_228 : decode b_MO_close 228 = .ok (.aload_n 0, 1) := by decide +kernel
theorem d_MO_close_229 : decode b_MO_close 229 = .ok (.getfield 258, 3) := by decide +kernel
theorem d_MO_close_232 : decode b_MO_close 232 = .ok (.aload_n 0, 1) := by decide +kernel
theorem d_MO_close_233 : decode b_MO_close 233 = .ok (.getfield 248, 3) := by decide +kernel
theorem d_MO_close_236 : decode b_MO_close 236 = .ok (.iastore, 1) := by decide +kernel
theorem d_MO_close_237 : decode b_MO_close 237 = .ok (.iconst 0, 1) := by decide +kernel
theorem d_MO_close_238 : decode b_MO_close 238 = .ok (.istore_n 3, 1) := by decide +kernel
theorem d_MO_close_239 : decode b_MO_close 239 = .ok (.iconst 0, 1) := by decide +kernel
theorem d_MO_close_240 : decode b_MO_close 240 = .ok (.istore 4, 2) := by decide +kernel
theorem d_MO_close_242 : decode b_MO_close 242 = .ok (.iload 4, 2) := by decide +kernel
theorem d_MO_close_244 : decode b_MO_close 244 = .ok (.iload_n 2, 1) := by decide +kernel
theorem d_MO_close_245 : decode b_MO_close 245 = .ok (.if_icmp .ge 58, 3) := by decide +kernel
theorem d_MO_close_248 : decode b_MO_close 248 = .ok (.iload_n 1, 1) := by decide +kernel
theorem d_MO_close_249 : decode b_MO_close 249 = .ok (.ifCond .eq 20, 3) := by decide +kernel
theorem d_MO_close_252 : decode b_MO_close 252 = .ok (.aload_n 0, 1) := by decide +kernel
theorem d_MO_close_253 : decode b_MO_close 253 = .ok (.iload_n 3, 1) := by decide +kernel
theorem d_MO_close_254 : decode b_MO_close 254 = .ok (.aload_n 0, 1) := by decide +kernel
theorem d_MO_close_255 : decode b_MO_close 255 = .ok (.getfield 28, 3) := by decide +kernel
theorem d_MO_close_258 : decode b_MO_close 258 = .ok (.iload 4, 2) := by decide +kernel
theorem d_MO_close_260 : decode b_MO_close 260 = .ok (.iaload, 1) := by decide +kernel
theorem d_MO_close_261 : decode b_MO_close 261 = .ok (.iconst 1, 1) := by decide +kernel
theorem d_MO_close_262 : decode b_MO_close 262 = .ok (.isub, 1) := by decide +kernel
theorem d_MO_close_263 : decode b_MO_close 263 = .ok (.invokevirtual 261, 3) := by decide +kernel
theorem d_MO_close_266 : decode b_MO_close 266 = .ok (.goto 21, 3) := by decide +kernel
theorem d_MO_close_269 : decode b_MO_close 269 = .ok (.aload_n 0, 1) := by decide +kernel
theorem d_MO_close_270 : decode b_MO_close 270 = .ok (.aload_n 0, 1) := by decide +kernel
theorem d_MO_close_271 : decode b_MO_close 271 = .ok (.getfield 28, 3) := by decide +kernel
theorem d_MO_close_274 : decode b_MO_close 274 = .ok (.iload 4, 2) := by decide +kernel
theorem d_MO_close_276 : decode b_MO_close 276 = .ok (.iaload, 1) := by decide +kernel
theorem d_MO_close_277 : decode b_MO_close 277 = .ok (.aload_n 0, 1) := by decide +kernel
theorem d_MO_close_278 : decode b_MO_close 278 = .ok (.getfield 31, 3) := by decide +kernel
theorem d_MO_close_281 : decode b_MO_close 281 = .ok (.iload 4, 2) := by decide +kernel
theorem d_MO_close_283 : decode b_MO_close 283 = .ok (.iaload, 1) := by decide +kernel
theorem d_MO_close_284 : decode b_MO_close 284 = .ok (.invokevirtual 261, 3) := by decide +kernel
theorem d_MO_close_287 : decode b_MO_close 287 = .ok (.aload_n 0, 1) := by decide +kernel
theorem d_MO_close_288 : decode b_MO_close 288 = .ok (.getfield 31, 3) := by decide +kernel
theorem d_MO_close_291 : decode b_MO_close 291 = .ok (.iload 4, 2) := by decide +kernel
theorem d_MO_close_293 : decode b_MO_close 293 = .ok (.iaload, 1) := by decide +kernel
theorem d_MO_close_294 : decode b_MO_close 294 = .ok (.iconst 1, 1) := by decide +kernel
theorem d_MO_close_295 : decode b_MO_close 295 = .ok (.iadd, 1) := by decide +kernel
theorem d_MO_close_296 : decode b_MO_close 296 = .ok (.istore_n 3, 1) := by decide +kernel
theorem d_MO_close_297 : decode b_MO_close 297 = .ok (.iinc 4 1, 3) := by decide +kernel
theorem d_MO_close_300 : decode b_MO_close 300 = .ok (.goto (-58), 3) := by decide +kernel
theorem d_MO_close_303 : decode b_MO_close 303 = .ok (.iload_n 1, 1) := by decide +kernel
theorem d_MO_close_304 : decode b_MO_close 304 = .ok (.ifCond .eq 10, 3) := by decide +kernel
theorem d_MO_close_307 : decode b_MO_close 307 = .ok (.aload_n 0, 1) := by decide +kernel
theorem d_MO_close_308 : decode b_MO_close 308 = .ok (.iload_n 3, 1) := by decide +kernel
theorem d_MO_close_309 : decode b_MO_close 309 = .ok (.ldc 236, 2) := by decide +kernel
theorem d_MO_close_311 : decode b_MO_close 311 = .ok (.invokevirtual 261, 3) := by decide +kernel
theorem d_MO_close_314 : decode b_MO_close 314 = .ok (.aload_n 0, 1) := by decide +kernel
theorem d_MO_close_315 : decode b_MO_close 315 = .ok (.getfield 37, 3) := by decide +kernel
theorem d_MO_close_318 : decode b_MO_close 318 = .ok (.aload_n 0, 1) := by decide +kernel
theorem d_MO_close_319 : decode b_MO_close 319 = .ok (.getfield 258, 3) := by decide +kernel
theorem d_MO_close_322 : decode b_MO_close 322 = .ok (.aload_n 0, 1) := by decide +kernel
theorem d_MO_close_323 : decode b_MO_close 323 = .ok (.getfield 248, 3) := by decide +kernel
theorem d_MO_close_326 : decode b_MO_close 326 = .ok (.aload_n 0, 1) := by decide +kernel
theorem d_MO_close_327 : decode b_MO_close 327 = .ok (.getfield 34, 3) := by decide +kernel
theorem d_MO_close_330 : decode b_MO_close 330 = .ok (.aload_n 0, 1) := by decide +kernel
theorem d_MO_close_331 : decode b_MO_close 331 = .ok (.getfield 258, 3) := by decide +kernel
theorem d_MO_close_334 : decode b_MO_close 334 = .ok (.iaload, 1) := by decide +kernel
theorem d_MO_close_335 : decode b_MO_close 335 = .ok (.isub, 1) := by decide +kernel
theorem d_MO_close_336 : decode b_MO_close 336 = .ok (.iastore, 1) := by decide +kernel
theorem d_MO_close_337 : decode b_MO_close 337 = .ok (.aload_n 0, 1) := by decide +kernel
theorem d_MO_close_338 : decode b_MO_close 338 = .ok (.dup, 1) := by decide +kernel
theorem d_MO_close_339 : decode b_MO_close 339 = .ok (.getfield 258, 3) := by decide +kernel
theorem d_MO_close_342 : decode b_MO_close 342 = .ok (.iconst 1, 1) := by decide +kernel
theorem d_MO_close_343 : decode b_MO_close 343 = .ok (.iadd, 1) := by decide +kernel
theorem d_MO_close_344 : decode b_MO_close 344 = .ok (.putfield 258, 3) := by decide +kernel
theorem d_MO_close_347 : decode b_MO_close 347 = .ok (.aload_n 0, 1) := by decide +kernel
theorem d_MO_close_348 : decode b_MO_close 348 = .ok (.getfield 258, 3) := by decide +kernel
theorem d_MO_close_351 : decode b_MO_close 351 = .ok (.iconst 1, 1) := by decide +kernel
theorem d_MO_close_352 : decode b_MO_close 352 = .ok (.isub, 1) := by decide +kernel
theorem d_MO_close_353 : decode b_MO_close 353 = .ok (.ireturn, 1) := by decide +kernel
theorem d_MO_gather_0 : decode b_MO_gather 0 = .ok (.aload_n 0, 1) := by decide +kernel
theorem d_MO_gather_1 : decode b_MO_gather 1 = .ok (.getfield 28, 3) := by decide +kernel
theorem d_MO_gather_4 : decode b_MO_gather 4 = .ok (.aload_n 0, 1) := by decide +kernel
theorem d_MO_gather_5 : decode b_MO_gather 5 = .ok (.getfield 237, 3) := by decide +kernel
theorem d_MO_gather_8 : decode b_MO_gather 8 = .ok (.iload_n 1, 1) := by decide +kernel
theorem d_MO_gather_9 : decode b_MO_gather 9 = .ok (.iastore, 1) := by decide +kernel
theorem d_MO_gather_10 : decode b_MO_gather 10 = .ok (.aload_n 0, 1) := by decide +kernel
theorem d_MO_gather_11 : decode b_MO_gather 11 = .ok (.getfield 31, 3) := by decide +kernel
theorem d_MO_gather_14 : decode b_MO_gather 14 = .ok (.aload_n 0, 1) := by decide +kernel
theorem d_MO_gather_15 : decode b_MO_gather 15 = .ok (.getfield 237, 3) := by decide +kernel
theorem d_MO_gather_18 : decode b_MO_gather 18 = .ok (.iload_n 2, 1) := by decide +kernel
theorem d_MO_gather_19 : decode b_MO_gather 19 = .ok (.iastore, 1) := by decide +kernel
theorem d_MO_gather_20 : decode b_MO_gather 20 = .ok (.aload_n 0, 1) := by decide +kernel
theorem d_MO_gather_21 : decode b_MO_gather 21 = .ok (.dup, 1) := by decide +kernel
theorem d_MO_gather_22 : decode b_MO_gather 22 = .ok (.getfield 237, 3) := by decide +kernel
theorem d_MO_gather_25 : decode b_MO_gather 25 = .ok (.iconst 1, 1) := by decide +kernel
theorem d_MO_gather_26 : decode b_MO_gather 26 = .ok (.iadd, 1) := by decide +kernel
theorem d_MO_gather_27 : decode b_MO_gather 27 = .ok (.putfield 237, 3) := by decide +kernel
theorem d_MO_gather_30 : decode b_MO_gather 30 = .ok (.return_, 1) := by decide +kernel
theorem d_MO_gatherLike_0 : decode b_MO_gatherLike 0 = .ok (.aload_n 0, 1) := by decide +kernel
theorem d_MO_gatherLike_1 : decode b_MO_gatherLike 1 = .ok (.iload_n 1, 1) := by decide +kernel
theorem d_MO_gatherLike_2 : decode b_MO_gatherLike 2 = .ok (.iload_n 2, 1) := by decide +kernel
theorem d_MO_gatherLike_3 : decode b_MO_gatherLike 3 = .ok (.invokevirtual 240, 3) := by decide +kernel
theorem d_MO_gatherLike_6 : decode b_MO_gatherLike 6 = .ok (.iload_n 3, 1) := by decide +kernel
theorem d_MO_gatherLike_7 : decode b_MO_gatherLike 7 = .ok (.ifCond .ne 4, 3) := by decide +kernel
theorem d_MO_gatherLike_10 : decode b_MO_gatherLike 10 = .ok (.return_, 1) := by decide +kernel
theorem d_MO_gatherLike_11 : decode b_MO_gatherLike 11 = .ok (.iload_n 1, 1) := by decide +kernel
theorem d_MO_gatherLike_12 : decode b_MO_gatherLike 12 = .ok (.istore 4, 2) := by decide +kernel
theorem d_MO_gatherLike_14 : decode b_MO_gatherLike 14 = .ok (.iload 4, 2) := by decide +kernel
theorem d_MO_gatherLike_16 : decode b_MO_gatherLike 16 = .ok (.iload_n 2, 1) := by decide +kernel
theorem d_MO_gatherLike_17 : decode b_MO_gatherLike 17 = .ok (.if_icmp .gt 28, 3) := by decide +kernel
theorem d_MO_gatherLike_20 : decode b_MO_gatherLike 20 = .ok (.iload 4, 2) := by decide +kernel
theorem d_MO_gatherLike_22 : decode b_MO_gatherLike 22 = .ok (.sipush 1120, 3) := by decide +kernel
theorem d_MO_gatherLike_25 : decode b_MO_gatherLike 25 = .ok (.if_icmp .ge 20, 3) := by decide +kernel
theorem d_MO_gatherLike_28 : decode b_MO_gatherLike 28 = .ok (.aload_n 0, 1) := by decide +kernel
theorem d_MO_gatherLike_29 : decode b_MO_gatherLike 29 = .ok (.getfield 46, 3) := by decide +kernel
theorem d_MO_gatherLike_32 : decode b_MO_gatherLike 32 = .ok (.iload 4, 2) := by decide +kernel
theorem d_MO_gatherLike_34 : decode b_MO_gatherLike 34 = .ok (.invokestatic 244, 3) := by decide +kernel
theorem d_MO_gatherLike_37 : decode b_MO_gatherLike 37 = .ok (.iconst 1, 1) := by decide +kernel
theorem d_MO_gatherLike_38 : decode b_MO_gatherLike 38 = .ok (.bastore, 1) := by decide +kernel
theorem d_MO_gatherLike_39 : decode b_MO_gatherLike 39 = .ok (.iinc 4 1, 3) := by decide +kernel
theorem d_MO_gatherLike_42 : decode b_MO_gatherLike 42 = .ok (.goto (-28), 3) := by decide +kernel
theorem d_MO_gatherLike_45 : decode b_MO_gatherLike 45 = .ok (.iload_n 1, 1) := by decide +kernel
theorem d_MO_gatherLike_46 : decode b_MO_gatherLike 46 = .ok (.sipush 8490, 3) := by decide +kernel
theorem d_MO_gatherLike_49 : decode b_MO_gatherLike 49 = .ok (.if_icmp .gt 18, 3) := by decide +kernel
theorem d_MO_gatherLike_52 : decode b_MO_gatherLike 52 = .ok (.iload_n 2, 1) := by decide +kernel
theorem d_MO_gatherLike_53 : decode b_MO_gatherLike 53 = .ok (.sipush 8490, 3) := by decide +kernel
theorem d_MO_gatherLike_56 : decode b_MO_gatherLike 56 = .ok (.if_icmp .lt 11, 3) := by decide +kernel
theorem d_MO_gatherLike_59 : decode b_MO_gatherLike 59 = .ok (.aload_n 0, 1) := by decide +kernel
theorem d_MO_gatherLike_60 : decode b_MO_gatherLike 60 = .ok (.getfield 46, 3) := by decide +kernel
theorem d_MO_gatherLike_63 : decode b_MO_gatherLike 63 = .ok (.bipush 107, 2) := by decide +kernel
theorem d_MO_gatherLike_65 : decode b_MO_gatherLike 65 = .ok (.iconst 1, 1) := by decide +kernel
theorem d_MO_gatherLike_66 : decode b_MO_gatherLike 66 = .ok (.bastore, 1) := by decide +kernel
theorem d_MO_gatherLike_67 : decode b_MO_gatherLike 67 = .ok (.iload_n 1, 1) := by decide +kernel
theorem d_MO_gatherLike_68 : decode b_MO_gatherLike 68 = .ok (.sipush 8491, 3) := by decide +kernel
theorem d_MO_gatherLike_71 : decode b_MO_gatherLike 71 = .ok (.if_icmp .gt 19, 3) := by decide +kernel
theorem d_MO_gatherLike_74 : decode b_MO_gatherLike 74 = .ok (.iload_n 2, 1) := by decide +kernel
theorem d_MO_gatherLike_75 : decode b_MO_gatherLike 75 = .ok (.sipush 8491, 3) := by decide +kernel
theorem d_MO_gatherLike_78 : decode b_MO_gatherLike 78 = .ok (.if_icmp .lt 12, 3) := by decide +kernel
theorem d_MO_gatherLike_81 : decode b_MO_gatherLike 81 = .ok (.aload_n 0, 1) := by decide +kernel
theorem d_MO_gatherLike_82 : decode b_MO_gatherLike 82 = .ok (.getfield 46, 3) := by decide +kernel
theorem d_MO_gatherLike_85 : decode b_MO_gatherLike 85 = .ok (.sipush 229, 3) := by decide +kernel
theorem d_MO_gatherLike_88 : decode b_MO_gatherLike 88 = .ok (.iconst 1, 1) := by decide +kernel
theorem d_MO_gatherLike_89 : decode b_MO_gatherLike 89 = .ok (.bastore, 1) := by decide +kernel
theorem d_MO_gatherLike_90 : decode b_MO_gatherLike 90 = .ok (.return_, 1) := by decide +kernel
theorem d_MO_gatherMarked_0 : decode b_MO_gatherMarked 0 = .ok (.iconst 0, 1) := by decide +kernel
theorem d_MO_gatherMarked_1 : decode b_MO_gatherMarked 1 = .ok (.istore_n 1, 1) := by decide +kernel
theorem d_MO_gatherMarked_2 : decode b_MO_gatherMarked 2 = .ok (.iload_n 1, 1) := by decide +kernel
theorem d_MO_gatherMarked_3 : decode b_MO_gatherMarked 3 = .ok (.sipush 1120, 3) := by decide +kernel
theorem d_MO_gatherMarked_6 : decode b_MO_gatherMarked 6 = .ok (.if_icmp .ge 27, 3) := by decide +kernel
theorem d_MO_gatherMarked_9 : decode b_MO_gatherMarked 9 = .ok (.aload_n 0, 1) := by decide +kernel
theorem d_MO_gatherMarked_10 : decode b_MO_gatherMarked 10 = .ok (.getfield 46, 3) := by decide +kernel
theorem d_MO_gatherMarked_13 : decode b_MO_gatherMarked 13 = .ok (.iload_n 1, 1) := by decide +kernel
theorem d_MO_gatherMarked_14 : decode b_MO_gatherMarked 14 = .ok (.invokestatic 244, 3) := by decide +kernel
theorem d_MO_gatherMarked_17 : decode b_MO_gatherMarked 17 = .ok (.baload, 1) := by decide +kernel
theorem d_MO_gatherMarked_18 : decode b_MO_gatherMarked 18 = .ok (.ifCond .eq 9, 3) := by decide +kernel
theorem d_MO_gatherMarked_21 : decode b_MO_gatherMarked 21 = .ok (.aload_n 0, 1) := by decide +kernel
theorem d_MO_gatherMarked_22 : decode b_MO_gatherMarked 22 = .ok (.iload_n 1, 1) := by decide +kernel
theorem d_MO_gatherMarked_23 : decode b_MO_gatherMarked 23 = .ok (.iload_n 1, 1) := by decide +kernel
theorem d_MO_gatherMarked_24 : decode b_MO_gatherMarked 24 = .ok (.invokevirtual 240, 3) := by decide +kernel
theorem d_MO_gatherMarked_27 : decode b_MO_gatherMarked 27 = .ok (.iinc 1 1, 3) := by decide +kernel
theorem d_MO_gatherMarked_30 : decode b_MO_gatherMarked 30 = .ok (.goto (-28), 3) := by decide +kernel
theorem d_MO_gatherMarked_33 : decode b_MO_gatherMarked 33 = .ok (.aload_n 0, 1) := by decide +kernel
theorem d_MO_gatherMarked_34 : decode b_MO_gatherMarked 34 = .ok (.getfield 46, 3) := by decide +kernel
theorem d_MO_gatherMarked_37 : decode b_MO_gatherMarked 37 = .ok (.bipush 107, 2) := by decide +kernel
theorem d_MO_gatherMarked_39 : decode b_MO_gatherMarked 39 = .ok (.baload, 1) := by decide +kernel
theorem d_MO_gatherMarked_40 : decode b_MO_gatherMarked 40 = .ok (.ifCond .eq 13, 3) := by decide +kernel
theorem d_MO_gatherMarked_43 : decode b_MO_gatherMarked 43 = .ok (.aload_n 0, 1) := by decide +kernel
theorem d_MO_gatherMarked_44 : decode b_MO_gatherMarked 44 = .ok (.sipush 8490, 3) := by decide +kernel
theorem d_MO_gatherMarked_47 : decode b_MO_gatherMarked 47 = .ok (.sipush 8490, 3) := by decide +kernel
theorem d_MO_gatherMarked_50 : decode b_MO_gatherMarked 50 = .ok (.invokevirtual 240, 3) := by decide +kernel
theorem d_MO_gatherMarked_53 : decode b_MO_gatherMarked 53 = .ok (.aload_n 0, 1) := by decide +kernel
theorem d_MO_gatherMarked_54 : decode b_MO_gatherMarked 54 = .ok (.getfield 46, 3) := by decide +kernel
theorem d_MO_gatherMarked_57 : decode b_MO_gatherMarked 57 = .ok (.sipush 229, 3) := by decide +kernel
theorem d_MO_gatherMarked_60 : decode b_MO_gatherMarked 60 = .ok (.baload, 1) := by decide +kernel
theorem d_MO_gatherMarked_61 : decode b_MO_gatherMarked 61 = .ok (.ifCond .eq 13, 3) := by decide +kernel
theorem d_MO_gatherMarked_64 : decode b_MO_gatherMarked 64 = .ok (.aload_n 0, 1) := by decide +kernel
theorem d_MO_gatherMarked_65 : decode b_MO_gatherMarked 65 = .ok (.sipush 8491, 3) := by decide +kernel
theorem d_MO_gatherMarked_68 : decode b_MO_gatherMarked 68 = .ok (.sipush 8491, 3) := by decide +kernel
theorem d_MO_gatherMarked_71 : decode b_MO_gatherMarked 71 = .ok (.invokevirtual 240, 3) := by decide +kernel
theorem d_MO_gatherMarked_74 : decode b_MO_gatherMarked 74 = .ok (.return_, 1) := by decide +kernel
theorem d_MO_gatherNamed_0 : decode b_MO_gatherNamed 0 = .ok (.iconst 0, 1) := by decide +kernel
theorem d_MO_gatherNamed_1 : decode b_MO_gatherNamed 1 = .ok (.istore_n 3, 1) := by decide +kernel
theorem d_MO_gatherNamed_2 : decode b_MO_gatherNamed 2 = .ok (.aload_n 0, 1) := by decide +kernel
theorem d_MO_gatherNamed_3 : decode b_MO_gatherNamed 3 = .ok (.getfield 7, 3) := by decide +kernel
theorem d_MO_gatherNamed_6 : decode b_MO_gatherNamed 6 = .ok (.iload_n 1, 1) := by decide +kernel
theorem d_MO_gatherNamed_7 : decode b_MO_gatherNamed 7 = .ok (.iaload, 1) := by decide +kernel
theorem d_MO_gatherNamed_8 : decode b_MO_gatherNamed 8 = .ok (.istore 4, 2) := by decide +kernel
theorem d_MO_gatherNamed_10 : decode b_MO_gatherNamed 10 = .ok (.iload 4, 2) := by decide +kernel
theorem d_MO_gatherNamed_12 : decode b_MO_gatherNamed 12 = .ok (.aload_n 0, 1) := by decide +kernel
theorem d_MO_gatherNamed_13 : decode b_MO_gatherNamed 13 = .ok (.getfield 7, 3) := by decide +kernel
theorem d_MO_gatherNamed_16 : decode b_MO_gatherNamed 16 = .ok (.iload_n 1, 1) := by decide +kernel
theorem d_MO_gatherNamed_17 : decode b_MO_gatherNamed 17 = .ok (.iconst 1, 1) := by decide +kernel
theorem d_MO_gatherNamed_18 : decode b_MO_gatherNamed 18 = .ok (.iadd, 1) := by decide +kernel
theorem d_MO_gatherNamed_19 : decode b_MO_gatherNamed 19 = .ok (.iaload, 1) := by decide +kernel
theorem d_MO_gatherNamed_20 : decode b_MO_gatherNamed 20 = .ok (.if_icmp .ge 73, 3) := by decide +kernel
theorem d_MO_gatherNamed_23 : decode b_MO_gatherNamed 23 = .ok (.iload_n 2, 1) := by decide +kernel
theorem d_MO_gatherNamed_24 : decode b_MO_gatherNamed 24 = .ok (.ifCond .ne 26, 3) := by decide +kernel
theorem d_MO_gatherNamed_27 : decode b_MO_gatherNamed 27 = .ok (.aload_n 0, 1) := by decide +kernel
theorem d_MO_gatherNamed_28 : decode b_MO_gatherNamed 28 = .ok (.aload_n 0, 1) := by decide +kernel
theorem d_MO_gatherNamed_29 : decode b_MO_gatherNamed 29 = .ok (.getfield 13, 3) := by decide +kernel
theorem d_MO_gatherNamed_32 : decode b_MO_gatherNamed 32 = .ok (.iload 4, 2) := by decide +kernel
theorem d_MO_gatherNamed_34 : decode b_MO_gatherNamed 34 = .ok (.iaload, 1) := by decide +kernel
theorem d_MO_gatherNamed_35 : decode b_MO_gatherNamed 35 = .ok (.aload_n 0, 1) := by decide +kernel
theorem d_MO_gatherNamed_36 : decode b_MO_gatherNamed 36 = .ok (.getfield 13, 3) := by decide +kernel
theorem d_MO_gatherNamed_39 : decode b_MO_gatherNamed 39 = .ok (.iload 4, 2) := by decide +kernel
theorem d_MO_gatherNamed_41 : decode b_MO_gatherNamed 41 = .ok (.iconst 1, 1) := by decide +kernel
theorem d_MO_gatherNamed_42 : decode b_MO_gatherNamed 42 = .ok (.iadd, 1) := by decide +kernel
theorem d_MO_gatherNamed_43 : decode b_MO_gatherNamed 43 = .ok (.iaload, 1) := by decide +kernel
theorem d_MO_gatherNamed_44 : decode b_MO_gatherNamed 44 = .ok (.invokevirtual 240, 3) := by decide +kernel
theorem d_MO_gatherNamed_47 : decode b_MO_gatherNamed 47 = .ok (.goto 28, 3) := by decide +kernel
theorem d_MO_gatherNamed_50 : decode b_MO_gatherNamed 50 = .ok (.aload_n 0, 1) := by decide +kernel
theorem d_MO_gatherNamed_51 : decode b_MO_gatherNamed 51 = .ok (.getfield 13, 3) := by decide +kernel
theorem d_MO_gatherNamed_54 : decode b_MO_gatherNamed 54 = .ok (.iload 4, 2) := by decide +kernel
theorem d_MO_gatherNamed_56 : decode b_MO_gatherNamed 56 = .ok (.iaload, 1) := by decide +kernel
theorem d_MO_gatherNamed_57 : decode b_MO_gatherNamed 57 = .ok (.iload_n 3, 1) := by decide +kernel
theorem d_MO_gatherNamed_58 : decode b_MO_gatherNamed 58 = .ok (.if_icmp .le 17, 3) := by decide +kernel
theorem d_MO_gatherNamed_61 : decode b_MO_gatherNamed 61 = .ok (.aload_n 0, 1) := by decide +kernel
theorem d_MO_gatherNamed_62 : decode b_MO_gatherNamed 62 = .ok (.iload_n 3, 1) := by decide +kernel
theorem d_MO_gatherNamed_63 : decode b_MO_gatherNamed 63 = .ok (.aload_n 0, 1) := by decide +kernel
theorem d_MO_gatherNamed_64 : decode b_MO_gatherNamed 64 = .ok (.getfield 13, 3) := by decide +kernel
theorem d_MO_gatherNamed_67 : decode b_MO_gatherNamed 67 = .ok (.iload 4, 2) := by decide +kernel
theorem d_MO_gatherNamed_69 : decode b_MO_gatherNamed 69 = .ok (.iaload, 1) := by decide +kernel
theorem d_MO_gatherNamed_70 : decode b_MO_gatherNamed 70 = .ok (.iconst 1, 1) := by decide +kernel
theorem d_MO_gatherNamed_71 : decode b_MO_gatherNamed 71 = .ok (.isub, 1) := by decide +kernel
theorem d_MO_gatherNamed_72 : decode b_MO_gatherNamed 72 = .ok (.invokevirtual 240, 3) := by decide +kernel
theorem d_MO_gatherNamed_75 : decode b_MO_gatherNamed 75 = .ok (.aload_n 0, 1) := by decide +kernel
theorem d_MO_gatherNamed_76 : decode b_MO_gatherNamed 76 = .ok (.getfield 13, 3) := by decide +kernel
theorem d_MO_gatherNamed_79 : decode b_MO_gatherNamed 79 = .ok (.iload 4, 2) := by decide +kernel
theorem d_MO_gatherNamed_81 : decode b_MO_gatherNamed 81 = .ok (.iconst 1, 1) := by decide +kernel
theorem d_MO_gatherNamed_82 : decode b_MO_gatherNamed 82 = .ok (.iadd, 1) := by decide +kernel
theorem d_MO_gatherNamed_83 : decode b_MO_gatherNamed 83 = .ok (.iaload, 1) := by decide +kernel
theorem d_MO_gatherNamed_84 : decode b_MO_gatherNamed 84 = .ok (.iconst 1, 1) := by decide +kernel
theorem d_MO_gatherNamed_85 : decode b_MO_gatherNamed 85 = .ok (.iadd, 1) := by decide +kernel
theorem d_MO_gatherNamed_86 : decode b_MO_gatherNamed 86 = .ok (.istore_n 3, 1) := by decide +kernel
theorem d_MO_gatherNamed_87 : decode b_MO_gatherNamed 87 = .ok (.iinc 4 2, 3) := by decide +kernel
theorem d_MO_gatherNamed_90 : decode b_MO_gatherNamed 90 = .ok (.goto (-80), 3) := by decide +kernel
theorem d_MO_gatherNamed_93 : decode b_MO_gatherNamed 93 = .ok (.iload_n 2, 1) := by decide +kernel
theorem d_MO_gatherNamed_94 : decode b_MO_gatherNamed 94 = .ok (.ifCond .eq 10, 3) := by decide +kernel
theorem d_MO_gatherNamed_97 : decode b_MO_gatherNamed 97 = .ok (.aload_n 0, 1) := by decide +kernel
theorem d_MO_gatherNamed_98 : decode b_MO_gatherNamed 98 = .ok (.iload_n 3, 1) := by decide +kernel
theorem d_MO_gatherNamed_99 : decode b_MO_gatherNamed 99 = .ok (.ldc 236, 2) := by decide +kernel
theorem d_MO_gatherNamed_101 : decode b_MO_gatherNamed 101 = .ok (.invokevirtual 240, 3) := by decide +kernel
theorem d_MO_gatherNamed_104 : decode b_MO_gatherNamed 104 = .ok (.return_, 1) := by decide +kernel
theorem d_MO_image_0 : decode b_MO_image 0 = .ok (.iload_n 0, 1) := by decide +kernel
theorem d_MO_image_1 : decode b_MO_image 1 = .ok (.bipush 65, 2) := by decide +kernel
theorem d_MO_image_3 : decode b_MO_image 3 = .ok (.if_icmp .lt 9, 3) := by decide +kernel
theorem d_MO_image_6 : decode b_MO_image 6 = .ok (.iload_n 0, 1) := by decide +kernel
theorem d_MO_image_7 : decode b_MO_image 7 = .ok (.bipush 90, 2) := by decide +kernel
theorem d_MO_image_9 : decode b_MO_image 9 = .ok (.if_icmp .le 52, 3) := by decide +kernel
theorem d_MO_image_12 : decode b_MO_image 12 = .ok (.iload_n 0, 1) := by decide +kernel
theorem d_MO_image_13 : decode b_MO_image 13 = .ok (.sipush 192, 3) := by decide +kernel
theorem d_MO_image_16 : decode b_MO_image 16 = .ok (.if_icmp .lt 17, 3) := by decide +kernel
theorem d_MO_image_19 : decode b_MO_image 19 = .ok (.iload_n 0, 1) := by decide +kernel
theorem d_MO_image_20 : decode b_MO_image 20 = .ok (.sipush 222, 3) := by decide +kernel
theorem d_MO_image_23 : decode b_MO_image 23 = .ok (.if_icmp .gt 10, 3) := by decide +kernel
theorem d_MO_image_26 : decode b_MO_image 26 = .ok (.iload_n 0, 1) := by decide +kernel
theorem d_MO_image_27 : decode b_MO_image 27 = .ok (.sipush 215, 3) := by decide +kernel
theorem d_MO_image_30 : decode b_MO_image 30 = .ok (.if_icmp .ne 31, 3) := by decide +kernel
theorem d_MO_image_33 : decode b_MO_image 33 = .ok (.iload_n 0, 1) := by decide +kernel
theorem d_MO_image_34 : decode b_MO_image 34 = .ok (.sipush 913, 3) := by decide +kernel
theorem d_MO_image_37 : decode b_MO_image 37 = .ok (.if_icmp .lt 10, 3) := by decide +kernel
theorem d_MO_image_40 : decode b_MO_image 40 = .ok (.iload_n 0, 1) := by decide +kernel
theorem d_MO_image_41 : decode b_MO_image 41 = .ok (.sipush 937, 3) := by decide +kernel
theorem d_MO_image_44 : decode b_MO_image 44 = .ok (.if_icmp .le 17, 3) := by decide +kernel
theorem d_MO_image_47 : decode b_MO_image 47 = .ok (.iload_n 0, 1) := by decide +kernel
theorem d_MO_image_48 : decode b_MO_image 48 = .ok (.sipush 1040, 3) := by decide +kernel
theorem d_MO_image_51 : decode b_MO_image 51 = .ok (.if_icmp .lt 17, 3) := by decide +kernel
theorem d_MO_image_54 : decode b_MO_image 54 = .ok (.iload_n 0, 1) := by decide +kernel
theorem d_MO_image_55 : decode b_MO_image 55 = .ok (.sipush 1071, 3) := by decide +kernel
theorem d_MO_image_58 : decode b_MO_image 58 = .ok (.if_icmp .gt 10, 3) := by decide +kernel
theorem d_MO_image_61 : decode b_MO_image 61 = .ok (.iload_n 0, 1) := by decide +kernel
theorem d_MO_image_62 : decode b_MO_image 62 = .ok (.bipush 32, 2) := by decide +kernel
theorem d_MO_image_64 : decode b_MO_image 64 = .ok (.iadd, 1) := by decide +kernel
theorem d_MO_image_65 : decode b_MO_image 65 = .ok (.goto 25, 3) := by decide +kernel
theorem d_MO_image_68 : decode b_MO_image 68 = .ok (.iload_n 0, 1) := by decide +kernel
theorem d_MO_image_69 : decode b_MO_image 69 = .ok (.sipush 1024, 3) := by decide +kernel
theorem d_MO_image_72 : decode b_MO_image 72 = .ok (.if_icmp .lt 17, 3) := by decide +kernel
theorem d_MO_image_75 : decode b_MO_image 75 = .ok (.iload_n 0, 1) := by decide +kernel
theorem d_MO_image_76 : decode b_MO_image 76 = .ok (.sipush 1039, 3) := by decide +kernel
theorem d_MO_image_79 : decode b_MO_image 79 = .ok (.if_icmp .gt 10, 3) := by decide +kernel
theorem d_MO_image_82 : decode b_MO_image 82 = .ok (.iload_n 0, 1) := by decide +kernel
theorem d_MO_image_83 : decode b_MO_image 83 = .ok (.bipush 80, 2) := by decide +kernel
theorem d_MO_image_85 : decode b_MO_image 85 = .ok (.iadd, 1) := by decide +kernel
theorem d_MO_image_86 : decode b_MO_image 86 = .ok (.goto 4, 3) := by decide +kernel
theorem d_MO_image_89 : decode b_MO_image 89 = .ok (.iload_n 0, 1) := by decide +kernel
theorem d_MO_image_90 : decode b_MO_image 90 = .ok (.istore_n 1, 1) := by decide +kernel
theorem d_MO_image_91 : decode b_MO_image 91 = .ok (.iload_n 1, 1) := by decide +kernel
theorem d_MO_image_92 : decode b_MO_image 92 = .ok (.sipush 8490, 3) := by decide +kernel
theorem d_MO_image_95 : decode b_MO_image 95 = .ok (.if_icmp .ne 8, 3) := by decide +kernel
theorem d_MO_image_98 : decode b_MO_image 98 = .ok (.bipush 107, 2) := by decide +kernel
theorem d_MO_image_100 : decode b_MO_image 100 = .ok (.goto 55, 3) := by decide +kernel
theorem d_MO_image_103 : decode b_MO_image 103 = .ok (.iload_n 1, 1) := by decide +kernel
theorem d_MO_image_104 : decode b_MO_image 104 = .ok (.sipush 383, 3) := by decide +kernel
theorem d_MO_image_107 : decode b_MO_image 107 = .ok (.if_icmp .ne 8, 3) := by decide +kernel
theorem d_MO_image_110 : decode b_MO_image 110 = .ok (.bipush 115, 2) := by decide +kernel
theorem d_MO_image_112 : decode b_MO_image 112 = .ok (.goto 43, 3) := by decide +kernel
theorem d_MO_image_115 : decode b_MO_image 115 = .ok (.iload_n 1, 1) := by decide +kernel
theorem d_MO_image_116 : decode b_MO_image 116 = .ok (.sipush 8491, 3) := by decide +kernel
theorem d_MO_image_119 : decode b_MO_image 119 = .ok (.if_icmp .ne 9, 3) := by decide +kernel
theorem d_MO_image_122 : decode b_MO_image 122 = .ok (.sipush 229, 3) := by decide +kernel
theorem d_MO_image_125 : decode b_MO_image 125 = .ok (.goto 30, 3) := by decide +kernel
theorem d_MO_image_128 : decode b_MO_image 128 = .ok (.iload_n 1, 1) := by decide +kernel
theorem d_MO_image_129 : decode b_MO_image 129 = .ok (.sipush 181, 3) := by decide +kernel
theorem d_MO_image_132 : decode b_MO_image 132 = .ok (.if_icmp .ne 9, 3) := by decide +kernel
theorem d_MO_image_135 : decode b_MO_image 135 = .ok (.sipush 956, 3) := by decide +kernel
theorem d_MO_image_138 : decode b_MO_image 138 = .ok (.goto 17, 3) := by decide +kernel
theorem d_MO_image_141 : decode b_MO_image 141 = .ok (.iload_n 1, 1) := by decide +kernel
theorem d_MO_image_142 : decode b_MO_image 142 = .ok (.sipush 962, 3) := by decide +kernel
theorem d_MO_image_145 : decode b_MO_image 145 = .ok (.if_icmp .ne 9, 3) := by decide +kernel
theorem d_MO_image_148 : decode b_MO_image 148 = .ok (.sipush 963, 3) := by decide +kernel
theorem d_MO_image_151 : decode b_MO_image 151 = .ok (.goto 4, 3) := by decide +kernel
theorem d_MO_image_154 : decode b_MO_image 154 = .ok (.iload_n 1, 1) := by decide +kernel
theorem d_MO_image_155 : decode b_MO_image 155 = .ok (.ireturn, 1) := by decide +kernel
theorem d_MO_store_0 : decode b_MO_store 0 = .ok (.iload_n 1, 1) := by decide +kernel
theorem d_MO_store_1 : decode b_MO_store 1 = .ok (.iload_n 2, 1) := by decide +kernel
theorem d_MO_store_2 : decode b_MO_store 2 = .ok (.if_icmp .le 4, 3) := by decide +kernel
theorem d_MO_store_5 : decode b_MO_store 5 = .ok (.return_, 1) := by decide +kernel
theorem d_MO_store_6 : decode b_MO_store 6 = .ok (.aload_n 0, 1) := by decide +kernel
theorem d_MO_store_7 : decode b_MO_store 7 = .ok (.getfield 40, 3) := by decide +kernel
theorem d_MO_store_10 : decode b_MO_store 10 = .ok (.aload_n 0, 1) := by decide +kernel
theorem d_MO_store_11 : decode b_MO_store 11 = .ok (.getfield 248, 3) := by decide +kernel
theorem d_MO_store_14 : decode b_MO_store 14 = .ok (.iload_n 1, 1) := by decide +kernel
theorem d_MO_store_15 : decode b_MO_store 15 = .ok (.iastore, 1) := by decide +kernel
theorem d_MO_store_16 : decode b_MO_store 16 = .ok (.aload_n 0, 1) := by decide +kernel
theorem d_MO_store_17 : decode b_MO_store 17 = .ok (.getfield 43, 3) := by decide +kernel
theorem d_MO_store_20 : decode b_MO_store 20 = .ok (.aload_n 0, 1) := by decide +kernel
theorem d_MO_store_21 : decode b_MO_store 21 = .ok (.getfield 248, 3) := by decide +kernel
theorem d_MO_store_24 : decode b_MO_store 24 = .ok (.iload_n 2, 1) := by decide +kernel
theorem d_MO_store_25 : decode b_MO_store 25 = .ok (.iastore, 1) := by decide +kernel
theorem d_MO_store_26 : decode b_MO_store 26 = .ok (.aload_n 0, 1) := by decide +kernel
theorem d_MO_store_27 : decode b_MO_store 27 = .ok (.dup, 1) := by decide +kernel
theorem d_MO_store_28 : decode b_MO_store 28 = .ok (.getfield 248, 3) := by decide +kernel
theorem d_MO_store_31 : decode b_MO_store 31 = .ok (.iconst 1, 1) := by decide +kernel
theorem d_MO_store_32 : decode b_MO_store 32 = .ok (.iadd, 1) := by decide +kernel
theorem d_MO_store_33 : decode b_MO_store 33 = .ok (.putfield 248, 3) := by decide +kernel
theorem d_MO_store_36 : decode b_MO_store 36 = .ok (.return_, 1) := by decide +kernel
theorem d_MO_storeCut_0 : decode b_MO_storeCut 0 = .ok (.aload_n 0, 1) := by decide +kernel
theorem d_MO_storeCut_1 : decode b_MO_storeCut 1 = .ok (.iload_n 1, 1) := by decide +kernel
theorem d_MO_storeCut_2 : decode b_MO_storeCut 2 = .ok (.iload_n 2, 1) := by decide +kernel
theorem d_MO_storeCut_3 : decode b_MO_storeCut 3 = .ok (.ldc 233, 2) := by decide +kernel
theorem d_MO_storeCut_5 : decode b_MO_storeCut 5 = .ok (.if_icmp .ge 7, 3) := by decide +kernel
theorem d_MO_storeCut_8 : decode b_MO_storeCut 8 = .ok (.iload_n 2, 1) := by decide +kernel
theorem d_MO_storeCut_9 : decode b_MO_storeCut 9 = .ok (.goto 5, 3) := by decide +kernel
theorem d_MO_storeCut_12 : decode b_MO_storeCut 12 = .ok (.ldc 251, 2) := by decide +kernel
theorem d_MO_storeCut_14 : decode b_MO_storeCut 14 = .ok (.invokevirtual 252, 3) := by decide +kernel
theorem d_MO_storeCut_17 : decode b_MO_storeCut 17 = .ok (.aload_n 0, 1) := by decide +kernel
theorem d_MO_storeCut_18 : decode b_MO_storeCut 18 = .ok (.iload_n 1, 1) := by decide +kernel
theorem d_MO_storeCut_19 : decode b_MO_storeCut 19 = .ok (.ldc 234, 2) := by decide +kernel
theorem d_MO_storeCut_21 : decode b_MO_storeCut 21 = .ok (.if_icmp .le 7, 3) := by decide +kernel
theorem d_MO_storeCut_24 : decode b_MO_storeCut 24 = .ok (.iload_n 1, 1) := by decide +kernel
theorem d_MO_storeCut_25 : decode b_MO_storeCut 25 = .ok (.goto 5, 3) := by decide +kernel
theorem d_MO_storeCut_28 : decode b_MO_storeCut 28 = .ok (.ldc 234, 2) := by decide +kernel
theorem d_MO_storeCut_30 : decode b_MO_storeCut 30 = .ok (.iload_n 2, 1) := by decide +kernel
theorem d_MO_storeCut_31 : decode b_MO_storeCut 31 = .ok (.invokevirtual 252, 3) := by decide +kernel
theorem d_MO_storeCut_34 : decode b_MO_storeCut 34 = .ok (.return_, 1) := by decide +kernel
