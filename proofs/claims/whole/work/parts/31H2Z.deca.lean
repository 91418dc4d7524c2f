theorem d_RD_part_0 : decode b_RD_part 0 = .ok (.aload_n 0, 1) := by decide +kernel
theorem d_RD_part_1 : decode b_RD_part 1 = .ok (.getfield 12, 3) := by decide +kernel
theorem d_RD_part_4 : decode b_RD_part 4 = .ok (.getfield 55, 3) := by decide +kernel
theorem d_RD_part_7 : decode b_RD_part 7 = .ok (.istore_n 1, 1) := by decide +kernel
theorem d_RD_part_8 : decode b_RD_part 8 = .ok (.aload_n 0, 1) := by decide +kernel
theorem d_RD_part_9 : decode b_RD_part 9 = .ok (.getfield 12, 3) := by decide +kernel
theorem d_RD_part_12 : decode b_RD_part 12 = .ok (.iconst 0, 1) := by decide +kernel
theorem d_RD_part_13 : decode b_RD_part 13 = .ok (.invokevirtual 79, 3) := by decide +kernel
theorem d_RD_part_16 : decode b_RD_part 16 = .ok (.lookupswitch 274 #[(36, 204), (40, 120), (41, 127), (46, 132), (91, 103), (92, 76), (94, 167), (124, 241)], 76) := by decide +kernel
theorem d_RD_part_92 : decode b_RD_part 92 = .ok (.aload_n 0, 1) := by decide +kernel
theorem d_RD_part_93 : decode b_RD_part 93 = .ok (.getfield 12, 3) := by decide +kernel
theorem d_RD_part_96 : decode b_RD_part 96 = .ok (.invokevirtual 83, 3) := by decide +kernel
theorem d_RD_part_99 : decode b_RD_part 99 = .ok (.istore_n 2, 1) := by decide +kernel
theorem d_RD_part_100 : decode b_RD_part 100 = .ok (.iload_n 2, 1) := by decide +kernel
theorem d_RD_part_101 : decode b_RD_part 101 = .ok (.iconst (-1), 1) := by decide +kernel
theorem d_RD_part_102 : decode b_RD_part 102 = .ok (.if_icmp .lt 11, 3) := by decide +kernel
theorem d_RD_part_105 : decode b_RD_part 105 = .ok (.aload_n 0, 1) := by decide +kernel
theorem d_RD_part_106 : decode b_RD_part 106 = .ok (.iload_n 2, 1) := by decide +kernel
theorem d_RD_part_107 : decode b_RD_part 107 = .ok (.invokevirtual 87, 3) := by decide +kernel
theorem d_RD_part_110 : decode b_RD_part 110 = .ok (.goto 8, 3) := by decide +kernel
theorem d_RD_part_113 : decode b_RD_part 113 = .ok (.aload_n 0, 1) := by decide +kernel
theorem d_RD_part_114 : decode b_RD_part 114 = .ok (.iload_n 2, 1) := by decide +kernel
theorem d_RD_part_115 : decode b_RD_part 115 = .ok (.invokevirtual 91, 3) := by decide +kernel
theorem d_RD_part_118 : decode b_RD_part 118 = .ok (.areturn, 1) := by decide +kernel
theorem d_RD_part_119 : decode b_RD_part 119 = .ok (.aload_n 0, 1) := by decide +kernel
theorem d_RD_part_120 : decode b_RD_part 120 = .ok (.aload_n 0, 1) := by decide +kernel
theorem d_RD_part_121 : decode b_RD_part 121 = .ok (.getfield 12, 3) := by decide +kernel
theorem d_RD_part_124 : decode b_RD_part 124 = .ok (.aload_n 0, 1) := by decide +kernel
theorem d_RD_part_125 : decode b_RD_part 125 = .ok (.iconst 1, 1) := by decide +kernel
theorem d_RD_part_126 : decode b_RD_part 126 = .ok (.invokevirtual 94, 3) := by decide +kernel
theorem d_RD_part_129 : decode b_RD_part 129 = .ok (.invokevirtual 98, 3) := by decide +kernel
theorem d_RD_part_132 : decode b_RD_part 132 = .ok (.invokevirtual 102, 3) := by decide +kernel
theorem d_RD_part_135 : decode b_RD_part 135 = .ok (.areturn, 1) := by decide +kernel
theorem d_RD_part_136 : decode b_RD_part 136 = .ok (.aload_n 0, 1) := by decide +kernel
theorem d_RD_part_137 : decode b_RD_part 137 = .ok (.iload_n 1, 1) := by decide +kernel
theorem d_RD_part_138 : decode b_RD_part 138 = .ok (.invokevirtual 106, 3) := by decide +kernel
theorem d_RD_part_141 : decode b_RD_part 141 = .ok (.aconst_null, 1) := by decide +kernel
theorem d_RD_part_142 : decode b_RD_part 142 = .ok (.areturn, 1) := by decide +kernel
theorem d_RD_part_143 : decode b_RD_part 143 = .ok (.aload_n 0, 1) := by decide +kernel
theorem d_RD_part_144 : decode b_RD_part 144 = .ok (.invokevirtual 110, 3) := by decide +kernel
theorem d_RD_part_147 : decode b_RD_part 147 = .ok (.areturn, 1) := by decide +kernel
theorem d_RD_part_148 : decode b_RD_part 148 = .ok (.aload_n 0, 1) := by decide +kernel
theorem d_RD_part_149 : decode b_RD_part 149 = .ok (.getfield 12, 3) := by decide +kernel
theorem d_RD_part_152 : decode b_RD_part 152 = .ok (.dup, 1) := by decide +kernel
theorem d_RD_part_153 : decode b_RD_part 153 = .ok (.getfield 55, 3) := by decide +kernel
theorem d_RD_part_156 : decode b_RD_part 156 = .ok (.iconst 1, 1) := by decide +kernel
theorem d_RD_part_157 : decode b_RD_part 157 = .ok (.iadd, 1) := by decide +kernel
theorem d_RD_part_158 : decode b_RD_part 158 = .ok (.putfield 55, 3) := by decide +kernel
theorem d_RD_part_161 : decode b_RD_part 161 = .ok (.aload_n 0, 1) := by decide +kernel
theorem d_RD_part_162 : decode b_RD_part 162 = .ok (.aload_n 0, 1) := by decide +kernel
theorem d_RD_part_163 : decode b_RD_part 163 = .ok (.iconst 4, 1) := by decide +kernel
theorem d_RD_part_164 : decode b_RD_part 164 = .ok (.invokevirtual 94, 3) := by decide +kernel
theorem d_RD_part_167 : decode b_RD_part 167 = .ok (.ifCond .eq 9, 3) := by decide +kernel
theorem d_RD_part_170 : decode b_RD_part 170 = .ok (.getstatic 113, 3) := by decide +kernel
theorem d_RD_part_173 : decode b_RD_part 173 = .ok (.goto 6, 3) := by decide +kernel
theorem d_RD_part_176 : decode b_RD_part 176 = .ok (.getstatic 116, 3) := by decide +kernel
theorem d_RD_part_179 : decode b_RD_part 179 = .ok (.invokevirtual 102, 3) := by decide +kernel
theorem d_RD_part_182 : decode b_RD_part 182 = .ok (.areturn, 1) := by decide +kernel
theorem d_RD_part_183 : decode b_RD_part 183 = .ok (.aload_n 0, 1) := by decide +kernel
theorem d_RD_part_184 : decode b_RD_part 184 = .ok (.getfield 12, 3) := by decide +kernel
theorem d_RD_part_187 : decode b_RD_part 187 = .ok (.dup, 1) := by decide +kernel
theorem d_RD_part_188 : decode b_RD_part 188 = .ok (.getfield 55, 3) := by decide +kernel
theorem d_RD_part_191 : decode b_RD_part 191 = .ok (.iconst 1, 1) := by decide +kernel
theorem d_RD_part_192 : decode b_RD_part 192 = .ok (.iadd, 1) := by decide +kernel
theorem d_RD_part_193 : decode b_RD_part 193 = .ok (.putfield 55, 3) := by decide +kernel
theorem d_RD_part_196 : decode b_RD_part 196 = .ok (.new 18, 3) := by decide +kernel
theorem d_RD_part_199 : decode b_RD_part 199 = .ok (.dup, 1) := by decide +kernel
theorem d_RD_part_200 : decode b_RD_part 200 = .ok (.iconst 3, 1) := by decide +kernel
theorem d_RD_part_201 : decode b_RD_part 201 = .ok (.aload_n 0, 1) := by decide +kernel
theorem d_RD_part_202 : decode b_RD_part 202 = .ok (.iconst 2, 1) := by decide +kernel
theorem d_RD_part_203 : decode b_RD_part 203 = .ok (.invokevirtual 94, 3) := by decide +kernel
theorem d_RD_part_206 : decode b_RD_part 206 = .ok (.ifCond .eq 7, 3) := by decide +kernel
theorem d_RD_part_209 : decode b_RD_part 209 = .ok (.iconst 2, 1) := by decide +kernel
theorem d_RD_part_210 : decode b_RD_part 210 = .ok (.goto 4, 3) := by decide +kernel
theorem d_RD_part_213 : decode b_RD_part 213 = .ok (.iconst 0, 1) := by decide +kernel
theorem d_RD_part_214 : decode b_RD_part 214 = .ok (.iconst 1, 1) := by decide +kernel
theorem d_RD_part_215 : decode b_RD_part 215 = .ok (.iconst 1, 1) := by decide +kernel
theorem d_RD_part_216 : decode b_RD_part 216 = .ok (.invokespecial 20, 3) := by decide +kernel
theorem d_RD_part_219 : decode b_RD_part 219 = .ok (.areturn, 1) := by decide +kernel
theorem d_RD_part_220 : decode b_RD_part 220 = .ok (.aload_n 0, 1) := by decide +kernel
theorem d_RD_part_221 : decode b_RD_part 221 = .ok (.getfield 12, 3) := by decide +kernel
theorem d_RD_part_224 : decode b_RD_part 224 = .ok (.dup, 1) := by decide +kernel
theorem d_RD_part_225 : decode b_RD_part 225 = .ok (.getfield 55, 3) := by decide +kernel
theorem d_RD_part_228 : decode b_RD_part 228 = .ok (.iconst 1, 1) := by decide +kernel
theorem d_RD_part_229 : decode b_RD_part 229 = .ok (.iadd, 1) := by decide +kernel
theorem d_RD_part_230 : decode b_RD_part 230 = .ok (.putfield 55, 3) := by decide +kernel
theorem d_RD_part_233 : decode b_RD_part 233 = .ok (.new 18, 3) := by decide +kernel
theorem d_RD_part_236 : decode b_RD_part 236 = .ok (.dup, 1) := by decide +kernel
theorem d_RD_part_237 : decode b_RD_part 237 = .ok (.iconst 3, 1) := by decide +kernel
theorem d_RD_part_238 : decode b_RD_part 238 = .ok (.aload_n 0, 1) := by decide +kernel
theorem d_RD_part_239 : decode b_RD_part 239 = .ok (.iconst 2, 1) := by decide +kernel
theorem d_RD_part_240 : decode b_RD_part 240 = .ok (.invokevirtual 94, 3) := by decide +kernel
theorem d_RD_part_243 : decode b_RD_part 243 = .ok (.ifCond .eq 7, 3) := by decide +kernel
theorem d_RD_part_246 : decode b_RD_part 246 = .ok (.iconst 3, 1) := by decide +kernel
theorem d_RD_part_247 : decode b_RD_part 247 = .ok (.goto 4, 3) := by decide +kernel
theorem d_RD_part_250 : decode b_RD_part 250 = .ok (.iconst 1, 1) := by decide +kernel
theorem d_RD_part_251 : decode b_RD_part 251 = .ok (.iconst 1, 1) := by decide +kernel
theorem d_RD_part_252 : decode b_RD_part 252 = .ok (.iconst 1, 1) := by decide +kernel
theorem d_RD_part_253 : decode b_RD_part 253 = .ok (.invokespecial 20, 3) := by decide +kernel
theorem d_RD_part_256 : decode b_RD_part 256 = .ok (.areturn, 1) := by decide +kernel
theorem d_RD_part_257 : decode b_RD_part 257 = .ok (.aload_n 0, 1) := by decide +kernel
theorem d_RD_part_258 : decode b_RD_part 258 = .ok (.getfield 12, 3) := by decide +kernel
theorem d_RD_part_261 : decode b_RD_part 261 = .ok (.dup, 1) := by decide +kernel
theorem d_RD_part_262 : decode b_RD_part 262 = .ok (.getfield 55, 3) := by decide +kernel
theorem d_RD_part_265 : decode b_RD_part 265 = .ok (.iconst 1, 1) := by decide +kernel
theorem d_RD_part_266 : decode b_RD_part 266 = .ok (.iadd, 1) := by decide +kernel
theorem d_RD_part_267 : decode b_RD_part 267 = .ok (.putfield 55, 3) := by decide +kernel
theorem d_RD_part_270 : decode b_RD_part 270 = .ok (.aload_n 0, 1) := by decide +kernel
theorem d_RD_part_271 : decode b_RD_part 271 = .ok (.getfield 23, 3) := by decide +kernel
theorem d_RD_part_274 : decode b_RD_part 274 = .ok (.new 18, 3) := by decide +kernel
theorem d_RD_part_277 : decode b_RD_part 277 = .ok (.dup, 1) := by decide +kernel
theorem d_RD_part_278 : decode b_RD_part 278 = .ok (.iconst 5, 1) := by decide +kernel
theorem d_RD_part_279 : decode b_RD_part 279 = .ok (.iconst 0, 1) := by decide +kernel
theorem d_RD_part_280 : decode b_RD_part 280 = .ok (.iconst 0, 1) := by decide +kernel
theorem d_RD_part_281 : decode b_RD_part 281 = .ok (.iconst 1, 1) := by decide +kernel
theorem d_RD_part_282 : decode b_RD_part 282 = .ok (.invokespecial 20, 3) := by decide +kernel
theorem d_RD_part_285 : decode b_RD_part 285 = .ok (.invokevirtual 48, 3) := by decide +kernel
theorem d_RD_part_288 : decode b_RD_part 288 = .ok (.aconst_null, 1) := by decide +kernel
theorem d_RD_part_289 : decode b_RD_part 289 = .ok (.areturn, 1) := by decide +kernel
theorem d_RD_part_290 : decode b_RD_part 290 = .ok (.aload_n 0, 1) := by decide +kernel
theorem d_RD_part_291 : decode b_RD_part 291 = .ok (.invokevirtual 119, 3) := by decide +kernel
theorem d_RD_part_294 : decode b_RD_part 294 = .ok (.ifCond .eq 16, 3) := by decide +kernel
theorem d_RD_part_297 : decode b_RD_part 297 = .ok (.aload_n 0, 1) := by decide +kernel
theorem d_RD_part_298 : decode b_RD_part 298 = .ok (.getfield 12, 3) := by decide +kernel
theorem d_RD_part_301 : decode b_RD_part 301 = .ok (.bipush 8, 2) := by decide +kernel
theorem d_RD_part_303 : decode b_RD_part 303 = .ok (.iload_n 1, 1) := by decide +kernel
theorem d_RD_part_304 : decode b_RD_part 304 = .ok (.invokevirtual 69, 3) := by decide +kernel
theorem d_RD_part_307 : decode b_RD_part 307 = .ok (.pop, 1) := by decide +kernel
theorem d_RD_part_308 : decode b_RD_part 308 = .ok (.aconst_null, 1) := by decide +kernel
theorem d_RD_part_309 : decode b_RD_part 309 = .ok (.areturn, 1) := by decide +kernel
theorem d_RD_part_310 : decode b_RD_part 310 = .ok (.aload_n 0, 1) := by decide +kernel
theorem d_RD_part_311 : decode b_RD_part 311 = .ok (.aload_n 0, 1) := by decide +kernel
theorem d_RD_part_312 : decode b_RD_part 312 = .ok (.getfield 12, 3) := by decide +kernel
theorem d_RD_part_315 : decode b_RD_part 315 = .ok (.invokevirtual 123, 3) := by decide +kernel
theorem d_RD_part_318 : decode b_RD_part 318 = .ok (.invokevirtual 87, 3) := by decide +kernel
theorem d_RD_part_321 : decode b_RD_part 321 = .ok (.areturn, 1) := by decide +kernel
