theorem d_MO_lastEnd_0 : decode b_MO_lastEnd 0 = .ok (.aload_n 0, 1) := by decide +kernel
theorem d_MO_lastEnd_1 : decode b_MO_lastEnd 1 = .ok (.getfield 124, 3) := by decide +kernel
theorem d_MO_lastEnd_4 : decode b_MO_lastEnd 4 = .ok (.iload_n 1, 1) := by decide +kernel
theorem d_MO_lastEnd_5 : decode b_MO_lastEnd 5 = .ok (.iaload, 1) := by decide +kernel
theorem d_MO_lastEnd_6 : decode b_MO_lastEnd 6 = .ok (.istore_n 3, 1) := by decide +kernel
theorem d_MO_lastEnd_7 : decode b_MO_lastEnd 7 = .ok (.sipush 196, 3) := by decide +kernel
theorem d_MO_lastEnd_10 : decode b_MO_lastEnd 10 = .ok (.iload_n 2, 1) := by decide +kernel
theorem d_MO_lastEnd_11 : decode b_MO_lastEnd 11 = .ok (.imul, 1) := by decide +kernel
theorem d_MO_lastEnd_12 : decode b_MO_lastEnd 12 = .ok (.istore 4, 2) := by decide +kernel
theorem d_MO_lastEnd_14 : decode b_MO_lastEnd 14 = .ok (.iload 4, 2) := by decide +kernel
theorem d_MO_lastEnd_16 : decode b_MO_lastEnd 16 = .ok (.sipush 196, 3) := by decide +kernel
theorem d_MO_lastEnd_19 : decode b_MO_lastEnd 19 = .ok (.iload_n 2, 1) := by decide +kernel
theorem d_MO_lastEnd_20 : decode b_MO_lastEnd 20 = .ok (.iconst 1, 1) := by decide +kernel
theorem d_MO_lastEnd_21 : decode b_MO_lastEnd 21 = .ok (.iadd, 1) := by decide +kernel
theorem d_MO_lastEnd_22 : decode b_MO_lastEnd 22 = .ok (.imul, 1) := by decide +kernel
theorem d_MO_lastEnd_23 : decode b_MO_lastEnd 23 = .ok (.if_icmp .ge 17, 3) := by decide +kernel
theorem d_MO_lastEnd_26 : decode b_MO_lastEnd 26 = .ok (.aload_n 0, 1) := by decide +kernel
theorem d_MO_lastEnd_27 : decode b_MO_lastEnd 27 = .ok (.getfield 184, 3) := by decide +kernel
theorem d_MO_lastEnd_30 : decode b_MO_lastEnd 30 = .ok (.iload 4, 2) := by decide +kernel
theorem d_MO_lastEnd_32 : decode b_MO_lastEnd 32 = .ok (.lconst 0, 1) := by decide +kernel
theorem d_MO_lastEnd_33 : decode b_MO_lastEnd 33 = .ok (.lastore, 1) := by decide +kernel
theorem d_MO_lastEnd_34 : decode b_MO_lastEnd 34 = .ok (.iinc 4 1, 3) := by decide +kernel
theorem d_MO_lastEnd_37 : decode b_MO_lastEnd 37 = .ok (.goto (-23), 3) := by decide +kernel
theorem d_MO_lastEnd_40 : decode b_MO_lastEnd 40 = .ok (.aload_n 0, 1) := by decide +kernel
theorem d_MO_lastEnd_41 : decode b_MO_lastEnd 41 = .ok (.getfield 184, 3) := by decide +kernel
theorem d_MO_lastEnd_44 : decode b_MO_lastEnd 44 = .ok (.iload_n 2, 1) := by decide +kernel
theorem d_MO_lastEnd_45 : decode b_MO_lastEnd 45 = .ok (.aload_n 0, 1) := by decide +kernel
theorem d_MO_lastEnd_46 : decode b_MO_lastEnd 46 = .ok (.getfield 112, 3) := by decide +kernel
theorem d_MO_lastEnd_49 : decode b_MO_lastEnd 49 = .ok (.iload_n 1, 1) := by decide +kernel
theorem d_MO_lastEnd_50 : decode b_MO_lastEnd 50 = .ok (.iaload, 1) := by decide +kernel
theorem d_MO_lastEnd_51 : decode b_MO_lastEnd 51 = .ok (.invokestatic 536, 3) := by decide +kernel
theorem d_MO_lastEnd_54 : decode b_MO_lastEnd 54 = .ok (.iconst (-1), 1) := by decide +kernel
theorem d_MO_lastEnd_55 : decode b_MO_lastEnd 55 = .ok (.istore 4, 2) := by decide +kernel
theorem d_MO_lastEnd_57 : decode b_MO_lastEnd 57 = .ok (.iload_n 2, 1) := by decide +kernel
theorem d_MO_lastEnd_58 : decode b_MO_lastEnd 58 = .ok (.istore 5, 2) := by decide +kernel
theorem d_MO_lastEnd_60 : decode b_MO_lastEnd 60 = .ok (.iload_n 2, 1) := by decide +kernel
theorem d_MO_lastEnd_61 : decode b_MO_lastEnd 61 = .ok (.istore 6, 2) := by decide +kernel
theorem d_MO_lastEnd_63 : decode b_MO_lastEnd 63 = .ok (.iload_n 2, 1) := by decide +kernel
theorem d_MO_lastEnd_64 : decode b_MO_lastEnd 64 = .ok (.istore 7, 2) := by decide +kernel
theorem d_MO_lastEnd_66 : decode b_MO_lastEnd 66 = .ok (.iload 7, 2) := by decide +kernel
theorem d_MO_lastEnd_68 : decode b_MO_lastEnd 68 = .ok (.iload 6, 2) := by decide +kernel
theorem d_MO_lastEnd_70 : decode b_MO_lastEnd 70 = .ok (.if_icmp .gt 396, 3) := by decide +kernel
theorem d_MO_lastEnd_73 : decode b_MO_lastEnd 73 = .ok (.iload 5, 2) := by decide +kernel
theorem d_MO_lastEnd_75 : decode b_MO_lastEnd 75 = .ok (.aload_n 0, 1) := by decide +kernel
theorem d_MO_lastEnd_76 : decode b_MO_lastEnd 76 = .ok (.getfield 510, 3) := by decide +kernel
theorem d_MO_lastEnd_79 : decode b_MO_lastEnd 79 = .ok (.if_icmp .ge 50, 3) := by decide +kernel
theorem d_MO_lastEnd_82 : decode b_MO_lastEnd 82 = .ok (.iload 5, 2) := by decide +kernel
theorem d_MO_lastEnd_84 : decode b_MO_lastEnd 84 = .ok (.iload 7, 2) := by decide +kernel
theorem d_MO_lastEnd_86 : decode b_MO_lastEnd 86 = .ok (.iconst 4, 1) := by decide +kernel
theorem d_MO_lastEnd_87 : decode b_MO_lastEnd 87 = .ok (.iadd, 1) := by decide +kernel
theorem d_MO_lastEnd_88 : decode b_MO_lastEnd 88 = .ok (.if_icmp .ge 41, 3) := by decide +kernel
theorem d_MO_lastEnd_91 : decode b_MO_lastEnd 91 = .ok (.iinc 5 1, 3) := by decide +kernel
theorem d_MO_lastEnd_94 : decode b_MO_lastEnd 94 = .ok (.iconst 0, 1) := by decide +kernel
theorem d_MO_lastEnd_95 : decode b_MO_lastEnd 95 = .ok (.istore 8, 2) := by decide +kernel
theorem d_MO_lastEnd_97 : decode b_MO_lastEnd 97 = .ok (.iload 8, 2) := by decide +kernel
theorem d_MO_lastEnd_99 : decode b_MO_lastEnd 99 = .ok (.sipush 196, 3) := by decide +kernel
theorem d_MO_lastEnd_102 : decode b_MO_lastEnd 102 = .ok (.if_icmp .ge 24, 3) := by decide +kernel
theorem d_MO_lastEnd_105 : decode b_MO_lastEnd 105 = .ok (.aload_n 0, 1) := by decide +kernel
theorem d_MO_lastEnd_106 : decode b_MO_lastEnd 106 = .ok (.getfield 184, 3) := by decide +kernel
theorem d_MO_lastEnd_109 : decode b_MO_lastEnd 109 = .ok (.sipush 196, 3) := by decide +kernel
theorem d_MO_lastEnd_112 : decode b_MO_lastEnd 112 = .ok (.iload 5, 2) := by decide +kernel
theorem d_MO_lastEnd_114 : decode b_MO_lastEnd 114 = .ok (.imul, 1) := by decide +kernel
theorem d_MO_lastEnd_115 : decode b_MO_lastEnd 115 = .ok (.iload 8, 2) := by decide +kernel
theorem d_MO_lastEnd_117 : decode b_MO_lastEnd 117 = .ok (.iadd, 1) := by decide +kernel
theorem d_MO_lastEnd_118 : decode b_MO_lastEnd 118 = .ok (.lconst 0, 1) := by decide +kernel
theorem d_MO_lastEnd_119 : decode b_MO_lastEnd 119 = .ok (.lastore, 1) := by decide +kernel
theorem d_MO_lastEnd_120 : decode b_MO_lastEnd 120 = .ok (.iinc 8 1, 3) := by decide +kernel
theorem d_MO_lastEnd_123 : decode b_MO_lastEnd 123 = .ok (.goto (-26), 3) := by decide +kernel
theorem d_MO_lastEnd_126 : decode b_MO_lastEnd 126 = .ok (.goto (-53), 3) := by decide +kernel
theorem d_MO_lastEnd_129 : decode b_MO_lastEnd 129 = .ok (.aload_n 0, 1) := by decide +kernel
theorem d_MO_lastEnd_130 : decode b_MO_lastEnd 130 = .ok (.iload 7, 2) := by decide +kernel
theorem d_MO_lastEnd_132 : decode b_MO_lastEnd 132 = .ok (.invokevirtual 522, 3) := by decide +kernel
theorem d_MO_lastEnd_135 : decode b_MO_lastEnd 135 = .ok (.iconst 1, 1) := by decide +kernel
theorem d_MO_lastEnd_136 : decode b_MO_lastEnd 136 = .ok (.istore 8, 2) := by decide +kernel
theorem d_MO_lastEnd_138 : decode b_MO_lastEnd 138 = .ok (.iload 8, 2) := by decide +kernel
theorem d_MO_lastEnd_140 : decode b_MO_lastEnd 140 = .ok (.ifCond .eq 195, 3) := by decide +kernel
theorem d_MO_lastEnd_143 : decode b_MO_lastEnd 143 = .ok (.iconst 0, 1) := by decide +kernel
theorem d_MO_lastEnd_144 : decode b_MO_lastEnd 144 = .ok (.istore 8, 2) := by decide +kernel
theorem d_MO_lastEnd_146 : decode b_MO_lastEnd 146 = .ok (.iconst 0, 1) := by decide +kernel
theorem d_MO_lastEnd_147 : decode b_MO_lastEnd 147 = .ok (.istore 9, 2) := by decide +kernel
theorem d_MO_lastEnd_149 : decode b_MO_lastEnd 149 = .ok (.iload 9, 2) := by decide +kernel
theorem d_MO_lastEnd_151 : decode b_MO_lastEnd 151 = .ok (.iload_n 3, 1) := by decide +kernel
theorem d_MO_lastEnd_152 : decode b_MO_lastEnd 152 = .ok (.if_icmp .ge 180, 3) := by decide +kernel
theorem d_MO_lastEnd_155 : decode b_MO_lastEnd 155 = .ok (.sipush 12500, 3) := by decide +kernel
theorem d_MO_lastEnd_158 : decode b_MO_lastEnd 158 = .ok (.iload_n 1, 1) := by decide +kernel
theorem d_MO_lastEnd_159 : decode b_MO_lastEnd 159 = .ok (.imul, 1) := by decide +kernel
theorem d_MO_lastEnd_160 : decode b_MO_lastEnd 160 = .ok (.iload 9, 2) := by decide +kernel
theorem d_MO_lastEnd_162 : decode b_MO_lastEnd 162 = .ok (.iadd, 1) := by decide +kernel
theorem d_MO_lastEnd_163 : decode b_MO_lastEnd 163 = .ok (.istore 10, 2) := by decide +kernel
theorem d_MO_lastEnd_165 : decode b_MO_lastEnd 165 = .ok (.aload_n 0, 1) := by decide +kernel
theorem d_MO_lastEnd_166 : decode b_MO_lastEnd 166 = .ok (.getfield 128, 3) := by decide +kernel
theorem d_MO_lastEnd_169 : decode b_MO_lastEnd 169 = .ok (.iload 10, 2) := by decide +kernel
theorem d_MO_lastEnd_171 : decode b_MO_lastEnd 171 = .ok (.iaload, 1) := by decide +kernel
theorem d_MO_lastEnd_172 : decode b_MO_lastEnd 172 = .ok (.istore 11, 2) := by decide +kernel
theorem d_MO_lastEnd_174 : decode b_MO_lastEnd 174 = .ok (.aload_n 0, 1) := by decide +kernel
theorem d_MO_lastEnd_175 : decode b_MO_lastEnd 175 = .ok (.getfield 184, 3) := by decide +kernel
theorem d_MO_lastEnd_178 : decode b_MO_lastEnd 178 = .ok (.iload 7, 2) := by decide +kernel
theorem d_MO_lastEnd_180 : decode b_MO_lastEnd 180 = .ok (.iload 9, 2) := by decide +kernel
theorem d_MO_lastEnd_182 : decode b_MO_lastEnd 182 = .ok (.invokestatic 528, 3) := by decide +kernel
theorem d_MO_lastEnd_185 : decode b_MO_lastEnd 185 = .ok (.ifCond .eq 141, 3) := by decide +kernel
theorem d_MO_lastEnd_188 : decode b_MO_lastEnd 188 = .ok (.iload 11, 2) := by decide +kernel
theorem d_MO_lastEnd_190 : decode b_MO_lastEnd 190 = .ok (.iconst 3, 1) := by decide +kernel
theorem d_MO_lastEnd_191 : decode b_MO_lastEnd 191 = .ok (.if_icmp .lt 135, 3) := by decide +kernel
theorem d_MO_lastEnd_194 : decode b_MO_lastEnd 194 = .ok (.iload 11, 2) := by decide +kernel
theorem d_MO_lastEnd_196 : decode b_MO_lastEnd 196 = .ok (.bipush 6, 2) := by decide +kernel
theorem d_MO_lastEnd_198 : decode b_MO_lastEnd 198 = .ok (.if_icmp .eq 128, 3) := by decide +kernel
theorem d_MO_lastEnd_201 : decode b_MO_lastEnd 201 = .ok (.iload 11, 2) := by decide +kernel
theorem d_MO_lastEnd_203 : decode b_MO_lastEnd 203 = .ok (.iconst 5, 1) := by decide +kernel
theorem d_MO_lastEnd_204 : decode b_MO_lastEnd 204 = .ok (.if_icmp .ne 22, 3) := by decide +kernel
theorem d_MO_lastEnd_207 : decode b_MO_lastEnd 207 = .ok (.aload_n 0, 1) := by decide +kernel
theorem d_MO_lastEnd_208 : decode b_MO_lastEnd 208 = .ok (.aload_n 0, 1) := by decide +kernel
theorem d_MO_lastEnd_209 : decode b_MO_lastEnd 209 = .ok (.getfield 134, 3) := by decide +kernel
theorem d_MO_lastEnd_212 : decode b_MO_lastEnd 212 = .ok (.iload 10, 2) := by decide +kernel
theorem d_MO_lastEnd_214 : decode b_MO_lastEnd 214 = .ok (.iaload, 1) := by decide +kernel
theorem d_MO_lastEnd_215 : decode b_MO_lastEnd 215 = .ok (.iload 7, 2) := by decide +kernel
theorem d_MO_lastEnd_217 : decode b_MO_lastEnd 217 = .ok (.invokevirtual 532, 3) := by decide +kernel
theorem d_MO_lastEnd_220 : decode b_MO_lastEnd 220 = .ok (.ifCond .ne 6, 3) := by decide +kernel
theorem d_MO_lastEnd_223 : decode b_MO_lastEnd 223 = .ok (.goto 103, 3) := by decide +kernel
theorem d_MO_lastEnd_226 : decode b_MO_lastEnd 226 = .ok (.aload_n 0, 1) := by decide +kernel
theorem d_MO_lastEnd_227 : decode b_MO_lastEnd 227 = .ok (.getfield 184, 3) := by decide +kernel
theorem d_MO_lastEnd_230 : decode b_MO_lastEnd 230 = .ok (.iload 7, 2) := by decide +kernel
theorem d_MO_lastEnd_232 : decode b_MO_lastEnd 232 = .ok (.aload_n 0, 1) := by decide +kernel
theorem d_MO_lastEnd_233 : decode b_MO_lastEnd 233 = .ok (.getfield 131, 3) := by decide +kernel
theorem d_MO_lastEnd_236 : decode b_MO_lastEnd 236 = .ok (.iload 10, 2) := by decide +kernel
theorem d_MO_lastEnd_238 : decode b_MO_lastEnd 238 = .ok (.iaload, 1) := by decide +kernel
theorem d_MO_lastEnd_239 : decode b_MO_lastEnd 239 = .ok (.invokestatic 528, 3) := by decide +kernel
theorem d_MO_lastEnd_242 : decode b_MO_lastEnd 242 = .ok (.ifCond .eq 32, 3) := by decide +kernel
theorem d_MO_lastEnd_245 : decode b_MO_lastEnd 245 = .ok (.iload 11, 2) := by decide +kernel
theorem d_MO_lastEnd_247 : decode b_MO_lastEnd 247 = .ok (.iconst 3, 1) := by decide +kernel
theorem d_MO_lastEnd_248 : decode b_MO_lastEnd 248 = .ok (.if_icmp .ne 22, 3) := by decide +kernel
theorem d_MO_lastEnd_251 : decode b_MO_lastEnd 251 = .ok (.aload_n 0, 1) := by decide +kernel
theorem d_MO_lastEnd_252 : decode b_MO_lastEnd 252 = .ok (.getfield 184, 3) := by decide +kernel
theorem d_MO_lastEnd_255 : decode b_MO_lastEnd 255 = .ok (.iload 7, 2) := by decide +kernel
theorem d_MO_lastEnd_257 : decode b_MO_lastEnd 257 = .ok (.aload_n 0, 1) := by decide +kernel
theorem d_MO_lastEnd_258 : decode b_MO_lastEnd 258 = .ok (.getfield 134, 3) := by decide +kernel
theorem d_MO_lastEnd_261 : decode b_MO_lastEnd 261 = .ok (.iload 10, 2) := by decide +kernel
theorem d_MO_lastEnd_263 : decode b_MO_lastEnd 263 = .ok (.iaload, 1) := by decide +kernel
theorem d_MO_lastEnd_264 : decode b_MO_lastEnd 264 = .ok (.invokestatic 528, 3) := by decide +kernel
theorem d_MO_lastEnd_267 : decode b_MO_lastEnd 267 = .ok (.ifCond .eq 7, 3) := by decide +kernel
theorem d_MO_lastEnd_270 : decode b_MO_lastEnd 270 = .ok (.iconst 1, 1) := by decide +kernel
theorem d_MO_lastEnd_271 : decode b_MO_lastEnd 271 = .ok (.goto 4, 3) := by decide +kernel
theorem d_MO_lastEnd_274 : decode b_MO_lastEnd 274 = .ok (.iconst 0, 1) := by decide +kernel
theorem d_MO_lastEnd_275 : decode b_MO_lastEnd 275 = .ok (.istore 12, 2) := by decide +kernel
theorem d_MO_lastEnd_277 : decode b_MO_lastEnd 277 = .ok (.iload 12, 2) := by decide +kernel
theorem d_MO_lastEnd_279 : decode b_MO_lastEnd 279 = .ok (.ifCond .eq 6, 3) := by decide +kernel
theorem d_MO_lastEnd_282 : decode b_MO_lastEnd 282 = .ok (.goto 44, 3) := by decide +kernel
theorem d_MO_lastEnd_285 : decode b_MO_lastEnd 285 = .ok (.aload_n 0, 1) := by decide +kernel
theorem d_MO_lastEnd_286 : decode b_MO_lastEnd 286 = .ok (.getfield 184, 3) := by decide +kernel
theorem d_MO_lastEnd_289 : decode b_MO_lastEnd 289 = .ok (.iload 7, 2) := by decide +kernel
theorem d_MO_lastEnd_291 : decode b_MO_lastEnd 291 = .ok (.aload_n 0, 1) := by decide +kernel
theorem d_MO_lastEnd_292 : decode b_MO_lastEnd 292 = .ok (.getfield 131, 3) := by decide +kernel
theorem d_MO_lastEnd_295 : decode b_MO_lastEnd 295 = .ok (.iload 10, 2) := by decide +kernel
theorem d_MO_lastEnd_297 : decode b_MO_lastEnd 297 = .ok (.iaload, 1) := by decide +kernel
theorem d_MO_lastEnd_298 : decode b_MO_lastEnd 298 = .ok (.invokestatic 536, 3) := by decide +kernel
theorem d_MO_lastEnd_301 : decode b_MO_lastEnd 301 = .ok (.iload 11, 2) := by decide +kernel
theorem d_MO_lastEnd_303 : decode b_MO_lastEnd 303 = .ok (.iconst 3, 1) := by decide +kernel
theorem d_MO_lastEnd_304 : decode b_MO_lastEnd 304 = .ok (.if_icmp .ne 19, 3) := by decide +kernel
theorem d_MO_lastEnd_307 : decode b_MO_lastEnd 307 = .ok (.aload_n 0, 1) := by decide +kernel
theorem d_MO_lastEnd_308 : decode b_MO_lastEnd 308 = .ok (.getfield 184, 3) := by decide +kernel
theorem d_MO_lastEnd_311 : decode b_MO_lastEnd 311 = .ok (.iload 7, 2) := by decide +kernel
theorem d_MO_lastEnd_313 : decode b_MO_lastEnd 313 = .ok (.aload_n 0, 1) := by decide +kernel
theorem d_MO_lastEnd_314 : decode b_MO_lastEnd 314 = .ok (.getfield 134, 3) := by decide +kernel
theorem d_MO_lastEnd_317 : decode b_MO_lastEnd 317 = .ok (.iload 10, 2) := by decide +kernel
theorem d_MO_lastEnd_319 : decode b_MO_lastEnd 319 = .ok (.iaload, 1) := by decide +kernel
theorem d_MO_lastEnd_320 : decode b_MO_lastEnd 320 = .ok (.invokestatic 536, 3) := by decide +kernel
theorem d_MO_lastEnd_323 : decode b_MO_lastEnd 323 = .ok (.iconst 1, 1) := by decide +kernel
theorem d_MO_lastEnd_324 : decode b_MO_lastEnd 324 = .ok (.istore 8, 2) := by decide +kernel
theorem d_MO_lastEnd_326 : decode b_MO_lastEnd 326 = .ok (.iinc 9 1, 3) := by decide +kernel
theorem d_MO_lastEnd_329 : decode b_MO_lastEnd 329 = .ok (.goto (-180), 3) := by decide +kernel
theorem d_MO_lastEnd_332 : decode b_MO_lastEnd 332 = .ok (.goto (-194), 3) := by decide +kernel
theorem d_MO_lastEnd_335 : decode b_MO_lastEnd 335 = .ok (.iconst 0, 1) := by decide +kernel
theorem d_MO_lastEnd_336 : decode b_MO_lastEnd 336 = .ok (.istore 9, 2) := by decide +kernel
theorem d_MO_lastEnd_338 : decode b_MO_lastEnd 338 = .ok (.iload 9, 2) := by decide +kernel
theorem d_MO_lastEnd_340 : decode b_MO_lastEnd 340 = .ok (.iload_n 3, 1) := by decide +kernel
theorem d_MO_lastEnd_341 : decode b_MO_lastEnd 341 = .ok (.if_icmp .ge 119, 3) := by decide +kernel
theorem d_MO_lastEnd_344 : decode b_MO_lastEnd 344 = .ok (.aload_n 0, 1) := by decide +kernel
theorem d_MO_lastEnd_345 : decode b_MO_lastEnd 345 = .ok (.getfield 184, 3) := by decide +kernel
theorem d_MO_lastEnd_348 : decode b_MO_lastEnd 348 = .ok (.iload 7, 2) := by decide +kernel
theorem d_MO_lastEnd_350 : decode b_MO_lastEnd 350 = .ok (.iload 9, 2) := by decide +kernel
theorem d_MO_lastEnd_352 : decode b_MO_lastEnd 352 = .ok (.invokestatic 528, 3) := by decide +kernel
theorem d_MO_lastEnd_355 : decode b_MO_lastEnd 355 = .ok (.ifCond .ne 6, 3) := by decide +kernel
theorem d_MO_lastEnd_358 : decode b_MO_lastEnd 358 = .ok (.goto 96, 3) := by decide +kernel
theorem d_MO_lastEnd_361 : decode b_MO_lastEnd 361 = .ok (.aload_n 0, 1) := by decide +kernel
theorem d_MO_lastEnd_362 : decode b_MO_lastEnd 362 = .ok (.sipush 12500, 3) := by decide +kernel
theorem d_MO_lastEnd_365 : decode b_MO_lastEnd 365 = .ok (.iload_n 1, 1) := by decide +kernel
theorem d_MO_lastEnd_366 : decode b_MO_lastEnd 366 = .ok (.imul, 1) := by decide +kernel
theorem d_MO_lastEnd_367 : decode b_MO_lastEnd 367 = .ok (.iload 9, 2) := by decide +kernel
theorem d_MO_lastEnd_369 : decode b_MO_lastEnd 369 = .ok (.iadd, 1) := by decide +kernel
theorem d_MO_lastEnd_370 : decode b_MO_lastEnd 370 = .ok (.iload 7, 2) := by decide +kernel
theorem d_MO_lastEnd_372 : decode b_MO_lastEnd 372 = .ok (.invokevirtual 525, 3) := by decide +kernel
theorem d_MO_lastEnd_375 : decode b_MO_lastEnd 375 = .ok (.istore 10, 2) := by decide +kernel
theorem d_MO_lastEnd_377 : decode b_MO_lastEnd 377 = .ok (.iload 10, 2) := by decide +kernel
theorem d_MO_lastEnd_379 : decode b_MO_lastEnd 379 = .ok (.ifCond .le 28, 3) := by decide +kernel
theorem d_MO_lastEnd_382 : decode b_MO_lastEnd 382 = .ok (.aload_n 0, 1) := by decide +kernel
theorem d_MO_lastEnd_383 : decode b_MO_lastEnd 383 = .ok (.getfield 184, 3) := by decide +kernel
theorem d_MO_lastEnd_386 : decode b_MO_lastEnd 386 = .ok (.iload 7, 2) := by decide +kernel
theorem d_MO_lastEnd_388 : decode b_MO_lastEnd 388 = .ok (.iload 10, 2) := by decide +kernel
theorem d_MO_lastEnd_390 : decode b_MO_lastEnd 390 = .ok (.iadd, 1) := by decide +kernel
theorem d_MO_lastEnd_391 : decode b_MO_lastEnd 391 = .ok (.aload_n 0, 1) := by decide +kernel
theorem d_MO_lastEnd_392 : decode b_MO_lastEnd 392 = .ok (.getfield 131, 3) := by decide +kernel
theorem d_MO_lastEnd_395 : decode b_MO_lastEnd 395 = .ok (.sipush 12500, 3) := by decide +kernel
theorem d_MO_lastEnd_398 : decode b_MO_lastEnd 398 = .ok (.iload_n 1, 1) := by decide +kernel
theorem d_MO_lastEnd_399 : decode b_MO_lastEnd 399 = .ok (.imul, 1) := by decide +kernel
theorem d_MO_lastEnd_400 : decode b_MO_lastEnd 400 = .ok (.iload 9, 2) := by decide +kernel
theorem d_MO_lastEnd_402 : decode b_MO_lastEnd 402 = .ok (.iadd, 1) := by decide +kernel
theorem d_MO_lastEnd_403 : decode b_MO_lastEnd 403 = .ok (.iaload, 1) := by decide +kernel
theorem d_MO_lastEnd_404 : decode b_MO_lastEnd 404 = .ok (.invokestatic 536, 3) := by decide +kernel
theorem d_MO_lastEnd_407 : decode b_MO_lastEnd 407 = .ok (.iload 10, 2) := by decide +kernel
theorem d_MO_lastEnd_409 : decode b_MO_lastEnd 409 = .ok (.ifCond .le 21, 3) := by decide +kernel
theorem d_MO_lastEnd_412 : decode b_MO_lastEnd 412 = .ok (.iload 7, 2) := by decide +kernel
theorem d_MO_lastEnd_414 : decode b_MO_lastEnd 414 = .ok (.iload 10, 2) := by decide +kernel
theorem d_MO_lastEnd_416 : decode b_MO_lastEnd 416 = .ok (.iadd, 1) := by decide +kernel
theorem d_MO_lastEnd_417 : decode b_MO_lastEnd 417 = .ok (.iload 6, 2) := by decide +kernel
theorem d_MO_lastEnd_419 : decode b_MO_lastEnd 419 = .ok (.if_icmp .le 11, 3) := by decide +kernel
theorem d_MO_lastEnd_422 : decode b_MO_lastEnd 422 = .ok (.iload 7, 2) := by decide +kernel
theorem d_MO_lastEnd_424 : decode b_MO_lastEnd 424 = .ok (.iload 10, 2) := by decide +kernel
theorem d_MO_lastEnd_426 : decode b_MO_lastEnd 426 = .ok (.iadd, 1) := by decide +kernel
theorem d_MO_lastEnd_427 : decode b_MO_lastEnd 427 = .ok (.goto 5, 3) := by decide +kernel
theorem d_MO_lastEnd_430 : decode b_MO_lastEnd 430 = .ok (.iload 6, 2) := by decide +kernel
theorem d_MO_lastEnd_432 : decode b_MO_lastEnd 432 = .ok (.istore 6, 2) := by decide +kernel
theorem d_MO_lastEnd_434 : decode b_MO_lastEnd 434 = .ok (.aload_n 0, 1) := by decide +kernel
theorem d_MO_lastEnd_435 : decode b_MO_lastEnd 435 = .ok (.getfield 128, 3) := by decide +kernel
theorem d_MO_lastEnd_438 : decode b_MO_lastEnd 438 = .ok (.sipush 12500, 3) := by decide +kernel
theorem d_MO_lastEnd_441 : decode b_MO_lastEnd 441 = .ok (.iload_n 1, 1) := by decide +kernel
theorem d_MO_lastEnd_442 : decode b_MO_lastEnd 442 = .ok (.imul, 1) := by decide +kernel
theorem d_MO_lastEnd_443 : decode b_MO_lastEnd 443 = .ok (.iload 9, 2) := by decide +kernel
theorem d_MO_lastEnd_445 : decode b_MO_lastEnd 445 = .ok (.iadd, 1) := by decide +kernel
theorem d_MO_lastEnd_446 : decode b_MO_lastEnd 446 = .ok (.iaload, 1) := by decide +kernel
theorem d_MO_lastEnd_447 : decode b_MO_lastEnd 447 = .ok (.ifCond .ne 7, 3) := by decide +kernel
theorem d_MO_lastEnd_450 : decode b_MO_lastEnd 450 = .ok (.iload 7, 2) := by decide +kernel
theorem d_MO_lastEnd_452 : decode b_MO_lastEnd 452 = .ok (.istore 4, 2) := by decide +kernel
theorem d_MO_lastEnd_454 : decode b_MO_lastEnd 454 = .ok (.iinc 9 1, 3) := by decide +kernel
theorem d_MO_lastEnd_457 : decode b_MO_lastEnd 457 = .ok (.goto (-119), 3) := by decide +kernel
theorem d_MO_lastEnd_460 : decode b_MO_lastEnd 460 = .ok (.iinc 7 1, 3) := by decide +kernel
theorem d_MO_lastEnd_463 : decode b_MO_lastEnd 463 = .ok (.goto (-397), 3) := by decide +kernel
theorem d_MO_lastEnd_466 : decode b_MO_lastEnd 466 = .ok (.iload 4, 2) := by decide +kernel
theorem d_MO_lastEnd_468 : decode b_MO_lastEnd 468 = .ok (.ireturn, 1) := by decide +kernel
