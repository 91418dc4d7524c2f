theorem d_MO_note_0 : decode b_MO_note 0 = .ok (.aload_n 0, 1) := by decide +kernel
theorem d_MO_note_1 : decode b_MO_note 1 = .ok (.getfield 124, 3) := by decide +kernel
theorem d_MO_note_4 : decode b_MO_note 4 = .ok (.iload_n 2, 1) := by decide +kernel
theorem d_MO_note_5 : decode b_MO_note 5 = .ok (.iaload, 1) := by decide +kernel
theorem d_MO_note_6 : decode b_MO_note 6 = .ok (.istore 6, 2) := by decide +kernel
theorem d_MO_note_8 : decode b_MO_note 8 = .ok (.iload_n 3, 1) := by decide +kernel
theorem d_MO_note_9 : decode b_MO_note 9 = .ok (.istore 7, 2) := by decide +kernel
theorem d_MO_note_11 : decode b_MO_note 11 = .ok (.iload 7, 2) := by decide +kernel
theorem d_MO_note_13 : decode b_MO_note 13 = .ok (.iload 4, 2) := by decide +kernel
theorem d_MO_note_15 : decode b_MO_note 15 = .ok (.if_icmp .lt 383, 3) := by decide +kernel
theorem d_MO_note_18 : decode b_MO_note 18 = .ok (.aload_n 0, 1) := by decide +kernel
theorem d_MO_note_19 : decode b_MO_note 19 = .ok (.iload 7, 2) := by decide +kernel
theorem d_MO_note_21 : decode b_MO_note 21 = .ok (.invokevirtual 522, 3) := by decide +kernel
theorem d_MO_note_24 : decode b_MO_note 24 = .ok (.iconst 0, 1) := by decide +kernel
theorem d_MO_note_25 : decode b_MO_note 25 = .ok (.istore 8, 2) := by decide +kernel
theorem d_MO_note_27 : decode b_MO_note 27 = .ok (.iload 8, 2) := by decide +kernel
theorem d_MO_note_29 : decode b_MO_note 29 = .ok (.sipush 196, 3) := by decide +kernel
theorem d_MO_note_32 : decode b_MO_note 32 = .ok (.if_icmp .ge 21, 3) := by decide +kernel
theorem d_MO_note_35 : decode b_MO_note 35 = .ok (.aload_n 1, 1) := by decide +kernel
theorem d_MO_note_36 : decode b_MO_note 36 = .ok (.sipush 196, 3) := by decide +kernel
theorem d_MO_note_39 : decode b_MO_note 39 = .ok (.iload 7, 2) := by decide +kernel
theorem d_MO_note_41 : decode b_MO_note 41 = .ok (.imul, 1) := by decide +kernel
theorem d_MO_note_42 : decode b_MO_note 42 = .ok (.iload 8, 2) := by decide +kernel
theorem d_MO_note_44 : decode b_MO_note 44 = .ok (.iadd, 1) := by decide +kernel
theorem d_MO_note_45 : decode b_MO_note 45 = .ok (.lconst 0, 1) := by decide +kernel
theorem d_MO_note_46 : decode b_MO_note 46 = .ok (.lastore, 1) := by decide +kernel
theorem d_MO_note_47 : decode b_MO_note 47 = .ok (.iinc 8 1, 3) := by decide +kernel
theorem d_MO_note_50 : decode b_MO_note 50 = .ok (.goto (-23), 3) := by decide +kernel
theorem d_MO_note_53 : decode b_MO_note 53 = .ok (.iconst 0, 1) := by decide +kernel
theorem d_MO_note_54 : decode b_MO_note 54 = .ok (.istore 8, 2) := by decide +kernel
theorem d_MO_note_56 : decode b_MO_note 56 = .ok (.iload 8, 2) := by decide +kernel
theorem d_MO_note_58 : decode b_MO_note 58 = .ok (.iload 6, 2) := by decide +kernel
theorem d_MO_note_60 : decode b_MO_note 60 = .ok (.if_icmp .ge 111, 3) := by decide +kernel
theorem d_MO_note_63 : decode b_MO_note 63 = .ok (.aload_n 0, 1) := by decide +kernel
theorem d_MO_note_64 : decode b_MO_note 64 = .ok (.sipush 12500, 3) := by decide +kernel
theorem d_MO_note_67 : decode b_MO_note 67 = .ok (.iload_n 2, 1) := by decide +kernel
theorem d_MO_note_68 : decode b_MO_note 68 = .ok (.imul, 1) := by decide +kernel
theorem d_MO_note_69 : decode b_MO_note 69 = .ok (.iload 8, 2) := by decide +kernel
theorem d_MO_note_71 : decode b_MO_note 71 = .ok (.iadd, 1) := by decide +kernel
theorem d_MO_note_72 : decode b_MO_note 72 = .ok (.iload 7, 2) := by decide +kernel
theorem d_MO_note_74 : decode b_MO_note 74 = .ok (.invokevirtual 525, 3) := by decide +kernel
theorem d_MO_note_77 : decode b_MO_note 77 = .ok (.istore 9, 2) := by decide +kernel
theorem d_MO_note_79 : decode b_MO_note 79 = .ok (.aload_n 0, 1) := by decide +kernel
theorem d_MO_note_80 : decode b_MO_note 80 = .ok (.getfield 187, 3) := by decide +kernel
theorem d_MO_note_83 : decode b_MO_note 83 = .ok (.iload 8, 2) := by decide +kernel
theorem d_MO_note_85 : decode b_MO_note 85 = .ok (.aload_n 0, 1) := by decide +kernel
theorem d_MO_note_86 : decode b_MO_note 86 = .ok (.getfield 128, 3) := by decide +kernel
theorem d_MO_note_89 : decode b_MO_note 89 = .ok (.sipush 12500, 3) := by decide +kernel
theorem d_MO_note_92 : decode b_MO_note 92 = .ok (.iload_n 2, 1) := by decide +kernel
theorem d_MO_note_93 : decode b_MO_note 93 = .ok (.imul, 1) := by decide +kernel
theorem d_MO_note_94 : decode b_MO_note 94 = .ok (.iload 8, 2) := by decide +kernel
theorem d_MO_note_96 : decode b_MO_note 96 = .ok (.iadd, 1) := by decide +kernel
theorem d_MO_note_97 : decode b_MO_note 97 = .ok (.iaload, 1) := by decide +kernel
theorem d_MO_note_98 : decode b_MO_note 98 = .ok (.ifCond .ne 22, 3) := by decide +kernel
theorem d_MO_note_101 : decode b_MO_note 101 = .ok (.iload 7, 2) := by decide +kernel
theorem d_MO_note_103 : decode b_MO_note 103 = .ok (.iload_n 3, 1) := by decide +kernel
theorem d_MO_note_104 : decode b_MO_note 104 = .ok (.if_icmp .eq 8, 3) := by decide +kernel
theorem d_MO_note_107 : decode b_MO_note 107 = .ok (.iload 5, 2) := by decide +kernel
theorem d_MO_note_109 : decode b_MO_note 109 = .ok (.ifCond .ne 7, 3) := by decide +kernel
theorem d_MO_note_112 : decode b_MO_note 112 = .ok (.iconst 1, 1) := by decide +kernel
theorem d_MO_note_113 : decode b_MO_note 113 = .ok (.goto 51, 3) := by decide +kernel
theorem d_MO_note_116 : decode b_MO_note 116 = .ok (.iconst 0, 1) := by decide +kernel
theorem d_MO_note_117 : decode b_MO_note 117 = .ok (.goto 47, 3) := by decide +kernel
theorem d_MO_note_120 : decode b_MO_note 120 = .ok (.iload 9, 2) := by decide +kernel
theorem d_MO_note_122 : decode b_MO_note 122 = .ok (.ifCond .le 41, 3) := by decide +kernel
theorem d_MO_note_125 : decode b_MO_note 125 = .ok (.iload 7, 2) := by decide +kernel
theorem d_MO_note_127 : decode b_MO_note 127 = .ok (.iload 9, 2) := by decide +kernel
theorem d_MO_note_129 : decode b_MO_note 129 = .ok (.iadd, 1) := by decide +kernel
theorem d_MO_note_130 : decode b_MO_note 130 = .ok (.iload_n 3, 1) := by decide +kernel
theorem d_MO_note_131 : decode b_MO_note 131 = .ok (.if_icmp .gt 32, 3) := by decide +kernel
theorem d_MO_note_134 : decode b_MO_note 134 = .ok (.aload_n 1, 1) := by decide +kernel
theorem d_MO_note_135 : decode b_MO_note 135 = .ok (.iload 7, 2) := by decide +kernel
theorem d_MO_note_137 : decode b_MO_note 137 = .ok (.iload 9, 2) := by decide +kernel
theorem d_MO_note_139 : decode b_MO_note 139 = .ok (.iadd, 1) := by decide +kernel
theorem d_MO_note_140 : decode b_MO_note 140 = .ok (.aload_n 0, 1) := by decide +kernel
theorem d_MO_note_141 : decode b_MO_note 141 = .ok (.getfield 131, 3) := by decide +kernel
theorem d_MO_note_144 : decode b_MO_note 144 = .ok (.sipush 12500, 3) := by decide +kernel
theorem d_MO_note_147 : decode b_MO_note 147 = .ok (.iload_n 2, 1) := by decide +kernel
theorem d_MO_note_148 : decode b_MO_note 148 = .ok (.imul, 1) := by decide +kernel
theorem d_MO_note_149 : decode b_MO_note 149 = .ok (.iload 8, 2) := by decide +kernel
theorem d_MO_note_151 : decode b_MO_note 151 = .ok (.iadd, 1) := by decide +kernel
theorem d_MO_note_152 : decode b_MO_note 152 = .ok (.iaload, 1) := by decide +kernel
theorem d_MO_note_153 : decode b_MO_note 153 = .ok (.invokestatic 528, 3) := by decide +kernel
theorem d_MO_note_156 : decode b_MO_note 156 = .ok (.ifCond .eq 7, 3) := by decide +kernel
theorem d_MO_note_159 : decode b_MO_note 159 = .ok (.iconst 1, 1) := by decide +kernel
theorem d_MO_note_160 : decode b_MO_note 160 = .ok (.goto 4, 3) := by decide +kernel
theorem d_MO_note_163 : decode b_MO_note 163 = .ok (.iconst 0, 1) := by decide +kernel
theorem d_MO_note_164 : decode b_MO_note 164 = .ok (.bastore, 1) := by decide +kernel
theorem d_MO_note_165 : decode b_MO_note 165 = .ok (.iinc 8 1, 3) := by decide +kernel
theorem d_MO_note_168 : decode b_MO_note 168 = .ok (.goto (-112), 3) := by decide +kernel
theorem d_MO_note_171 : decode b_MO_note 171 = .ok (.iconst 1, 1) := by decide +kernel
theorem d_MO_note_172 : decode b_MO_note 172 = .ok (.istore 8, 2) := by decide +kernel
theorem d_MO_note_174 : decode b_MO_note 174 = .ok (.iload 8, 2) := by decide +kernel
theorem d_MO_note_176 : decode b_MO_note 176 = .ok (.ifCond .eq 182, 3) := by decide +kernel
theorem d_MO_note_179 : decode b_MO_note 179 = .ok (.iconst 0, 1) := by decide +kernel
theorem d_MO_note_180 : decode b_MO_note 180 = .ok (.istore 8, 2) := by decide +kernel
theorem d_MO_note_182 : decode b_MO_note 182 = .ok (.iconst 0, 1) := by decide +kernel
theorem d_MO_note_183 : decode b_MO_note 183 = .ok (.istore 9, 2) := by decide +kernel
theorem d_MO_note_185 : decode b_MO_note 185 = .ok (.iload 9, 2) := by decide +kernel
theorem d_MO_note_187 : decode b_MO_note 187 = .ok (.iload 6, 2) := by decide +kernel
theorem d_MO_note_189 : decode b_MO_note 189 = .ok (.if_icmp .ge 166, 3) := by decide +kernel
theorem d_MO_note_192 : decode b_MO_note 192 = .ok (.sipush 12500, 3) := by decide +kernel
theorem d_MO_note_195 : decode b_MO_note 195 = .ok (.iload_n 2, 1) := by decide +kernel
theorem d_MO_note_196 : decode b_MO_note 196 = .ok (.imul, 1) := by decide +kernel
theorem d_MO_note_197 : decode b_MO_note 197 = .ok (.iload 9, 2) := by decide +kernel
theorem d_MO_note_199 : decode b_MO_note 199 = .ok (.iadd, 1) := by decide +kernel
theorem d_MO_note_200 : decode b_MO_note 200 = .ok (.istore 10, 2) := by decide +kernel
theorem d_MO_note_202 : decode b_MO_note 202 = .ok (.aload_n 0, 1) := by decide +kernel
theorem d_MO_note_203 : decode b_MO_note 203 = .ok (.getfield 128, 3) := by decide +kernel
theorem d_MO_note_206 : decode b_MO_note 206 = .ok (.iload 10, 2) := by decide +kernel
theorem d_MO_note_208 : decode b_MO_note 208 = .ok (.iaload, 1) := by decide +kernel
theorem d_MO_note_209 : decode b_MO_note 209 = .ok (.istore 11, 2) := by decide +kernel
theorem d_MO_note_211 : decode b_MO_note 211 = .ok (.iload 11, 2) := by decide +kernel
theorem d_MO_note_213 : decode b_MO_note 213 = .ok (.iconst 3, 1) := by decide +kernel
theorem d_MO_note_214 : decode b_MO_note 214 = .ok (.if_icmp .ne 41, 3) := by decide +kernel
theorem d_MO_note_217 : decode b_MO_note 217 = .ok (.aload_n 0, 1) := by decide +kernel
theorem d_MO_note_218 : decode b_MO_note 218 = .ok (.getfield 187, 3) := by decide +kernel
theorem d_MO_note_221 : decode b_MO_note 221 = .ok (.aload_n 0, 1) := by decide +kernel
theorem d_MO_note_222 : decode b_MO_note 222 = .ok (.getfield 131, 3) := by decide +kernel
theorem d_MO_note_225 : decode b_MO_note 225 = .ok (.iload 10, 2) := by decide +kernel
theorem d_MO_note_227 : decode b_MO_note 227 = .ok (.iaload, 1) := by decide +kernel
theorem d_MO_note_228 : decode b_MO_note 228 = .ok (.baload, 1) := by decide +kernel
theorem d_MO_note_229 : decode b_MO_note 229 = .ok (.ifCond .ne 18, 3) := by decide +kernel
theorem d_MO_note_232 : decode b_MO_note 232 = .ok (.aload_n 0, 1) := by decide +kernel
theorem d_MO_note_233 : decode b_MO_note 233 = .ok (.getfield 187, 3) := by decide +kernel
theorem d_MO_note_236 : decode b_MO_note 236 = .ok (.aload_n 0, 1) := by decide +kernel
theorem d_MO_note_237 : decode b_MO_note 237 = .ok (.getfield 134, 3) := by decide +kernel
theorem d_MO_note_240 : decode b_MO_note 240 = .ok (.iload 10, 2) := by decide +kernel
theorem d_MO_note_242 : decode b_MO_note 242 = .ok (.iaload, 1) := by decide +kernel
theorem d_MO_note_243 : decode b_MO_note 243 = .ok (.baload, 1) := by decide +kernel
theorem d_MO_note_244 : decode b_MO_note 244 = .ok (.ifCond .eq 7, 3) := by decide +kernel
theorem d_MO_note_247 : decode b_MO_note 247 = .ok (.iconst 1, 1) := by decide +kernel
theorem d_MO_note_248 : decode b_MO_note 248 = .ok (.goto 70, 3) := by decide +kernel
theorem d_MO_note_251 : decode b_MO_note 251 = .ok (.iconst 0, 1) := by decide +kernel
theorem d_MO_note_252 : decode b_MO_note 252 = .ok (.goto 66, 3) := by decide +kernel
theorem d_MO_note_255 : decode b_MO_note 255 = .ok (.iload 11, 2) := by decide +kernel
theorem d_MO_note_257 : decode b_MO_note 257 = .ok (.iconst 4, 1) := by decide +kernel
theorem d_MO_note_258 : decode b_MO_note 258 = .ok (.if_icmp .ne 18, 3) := by decide +kernel
theorem d_MO_note_261 : decode b_MO_note 261 = .ok (.aload_n 0, 1) := by decide +kernel
theorem d_MO_note_262 : decode b_MO_note 262 = .ok (.getfield 187, 3) := by decide +kernel
theorem d_MO_note_265 : decode b_MO_note 265 = .ok (.aload_n 0, 1) := by decide +kernel
theorem d_MO_note_266 : decode b_MO_note 266 = .ok (.getfield 131, 3) := by decide +kernel
theorem d_MO_note_269 : decode b_MO_note 269 = .ok (.iload 10, 2) := by decide +kernel
theorem d_MO_note_271 : decode b_MO_note 271 = .ok (.iaload, 1) := by decide +kernel
theorem d_MO_note_272 : decode b_MO_note 272 = .ok (.baload, 1) := by decide +kernel
theorem d_MO_note_273 : decode b_MO_note 273 = .ok (.goto 45, 3) := by decide +kernel
theorem d_MO_note_276 : decode b_MO_note 276 = .ok (.iload 11, 2) := by decide +kernel
theorem d_MO_note_278 : decode b_MO_note 278 = .ok (.iconst 5, 1) := by decide +kernel
theorem d_MO_note_279 : decode b_MO_note 279 = .ok (.if_icmp .ne 38, 3) := by decide +kernel
theorem d_MO_note_282 : decode b_MO_note 282 = .ok (.aload_n 0, 1) := by decide +kernel
theorem d_MO_note_283 : decode b_MO_note 283 = .ok (.getfield 187, 3) := by decide +kernel
theorem d_MO_note_286 : decode b_MO_note 286 = .ok (.aload_n 0, 1) := by decide +kernel
theorem d_MO_note_287 : decode b_MO_note 287 = .ok (.getfield 131, 3) := by decide +kernel
theorem d_MO_note_290 : decode b_MO_note 290 = .ok (.iload 10, 2) := by decide +kernel
theorem d_MO_note_292 : decode b_MO_note 292 = .ok (.iaload, 1) := by decide +kernel
theorem d_MO_note_293 : decode b_MO_note 293 = .ok (.baload, 1) := by decide +kernel
theorem d_MO_note_294 : decode b_MO_note 294 = .ok (.ifCond .eq 23, 3) := by decide +kernel
theorem d_MO_note_297 : decode b_MO_note 297 = .ok (.aload_n 0, 1) := by decide +kernel
theorem d_MO_note_298 : decode b_MO_note 298 = .ok (.aload_n 0, 1) := by decide +kernel
theorem d_MO_note_299 : decode b_MO_note 299 = .ok (.getfield 134, 3) := by decide +kernel
theorem d_MO_note_302 : decode b_MO_note 302 = .ok (.iload 10, 2) := by decide +kernel
theorem d_MO_note_304 : decode b_MO_note 304 = .ok (.iaload, 1) := by decide +kernel
theorem d_MO_note_305 : decode b_MO_note 305 = .ok (.iload 7, 2) := by decide +kernel
theorem d_MO_note_307 : decode b_MO_note 307 = .ok (.invokevirtual 532, 3) := by decide +kernel
theorem d_MO_note_310 : decode b_MO_note 310 = .ok (.ifCond .eq 7, 3) := by decide +kernel
theorem d_MO_note_313 : decode b_MO_note 313 = .ok (.iconst 1, 1) := by decide +kernel
theorem d_MO_note_314 : decode b_MO_note 314 = .ok (.goto 4, 3) := by decide +kernel
theorem d_MO_note_317 : decode b_MO_note 317 = .ok (.iconst 0, 1) := by decide +kernel
theorem d_MO_note_318 : decode b_MO_note 318 = .ok (.istore 12, 2) := by decide +kernel
theorem d_MO_note_320 : decode b_MO_note 320 = .ok (.aload_n 0, 1) := by decide +kernel
theorem d_MO_note_321 : decode b_MO_note 321 = .ok (.getfield 187, 3) := by decide +kernel
theorem d_MO_note_324 : decode b_MO_note 324 = .ok (.iload 9, 2) := by decide +kernel
theorem d_MO_note_326 : decode b_MO_note 326 = .ok (.baload, 1) := by decide +kernel
theorem d_MO_note_327 : decode b_MO_note 327 = .ok (.ifCond .ne 22, 3) := by decide +kernel
theorem d_MO_note_330 : decode b_MO_note 330 = .ok (.iload 12, 2) := by decide +kernel
theorem d_MO_note_332 : decode b_MO_note 332 = .ok (.ifCond .ne 6, 3) := by decide +kernel
theorem d_MO_note_335 : decode b_MO_note 335 = .ok (.goto 14, 3) := by decide +kernel
theorem d_MO_note_338 : decode b_MO_note 338 = .ok (.aload_n 0, 1) := by decide +kernel
theorem d_MO_note_339 : decode b_MO_note 339 = .ok (.getfield 187, 3) := by decide +kernel
theorem d_MO_note_342 : decode b_MO_note 342 = .ok (.iload 9, 2) := by decide +kernel
theorem d_MO_note_344 : decode b_MO_note 344 = .ok (.iconst 1, 1) := by decide +kernel
theorem d_MO_note_345 : decode b_MO_note 345 = .ok (.bastore, 1) := by decide +kernel
theorem d_MO_note_346 : decode b_MO_note 346 = .ok (.iconst 1, 1) := by decide +kernel
theorem d_MO_note_347 : decode b_MO_note 347 = .ok (.istore 8, 2) := by decide +kernel
theorem d_MO_note_349 : decode b_MO_note 349 = .ok (.iinc 9 1, 3) := by decide +kernel
theorem d_MO_note_352 : decode b_MO_note 352 = .ok (.goto (-167), 3) := by decide +kernel
theorem d_MO_note_355 : decode b_MO_note 355 = .ok (.goto (-181), 3) := by decide +kernel
theorem d_MO_note_358 : decode b_MO_note 358 = .ok (.iconst 0, 1) := by decide +kernel
theorem d_MO_note_359 : decode b_MO_note 359 = .ok (.istore 9, 2) := by decide +kernel
theorem d_MO_note_361 : decode b_MO_note 361 = .ok (.iload 9, 2) := by decide +kernel
theorem d_MO_note_363 : decode b_MO_note 363 = .ok (.iload 6, 2) := by decide +kernel
theorem d_MO_note_365 : decode b_MO_note 365 = .ok (.if_icmp .ge 27, 3) := by decide +kernel
theorem d_MO_note_368 : decode b_MO_note 368 = .ok (.aload_n 0, 1) := by decide +kernel
theorem d_MO_note_369 : decode b_MO_note 369 = .ok (.getfield 187, 3) := by decide +kernel
theorem d_MO_note_372 : decode b_MO_note 372 = .ok (.iload 9, 2) := by decide +kernel
theorem d_MO_note_374 : decode b_MO_note 374 = .ok (.baload, 1) := by decide +kernel
theorem d_MO_note_375 : decode b_MO_note 375 = .ok (.ifCond .eq 11, 3) := by decide +kernel
theorem d_MO_note_378 : decode b_MO_note 378 = .ok (.aload_n 1, 1) := by decide +kernel
theorem d_MO_note_379 : decode b_MO_note 379 = .ok (.iload 7, 2) := by decide +kernel
theorem d_MO_note_381 : decode b_MO_note 381 = .ok (.iload 9, 2) := by decide +kernel
theorem d_MO_note_383 : decode b_MO_note 383 = .ok (.invokestatic 536, 3) := by decide +kernel
theorem d_MO_note_386 : decode b_MO_note 386 = .ok (.iinc 9 1, 3) := by decide +kernel
theorem d_MO_note_389 : decode b_MO_note 389 = .ok (.goto (-28), 3) := by decide +kernel
theorem d_MO_note_392 : decode b_MO_note 392 = .ok (.iinc 7 (-1), 3) := by decide +kernel
theorem d_MO_note_395 : decode b_MO_note 395 = .ok (.goto (-384), 3) := by decide +kernel
theorem d_MO_note_398 : decode b_MO_note 398 = .ok (.return_, 1) := by decide +kernel
