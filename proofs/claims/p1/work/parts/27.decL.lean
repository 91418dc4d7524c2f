theorem d_LA_law_0 : decode code 0 = .ok (.new 8, 3) := by decide +kernel
theorem d_LA_law_3 : decode code 3 = .ok (.dup, 1) := by decide +kernel
theorem d_LA_law_4 : decode code 4 = .ok (.invokespecial 33, 3) := by decide +kernel
theorem d_LA_law_7 : decode code 7 = .ok (.astore_n 1, 1) := by decide +kernel
theorem d_LA_law_8 : decode code 8 = .ok (.new 34, 3) := by decide +kernel
theorem d_LA_law_11 : decode code 11 = .ok (.dup, 1) := by decide +kernel
theorem d_LA_law_12 : decode code 12 = .ok (.invokespecial 36, 3) := by decide +kernel
theorem d_LA_law_15 : decode code 15 = .ok (.astore_n 2, 1) := by decide +kernel
theorem d_LA_law_16 : decode code 16 = .ok (.iconst 1, 1) := by decide +kernel
theorem d_LA_law_17 : decode code 17 = .ok (.newarray .long, 2) := by decide +kernel
theorem d_LA_law_19 : decode code 19 = .ok (.astore_n 3, 1) := by decide +kernel
theorem d_LA_law_20 : decode code 20 = .ok (.iconst 0, 1) := by decide +kernel
theorem d_LA_law_21 : decode code 21 = .ok (.istore 4, 2) := by decide +kernel
theorem d_LA_law_23 : decode code 23 = .ok (.iload 4, 2) := by decide +kernel
theorem d_LA_law_25 : decode code 25 = .ok (.aload_n 0, 1) := by decide +kernel
theorem d_LA_law_26 : decode code 26 = .ok (.arraylength, 1) := by decide +kernel
theorem d_LA_law_27 : decode code 27 = .ok (.bipush 6, 2) := by decide +kernel
theorem d_LA_law_29 : decode code 29 = .ok (.isub, 1) := by decide +kernel
theorem d_LA_law_30 : decode code 30 = .ok (.if_icmp .gt 907, 3) := by decide +kernel
theorem d_LA_law_33 : decode code 33 = .ok (.aload_n 0, 1) := by decide +kernel
theorem d_LA_law_34 : decode code 34 = .ok (.iload 4, 2) := by decide +kernel
theorem d_LA_law_36 : decode code 36 = .ok (.iaload, 1) := by decide +kernel
theorem d_LA_law_37 : decode code 37 = .ok (.bipush 31, 2) := by decide +kernel
theorem d_LA_law_39 : decode code 39 = .ok (.iand, 1) := by decide +kernel
theorem d_LA_law_40 : decode code 40 = .ok (.tableswitch 891 0 18 #[92, 163, 188, 256, 281, 318, 367, 380, 472, 509, 565, 602, 658, 714, 751, 804, 817, 842, 878], 92) := by decide +kernel
theorem d_LA_law_132 : decode code 132 = .ok (.aload_n 1, 1) := by decide +kernel
theorem d_LA_law_133 : decode code 133 = .ok (.aload_n 0, 1) := by decide +kernel
theorem d_LA_law_134 : decode code 134 = .ok (.iload 4, 2) := by decide +kernel
theorem d_LA_law_136 : decode code 136 = .ok (.iconst 1, 1) := by decide +kernel
theorem d_LA_law_137 : decode code 137 = .ok (.iadd, 1) := by decide +kernel
theorem d_LA_law_138 : decode code 138 = .ok (.iaload, 1) := by decide +kernel
theorem d_LA_law_139 : decode code 139 = .ok (.aload_n 0, 1) := by decide +kernel
theorem d_LA_law_140 : decode code 140 = .ok (.iload 4, 2) := by decide +kernel
theorem d_LA_law_142 : decode code 142 = .ok (.iconst 2, 1) := by decide +kernel
theorem d_LA_law_143 : decode code 143 = .ok (.iadd, 1) := by decide +kernel
theorem d_LA_law_144 : decode code 144 = .ok (.iaload, 1) := by decide +kernel
theorem d_LA_law_145 : decode code 145 = .ok (.aload_n 0, 1) := by decide +kernel
theorem d_LA_law_146 : decode code 146 = .ok (.iload 4, 2) := by decide +kernel
theorem d_LA_law_148 : decode code 148 = .ok (.iconst 3, 1) := by decide +kernel
theorem d_LA_law_149 : decode code 149 = .ok (.iadd, 1) := by decide +kernel
theorem d_LA_law_150 : decode code 150 = .ok (.iaload, 1) := by decide +kernel
theorem d_LA_law_151 : decode code 151 = .ok (.aload_n 0, 1) := by decide +kernel
theorem d_LA_law_152 : decode code 152 = .ok (.iload 4, 2) := by decide +kernel
theorem d_LA_law_154 : decode code 154 = .ok (.iconst 4, 1) := by decide +kernel
theorem d_LA_law_155 : decode code 155 = .ok (.iadd, 1) := by decide +kernel
theorem d_LA_law_156 : decode code 156 = .ok (.iaload, 1) := by decide +kernel
theorem d_LA_law_157 : decode code 157 = .ok (.aload_n 0, 1) := by decide +kernel
theorem d_LA_law_158 : decode code 158 = .ok (.iload 4, 2) := by decide +kernel
theorem d_LA_law_160 : decode code 160 = .ok (.iconst 5, 1) := by decide +kernel
theorem d_LA_law_161 : decode code 161 = .ok (.iadd, 1) := by decide +kernel
theorem d_LA_law_162 : decode code 162 = .ok (.iaload, 1) := by decide +kernel
theorem d_LA_law_163 : decode code 163 = .ok (.invokevirtual 37, 3) := by decide +kernel
theorem d_LA_law_166 : decode code 166 = .ok (.aload_n 2, 1) := by decide +kernel
theorem d_LA_law_167 : decode code 167 = .ok (.aload_n 0, 1) := by decide +kernel
theorem d_LA_law_168 : decode code 168 = .ok (.iload 4, 2) := by decide +kernel
theorem d_LA_law_170 : decode code 170 = .ok (.iconst 1, 1) := by decide +kernel
theorem d_LA_law_171 : decode code 171 = .ok (.iadd, 1) := by decide +kernel
theorem d_LA_law_172 : decode code 172 = .ok (.iaload, 1) := by decide +kernel
theorem d_LA_law_173 : decode code 173 = .ok (.aload_n 0, 1) := by decide +kernel
theorem d_LA_law_174 : decode code 174 = .ok (.iload 4, 2) := by decide +kernel
theorem d_LA_law_176 : decode code 176 = .ok (.iconst 2, 1) := by decide +kernel
theorem d_LA_law_177 : decode code 177 = .ok (.iadd, 1) := by decide +kernel
theorem d_LA_law_178 : decode code 178 = .ok (.iaload, 1) := by decide +kernel
theorem d_LA_law_179 : decode code 179 = .ok (.aload_n 0, 1) := by decide +kernel
theorem d_LA_law_180 : decode code 180 = .ok (.iload 4, 2) := by decide +kernel
theorem d_LA_law_182 : decode code 182 = .ok (.iconst 3, 1) := by decide +kernel
theorem d_LA_law_183 : decode code 183 = .ok (.iadd, 1) := by decide +kernel
theorem d_LA_law_184 : decode code 184 = .ok (.iaload, 1) := by decide +kernel
theorem d_LA_law_185 : decode code 185 = .ok (.aload_n 0, 1) := by decide +kernel
theorem d_LA_law_186 : decode code 186 = .ok (.iload 4, 2) := by decide +kernel
theorem d_LA_law_188 : decode code 188 = .ok (.iconst 4, 1) := by decide +kernel
theorem d_LA_law_189 : decode code 189 = .ok (.iadd, 1) := by decide +kernel
theorem d_LA_law_190 : decode code 190 = .ok (.iaload, 1) := by decide +kernel
theorem d_LA_law_191 : decode code 191 = .ok (.aload_n 0, 1) := by decide +kernel
theorem d_LA_law_192 : decode code 192 = .ok (.iload 4, 2) := by decide +kernel
theorem d_LA_law_194 : decode code 194 = .ok (.iconst 5, 1) := by decide +kernel
theorem d_LA_law_195 : decode code 195 = .ok (.iadd, 1) := by decide +kernel
theorem d_LA_law_196 : decode code 196 = .ok (.iaload, 1) := by decide +kernel
theorem d_LA_law_197 : decode code 197 = .ok (.invokevirtual 41, 3) := by decide +kernel
theorem d_LA_law_200 : decode code 200 = .ok (.goto 731, 3) := by decide +kernel
theorem d_LA_law_203 : decode code 203 = .ok (.aload_n 1, 1) := by decide +kernel
theorem d_LA_law_204 : decode code 204 = .ok (.aload_n 0, 1) := by decide +kernel
theorem d_LA_law_205 : decode code 205 = .ok (.iload 4, 2) := by decide +kernel
theorem d_LA_law_207 : decode code 207 = .ok (.iconst 1, 1) := by decide +kernel
theorem d_LA_law_208 : decode code 208 = .ok (.iadd, 1) := by decide +kernel
theorem d_LA_law_209 : decode code 209 = .ok (.iaload, 1) := by decide +kernel
theorem d_LA_law_210 : decode code 210 = .ok (.invokevirtual 42, 3) := by decide +kernel
theorem d_LA_law_213 : decode code 213 = .ok (.aload_n 2, 1) := by decide +kernel
theorem d_LA_law_214 : decode code 214 = .ok (.aload_n 0, 1) := by decide +kernel
theorem d_LA_law_215 : decode code 215 = .ok (.iload 4, 2) := by decide +kernel
theorem d_LA_law_217 : decode code 217 = .ok (.iconst 1, 1) := by decide +kernel
theorem d_LA_law_218 : decode code 218 = .ok (.iadd, 1) := by decide +kernel
theorem d_LA_law_219 : decode code 219 = .ok (.iaload, 1) := by decide +kernel
theorem d_LA_law_220 : decode code 220 = .ok (.invokevirtual 45, 3) := by decide +kernel
theorem d_LA_law_223 : decode code 223 = .ok (.if_icmp .eq 708, 3) := by decide +kernel
theorem d_LA_law_226 : decode code 226 = .ok (.iconst 0, 1) := by decide +kernel
theorem d_LA_law_227 : decode code 227 = .ok (.ireturn, 1) := by decide +kernel
theorem d_LA_law_228 : decode code 228 = .ok (.aload_n 1, 1) := by decide +kernel
theorem d_LA_law_229 : decode code 229 = .ok (.aload_n 0, 1) := by decide +kernel
theorem d_LA_law_230 : decode code 230 = .ok (.iload 4, 2) := by decide +kernel
theorem d_LA_law_232 : decode code 232 = .ok (.iconst 1, 1) := by decide +kernel
theorem d_LA_law_233 : decode code 233 = .ok (.iadd, 1) := by decide +kernel
theorem d_LA_law_234 : decode code 234 = .ok (.iaload, 1) := by decide +kernel
theorem d_LA_law_235 : decode code 235 = .ok (.aload_n 0, 1) := by decide +kernel
theorem d_LA_law_236 : decode code 236 = .ok (.iload 4, 2) := by decide +kernel
theorem d_LA_law_238 : decode code 238 = .ok (.iconst 2, 1) := by decide +kernel
theorem d_LA_law_239 : decode code 239 = .ok (.iadd, 1) := by decide +kernel
theorem d_LA_law_240 : decode code 240 = .ok (.iaload, 1) := by decide +kernel
theorem d_LA_law_241 : decode code 241 = .ok (.aload_n 3, 1) := by decide +kernel
theorem d_LA_law_242 : decode code 242 = .ok (.invokestatic 46, 3) := by decide +kernel
theorem d_LA_law_245 : decode code 245 = .ok (.istore 5, 2) := by decide +kernel
theorem d_LA_law_247 : decode code 247 = .ok (.aload_n 2, 1) := by decide +kernel
theorem d_LA_law_248 : decode code 248 = .ok (.aload_n 0, 1) := by decide +kernel
theorem d_LA_law_249 : decode code 249 = .ok (.iload 4, 2) := by decide +kernel
theorem d_LA_law_251 : decode code 251 = .ok (.iconst 1, 1) := by decide +kernel
theorem d_LA_law_252 : decode code 252 = .ok (.iadd, 1) := by decide +kernel
theorem d_LA_law_253 : decode code 253 = .ok (.iaload, 1) := by decide +kernel
theorem d_LA_law_254 : decode code 254 = .ok (.aload_n 0, 1) := by decide +kernel
theorem d_LA_law_255 : decode code 255 = .ok (.iload 4, 2) := by decide +kernel
theorem d_LA_law_257 : decode code 257 = .ok (.iconst 2, 1) := by decide +kernel
theorem d_LA_law_258 : decode code 258 = .ok (.iadd, 1) := by decide +kernel
theorem d_LA_law_259 : decode code 259 = .ok (.iaload, 1) := by decide +kernel
theorem d_LA_law_260 : decode code 260 = .ok (.invokevirtual 51, 3) := by decide +kernel
theorem d_LA_law_263 : decode code 263 = .ok (.istore 6, 2) := by decide +kernel
theorem d_LA_law_265 : decode code 265 = .ok (.aload_n 2, 1) := by decide +kernel
theorem d_LA_law_266 : decode code 266 = .ok (.invokevirtual 52, 3) := by decide +kernel
theorem d_LA_law_269 : decode code 269 = .ok (.iload 5, 2) := by decide +kernel
theorem d_LA_law_271 : decode code 271 = .ok (.if_icmp .eq 5, 3) := by decide +kernel
theorem d_LA_law_274 : decode code 274 = .ok (.iconst 0, 1) := by decide +kernel
theorem d_LA_law_275 : decode code 275 = .ok (.ireturn, 1) := by decide +kernel
theorem d_LA_law_276 : decode code 276 = .ok (.iload 5, 2) := by decide +kernel
theorem d_LA_law_278 : decode code 278 = .ok (.ifCond .ne 15, 3) := by decide +kernel
theorem d_LA_law_281 : decode code 281 = .ok (.aload_n 3, 1) := by decide +kernel
theorem d_LA_law_282 : decode code 282 = .ok (.iconst 0, 1) := by decide +kernel
theorem d_LA_law_283 : decode code 283 = .ok (.laload, 1) := by decide +kernel
theorem d_LA_law_284 : decode code 284 = .ok (.iload 6, 2) := by decide +kernel
theorem d_LA_law_286 : decode code 286 = .ok (.i2l, 1) := by decide +kernel
theorem d_LA_law_287 : decode code 287 = .ok (.lcmp, 1) := by decide +kernel
theorem d_LA_law_288 : decode code 288 = .ok (.ifCond .eq 5, 3) := by decide +kernel
theorem d_LA_law_291 : decode code 291 = .ok (.iconst 0, 1) := by decide +kernel
theorem d_LA_law_292 : decode code 292 = .ok (.ireturn, 1) := by decide +kernel
theorem d_LA_law_293 : decode code 293 = .ok (.goto 638, 3) := by decide +kernel
theorem d_LA_law_296 : decode code 296 = .ok (.aload_n 1, 1) := by decide +kernel
theorem d_LA_law_297 : decode code 297 = .ok (.aload_n 0, 1) := by decide +kernel
theorem d_LA_law_298 : decode code 298 = .ok (.iload 4, 2) := by decide +kernel
theorem d_LA_law_300 : decode code 300 = .ok (.iconst 1, 1) := by decide +kernel
theorem d_LA_law_301 : decode code 301 = .ok (.iadd, 1) := by decide +kernel
theorem d_LA_law_302 : decode code 302 = .ok (.iaload, 1) := by decide +kernel
theorem d_LA_law_303 : decode code 303 = .ok (.invokevirtual 56, 3) := by decide +kernel
theorem d_LA_law_306 : decode code 306 = .ok (.aload_n 2, 1) := by decide +kernel
theorem d_LA_law_307 : decode code 307 = .ok (.aload_n 0, 1) := by decide +kernel
theorem d_LA_law_308 : decode code 308 = .ok (.iload 4, 2) := by decide +kernel
theorem d_LA_law_310 : decode code 310 = .ok (.iconst 1, 1) := by decide +kernel
theorem d_LA_law_311 : decode code 311 = .ok (.iadd, 1) := by decide +kernel
theorem d_LA_law_312 : decode code 312 = .ok (.iaload, 1) := by decide +kernel
theorem d_LA_law_313 : decode code 313 = .ok (.invokevirtual 59, 3) := by decide +kernel
theorem d_LA_law_316 : decode code 316 = .ok (.if_icmp .eq 615, 3) := by decide +kernel
theorem d_LA_law_319 : decode code 319 = .ok (.iconst 0, 1) := by decide +kernel
theorem d_LA_law_320 : decode code 320 = .ok (.ireturn, 1) := by decide +kernel
theorem d_LA_law_321 : decode code 321 = .ok (.aload_n 1, 1) := by decide +kernel
theorem d_LA_law_322 : decode code 322 = .ok (.aload_n 0, 1) := by decide +kernel
theorem d_LA_law_323 : decode code 323 = .ok (.iload 4, 2) := by decide +kernel
theorem d_LA_law_325 : decode code 325 = .ok (.iconst 1, 1) := by decide +kernel
theorem d_LA_law_326 : decode code 326 = .ok (.iadd, 1) := by decide +kernel
theorem d_LA_law_327 : decode code 327 = .ok (.iaload, 1) := by decide +kernel
theorem d_LA_law_328 : decode code 328 = .ok (.aload_n 0, 1) := by decide +kernel
theorem d_LA_law_329 : decode code 329 = .ok (.iload 4, 2) := by decide +kernel
theorem d_LA_law_331 : decode code 331 = .ok (.iconst 2, 1) := by decide +kernel
theorem d_LA_law_332 : decode code 332 = .ok (.iadd, 1) := by decide +kernel
theorem d_LA_law_333 : decode code 333 = .ok (.iaload, 1) := by decide +kernel
theorem d_LA_law_334 : decode code 334 = .ok (.invokevirtual 60, 3) := by decide +kernel
theorem d_LA_law_337 : decode code 337 = .ok (.aload_n 2, 1) := by decide +kernel
theorem d_LA_law_338 : decode code 338 = .ok (.aload_n 0, 1) := by decide +kernel
theorem d_LA_law_339 : decode code 339 = .ok (.iload 4, 2) := by decide +kernel
theorem d_LA_law_341 : decode code 341 = .ok (.iconst 1, 1) := by decide +kernel
theorem d_LA_law_342 : decode code 342 = .ok (.iadd, 1) := by decide +kernel
theorem d_LA_law_343 : decode code 343 = .ok (.iaload, 1) := by decide +kernel
theorem d_LA_law_344 : decode code 344 = .ok (.aload_n 0, 1) := by decide +kernel
theorem d_LA_law_345 : decode code 345 = .ok (.iload 4, 2) := by decide +kernel
theorem d_LA_law_347 : decode code 347 = .ok (.iconst 2, 1) := by decide +kernel
theorem d_LA_law_348 : decode code 348 = .ok (.iadd, 1) := by decide +kernel
theorem d_LA_law_349 : decode code 349 = .ok (.iaload, 1) := by decide +kernel
theorem d_LA_law_350 : decode code 350 = .ok (.invokevirtual 63, 3) := by decide +kernel
theorem d_LA_law_353 : decode code 353 = .ok (.if_icmp .eq 578, 3) := by decide +kernel
theorem d_LA_law_356 : decode code 356 = .ok (.iconst 0, 1) := by decide +kernel
theorem d_LA_law_357 : decode code 357 = .ok (.ireturn, 1) := by decide +kernel
theorem d_LA_law_358 : decode code 358 = .ok (.aload_n 1, 1) := by decide +kernel
theorem d_LA_law_359 : decode code 359 = .ok (.aload_n 0, 1) := by decide +kernel
theorem d_LA_law_360 : decode code 360 = .ok (.iload 4, 2) := by decide +kernel
theorem d_LA_law_362 : decode code 362 = .ok (.iconst 1, 1) := by decide +kernel
theorem d_LA_law_363 : decode code 363 = .ok (.iadd, 1) := by decide +kernel
theorem d_LA_law_364 : decode code 364 = .ok (.iaload, 1) := by decide +kernel
theorem d_LA_law_365 : decode code 365 = .ok (.aload_n 0, 1) := by decide +kernel
theorem d_LA_law_366 : decode code 366 = .ok (.iload 4, 2) := by decide +kernel
theorem d_LA_law_368 : decode code 368 = .ok (.iconst 2, 1) := by decide +kernel
theorem d_LA_law_369 : decode code 369 = .ok (.iadd, 1) := by decide +kernel
theorem d_LA_law_370 : decode code 370 = .ok (.iaload, 1) := by decide +kernel
theorem d_LA_law_371 : decode code 371 = .ok (.aload_n 0, 1) := by decide +kernel
theorem d_LA_law_372 : decode code 372 = .ok (.iload 4, 2) := by decide +kernel
theorem d_LA_law_374 : decode code 374 = .ok (.iconst 3, 1) := by decide +kernel
theorem d_LA_law_375 : decode code 375 = .ok (.iadd, 1) := by decide +kernel
theorem d_LA_law_376 : decode code 376 = .ok (.iaload, 1) := by decide +kernel
theorem d_LA_law_377 : decode code 377 = .ok (.invokevirtual 64, 3) := by decide +kernel
theorem d_LA_law_380 : decode code 380 = .ok (.aload_n 2, 1) := by decide +kernel
theorem d_LA_law_381 : decode code 381 = .ok (.aload_n 0, 1) := by decide +kernel
theorem d_LA_law_382 : decode code 382 = .ok (.iload 4, 2) := by decide +kernel
theorem d_LA_law_384 : decode code 384 = .ok (.iconst 1, 1) := by decide +kernel
theorem d_LA_law_385 : decode code 385 = .ok (.iadd, 1) := by decide +kernel
theorem d_LA_law_386 : decode code 386 = .ok (.iaload, 1) := by decide +kernel
theorem d_LA_law_387 : decode code 387 = .ok (.aload_n 0, 1) := by decide +kernel
theorem d_LA_law_388 : decode code 388 = .ok (.iload 4, 2) := by decide +kernel
theorem d_LA_law_390 : decode code 390 = .ok (.iconst 2, 1) := by decide +kernel
theorem d_LA_law_391 : decode code 391 = .ok (.iadd, 1) := by decide +kernel
theorem d_LA_law_392 : decode code 392 = .ok (.iaload, 1) := by decide +kernel
theorem d_LA_law_393 : decode code 393 = .ok (.aload_n 0, 1) := by decide +kernel
theorem d_LA_law_394 : decode code 394 = .ok (.iload 4, 2) := by decide +kernel
theorem d_LA_law_396 : decode code 396 = .ok (.iconst 3, 1) := by decide +kernel
theorem d_LA_law_397 : decode code 397 = .ok (.iadd, 1) := by decide +kernel
theorem d_LA_law_398 : decode code 398 = .ok (.iaload, 1) := by decide +kernel
theorem d_LA_law_399 : decode code 399 = .ok (.invokevirtual 68, 3) := by decide +kernel
theorem d_LA_law_402 : decode code 402 = .ok (.if_icmp .eq 529, 3) := by decide +kernel
theorem d_LA_law_405 : decode code 405 = .ok (.iconst 0, 1) := by decide +kernel
theorem d_LA_law_406 : decode code 406 = .ok (.ireturn, 1) := by decide +kernel
theorem d_LA_law_407 : decode code 407 = .ok (.aload_n 1, 1) := by decide +kernel
theorem d_LA_law_408 : decode code 408 = .ok (.invokevirtual 69, 3) := by decide +kernel
theorem d_LA_law_411 : decode code 411 = .ok (.aload_n 2, 1) := by decide +kernel
theorem d_LA_law_412 : decode code 412 = .ok (.invokevirtual 72, 3) := by decide +kernel
theorem d_LA_law_415 : decode code 415 = .ok (.if_icmp .eq 516, 3) := by decide +kernel
theorem d_LA_law_418 : decode code 418 = .ok (.iconst 0, 1) := by decide +kernel
theorem d_LA_law_419 : decode code 419 = .ok (.ireturn, 1) := by decide +kernel
theorem d_LA_law_420 : decode code 420 = .ok (.aload_n 1, 1) := by decide +kernel
theorem d_LA_law_421 : decode code 421 = .ok (.aload_n 0, 1) := by decide +kernel
theorem d_LA_law_422 : decode code 422 = .ok (.iload 4, 2) := by decide +kernel
theorem d_LA_law_424 : decode code 424 = .ok (.iconst 1, 1) := by decide +kernel
theorem d_LA_law_425 : decode code 425 = .ok (.iadd, 1) := by decide +kernel
theorem d_LA_law_426 : decode code 426 = .ok (.iaload, 1) := by decide +kernel
theorem d_LA_law_427 : decode code 427 = .ok (.aload_n 0, 1) := by decide +kernel
theorem d_LA_law_428 : decode code 428 = .ok (.iload 4, 2) := by decide +kernel
theorem d_LA_law_430 : decode code 430 = .ok (.iconst 2, 1) := by decide +kernel
theorem d_LA_law_431 : decode code 431 = .ok (.iadd, 1) := by decide +kernel
theorem d_LA_law_432 : decode code 432 = .ok (.iaload, 1) := by decide +kernel
theorem d_LA_law_433 : decode code 433 = .ok (.aload_n 0, 1) := by decide +kernel
theorem d_LA_law_434 : decode code 434 = .ok (.iload 4, 2) := by decide +kernel
theorem d_LA_law_436 : decode code 436 = .ok (.iconst 3, 1) := by decide +kernel
theorem d_LA_law_437 : decode code 437 = .ok (.iadd, 1) := by decide +kernel
theorem d_LA_law_438 : decode code 438 = .ok (.iaload, 1) := by decide +kernel
theorem d_LA_law_439 : decode code 439 = .ok (.aload_n 0, 1) := by decide +kernel
theorem d_LA_law_440 : decode code 440 = .ok (.iload 4, 2) := by decide +kernel
theorem d_LA_law_442 : decode code 442 = .ok (.iconst 4, 1) := by decide +kernel
theorem d_LA_law_443 : decode code 443 = .ok (.iadd, 1) := by decide +kernel
theorem d_LA_law_444 : decode code 444 = .ok (.iaload, 1) := by decide +kernel
theorem d_LA_law_445 : decode code 445 = .ok (.aload_n 3, 1) := by decide +kernel
theorem d_LA_law_446 : decode code 446 = .ok (.invokestatic 73, 3) := by decide +kernel
theorem d_LA_law_449 : decode code 449 = .ok (.istore 5, 2) := by decide +kernel
theorem d_LA_law_451 : decode code 451 = .ok (.aload_n 2, 1) := by decide +kernel
theorem d_LA_law_452 : decode code 452 = .ok (.aload_n 0, 1) := by decide +kernel
theorem d_LA_law_453 : decode code 453 = .ok (.iload 4, 2) := by decide +kernel
theorem d_LA_law_455 : decode code 455 = .ok (.iconst 1, 1) := by decide +kernel
theorem d_LA_law_456 : decode code 456 = .ok (.iadd, 1) := by decide +kernel
theorem d_LA_law_457 : decode code 457 = .ok (.iaload, 1) := by decide +kernel
theorem d_LA_law_458 : decode code 458 = .ok (.aload_n 0, 1) := by decide +kernel
theorem d_LA_law_459 : decode code 459 = .ok (.iload 4, 2) := by decide +kernel
theorem d_LA_law_461 : decode code 461 = .ok (.iconst 2, 1) := by decide +kernel
theorem d_LA_law_462 : decode code 462 = .ok (.iadd, 1) := by decide +kernel
theorem d_LA_law_463 : decode code 463 = .ok (.iaload, 1) := by decide +kernel
theorem d_LA_law_464 : decode code 464 = .ok (.aload_n 0, 1) := by decide +kernel
theorem d_LA_law_465 : decode code 465 = .ok (.iload 4, 2) := by decide +kernel
theorem d_LA_law_467 : decode code 467 = .ok (.iconst 3, 1) := by decide +kernel
theorem d_LA_law_468 : decode code 468 = .ok (.iadd, 1) := by decide +kernel
theorem d_LA_law_469 : decode code 469 = .ok (.iaload, 1) := by decide +kernel
theorem d_LA_law_470 : decode code 470 = .ok (.aload_n 0, 1) := by decide +kernel
theorem d_LA_law_471 : decode code 471 = .ok (.iload 4, 2) := by decide +kernel
theorem d_LA_law_473 : decode code 473 = .ok (.iconst 4, 1) := by decide +kernel
theorem d_LA_law_474 : decode code 474 = .ok (.iadd, 1) := by decide +kernel
theorem d_LA_law_475 : decode code 475 = .ok (.iaload, 1) := by decide +kernel
theorem d_LA_law_476 : decode code 476 = .ok (.invokevirtual 76, 3) := by decide +kernel
theorem d_LA_law_479 : decode code 479 = .ok (.istore 6, 2) := by decide +kernel
theorem d_LA_law_481 : decode code 481 = .ok (.aload_n 2, 1) := by decide +kernel
theorem d_LA_law_482 : decode code 482 = .ok (.invokevirtual 52, 3) := by decide +kernel
theorem d_LA_law_485 : decode code 485 = .ok (.iload 5, 2) := by decide +kernel
theorem d_LA_law_487 : decode code 487 = .ok (.if_icmp .eq 5, 3) := by decide +kernel
theorem d_LA_law_490 : decode code 490 = .ok (.iconst 0, 1) := by decide +kernel
theorem d_LA_law_491 : decode code 491 = .ok (.ireturn, 1) := by decide +kernel
theorem d_LA_law_492 : decode code 492 = .ok (.iload 5, 2) := by decide +kernel
theorem d_LA_law_494 : decode code 494 = .ok (.ifCond .ne 15, 3) := by decide +kernel
theorem d_LA_law_497 : decode code 497 = .ok (.aload_n 3, 1) := by decide +kernel
theorem d_LA_law_498 : decode code 498 = .ok (.iconst 0, 1) := by decide +kernel
theorem d_LA_law_499 : decode code 499 = .ok (.laload, 1) := by decide +kernel
theorem d_LA_law_500 : decode code 500 = .ok (.iload 6, 2) := by decide +kernel
theorem d_LA_law_502 : decode code 502 = .ok (.i2l, 1) := by decide +kernel
theorem d_LA_law_503 : decode code 503 = .ok (.lcmp, 1) := by decide +kernel
theorem d_LA_law_504 : decode code 504 = .ok (.ifCond .eq 5, 3) := by decide +kernel
theorem d_LA_law_507 : decode code 507 = .ok (.iconst 0, 1) := by decide +kernel
theorem d_LA_law_508 : decode code 508 = .ok (.ireturn, 1) := by decide +kernel
theorem d_LA_law_509 : decode code 509 = .ok (.goto 422, 3) := by decide +kernel
theorem d_LA_law_512 : decode code 512 = .ok (.aload_n 1, 1) := by decide +kernel
theorem d_LA_law_513 : decode code 513 = .ok (.aload_n 0, 1) := by decide +kernel
theorem d_LA_law_514 : decode code 514 = .ok (.iload 4, 2) := by decide +kernel
theorem d_LA_law_516 : decode code 516 = .ok (.iconst 1, 1) := by decide +kernel
theorem d_LA_law_517 : decode code 517 = .ok (.iadd, 1) := by decide +kernel
theorem d_LA_law_518 : decode code 518 = .ok (.iaload, 1) := by decide +kernel
theorem d_LA_law_519 : decode code 519 = .ok (.aload_n 0, 1) := by decide +kernel
theorem d_LA_law_520 : decode code 520 = .ok (.iload 4, 2) := by decide +kernel
theorem d_LA_law_522 : decode code 522 = .ok (.iconst 2, 1) := by decide +kernel
theorem d_LA_law_523 : decode code 523 = .ok (.iadd, 1) := by decide +kernel
theorem d_LA_law_524 : decode code 524 = .ok (.iaload, 1) := by decide +kernel
theorem d_LA_law_525 : decode code 525 = .ok (.invokevirtual 77, 3) := by decide +kernel
theorem d_LA_law_528 : decode code 528 = .ok (.aload_n 2, 1) := by decide +kernel
theorem d_LA_law_529 : decode code 529 = .ok (.aload_n 0, 1) := by decide +kernel
theorem d_LA_law_530 : decode code 530 = .ok (.iload 4, 2) := by decide +kernel
theorem d_LA_law_532 : decode code 532 = .ok (.iconst 1, 1) := by decide +kernel
theorem d_LA_law_533 : decode code 533 = .ok (.iadd, 1) := by decide +kernel
theorem d_LA_law_534 : decode code 534 = .ok (.iaload, 1) := by decide +kernel
theorem d_LA_law_535 : decode code 535 = .ok (.aload_n 0, 1) := by decide +kernel
theorem d_LA_law_536 : decode code 536 = .ok (.iload 4, 2) := by decide +kernel
theorem d_LA_law_538 : decode code 538 = .ok (.iconst 2, 1) := by decide +kernel
theorem d_LA_law_539 : decode code 539 = .ok (.iadd, 1) := by decide +kernel
theorem d_LA_law_540 : decode code 540 = .ok (.iaload, 1) := by decide +kernel
theorem d_LA_law_541 : decode code 541 = .ok (.invokevirtual 80, 3) := by decide +kernel
theorem d_LA_law_544 : decode code 544 = .ok (.if_icmp .eq 387, 3) := by decide +kernel
theorem d_LA_law_547 : decode code 547 = .ok (.iconst 0, 1) := by decide +kernel
theorem d_LA_law_548 : decode code 548 = .ok (.ireturn, 1) := by decide +kernel
theorem d_LA_law_549 : decode code 549 = .ok (.aload_n 1, 1) := by decide +kernel
theorem d_LA_law_550 : decode code 550 = .ok (.aload_n 0, 1) := by decide +kernel
theorem d_LA_law_551 : decode code 551 = .ok (.iload 4, 2) := by decide +kernel
theorem d_LA_law_553 : decode code 553 = .ok (.iconst 1, 1) := by decide +kernel
theorem d_LA_law_554 : decode code 554 = .ok (.iadd, 1) := by decide +kernel
theorem d_LA_law_555 : decode code 555 = .ok (.iaload, 1) := by decide +kernel
theorem d_LA_law_556 : decode code 556 = .ok (.aload_n 3, 1) := by decide +kernel
theorem d_LA_law_557 : decode code 557 = .ok (.invokestatic 81, 3) := by decide +kernel
theorem d_LA_law_560 : decode code 560 = .ok (.istore 5, 2) := by decide +kernel
theorem d_LA_law_562 : decode code 562 = .ok (.aload_n 2, 1) := by decide +kernel
theorem d_LA_law_563 : decode code 563 = .ok (.aload_n 0, 1) := by decide +kernel
theorem d_LA_law_564 : decode code 564 = .ok (.iload 4, 2) := by decide +kernel
theorem d_LA_law_566 : decode code 566 = .ok (.iconst 1, 1) := by decide +kernel
theorem d_LA_law_567 : decode code 567 = .ok (.iadd, 1) := by decide +kernel
theorem d_LA_law_568 : decode code 568 = .ok (.iaload, 1) := by decide +kernel
theorem d_LA_law_569 : decode code 569 = .ok (.invokevirtual 84, 3) := by decide +kernel
theorem d_LA_law_572 : decode code 572 = .ok (.istore 6, 2) := by decide +kernel
theorem d_LA_law_574 : decode code 574 = .ok (.aload_n 2, 1) := by decide +kernel
theorem d_LA_law_575 : decode code 575 = .ok (.invokevirtual 52, 3) := by decide +kernel
theorem d_LA_law_578 : decode code 578 = .ok (.iload 5, 2) := by decide +kernel
theorem d_LA_law_580 : decode code 580 = .ok (.if_icmp .eq 5, 3) := by decide +kernel
theorem d_LA_law_583 : decode code 583 = .ok (.iconst 0, 1) := by decide +kernel
theorem d_LA_law_584 : decode code 584 = .ok (.ireturn, 1) := by decide +kernel
theorem d_LA_law_585 : decode code 585 = .ok (.iload 5, 2) := by decide +kernel
theorem d_LA_law_587 : decode code 587 = .ok (.ifCond .ne 15, 3) := by decide +kernel
theorem d_LA_law_590 : decode code 590 = .ok (.aload_n 3, 1) := by decide +kernel
theorem d_LA_law_591 : decode code 591 = .ok (.iconst 0, 1) := by decide +kernel
theorem d_LA_law_592 : decode code 592 = .ok (.laload, 1) := by decide +kernel
theorem d_LA_law_593 : decode code 593 = .ok (.iload 6, 2) := by decide +kernel
theorem d_LA_law_595 : decode code 595 = .ok (.i2l, 1) := by decide +kernel
theorem d_LA_law_596 : decode code 596 = .ok (.lcmp, 1) := by decide +kernel
theorem d_LA_law_597 : decode code 597 = .ok (.ifCond .eq 5, 3) := by decide +kernel
theorem d_LA_law_600 : decode code 600 = .ok (.iconst 0, 1) := by decide +kernel
theorem d_LA_law_601 : decode code 601 = .ok (.ireturn, 1) := by decide +kernel
theorem d_LA_law_602 : decode code 602 = .ok (.goto 329, 3) := by decide +kernel
theorem d_LA_law_605 : decode code 605 = .ok (.aload_n 1, 1) := by decide +kernel
theorem d_LA_law_606 : decode code 606 = .ok (.aload_n 0, 1) := by decide +kernel
theorem d_LA_law_607 : decode code 607 = .ok (.iload 4, 2) := by decide +kernel
theorem d_LA_law_609 : decode code 609 = .ok (.iconst 1, 1) := by decide +kernel
theorem d_LA_law_610 : decode code 610 = .ok (.iadd, 1) := by decide +kernel
theorem d_LA_law_611 : decode code 611 = .ok (.iaload, 1) := by decide +kernel
theorem d_LA_law_612 : decode code 612 = .ok (.aload_n 0, 1) := by decide +kernel
theorem d_LA_law_613 : decode code 613 = .ok (.iload 4, 2) := by decide +kernel
theorem d_LA_law_615 : decode code 615 = .ok (.iconst 2, 1) := by decide +kernel
theorem d_LA_law_616 : decode code 616 = .ok (.iadd, 1) := by decide +kernel
theorem d_LA_law_617 : decode code 617 = .ok (.iaload, 1) := by decide +kernel
theorem d_LA_law_618 : decode code 618 = .ok (.invokevirtual 85, 3) := by decide +kernel
theorem d_LA_law_621 : decode code 621 = .ok (.aload_n 2, 1) := by decide +kernel
theorem d_LA_law_622 : decode code 622 = .ok (.aload_n 0, 1) := by decide +kernel
theorem d_LA_law_623 : decode code 623 = .ok (.iload 4, 2) := by decide +kernel
theorem d_LA_law_625 : decode code 625 = .ok (.iconst 1, 1) := by decide +kernel
theorem d_LA_law_626 : decode code 626 = .ok (.iadd, 1) := by decide +kernel
theorem d_LA_law_627 : decode code 627 = .ok (.iaload, 1) := by decide +kernel
theorem d_LA_law_628 : decode code 628 = .ok (.aload_n 0, 1) := by decide +kernel
theorem d_LA_law_629 : decode code 629 = .ok (.iload 4, 2) := by decide +kernel
theorem d_LA_law_631 : decode code 631 = .ok (.iconst 2, 1) := by decide +kernel
theorem d_LA_law_632 : decode code 632 = .ok (.iadd, 1) := by decide +kernel
theorem d_LA_law_633 : decode code 633 = .ok (.iaload, 1) := by decide +kernel
theorem d_LA_law_634 : decode code 634 = .ok (.invokevirtual 88, 3) := by decide +kernel
theorem d_LA_law_637 : decode code 637 = .ok (.if_icmp .eq 294, 3) := by decide +kernel
theorem d_LA_law_640 : decode code 640 = .ok (.iconst 0, 1) := by decide +kernel
theorem d_LA_law_641 : decode code 641 = .ok (.ireturn, 1) := by decide +kernel
theorem d_LA_law_642 : decode code 642 = .ok (.aload_n 1, 1) := by decide +kernel
theorem d_LA_law_643 : decode code 643 = .ok (.aload_n 0, 1) := by decide +kernel
theorem d_LA_law_644 : decode code 644 = .ok (.iload 4, 2) := by decide +kernel
theorem d_LA_law_646 : decode code 646 = .ok (.iconst 1, 1) := by decide +kernel
theorem d_LA_law_647 : decode code 647 = .ok (.iadd, 1) := by decide +kernel
theorem d_LA_law_648 : decode code 648 = .ok (.iaload, 1) := by decide +kernel
theorem d_LA_law_649 : decode code 649 = .ok (.aload_n 3, 1) := by decide +kernel
theorem d_LA_law_650 : decode code 650 = .ok (.invokestatic 89, 3) := by decide +kernel
theorem d_LA_law_653 : decode code 653 = .ok (.istore 5, 2) := by decide +kernel
theorem d_LA_law_655 : decode code 655 = .ok (.aload_n 2, 1) := by decide +kernel
theorem d_LA_law_656 : decode code 656 = .ok (.aload_n 0, 1) := by decide +kernel
theorem d_LA_law_657 : decode code 657 = .ok (.iload 4, 2) := by decide +kernel
theorem d_LA_law_659 : decode code 659 = .ok (.iconst 1, 1) := by decide +kernel
theorem d_LA_law_660 : decode code 660 = .ok (.iadd, 1) := by decide +kernel
theorem d_LA_law_661 : decode code 661 = .ok (.iaload, 1) := by decide +kernel
theorem d_LA_law_662 : decode code 662 = .ok (.invokevirtual 91, 3) := by decide +kernel
theorem d_LA_law_665 : decode code 665 = .ok (.istore 6, 2) := by decide +kernel
theorem d_LA_law_667 : decode code 667 = .ok (.aload_n 2, 1) := by decide +kernel
theorem d_LA_law_668 : decode code 668 = .ok (.invokevirtual 52, 3) := by decide +kernel
theorem d_LA_law_671 : decode code 671 = .ok (.iload 5, 2) := by decide +kernel
theorem d_LA_law_673 : decode code 673 = .ok (.if_icmp .eq 5, 3) := by decide +kernel
theorem d_LA_law_676 : decode code 676 = .ok (.iconst 0, 1) := by decide +kernel
theorem d_LA_law_677 : decode code 677 = .ok (.ireturn, 1) := by decide +kernel
theorem d_LA_law_678 : decode code 678 = .ok (.iload 5, 2) := by decide +kernel
theorem d_LA_law_680 : decode code 680 = .ok (.ifCond .ne 15, 3) := by decide +kernel
theorem d_LA_law_683 : decode code 683 = .ok (.aload_n 3, 1) := by decide +kernel
theorem d_LA_law_684 : decode code 684 = .ok (.iconst 0, 1) := by decide +kernel
theorem d_LA_law_685 : decode code 685 = .ok (.laload, 1) := by decide +kernel
theorem d_LA_law_686 : decode code 686 = .ok (.iload 6, 2) := by decide +kernel
theorem d_LA_law_688 : decode code 688 = .ok (.i2l, 1) := by decide +kernel
theorem d_LA_law_689 : decode code 689 = .ok (.lcmp, 1) := by decide +kernel
theorem d_LA_law_690 : decode code 690 = .ok (.ifCond .eq 5, 3) := by decide +kernel
theorem d_LA_law_693 : decode code 693 = .ok (.iconst 0, 1) := by decide +kernel
theorem d_LA_law_694 : decode code 694 = .ok (.ireturn, 1) := by decide +kernel
theorem d_LA_law_695 : decode code 695 = .ok (.goto 236, 3) := by decide +kernel
theorem d_LA_law_698 : decode code 698 = .ok (.aload_n 1, 1) := by decide +kernel
theorem d_LA_law_699 : decode code 699 = .ok (.aload_n 0, 1) := by decide +kernel
theorem d_LA_law_700 : decode code 700 = .ok (.iload 4, 2) := by decide +kernel
theorem d_LA_law_702 : decode code 702 = .ok (.iconst 1, 1) := by decide +kernel
theorem d_LA_law_703 : decode code 703 = .ok (.iadd, 1) := by decide +kernel
theorem d_LA_law_704 : decode code 704 = .ok (.iaload, 1) := by decide +kernel
theorem d_LA_law_705 : decode code 705 = .ok (.aload_n 3, 1) := by decide +kernel
theorem d_LA_law_706 : decode code 706 = .ok (.invokestatic 92, 3) := by decide +kernel
theorem d_LA_law_709 : decode code 709 = .ok (.istore 5, 2) := by decide +kernel
theorem d_LA_law_711 : decode code 711 = .ok (.aload_n 2, 1) := by decide +kernel
theorem d_LA_law_712 : decode code 712 = .ok (.aload_n 0, 1) := by decide +kernel
theorem d_LA_law_713 : decode code 713 = .ok (.iload 4, 2) := by decide +kernel
theorem d_LA_law_715 : decode code 715 = .ok (.iconst 1, 1) := by decide +kernel
theorem d_LA_law_716 : decode code 716 = .ok (.iadd, 1) := by decide +kernel
theorem d_LA_law_717 : decode code 717 = .ok (.iaload, 1) := by decide +kernel
theorem d_LA_law_718 : decode code 718 = .ok (.invokevirtual 94, 3) := by decide +kernel
theorem d_LA_law_721 : decode code 721 = .ok (.istore 6, 2) := by decide +kernel
theorem d_LA_law_723 : decode code 723 = .ok (.aload_n 2, 1) := by decide +kernel
theorem d_LA_law_724 : decode code 724 = .ok (.invokevirtual 52, 3) := by decide +kernel
theorem d_LA_law_727 : decode code 727 = .ok (.iload 5, 2) := by decide +kernel
theorem d_LA_law_729 : decode code 729 = .ok (.if_icmp .eq 5, 3) := by decide +kernel
theorem d_LA_law_732 : decode code 732 = .ok (.iconst 0, 1) := by decide +kernel
theorem d_LA_law_733 : decode code 733 = .ok (.ireturn, 1) := by decide +kernel
theorem d_LA_law_734 : decode code 734 = .ok (.iload 5, 2) := by decide +kernel
theorem d_LA_law_736 : decode code 736 = .ok (.ifCond .ne 15, 3) := by decide +kernel
theorem d_LA_law_739 : decode code 739 = .ok (.aload_n 3, 1) := by decide +kernel
theorem d_LA_law_740 : decode code 740 = .ok (.iconst 0, 1) := by decide +kernel
theorem d_LA_law_741 : decode code 741 = .ok (.laload, 1) := by decide +kernel
theorem d_LA_law_742 : decode code 742 = .ok (.iload 6, 2) := by decide +kernel
theorem d_LA_law_744 : decode code 744 = .ok (.i2l, 1) := by decide +kernel
theorem d_LA_law_745 : decode code 745 = .ok (.lcmp, 1) := by decide +kernel
theorem d_LA_law_746 : decode code 746 = .ok (.ifCond .eq 5, 3) := by decide +kernel
theorem d_LA_law_749 : decode code 749 = .ok (.iconst 0, 1) := by decide +kernel
theorem d_LA_law_750 : decode code 750 = .ok (.ireturn, 1) := by decide +kernel
theorem d_LA_law_751 : decode code 751 = .ok (.goto 180, 3) := by decide +kernel
theorem d_LA_law_754 : decode code 754 = .ok (.aload_n 1, 1) := by decide +kernel
theorem d_LA_law_755 : decode code 755 = .ok (.aload_n 0, 1) := by decide +kernel
theorem d_LA_law_756 : decode code 756 = .ok (.iload 4, 2) := by decide +kernel
theorem d_LA_law_758 : decode code 758 = .ok (.iconst 1, 1) := by decide +kernel
theorem d_LA_law_759 : decode code 759 = .ok (.iadd, 1) := by decide +kernel
theorem d_LA_law_760 : decode code 760 = .ok (.iaload, 1) := by decide +kernel
theorem d_LA_law_761 : decode code 761 = .ok (.aload_n 0, 1) := by decide +kernel
theorem d_LA_law_762 : decode code 762 = .ok (.iload 4, 2) := by decide +kernel
theorem d_LA_law_764 : decode code 764 = .ok (.iconst 2, 1) := by decide +kernel
theorem d_LA_law_765 : decode code 765 = .ok (.iadd, 1) := by decide +kernel
theorem d_LA_law_766 : decode code 766 = .ok (.iaload, 1) := by decide +kernel
theorem d_LA_law_767 : decode code 767 = .ok (.invokevirtual 95, 3) := by decide +kernel
theorem d_LA_law_770 : decode code 770 = .ok (.aload_n 2, 1) := by decide +kernel
theorem d_LA_law_771 : decode code 771 = .ok (.aload_n 0, 1) := by decide +kernel
theorem d_LA_law_772 : decode code 772 = .ok (.iload 4, 2) := by decide +kernel
theorem d_LA_law_774 : decode code 774 = .ok (.iconst 1, 1) := by decide +kernel
theorem d_LA_law_775 : decode code 775 = .ok (.iadd, 1) := by decide +kernel
theorem d_LA_law_776 : decode code 776 = .ok (.iaload, 1) := by decide +kernel
theorem d_LA_law_777 : decode code 777 = .ok (.aload_n 0, 1) := by decide +kernel
theorem d_LA_law_778 : decode code 778 = .ok (.iload 4, 2) := by decide +kernel
theorem d_LA_law_780 : decode code 780 = .ok (.iconst 2, 1) := by decide +kernel
theorem d_LA_law_781 : decode code 781 = .ok (.iadd, 1) := by decide +kernel
theorem d_LA_law_782 : decode code 782 = .ok (.iaload, 1) := by decide +kernel
theorem d_LA_law_783 : decode code 783 = .ok (.invokevirtual 98, 3) := by decide +kernel
theorem d_LA_law_786 : decode code 786 = .ok (.if_icmp .eq 145, 3) := by decide +kernel
theorem d_LA_law_789 : decode code 789 = .ok (.iconst 0, 1) := by decide +kernel
theorem d_LA_law_790 : decode code 790 = .ok (.ireturn, 1) := by decide +kernel
theorem d_LA_law_791 : decode code 791 = .ok (.aload_n 1, 1) := by decide +kernel
theorem d_LA_law_792 : decode code 792 = .ok (.aload_n 0, 1) := by decide +kernel
theorem d_LA_law_793 : decode code 793 = .ok (.iload 4, 2) := by decide +kernel
theorem d_LA_law_795 : decode code 795 = .ok (.iconst 1, 1) := by decide +kernel
theorem d_LA_law_796 : decode code 796 = .ok (.iadd, 1) := by decide +kernel
theorem d_LA_law_797 : decode code 797 = .ok (.iaload, 1) := by decide +kernel
theorem d_LA_law_798 : decode code 798 = .ok (.aload_n 0, 1) := by decide +kernel
theorem d_LA_law_799 : decode code 799 = .ok (.iload 4, 2) := by decide +kernel
theorem d_LA_law_801 : decode code 801 = .ok (.iconst 2, 1) := by decide +kernel
theorem d_LA_law_802 : decode code 802 = .ok (.iadd, 1) := by decide +kernel
theorem d_LA_law_803 : decode code 803 = .ok (.iaload, 1) := by decide +kernel
theorem d_LA_law_804 : decode code 804 = .ok (.ifCond .eq 7, 3) := by decide +kernel
theorem d_LA_law_807 : decode code 807 = .ok (.iconst 1, 1) := by decide +kernel
theorem d_LA_law_808 : decode code 808 = .ok (.goto 4, 3) := by decide +kernel
theorem d_LA_law_811 : decode code 811 = .ok (.iconst 0, 1) := by decide +kernel
theorem d_LA_law_812 : decode code 812 = .ok (.invokevirtual 99, 3) := by decide +kernel
theorem d_LA_law_815 : decode code 815 = .ok (.aload_n 2, 1) := by decide +kernel
theorem d_LA_law_816 : decode code 816 = .ok (.aload_n 0, 1) := by decide +kernel
theorem d_LA_law_817 : decode code 817 = .ok (.iload 4, 2) := by decide +kernel
theorem d_LA_law_819 : decode code 819 = .ok (.iconst 1, 1) := by decide +kernel
theorem d_LA_law_820 : decode code 820 = .ok (.iadd, 1) := by decide +kernel
theorem d_LA_law_821 : decode code 821 = .ok (.iaload, 1) := by decide +kernel
theorem d_LA_law_822 : decode code 822 = .ok (.aload_n 0, 1) := by decide +kernel
theorem d_LA_law_823 : decode code 823 = .ok (.iload 4, 2) := by decide +kernel
theorem d_LA_law_825 : decode code 825 = .ok (.iconst 2, 1) := by decide +kernel
theorem d_LA_law_826 : decode code 826 = .ok (.iadd, 1) := by decide +kernel
theorem d_LA_law_827 : decode code 827 = .ok (.iaload, 1) := by decide +kernel
theorem d_LA_law_828 : decode code 828 = .ok (.ifCond .eq 7, 3) := by decide +kernel
theorem d_LA_law_831 : decode code 831 = .ok (.iconst 1, 1) := by decide +kernel
theorem d_LA_law_832 : decode code 832 = .ok (.goto 4, 3) := by decide +kernel
theorem d_LA_law_835 : decode code 835 = .ok (.iconst 0, 1) := by decide +kernel
theorem d_LA_law_836 : decode code 836 = .ok (.invokevirtual 103, 3) := by decide +kernel
theorem d_LA_law_839 : decode code 839 = .ok (.if_icmp .eq 92, 3) := by decide +kernel
theorem d_LA_law_842 : decode code 842 = .ok (.iconst 0, 1) := by decide +kernel
theorem d_LA_law_843 : decode code 843 = .ok (.ireturn, 1) := by decide +kernel
theorem d_LA_law_844 : decode code 844 = .ok (.aload_n 1, 1) := by decide +kernel
theorem d_LA_law_845 : decode code 845 = .ok (.invokevirtual 104, 3) := by decide +kernel
theorem d_LA_law_848 : decode code 848 = .ok (.aload_n 2, 1) := by decide +kernel
theorem d_LA_law_849 : decode code 849 = .ok (.invokevirtual 107, 3) := by decide +kernel
theorem d_LA_law_852 : decode code 852 = .ok (.if_icmp .eq 79, 3) := by decide +kernel
theorem d_LA_law_855 : decode code 855 = .ok (.iconst 0, 1) := by decide +kernel
theorem d_LA_law_856 : decode code 856 = .ok (.ireturn, 1) := by decide +kernel
theorem d_LA_law_857 : decode code 857 = .ok (.aload_n 1, 1) := by decide +kernel
theorem d_LA_law_858 : decode code 858 = .ok (.aload_n 0, 1) := by decide +kernel
theorem d_LA_law_859 : decode code 859 = .ok (.iload 4, 2) := by decide +kernel
theorem d_LA_law_861 : decode code 861 = .ok (.iconst 1, 1) := by decide +kernel
theorem d_LA_law_862 : decode code 862 = .ok (.iadd, 1) := by decide +kernel
theorem d_LA_law_863 : decode code 863 = .ok (.iaload, 1) := by decide +kernel
theorem d_LA_law_864 : decode code 864 = .ok (.invokevirtual 108, 3) := by decide +kernel
theorem d_LA_law_867 : decode code 867 = .ok (.aload_n 2, 1) := by decide +kernel
theorem d_LA_law_868 : decode code 868 = .ok (.aload_n 0, 1) := by decide +kernel
theorem d_LA_law_869 : decode code 869 = .ok (.iload 4, 2) := by decide +kernel
theorem d_LA_law_871 : decode code 871 = .ok (.iconst 1, 1) := by decide +kernel
theorem d_LA_law_872 : decode code 872 = .ok (.iadd, 1) := by decide +kernel
theorem d_LA_law_873 : decode code 873 = .ok (.iaload, 1) := by decide +kernel
theorem d_LA_law_874 : decode code 874 = .ok (.invokevirtual 111, 3) := by decide +kernel
theorem d_LA_law_877 : decode code 877 = .ok (.if_icmp .eq 54, 3) := by decide +kernel
theorem d_LA_law_880 : decode code 880 = .ok (.iconst 0, 1) := by decide +kernel
theorem d_LA_law_881 : decode code 881 = .ok (.ireturn, 1) := by decide +kernel
theorem d_LA_law_882 : decode code 882 = .ok (.aload_n 1, 1) := by decide +kernel
theorem d_LA_law_883 : decode code 883 = .ok (.aload_n 0, 1) := by decide +kernel
theorem d_LA_law_884 : decode code 884 = .ok (.iload 4, 2) := by decide +kernel
theorem d_LA_law_886 : decode code 886 = .ok (.iconst 1, 1) := by decide +kernel
theorem d_LA_law_887 : decode code 887 = .ok (.iadd, 1) := by decide +kernel
theorem d_LA_law_888 : decode code 888 = .ok (.iaload, 1) := by decide +kernel
theorem d_LA_law_889 : decode code 889 = .ok (.invokestatic 112, 3) := by decide +kernel
theorem d_LA_law_892 : decode code 892 = .ok (.istore 5, 2) := by decide +kernel
theorem d_LA_law_894 : decode code 894 = .ok (.aload_n 2, 1) := by decide +kernel
theorem d_LA_law_895 : decode code 895 = .ok (.aload_n 0, 1) := by decide +kernel
theorem d_LA_law_896 : decode code 896 = .ok (.iload 4, 2) := by decide +kernel
theorem d_LA_law_898 : decode code 898 = .ok (.iconst 1, 1) := by decide +kernel
theorem d_LA_law_899 : decode code 899 = .ok (.iadd, 1) := by decide +kernel
theorem d_LA_law_900 : decode code 900 = .ok (.iaload, 1) := by decide +kernel
theorem d_LA_law_901 : decode code 901 = .ok (.invokevirtual 115, 3) := by decide +kernel
theorem d_LA_law_904 : decode code 904 = .ok (.aload_n 2, 1) := by decide +kernel
theorem d_LA_law_905 : decode code 905 = .ok (.invokevirtual 52, 3) := by decide +kernel
theorem d_LA_law_908 : decode code 908 = .ok (.iload 5, 2) := by decide +kernel
theorem d_LA_law_910 : decode code 910 = .ok (.if_icmp .eq 5, 3) := by decide +kernel
theorem d_LA_law_913 : decode code 913 = .ok (.iconst 0, 1) := by decide +kernel
theorem d_LA_law_914 : decode code 914 = .ok (.ireturn, 1) := by decide +kernel
theorem d_LA_law_915 : decode code 915 = .ok (.goto 16, 3) := by decide +kernel
theorem d_LA_law_918 : decode code 918 = .ok (.aload_n 1, 1) := by decide +kernel
theorem d_LA_law_919 : decode code 919 = .ok (.invokevirtual 116, 3) := by decide +kernel
theorem d_LA_law_922 : decode code 922 = .ok (.aload_n 2, 1) := by decide +kernel
theorem d_LA_law_923 : decode code 923 = .ok (.invokevirtual 119, 3) := by decide +kernel
theorem d_LA_law_926 : decode code 926 = .ok (.if_icmp .eq 5, 3) := by decide +kernel
theorem d_LA_law_929 : decode code 929 = .ok (.iconst 0, 1) := by decide +kernel
theorem d_LA_law_930 : decode code 930 = .ok (.ireturn, 1) := by decide +kernel
theorem d_LA_law_931 : decode code 931 = .ok (.iinc 4 6, 3) := by decide +kernel
theorem d_LA_law_934 : decode code 934 = .ok (.goto (-911), 3) := by decide +kernel
theorem d_LA_law_937 : decode code 937 = .ok (.iconst 1, 1) := by decide +kernel
theorem d_LA_law_938 : decode code 938 = .ok (.ireturn, 1) := by decide +kernel
