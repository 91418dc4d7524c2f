theorem d_LA_law_0 : decode code 0 = .ok (.new 8, 3) := by decide +kernel
theorem d_LA_law_3 : decode code 3 = .ok (.dup, 1) := by decide +kernel
theorem d_LA_law_4 : decode code 4 = .ok (.invokespecial 33, 3) := by decide +kernel
theorem d_LA_law_7 : decode code 7 = .ok (.astore_n 1, 1) := by decide +kernel
theorem d_LA_law_8 : decode code 8 = .ok (.new 34, 3) := by decide +kernel
theorem d_LA_law_11 : decode code 11 = .ok (.dup, 1) := by decide +kernel
theorem d_LA_law_12 : decode code 12 = .ok (.invokespecial 36, 3) := by decide +kernel
theorem d_LA_law_15 : decode code 15 = .ok (.astore_n 2, 1) := by decide +kernel
theorem d_LA_law_16 : decode code 16 = .ok (.iconst 1, 1) := by decide +kernel
theorem d_LA_law_17 : decode code 17 = .ok (.newarray .long, 2) := by decide +kernel
theorem d_LA_law_19 : decode code 19 = .ok (.astore_n 3, 1) := by decide +kernel
theorem d_LA_law_20 : decode code 20 = .ok (.iconst 0, 1) := by decide +kernel
theorem d_LA_law_21 : decode code 21 = .ok (.istore 4, 2) := by decide +kernel
theorem d_LA_law_23 : decode code 23 = .ok (.iload 4, 2) := by decide +kernel
theorem d_LA_law_25 : decode code 25 = .ok (.aload_n 0, 1) := by decide +kernel
theorem d_LA_law_26 : decode code 26 = .ok (.arraylength, 1) := by decide +kernel
theorem d_LA_law_27 : decode code 27 = .ok (.bipush 6, 2) := by decide +kernel
theorem d_LA_law_29 : decode code 29 = .ok (.isub, 1) := by decide +kernel
theorem d_LA_law_30 : decode code 30 = .ok (.if_icmp .gt 756, 3) := by decide +kernel
theorem d_LA_law_33 : decode code 33 = .ok (.aload_n 0, 1) := by decide +kernel
theorem d_LA_law_34 : decode code 34 = .ok (.iload 4, 2) := by decide +kernel
theorem d_LA_law_36 : decode code 36 = .ok (.iaload, 1) := by decide +kernel
theorem d_LA_law_37 : decode code 37 = .ok (.bipush 31, 2) := by decide +kernel
theorem d_LA_law_39 : decode code 39 = .ok (.iand, 1) := by decide +kernel
theorem d_LA_law_40 : decode code 40 = .ok (.tableswitch 740 0 18 #[92, 163, 188, 228, 253, 290, 339, 352, 416, 453, 481, 518, 546, 574, 611, 664, 677, 702, 727], 92) := by decide +kernel
theorem d_LA_law_132 : decode code 132 = .ok (.aload_n 1, 1) := by decide +kernel
theorem d_LA_law_133 : decode code 133 = .ok (.aload_n 0, 1) := by decide +kernel
theorem d_LA_law_134 : decode code 134 = .ok (.iload 4, 2) := by decide +kernel
theorem d_LA_law_136 : decode code 136 = .ok (.iconst 1, 1) := by decide +kernel
theorem d_LA_law_137 : decode code 137 = .ok (.iadd, 1) := by decide +kernel
theorem d_LA_law_138 : decode code 138 = .ok (.iaload, 1) := by decide +kernel
theorem d_LA_law_139 : decode code 139 = .ok (.aload_n 0, 1) := by decide +kernel
theorem d_LA_law_140 : decode code 140 = .ok (.iload 4, 2) := by decide +kernel
theorem d_LA_law_142 : decode code 142 = .ok (.iconst 2, 1) := by decide +kernel
theorem d_LA_law_143 : decode code 143 = .ok (.iadd, 1) := by decide +kernel
theorem d_LA_law_144 : decode code 144 = .ok (.iaload, 1) := by decide +kernel
theorem d_LA_law_145 : decode code 145 = .ok (.aload_n 0, 1) := by decide +kernel
theorem d_LA_law_146 : decode code 146 = .ok (.iload 4, 2) := by decide +kernel
theorem d_LA_law_148 : decode code 148 = .ok (.iconst 3, 1) := by decide +kernel
theorem d_LA_law_149 : decode code 149 = .ok (.iadd, 1) := by decide +kernel
theorem d_LA_law_150 : decode code 150 = .ok (.iaload, 1) := by decide +kernel
theorem d_LA_law_151 : decode code 151 = .ok (.aload_n 0, 1) := by decide +kernel
theorem d_LA_law_152 : decode code 152 = .ok (.iload 4, 2) := by decide +kernel
theorem d_LA_law_154 : decode code 154 = .ok (.iconst 4, 1) := by decide +kernel
theorem d_LA_law_155 : decode code 155 = .ok (.iadd, 1) := by decide +kernel
theorem d_LA_law_156 : decode code 156 = .ok (.iaload, 1) := by decide +kernel
theorem d_LA_law_157 : decode code 157 = .ok (.aload_n 0, 1) := by decide +kernel
theorem d_LA_law_158 : decode code 158 = .ok (.iload 4, 2) := by decide +kernel
theorem d_LA_law_160 : decode code 160 = .ok (.iconst 5, 1) := by decide +kernel
theorem d_LA_law_161 : decode code 161 = .ok (.iadd, 1) := by decide +kernel
theorem d_LA_law_162 : decode code 162 = .ok (.iaload, 1) := by decide +kernel
theorem d_LA_law_163 : decode code 163 = .ok (.invokevirtual 37, 3) := by decide +kernel
theorem d_LA_law_166 : decode code 166 = .ok (.aload_n 2, 1) := by decide +kernel
theorem d_LA_law_167 : decode code 167 = .ok (.aload_n 0, 1) := by decide +kernel
theorem d_LA_law_168 : decode code 168 = .ok (.iload 4, 2) := by decide +kernel
theorem d_LA_law_170 : decode code 170 = .ok (.iconst 1, 1) := by decide +kernel
theorem d_LA_law_171 : decode code 171 = .ok (.iadd, 1) := by decide +kernel
theorem d_LA_law_172 : decode code 172 = .ok (.iaload, 1) := by decide +kernel
theorem d_LA_law_173 : decode code 173 = .ok (.aload_n 0, 1) := by decide +kernel
theorem d_LA_law_174 : decode code 174 = .ok (.iload 4, 2) := by decide +kernel
theorem d_LA_law_176 : decode code 176 = .ok (.iconst 2, 1) := by decide +kernel
theorem d_LA_law_177 : decode code 177 = .ok (.iadd, 1) := by decide +kernel
theorem d_LA_law_178 : decode code 178 = .ok (.iaload, 1) := by decide +kernel
theorem d_LA_law_179 : decode code 179 = .ok (.aload_n 0, 1) := by decide +kernel
theorem d_LA_law_180 : decode code 180 = .ok (.iload 4, 2) := by decide +kernel
theorem d_LA_law_182 : decode code 182 = .ok (.iconst 3, 1) := by decide +kernel
theorem d_LA_law_183 : decode code 183 = .ok (.iadd, 1) := by decide +kernel
theorem d_LA_law_184 : decode code 184 = .ok (.iaload, 1) := by decide +kernel
theorem d_LA_law_185 : decode code 185 = .ok (.aload_n 0, 1) := by decide +kernel
theorem d_LA_law_186 : decode code 186 = .ok (.iload 4, 2) := by decide +kernel
theorem d_LA_law_188 : decode code 188 = .ok (.iconst 4, 1) := by decide +kernel
theorem d_LA_law_189 : decode code 189 = .ok (.iadd, 1) := by decide +kernel
theorem d_LA_law_190 : decode code 190 = .ok (.iaload, 1) := by decide +kernel
theorem d_LA_law_191 : decode code 191 = .ok (.aload_n 0, 1) := by decide +kernel
theorem d_LA_law_192 : decode code 192 = .ok (.iload 4, 2) := by decide +kernel
theorem d_LA_law_194 : decode code 194 = .ok (.iconst 5, 1) := by decide +kernel
theorem d_LA_law_195 : decode code 195 = .ok (.iadd, 1) := by decide +kernel
theorem d_LA_law_196 : decode code 196 = .ok (.iaload, 1) := by decide +kernel
theorem d_LA_law_197 : decode code 197 = .ok (.invokevirtual 41, 3) := by decide +kernel
theorem d_LA_law_200 : decode code 200 = .ok (.goto 580, 3) := by decide +kernel
theorem d_LA_law_203 : decode code 203 = .ok (.aload_n 1, 1) := by decide +kernel
theorem d_LA_law_204 : decode code 204 = .ok (.aload_n 0, 1) := by decide +kernel
theorem d_LA_law_205 : decode code 205 = .ok (.iload 4, 2) := by decide +kernel
theorem d_LA_law_207 : decode code 207 = .ok (.iconst 1, 1) := by decide +kernel
theorem d_LA_law_208 : decode code 208 = .ok (.iadd, 1) := by decide +kernel
theorem d_LA_law_209 : decode code 209 = .ok (.iaload, 1) := by decide +kernel
theorem d_LA_law_210 : decode code 210 = .ok (.invokevirtual 42, 3) := by decide +kernel
theorem d_LA_law_213 : decode code 213 = .ok (.pop, 1) := by decide +kernel
theorem d_LA_law_214 : decode code 214 = .ok (.aload_n 2, 1) := by decide +kernel
theorem d_LA_law_215 : decode code 215 = .ok (.aload_n 0, 1) := by decide +kernel
theorem d_LA_law_216 : decode code 216 = .ok (.iload 4, 2) := by decide +kernel
theorem d_LA_law_218 : decode code 218 = .ok (.iconst 1, 1) := by decide +kernel
theorem d_LA_law_219 : decode code 219 = .ok (.iadd, 1) := by decide +kernel
theorem d_LA_law_220 : decode code 220 = .ok (.iaload, 1) := by decide +kernel
theorem d_LA_law_221 : decode code 221 = .ok (.invokevirtual 45, 3) := by decide +kernel
theorem d_LA_law_224 : decode code 224 = .ok (.pop, 1) := by decide +kernel
theorem d_LA_law_225 : decode code 225 = .ok (.goto 555, 3) := by decide +kernel
theorem d_LA_law_228 : decode code 228 = .ok (.aload_n 1, 1) := by decide +kernel
theorem d_LA_law_229 : decode code 229 = .ok (.aload_n 0, 1) := by decide +kernel
theorem d_LA_law_230 : decode code 230 = .ok (.iload 4, 2) := by decide +kernel
theorem d_LA_law_232 : decode code 232 = .ok (.iconst 1, 1) := by decide +kernel
theorem d_LA_law_233 : decode code 233 = .ok (.iadd, 1) := by decide +kernel
theorem d_LA_law_234 : decode code 234 = .ok (.iaload, 1) := by decide +kernel
theorem d_LA_law_235 : decode code 235 = .ok (.aload_n 0, 1) := by decide +kernel
theorem d_LA_law_236 : decode code 236 = .ok (.iload 4, 2) := by decide +kernel
theorem d_LA_law_238 : decode code 238 = .ok (.iconst 2, 1) := by decide +kernel
theorem d_LA_law_239 : decode code 239 = .ok (.iadd, 1) := by decide +kernel
theorem d_LA_law_240 : decode code 240 = .ok (.iaload, 1) := by decide +kernel
theorem d_LA_law_241 : decode code 241 = .ok (.aload_n 3, 1) := by decide +kernel
theorem d_LA_law_242 : decode code 242 = .ok (.invokestatic 46, 3) := by decide +kernel
theorem d_LA_law_245 : decode code 245 = .ok (.istore 5, 2) := by decide +kernel
theorem d_LA_law_247 : decode code 247 = .ok (.aload_n 2, 1) := by decide +kernel
theorem d_LA_law_248 : decode code 248 = .ok (.aload_n 0, 1) := by decide +kernel
theorem d_LA_law_249 : decode code 249 = .ok (.iload 4, 2) := by decide +kernel
theorem d_LA_law_251 : decode code 251 = .ok (.iconst 1, 1) := by decide +kernel
theorem d_LA_law_252 : decode code 252 = .ok (.iadd, 1) := by decide +kernel
theorem d_LA_law_253 : decode code 253 = .ok (.iaload, 1) := by decide +kernel
theorem d_LA_law_254 : decode code 254 = .ok (.aload_n 0, 1) := by decide +kernel
theorem d_LA_law_255 : decode code 255 = .ok (.iload 4, 2) := by decide +kernel
theorem d_LA_law_257 : decode code 257 = .ok (.iconst 2, 1) := by decide +kernel
theorem d_LA_law_258 : decode code 258 = .ok (.iadd, 1) := by decide +kernel
theorem d_LA_law_259 : decode code 259 = .ok (.iaload, 1) := by decide +kernel
theorem d_LA_law_260 : decode code 260 = .ok (.invokevirtual 51, 3) := by decide +kernel
theorem d_LA_law_263 : decode code 263 = .ok (.istore 6, 2) := by decide +kernel
theorem d_LA_law_265 : decode code 265 = .ok (.goto 515, 3) := by decide +kernel
theorem d_LA_law_268 : decode code 268 = .ok (.aload_n 1, 1) := by decide +kernel
theorem d_LA_law_269 : decode code 269 = .ok (.aload_n 0, 1) := by decide +kernel
theorem d_LA_law_270 : decode code 270 = .ok (.iload 4, 2) := by decide +kernel
theorem d_LA_law_272 : decode code 272 = .ok (.iconst 1, 1) := by decide +kernel
theorem d_LA_law_273 : decode code 273 = .ok (.iadd, 1) := by decide +kernel
theorem d_LA_law_274 : decode code 274 = .ok (.iaload, 1) := by decide +kernel
theorem d_LA_law_275 : decode code 275 = .ok (.invokevirtual 52, 3) := by decide +kernel
theorem d_LA_law_278 : decode code 278 = .ok (.pop, 1) := by decide +kernel
theorem d_LA_law_279 : decode code 279 = .ok (.aload_n 2, 1) := by decide +kernel
theorem d_LA_law_280 : decode code 280 = .ok (.aload_n 0, 1) := by decide +kernel
theorem d_LA_law_281 : decode code 281 = .ok (.iload 4, 2) := by decide +kernel
theorem d_LA_law_283 : decode code 283 = .ok (.iconst 1, 1) := by decide +kernel
theorem d_LA_law_284 : decode code 284 = .ok (.iadd, 1) := by decide +kernel
theorem d_LA_law_285 : decode code 285 = .ok (.iaload, 1) := by decide +kernel
theorem d_LA_law_286 : decode code 286 = .ok (.invokevirtual 55, 3) := by decide +kernel
theorem d_LA_law_289 : decode code 289 = .ok (.pop, 1) := by decide +kernel
theorem d_LA_law_290 : decode code 290 = .ok (.goto 490, 3) := by decide +kernel
theorem d_LA_law_293 : decode code 293 = .ok (.aload_n 1, 1) := by decide +kernel
theorem d_LA_law_294 : decode code 294 = .ok (.aload_n 0, 1) := by decide +kernel
theorem d_LA_law_295 : decode code 295 = .ok (.iload 4, 2) := by decide +kernel
theorem d_LA_law_297 : decode code 297 = .ok (.iconst 1, 1) := by decide +kernel
theorem d_LA_law_298 : decode code 298 = .ok (.iadd, 1) := by decide +kernel
theorem d_LA_law_299 : decode code 299 = .ok (.iaload, 1) := by decide +kernel
theorem d_LA_law_300 : decode code 300 = .ok (.aload_n 0, 1) := by decide +kernel
theorem d_LA_law_301 : decode code 301 = .ok (.iload 4, 2) := by decide +kernel
theorem d_LA_law_303 : decode code 303 = .ok (.iconst 2, 1) := by decide +kernel
theorem d_LA_law_304 : decode code 304 = .ok (.iadd, 1) := by decide +kernel
theorem d_LA_law_305 : decode code 305 = .ok (.iaload, 1) := by decide +kernel
theorem d_LA_law_306 : decode code 306 = .ok (.invokevirtual 56, 3) := by decide +kernel
theorem d_LA_law_309 : decode code 309 = .ok (.pop, 1) := by decide +kernel
theorem d_LA_law_310 : decode code 310 = .ok (.aload_n 2, 1) := by decide +kernel
theorem d_LA_law_311 : decode code 311 = .ok (.aload_n 0, 1) := by decide +kernel
theorem d_LA_law_312 : decode code 312 = .ok (.iload 4, 2) := by decide +kernel
theorem d_LA_law_314 : decode code 314 = .ok (.iconst 1, 1) := by decide +kernel
theorem d_LA_law_315 : decode code 315 = .ok (.iadd, 1) := by decide +kernel
theorem d_LA_law_316 : decode code 316 = .ok (.iaload, 1) := by decide +kernel
theorem d_LA_law_317 : decode code 317 = .ok (.aload_n 0, 1) := by decide +kernel
theorem d_LA_law_318 : decode code 318 = .ok (.iload 4, 2) := by decide +kernel
theorem d_LA_law_320 : decode code 320 = .ok (.iconst 2, 1) := by decide +kernel
theorem d_LA_law_321 : decode code 321 = .ok (.iadd, 1) := by decide +kernel
theorem d_LA_law_322 : decode code 322 = .ok (.iaload, 1) := by decide +kernel
theorem d_LA_law_323 : decode code 323 = .ok (.invokevirtual 59, 3) := by decide +kernel
theorem d_LA_law_326 : decode code 326 = .ok (.pop, 1) := by decide +kernel
theorem d_LA_law_327 : decode code 327 = .ok (.goto 453, 3) := by decide +kernel
theorem d_LA_law_330 : decode code 330 = .ok (.aload_n 1, 1) := by decide +kernel
theorem d_LA_law_331 : decode code 331 = .ok (.aload_n 0, 1) := by decide +kernel
theorem d_LA_law_332 : decode code 332 = .ok (.iload 4, 2) := by decide +kernel
theorem d_LA_law_334 : decode code 334 = .ok (.iconst 1, 1) := by decide +kernel
theorem d_LA_law_335 : decode code 335 = .ok (.iadd, 1) := by decide +kernel
theorem d_LA_law_336 : decode code 336 = .ok (.iaload, 1) := by decide +kernel
theorem d_LA_law_337 : decode code 337 = .ok (.aload_n 0, 1) := by decide +kernel
theorem d_LA_law_338 : decode code 338 = .ok (.iload 4, 2) := by decide +kernel
theorem d_LA_law_340 : decode code 340 = .ok (.iconst 2, 1) := by decide +kernel
theorem d_LA_law_341 : decode code 341 = .ok (.iadd, 1) := by decide +kernel
theorem d_LA_law_342 : decode code 342 = .ok (.iaload, 1) := by decide +kernel
theorem d_LA_law_343 : decode code 343 = .ok (.aload_n 0, 1) := by decide +kernel
theorem d_LA_law_344 : decode code 344 = .ok (.iload 4, 2) := by decide +kernel
theorem d_LA_law_346 : decode code 346 = .ok (.iconst 3, 1) := by decide +kernel
theorem d_LA_law_347 : decode code 347 = .ok (.iadd, 1) := by decide +kernel
theorem d_LA_law_348 : decode code 348 = .ok (.iaload, 1) := by decide +kernel
theorem d_LA_law_349 : decode code 349 = .ok (.invokevirtual 60, 3) := by decide +kernel
theorem d_LA_law_352 : decode code 352 = .ok (.pop, 1) := by decide +kernel
theorem d_LA_law_353 : decode code 353 = .ok (.aload_n 2, 1) := by decide +kernel
theorem d_LA_law_354 : decode code 354 = .ok (.aload_n 0, 1) := by decide +kernel
theorem d_LA_law_355 : decode code 355 = .ok (.iload 4, 2) := by decide +kernel
theorem d_LA_law_357 : decode code 357 = .ok (.iconst 1, 1) := by decide +kernel
theorem d_LA_law_358 : decode code 358 = .ok (.iadd, 1) := by decide +kernel
theorem d_LA_law_359 : decode code 359 = .ok (.iaload, 1) := by decide +kernel
theorem d_LA_law_360 : decode code 360 = .ok (.aload_n 0, 1) := by decide +kernel
theorem d_LA_law_361 : decode code 361 = .ok (.iload 4, 2) := by decide +kernel
theorem d_LA_law_363 : decode code 363 = .ok (.iconst 2, 1) := by decide +kernel
theorem d_LA_law_364 : decode code 364 = .ok (.iadd, 1) := by decide +kernel
theorem d_LA_law_365 : decode code 365 = .ok (.iaload, 1) := by decide +kernel
theorem d_LA_law_366 : decode code 366 = .ok (.aload_n 0, 1) := by decide +kernel
theorem d_LA_law_367 : decode code 367 = .ok (.iload 4, 2) := by decide +kernel
theorem d_LA_law_369 : decode code 369 = .ok (.iconst 3, 1) := by decide +kernel
theorem d_LA_law_370 : decode code 370 = .ok (.iadd, 1) := by decide +kernel
theorem d_LA_law_371 : decode code 371 = .ok (.iaload, 1) := by decide +kernel
theorem d_LA_law_372 : decode code 372 = .ok (.invokevirtual 64, 3) := by decide +kernel
theorem d_LA_law_375 : decode code 375 = .ok (.pop, 1) := by decide +kernel
theorem d_LA_law_376 : decode code 376 = .ok (.goto 404, 3) := by decide +kernel
theorem d_LA_law_379 : decode code 379 = .ok (.aload_n 1, 1) := by decide +kernel
theorem d_LA_law_380 : decode code 380 = .ok (.invokevirtual 65, 3) := by decide +kernel
theorem d_LA_law_383 : decode code 383 = .ok (.pop, 1) := by decide +kernel
theorem d_LA_law_384 : decode code 384 = .ok (.aload_n 2, 1) := by decide +kernel
theorem d_LA_law_385 : decode code 385 = .ok (.invokevirtual 69, 3) := by decide +kernel
theorem d_LA_law_388 : decode code 388 = .ok (.pop, 1) := by decide +kernel
theorem d_LA_law_389 : decode code 389 = .ok (.goto 391, 3) := by decide +kernel
theorem d_LA_law_392 : decode code 392 = .ok (.aload_n 1, 1) := by decide +kernel
theorem d_LA_law_393 : decode code 393 = .ok (.aload_n 0, 1) := by decide +kernel
theorem d_LA_law_394 : decode code 394 = .ok (.iload 4, 2) := by decide +kernel
theorem d_LA_law_396 : decode code 396 = .ok (.iconst 1, 1) := by decide +kernel
theorem d_LA_law_397 : decode code 397 = .ok (.iadd, 1) := by decide +kernel
theorem d_LA_law_398 : decode code 398 = .ok (.iaload, 1) := by decide +kernel
theorem d_LA_law_399 : decode code 399 = .ok (.aload_n 0, 1) := by decide +kernel
theorem d_LA_law_400 : decode code 400 = .ok (.iload 4, 2) := by decide +kernel
theorem d_LA_law_402 : decode code 402 = .ok (.iconst 2, 1) := by decide +kernel
theorem d_LA_law_403 : decode code 403 = .ok (.iadd, 1) := by decide +kernel
theorem d_LA_law_404 : decode code 404 = .ok (.iaload, 1) := by decide +kernel
theorem d_LA_law_405 : decode code 405 = .ok (.aload_n 0, 1) := by decide +kernel
theorem d_LA_law_406 : decode code 406 = .ok (.iload 4, 2) := by decide +kernel
theorem d_LA_law_408 : decode code 408 = .ok (.iconst 3, 1) := by decide +kernel
theorem d_LA_law_409 : decode code 409 = .ok (.iadd, 1) := by decide +kernel
theorem d_LA_law_410 : decode code 410 = .ok (.iaload, 1) := by decide +kernel
theorem d_LA_law_411 : decode code 411 = .ok (.aload_n 0, 1) := by decide +kernel
theorem d_LA_law_412 : decode code 412 = .ok (.iload 4, 2) := by decide +kernel
theorem d_LA_law_414 : decode code 414 = .ok (.iconst 4, 1) := by decide +kernel
theorem d_LA_law_415 : decode code 415 = .ok (.iadd, 1) := by decide +kernel
theorem d_LA_law_416 : decode code 416 = .ok (.iaload, 1) := by decide +kernel
theorem d_LA_law_417 : decode code 417 = .ok (.aload_n 3, 1) := by decide +kernel
theorem d_LA_law_418 : decode code 418 = .ok (.invokestatic 70, 3) := by decide +kernel
theorem d_LA_law_421 : decode code 421 = .ok (.istore 5, 2) := by decide +kernel
theorem d_LA_law_423 : decode code 423 = .ok (.aload_n 2, 1) := by decide +kernel
theorem d_LA_law_424 : decode code 424 = .ok (.aload_n 0, 1) := by decide +kernel
theorem d_LA_law_425 : decode code 425 = .ok (.iload 4, 2) := by decide +kernel
theorem d_LA_law_427 : decode code 427 = .ok (.iconst 1, 1) := by decide +kernel
theorem d_LA_law_428 : decode code 428 = .ok (.iadd, 1) := by decide +kernel
theorem d_LA_law_429 : decode code 429 = .ok (.iaload, 1) := by decide +kernel
theorem d_LA_law_430 : decode code 430 = .ok (.aload_n 0, 1) := by decide +kernel
theorem d_LA_law_431 : decode code 431 = .ok (.iload 4, 2) := by decide +kernel
theorem d_LA_law_433 : decode code 433 = .ok (.iconst 2, 1) := by decide +kernel
theorem d_LA_law_434 : decode code 434 = .ok (.iadd, 1) := by decide +kernel
theorem d_LA_law_435 : decode code 435 = .ok (.iaload, 1) := by decide +kernel
theorem d_LA_law_436 : decode code 436 = .ok (.aload_n 0, 1) := by decide +kernel
theorem d_LA_law_437 : decode code 437 = .ok (.iload 4, 2) := by decide +kernel
theorem d_LA_law_439 : decode code 439 = .ok (.iconst 3, 1) := by decide +kernel
theorem d_LA_law_440 : decode code 440 = .ok (.iadd, 1) := by decide +kernel
theorem d_LA_law_441 : decode code 441 = .ok (.iaload, 1) := by decide +kernel
theorem d_LA_law_442 : decode code 442 = .ok (.aload_n 0, 1) := by decide +kernel
theorem d_LA_law_443 : decode code 443 = .ok (.iload 4, 2) := by decide +kernel
theorem d_LA_law_445 : decode code 445 = .ok (.iconst 4, 1) := by decide +kernel
theorem d_LA_law_446 : decode code 446 = .ok (.iadd, 1) := by decide +kernel
theorem d_LA_law_447 : decode code 447 = .ok (.iaload, 1) := by decide +kernel
theorem d_LA_law_448 : decode code 448 = .ok (.invokevirtual 73, 3) := by decide +kernel
theorem d_LA_law_451 : decode code 451 = .ok (.istore 6, 2) := by decide +kernel
theorem d_LA_law_453 : decode code 453 = .ok (.goto 327, 3) := by decide +kernel
theorem d_LA_law_456 : decode code 456 = .ok (.aload_n 1, 1) := by decide +kernel
theorem d_LA_law_457 : decode code 457 = .ok (.aload_n 0, 1) := by decide +kernel
theorem d_LA_law_458 : decode code 458 = .ok (.iload 4, 2) := by decide +kernel
theorem d_LA_law_460 : decode code 460 = .ok (.iconst 1, 1) := by decide +kernel
theorem d_LA_law_461 : decode code 461 = .ok (.iadd, 1) := by decide +kernel
theorem d_LA_law_462 : decode code 462 = .ok (.iaload, 1) := by decide +kernel
theorem d_LA_law_463 : decode code 463 = .ok (.aload_n 0, 1) := by decide +kernel
theorem d_LA_law_464 : decode code 464 = .ok (.iload 4, 2) := by decide +kernel
theorem d_LA_law_466 : decode code 466 = .ok (.iconst 2, 1) := by decide +kernel
theorem d_LA_law_467 : decode code 467 = .ok (.iadd, 1) := by decide +kernel
theorem d_LA_law_468 : decode code 468 = .ok (.iaload, 1) := by decide +kernel
theorem d_LA_law_469 : decode code 469 = .ok (.invokevirtual 74, 3) := by decide +kernel
theorem d_LA_law_472 : decode code 472 = .ok (.pop, 1) := by decide +kernel
theorem d_LA_law_473 : decode code 473 = .ok (.aload_n 2, 1) := by decide +kernel
theorem d_LA_law_474 : decode code 474 = .ok (.aload_n 0, 1) := by decide +kernel
theorem d_LA_law_475 : decode code 475 = .ok (.iload 4, 2) := by decide +kernel
theorem d_LA_law_477 : decode code 477 = .ok (.iconst 1, 1) := by decide +kernel
theorem d_LA_law_478 : decode code 478 = .ok (.iadd, 1) := by decide +kernel
theorem d_LA_law_479 : decode code 479 = .ok (.iaload, 1) := by decide +kernel
theorem d_LA_law_480 : decode code 480 = .ok (.aload_n 0, 1) := by decide +kernel
theorem d_LA_law_481 : decode code 481 = .ok (.iload 4, 2) := by decide +kernel
theorem d_LA_law_483 : decode code 483 = .ok (.iconst 2, 1) := by decide +kernel
theorem d_LA_law_484 : decode code 484 = .ok (.iadd, 1) := by decide +kernel
theorem d_LA_law_485 : decode code 485 = .ok (.iaload, 1) := by decide +kernel
theorem d_LA_law_486 : decode code 486 = .ok (.invokevirtual 77, 3) := by decide +kernel
theorem d_LA_law_489 : decode code 489 = .ok (.pop, 1) := by decide +kernel
theorem d_LA_law_490 : decode code 490 = .ok (.goto 290, 3) := by decide +kernel
theorem d_LA_law_493 : decode code 493 = .ok (.aload_n 1, 1) := by decide +kernel
theorem d_LA_law_494 : decode code 494 = .ok (.aload_n 0, 1) := by decide +kernel
theorem d_LA_law_495 : decode code 495 = .ok (.iload 4, 2) := by decide +kernel
theorem d_LA_law_497 : decode code 497 = .ok (.iconst 1, 1) := by decide +kernel
theorem d_LA_law_498 : decode code 498 = .ok (.iadd, 1) := by decide +kernel
theorem d_LA_law_499 : decode code 499 = .ok (.iaload, 1) := by decide +kernel
theorem d_LA_law_500 : decode code 500 = .ok (.aload_n 3, 1) := by decide +kernel
theorem d_LA_law_501 : decode code 501 = .ok (.invokestatic 78, 3) := by decide +kernel
theorem d_LA_law_504 : decode code 504 = .ok (.istore 5, 2) := by decide +kernel
theorem d_LA_law_506 : decode code 506 = .ok (.aload_n 2, 1) := by decide +kernel
theorem d_LA_law_507 : decode code 507 = .ok (.aload_n 0, 1) := by decide +kernel
theorem d_LA_law_508 : decode code 508 = .ok (.iload 4, 2) := by decide +kernel
theorem d_LA_law_510 : decode code 510 = .ok (.iconst 1, 1) := by decide +kernel
theorem d_LA_law_511 : decode code 511 = .ok (.iadd, 1) := by decide +kernel
theorem d_LA_law_512 : decode code 512 = .ok (.iaload, 1) := by decide +kernel
theorem d_LA_law_513 : decode code 513 = .ok (.invokevirtual 81, 3) := by decide +kernel
theorem d_LA_law_516 : decode code 516 = .ok (.istore 6, 2) := by decide +kernel
theorem d_LA_law_518 : decode code 518 = .ok (.goto 262, 3) := by decide +kernel
theorem d_LA_law_521 : decode code 521 = .ok (.aload_n 1, 1) := by decide +kernel
theorem d_LA_law_522 : decode code 522 = .ok (.aload_n 0, 1) := by decide +kernel
theorem d_LA_law_523 : decode code 523 = .ok (.iload 4, 2) := by decide +kernel
theorem d_LA_law_525 : decode code 525 = .ok (.iconst 1, 1) := by decide +kernel
theorem d_LA_law_526 : decode code 526 = .ok (.iadd, 1) := by decide +kernel
theorem d_LA_law_527 : decode code 527 = .ok (.iaload, 1) := by decide +kernel
theorem d_LA_law_528 : decode code 528 = .ok (.aload_n 0, 1) := by decide +kernel
theorem d_LA_law_529 : decode code 529 = .ok (.iload 4, 2) := by decide +kernel
theorem d_LA_law_531 : decode code 531 = .ok (.iconst 2, 1) := by decide +kernel
theorem d_LA_law_532 : decode code 532 = .ok (.iadd, 1) := by decide +kernel
theorem d_LA_law_533 : decode code 533 = .ok (.iaload, 1) := by decide +kernel
theorem d_LA_law_534 : decode code 534 = .ok (.invokevirtual 82, 3) := by decide +kernel
theorem d_LA_law_537 : decode code 537 = .ok (.pop, 1) := by decide +kernel
theorem d_LA_law_538 : decode code 538 = .ok (.aload_n 2, 1) := by decide +kernel
theorem d_LA_law_539 : decode code 539 = .ok (.aload_n 0, 1) := by decide +kernel
theorem d_LA_law_540 : decode code 540 = .ok (.iload 4, 2) := by decide +kernel
theorem d_LA_law_542 : decode code 542 = .ok (.iconst 1, 1) := by decide +kernel
theorem d_LA_law_543 : decode code 543 = .ok (.iadd, 1) := by decide +kernel
theorem d_LA_law_544 : decode code 544 = .ok (.iaload, 1) := by decide +kernel
theorem d_LA_law_545 : decode code 545 = .ok (.aload_n 0, 1) := by decide +kernel
theorem d_LA_law_546 : decode code 546 = .ok (.iload 4, 2) := by decide +kernel
theorem d_LA_law_548 : decode code 548 = .ok (.iconst 2, 1) := by decide +kernel
theorem d_LA_law_549 : decode code 549 = .ok (.iadd, 1) := by decide +kernel
theorem d_LA_law_550 : decode code 550 = .ok (.iaload, 1) := by decide +kernel
theorem d_LA_law_551 : decode code 551 = .ok (.invokevirtual 85, 3) := by decide +kernel
theorem d_LA_law_554 : decode code 554 = .ok (.pop, 1) := by decide +kernel
theorem d_LA_law_555 : decode code 555 = .ok (.goto 225, 3) := by decide +kernel
theorem d_LA_law_558 : decode code 558 = .ok (.aload_n 1, 1) := by decide +kernel
theorem d_LA_law_559 : decode code 559 = .ok (.aload_n 0, 1) := by decide +kernel
theorem d_LA_law_560 : decode code 560 = .ok (.iload 4, 2) := by decide +kernel
theorem d_LA_law_562 : decode code 562 = .ok (.iconst 1, 1) := by decide +kernel
theorem d_LA_law_563 : decode code 563 = .ok (.iadd, 1) := by decide +kernel
theorem d_LA_law_564 : decode code 564 = .ok (.iaload, 1) := by decide +kernel
theorem d_LA_law_565 : decode code 565 = .ok (.aload_n 3, 1) := by decide +kernel
theorem d_LA_law_566 : decode code 566 = .ok (.invokestatic 86, 3) := by decide +kernel
theorem d_LA_law_569 : decode code 569 = .ok (.istore 5, 2) := by decide +kernel
theorem d_LA_law_571 : decode code 571 = .ok (.aload_n 2, 1) := by decide +kernel
theorem d_LA_law_572 : decode code 572 = .ok (.aload_n 0, 1) := by decide +kernel
theorem d_LA_law_573 : decode code 573 = .ok (.iload 4, 2) := by decide +kernel
theorem d_LA_law_575 : decode code 575 = .ok (.iconst 1, 1) := by decide +kernel
theorem d_LA_law_576 : decode code 576 = .ok (.iadd, 1) := by decide +kernel
theorem d_LA_law_577 : decode code 577 = .ok (.iaload, 1) := by decide +kernel
theorem d_LA_law_578 : decode code 578 = .ok (.invokevirtual 88, 3) := by decide +kernel
theorem d_LA_law_581 : decode code 581 = .ok (.istore 6, 2) := by decide +kernel
theorem d_LA_law_583 : decode code 583 = .ok (.goto 197, 3) := by decide +kernel
theorem d_LA_law_586 : decode code 586 = .ok (.aload_n 1, 1) := by decide +kernel
theorem d_LA_law_587 : decode code 587 = .ok (.aload_n 0, 1) := by decide +kernel
theorem d_LA_law_588 : decode code 588 = .ok (.iload 4, 2) := by decide +kernel
theorem d_LA_law_590 : decode code 590 = .ok (.iconst 1, 1) := by decide +kernel
theorem d_LA_law_591 : decode code 591 = .ok (.iadd, 1) := by decide +kernel
theorem d_LA_law_592 : decode code 592 = .ok (.iaload, 1) := by decide +kernel
theorem d_LA_law_593 : decode code 593 = .ok (.aload_n 3, 1) := by decide +kernel
theorem d_LA_law_594 : decode code 594 = .ok (.invokestatic 89, 3) := by decide +kernel
theorem d_LA_law_597 : decode code 597 = .ok (.istore 5, 2) := by decide +kernel
theorem d_LA_law_599 : decode code 599 = .ok (.aload_n 2, 1) := by decide +kernel
theorem d_LA_law_600 : decode code 600 = .ok (.aload_n 0, 1) := by decide +kernel
theorem d_LA_law_601 : decode code 601 = .ok (.iload 4, 2) := by decide +kernel
theorem d_LA_law_603 : decode code 603 = .ok (.iconst 1, 1) := by decide +kernel
theorem d_LA_law_604 : decode code 604 = .ok (.iadd, 1) := by decide +kernel
theorem d_LA_law_605 : decode code 605 = .ok (.iaload, 1) := by decide +kernel
theorem d_LA_law_606 : decode code 606 = .ok (.invokevirtual 91, 3) := by decide +kernel
theorem d_LA_law_609 : decode code 609 = .ok (.istore 6, 2) := by decide +kernel
theorem d_LA_law_611 : decode code 611 = .ok (.goto 169, 3) := by decide +kernel
theorem d_LA_law_614 : decode code 614 = .ok (.aload_n 1, 1) := by decide +kernel
theorem d_LA_law_615 : decode code 615 = .ok (.aload_n 0, 1) := by decide +kernel
theorem d_LA_law_616 : decode code 616 = .ok (.iload 4, 2) := by decide +kernel
theorem d_LA_law_618 : decode code 618 = .ok (.iconst 1, 1) := by decide +kernel
theorem d_LA_law_619 : decode code 619 = .ok (.iadd, 1) := by decide +kernel
theorem d_LA_law_620 : decode code 620 = .ok (.iaload, 1) := by decide +kernel
theorem d_LA_law_621 : decode code 621 = .ok (.aload_n 0, 1) := by decide +kernel
theorem d_LA_law_622 : decode code 622 = .ok (.iload 4, 2) := by decide +kernel
theorem d_LA_law_624 : decode code 624 = .ok (.iconst 2, 1) := by decide +kernel
theorem d_LA_law_625 : decode code 625 = .ok (.iadd, 1) := by decide +kernel
theorem d_LA_law_626 : decode code 626 = .ok (.iaload, 1) := by decide +kernel
theorem d_LA_law_627 : decode code 627 = .ok (.invokevirtual 92, 3) := by decide +kernel
theorem d_LA_law_630 : decode code 630 = .ok (.pop, 1) := by decide +kernel
theorem d_LA_law_631 : decode code 631 = .ok (.aload_n 2, 1) := by decide +kernel
theorem d_LA_law_632 : decode code 632 = .ok (.aload_n 0, 1) := by decide +kernel
theorem d_LA_law_633 : decode code 633 = .ok (.iload 4, 2) := by decide +kernel
theorem d_LA_law_635 : decode code 635 = .ok (.iconst 1, 1) := by decide +kernel
theorem d_LA_law_636 : decode code 636 = .ok (.iadd, 1) := by decide +kernel
theorem d_LA_law_637 : decode code 637 = .ok (.iaload, 1) := by decide +kernel
theorem d_LA_law_638 : decode code 638 = .ok (.aload_n 0, 1) := by decide +kernel
theorem d_LA_law_639 : decode code 639 = .ok (.iload 4, 2) := by decide +kernel
theorem d_LA_law_641 : decode code 641 = .ok (.iconst 2, 1) := by decide +kernel
theorem d_LA_law_642 : decode code 642 = .ok (.iadd, 1) := by decide +kernel
theorem d_LA_law_643 : decode code 643 = .ok (.iaload, 1) := by decide +kernel
theorem d_LA_law_644 : decode code 644 = .ok (.invokevirtual 95, 3) := by decide +kernel
theorem d_LA_law_647 : decode code 647 = .ok (.pop, 1) := by decide +kernel
theorem d_LA_law_648 : decode code 648 = .ok (.goto 132, 3) := by decide +kernel
theorem d_LA_law_651 : decode code 651 = .ok (.aload_n 1, 1) := by decide +kernel
theorem d_LA_law_652 : decode code 652 = .ok (.aload_n 0, 1) := by decide +kernel
theorem d_LA_law_653 : decode code 653 = .ok (.iload 4, 2) := by decide +kernel
theorem d_LA_law_655 : decode code 655 = .ok (.iconst 1, 1) := by decide +kernel
theorem d_LA_law_656 : decode code 656 = .ok (.iadd, 1) := by decide +kernel
theorem d_LA_law_657 : decode code 657 = .ok (.iaload, 1) := by decide +kernel
theorem d_LA_law_658 : decode code 658 = .ok (.aload_n 0, 1) := by decide +kernel
theorem d_LA_law_659 : decode code 659 = .ok (.iload 4, 2) := by decide +kernel
theorem d_LA_law_661 : decode code 661 = .ok (.iconst 2, 1) := by decide +kernel
theorem d_LA_law_662 : decode code 662 = .ok (.iadd, 1) := by decide +kernel
theorem d_LA_law_663 : decode code 663 = .ok (.iaload, 1) := by decide +kernel
theorem d_LA_law_664 : decode code 664 = .ok (.ifCond .eq 7, 3) := by decide +kernel
theorem d_LA_law_667 : decode code 667 = .ok (.iconst 1, 1) := by decide +kernel
theorem d_LA_law_668 : decode code 668 = .ok (.goto 4, 3) := by decide +kernel
theorem d_LA_law_671 : decode code 671 = .ok (.iconst 0, 1) := by decide +kernel
theorem d_LA_law_672 : decode code 672 = .ok (.invokevirtual 96, 3) := by decide +kernel
theorem d_LA_law_675 : decode code 675 = .ok (.aload_n 2, 1) := by decide +kernel
theorem d_LA_law_676 : decode code 676 = .ok (.aload_n 0, 1) := by decide +kernel
theorem d_LA_law_677 : decode code 677 = .ok (.iload 4, 2) := by decide +kernel
theorem d_LA_law_679 : decode code 679 = .ok (.iconst 1, 1) := by decide +kernel
theorem d_LA_law_680 : decode code 680 = .ok (.iadd, 1) := by decide +kernel
theorem d_LA_law_681 : decode code 681 = .ok (.iaload, 1) := by decide +kernel
theorem d_LA_law_682 : decode code 682 = .ok (.aload_n 0, 1) := by decide +kernel
theorem d_LA_law_683 : decode code 683 = .ok (.iload 4, 2) := by decide +kernel
theorem d_LA_law_685 : decode code 685 = .ok (.iconst 2, 1) := by decide +kernel
theorem d_LA_law_686 : decode code 686 = .ok (.iadd, 1) := by decide +kernel
theorem d_LA_law_687 : decode code 687 = .ok (.iaload, 1) := by decide +kernel
theorem d_LA_law_688 : decode code 688 = .ok (.ifCond .eq 7, 3) := by decide +kernel
theorem d_LA_law_691 : decode code 691 = .ok (.iconst 1, 1) := by decide +kernel
theorem d_LA_law_692 : decode code 692 = .ok (.goto 4, 3) := by decide +kernel
theorem d_LA_law_695 : decode code 695 = .ok (.iconst 0, 1) := by decide +kernel
theorem d_LA_law_696 : decode code 696 = .ok (.invokevirtual 100, 3) := by decide +kernel
theorem d_LA_law_699 : decode code 699 = .ok (.if_icmp .eq 81, 3) := by decide +kernel
theorem d_LA_law_702 : decode code 702 = .ok (.iconst 0, 1) := by decide +kernel
theorem d_LA_law_703 : decode code 703 = .ok (.ireturn, 1) := by decide +kernel
theorem d_LA_law_704 : decode code 704 = .ok (.aload_n 1, 1) := by decide +kernel
theorem d_LA_law_705 : decode code 705 = .ok (.invokevirtual 101, 3) := by decide +kernel
theorem d_LA_law_708 : decode code 708 = .ok (.pop, 1) := by decide +kernel
theorem d_LA_law_709 : decode code 709 = .ok (.aload_n 2, 1) := by decide +kernel
theorem d_LA_law_710 : decode code 710 = .ok (.invokevirtual 104, 3) := by decide +kernel
theorem d_LA_law_713 : decode code 713 = .ok (.pop, 1) := by decide +kernel
theorem d_LA_law_714 : decode code 714 = .ok (.goto 66, 3) := by decide +kernel
theorem d_LA_law_717 : decode code 717 = .ok (.aload_n 1, 1) := by decide +kernel
theorem d_LA_law_718 : decode code 718 = .ok (.aload_n 0, 1) := by decide +kernel
theorem d_LA_law_719 : decode code 719 = .ok (.iload 4, 2) := by decide +kernel
theorem d_LA_law_721 : decode code 721 = .ok (.iconst 1, 1) := by decide +kernel
theorem d_LA_law_722 : decode code 722 = .ok (.iadd, 1) := by decide +kernel
theorem d_LA_law_723 : decode code 723 = .ok (.iaload, 1) := by decide +kernel
theorem d_LA_law_724 : decode code 724 = .ok (.invokevirtual 105, 3) := by decide +kernel
theorem d_LA_law_727 : decode code 727 = .ok (.pop, 1) := by decide +kernel
theorem d_LA_law_728 : decode code 728 = .ok (.aload_n 2, 1) := by decide +kernel
theorem d_LA_law_729 : decode code 729 = .ok (.aload_n 0, 1) := by decide +kernel
theorem d_LA_law_730 : decode code 730 = .ok (.iload 4, 2) := by decide +kernel
theorem d_LA_law_732 : decode code 732 = .ok (.iconst 1, 1) := by decide +kernel
theorem d_LA_law_733 : decode code 733 = .ok (.iadd, 1) := by decide +kernel
theorem d_LA_law_734 : decode code 734 = .ok (.iaload, 1) := by decide +kernel
theorem d_LA_law_735 : decode code 735 = .ok (.invokevirtual 108, 3) := by decide +kernel
theorem d_LA_law_738 : decode code 738 = .ok (.pop, 1) := by decide +kernel
theorem d_LA_law_739 : decode code 739 = .ok (.goto 41, 3) := by decide +kernel
theorem d_LA_law_742 : decode code 742 = .ok (.aload_n 1, 1) := by decide +kernel
theorem d_LA_law_743 : decode code 743 = .ok (.aload_n 0, 1) := by decide +kernel
theorem d_LA_law_744 : decode code 744 = .ok (.iload 4, 2) := by decide +kernel
theorem d_LA_law_746 : decode code 746 = .ok (.iconst 1, 1) := by decide +kernel
theorem d_LA_law_747 : decode code 747 = .ok (.iadd, 1) := by decide +kernel
theorem d_LA_law_748 : decode code 748 = .ok (.iaload, 1) := by decide +kernel
theorem d_LA_law_749 : decode code 749 = .ok (.invokestatic 109, 3) := by decide +kernel
theorem d_LA_law_752 : decode code 752 = .ok (.istore 5, 2) := by decide +kernel
theorem d_LA_law_754 : decode code 754 = .ok (.aload_n 2, 1) := by decide +kernel
theorem d_LA_law_755 : decode code 755 = .ok (.aload_n 0, 1) := by decide +kernel
theorem d_LA_law_756 : decode code 756 = .ok (.iload 4, 2) := by decide +kernel
theorem d_LA_law_758 : decode code 758 = .ok (.iconst 1, 1) := by decide +kernel
theorem d_LA_law_759 : decode code 759 = .ok (.iadd, 1) := by decide +kernel
theorem d_LA_law_760 : decode code 760 = .ok (.iaload, 1) := by decide +kernel
theorem d_LA_law_761 : decode code 761 = .ok (.invokevirtual 112, 3) := by decide +kernel
theorem d_LA_law_764 : decode code 764 = .ok (.goto 16, 3) := by decide +kernel
theorem d_LA_law_767 : decode code 767 = .ok (.aload_n 1, 1) := by decide +kernel
theorem d_LA_law_768 : decode code 768 = .ok (.invokevirtual 113, 3) := by decide +kernel
theorem d_LA_law_771 : decode code 771 = .ok (.pop, 1) := by decide +kernel
theorem d_LA_law_772 : decode code 772 = .ok (.aload_n 2, 1) := by decide +kernel
theorem d_LA_law_773 : decode code 773 = .ok (.invokevirtual 116, 3) := by decide +kernel
theorem d_LA_law_776 : decode code 776 = .ok (.pop, 1) := by decide +kernel
theorem d_LA_law_777 : decode code 777 = .ok (.goto 3, 3) := by decide +kernel
theorem d_LA_law_780 : decode code 780 = .ok (.iinc 4 6, 3) := by decide +kernel
theorem d_LA_law_783 : decode code 783 = .ok (.goto (-760), 3) := by decide +kernel
theorem d_LA_law_786 : decode code 786 = .ok (.iconst 1, 1) := by decide +kernel
theorem d_LA_law_787 : decode code 787 = .ok (.ireturn, 1) := by decide +kernel
