theorem d_MO_init_0 : decode b_MO_init 0 = .ok (.aload_n 0, 1) := by decide +kernel
theorem d_MO_init_1 : decode b_MO_init 1 = .ok (.invokespecial 1, 3) := by decide +kernel
theorem d_MO_init_4 : decode b_MO_init 4 = .ok (.aload_n 0, 1) := by decide +kernel
theorem d_MO_init_5 : decode b_MO_init 5 = .ok (.bipush 13, 2) := by decide +kernel
theorem d_MO_init_7 : decode b_MO_init 7 = .ok (.newarray .int, 2) := by decide +kernel
theorem d_MO_init_9 : decode b_MO_init 9 = .ok (.dup, 1) := by decide +kernel
theorem d_MO_init_10 : decode b_MO_init 10 = .ok (.iconst 0, 1) := by decide +kernel
theorem d_MO_init_11 : decode b_MO_init 11 = .ok (.iconst 0, 1) := by decide +kernel
theorem d_MO_init_12 : decode b_MO_init 12 = .ok (.iastore, 1) := by decide +kernel
theorem d_MO_init_13 : decode b_MO_init 13 = .ok (.dup, 1) := by decide +kernel
theorem d_MO_init_14 : decode b_MO_init 14 = .ok (.iconst 1, 1) := by decide +kernel
theorem d_MO_init_15 : decode b_MO_init 15 = .ok (.iconst 2, 1) := by decide +kernel
theorem d_MO_init_16 : decode b_MO_init 16 = .ok (.iastore, 1) := by decide +kernel
theorem d_MO_init_17 : decode b_MO_init 17 = .ok (.dup, 1) := by decide +kernel
theorem d_MO_init_18 : decode b_MO_init 18 = .ok (.iconst 2, 1) := by decide +kernel
theorem d_MO_init_19 : decode b_MO_init 19 = .ok (.bipush 8, 2) := by decide +kernel
theorem d_MO_init_21 : decode b_MO_init 21 = .ok (.iastore, 1) := by decide +kernel
theorem d_MO_init_22 : decode b_MO_init 22 = .ok (.dup, 1) := by decide +kernel
theorem d_MO_init_23 : decode b_MO_init 23 = .ok (.iconst 3, 1) := by decide +kernel
theorem d_MO_init_24 : decode b_MO_init 24 = .ok (.bipush 16, 2) := by decide +kernel
theorem d_MO_init_26 : decode b_MO_init 26 = .ok (.iastore, 1) := by decide +kernel
theorem d_MO_init_27 : decode b_MO_init 27 = .ok (.dup, 1) := by decide +kernel
theorem d_MO_init_28 : decode b_MO_init 28 = .ok (.iconst 4, 1) := by decide +kernel
theorem d_MO_init_29 : decode b_MO_init 29 = .ok (.bipush 34, 2) := by decide +kernel
theorem d_MO_init_31 : decode b_MO_init 31 = .ok (.iastore, 1) := by decide +kernel
theorem d_MO_init_32 : decode b_MO_init 32 = .ok (.dup, 1) := by decide +kernel
theorem d_MO_init_33 : decode b_MO_init 33 = .ok (.iconst 5, 1) := by decide +kernel
theorem d_MO_init_34 : decode b_MO_init 34 = .ok (.bipush 42, 2) := by decide +kernel
theorem d_MO_init_36 : decode b_MO_init 36 = .ok (.iastore, 1) := by decide +kernel
theorem d_MO_init_37 : decode b_MO_init 37 = .ok (.dup, 1) := by decide +kernel
theorem d_MO_init_38 : decode b_MO_init 38 = .ok (.bipush 6, 2) := by decide +kernel
theorem d_MO_init_40 : decode b_MO_init 40 = .ok (.bipush 44, 2) := by decide +kernel
theorem d_MO_init_42 : decode b_MO_init 42 = .ok (.iastore, 1) := by decide +kernel
theorem d_MO_init_43 : decode b_MO_init 43 = .ok (.dup, 1) := by decide +kernel
theorem d_MO_init_44 : decode b_MO_init 44 = .ok (.bipush 7, 2) := by decide +kernel
theorem d_MO_init_46 : decode b_MO_init 46 = .ok (.bipush 46, 2) := by decide +kernel
theorem d_MO_init_48 : decode b_MO_init 48 = .ok (.iastore, 1) := by decide +kernel
theorem d_MO_init_49 : decode b_MO_init 49 = .ok (.dup, 1) := by decide +kernel
theorem d_MO_init_50 : decode b_MO_init 50 = .ok (.bipush 8, 2) := by decide +kernel
theorem d_MO_init_52 : decode b_MO_init 52 = .ok (.bipush 50, 2) := by decide +kernel
theorem d_MO_init_54 : decode b_MO_init 54 = .ok (.iastore, 1) := by decide +kernel
theorem d_MO_init_55 : decode b_MO_init 55 = .ok (.dup, 1) := by decide +kernel
theorem d_MO_init_56 : decode b_MO_init 56 = .ok (.bipush 9, 2) := by decide +kernel
theorem d_MO_init_58 : decode b_MO_init 58 = .ok (.bipush 52, 2) := by decide +kernel
theorem d_MO_init_60 : decode b_MO_init 60 = .ok (.iastore, 1) := by decide +kernel
theorem d_MO_init_61 : decode b_MO_init 61 = .ok (.dup, 1) := by decide +kernel
theorem d_MO_init_62 : decode b_MO_init 62 = .ok (.bipush 10, 2) := by decide +kernel
theorem d_MO_init_64 : decode b_MO_init 64 = .ok (.bipush 54, 2) := by decide +kernel
theorem d_MO_init_66 : decode b_MO_init 66 = .ok (.iastore, 1) := by decide +kernel
theorem d_MO_init_67 : decode b_MO_init 67 = .ok (.dup, 1) := by decide +kernel
theorem d_MO_init_68 : decode b_MO_init 68 = .ok (.bipush 11, 2) := by decide +kernel
theorem d_MO_init_70 : decode b_MO_init 70 = .ok (.bipush 62, 2) := by decide +kernel
theorem d_MO_init_72 : decode b_MO_init 72 = .ok (.iastore, 1) := by decide +kernel
theorem d_MO_init_73 : decode b_MO_init 73 = .ok (.dup, 1) := by decide +kernel
theorem d_MO_init_74 : decode b_MO_init 74 = .ok (.bipush 12, 2) := by decide +kernel
theorem d_MO_init_76 : decode b_MO_init 76 = .ok (.bipush 66, 2) := by decide +kernel
theorem d_MO_init_78 : decode b_MO_init 78 = .ok (.iastore, 1) := by decide +kernel
theorem d_MO_init_79 : decode b_MO_init 79 = .ok (.putfield 7, 3) := by decide +kernel
theorem d_MO_init_82 : decode b_MO_init 82 = .ok (.aload_n 0, 1) := by decide +kernel
theorem d_MO_init_83 : decode b_MO_init 83 = .ok (.bipush 66, 2) := by decide +kernel
theorem d_MO_init_85 : decode b_MO_init 85 = .ok (.newarray .int, 2) := by decide +kernel
theorem d_MO_init_87 : decode b_MO_init 87 = .ok (.dup, 1) := by decide +kernel
theorem d_MO_init_88 : decode b_MO_init 88 = .ok (.iconst 0, 1) := by decide +kernel
theorem d_MO_init_89 : decode b_MO_init 89 = .ok (.bipush 48, 2) := by decide +kernel
theorem d_MO_init_91 : decode b_MO_init 91 = .ok (.iastore, 1) := by decide +kernel
theorem d_MO_init_92 : decode b_MO_init 92 = .ok (.dup, 1) := by decide +kernel
theorem d_MO_init_93 : decode b_MO_init 93 = .ok (.iconst 1, 1) := by decide +kernel
theorem d_MO_init_94 : decode b_MO_init 94 = .ok (.bipush 57, 2) := by decide +kernel
theorem d_MO_init_96 : decode b_MO_init 96 = .ok (.iastore, 1) := by decide +kernel
theorem d_MO_init_97 : decode b_MO_init 97 = .ok (.dup, 1) := by decide +kernel
theorem d_MO_init_98 : decode b_MO_init 98 = .ok (.iconst 2, 1) := by decide +kernel
theorem d_MO_init_99 : decode b_MO_init 99 = .ok (.bipush 9, 2) := by decide +kernel
theorem d_MO_init_101 : decode b_MO_init 101 = .ok (.iastore, 1) := by decide +kernel
theorem d_MO_init_102 : decode b_MO_init 102 = .ok (.dup, 1) := by decide +kernel
theorem d_MO_init_103 : decode b_MO_init 103 = .ok (.iconst 3, 1) := by decide +kernel
theorem d_MO_init_104 : decode b_MO_init 104 = .ok (.bipush 10, 2) := by decide +kernel
theorem d_MO_init_106 : decode b_MO_init 106 = .ok (.iastore, 1) := by decide +kernel
theorem d_MO_init_107 : decode b_MO_init 107 = .ok (.dup, 1) := by decide +kernel
theorem d_MO_init_108 : decode b_MO_init 108 = .ok (.iconst 4, 1) := by decide +kernel
theorem d_MO_init_109 : decode b_MO_init 109 = .ok (.bipush 12, 2) := by decide +kernel
theorem d_MO_init_111 : decode b_MO_init 111 = .ok (.iastore, 1) := by decide +kernel
theorem d_MO_init_112 : decode b_MO_init 112 = .ok (.dup, 1) := by decide +kernel
theorem d_MO_init_113 : decode b_MO_init 113 = .ok (.iconst 5, 1) := by decide +kernel
theorem d_MO_init_114 : decode b_MO_init 114 = .ok (.bipush 13, 2) := by decide +kernel
theorem d_MO_init_116 : decode b_MO_init 116 = .ok (.iastore, 1) := by decide +kernel
theorem d_MO_init_117 : decode b_MO_init 117 = .ok (.dup, 1) := by decide +kernel
theorem d_MO_init_118 : decode b_MO_init 118 = .ok (.bipush 6, 2) := by decide +kernel
theorem d_MO_init_120 : decode b_MO_init 120 = .ok (.bipush 32, 2) := by decide +kernel
theorem d_MO_init_122 : decode b_MO_init 122 = .ok (.iastore, 1) := by decide +kernel
theorem d_MO_init_123 : decode b_MO_init 123 = .ok (.dup, 1) := by decide +kernel
theorem d_MO_init_124 : decode b_MO_init 124 = .ok (.bipush 7, 2) := by decide +kernel
theorem d_MO_init_126 : decode b_MO_init 126 = .ok (.bipush 32, 2) := by decide +kernel
theorem d_MO_init_128 : decode b_MO_init 128 = .ok (.iastore, 1) := by decide +kernel
theorem d_MO_init_129 : decode b_MO_init 129 = .ok (.dup, 1) := by decide +kernel
theorem d_MO_init_130 : decode b_MO_init 130 = .ok (.bipush 8, 2) := by decide +kernel
theorem d_MO_init_132 : decode b_MO_init 132 = .ok (.bipush 48, 2) := by decide +kernel
theorem d_MO_init_134 : decode b_MO_init 134 = .ok (.iastore, 1) := by decide +kernel
theorem d_MO_init_135 : decode b_MO_init 135 = .ok (.dup, 1) := by decide +kernel
theorem d_MO_init_136 : decode b_MO_init 136 = .ok (.bipush 9, 2) := by decide +kernel
theorem d_MO_init_138 : decode b_MO_init 138 = .ok (.bipush 57, 2) := by decide +kernel
theorem d_MO_init_140 : decode b_MO_init 140 = .ok (.iastore, 1) := by decide +kernel
theorem d_MO_init_141 : decode b_MO_init 141 = .ok (.dup, 1) := by decide +kernel
theorem d_MO_init_142 : decode b_MO_init 142 = .ok (.bipush 10, 2) := by decide +kernel
theorem d_MO_init_144 : decode b_MO_init 144 = .ok (.bipush 65, 2) := by decide +kernel
theorem d_MO_init_146 : decode b_MO_init 146 = .ok (.iastore, 1) := by decide +kernel
theorem d_MO_init_147 : decode b_MO_init 147 = .ok (.dup, 1) := by decide +kernel
theorem d_MO_init_148 : decode b_MO_init 148 = .ok (.bipush 11, 2) := by decide +kernel
theorem d_MO_init_150 : decode b_MO_init 150 = .ok (.bipush 90, 2) := by decide +kernel
theorem d_MO_init_152 : decode b_MO_init 152 = .ok (.iastore, 1) := by decide +kernel
theorem d_MO_init_153 : decode b_MO_init 153 = .ok (.dup, 1) := by decide +kernel
theorem d_MO_init_154 : decode b_MO_init 154 = .ok (.bipush 12, 2) := by decide +kernel
theorem d_MO_init_156 : decode b_MO_init 156 = .ok (.bipush 95, 2) := by decide +kernel
theorem d_MO_init_158 : decode b_MO_init 158 = .ok (.iastore, 1) := by decide +kernel
theorem d_MO_init_159 : decode b_MO_init 159 = .ok (.dup, 1) := by decide +kernel
theorem d_MO_init_160 : decode b_MO_init 160 = .ok (.bipush 13, 2) := by decide +kernel
theorem d_MO_init_162 : decode b_MO_init 162 = .ok (.bipush 95, 2) := by decide +kernel
theorem d_MO_init_164 : decode b_MO_init 164 = .ok (.iastore, 1) := by decide +kernel
theorem d_MO_init_165 : decode b_MO_init 165 = .ok (.dup, 1) := by decide +kernel
theorem d_MO_init_166 : decode b_MO_init 166 = .ok (.bipush 14, 2) := by decide +kernel
theorem d_MO_init_168 : decode b_MO_init 168 = .ok (.bipush 97, 2) := by decide +kernel
theorem d_MO_init_170 : decode b_MO_init 170 = .ok (.iastore, 1) := by decide +kernel
theorem d_MO_init_171 : decode b_MO_init 171 = .ok (.dup, 1) := by decide +kernel
theorem d_MO_init_172 : decode b_MO_init 172 = .ok (.bipush 15, 2) := by decide +kernel
theorem d_MO_init_174 : decode b_MO_init 174 = .ok (.bipush 122, 2) := by decide +kernel
theorem d_MO_init_176 : decode b_MO_init 176 = .ok (.iastore, 1) := by decide +kernel
theorem d_MO_init_177 : decode b_MO_init 177 = .ok (.dup, 1) := by decide +kernel
theorem d_MO_init_178 : decode b_MO_init 178 = .ok (.bipush 16, 2) := by decide +kernel
theorem d_MO_init_180 : decode b_MO_init 180 = .ok (.bipush 65, 2) := by decide +kernel
theorem d_MO_init_182 : decode b_MO_init 182 = .ok (.iastore, 1) := by decide +kernel
theorem d_MO_init_183 : decode b_MO_init 183 = .ok (.dup, 1) := by decide +kernel
theorem d_MO_init_184 : decode b_MO_init 184 = .ok (.bipush 17, 2) := by decide +kernel
theorem d_MO_init_186 : decode b_MO_init 186 = .ok (.bipush 90, 2) := by decide +kernel
theorem d_MO_init_188 : decode b_MO_init 188 = .ok (.iastore, 1) := by decide +kernel
theorem d_MO_init_189 : decode b_MO_init 189 = .ok (.dup, 1) := by decide +kernel
theorem d_MO_init_190 : decode b_MO_init 190 = .ok (.bipush 18, 2) := by decide +kernel
theorem d_MO_init_192 : decode b_MO_init 192 = .ok (.bipush 97, 2) := by decide +kernel
theorem d_MO_init_194 : decode b_MO_init 194 = .ok (.iastore, 1) := by decide +kernel
theorem d_MO_init_195 : decode b_MO_init 195 = .ok (.dup, 1) := by decide +kernel
theorem d_MO_init_196 : decode b_MO_init 196 = .ok (.bipush 19, 2) := by decide +kernel
theorem d_MO_init_198 : decode b_MO_init 198 = .ok (.bipush 122, 2) := by decide +kernel
theorem d_MO_init_200 : decode b_MO_init 200 = .ok (.iastore, 1) := by decide +kernel
theorem d_MO_init_201 : decode b_MO_init 201 = .ok (.dup, 1) := by decide +kernel
theorem d_MO_init_202 : decode b_MO_init 202 = .ok (.bipush 20, 2) := by decide +kernel
theorem d_MO_init_204 : decode b_MO_init 204 = .ok (.sipush 170, 3) := by decide +kernel
theorem d_MO_init_207 : decode b_MO_init 207 = .ok (.iastore, 1) := by decide +kernel
theorem d_MO_init_208 : decode b_MO_init 208 = .ok (.dup, 1) := by decide +kernel
theorem d_MO_init_209 : decode b_MO_init 209 = .ok (.bipush 21, 2) := by decide +kernel
theorem d_MO_init_211 : decode b_MO_init 211 = .ok (.sipush 170, 3) := by decide +kernel
theorem d_MO_init_214 : decode b_MO_init 214 = .ok (.iastore, 1) := by decide +kernel
theorem d_MO_init_215 : decode b_MO_init 215 = .ok (.dup, 1) := by decide +kernel
theorem d_MO_init_216 : decode b_MO_init 216 = .ok (.bipush 22, 2) := by decide +kernel
theorem d_MO_init_218 : decode b_MO_init 218 = .ok (.sipush 181, 3) := by decide +kernel
theorem d_MO_init_221 : decode b_MO_init 221 = .ok (.iastore, 1) := by decide +kernel
theorem d_MO_init_222 : decode b_MO_init 222 = .ok (.dup, 1) := by decide +kernel
theorem d_MO_init_223 : decode b_MO_init 223 = .ok (.bipush 23, 2) := by decide +kernel
theorem d_MO_init_225 : decode b_MO_init 225 = .ok (.sipush 181, 3) := by decide +kernel
theorem d_MO_init_228 : decode b_MO_init 228 = .ok (.iastore, 1) := by decide +kernel
theorem d_MO_init_229 : decode b_MO_init 229 = .ok (.dup, 1) := by decide +kernel
theorem d_MO_init_230 : decode b_MO_init 230 = .ok (.bipush 24, 2) := by decide +kernel
theorem d_MO_init_232 : decode b_MO_init 232 = .ok (.sipush 186, 3) := by decide +kernel
theorem d_MO_init_235 : decode b_MO_init 235 = .ok (.iastore, 1) := by decide +kernel
theorem d_MO_init_236 : decode b_MO_init 236 = .ok (.dup, 1) := by decide +kernel
theorem d_MO_init_237 : decode b_MO_init 237 = .ok (.bipush 25, 2) := by decide +kernel
theorem d_MO_init_239 : decode b_MO_init 239 = .ok (.sipush 186, 3) := by decide +kernel
theorem d_MO_init_242 : decode b_MO_init 242 = .ok (.iastore, 1) := by decide +kernel
theorem d_MO_init_243 : decode b_MO_init 243 = .ok (.dup, 1) := by decide +kernel
theorem d_MO_init_244 : decode b_MO_init 244 = .ok (.bipush 26, 2) := by decide +kernel
theorem d_MO_init_246 : decode b_MO_init 246 = .ok (.sipush 192, 3) := by decide +kernel
theorem d_MO_init_249 : decode b_MO_init 249 = .ok (.iastore, 1) := by decide +kernel
theorem d_MO_init_250 : decode b_MO_init 250 = .ok (.dup, 1) := by decide +kernel
theorem d_MO_init_251 : decode b_MO_init 251 = .ok (.bipush 27, 2) := by decide +kernel
theorem d_MO_init_253 : decode b_MO_init 253 = .ok (.sipush 214, 3) := by decide +kernel
theorem d_MO_init_256 : decode b_MO_init 256 = .ok (.iastore, 1) := by decide +kernel
theorem d_MO_init_257 : decode b_MO_init 257 = .ok (.dup, 1) := by decide +kernel
theorem d_MO_init_258 : decode b_MO_init 258 = .ok (.bipush 28, 2) := by decide +kernel
theorem d_MO_init_260 : decode b_MO_init 260 = .ok (.sipush 216, 3) := by decide +kernel
theorem d_MO_init_263 : decode b_MO_init 263 = .ok (.iastore, 1) := by decide +kernel
theorem d_MO_init_264 : decode b_MO_init 264 = .ok (.dup, 1) := by decide +kernel
theorem d_MO_init_265 : decode b_MO_init 265 = .ok (.bipush 29, 2) := by decide +kernel
theorem d_MO_init_267 : decode b_MO_init 267 = .ok (.sipush 246, 3) := by decide +kernel
theorem d_MO_init_270 : decode b_MO_init 270 = .ok (.iastore, 1) := by decide +kernel
theorem d_MO_init_271 : decode b_MO_init 271 = .ok (.dup, 1) := by decide +kernel
theorem d_MO_init_272 : decode b_MO_init 272 = .ok (.bipush 30, 2) := by decide +kernel
theorem d_MO_init_274 : decode b_MO_init 274 = .ok (.sipush 248, 3) := by decide +kernel
theorem d_MO_init_277 : decode b_MO_init 277 = .ok (.iastore, 1) := by decide +kernel
theorem d_MO_init_278 : decode b_MO_init 278 = .ok (.dup, 1) := by decide +kernel
theorem d_MO_init_279 : decode b_MO_init 279 = .ok (.bipush 31, 2) := by decide +kernel
theorem d_MO_init_281 : decode b_MO_init 281 = .ok (.sipush 687, 3) := by decide +kernel
theorem d_MO_init_284 : decode b_MO_init 284 = .ok (.iastore, 1) := by decide +kernel
theorem d_MO_init_285 : decode b_MO_init 285 = .ok (.dup, 1) := by decide +kernel
theorem d_MO_init_286 : decode b_MO_init 286 = .ok (.bipush 32, 2) := by decide +kernel
theorem d_MO_init_288 : decode b_MO_init 288 = .ok (.sipush 880, 3) := by decide +kernel
theorem d_MO_init_291 : decode b_MO_init 291 = .ok (.iastore, 1) := by decide +kernel
theorem d_MO_init_292 : decode b_MO_init 292 = .ok (.dup, 1) := by decide +kernel
theorem d_MO_init_293 : decode b_MO_init 293 = .ok (.bipush 33, 2) := by decide +kernel
theorem d_MO_init_295 : decode b_MO_init 295 = .ok (.sipush 1279, 3) := by decide +kernel
theorem d_MO_init_298 : decode b_MO_init 298 = .ok (.iastore, 1) := by decide +kernel
theorem d_MO_init_299 : decode b_MO_init 299 = .ok (.dup, 1) := by decide +kernel
theorem d_MO_init_300 : decode b_MO_init 300 = .ok (.bipush 34, 2) := by decide +kernel
theorem d_MO_init_302 : decode b_MO_init 302 = .ok (.bipush 48, 2) := by decide +kernel
theorem d_MO_init_304 : decode b_MO_init 304 = .ok (.iastore, 1) := by decide +kernel
theorem d_MO_init_305 : decode b_MO_init 305 = .ok (.dup, 1) := by decide +kernel
theorem d_MO_init_306 : decode b_MO_init 306 = .ok (.bipush 35, 2) := by decide +kernel
theorem d_MO_init_308 : decode b_MO_init 308 = .ok (.bipush 57, 2) := by decide +kernel
theorem d_MO_init_310 : decode b_MO_init 310 = .ok (.iastore, 1) := by decide +kernel
theorem d_MO_init_311 : decode b_MO_init 311 = .ok (.dup, 1) := by decide +kernel
theorem d_MO_init_312 : decode b_MO_init 312 = .ok (.bipush 36, 2) := by decide +kernel
theorem d_MO_init_314 : decode b_MO_init 314 = .ok (.sipush 178, 3) := by decide +kernel
theorem d_MO_init_317 : decode b_MO_init 317 = .ok (.iastore, 1) := by decide +kernel
theorem d_MO_init_318 : decode b_MO_init 318 = .ok (.dup, 1) := by decide +kernel
theorem d_MO_init_319 : decode b_MO_init 319 = .ok (.bipush 37, 2) := by decide +kernel
theorem d_MO_init_321 : decode b_MO_init 321 = .ok (.sipush 179, 3) := by decide +kernel
theorem d_MO_init_324 : decode b_MO_init 324 = .ok (.iastore, 1) := by decide +kernel
theorem d_MO_init_325 : decode b_MO_init 325 = .ok (.dup, 1) := by decide +kernel
theorem d_MO_init_326 : decode b_MO_init 326 = .ok (.bipush 38, 2) := by decide +kernel
theorem d_MO_init_328 : decode b_MO_init 328 = .ok (.sipush 185, 3) := by decide +kernel
theorem d_MO_init_331 : decode b_MO_init 331 = .ok (.iastore, 1) := by decide +kernel
theorem d_MO_init_332 : decode b_MO_init 332 = .ok (.dup, 1) := by decide +kernel
theorem d_MO_init_333 : decode b_MO_init 333 = .ok (.bipush 39, 2) := by decide +kernel
theorem d_MO_init_335 : decode b_MO_init 335 = .ok (.sipush 185, 3) := by decide +kernel
theorem d_MO_init_338 : decode b_MO_init 338 = .ok (.iastore, 1) := by decide +kernel
theorem d_MO_init_339 : decode b_MO_init 339 = .ok (.dup, 1) := by decide +kernel
theorem d_MO_init_340 : decode b_MO_init 340 = .ok (.bipush 40, 2) := by decide +kernel
theorem d_MO_init_342 : decode b_MO_init 342 = .ok (.sipush 188, 3) := by decide +kernel
theorem d_MO_init_345 : decode b_MO_init 345 = .ok (.iastore, 1) := by decide +kernel
theorem d_MO_init_346 : decode b_MO_init 346 = .ok (.dup, 1) := by decide +kernel
theorem d_MO_init_347 : decode b_MO_init 347 = .ok (.bipush 41, 2) := by decide +kernel
theorem d_MO_init_349 : decode b_MO_init 349 = .ok (.sipush 190, 3) := by decide +kernel
theorem d_MO_init_352 : decode b_MO_init 352 = .ok (.iastore, 1) := by decide +kernel
theorem d_MO_init_353 : decode b_MO_init 353 = .ok (.dup, 1) := by decide +kernel
theorem d_MO_init_354 : decode b_MO_init 354 = .ok (.bipush 42, 2) := by decide +kernel
theorem d_MO_init_356 : decode b_MO_init 356 = .ok (.sipush 880, 3) := by decide +kernel
theorem d_MO_init_359 : decode b_MO_init 359 = .ok (.iastore, 1) := by decide +kernel
theorem d_MO_init_360 : decode b_MO_init 360 = .ok (.dup, 1) := by decide +kernel
theorem d_MO_init_361 : decode b_MO_init 361 = .ok (.bipush 43, 2) := by decide +kernel
theorem d_MO_init_363 : decode b_MO_init 363 = .ok (.sipush 1023, 3) := by decide +kernel
theorem d_MO_init_366 : decode b_MO_init 366 = .ok (.iastore, 1) := by decide +kernel
theorem d_MO_init_367 : decode b_MO_init 367 = .ok (.dup, 1) := by decide +kernel
theorem d_MO_init_368 : decode b_MO_init 368 = .ok (.bipush 44, 2) := by decide +kernel
theorem d_MO_init_370 : decode b_MO_init 370 = .ok (.sipush 1024, 3) := by decide +kernel
theorem d_MO_init_373 : decode b_MO_init 373 = .ok (.iastore, 1) := by decide +kernel
theorem d_MO_init_374 : decode b_MO_init 374 = .ok (.dup, 1) := by decide +kernel
theorem d_MO_init_375 : decode b_MO_init 375 = .ok (.bipush 45, 2) := by decide +kernel
theorem d_MO_init_377 : decode b_MO_init 377 = .ok (.sipush 1279, 3) := by decide +kernel
theorem d_MO_init_380 : decode b_MO_init 380 = .ok (.iastore, 1) := by decide +kernel
theorem d_MO_init_381 : decode b_MO_init 381 = .ok (.dup, 1) := by decide +kernel
theorem d_MO_init_382 : decode b_MO_init 382 = .ok (.bipush 46, 2) := by decide +kernel
theorem d_MO_init_384 : decode b_MO_init 384 = .ok (.bipush 65, 2) := by decide +kernel
theorem d_MO_init_386 : decode b_MO_init 386 = .ok (.iastore, 1) := by decide +kernel
theorem d_MO_init_387 : decode b_MO_init 387 = .ok (.dup, 1) := by decide +kernel
theorem d_MO_init_388 : decode b_MO_init 388 = .ok (.bipush 47, 2) := by decide +kernel
theorem d_MO_init_390 : decode b_MO_init 390 = .ok (.bipush 90, 2) := by decide +kernel
theorem d_MO_init_392 : decode b_MO_init 392 = .ok (.iastore, 1) := by decide +kernel
theorem d_MO_init_393 : decode b_MO_init 393 = .ok (.dup, 1) := by decide +kernel
theorem d_MO_init_394 : decode b_MO_init 394 = .ok (.bipush 48, 2) := by decide +kernel
theorem d_MO_init_396 : decode b_MO_init 396 = .ok (.bipush 97, 2) := by decide +kernel
theorem d_MO_init_398 : decode b_MO_init 398 = .ok (.iastore, 1) := by decide +kernel
theorem d_MO_init_399 : decode b_MO_init 399 = .ok (.dup, 1) := by decide +kernel
theorem d_MO_init_400 : decode b_MO_init 400 = .ok (.bipush 49, 2) := by decide +kernel
theorem d_MO_init_402 : decode b_MO_init 402 = .ok (.bipush 122, 2) := by decide +kernel
theorem d_MO_init_404 : decode b_MO_init 404 = .ok (.iastore, 1) := by decide +kernel
theorem d_MO_init_405 : decode b_MO_init 405 = .ok (.dup, 1) := by decide +kernel
theorem d_MO_init_406 : decode b_MO_init 406 = .ok (.bipush 50, 2) := by decide +kernel
theorem d_MO_init_408 : decode b_MO_init 408 = .ok (.bipush 65, 2) := by decide +kernel
theorem d_MO_init_410 : decode b_MO_init 410 = .ok (.iastore, 1) := by decide +kernel
theorem d_MO_init_411 : decode b_MO_init 411 = .ok (.dup, 1) := by decide +kernel
theorem d_MO_init_412 : decode b_MO_init 412 = .ok (.bipush 51, 2) := by decide +kernel
theorem d_MO_init_414 : decode b_MO_init 414 = .ok (.bipush 90, 2) := by decide +kernel
theorem d_MO_init_416 : decode b_MO_init 416 = .ok (.iastore, 1) := by decide +kernel
theorem d_MO_init_417 : decode b_MO_init 417 = .ok (.dup, 1) := by decide +kernel
theorem d_MO_init_418 : decode b_MO_init 418 = .ok (.bipush 52, 2) := by decide +kernel
theorem d_MO_init_420 : decode b_MO_init 420 = .ok (.bipush 97, 2) := by decide +kernel
theorem d_MO_init_422 : decode b_MO_init 422 = .ok (.iastore, 1) := by decide +kernel
theorem d_MO_init_423 : decode b_MO_init 423 = .ok (.dup, 1) := by decide +kernel
theorem d_MO_init_424 : decode b_MO_init 424 = .ok (.bipush 53, 2) := by decide +kernel
theorem d_MO_init_426 : decode b_MO_init 426 = .ok (.bipush 122, 2) := by decide +kernel
theorem d_MO_init_428 : decode b_MO_init 428 = .ok (.iastore, 1) := by decide +kernel
theorem d_MO_init_429 : decode b_MO_init 429 = .ok (.dup, 1) := by decide +kernel
theorem d_MO_init_430 : decode b_MO_init 430 = .ok (.bipush 54, 2) := by decide +kernel
theorem d_MO_init_432 : decode b_MO_init 432 = .ok (.bipush 33, 2) := by decide +kernel
theorem d_MO_init_434 : decode b_MO_init 434 = .ok (.iastore, 1) := by decide +kernel
theorem d_MO_init_435 : decode b_MO_init 435 = .ok (.dup, 1) := by decide +kernel
theorem d_MO_init_436 : decode b_MO_init 436 = .ok (.bipush 55, 2) := by decide +kernel
theorem d_MO_init_438 : decode b_MO_init 438 = .ok (.bipush 47, 2) := by decide +kernel
theorem d_MO_init_440 : decode b_MO_init 440 = .ok (.iastore, 1) := by decide +kernel
theorem d_MO_init_441 : decode b_MO_init 441 = .ok (.dup, 1) := by decide +kernel
theorem d_MO_init_442 : decode b_MO_init 442 = .ok (.bipush 56, 2) := by decide +kernel
theorem d_MO_init_444 : decode b_MO_init 444 = .ok (.bipush 58, 2) := by decide +kernel
theorem d_MO_init_446 : decode b_MO_init 446 = .ok (.iastore, 1) := by decide +kernel
theorem d_MO_init_447 : decode b_MO_init 447 = .ok (.dup, 1) := by decide +kernel
theorem d_MO_init_448 : decode b_MO_init 448 = .ok (.bipush 57, 2) := by decide +kernel
theorem d_MO_init_450 : decode b_MO_init 450 = .ok (.bipush 64, 2) := by decide +kernel
theorem d_MO_init_452 : decode b_MO_init 452 = .ok (.iastore, 1) := by decide +kernel
theorem d_MO_init_453 : decode b_MO_init 453 = .ok (.dup, 1) := by decide +kernel
theorem d_MO_init_454 : decode b_MO_init 454 = .ok (.bipush 58, 2) := by decide +kernel
theorem d_MO_init_456 : decode b_MO_init 456 = .ok (.bipush 91, 2) := by decide +kernel
theorem d_MO_init_458 : decode b_MO_init 458 = .ok (.iastore, 1) := by decide +kernel
theorem d_MO_init_459 : decode b_MO_init 459 = .ok (.dup, 1) := by decide +kernel
theorem d_MO_init_460 : decode b_MO_init 460 = .ok (.bipush 59, 2) := by decide +kernel
theorem d_MO_init_462 : decode b_MO_init 462 = .ok (.bipush 96, 2) := by decide +kernel
theorem d_MO_init_464 : decode b_MO_init 464 = .ok (.iastore, 1) := by decide +kernel
theorem d_MO_init_465 : decode b_MO_init 465 = .ok (.dup, 1) := by decide +kernel
theorem d_MO_init_466 : decode b_MO_init 466 = .ok (.bipush 60, 2) := by decide +kernel
theorem d_MO_init_468 : decode b_MO_init 468 = .ok (.bipush 123, 2) := by decide +kernel
theorem d_MO_init_470 : decode b_MO_init 470 = .ok (.iastore, 1) := by decide +kernel
theorem d_MO_init_471 : decode b_MO_init 471 = .ok (.dup, 1) := by decide +kernel
theorem d_MO_init_472 : decode b_MO_init 472 = .ok (.bipush 61, 2) := by decide +kernel
theorem d_MO_init_474 : decode b_MO_init 474 = .ok (.bipush 126, 2) := by decide +kernel
theorem d_MO_init_476 : decode b_MO_init 476 = .ok (.iastore, 1) := by decide +kernel
theorem d_MO_init_477 : decode b_MO_init 477 = .ok (.dup, 1) := by decide +kernel
theorem d_MO_init_478 : decode b_MO_init 478 = .ok (.bipush 62, 2) := by decide +kernel
theorem d_MO_init_480 : decode b_MO_init 480 = .ok (.bipush 9, 2) := by decide +kernel
theorem d_MO_init_482 : decode b_MO_init 482 = .ok (.iastore, 1) := by decide +kernel
theorem d_MO_init_483 : decode b_MO_init 483 = .ok (.dup, 1) := by decide +kernel
theorem d_MO_init_484 : decode b_MO_init 484 = .ok (.bipush 63, 2) := by decide +kernel
theorem d_MO_init_486 : decode b_MO_init 486 = .ok (.bipush 13, 2) := by decide +kernel
theorem d_MO_init_488 : decode b_MO_init 488 = .ok (.iastore, 1) := by decide +kernel
theorem d_MO_init_489 : decode b_MO_init 489 = .ok (.dup, 1) := by decide +kernel
theorem d_MO_init_490 : decode b_MO_init 490 = .ok (.bipush 64, 2) := by decide +kernel
theorem d_MO_init_492 : decode b_MO_init 492 = .ok (.bipush 32, 2) := by decide +kernel
theorem d_MO_init_494 : decode b_MO_init 494 = .ok (.iastore, 1) := by decide +kernel
theorem d_MO_init_495 : decode b_MO_init 495 = .ok (.dup, 1) := by decide +kernel
theorem d_MO_init_496 : decode b_MO_init 496 = .ok (.bipush 65, 2) := by decide +kernel
theorem d_MO_init_498 : decode b_MO_init 498 = .ok (.bipush 32, 2) := by decide +kernel
theorem d_MO_init_500 : decode b_MO_init 500 = .ok (.iastore, 1) := by decide +kernel
theorem d_MO_init_501 : decode b_MO_init 501 = .ok (.putfield 13, 3) := by decide +kernel
theorem d_MO_init_504 : decode b_MO_init 504 = .ok (.aload_n 0, 1) := by decide +kernel
theorem d_MO_init_505 : decode b_MO_init 505 = .ok (.bipush 20, 2) := by decide +kernel
theorem d_MO_init_507 : decode b_MO_init 507 = .ok (.newarray .int, 2) := by decide +kernel
theorem d_MO_init_509 : decode b_MO_init 509 = .ok (.putfield 16, 3) := by decide +kernel
theorem d_MO_init_512 : decode b_MO_init 512 = .ok (.aload_n 0, 1) := by decide +kernel
theorem d_MO_init_513 : decode b_MO_init 513 = .ok (.sipush 2000, 3) := by decide +kernel
theorem d_MO_init_516 : decode b_MO_init 516 = .ok (.newarray .int, 2) := by decide +kernel
theorem d_MO_init_518 : decode b_MO_init 518 = .ok (.putfield 19, 3) := by decide +kernel
theorem d_MO_init_521 : decode b_MO_init 521 = .ok (.aload_n 0, 1) := by decide +kernel
theorem d_MO_init_522 : decode b_MO_init 522 = .ok (.sipush 2000, 3) := by decide +kernel
theorem d_MO_init_525 : decode b_MO_init 525 = .ok (.newarray .int, 2) := by decide +kernel
theorem d_MO_init_527 : decode b_MO_init 527 = .ok (.putfield 22, 3) := by decide +kernel
theorem d_MO_init_530 : decode b_MO_init 530 = .ok (.aload_n 0, 1) := by decide +kernel
theorem d_MO_init_531 : decode b_MO_init 531 = .ok (.sipush 6000, 3) := by decide +kernel
theorem d_MO_init_534 : decode b_MO_init 534 = .ok (.newarray .int, 2) := by decide +kernel
theorem d_MO_init_536 : decode b_MO_init 536 = .ok (.putfield 25, 3) := by decide +kernel
theorem d_MO_init_539 : decode b_MO_init 539 = .ok (.aload_n 0, 1) := by decide +kernel
theorem d_MO_init_540 : decode b_MO_init 540 = .ok (.sipush 9000, 3) := by decide +kernel
theorem d_MO_init_543 : decode b_MO_init 543 = .ok (.newarray .int, 2) := by decide +kernel
theorem d_MO_init_545 : decode b_MO_init 545 = .ok (.putfield 28, 3) := by decide +kernel
theorem d_MO_init_548 : decode b_MO_init 548 = .ok (.aload_n 0, 1) := by decide +kernel
theorem d_MO_init_549 : decode b_MO_init 549 = .ok (.sipush 9000, 3) := by decide +kernel
theorem d_MO_init_552 : decode b_MO_init 552 = .ok (.newarray .int, 2) := by decide +kernel
theorem d_MO_init_554 : decode b_MO_init 554 = .ok (.putfield 31, 3) := by decide +kernel
theorem d_MO_init_557 : decode b_MO_init 557 = .ok (.aload_n 0, 1) := by decide +kernel
theorem d_MO_init_558 : decode b_MO_init 558 = .ok (.sipush 2100, 3) := by decide +kernel
theorem d_MO_init_561 : decode b_MO_init 561 = .ok (.newarray .int, 2) := by decide +kernel
theorem d_MO_init_563 : decode b_MO_init 563 = .ok (.putfield 34, 3) := by decide +kernel
theorem d_MO_init_566 : decode b_MO_init 566 = .ok (.aload_n 0, 1) := by decide +kernel
theorem d_MO_init_567 : decode b_MO_init 567 = .ok (.sipush 2100, 3) := by decide +kernel
theorem d_MO_init_570 : decode b_MO_init 570 = .ok (.newarray .int, 2) := by decide +kernel
theorem d_MO_init_572 : decode b_MO_init 572 = .ok (.putfield 37, 3) := by decide +kernel
theorem d_MO_init_575 : decode b_MO_init 575 = .ok (.aload_n 0, 1) := by decide +kernel
theorem d_MO_init_576 : decode b_MO_init 576 = .ok (.sipush 24000, 3) := by decide +kernel
theorem d_MO_init_579 : decode b_MO_init 579 = .ok (.newarray .int, 2) := by decide +kernel
theorem d_MO_init_581 : decode b_MO_init 581 = .ok (.putfield 40, 3) := by decide +kernel
theorem d_MO_init_584 : decode b_MO_init 584 = .ok (.aload_n 0, 1) := by decide +kernel
theorem d_MO_init_585 : decode b_MO_init 585 = .ok (.sipush 24000, 3) := by decide +kernel
theorem d_MO_init_588 : decode b_MO_init 588 = .ok (.newarray .int, 2) := by decide +kernel
theorem d_MO_init_590 : decode b_MO_init 590 = .ok (.putfield 43, 3) := by decide +kernel
theorem d_MO_init_593 : decode b_MO_init 593 = .ok (.aload_n 0, 1) := by decide +kernel
theorem d_MO_init_594 : decode b_MO_init 594 = .ok (.sipush 1200, 3) := by decide +kernel
theorem d_MO_init_597 : decode b_MO_init 597 = .ok (.newarray .boolean, 2) := by decide +kernel
theorem d_MO_init_599 : decode b_MO_init 599 = .ok (.putfield 46, 3) := by decide +kernel
theorem d_MO_init_602 : decode b_MO_init 602 = .ok (.aload_n 0, 1) := by decide +kernel
theorem d_MO_init_603 : decode b_MO_init 603 = .ok (.sipush 4200, 3) := by decide +kernel
theorem d_MO_init_606 : decode b_MO_init 606 = .ok (.newarray .int, 2) := by decide +kernel
theorem d_MO_init_608 : decode b_MO_init 608 = .ok (.putfield 50, 3) := by decide +kernel
theorem d_MO_init_611 : decode b_MO_init 611 = .ok (.aload_n 0, 1) := by decide +kernel
theorem d_MO_init_612 : decode b_MO_init 612 = .ok (.sipush 4200, 3) := by decide +kernel
theorem d_MO_init_615 : decode b_MO_init 615 = .ok (.newarray .int, 2) := by decide +kernel
theorem d_MO_init_617 : decode b_MO_init 617 = .ok (.putfield 53, 3) := by decide +kernel
theorem d_MO_init_620 : decode b_MO_init 620 = .ok (.aload_n 0, 1) := by decide +kernel
theorem d_MO_init_621 : decode b_MO_init 621 = .ok (.sipush 4200, 3) := by decide +kernel
theorem d_MO_init_624 : decode b_MO_init 624 = .ok (.newarray .int, 2) := by decide +kernel
theorem d_MO_init_626 : decode b_MO_init 626 = .ok (.putfield 56, 3) := by decide +kernel
theorem d_MO_init_629 : decode b_MO_init 629 = .ok (.aload_n 0, 1) := by decide +kernel
theorem d_MO_init_630 : decode b_MO_init 630 = .ok (.sipush 4200, 3) := by decide +kernel
theorem d_MO_init_633 : decode b_MO_init 633 = .ok (.newarray .int, 2) := by decide +kernel
theorem d_MO_init_635 : decode b_MO_init 635 = .ok (.putfield 59, 3) := by decide +kernel
theorem d_MO_init_638 : decode b_MO_init 638 = .ok (.aload_n 0, 1) := by decide +kernel
theorem d_MO_init_639 : decode b_MO_init 639 = .ok (.sipush 4200, 3) := by decide +kernel
theorem d_MO_init_642 : decode b_MO_init 642 = .ok (.newarray .int, 2) := by decide +kernel
theorem d_MO_init_644 : decode b_MO_init 644 = .ok (.putfield 62, 3) := by decide +kernel
theorem d_MO_init_647 : decode b_MO_init 647 = .ok (.aload_n 0, 1) := by decide +kernel
theorem d_MO_init_648 : decode b_MO_init 648 = .ok (.sipush 4200, 3) := by decide +kernel
theorem d_MO_init_651 : decode b_MO_init 651 = .ok (.newarray .int, 2) := by decide +kernel
theorem d_MO_init_653 : decode b_MO_init 653 = .ok (.putfield 65, 3) := by decide +kernel
theorem d_MO_init_656 : decode b_MO_init 656 = .ok (.aload_n 0, 1) := by decide +kernel
theorem d_MO_init_657 : decode b_MO_init 657 = .ok (.sipush 4200, 3) := by decide +kernel
theorem d_MO_init_660 : decode b_MO_init 660 = .ok (.newarray .long, 2) := by decide +kernel
theorem d_MO_init_662 : decode b_MO_init 662 = .ok (.putfield 68, 3) := by decide +kernel
theorem d_MO_init_665 : decode b_MO_init 665 = .ok (.aload_n 0, 1) := by decide +kernel
theorem d_MO_init_666 : decode b_MO_init 666 = .ok (.sipush 4200, 3) := by decide +kernel
theorem d_MO_init_669 : decode b_MO_init 669 = .ok (.newarray .boolean, 2) := by decide +kernel
theorem d_MO_init_671 : decode b_MO_init 671 = .ok (.putfield 72, 3) := by decide +kernel
theorem d_MO_init_674 : decode b_MO_init 674 = .ok (.aload_n 0, 1) := by decide +kernel
theorem d_MO_init_675 : decode b_MO_init 675 = .ok (.iconst (-1), 1) := by decide +kernel
theorem d_MO_init_676 : decode b_MO_init 676 = .ok (.putfield 75, 3) := by decide +kernel
theorem d_MO_init_679 : decode b_MO_init 679 = .ok (.aload_n 0, 1) := by decide +kernel
theorem d_MO_init_680 : decode b_MO_init 680 = .ok (.bipush 32, 2) := by decide +kernel
theorem d_MO_init_682 : decode b_MO_init 682 = .ok (.newarray .int, 2) := by decide +kernel
theorem d_MO_init_684 : decode b_MO_init 684 = .ok (.putfield 79, 3) := by decide +kernel
theorem d_MO_init_687 : decode b_MO_init 687 = .ok (.aload_n 0, 1) := by decide +kernel
theorem d_MO_init_688 : decode b_MO_init 688 = .ok (.bipush 32, 2) := by decide +kernel
theorem d_MO_init_690 : decode b_MO_init 690 = .ok (.newarray .int, 2) := by decide +kernel
theorem d_MO_init_692 : decode b_MO_init 692 = .ok (.putfield 82, 3) := by decide +kernel
theorem d_MO_init_695 : decode b_MO_init 695 = .ok (.aload_n 0, 1) := by decide +kernel
theorem d_MO_init_696 : decode b_MO_init 696 = .ok (.bipush 32, 2) := by decide +kernel
theorem d_MO_init_698 : decode b_MO_init 698 = .ok (.newarray .int, 2) := by decide +kernel
theorem d_MO_init_700 : decode b_MO_init 700 = .ok (.putfield 85, 3) := by decide +kernel
theorem d_MO_init_703 : decode b_MO_init 703 = .ok (.aload_n 0, 1) := by decide +kernel
theorem d_MO_init_704 : decode b_MO_init 704 = .ok (.bipush 32, 2) := by decide +kernel
theorem d_MO_init_706 : decode b_MO_init 706 = .ok (.newarray .int, 2) := by decide +kernel
theorem d_MO_init_708 : decode b_MO_init 708 = .ok (.putfield 88, 3) := by decide +kernel
theorem d_MO_init_711 : decode b_MO_init 711 = .ok (.aload_n 0, 1) := by decide +kernel
theorem d_MO_init_712 : decode b_MO_init 712 = .ok (.bipush 32, 2) := by decide +kernel
theorem d_MO_init_714 : decode b_MO_init 714 = .ok (.newarray .int, 2) := by decide +kernel
theorem d_MO_init_716 : decode b_MO_init 716 = .ok (.putfield 91, 3) := by decide +kernel
theorem d_MO_init_719 : decode b_MO_init 719 = .ok (.aload_n 0, 1) := by decide +kernel
theorem d_MO_init_720 : decode b_MO_init 720 = .ok (.bipush 32, 2) := by decide +kernel
theorem d_MO_init_722 : decode b_MO_init 722 = .ok (.newarray .int, 2) := by decide +kernel
theorem d_MO_init_724 : decode b_MO_init 724 = .ok (.putfield 94, 3) := by decide +kernel
theorem d_MO_init_727 : decode b_MO_init 727 = .ok (.aload_n 0, 1) := by decide +kernel
theorem d_MO_init_728 : decode b_MO_init 728 = .ok (.bipush 32, 2) := by decide +kernel
theorem d_MO_init_730 : decode b_MO_init 730 = .ok (.newarray .int, 2) := by decide +kernel
theorem d_MO_init_732 : decode b_MO_init 732 = .ok (.putfield 97, 3) := by decide +kernel
theorem d_MO_init_735 : decode b_MO_init 735 = .ok (.aload_n 0, 1) := by decide +kernel
theorem d_MO_init_736 : decode b_MO_init 736 = .ok (.bipush 32, 2) := by decide +kernel
theorem d_MO_init_738 : decode b_MO_init 738 = .ok (.newarray .int, 2) := by decide +kernel
theorem d_MO_init_740 : decode b_MO_init 740 = .ok (.putfield 100, 3) := by decide +kernel
theorem d_MO_init_743 : decode b_MO_init 743 = .ok (.aload_n 0, 1) := by decide +kernel
theorem d_MO_init_744 : decode b_MO_init 744 = .ok (.bipush 120, 2) := by decide +kernel
theorem d_MO_init_746 : decode b_MO_init 746 = .ok (.newarray .int, 2) := by decide +kernel
theorem d_MO_init_748 : decode b_MO_init 748 = .ok (.putfield 103, 3) := by decide +kernel
theorem d_MO_init_751 : decode b_MO_init 751 = .ok (.aload_n 0, 1) := by decide +kernel
theorem d_MO_init_752 : decode b_MO_init 752 = .ok (.bipush 10, 2) := by decide +kernel
theorem d_MO_init_754 : decode b_MO_init 754 = .ok (.newarray .int, 2) := by decide +kernel
theorem d_MO_init_756 : decode b_MO_init 756 = .ok (.putfield 106, 3) := by decide +kernel
theorem d_MO_init_759 : decode b_MO_init 759 = .ok (.aload_n 0, 1) := by decide +kernel
theorem d_MO_init_760 : decode b_MO_init 760 = .ok (.bipush 6, 2) := by decide +kernel
theorem d_MO_init_762 : decode b_MO_init 762 = .ok (.newarray .boolean, 2) := by decide +kernel
theorem d_MO_init_764 : decode b_MO_init 764 = .ok (.putfield 109, 3) := by decide +kernel
theorem d_MO_init_767 : decode b_MO_init 767 = .ok (.aload_n 0, 1) := by decide +kernel
theorem d_MO_init_768 : decode b_MO_init 768 = .ok (.bipush 6, 2) := by decide +kernel
theorem d_MO_init_770 : decode b_MO_init 770 = .ok (.newarray .int, 2) := by decide +kernel
theorem d_MO_init_772 : decode b_MO_init 772 = .ok (.putfield 112, 3) := by decide +kernel
theorem d_MO_init_775 : decode b_MO_init 775 = .ok (.aload_n 0, 1) := by decide +kernel
theorem d_MO_init_776 : decode b_MO_init 776 = .ok (.bipush 6, 2) := by decide +kernel
theorem d_MO_init_778 : decode b_MO_init 778 = .ok (.newarray .int, 2) := by decide +kernel
theorem d_MO_init_780 : decode b_MO_init 780 = .ok (.putfield 115, 3) := by decide +kernel
theorem d_MO_init_783 : decode b_MO_init 783 = .ok (.aload_n 0, 1) := by decide +kernel
theorem d_MO_init_784 : decode b_MO_init 784 = .ok (.bipush 6, 2) := by decide +kernel
theorem d_MO_init_786 : decode b_MO_init 786 = .ok (.newarray .int, 2) := by decide +kernel
theorem d_MO_init_788 : decode b_MO_init 788 = .ok (.putfield 118, 3) := by decide +kernel
theorem d_MO_init_791 : decode b_MO_init 791 = .ok (.aload_n 0, 1) := by decide +kernel
theorem d_MO_init_792 : decode b_MO_init 792 = .ok (.bipush 6, 2) := by decide +kernel
theorem d_MO_init_794 : decode b_MO_init 794 = .ok (.newarray .int, 2) := by decide +kernel
theorem d_MO_init_796 : decode b_MO_init 796 = .ok (.putfield 121, 3) := by decide +kernel
theorem d_MO_init_799 : decode b_MO_init 799 = .ok (.aload_n 0, 1) := by decide +kernel
theorem d_MO_init_800 : decode b_MO_init 800 = .ok (.bipush 6, 2) := by decide +kernel
theorem d_MO_init_802 : decode b_MO_init 802 = .ok (.newarray .int, 2) := by decide +kernel
theorem d_MO_init_804 : decode b_MO_init 804 = .ok (.putfield 124, 3) := by decide +kernel
theorem d_MO_init_807 : decode b_MO_init 807 = .ok (.aload_n 0, 1) := by decide +kernel
theorem d_MO_init_808 : decode b_MO_init 808 = .ok (.ldc 127, 2) := by decide +kernel
theorem d_MO_init_810 : decode b_MO_init 810 = .ok (.newarray .int, 2) := by decide +kernel
theorem d_MO_init_812 : decode b_MO_init 812 = .ok (.putfield 128, 3) := by decide +kernel
theorem d_MO_init_815 : decode b_MO_init 815 = .ok (.aload_n 0, 1) := by decide +kernel
theorem d_MO_init_816 : decode b_MO_init 816 = .ok (.ldc 127, 2) := by decide +kernel
theorem d_MO_init_818 : decode b_MO_init 818 = .ok (.newarray .int, 2) := by decide +kernel
theorem d_MO_init_820 : decode b_MO_init 820 = .ok (.putfield 131, 3) := by decide +kernel
theorem d_MO_init_823 : decode b_MO_init 823 = .ok (.aload_n 0, 1) := by decide +kernel
theorem d_MO_init_824 : decode b_MO_init 824 = .ok (.ldc 127, 2) := by decide +kernel
theorem d_MO_init_826 : decode b_MO_init 826 = .ok (.newarray .int, 2) := by decide +kernel
theorem d_MO_init_828 : decode b_MO_init 828 = .ok (.putfield 134, 3) := by decide +kernel
theorem d_MO_init_831 : decode b_MO_init 831 = .ok (.aload_n 0, 1) := by decide +kernel
theorem d_MO_init_832 : decode b_MO_init 832 = .ok (.ldc 127, 2) := by decide +kernel
theorem d_MO_init_834 : decode b_MO_init 834 = .ok (.newarray .int, 2) := by decide +kernel
theorem d_MO_init_836 : decode b_MO_init 836 = .ok (.putfield 137, 3) := by decide +kernel
theorem d_MO_init_839 : decode b_MO_init 839 = .ok (.aload_n 0, 1) := by decide +kernel
theorem d_MO_init_840 : decode b_MO_init 840 = .ok (.ldc 127, 2) := by decide +kernel
theorem d_MO_init_842 : decode b_MO_init 842 = .ok (.newarray .int, 2) := by decide +kernel
theorem d_MO_init_844 : decode b_MO_init 844 = .ok (.putfield 140, 3) := by decide +kernel
theorem d_MO_init_847 : decode b_MO_init 847 = .ok (.aload_n 0, 1) := by decide +kernel
theorem d_MO_init_848 : decode b_MO_init 848 = .ok (.sipush 3600, 3) := by decide +kernel
theorem d_MO_init_851 : decode b_MO_init 851 = .ok (.newarray .int, 2) := by decide +kernel
theorem d_MO_init_853 : decode b_MO_init 853 = .ok (.putfield 143, 3) := by decide +kernel
theorem d_MO_init_856 : decode b_MO_init 856 = .ok (.aload_n 0, 1) := by decide +kernel
theorem d_MO_init_857 : decode b_MO_init 857 = .ok (.sipush 3600, 3) := by decide +kernel
theorem d_MO_init_860 : decode b_MO_init 860 = .ok (.newarray .int, 2) := by decide +kernel
theorem d_MO_init_862 : decode b_MO_init 862 = .ok (.putfield 146, 3) := by decide +kernel
theorem d_MO_init_865 : decode b_MO_init 865 = .ok (.aload_n 0, 1) := by decide +kernel
theorem d_MO_init_866 : decode b_MO_init 866 = .ok (.bipush 6, 2) := by decide +kernel
theorem d_MO_init_868 : decode b_MO_init 868 = .ok (.newarray .int, 2) := by decide +kernel
theorem d_MO_init_870 : decode b_MO_init 870 = .ok (.putfield 149, 3) := by decide +kernel
theorem d_MO_init_873 : decode b_MO_init 873 = .ok (.aload_n 0, 1) := by decide +kernel
theorem d_MO_init_874 : decode b_MO_init 874 = .ok (.sipush 720, 3) := by decide +kernel
theorem d_MO_init_877 : decode b_MO_init 877 = .ok (.newarray .int, 2) := by decide +kernel
theorem d_MO_init_879 : decode b_MO_init 879 = .ok (.putfield 152, 3) := by decide +kernel
theorem d_MO_init_882 : decode b_MO_init 882 = .ok (.aload_n 0, 1) := by decide +kernel
theorem d_MO_init_883 : decode b_MO_init 883 = .ok (.bipush 60, 2) := by decide +kernel
theorem d_MO_init_885 : decode b_MO_init 885 = .ok (.newarray .int, 2) := by decide +kernel
theorem d_MO_init_887 : decode b_MO_init 887 = .ok (.putfield 155, 3) := by decide +kernel
theorem d_MO_init_890 : decode b_MO_init 890 = .ok (.aload_n 0, 1) := by decide +kernel
theorem d_MO_init_891 : decode b_MO_init 891 = .ok (.sipush 300, 3) := by decide +kernel
theorem d_MO_init_894 : decode b_MO_init 894 = .ok (.newarray .int, 2) := by decide +kernel
theorem d_MO_init_896 : decode b_MO_init 896 = .ok (.putfield 158, 3) := by decide +kernel
theorem d_MO_init_899 : decode b_MO_init 899 = .ok (.aload_n 0, 1) := by decide +kernel
theorem d_MO_init_900 : decode b_MO_init 900 = .ok (.sipush 300, 3) := by decide +kernel
theorem d_MO_init_903 : decode b_MO_init 903 = .ok (.newarray .int, 2) := by decide +kernel
theorem d_MO_init_905 : decode b_MO_init 905 = .ok (.putfield 161, 3) := by decide +kernel
theorem d_MO_init_908 : decode b_MO_init 908 = .ok (.aload_n 0, 1) := by decide +kernel
theorem d_MO_init_909 : decode b_MO_init 909 = .ok (.sipush 300, 3) := by decide +kernel
theorem d_MO_init_912 : decode b_MO_init 912 = .ok (.newarray .int, 2) := by decide +kernel
theorem d_MO_init_914 : decode b_MO_init 914 = .ok (.putfield 164, 3) := by decide +kernel
theorem d_MO_init_917 : decode b_MO_init 917 = .ok (.aload_n 0, 1) := by decide +kernel
theorem d_MO_init_918 : decode b_MO_init 918 = .ok (.sipush 300, 3) := by decide +kernel
theorem d_MO_init_921 : decode b_MO_init 921 = .ok (.newarray .int, 2) := by decide +kernel
theorem d_MO_init_923 : decode b_MO_init 923 = .ok (.putfield 167, 3) := by decide +kernel
theorem d_MO_init_926 : decode b_MO_init 926 = .ok (.aload_n 0, 1) := by decide +kernel
theorem d_MO_init_927 : decode b_MO_init 927 = .ok (.sipush 300, 3) := by decide +kernel
theorem d_MO_init_930 : decode b_MO_init 930 = .ok (.newarray .int, 2) := by decide +kernel
theorem d_MO_init_932 : decode b_MO_init 932 = .ok (.putfield 170, 3) := by decide +kernel
theorem d_MO_init_935 : decode b_MO_init 935 = .ok (.aload_n 0, 1) := by decide +kernel
theorem d_MO_init_936 : decode b_MO_init 936 = .ok (.ldc 173, 2) := by decide +kernel
theorem d_MO_init_938 : decode b_MO_init 938 = .ok (.newarray .int, 2) := by decide +kernel
theorem d_MO_init_940 : decode b_MO_init 940 = .ok (.putfield 174, 3) := by decide +kernel
theorem d_MO_init_943 : decode b_MO_init 943 = .ok (.aload_n 0, 1) := by decide +kernel
theorem d_MO_init_944 : decode b_MO_init 944 = .ok (.ldc 177, 2) := by decide +kernel
theorem d_MO_init_946 : decode b_MO_init 946 = .ok (.newarray .long, 2) := by decide +kernel
theorem d_MO_init_948 : decode b_MO_init 948 = .ok (.putfield 178, 3) := by decide +kernel
theorem d_MO_init_951 : decode b_MO_init 951 = .ok (.aload_n 0, 1) := by decide +kernel
theorem d_MO_init_952 : decode b_MO_init 952 = .ok (.ldc 177, 2) := by decide +kernel
theorem d_MO_init_954 : decode b_MO_init 954 = .ok (.newarray .long, 2) := by decide +kernel
theorem d_MO_init_956 : decode b_MO_init 956 = .ok (.putfield 181, 3) := by decide +kernel
theorem d_MO_init_959 : decode b_MO_init 959 = .ok (.aload_n 0, 1) := by decide +kernel
theorem d_MO_init_960 : decode b_MO_init 960 = .ok (.ldc 177, 2) := by decide +kernel
theorem d_MO_init_962 : decode b_MO_init 962 = .ok (.newarray .long, 2) := by decide +kernel
theorem d_MO_init_964 : decode b_MO_init 964 = .ok (.putfield 184, 3) := by decide +kernel
theorem d_MO_init_967 : decode b_MO_init 967 = .ok (.aload_n 0, 1) := by decide +kernel
theorem d_MO_init_968 : decode b_MO_init 968 = .ok (.sipush 12500, 3) := by decide +kernel
theorem d_MO_init_971 : decode b_MO_init 971 = .ok (.newarray .boolean, 2) := by decide +kernel
theorem d_MO_init_973 : decode b_MO_init 973 = .ok (.putfield 187, 3) := by decide +kernel
theorem d_MO_init_976 : decode b_MO_init 976 = .ok (.aload_n 0, 1) := by decide +kernel
theorem d_MO_init_977 : decode b_MO_init 977 = .ok (.bipush 20, 2) := by decide +kernel
theorem d_MO_init_979 : decode b_MO_init 979 = .ok (.newarray .int, 2) := by decide +kernel
theorem d_MO_init_981 : decode b_MO_init 981 = .ok (.putfield 190, 3) := by decide +kernel
theorem d_MO_init_984 : decode b_MO_init 984 = .ok (.aload_n 0, 1) := by decide +kernel
theorem d_MO_init_985 : decode b_MO_init 985 = .ok (.bipush 20, 2) := by decide +kernel
theorem d_MO_init_987 : decode b_MO_init 987 = .ok (.newarray .int, 2) := by decide +kernel
theorem d_MO_init_989 : decode b_MO_init 989 = .ok (.putfield 193, 3) := by decide +kernel
theorem d_MO_init_992 : decode b_MO_init 992 = .ok (.aload_n 0, 1) := by decide +kernel
theorem d_MO_init_993 : decode b_MO_init 993 = .ok (.sipush 12500, 3) := by decide +kernel
theorem d_MO_init_996 : decode b_MO_init 996 = .ok (.newarray .int, 2) := by decide +kernel
theorem d_MO_init_998 : decode b_MO_init 998 = .ok (.putfield 196, 3) := by decide +kernel
theorem d_MO_init_1001 : decode b_MO_init 1001 = .ok (.aload_n 0, 1) := by decide +kernel
theorem d_MO_init_1002 : decode b_MO_init 1002 = .ok (.sipush 12500, 3) := by decide +kernel
theorem d_MO_init_1005 : decode b_MO_init 1005 = .ok (.newarray .int, 2) := by decide +kernel
theorem d_MO_init_1007 : decode b_MO_init 1007 = .ok (.putfield 199, 3) := by decide +kernel
theorem d_MO_init_1010 : decode b_MO_init 1010 = .ok (.aload_n 0, 1) := by decide +kernel
theorem d_MO_init_1011 : decode b_MO_init 1011 = .ok (.sipush 25000, 3) := by decide +kernel
theorem d_MO_init_1014 : decode b_MO_init 1014 = .ok (.newarray .int, 2) := by decide +kernel
theorem d_MO_init_1016 : decode b_MO_init 1016 = .ok (.putfield 202, 3) := by decide +kernel
theorem d_MO_init_1019 : decode b_MO_init 1019 = .ok (.aload_n 0, 1) := by decide +kernel
theorem d_MO_init_1020 : decode b_MO_init 1020 = .ok (.sipush 25000, 3) := by decide +kernel
theorem d_MO_init_1023 : decode b_MO_init 1023 = .ok (.newarray .int, 2) := by decide +kernel
theorem d_MO_init_1025 : decode b_MO_init 1025 = .ok (.putfield 205, 3) := by decide +kernel
theorem d_MO_init_1028 : decode b_MO_init 1028 = .ok (.aload_n 0, 1) := by decide +kernel
theorem d_MO_init_1029 : decode b_MO_init 1029 = .ok (.sipush 12500, 3) := by decide +kernel
theorem d_MO_init_1032 : decode b_MO_init 1032 = .ok (.newarray .boolean, 2) := by decide +kernel
theorem d_MO_init_1034 : decode b_MO_init 1034 = .ok (.putfield 208, 3) := by decide +kernel
theorem d_MO_init_1037 : decode b_MO_init 1037 = .ok (.aload_n 0, 1) := by decide +kernel
theorem d_MO_init_1038 : decode b_MO_init 1038 = .ok (.sipush 4100, 3) := by decide +kernel
theorem d_MO_init_1041 : decode b_MO_init 1041 = .ok (.newarray .int, 2) := by decide +kernel
theorem d_MO_init_1043 : decode b_MO_init 1043 = .ok (.putfield 211, 3) := by decide +kernel
theorem d_MO_init_1046 : decode b_MO_init 1046 = .ok (.aload_n 0, 1) := by decide +kernel
theorem d_MO_init_1047 : decode b_MO_init 1047 = .ok (.sipush 4100, 3) := by decide +kernel
theorem d_MO_init_1050 : decode b_MO_init 1050 = .ok (.newarray .int, 2) := by decide +kernel
theorem d_MO_init_1052 : decode b_MO_init 1052 = .ok (.putfield 214, 3) := by decide +kernel
theorem d_MO_init_1055 : decode b_MO_init 1055 = .ok (.aload_n 0, 1) := by decide +kernel
theorem d_MO_init_1056 : decode b_MO_init 1056 = .ok (.sipush 6000, 3) := by decide +kernel
theorem d_MO_init_1059 : decode b_MO_init 1059 = .ok (.newarray .int, 2) := by decide +kernel
theorem d_MO_init_1061 : decode b_MO_init 1061 = .ok (.putfield 217, 3) := by decide +kernel
theorem d_MO_init_1064 : decode b_MO_init 1064 = .ok (.return_, 1) := by decide +kernel
