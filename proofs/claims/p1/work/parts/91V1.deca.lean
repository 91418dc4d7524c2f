theorem d_MO_bit_0 : decode b_MO_bit 0 = .ok (.aload_n 0, 1) := by decide +kernel
theorem d_MO_bit_1 : decode b_MO_bit 1 = .ok (.sipush 196, 3) := by decide +kernel
theorem d_MO_bit_4 : decode b_MO_bit 4 = .ok (.iload_n 1, 1) := by decide +kernel
theorem d_MO_bit_5 : decode b_MO_bit 5 = .ok (.imul, 1) := by decide +kernel
theorem d_MO_bit_6 : decode b_MO_bit 6 = .ok (.iload_n 2, 1) := by decide +kernel
theorem d_MO_bit_7 : decode b_MO_bit 7 = .ok (.bipush 64, 2) := by decide +kernel
theorem d_MO_bit_9 : decode b_MO_bit 9 = .ok (.idiv, 1) := by decide +kernel
theorem d_MO_bit_10 : decode b_MO_bit 10 = .ok (.iadd, 1) := by decide +kernel
theorem d_MO_bit_11 : decode b_MO_bit 11 = .ok (.laload, 1) := by decide +kernel
theorem d_MO_bit_12 : decode b_MO_bit 12 = .ok (.iload_n 2, 1) := by decide +kernel
theorem d_MO_bit_13 : decode b_MO_bit 13 = .ok (.bipush 64, 2) := by decide +kernel
theorem d_MO_bit_15 : decode b_MO_bit 15 = .ok (.irem, 1) := by decide +kernel
theorem d_MO_bit_16 : decode b_MO_bit 16 = .ok (.lshr, 1) := by decide +kernel
theorem d_MO_bit_17 : decode b_MO_bit 17 = .ok (.lconst 1, 1) := by decide +kernel
theorem d_MO_bit_18 : decode b_MO_bit 18 = .ok (.land, 1) := by decide +kernel
theorem d_MO_bit_19 : decode b_MO_bit 19 = .ok (.lconst 1, 1) := by decide +kernel
theorem d_MO_bit_20 : decode b_MO_bit 20 = .ok (.lcmp, 1) := by decide +kernel
theorem d_MO_bit_21 : decode b_MO_bit 21 = .ok (.ifCond .ne 7, 3) := by decide +kernel
theorem d_MO_bit_24 : decode b_MO_bit 24 = .ok (.iconst 1, 1) := by decide +kernel
theorem d_MO_bit_25 : decode b_MO_bit 25 = .ok (.goto 4, 3) := by decide +kernel
theorem d_MO_bit_28 : decode b_MO_bit 28 = .ok (.iconst 0, 1) := by decide +kernel
theorem d_MO_bit_29 : decode b_MO_bit 29 = .ok (.ireturn, 1) := by decide +kernel
theorem d_MO_byteOf_0 : decode b_MO_byteOf 0 = .ok (.iload_n 2, 1) := by decide +kernel
theorem d_MO_byteOf_1 : decode b_MO_byteOf 1 = .ok (.iload_n 1, 1) := by decide +kernel
theorem d_MO_byteOf_2 : decode b_MO_byteOf 2 = .ok (.if_icmp .ge 9, 3) := by decide +kernel
theorem d_MO_byteOf_5 : decode b_MO_byteOf 5 = .ok (.aload_n 0, 1) := by decide +kernel
theorem d_MO_byteOf_6 : decode b_MO_byteOf 6 = .ok (.iload_n 2, 1) := by decide +kernel
theorem d_MO_byteOf_7 : decode b_MO_byteOf 7 = .ok (.iaload, 1) := by decide +kernel
theorem d_MO_byteOf_8 : decode b_MO_byteOf 8 = .ok (.goto 4, 3) := by decide +kernel
theorem d_MO_byteOf_11 : decode b_MO_byteOf 11 = .ok (.iconst 0, 1) := by decide +kernel
theorem d_MO_byteOf_12 : decode b_MO_byteOf 12 = .ok (.ireturn, 1) := by decide +kernel
theorem d_MO_character_0 : decode b_MO_character 0 = .ok (.aload_n 0, 1) := by decide +kernel
theorem d_MO_character_1 : decode b_MO_character 1 = .ok (.iconst 1, 1) := by decide +kernel
theorem d_MO_character_2 : decode b_MO_character 2 = .ok (.putfield 226, 3) := by decide +kernel
theorem d_MO_character_5 : decode b_MO_character 5 = .ok (.aload_n 1, 1) := by decide +kernel
theorem d_MO_character_6 : decode b_MO_character 6 = .ok (.iload_n 2, 1) := by decide +kernel
theorem d_MO_character_7 : decode b_MO_character 7 = .ok (.iload_n 3, 1) := by decide +kernel
theorem d_MO_character_8 : decode b_MO_character 8 = .ok (.invokestatic 229, 3) := by decide +kernel
theorem d_MO_character_11 : decode b_MO_character 11 = .ok (.istore 4, 2) := by decide +kernel
theorem d_MO_character_13 : decode b_MO_character 13 = .ok (.iload_n 3, 1) := by decide +kernel
theorem d_MO_character_14 : decode b_MO_character 14 = .ok (.iload_n 2, 1) := by decide +kernel
theorem d_MO_character_15 : decode b_MO_character 15 = .ok (.if_icmp .lt 5, 3) := by decide +kernel
theorem d_MO_character_18 : decode b_MO_character 18 = .ok (.iconst (-1), 1) := by decide +kernel
theorem d_MO_character_19 : decode b_MO_character 19 = .ok (.ireturn, 1) := by decide +kernel
theorem d_MO_character_20 : decode b_MO_character 20 = .ok (.iload 4, 2) := by decide +kernel
theorem d_MO_character_22 : decode b_MO_character 22 = .ok (.sipush 128, 3) := by decide +kernel
theorem d_MO_character_25 : decode b_MO_character 25 = .ok (.if_icmp .ge 6, 3) := by decide +kernel
theorem d_MO_character_28 : decode b_MO_character 28 = .ok (.iload 4, 2) := by decide +kernel
theorem d_MO_character_30 : decode b_MO_character 30 = .ok (.ireturn, 1) := by decide +kernel
theorem d_MO_character_31 : decode b_MO_character 31 = .ok (.aload_n 1, 1) := by decide +kernel
theorem d_MO_character_32 : decode b_MO_character 32 = .ok (.iload_n 2, 1) := by decide +kernel
theorem d_MO_character_33 : decode b_MO_character 33 = .ok (.iload_n 3, 1) := by decide +kernel
theorem d_MO_character_34 : decode b_MO_character 34 = .ok (.iconst 1, 1) := by decide +kernel
theorem d_MO_character_35 : decode b_MO_character 35 = .ok (.iadd, 1) := by decide +kernel
theorem d_MO_character_36 : decode b_MO_character 36 = .ok (.invokestatic 229, 3) := by decide +kernel
theorem d_MO_character_39 : decode b_MO_character 39 = .ok (.istore 5, 2) := by decide +kernel
theorem d_MO_character_41 : decode b_MO_character 41 = .ok (.aload_n 1, 1) := by decide +kernel
theorem d_MO_character_42 : decode b_MO_character 42 = .ok (.iload_n 2, 1) := by decide +kernel
theorem d_MO_character_43 : decode b_MO_character 43 = .ok (.iload_n 3, 1) := by decide +kernel
theorem d_MO_character_44 : decode b_MO_character 44 = .ok (.iconst 2, 1) := by decide +kernel
theorem d_MO_character_45 : decode b_MO_character 45 = .ok (.iadd, 1) := by decide +kernel
theorem d_MO_character_46 : decode b_MO_character 46 = .ok (.invokestatic 229, 3) := by decide +kernel
theorem d_MO_character_49 : decode b_MO_character 49 = .ok (.istore 6, 2) := by decide +kernel
theorem d_MO_character_51 : decode b_MO_character 51 = .ok (.aload_n 1, 1) := by decide +kernel
theorem d_MO_character_52 : decode b_MO_character 52 = .ok (.iload_n 2, 1) := by decide +kernel
theorem d_MO_character_53 : decode b_MO_character 53 = .ok (.iload_n 3, 1) := by decide +kernel
theorem d_MO_character_54 : decode b_MO_character 54 = .ok (.iconst 3, 1) := by decide +kernel
theorem d_MO_character_55 : decode b_MO_character 55 = .ok (.iadd, 1) := by decide +kernel
theorem d_MO_character_56 : decode b_MO_character 56 = .ok (.invokestatic 229, 3) := by decide +kernel
theorem d_MO_character_59 : decode b_MO_character 59 = .ok (.istore 7, 2) := by decide +kernel
theorem d_MO_character_61 : decode b_MO_character 61 = .ok (.iload 5, 2) := by decide +kernel
theorem d_MO_character_63 : decode b_MO_character 63 = .ok (.sipush 128, 3) := by decide +kernel
theorem d_MO_character_66 : decode b_MO_character 66 = .ok (.if_icmp .lt 15, 3) := by decide +kernel
theorem d_MO_character_69 : decode b_MO_character 69 = .ok (.iload 5, 2) := by decide +kernel
theorem d_MO_character_71 : decode b_MO_character 71 = .ok (.sipush 192, 3) := by decide +kernel
theorem d_MO_character_74 : decode b_MO_character 74 = .ok (.if_icmp .ge 7, 3) := by decide +kernel
theorem d_MO_character_77 : decode b_MO_character 77 = .ok (.iconst 1, 1) := by decide +kernel
theorem d_MO_character_78 : decode b_MO_character 78 = .ok (.goto 4, 3) := by decide +kernel
theorem d_MO_character_81 : decode b_MO_character 81 = .ok (.iconst 0, 1) := by decide +kernel
theorem d_MO_character_82 : decode b_MO_character 82 = .ok (.istore 8, 2) := by decide +kernel
theorem d_MO_character_84 : decode b_MO_character 84 = .ok (.iload 8, 2) := by decide +kernel
theorem d_MO_character_86 : decode b_MO_character 86 = .ok (.ifCond .eq 23, 3) := by decide +kernel
theorem d_MO_character_89 : decode b_MO_character 89 = .ok (.iload 6, 2) := by decide +kernel
theorem d_MO_character_91 : decode b_MO_character 91 = .ok (.sipush 128, 3) := by decide +kernel
theorem d_MO_character_94 : decode b_MO_character 94 = .ok (.if_icmp .lt 15, 3) := by decide +kernel
theorem d_MO_character_97 : decode b_MO_character 97 = .ok (.iload 6, 2) := by decide +kernel
theorem d_MO_character_99 : decode b_MO_character 99 = .ok (.sipush 192, 3) := by decide +kernel
theorem d_MO_character_102 : decode b_MO_character 102 = .ok (.if_icmp .ge 7, 3) := by decide +kernel
theorem d_MO_character_105 : decode b_MO_character 105 = .ok (.iconst 1, 1) := by decide +kernel
theorem d_MO_character_106 : decode b_MO_character 106 = .ok (.goto 4, 3) := by decide +kernel
theorem d_MO_character_109 : decode b_MO_character 109 = .ok (.iconst 0, 1) := by decide +kernel
theorem d_MO_character_110 : decode b_MO_character 110 = .ok (.istore 9, 2) := by decide +kernel
theorem d_MO_character_112 : decode b_MO_character 112 = .ok (.iload 4, 2) := by decide +kernel
theorem d_MO_character_114 : decode b_MO_character 114 = .ok (.sipush 194, 3) := by decide +kernel
theorem d_MO_character_117 : decode b_MO_character 117 = .ok (.if_icmp .lt 36, 3) := by decide +kernel
theorem d_MO_character_120 : decode b_MO_character 120 = .ok (.iload 4, 2) := by decide +kernel
theorem d_MO_character_122 : decode b_MO_character 122 = .ok (.sipush 224, 3) := by decide +kernel
theorem d_MO_character_125 : decode b_MO_character 125 = .ok (.if_icmp .ge 28, 3) := by decide +kernel
theorem d_MO_character_128 : decode b_MO_character 128 = .ok (.iload 8, 2) := by decide +kernel
theorem d_MO_character_130 : decode b_MO_character 130 = .ok (.ifCond .eq 23, 3) := by decide +kernel
theorem d_MO_character_133 : decode b_MO_character 133 = .ok (.aload_n 0, 1) := by decide +kernel
theorem d_MO_character_134 : decode b_MO_character 134 = .ok (.iconst 2, 1) := by decide +kernel
theorem d_MO_character_135 : decode b_MO_character 135 = .ok (.putfield 226, 3) := by decide +kernel
theorem d_MO_character_138 : decode b_MO_character 138 = .ok (.iload 4, 2) := by decide +kernel
theorem d_MO_character_140 : decode b_MO_character 140 = .ok (.bipush 31, 2) := by decide +kernel
theorem d_MO_character_142 : decode b_MO_character 142 = .ok (.iand, 1) := by decide +kernel
theorem d_MO_character_143 : decode b_MO_character 143 = .ok (.bipush 6, 2) := by decide +kernel
theorem d_MO_character_145 : decode b_MO_character 145 = .ok (.ishl, 1) := by decide +kernel
theorem d_MO_character_146 : decode b_MO_character 146 = .ok (.iload 5, 2) := by decide +kernel
theorem d_MO_character_148 : decode b_MO_character 148 = .ok (.bipush 63, 2) := by decide +kernel
theorem d_MO_character_150 : decode b_MO_character 150 = .ok (.iand, 1) := by decide +kernel
theorem d_MO_character_151 : decode b_MO_character 151 = .ok (.ior, 1) := by decide +kernel
theorem d_MO_character_152 : decode b_MO_character 152 = .ok (.ireturn, 1) := by decide +kernel
theorem d_MO_character_153 : decode b_MO_character 153 = .ok (.iload 4, 2) := by decide +kernel
theorem d_MO_character_155 : decode b_MO_character 155 = .ok (.bipush 15, 2) := by decide +kernel
theorem d_MO_character_157 : decode b_MO_character 157 = .ok (.iand, 1) := by decide +kernel
theorem d_MO_character_158 : decode b_MO_character 158 = .ok (.bipush 12, 2) := by decide +kernel
theorem d_MO_character_160 : decode b_MO_character 160 = .ok (.ishl, 1) := by decide +kernel
theorem d_MO_character_161 : decode b_MO_character 161 = .ok (.iload 5, 2) := by decide +kernel
theorem d_MO_character_163 : decode b_MO_character 163 = .ok (.bipush 63, 2) := by decide +kernel
theorem d_MO_character_165 : decode b_MO_character 165 = .ok (.iand, 1) := by decide +kernel
theorem d_MO_character_166 : decode b_MO_character 166 = .ok (.bipush 6, 2) := by decide +kernel
theorem d_MO_character_168 : decode b_MO_character 168 = .ok (.ishl, 1) := by decide +kernel
theorem d_MO_character_169 : decode b_MO_character 169 = .ok (.ior, 1) := by decide +kernel
theorem d_MO_character_170 : decode b_MO_character 170 = .ok (.iload 6, 2) := by decide +kernel
theorem d_MO_character_172 : decode b_MO_character 172 = .ok (.bipush 63, 2) := by decide +kernel
theorem d_MO_character_174 : decode b_MO_character 174 = .ok (.iand, 1) := by decide +kernel
theorem d_MO_character_175 : decode b_MO_character 175 = .ok (.ior, 1) := by decide +kernel
theorem d_MO_character_176 : decode b_MO_character 176 = .ok (.istore 10, 2) := by decide +kernel
theorem d_MO_character_178 : decode b_MO_character 178 = .ok (.iload 4, 2) := by decide +kernel
theorem d_MO_character_180 : decode b_MO_character 180 = .ok (.sipush 224, 3) := by decide +kernel
theorem d_MO_character_183 : decode b_MO_character 183 = .ok (.if_icmp .lt 46, 3) := by decide +kernel
theorem d_MO_character_186 : decode b_MO_character 186 = .ok (.iload 4, 2) := by decide +kernel
theorem d_MO_character_188 : decode b_MO_character 188 = .ok (.sipush 240, 3) := by decide +kernel
theorem d_MO_character_191 : decode b_MO_character 191 = .ok (.if_icmp .ge 38, 3) := by decide +kernel
theorem d_MO_character_194 : decode b_MO_character 194 = .ok (.iload 9, 2) := by decide +kernel
theorem d_MO_character_196 : decode b_MO_character 196 = .ok (.ifCond .eq 33, 3) := by decide +kernel
theorem d_MO_character_199 : decode b_MO_character 199 = .ok (.iload 10, 2) := by decide +kernel
theorem d_MO_character_201 : decode b_MO_character 201 = .ok (.sipush 2048, 3) := by decide +kernel
theorem d_MO_character_204 : decode b_MO_character 204 = .ok (.if_icmp .lt 25, 3) := by decide +kernel
theorem d_MO_character_207 : decode b_MO_character 207 = .ok (.iload 10, 2) := by decide +kernel
theorem d_MO_character_209 : decode b_MO_character 209 = .ok (.ldc 233, 2) := by decide +kernel
theorem d_MO_character_211 : decode b_MO_character 211 = .ok (.if_icmp .lt 10, 3) := by decide +kernel
theorem d_MO_character_214 : decode b_MO_character 214 = .ok (.iload 10, 2) := by decide +kernel
theorem d_MO_character_216 : decode b_MO_character 216 = .ok (.ldc 234, 2) := by decide +kernel
theorem d_MO_character_218 : decode b_MO_character 218 = .ok (.if_icmp .lt 11, 3) := by decide +kernel
theorem d_MO_character_221 : decode b_MO_character 221 = .ok (.aload_n 0, 1) := by decide +kernel
theorem d_MO_character_222 : decode b_MO_character 222 = .ok (.iconst 3, 1) := by decide +kernel
theorem d_MO_character_223 : decode b_MO_character 223 = .ok (.putfield 226, 3) := by decide +kernel
theorem d_MO_character_226 : decode b_MO_character 226 = .ok (.iload 10, 2) := by decide +kernel
theorem d_MO_character_228 : decode b_MO_character 228 = .ok (.ireturn, 1) := by decide +kernel
theorem d_MO_character_229 : decode b_MO_character 229 = .ok (.iload 4, 2) := by decide +kernel
theorem d_MO_character_231 : decode b_MO_character 231 = .ok (.bipush 7, 2) := by decide +kernel
theorem d_MO_character_233 : decode b_MO_character 233 = .ok (.iand, 1) := by decide +kernel
theorem d_MO_character_234 : decode b_MO_character 234 = .ok (.bipush 18, 2) := by decide +kernel
theorem d_MO_character_236 : decode b_MO_character 236 = .ok (.ishl, 1) := by decide +kernel
theorem d_MO_character_237 : decode b_MO_character 237 = .ok (.iload 5, 2) := by decide +kernel
theorem d_MO_character_239 : decode b_MO_character 239 = .ok (.bipush 63, 2) := by decide +kernel
theorem d_MO_character_241 : decode b_MO_character 241 = .ok (.iand, 1) := by decide +kernel
theorem d_MO_character_242 : decode b_MO_character 242 = .ok (.bipush 12, 2) := by decide +kernel
theorem d_MO_character_244 : decode b_MO_character 244 = .ok (.ishl, 1) := by decide +kernel
theorem d_MO_character_245 : decode b_MO_character 245 = .ok (.ior, 1) := by decide +kernel
theorem d_MO_character_246 : decode b_MO_character 246 = .ok (.iload 6, 2) := by decide +kernel
theorem d_MO_character_248 : decode b_MO_character 248 = .ok (.bipush 63, 2) := by decide +kernel
theorem d_MO_character_250 : decode b_MO_character 250 = .ok (.iand, 1) := by decide +kernel
theorem d_MO_character_251 : decode b_MO_character 251 = .ok (.bipush 6, 2) := by decide +kernel
theorem d_MO_character_253 : decode b_MO_character 253 = .ok (.ishl, 1) := by decide +kernel
theorem d_MO_character_254 : decode b_MO_character 254 = .ok (.ior, 1) := by decide +kernel
theorem d_MO_character_255 : decode b_MO_character 255 = .ok (.iload 7, 2) := by decide +kernel
theorem d_MO_character_257 : decode b_MO_character 257 = .ok (.bipush 63, 2) := by decide +kernel
theorem d_MO_character_259 : decode b_MO_character 259 = .ok (.iand, 1) := by decide +kernel
theorem d_MO_character_260 : decode b_MO_character 260 = .ok (.ior, 1) := by decide +kernel
theorem d_MO_character_261 : decode b_MO_character 261 = .ok (.istore 10, 2) := by decide +kernel
theorem d_MO_character_263 : decode b_MO_character 263 = .ok (.iload 4, 2) := by decide +kernel
theorem d_MO_character_265 : decode b_MO_character 265 = .ok (.sipush 240, 3) := by decide +kernel
theorem d_MO_character_268 : decode b_MO_character 268 = .ok (.if_icmp .lt 54, 3) := by decide +kernel
theorem d_MO_character_271 : decode b_MO_character 271 = .ok (.iload 4, 2) := by decide +kernel
theorem d_MO_character_273 : decode b_MO_character 273 = .ok (.sipush 245, 3) := by decide +kernel
theorem d_MO_character_276 : decode b_MO_character 276 = .ok (.if_icmp .ge 46, 3) := by decide +kernel
theorem d_MO_character_279 : decode b_MO_character 279 = .ok (.iload 9, 2) := by decide +kernel
theorem d_MO_character_281 : decode b_MO_character 281 = .ok (.ifCond .eq 41, 3) := by decide +kernel
theorem d_MO_character_284 : decode b_MO_character 284 = .ok (.iload 7, 2) := by decide +kernel
theorem d_MO_character_286 : decode b_MO_character 286 = .ok (.sipush 128, 3) := by decide +kernel
theorem d_MO_character_289 : decode b_MO_character 289 = .ok (.if_icmp .lt 33, 3) := by decide +kernel
theorem d_MO_character_292 : decode b_MO_character 292 = .ok (.iload 7, 2) := by decide +kernel
theorem d_MO_character_294 : decode b_MO_character 294 = .ok (.sipush 192, 3) := by decide +kernel
theorem d_MO_character_297 : decode b_MO_character 297 = .ok (.if_icmp .ge 25, 3) := by decide +kernel
theorem d_MO_character_300 : decode b_MO_character 300 = .ok (.iload 10, 2) := by decide +kernel
theorem d_MO_character_302 : decode b_MO_character 302 = .ok (.ldc 235, 2) := by decide +kernel
theorem d_MO_character_304 : decode b_MO_character 304 = .ok (.if_icmp .lt 18, 3) := by decide +kernel
theorem d_MO_character_307 : decode b_MO_character 307 = .ok (.iload 10, 2) := by decide +kernel
theorem d_MO_character_309 : decode b_MO_character 309 = .ok (.ldc 236, 2) := by decide +kernel
theorem d_MO_character_311 : decode b_MO_character 311 = .ok (.if_icmp .gt 11, 3) := by decide +kernel
theorem d_MO_character_314 : decode b_MO_character 314 = .ok (.aload_n 0, 1) := by decide +kernel
theorem d_MO_character_315 : decode b_MO_character 315 = .ok (.iconst 4, 1) := by decide +kernel
theorem d_MO_character_316 : decode b_MO_character 316 = .ok (.putfield 226, 3) := by decide +kernel
theorem d_MO_character_319 : decode b_MO_character 319 = .ok (.iload 10, 2) := by decide +kernel
theorem d_MO_character_321 : decode b_MO_character 321 = .ok (.ireturn, 1) := by decide +kernel
theorem d_MO_character_322 : decode b_MO_character 322 = .ok (.iconst (-1), 1) := by decide +kernel
theorem d_MO_character_323 : decode b_MO_character 323 = .ok (.ireturn, 1) := by decide +kernel
theorem d_MO_holds_0 : decode b_MO_holds 0 = .ok (.iload_n 1, 1) := by decide +kernel
theorem d_MO_holds_1 : decode b_MO_holds 1 = .ok (.tableswitch 124 0 4 #[35, 45, 59, 80, 101], 35) := by decide +kernel
theorem d_MO_holds_36 : decode b_MO_holds 36 = .ok (.iload_n 2, 1) := by decide +kernel
theorem d_MO_holds_37 : decode b_MO_holds 37 = .ok (.ifCond .ne 7, 3) := by decide +kernel
theorem d_MO_holds_40 : decode b_MO_holds 40 = .ok (.iconst 1, 1) := by decide +kernel
theorem d_MO_holds_41 : decode b_MO_holds 41 = .ok (.goto 4, 3) := by decide +kernel
theorem d_MO_holds_44 : decode b_MO_holds 44 = .ok (.iconst 0, 1) := by decide +kernel
theorem d_MO_holds_45 : decode b_MO_holds 45 = .ok (.ireturn, 1) := by decide +kernel
theorem d_MO_holds_46 : decode b_MO_holds 46 = .ok (.iload_n 2, 1) := by decide +kernel
theorem d_MO_holds_47 : decode b_MO_holds 47 = .ok (.aload_n 0, 1) := by decide +kernel
theorem d_MO_holds_48 : decode b_MO_holds 48 = .ok (.getfield 510, 3) := by decide +kernel
theorem d_MO_holds_51 : decode b_MO_holds 51 = .ok (.if_icmp .ne 7, 3) := by decide +kernel
theorem d_MO_holds_54 : decode b_MO_holds 54 = .ok (.iconst 1, 1) := by decide +kernel
theorem d_MO_holds_55 : decode b_MO_holds 55 = .ok (.goto 4, 3) := by decide +kernel
theorem d_MO_holds_58 : decode b_MO_holds 58 = .ok (.iconst 0, 1) := by decide +kernel
theorem d_MO_holds_59 : decode b_MO_holds 59 = .ok (.ireturn, 1) := by decide +kernel
theorem d_MO_holds_60 : decode b_MO_holds 60 = .ok (.aload_n 0, 1) := by decide +kernel
theorem d_MO_holds_61 : decode b_MO_holds 61 = .ok (.iload_n 2, 1) := by decide +kernel
theorem d_MO_holds_62 : decode b_MO_holds 62 = .ok (.iconst 1, 1) := by decide +kernel
theorem d_MO_holds_63 : decode b_MO_holds 63 = .ok (.isub, 1) := by decide +kernel
theorem d_MO_holds_64 : decode b_MO_holds 64 = .ok (.invokevirtual 519, 3) := by decide +kernel
theorem d_MO_holds_67 : decode b_MO_holds 67 = .ok (.aload_n 0, 1) := by decide +kernel
theorem d_MO_holds_68 : decode b_MO_holds 68 = .ok (.iload_n 2, 1) := by decide +kernel
theorem d_MO_holds_69 : decode b_MO_holds 69 = .ok (.invokevirtual 519, 3) := by decide +kernel
theorem d_MO_holds_72 : decode b_MO_holds 72 = .ok (.if_icmp .eq 7, 3) := by decide +kernel
theorem d_MO_holds_75 : decode b_MO_holds 75 = .ok (.iconst 1, 1) := by decide +kernel
theorem d_MO_holds_76 : decode b_MO_holds 76 = .ok (.goto 4, 3) := by decide +kernel
theorem d_MO_holds_79 : decode b_MO_holds 79 = .ok (.iconst 0, 1) := by decide +kernel
theorem d_MO_holds_80 : decode b_MO_holds 80 = .ok (.ireturn, 1) := by decide +kernel
theorem d_MO_holds_81 : decode b_MO_holds 81 = .ok (.aload_n 0, 1) := by decide +kernel
theorem d_MO_holds_82 : decode b_MO_holds 82 = .ok (.iload_n 2, 1) := by decide +kernel
theorem d_MO_holds_83 : decode b_MO_holds 83 = .ok (.iconst 1, 1) := by decide +kernel
theorem d_MO_holds_84 : decode b_MO_holds 84 = .ok (.isub, 1) := by decide +kernel
theorem d_MO_holds_85 : decode b_MO_holds 85 = .ok (.invokevirtual 519, 3) := by decide +kernel
theorem d_MO_holds_88 : decode b_MO_holds 88 = .ok (.aload_n 0, 1) := by decide +kernel
theorem d_MO_holds_89 : decode b_MO_holds 89 = .ok (.iload_n 2, 1) := by decide +kernel
theorem d_MO_holds_90 : decode b_MO_holds 90 = .ok (.invokevirtual 519, 3) := by decide +kernel
theorem d_MO_holds_93 : decode b_MO_holds 93 = .ok (.if_icmp .ne 7, 3) := by decide +kernel
theorem d_MO_holds_96 : decode b_MO_holds 96 = .ok (.iconst 1, 1) := by decide +kernel
theorem d_MO_holds_97 : decode b_MO_holds 97 = .ok (.goto 4, 3) := by decide +kernel
theorem d_MO_holds_100 : decode b_MO_holds 100 = .ok (.iconst 0, 1) := by decide +kernel
theorem d_MO_holds_101 : decode b_MO_holds 101 = .ok (.ireturn, 1) := by decide +kernel
theorem d_MO_holds_102 : decode b_MO_holds 102 = .ok (.iload_n 2, 1) := by decide +kernel
theorem d_MO_holds_103 : decode b_MO_holds 103 = .ok (.ifCond .eq 16, 3) := by decide +kernel
theorem d_MO_holds_106 : decode b_MO_holds 106 = .ok (.aload_n 0, 1) := by decide +kernel
theorem d_MO_holds_107 : decode b_MO_holds 107 = .ok (.getfield 22, 3) := by decide +kernel
theorem d_MO_holds_110 : decode b_MO_holds 110 = .ok (.iload_n 2, 1) := by decide +kernel
theorem d_MO_holds_111 : decode b_MO_holds 111 = .ok (.iconst 1, 1) := by decide +kernel
theorem d_MO_holds_112 : decode b_MO_holds 112 = .ok (.isub, 1) := by decide +kernel
theorem d_MO_holds_113 : decode b_MO_holds 113 = .ok (.iaload, 1) := by decide +kernel
theorem d_MO_holds_114 : decode b_MO_holds 114 = .ok (.bipush 10, 2) := by decide +kernel
theorem d_MO_holds_116 : decode b_MO_holds 116 = .ok (.if_icmp .ne 7, 3) := by decide +kernel
theorem d_MO_holds_119 : decode b_MO_holds 119 = .ok (.iconst 1, 1) := by decide +kernel
theorem d_MO_holds_120 : decode b_MO_holds 120 = .ok (.goto 4, 3) := by decide +kernel
theorem d_MO_holds_123 : decode b_MO_holds 123 = .ok (.iconst 0, 1) := by decide +kernel
theorem d_MO_holds_124 : decode b_MO_holds 124 = .ok (.ireturn, 1) := by decide +kernel
theorem d_MO_holds_125 : decode b_MO_holds 125 = .ok (.iload_n 2, 1) := by decide +kernel
theorem d_MO_holds_126 : decode b_MO_holds 126 = .ok (.aload_n 0, 1) := by decide +kernel
theorem d_MO_holds_127 : decode b_MO_holds 127 = .ok (.getfield 510, 3) := by decide +kernel
theorem d_MO_holds_130 : decode b_MO_holds 130 = .ok (.if_icmp .eq 14, 3) := by decide +kernel
theorem d_MO_holds_133 : decode b_MO_holds 133 = .ok (.aload_n 0, 1) := by decide +kernel
theorem d_MO_holds_134 : decode b_MO_holds 134 = .ok (.getfield 22, 3) := by decide +kernel
theorem d_MO_holds_137 : decode b_MO_holds 137 = .ok (.iload_n 2, 1) := by decide +kernel
theorem d_MO_holds_138 : decode b_MO_holds 138 = .ok (.iaload, 1) := by decide +kernel
theorem d_MO_holds_139 : decode b_MO_holds 139 = .ok (.bipush 10, 2) := by decide +kernel
theorem d_MO_holds_141 : decode b_MO_holds 141 = .ok (.if_icmp .ne 7, 3) := by decide +kernel
theorem d_MO_holds_144 : decode b_MO_holds 144 = .ok (.iconst 1, 1) := by decide +kernel
theorem d_MO_holds_145 : decode b_MO_holds 145 = .ok (.goto 4, 3) := by decide +kernel
theorem d_MO_holds_148 : decode b_MO_holds 148 = .ok (.iconst 0, 1) := by decide +kernel
theorem d_MO_holds_149 : decode b_MO_holds 149 = .ok (.ireturn, 1) := by decide +kernel
theorem d_MO_isWord_0 : decode b_MO_isWord 0 = .ok (.iload_n 0, 1) := by decide +kernel
theorem d_MO_isWord_1 : decode b_MO_isWord 1 = .ok (.bipush 48, 2) := by decide +kernel
theorem d_MO_isWord_3 : decode b_MO_isWord 3 = .ok (.if_icmp .lt 9, 3) := by decide +kernel
theorem d_MO_isWord_6 : decode b_MO_isWord 6 = .ok (.iload_n 0, 1) := by decide +kernel
theorem d_MO_isWord_7 : decode b_MO_isWord 7 = .ok (.bipush 57, 2) := by decide +kernel
theorem d_MO_isWord_9 : decode b_MO_isWord 9 = .ok (.if_icmp .le 33, 3) := by decide +kernel
theorem d_MO_isWord_12 : decode b_MO_isWord 12 = .ok (.iload_n 0, 1) := by decide +kernel
theorem d_MO_isWord_13 : decode b_MO_isWord 13 = .ok (.bipush 65, 2) := by decide +kernel
theorem d_MO_isWord_15 : decode b_MO_isWord 15 = .ok (.if_icmp .lt 9, 3) := by decide +kernel
theorem d_MO_isWord_18 : decode b_MO_isWord 18 = .ok (.iload_n 0, 1) := by decide +kernel
theorem d_MO_isWord_19 : decode b_MO_isWord 19 = .ok (.bipush 90, 2) := by decide +kernel
theorem d_MO_isWord_21 : decode b_MO_isWord 21 = .ok (.if_icmp .le 21, 3) := by decide +kernel
theorem d_MO_isWord_24 : decode b_MO_isWord 24 = .ok (.iload_n 0, 1) := by decide +kernel
theorem d_MO_isWord_25 : decode b_MO_isWord 25 = .ok (.bipush 97, 2) := by decide +kernel
theorem d_MO_isWord_27 : decode b_MO_isWord 27 = .ok (.if_icmp .lt 9, 3) := by decide +kernel
theorem d_MO_isWord_30 : decode b_MO_isWord 30 = .ok (.iload_n 0, 1) := by decide +kernel
theorem d_MO_isWord_31 : decode b_MO_isWord 31 = .ok (.bipush 122, 2) := by decide +kernel
theorem d_MO_isWord_33 : decode b_MO_isWord 33 = .ok (.if_icmp .le 9, 3) := by decide +kernel
theorem d_MO_isWord_36 : decode b_MO_isWord 36 = .ok (.iload_n 0, 1) := by decide +kernel
theorem d_MO_isWord_37 : decode b_MO_isWord 37 = .ok (.bipush 95, 2) := by decide +kernel
theorem d_MO_isWord_39 : decode b_MO_isWord 39 = .ok (.if_icmp .ne 7, 3) := by decide +kernel
theorem d_MO_isWord_42 : decode b_MO_isWord 42 = .ok (.iconst 1, 1) := by decide +kernel
theorem d_MO_isWord_43 : decode b_MO_isWord 43 = .ok (.goto 4, 3) := by decide +kernel
theorem d_MO_isWord_46 : decode b_MO_isWord 46 = .ok (.iconst 0, 1) := by decide +kernel
theorem d_MO_isWord_47 : decode b_MO_isWord 47 = .ok (.ireturn, 1) := by decide +kernel
theorem d_MO_look_0 : decode b_MO_look 0 = .ok (.aload_n 0, 1) := by decide +kernel
theorem d_MO_look_1 : decode b_MO_look 1 = .ok (.aload_n 0, 1) := by decide +kernel
theorem d_MO_look_2 : decode b_MO_look 2 = .ok (.aload_n 0, 1) := by decide +kernel
theorem d_MO_look_3 : decode b_MO_look 3 = .ok (.getfield 22, 3) := by decide +kernel
theorem d_MO_look_6 : decode b_MO_look 6 = .ok (.aload_n 0, 1) := by decide +kernel
theorem d_MO_look_7 : decode b_MO_look 7 = .ok (.getfield 510, 3) := by decide +kernel
theorem d_MO_look_10 : decode b_MO_look 10 = .ok (.iload_n 1, 1) := by decide +kernel
theorem d_MO_look_11 : decode b_MO_look 11 = .ok (.invokevirtual 330, 3) := by decide +kernel
theorem d_MO_look_14 : decode b_MO_look 14 = .ok (.putfield 513, 3) := by decide +kernel
theorem d_MO_look_17 : decode b_MO_look 17 = .ok (.aload_n 0, 1) := by decide +kernel
theorem d_MO_look_18 : decode b_MO_look 18 = .ok (.aload_n 0, 1) := by decide +kernel
theorem d_MO_look_19 : decode b_MO_look 19 = .ok (.getfield 226, 3) := by decide +kernel
theorem d_MO_look_22 : decode b_MO_look 22 = .ok (.putfield 516, 3) := by decide +kernel
theorem d_MO_look_25 : decode b_MO_look 25 = .ok (.return_, 1) := by decide +kernel
theorem d_MO_mark_0 : decode b_MO_mark 0 = .ok (.aload_n 0, 1) := by decide +kernel
theorem d_MO_mark_1 : decode b_MO_mark 1 = .ok (.sipush 196, 3) := by decide +kernel
theorem d_MO_mark_4 : decode b_MO_mark 4 = .ok (.iload_n 1, 1) := by decide +kernel
theorem d_MO_mark_5 : decode b_MO_mark 5 = .ok (.imul, 1) := by decide +kernel
theorem d_MO_mark_6 : decode b_MO_mark 6 = .ok (.iload_n 2, 1) := by decide +kernel
theorem d_MO_mark_7 : decode b_MO_mark 7 = .ok (.bipush 64, 2) := by decide +kernel
theorem d_MO_mark_9 : decode b_MO_mark 9 = .ok (.idiv, 1) := by decide +kernel
theorem d_MO_mark_10 : decode b_MO_mark 10 = .ok (.iadd, 1) := by decide +kernel
theorem d_MO_mark_11 : decode b_MO_mark 11 = .ok (.aload_n 0, 1) := by decide +kernel
theorem d_MO_mark_12 : decode b_MO_mark 12 = .ok (.sipush 196, 3) := by decide +kernel
theorem d_MO_mark_15 : decode b_MO_mark 15 = .ok (.iload_n 1, 1) := by decide +kernel
theorem d_MO_mark_16 : decode b_MO_mark 16 = .ok (.imul, 1) := by decide +kernel
theorem d_MO_mark_17 : decode b_MO_mark 17 = .ok (.iload_n 2, 1) := by decide +kernel
theorem d_MO_mark_18 : decode b_MO_mark 18 = .ok (.bipush 64, 2) := by decide +kernel
theorem d_MO_mark_20 : decode b_MO_mark 20 = .ok (.idiv, 1) := by decide +kernel
theorem d_MO_mark_21 : decode b_MO_mark 21 = .ok (.iadd, 1) := by decide +kernel
theorem d_MO_mark_22 : decode b_MO_mark 22 = .ok (.laload, 1) := by decide +kernel
theorem d_MO_mark_23 : decode b_MO_mark 23 = .ok (.lconst 1, 1) := by decide +kernel
theorem d_MO_mark_24 : decode b_MO_mark 24 = .ok (.iload_n 2, 1) := by decide +kernel
theorem d_MO_mark_25 : decode b_MO_mark 25 = .ok (.bipush 64, 2) := by decide +kernel
theorem d_MO_mark_27 : decode b_MO_mark 27 = .ok (.irem, 1) := by decide +kernel
theorem d_MO_mark_28 : decode b_MO_mark 28 = .ok (.lshl, 1) := by decide +kernel
theorem d_MO_mark_29 : decode b_MO_mark 29 = .ok (.lor, 1) := by decide +kernel
theorem d_MO_mark_30 : decode b_MO_mark 30 = .ok (.lastore, 1) := by decide +kernel
theorem d_MO_mark_31 : decode b_MO_mark 31 = .ok (.return_, 1) := by decide +kernel
theorem d_MO_taken_0 : decode b_MO_taken 0 = .ok (.aload_n 0, 1) := by decide +kernel
theorem d_MO_taken_1 : decode b_MO_taken 1 = .ok (.getfield 128, 3) := by decide +kernel
theorem d_MO_taken_4 : decode b_MO_taken 4 = .ok (.iload_n 1, 1) := by decide +kernel
theorem d_MO_taken_5 : decode b_MO_taken 5 = .ok (.iaload, 1) := by decide +kernel
theorem d_MO_taken_6 : decode b_MO_taken 6 = .ok (.iconst 2, 1) := by decide +kernel
theorem d_MO_taken_7 : decode b_MO_taken 7 = .ok (.if_icmp .ne 17, 3) := by decide +kernel
theorem d_MO_taken_10 : decode b_MO_taken 10 = .ok (.iload_n 2, 1) := by decide +kernel
theorem d_MO_taken_11 : decode b_MO_taken 11 = .ok (.aload_n 0, 1) := by decide +kernel
theorem d_MO_taken_12 : decode b_MO_taken 12 = .ok (.getfield 510, 3) := by decide +kernel
theorem d_MO_taken_15 : decode b_MO_taken 15 = .ok (.if_icmp .ge 7, 3) := by decide +kernel
theorem d_MO_taken_18 : decode b_MO_taken 18 = .ok (.iconst 1, 1) := by decide +kernel
theorem d_MO_taken_19 : decode b_MO_taken 19 = .ok (.goto 4, 3) := by decide +kernel
theorem d_MO_taken_22 : decode b_MO_taken 22 = .ok (.iconst 0, 1) := by decide +kernel
theorem d_MO_taken_23 : decode b_MO_taken 23 = .ok (.ireturn, 1) := by decide +kernel
theorem d_MO_taken_24 : decode b_MO_taken 24 = .ok (.aload_n 0, 1) := by decide +kernel
theorem d_MO_taken_25 : decode b_MO_taken 25 = .ok (.getfield 128, 3) := by decide +kernel
theorem d_MO_taken_28 : decode b_MO_taken 28 = .ok (.iload_n 1, 1) := by decide +kernel
theorem d_MO_taken_29 : decode b_MO_taken 29 = .ok (.iaload, 1) := by decide +kernel
theorem d_MO_taken_30 : decode b_MO_taken 30 = .ok (.iconst 1, 1) := by decide +kernel
theorem d_MO_taken_31 : decode b_MO_taken 31 = .ok (.if_icmp .ne 10, 3) := by decide +kernel
theorem d_MO_taken_34 : decode b_MO_taken 34 = .ok (.aload_n 0, 1) := by decide +kernel
theorem d_MO_taken_35 : decode b_MO_taken 35 = .ok (.getfield 513, 3) := by decide +kernel
theorem d_MO_taken_38 : decode b_MO_taken 38 = .ok (.ifCond .ge 5, 3) := by decide +kernel
theorem d_MO_taken_41 : decode b_MO_taken 41 = .ok (.iconst 0, 1) := by decide +kernel
theorem d_MO_taken_42 : decode b_MO_taken 42 = .ok (.ireturn, 1) := by decide +kernel
theorem d_MO_taken_43 : decode b_MO_taken 43 = .ok (.iconst 0, 1) := by decide +kernel
theorem d_MO_taken_44 : decode b_MO_taken 44 = .ok (.istore_n 3, 1) := by decide +kernel
theorem d_MO_taken_45 : decode b_MO_taken 45 = .ok (.aload_n 0, 1) := by decide +kernel
theorem d_MO_taken_46 : decode b_MO_taken 46 = .ok (.getfield 137, 3) := by decide +kernel
theorem d_MO_taken_49 : decode b_MO_taken 49 = .ok (.iload_n 1, 1) := by decide +kernel
theorem d_MO_taken_50 : decode b_MO_taken 50 = .ok (.iaload, 1) := by decide +kernel
theorem d_MO_taken_51 : decode b_MO_taken 51 = .ok (.istore 4, 2) := by decide +kernel
theorem d_MO_taken_53 : decode b_MO_taken 53 = .ok (.iload 4, 2) := by decide +kernel
theorem d_MO_taken_55 : decode b_MO_taken 55 = .ok (.aload_n 0, 1) := by decide +kernel
theorem d_MO_taken_56 : decode b_MO_taken 56 = .ok (.getfield 137, 3) := by decide +kernel
theorem d_MO_taken_59 : decode b_MO_taken 59 = .ok (.iload_n 1, 1) := by decide +kernel
theorem d_MO_taken_60 : decode b_MO_taken 60 = .ok (.iaload, 1) := by decide +kernel
theorem d_MO_taken_61 : decode b_MO_taken 61 = .ok (.aload_n 0, 1) := by decide +kernel
theorem d_MO_taken_62 : decode b_MO_taken 62 = .ok (.getfield 140, 3) := by decide +kernel
theorem d_MO_taken_65 : decode b_MO_taken 65 = .ok (.iload_n 1, 1) := by decide +kernel
theorem d_MO_taken_66 : decode b_MO_taken 66 = .ok (.iaload, 1) := by decide +kernel
theorem d_MO_taken_67 : decode b_MO_taken 67 = .ok (.iadd, 1) := by decide +kernel
theorem d_MO_taken_68 : decode b_MO_taken 68 = .ok (.if_icmp .ge 47, 3) := by decide +kernel
theorem d_MO_taken_71 : decode b_MO_taken 71 = .ok (.iload_n 3, 1) := by decide +kernel
theorem d_MO_taken_72 : decode b_MO_taken 72 = .ok (.ifCond .ne 43, 3) := by decide +kernel
theorem d_MO_taken_75 : decode b_MO_taken 75 = .ok (.aload_n 0, 1) := by decide +kernel
theorem d_MO_taken_76 : decode b_MO_taken 76 = .ok (.getfield 513, 3) := by decide +kernel
theorem d_MO_taken_79 : decode b_MO_taken 79 = .ok (.aload_n 0, 1) := by decide +kernel
theorem d_MO_taken_80 : decode b_MO_taken 80 = .ok (.getfield 143, 3) := by decide +kernel
theorem d_MO_taken_83 : decode b_MO_taken 83 = .ok (.iload 4, 2) := by decide +kernel
theorem d_MO_taken_85 : decode b_MO_taken 85 = .ok (.iaload, 1) := by decide +kernel
theorem d_MO_taken_86 : decode b_MO_taken 86 = .ok (.if_icmp .lt 21, 3) := by decide +kernel
theorem d_MO_taken_89 : decode b_MO_taken 89 = .ok (.aload_n 0, 1) := by decide +kernel
theorem d_MO_taken_90 : decode b_MO_taken 90 = .ok (.getfield 513, 3) := by decide +kernel
theorem d_MO_taken_93 : decode b_MO_taken 93 = .ok (.aload_n 0, 1) := by decide +kernel
theorem d_MO_taken_94 : decode b_MO_taken 94 = .ok (.getfield 146, 3) := by decide +kernel
theorem d_MO_taken_97 : decode b_MO_taken 97 = .ok (.iload 4, 2) := by decide +kernel
theorem d_MO_taken_99 : decode b_MO_taken 99 = .ok (.iaload, 1) := by decide +kernel
theorem d_MO_taken_100 : decode b_MO_taken 100 = .ok (.if_icmp .gt 7, 3) := by decide +kernel
theorem d_MO_taken_103 : decode b_MO_taken 103 = .ok (.iconst 1, 1) := by decide +kernel
theorem d_MO_taken_104 : decode b_MO_taken 104 = .ok (.goto 4, 3) := by decide +kernel
theorem d_MO_taken_107 : decode b_MO_taken 107 = .ok (.iconst 0, 1) := by decide +kernel
theorem d_MO_taken_108 : decode b_MO_taken 108 = .ok (.istore_n 3, 1) := by decide +kernel
theorem d_MO_taken_109 : decode b_MO_taken 109 = .ok (.iinc 4 1, 3) := by decide +kernel
theorem d_MO_taken_112 : decode b_MO_taken 112 = .ok (.goto (-59), 3) := by decide +kernel
theorem d_MO_taken_115 : decode b_MO_taken 115 = .ok (.iload_n 3, 1) := by decide +kernel
theorem d_MO_taken_116 : decode b_MO_taken 116 = .ok (.ifCond .eq 10, 3) := by decide +kernel
theorem d_MO_taken_119 : decode b_MO_taken 119 = .ok (.aload_n 0, 1) := by decide +kernel
theorem d_MO_taken_120 : decode b_MO_taken 120 = .ok (.getfield 516, 3) := by decide +kernel
theorem d_MO_taken_123 : decode b_MO_taken 123 = .ok (.goto 4, 3) := by decide +kernel
theorem d_MO_taken_126 : decode b_MO_taken 126 = .ok (.iconst 0, 1) := by decide +kernel
theorem d_MO_taken_127 : decode b_MO_taken 127 = .ok (.ireturn, 1) := by decide +kernel
theorem d_MO_wordAt_0 : decode b_MO_wordAt 0 = .ok (.iload_n 1, 1) := by decide +kernel
theorem d_MO_wordAt_1 : decode b_MO_wordAt 1 = .ok (.ifCond .lt 27, 3) := by decide +kernel
theorem d_MO_wordAt_4 : decode b_MO_wordAt 4 = .ok (.iload_n 1, 1) := by decide +kernel
theorem d_MO_wordAt_5 : decode b_MO_wordAt 5 = .ok (.aload_n 0, 1) := by decide +kernel
theorem d_MO_wordAt_6 : decode b_MO_wordAt 6 = .ok (.getfield 510, 3) := by decide +kernel
theorem d_MO_wordAt_9 : decode b_MO_wordAt 9 = .ok (.if_icmp .ge 19, 3) := by decide +kernel
theorem d_MO_wordAt_12 : decode b_MO_wordAt 12 = .ok (.aload_n 0, 1) := by decide +kernel
theorem d_MO_wordAt_13 : decode b_MO_wordAt 13 = .ok (.getfield 22, 3) := by decide +kernel
theorem d_MO_wordAt_16 : decode b_MO_wordAt 16 = .ok (.iload_n 1, 1) := by decide +kernel
theorem d_MO_wordAt_17 : decode b_MO_wordAt 17 = .ok (.iaload, 1) := by decide +kernel
theorem d_MO_wordAt_18 : decode b_MO_wordAt 18 = .ok (.invokestatic 326, 3) := by decide +kernel
theorem d_MO_wordAt_21 : decode b_MO_wordAt 21 = .ok (.ifCond .eq 7, 3) := by decide +kernel
theorem d_MO_wordAt_24 : decode b_MO_wordAt 24 = .ok (.iconst 1, 1) := by decide +kernel
theorem d_MO_wordAt_25 : decode b_MO_wordAt 25 = .ok (.goto 4, 3) := by decide +kernel
theorem d_MO_wordAt_28 : decode b_MO_wordAt 28 = .ok (.iconst 0, 1) := by decide +kernel
theorem d_MO_wordAt_29 : decode b_MO_wordAt 29 = .ok (.ireturn, 1) := by decide +kernel
