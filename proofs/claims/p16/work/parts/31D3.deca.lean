theorem d_TX_charClass_0 : decode b_TX_charClass 0 = .ok (.aload_n 0, 1) := by decide +kernel
theorem d_TX_charClass_1 : decode b_TX_charClass 1 = .ok (.getfield 43, 3) := by decide +kernel
theorem d_TX_charClass_4 : decode b_TX_charClass 4 = .ok (.istore_n 2, 1) := by decide +kernel
theorem d_TX_charClass_5 : decode b_TX_charClass 5 = .ok (.aload_n 0, 1) := by decide +kernel
theorem d_TX_charClass_6 : decode b_TX_charClass 6 = .ok (.iconst 1, 1) := by decide +kernel
theorem d_TX_charClass_7 : decode b_TX_charClass 7 = .ok (.invokevirtual 61, 3) := by decide +kernel
theorem d_TX_charClass_10 : decode b_TX_charClass 10 = .ok (.bipush 94, 2) := by decide +kernel
theorem d_TX_charClass_12 : decode b_TX_charClass 12 = .ok (.if_icmp .ne 7, 3) := by decide +kernel
theorem d_TX_charClass_15 : decode b_TX_charClass 15 = .ok (.iconst 1, 1) := by decide +kernel
theorem d_TX_charClass_16 : decode b_TX_charClass 16 = .ok (.goto 4, 3) := by decide +kernel
theorem d_TX_charClass_19 : decode b_TX_charClass 19 = .ok (.iconst 0, 1) := by decide +kernel
theorem d_TX_charClass_20 : decode b_TX_charClass 20 = .ok (.istore_n 3, 1) := by decide +kernel
theorem d_TX_charClass_21 : decode b_TX_charClass 21 = .ok (.aload_n 0, 1) := by decide +kernel
theorem d_TX_charClass_22 : decode b_TX_charClass 22 = .ok (.dup, 1) := by decide +kernel
theorem d_TX_charClass_23 : decode b_TX_charClass 23 = .ok (.getfield 43, 3) := by decide +kernel
theorem d_TX_charClass_26 : decode b_TX_charClass 26 = .ok (.iload_n 3, 1) := by decide +kernel
theorem d_TX_charClass_27 : decode b_TX_charClass 27 = .ok (.ifCond .eq 7, 3) := by decide +kernel
theorem d_TX_charClass_30 : decode b_TX_charClass 30 = .ok (.iconst 2, 1) := by decide +kernel
theorem d_TX_charClass_31 : decode b_TX_charClass 31 = .ok (.goto 4, 3) := by decide +kernel
theorem d_TX_charClass_34 : decode b_TX_charClass 34 = .ok (.iconst 1, 1) := by decide +kernel
theorem d_TX_charClass_35 : decode b_TX_charClass 35 = .ok (.iadd, 1) := by decide +kernel
theorem d_TX_charClass_36 : decode b_TX_charClass 36 = .ok (.putfield 43, 3) := by decide +kernel
theorem d_TX_charClass_39 : decode b_TX_charClass 39 = .ok (.aload_n 0, 1) := by decide +kernel
theorem d_TX_charClass_40 : decode b_TX_charClass 40 = .ok (.getfield 43, 3) := by decide +kernel
theorem d_TX_charClass_43 : decode b_TX_charClass 43 = .ok (.istore 4, 2) := by decide +kernel
theorem d_TX_charClass_45 : decode b_TX_charClass 45 = .ok (.aload_n 0, 1) := by decide +kernel
theorem d_TX_charClass_46 : decode b_TX_charClass 46 = .ok (.getfield 12, 3) := by decide +kernel
theorem d_TX_charClass_49 : decode b_TX_charClass 49 = .ok (.invokevirtual 107, 3) := by decide +kernel
theorem d_TX_charClass_52 : decode b_TX_charClass 52 = .ok (.iconst 0, 1) := by decide +kernel
theorem d_TX_charClass_53 : decode b_TX_charClass 53 = .ok (.istore 5, 2) := by decide +kernel
theorem d_TX_charClass_55 : decode b_TX_charClass 55 = .ok (.iload 5, 2) := by decide +kernel
theorem d_TX_charClass_57 : decode b_TX_charClass 57 = .ok (.aload_n 0, 1) := by decide +kernel
theorem d_TX_charClass_58 : decode b_TX_charClass 58 = .ok (.getfield 40, 3) := by decide +kernel
theorem d_TX_charClass_61 : decode b_TX_charClass 61 = .ok (.if_icmp .gt 240, 3) := by decide +kernel
theorem d_TX_charClass_64 : decode b_TX_charClass 64 = .ok (.aload_n 0, 1) := by decide +kernel
theorem d_TX_charClass_65 : decode b_TX_charClass 65 = .ok (.getfield 46, 3) := by decide +kernel
theorem d_TX_charClass_68 : decode b_TX_charClass 68 = .ok (.ifCond .ne 233, 3) := by decide +kernel
theorem d_TX_charClass_71 : decode b_TX_charClass 71 = .ok (.aload_n 0, 1) := by decide +kernel
theorem d_TX_charClass_72 : decode b_TX_charClass 72 = .ok (.getfield 43, 3) := by decide +kernel
theorem d_TX_charClass_75 : decode b_TX_charClass 75 = .ok (.istore 6, 2) := by decide +kernel
theorem d_TX_charClass_77 : decode b_TX_charClass 77 = .ok (.aload_n 0, 1) := by decide +kernel
theorem d_TX_charClass_78 : decode b_TX_charClass 78 = .ok (.iconst 0, 1) := by decide +kernel
theorem d_TX_charClass_79 : decode b_TX_charClass 79 = .ok (.invokevirtual 61, 3) := by decide +kernel
theorem d_TX_charClass_82 : decode b_TX_charClass 82 = .ok (.bipush 93, 2) := by decide +kernel
theorem d_TX_charClass_84 : decode b_TX_charClass 84 = .ok (.if_icmp .ne 29, 3) := by decide +kernel
theorem d_TX_charClass_87 : decode b_TX_charClass 87 = .ok (.iload 6, 2) := by decide +kernel
theorem d_TX_charClass_89 : decode b_TX_charClass 89 = .ok (.iload 4, 2) := by decide +kernel
theorem d_TX_charClass_91 : decode b_TX_charClass 91 = .ok (.if_icmp .le 22, 3) := by decide +kernel
theorem d_TX_charClass_94 : decode b_TX_charClass 94 = .ok (.aload_n 0, 1) := by decide +kernel
theorem d_TX_charClass_95 : decode b_TX_charClass 95 = .ok (.dup, 1) := by decide +kernel
theorem d_TX_charClass_96 : decode b_TX_charClass 96 = .ok (.getfield 43, 3) := by decide +kernel
theorem d_TX_charClass_99 : decode b_TX_charClass 99 = .ok (.iconst 1, 1) := by decide +kernel
theorem d_TX_charClass_100 : decode b_TX_charClass 100 = .ok (.iadd, 1) := by decide +kernel
theorem d_TX_charClass_101 : decode b_TX_charClass 101 = .ok (.putfield 43, 3) := by decide +kernel
theorem d_TX_charClass_104 : decode b_TX_charClass 104 = .ok (.aload_n 0, 1) := by decide +kernel
theorem d_TX_charClass_105 : decode b_TX_charClass 105 = .ok (.getfield 12, 3) := by decide +kernel
theorem d_TX_charClass_108 : decode b_TX_charClass 108 = .ok (.iload_n 3, 1) := by decide +kernel
theorem d_TX_charClass_109 : decode b_TX_charClass 109 = .ok (.invokevirtual 110, 3) := by decide +kernel
theorem d_TX_charClass_112 : decode b_TX_charClass 112 = .ok (.areturn, 1) := by decide +kernel
theorem d_TX_charClass_113 : decode b_TX_charClass 113 = .ok (.aload_n 0, 1) := by decide +kernel
theorem d_TX_charClass_114 : decode b_TX_charClass 114 = .ok (.invokevirtual 114, 3) := by decide +kernel
theorem d_TX_charClass_117 : decode b_TX_charClass 117 = .ok (.ifCond .eq 10, 3) := by decide +kernel
theorem d_TX_charClass_120 : decode b_TX_charClass 120 = .ok (.aload_n 0, 1) := by decide +kernel
theorem d_TX_charClass_121 : decode b_TX_charClass 121 = .ok (.invokevirtual 118, 3) := by decide +kernel
theorem d_TX_charClass_124 : decode b_TX_charClass 124 = .ok (.goto 8, 3) := by decide +kernel
theorem d_TX_charClass_127 : decode b_TX_charClass 127 = .ok (.aload_n 0, 1) := by decide +kernel
theorem d_TX_charClass_128 : decode b_TX_charClass 128 = .ok (.iload_n 2, 1) := by decide +kernel
theorem d_TX_charClass_129 : decode b_TX_charClass 129 = .ok (.invokevirtual 122, 3) := by decide +kernel
theorem d_TX_charClass_132 : decode b_TX_charClass 132 = .ok (.istore 7, 2) := by decide +kernel
theorem d_TX_charClass_134 : decode b_TX_charClass 134 = .ok (.iload 7, 2) := by decide +kernel
theorem d_TX_charClass_136 : decode b_TX_charClass 136 = .ok (.istore 8, 2) := by decide +kernel
theorem d_TX_charClass_138 : decode b_TX_charClass 138 = .ok (.iload 7, 2) := by decide +kernel
theorem d_TX_charClass_140 : decode b_TX_charClass 140 = .ok (.ifCond .lt 80, 3) := by decide +kernel
theorem d_TX_charClass_143 : decode b_TX_charClass 143 = .ok (.aload_n 0, 1) := by decide +kernel
theorem d_TX_charClass_144 : decode b_TX_charClass 144 = .ok (.iconst 0, 1) := by decide +kernel
theorem d_TX_charClass_145 : decode b_TX_charClass 145 = .ok (.invokevirtual 61, 3) := by decide +kernel
theorem d_TX_charClass_148 : decode b_TX_charClass 148 = .ok (.bipush 45, 2) := by decide +kernel
theorem d_TX_charClass_150 : decode b_TX_charClass 150 = .ok (.if_icmp .ne 70, 3) := by decide +kernel
theorem d_TX_charClass_153 : decode b_TX_charClass 153 = .ok (.aload_n 0, 1) := by decide +kernel
theorem d_TX_charClass_154 : decode b_TX_charClass 154 = .ok (.iconst 1, 1) := by decide +kernel
theorem d_TX_charClass_155 : decode b_TX_charClass 155 = .ok (.invokevirtual 61, 3) := by decide +kernel
theorem d_TX_charClass_158 : decode b_TX_charClass 158 = .ok (.bipush 93, 2) := by decide +kernel
theorem d_TX_charClass_160 : decode b_TX_charClass 160 = .ok (.if_icmp .eq 60, 3) := by decide +kernel
theorem d_TX_charClass_163 : decode b_TX_charClass 163 = .ok (.aload_n 0, 1) := by decide +kernel
theorem d_TX_charClass_164 : decode b_TX_charClass 164 = .ok (.dup, 1) := by decide +kernel
theorem d_TX_charClass_165 : decode b_TX_charClass 165 = .ok (.getfield 43, 3) := by decide +kernel
theorem d_TX_charClass_168 : decode b_TX_charClass 168 = .ok (.iconst 1, 1) := by decide +kernel
theorem d_TX_charClass_169 : decode b_TX_charClass 169 = .ok (.iadd, 1) := by decide +kernel
theorem d_TX_charClass_170 : decode b_TX_charClass 170 = .ok (.putfield 43, 3) := by decide +kernel
theorem d_TX_charClass_173 : decode b_TX_charClass 173 = .ok (.aload_n 0, 1) := by decide +kernel
theorem d_TX_charClass_174 : decode b_TX_charClass 174 = .ok (.invokevirtual 114, 3) := by decide +kernel
theorem d_TX_charClass_177 : decode b_TX_charClass 177 = .ok (.ifCond .eq 8, 3) := by decide +kernel
theorem d_TX_charClass_180 : decode b_TX_charClass 180 = .ok (.bipush (-2), 2) := by decide +kernel
theorem d_TX_charClass_182 : decode b_TX_charClass 182 = .ok (.goto 8, 3) := by decide +kernel
theorem d_TX_charClass_185 : decode b_TX_charClass 185 = .ok (.aload_n 0, 1) := by decide +kernel
theorem d_TX_charClass_186 : decode b_TX_charClass 186 = .ok (.iload_n 2, 1) := by decide +kernel
theorem d_TX_charClass_187 : decode b_TX_charClass 187 = .ok (.invokevirtual 122, 3) := by decide +kernel
theorem d_TX_charClass_190 : decode b_TX_charClass 190 = .ok (.istore 8, 2) := by decide +kernel
theorem d_TX_charClass_192 : decode b_TX_charClass 192 = .ok (.iload 8, 2) := by decide +kernel
theorem d_TX_charClass_194 : decode b_TX_charClass 194 = .ok (.bipush (-2), 2) := by decide +kernel
theorem d_TX_charClass_196 : decode b_TX_charClass 196 = .ok (.if_icmp .eq 15, 3) := by decide +kernel
theorem d_TX_charClass_199 : decode b_TX_charClass 199 = .ok (.iload 8, 2) := by decide +kernel
theorem d_TX_charClass_201 : decode b_TX_charClass 201 = .ok (.ifCond .lt 19, 3) := by decide +kernel
theorem d_TX_charClass_204 : decode b_TX_charClass 204 = .ok (.iload 8, 2) := by decide +kernel
theorem d_TX_charClass_206 : decode b_TX_charClass 206 = .ok (.iload 7, 2) := by decide +kernel
theorem d_TX_charClass_208 : decode b_TX_charClass 208 = .ok (.if_icmp .ge 12, 3) := by decide +kernel
theorem d_TX_charClass_211 : decode b_TX_charClass 211 = .ok (.aload_n 0, 1) := by decide +kernel
theorem d_TX_charClass_212 : decode b_TX_charClass 212 = .ok (.bipush 6, 2) := by decide +kernel
theorem d_TX_charClass_214 : decode b_TX_charClass 214 = .ok (.iload 6, 2) := by decide +kernel
theorem d_TX_charClass_216 : decode b_TX_charClass 216 = .ok (.invokevirtual 53, 3) := by decide +kernel
theorem d_TX_charClass_219 : decode b_TX_charClass 219 = .ok (.pop, 1) := by decide +kernel
theorem d_TX_charClass_220 : decode b_TX_charClass 220 = .ok (.aload_n 0, 1) := by decide +kernel
theorem d_TX_charClass_221 : decode b_TX_charClass 221 = .ok (.getfield 46, 3) := by decide +kernel
theorem d_TX_charClass_224 : decode b_TX_charClass 224 = .ok (.ifCond .ne 28, 3) := by decide +kernel
theorem d_TX_charClass_227 : decode b_TX_charClass 227 = .ok (.iload 7, 2) := by decide +kernel
theorem d_TX_charClass_229 : decode b_TX_charClass 229 = .ok (.bipush (-2), 2) := by decide +kernel
theorem d_TX_charClass_231 : decode b_TX_charClass 231 = .ok (.if_icmp .ne 21, 3) := by decide +kernel
theorem d_TX_charClass_234 : decode b_TX_charClass 234 = .ok (.aload_n 0, 1) := by decide +kernel
theorem d_TX_charClass_235 : decode b_TX_charClass 235 = .ok (.getfield 12, 3) := by decide +kernel
theorem d_TX_charClass_238 : decode b_TX_charClass 238 = .ok (.aload_n 0, 1) := by decide +kernel
theorem d_TX_charClass_239 : decode b_TX_charClass 239 = .ok (.getfield 29, 3) := by decide +kernel
theorem d_TX_charClass_242 : decode b_TX_charClass 242 = .ok (.aload_n 0, 1) := by decide +kernel
theorem d_TX_charClass_243 : decode b_TX_charClass 243 = .ok (.getfield 85, 3) := by decide +kernel
theorem d_TX_charClass_246 : decode b_TX_charClass 246 = .ok (.invokevirtual 125, 3) := by decide +kernel
theorem d_TX_charClass_249 : decode b_TX_charClass 249 = .ok (.goto 46, 3) := by decide +kernel
theorem d_TX_charClass_252 : decode b_TX_charClass 252 = .ok (.aload_n 0, 1) := by decide +kernel
theorem d_TX_charClass_253 : decode b_TX_charClass 253 = .ok (.getfield 46, 3) := by decide +kernel
theorem d_TX_charClass_256 : decode b_TX_charClass 256 = .ok (.ifCond .ne 21, 3) := by decide +kernel
theorem d_TX_charClass_259 : decode b_TX_charClass 259 = .ok (.iload_n 1, 1) := by decide +kernel
theorem d_TX_charClass_260 : decode b_TX_charClass 260 = .ok (.ifCond .eq 17, 3) := by decide +kernel
theorem d_TX_charClass_263 : decode b_TX_charClass 263 = .ok (.aload_n 0, 1) := by decide +kernel
theorem d_TX_charClass_264 : decode b_TX_charClass 264 = .ok (.getfield 12, 3) := by decide +kernel
theorem d_TX_charClass_267 : decode b_TX_charClass 267 = .ok (.iload 7, 2) := by decide +kernel
theorem d_TX_charClass_269 : decode b_TX_charClass 269 = .ok (.iload 8, 2) := by decide +kernel
theorem d_TX_charClass_271 : decode b_TX_charClass 271 = .ok (.invokevirtual 129, 3) := by decide +kernel
theorem d_TX_charClass_274 : decode b_TX_charClass 274 = .ok (.goto 21, 3) := by decide +kernel
theorem d_TX_charClass_277 : decode b_TX_charClass 277 = .ok (.aload_n 0, 1) := by decide +kernel
theorem d_TX_charClass_278 : decode b_TX_charClass 278 = .ok (.getfield 46, 3) := by decide +kernel
theorem d_TX_charClass_281 : decode b_TX_charClass 281 = .ok (.ifCond .ne 14, 3) := by decide +kernel
theorem d_TX_charClass_284 : decode b_TX_charClass 284 = .ok (.aload_n 0, 1) := by decide +kernel
theorem d_TX_charClass_285 : decode b_TX_charClass 285 = .ok (.getfield 12, 3) := by decide +kernel
theorem d_TX_charClass_288 : decode b_TX_charClass 288 = .ok (.iload 7, 2) := by decide +kernel
theorem d_TX_charClass_290 : decode b_TX_charClass 290 = .ok (.iload 8, 2) := by decide +kernel
theorem d_TX_charClass_292 : decode b_TX_charClass 292 = .ok (.invokevirtual 133, 3) := by decide +kernel
theorem d_TX_charClass_295 : decode b_TX_charClass 295 = .ok (.iinc 5 1, 3) := by decide +kernel
theorem d_TX_charClass_298 : decode b_TX_charClass 298 = .ok (.goto (-243), 3) := by decide +kernel
theorem d_TX_charClass_301 : decode b_TX_charClass 301 = .ok (.aconst_null, 1) := by decide +kernel
theorem d_TX_charClass_302 : decode b_TX_charClass 302 = .ok (.areturn, 1) := by decide +kernel
