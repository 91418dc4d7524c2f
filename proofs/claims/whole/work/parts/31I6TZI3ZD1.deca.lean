theorem d_MO_control_0 : decode b_MO_control 0 = .ok (.iload_n 0, 1) := by decide +kernel
theorem d_MO_control_1 : decode b_MO_control 1 = .ok (.bipush 97, 2) := by decide +kernel
theorem d_MO_control_3 : decode b_MO_control 3 = .ok (.if_icmp .ne 8, 3) := by decide +kernel
theorem d_MO_control_6 : decode b_MO_control 6 = .ok (.bipush 7, 2) := by decide +kernel
theorem d_MO_control_8 : decode b_MO_control 8 = .ok (.goto 59, 3) := by decide +kernel
theorem d_MO_control_11 : decode b_MO_control 11 = .ok (.iload_n 0, 1) := by decide +kernel
theorem d_MO_control_12 : decode b_MO_control 12 = .ok (.bipush 102, 2) := by decide +kernel
theorem d_MO_control_14 : decode b_MO_control 14 = .ok (.if_icmp .ne 8, 3) := by decide +kernel
theorem d_MO_control_17 : decode b_MO_control 17 = .ok (.bipush 12, 2) := by decide +kernel
theorem d_MO_control_19 : decode b_MO_control 19 = .ok (.goto 48, 3) := by decide +kernel
theorem d_MO_control_22 : decode b_MO_control 22 = .ok (.iload_n 0, 1) := by decide +kernel
theorem d_MO_control_23 : decode b_MO_control 23 = .ok (.bipush 110, 2) := by decide +kernel
theorem d_MO_control_25 : decode b_MO_control 25 = .ok (.if_icmp .ne 8, 3) := by decide +kernel
theorem d_MO_control_28 : decode b_MO_control 28 = .ok (.bipush 10, 2) := by decide +kernel
theorem d_MO_control_30 : decode b_MO_control 30 = .ok (.goto 37, 3) := by decide +kernel
theorem d_MO_control_33 : decode b_MO_control 33 = .ok (.iload_n 0, 1) := by decide +kernel
theorem d_MO_control_34 : decode b_MO_control 34 = .ok (.bipush 114, 2) := by decide +kernel
theorem d_MO_control_36 : decode b_MO_control 36 = .ok (.if_icmp .ne 8, 3) := by decide +kernel
theorem d_MO_control_39 : decode b_MO_control 39 = .ok (.bipush 13, 2) := by decide +kernel
theorem d_MO_control_41 : decode b_MO_control 41 = .ok (.goto 26, 3) := by decide +kernel
theorem d_MO_control_44 : decode b_MO_control 44 = .ok (.iload_n 0, 1) := by decide +kernel
theorem d_MO_control_45 : decode b_MO_control 45 = .ok (.bipush 116, 2) := by decide +kernel
theorem d_MO_control_47 : decode b_MO_control 47 = .ok (.if_icmp .ne 8, 3) := by decide +kernel
theorem d_MO_control_50 : decode b_MO_control 50 = .ok (.bipush 9, 2) := by decide +kernel
theorem d_MO_control_52 : decode b_MO_control 52 = .ok (.goto 15, 3) := by decide +kernel
theorem d_MO_control_55 : decode b_MO_control 55 = .ok (.iload_n 0, 1) := by decide +kernel
theorem d_MO_control_56 : decode b_MO_control 56 = .ok (.bipush 118, 2) := by decide +kernel
theorem d_MO_control_58 : decode b_MO_control 58 = .ok (.if_icmp .ne 8, 3) := by decide +kernel
theorem d_MO_control_61 : decode b_MO_control 61 = .ok (.bipush 11, 2) := by decide +kernel
theorem d_MO_control_63 : decode b_MO_control 63 = .ok (.goto 4, 3) := by decide +kernel
theorem d_MO_control_66 : decode b_MO_control 66 = .ok (.iconst (-1), 1) := by decide +kernel
theorem d_MO_control_67 : decode b_MO_control 67 = .ok (.ireturn, 1) := by decide +kernel
theorem d_MO_escape_0 : decode b_MO_escape 0 = .ok (.aload_n 0, 1) := by decide +kernel
theorem d_MO_escape_1 : decode b_MO_escape 1 = .ok (.getfield 279, 3) := by decide +kernel
theorem d_MO_escape_4 : decode b_MO_escape 4 = .ok (.istore_n 2, 1) := by decide +kernel
theorem d_MO_escape_5 : decode b_MO_escape 5 = .ok (.aload_n 0, 1) := by decide +kernel
theorem d_MO_escape_6 : decode b_MO_escape 6 = .ok (.iconst 1, 1) := by decide +kernel
theorem d_MO_escape_7 : decode b_MO_escape 7 = .ok (.invokevirtual 297, 3) := by decide +kernel
theorem d_MO_escape_10 : decode b_MO_escape 10 = .ok (.istore_n 3, 1) := by decide +kernel
theorem d_MO_escape_11 : decode b_MO_escape 11 = .ok (.aload_n 0, 1) := by decide +kernel
theorem d_MO_escape_12 : decode b_MO_escape 12 = .ok (.dup, 1) := by decide +kernel
theorem d_MO_escape_13 : decode b_MO_escape 13 = .ok (.getfield 279, 3) := by decide +kernel
theorem d_MO_escape_16 : decode b_MO_escape 16 = .ok (.iconst 2, 1) := by decide +kernel
theorem d_MO_escape_17 : decode b_MO_escape 17 = .ok (.iadd, 1) := by decide +kernel
theorem d_MO_escape_18 : decode b_MO_escape 18 = .ok (.putfield 279, 3) := by decide +kernel
theorem d_MO_escape_21 : decode b_MO_escape 21 = .ok (.iload_n 3, 1) := by decide +kernel
theorem d_MO_escape_22 : decode b_MO_escape 22 = .ok (.bipush 120, 2) := by decide +kernel
theorem d_MO_escape_24 : decode b_MO_escape 24 = .ok (.if_icmp .ne 9, 3) := by decide +kernel
theorem d_MO_escape_27 : decode b_MO_escape 27 = .ok (.aload_n 0, 1) := by decide +kernel
theorem d_MO_escape_28 : decode b_MO_escape 28 = .ok (.iload_n 2, 1) := by decide +kernel
theorem d_MO_escape_29 : decode b_MO_escape 29 = .ok (.invokevirtual 310, 3) := by decide +kernel
theorem d_MO_escape_32 : decode b_MO_escape 32 = .ok (.ireturn, 1) := by decide +kernel
theorem d_MO_escape_33 : decode b_MO_escape 33 = .ok (.iload_n 3, 1) := by decide +kernel
theorem d_MO_escape_34 : decode b_MO_escape 34 = .ok (.invokestatic 313, 3) := by decide +kernel
theorem d_MO_escape_37 : decode b_MO_escape 37 = .ok (.ifCond .lt 13, 3) := by decide +kernel
theorem d_MO_escape_40 : decode b_MO_escape 40 = .ok (.aload_n 0, 1) := by decide +kernel
theorem d_MO_escape_41 : decode b_MO_escape 41 = .ok (.iload_n 3, 1) := by decide +kernel
theorem d_MO_escape_42 : decode b_MO_escape 42 = .ok (.invokestatic 313, 3) := by decide +kernel
theorem d_MO_escape_45 : decode b_MO_escape 45 = .ok (.putfield 307, 3) := by decide +kernel
theorem d_MO_escape_48 : decode b_MO_escape 48 = .ok (.iconst 0, 1) := by decide +kernel
theorem d_MO_escape_49 : decode b_MO_escape 49 = .ok (.ireturn, 1) := by decide +kernel
theorem d_MO_escape_50 : decode b_MO_escape 50 = .ok (.iload_n 3, 1) := by decide +kernel
theorem d_MO_escape_51 : decode b_MO_escape 51 = .ok (.bipush 100, 2) := by decide +kernel
theorem d_MO_escape_53 : decode b_MO_escape 53 = .ok (.if_icmp .eq 33, 3) := by decide +kernel
theorem d_MO_escape_56 : decode b_MO_escape 56 = .ok (.iload_n 3, 1) := by decide +kernel
theorem d_MO_escape_57 : decode b_MO_escape 57 = .ok (.bipush 115, 2) := by decide +kernel
theorem d_MO_escape_59 : decode b_MO_escape 59 = .ok (.if_icmp .eq 27, 3) := by decide +kernel
theorem d_MO_escape_62 : decode b_MO_escape 62 = .ok (.iload_n 3, 1) := by decide +kernel
theorem d_MO_escape_63 : decode b_MO_escape 63 = .ok (.bipush 119, 2) := by decide +kernel
theorem d_MO_escape_65 : decode b_MO_escape 65 = .ok (.if_icmp .eq 21, 3) := by decide +kernel
theorem d_MO_escape_68 : decode b_MO_escape 68 = .ok (.iload_n 3, 1) := by decide +kernel
theorem d_MO_escape_69 : decode b_MO_escape 69 = .ok (.bipush 68, 2) := by decide +kernel
theorem d_MO_escape_71 : decode b_MO_escape 71 = .ok (.if_icmp .eq 15, 3) := by decide +kernel
theorem d_MO_escape_74 : decode b_MO_escape 74 = .ok (.iload_n 3, 1) := by decide +kernel
theorem d_MO_escape_75 : decode b_MO_escape 75 = .ok (.bipush 83, 2) := by decide +kernel
theorem d_MO_escape_77 : decode b_MO_escape 77 = .ok (.if_icmp .eq 9, 3) := by decide +kernel
theorem d_MO_escape_80 : decode b_MO_escape 80 = .ok (.iload_n 3, 1) := by decide +kernel
theorem d_MO_escape_81 : decode b_MO_escape 81 = .ok (.bipush 87, 2) := by decide +kernel
theorem d_MO_escape_83 : decode b_MO_escape 83 = .ok (.if_icmp .ne 28, 3) := by decide +kernel
theorem d_MO_escape_86 : decode b_MO_escape 86 = .ok (.aload_n 0, 1) := by decide +kernel
theorem d_MO_escape_87 : decode b_MO_escape 87 = .ok (.iload_n 3, 1) := by decide +kernel
theorem d_MO_escape_88 : decode b_MO_escape 88 = .ok (.invokestatic 316, 3) := by decide +kernel
theorem d_MO_escape_91 : decode b_MO_escape 91 = .ok (.putfield 307, 3) := by decide +kernel
theorem d_MO_escape_94 : decode b_MO_escape 94 = .ok (.aload_n 0, 1) := by decide +kernel
theorem d_MO_escape_95 : decode b_MO_escape 95 = .ok (.iload_n 3, 1) := by decide +kernel
theorem d_MO_escape_96 : decode b_MO_escape 96 = .ok (.bipush 97, 2) := by decide +kernel
theorem d_MO_escape_98 : decode b_MO_escape 98 = .ok (.if_icmp .ge 7, 3) := by decide +kernel
theorem d_MO_escape_101 : decode b_MO_escape 101 = .ok (.iconst 1, 1) := by decide +kernel
theorem d_MO_escape_102 : decode b_MO_escape 102 = .ok (.goto 4, 3) := by decide +kernel
theorem d_MO_escape_105 : decode b_MO_escape 105 = .ok (.iconst 0, 1) := by decide +kernel
theorem d_MO_escape_106 : decode b_MO_escape 106 = .ok (.putfield 319, 3) := by decide +kernel
theorem d_MO_escape_109 : decode b_MO_escape 109 = .ok (.iconst 1, 1) := by decide +kernel
theorem d_MO_escape_110 : decode b_MO_escape 110 = .ok (.ireturn, 1) := by decide +kernel
theorem d_MO_escape_111 : decode b_MO_escape 111 = .ok (.iload_n 3, 1) := by decide +kernel
theorem d_MO_escape_112 : decode b_MO_escape 112 = .ok (.bipush 112, 2) := by decide +kernel
theorem d_MO_escape_114 : decode b_MO_escape 114 = .ok (.if_icmp .eq 9, 3) := by decide +kernel
theorem d_MO_escape_117 : decode b_MO_escape 117 = .ok (.iload_n 3, 1) := by decide +kernel
theorem d_MO_escape_118 : decode b_MO_escape 118 = .ok (.bipush 80, 2) := by decide +kernel
theorem d_MO_escape_120 : decode b_MO_escape 120 = .ok (.if_icmp .ne 84, 3) := by decide +kernel
theorem d_MO_escape_123 : decode b_MO_escape 123 = .ok (.aload_n 0, 1) := by decide +kernel
theorem d_MO_escape_124 : decode b_MO_escape 124 = .ok (.iconst 0, 1) := by decide +kernel
theorem d_MO_escape_125 : decode b_MO_escape 125 = .ok (.invokevirtual 297, 3) := by decide +kernel
theorem d_MO_escape_128 : decode b_MO_escape 128 = .ok (.istore 4, 2) := by decide +kernel
theorem d_MO_escape_130 : decode b_MO_escape 130 = .ok (.iload 4, 2) := by decide +kernel
theorem d_MO_escape_132 : decode b_MO_escape 132 = .ok (.ifCond .ge 12, 3) := by decide +kernel
theorem d_MO_escape_135 : decode b_MO_escape 135 = .ok (.aload_n 0, 1) := by decide +kernel
theorem d_MO_escape_136 : decode b_MO_escape 136 = .ok (.iconst 5, 1) := by decide +kernel
theorem d_MO_escape_137 : decode b_MO_escape 137 = .ok (.iload_n 2, 1) := by decide +kernel
theorem d_MO_escape_138 : decode b_MO_escape 138 = .ok (.invokevirtual 304, 3) := by decide +kernel
theorem d_MO_escape_141 : decode b_MO_escape 141 = .ok (.goto 18, 3) := by decide +kernel
theorem d_MO_escape_144 : decode b_MO_escape 144 = .ok (.iload 4, 2) := by decide +kernel
theorem d_MO_escape_146 : decode b_MO_escape 146 = .ok (.invokestatic 323, 3) := by decide +kernel
theorem d_MO_escape_149 : decode b_MO_escape 149 = .ok (.ifCond .ge 10, 3) := by decide +kernel
theorem d_MO_escape_152 : decode b_MO_escape 152 = .ok (.aload_n 0, 1) := by decide +kernel
theorem d_MO_escape_153 : decode b_MO_escape 153 = .ok (.bipush 7, 2) := by decide +kernel
theorem d_MO_escape_155 : decode b_MO_escape 155 = .ok (.iload_n 2, 1) := by decide +kernel
theorem d_MO_escape_156 : decode b_MO_escape 156 = .ok (.invokevirtual 304, 3) := by decide +kernel
theorem d_MO_escape_159 : decode b_MO_escape 159 = .ok (.aload_n 0, 1) := by decide +kernel
theorem d_MO_escape_160 : decode b_MO_escape 160 = .ok (.getfield 273, 3) := by decide +kernel
theorem d_MO_escape_163 : decode b_MO_escape 163 = .ok (.ifCond .le 5, 3) := by decide +kernel
theorem d_MO_escape_166 : decode b_MO_escape 166 = .ok (.iconst (-1), 1) := by decide +kernel
theorem d_MO_escape_167 : decode b_MO_escape 167 = .ok (.ireturn, 1) := by decide +kernel
theorem d_MO_escape_168 : decode b_MO_escape 168 = .ok (.aload_n 0, 1) := by decide +kernel
theorem d_MO_escape_169 : decode b_MO_escape 169 = .ok (.iload 4, 2) := by decide +kernel
theorem d_MO_escape_171 : decode b_MO_escape 171 = .ok (.invokestatic 323, 3) := by decide +kernel
theorem d_MO_escape_174 : decode b_MO_escape 174 = .ok (.putfield 307, 3) := by decide +kernel
theorem d_MO_escape_177 : decode b_MO_escape 177 = .ok (.aload_n 0, 1) := by decide +kernel
theorem d_MO_escape_178 : decode b_MO_escape 178 = .ok (.iload_n 3, 1) := by decide +kernel
theorem d_MO_escape_179 : decode b_MO_escape 179 = .ok (.bipush 80, 2) := by decide +kernel
theorem d_MO_escape_181 : decode b_MO_escape 181 = .ok (.if_icmp .ne 7, 3) := by decide +kernel
theorem d_MO_escape_184 : decode b_MO_escape 184 = .ok (.iconst 1, 1) := by decide +kernel
theorem d_MO_escape_185 : decode b_MO_escape 185 = .ok (.goto 4, 3) := by decide +kernel
theorem d_MO_escape_188 : decode b_MO_escape 188 = .ok (.iconst 0, 1) := by decide +kernel
theorem d_MO_escape_189 : decode b_MO_escape 189 = .ok (.putfield 319, 3) := by decide +kernel
theorem d_MO_escape_192 : decode b_MO_escape 192 = .ok (.aload_n 0, 1) := by decide +kernel
theorem d_MO_escape_193 : decode b_MO_escape 193 = .ok (.dup, 1) := by decide +kernel
theorem d_MO_escape_194 : decode b_MO_escape 194 = .ok (.getfield 279, 3) := by decide +kernel
theorem d_MO_escape_197 : decode b_MO_escape 197 = .ok (.iconst 1, 1) := by decide +kernel
theorem d_MO_escape_198 : decode b_MO_escape 198 = .ok (.iadd, 1) := by decide +kernel
theorem d_MO_escape_199 : decode b_MO_escape 199 = .ok (.putfield 279, 3) := by decide +kernel
theorem d_MO_escape_202 : decode b_MO_escape 202 = .ok (.iconst 1, 1) := by decide +kernel
theorem d_MO_escape_203 : decode b_MO_escape 203 = .ok (.ireturn, 1) := by decide +kernel
theorem d_MO_escape_204 : decode b_MO_escape 204 = .ok (.iload_n 1, 1) := by decide +kernel
theorem d_MO_escape_205 : decode b_MO_escape 205 = .ok (.ifCond .ne 64, 3) := by decide +kernel
theorem d_MO_escape_208 : decode b_MO_escape 208 = .ok (.iload_n 3, 1) := by decide +kernel
theorem d_MO_escape_209 : decode b_MO_escape 209 = .ok (.bipush 65, 2) := by decide +kernel
theorem d_MO_escape_211 : decode b_MO_escape 211 = .ok (.if_icmp .eq 21, 3) := by decide +kernel
theorem d_MO_escape_214 : decode b_MO_escape 214 = .ok (.iload_n 3, 1) := by decide +kernel
theorem d_MO_escape_215 : decode b_MO_escape 215 = .ok (.bipush 122, 2) := by decide +kernel
theorem d_MO_escape_217 : decode b_MO_escape 217 = .ok (.if_icmp .eq 15, 3) := by decide +kernel
theorem d_MO_escape_220 : decode b_MO_escape 220 = .ok (.iload_n 3, 1) := by decide +kernel
theorem d_MO_escape_221 : decode b_MO_escape 221 = .ok (.bipush 98, 2) := by decide +kernel
theorem d_MO_escape_223 : decode b_MO_escape 223 = .ok (.if_icmp .eq 9, 3) := by decide +kernel
theorem d_MO_escape_226 : decode b_MO_escape 226 = .ok (.iload_n 3, 1) := by decide +kernel
theorem d_MO_escape_227 : decode b_MO_escape 227 = .ok (.bipush 66, 2) := by decide +kernel
theorem d_MO_escape_229 : decode b_MO_escape 229 = .ok (.if_icmp .ne 40, 3) := by decide +kernel
theorem d_MO_escape_232 : decode b_MO_escape 232 = .ok (.aload_n 0, 1) := by decide +kernel
theorem d_MO_escape_233 : decode b_MO_escape 233 = .ok (.iload_n 3, 1) := by decide +kernel
theorem d_MO_escape_234 : decode b_MO_escape 234 = .ok (.bipush 65, 2) := by decide +kernel
theorem d_MO_escape_236 : decode b_MO_escape 236 = .ok (.if_icmp .ne 7, 3) := by decide +kernel
theorem d_MO_escape_239 : decode b_MO_escape 239 = .ok (.iconst 0, 1) := by decide +kernel
theorem d_MO_escape_240 : decode b_MO_escape 240 = .ok (.goto 24, 3) := by decide +kernel
theorem d_MO_escape_243 : decode b_MO_escape 243 = .ok (.iload_n 3, 1) := by decide +kernel
theorem d_MO_escape_244 : decode b_MO_escape 244 = .ok (.bipush 122, 2) := by decide +kernel
theorem d_MO_escape_246 : decode b_MO_escape 246 = .ok (.if_icmp .ne 7, 3) := by decide +kernel
theorem d_MO_escape_249 : decode b_MO_escape 249 = .ok (.iconst 1, 1) := by decide +kernel
theorem d_MO_escape_250 : decode b_MO_escape 250 = .ok (.goto 14, 3) := by decide +kernel
theorem d_MO_escape_253 : decode b_MO_escape 253 = .ok (.iload_n 3, 1) := by decide +kernel
theorem d_MO_escape_254 : decode b_MO_escape 254 = .ok (.bipush 98, 2) := by decide +kernel
theorem d_MO_escape_256 : decode b_MO_escape 256 = .ok (.if_icmp .ne 7, 3) := by decide +kernel
theorem d_MO_escape_259 : decode b_MO_escape 259 = .ok (.iconst 2, 1) := by decide +kernel
theorem d_MO_escape_260 : decode b_MO_escape 260 = .ok (.goto 4, 3) := by decide +kernel
theorem d_MO_escape_263 : decode b_MO_escape 263 = .ok (.iconst 3, 1) := by decide +kernel
theorem d_MO_escape_264 : decode b_MO_escape 264 = .ok (.putfield 307, 3) := by decide +kernel
theorem d_MO_escape_267 : decode b_MO_escape 267 = .ok (.iconst 2, 1) := by decide +kernel
theorem d_MO_escape_268 : decode b_MO_escape 268 = .ok (.ireturn, 1) := by decide +kernel
theorem d_MO_escape_269 : decode b_MO_escape 269 = .ok (.iload_n 1, 1) := by decide +kernel
theorem d_MO_escape_270 : decode b_MO_escape 270 = .ok (.ifCond .ne 11, 3) := by decide +kernel
theorem d_MO_escape_273 : decode b_MO_escape 273 = .ok (.iload_n 3, 1) := by decide +kernel
theorem d_MO_escape_274 : decode b_MO_escape 274 = .ok (.bipush 67, 2) := by decide +kernel
theorem d_MO_escape_276 : decode b_MO_escape 276 = .ok (.if_icmp .ne 5, 3) := by decide +kernel
theorem d_MO_escape_279 : decode b_MO_escape 279 = .ok (.iconst 3, 1) := by decide +kernel
theorem d_MO_escape_280 : decode b_MO_escape 280 = .ok (.ireturn, 1) := by decide +kernel
theorem d_MO_escape_281 : decode b_MO_escape 281 = .ok (.iload_n 3, 1) := by decide +kernel
theorem d_MO_escape_282 : decode b_MO_escape 282 = .ok (.ifCond .lt 16, 3) := by decide +kernel
theorem d_MO_escape_285 : decode b_MO_escape 285 = .ok (.iload_n 3, 1) := by decide +kernel
theorem d_MO_escape_286 : decode b_MO_escape 286 = .ok (.bipush 127, 2) := by decide +kernel
theorem d_MO_escape_288 : decode b_MO_escape 288 = .ok (.if_icmp .gt 10, 3) := by decide +kernel
theorem d_MO_escape_291 : decode b_MO_escape 291 = .ok (.iload_n 3, 1) := by decide +kernel
theorem d_MO_escape_292 : decode b_MO_escape 292 = .ok (.invokestatic 326, 3) := by decide +kernel
theorem d_MO_escape_295 : decode b_MO_escape 295 = .ok (.ifCond .eq 11, 3) := by decide +kernel
theorem d_MO_escape_298 : decode b_MO_escape 298 = .ok (.aload_n 0, 1) := by decide +kernel
theorem d_MO_escape_299 : decode b_MO_escape 299 = .ok (.iconst 5, 1) := by decide +kernel
theorem d_MO_escape_300 : decode b_MO_escape 300 = .ok (.iload_n 2, 1) := by decide +kernel
theorem d_MO_escape_301 : decode b_MO_escape 301 = .ok (.invokevirtual 304, 3) := by decide +kernel
theorem d_MO_escape_304 : decode b_MO_escape 304 = .ok (.iconst (-1), 1) := by decide +kernel
theorem d_MO_escape_305 : decode b_MO_escape 305 = .ok (.ireturn, 1) := by decide +kernel
theorem d_MO_escape_306 : decode b_MO_escape 306 = .ok (.aload_n 0, 1) := by decide +kernel
theorem d_MO_escape_307 : decode b_MO_escape 307 = .ok (.iload_n 3, 1) := by decide +kernel
theorem d_MO_escape_308 : decode b_MO_escape 308 = .ok (.putfield 307, 3) := by decide +kernel
theorem d_MO_escape_311 : decode b_MO_escape 311 = .ok (.iconst 0, 1) := by decide +kernel
theorem d_MO_escape_312 : decode b_MO_escape 312 = .ok (.ireturn, 1) := by decide +kernel
theorem d_MO_flagOf_0 : decode b_MO_flagOf 0 = .ok (.iload_n 0, 1) := by decide +kernel
theorem d_MO_flagOf_1 : decode b_MO_flagOf 1 = .ok (.bipush 105, 2) := by decide +kernel
theorem d_MO_flagOf_3 : decode b_MO_flagOf 3 = .ok (.if_icmp .ne 7, 3) := by decide +kernel
theorem d_MO_flagOf_6 : decode b_MO_flagOf 6 = .ok (.iconst 1, 1) := by decide +kernel
theorem d_MO_flagOf_7 : decode b_MO_flagOf 7 = .ok (.goto 35, 3) := by decide +kernel
theorem d_MO_flagOf_10 : decode b_MO_flagOf 10 = .ok (.iload_n 0, 1) := by decide +kernel
theorem d_MO_flagOf_11 : decode b_MO_flagOf 11 = .ok (.bipush 109, 2) := by decide +kernel
theorem d_MO_flagOf_13 : decode b_MO_flagOf 13 = .ok (.if_icmp .ne 7, 3) := by decide +kernel
theorem d_MO_flagOf_16 : decode b_MO_flagOf 16 = .ok (.iconst 2, 1) := by decide +kernel
theorem d_MO_flagOf_17 : decode b_MO_flagOf 17 = .ok (.goto 25, 3) := by decide +kernel
theorem d_MO_flagOf_20 : decode b_MO_flagOf 20 = .ok (.iload_n 0, 1) := by decide +kernel
theorem d_MO_flagOf_21 : decode b_MO_flagOf 21 = .ok (.bipush 115, 2) := by decide +kernel
theorem d_MO_flagOf_23 : decode b_MO_flagOf 23 = .ok (.if_icmp .ne 7, 3) := by decide +kernel
theorem d_MO_flagOf_26 : decode b_MO_flagOf 26 = .ok (.iconst 4, 1) := by decide +kernel
theorem d_MO_flagOf_27 : decode b_MO_flagOf 27 = .ok (.goto 15, 3) := by decide +kernel
theorem d_MO_flagOf_30 : decode b_MO_flagOf 30 = .ok (.iload_n 0, 1) := by decide +kernel
theorem d_MO_flagOf_31 : decode b_MO_flagOf 31 = .ok (.bipush 85, 2) := by decide +kernel
theorem d_MO_flagOf_33 : decode b_MO_flagOf 33 = .ok (.if_icmp .ne 8, 3) := by decide +kernel
theorem d_MO_flagOf_36 : decode b_MO_flagOf 36 = .ok (.bipush 8, 2) := by decide +kernel
theorem d_MO_flagOf_38 : decode b_MO_flagOf 38 = .ok (.goto 4, 3) := by decide +kernel
theorem d_MO_flagOf_41 : decode b_MO_flagOf 41 = .ok (.iconst 0, 1) := by decide +kernel
theorem d_MO_flagOf_42 : decode b_MO_flagOf 42 = .ok (.ireturn, 1) := by decide +kernel
theorem d_MO_has_0 : decode b_MO_has 0 = .ok (.aload_n 0, 1) := by decide +kernel
theorem d_MO_has_1 : decode b_MO_has 1 = .ok (.getfield 276, 3) := by decide +kernel
theorem d_MO_has_4 : decode b_MO_has 4 = .ok (.iload_n 1, 1) := by decide +kernel
theorem d_MO_has_5 : decode b_MO_has 5 = .ok (.iand, 1) := by decide +kernel
theorem d_MO_has_6 : decode b_MO_has 6 = .ok (.ifCond .le 7, 3) := by decide +kernel
theorem d_MO_has_9 : decode b_MO_has 9 = .ok (.iconst 1, 1) := by decide +kernel
theorem d_MO_has_10 : decode b_MO_has 10 = .ok (.goto 4, 3) := by decide +kernel
theorem d_MO_has_13 : decode b_MO_has 13 = .ok (.iconst 0, 1) := by decide +kernel
theorem d_MO_has_14 : decode b_MO_has 14 = .ok (.ireturn, 1) := by decide +kernel
theorem d_MO_here_0 : decode b_MO_here 0 = .ok (.aload_n 0, 1) := by decide +kernel
theorem d_MO_here_1 : decode b_MO_here 1 = .ok (.getfield 279, 3) := by decide +kernel
theorem d_MO_here_4 : decode b_MO_here 4 = .ok (.iload_n 1, 1) := by decide +kernel
theorem d_MO_here_5 : decode b_MO_here 5 = .ok (.iadd, 1) := by decide +kernel
theorem d_MO_here_6 : decode b_MO_here 6 = .ok (.aload_n 0, 1) := by decide +kernel
theorem d_MO_here_7 : decode b_MO_here 7 = .ok (.getfield 223, 3) := by decide +kernel
theorem d_MO_here_10 : decode b_MO_here 10 = .ok (.if_icmp .ge 17, 3) := by decide +kernel
theorem d_MO_here_13 : decode b_MO_here 13 = .ok (.aload_n 0, 1) := by decide +kernel
theorem d_MO_here_14 : decode b_MO_here 14 = .ok (.getfield 19, 3) := by decide +kernel
theorem d_MO_here_17 : decode b_MO_here 17 = .ok (.aload_n 0, 1) := by decide +kernel
theorem d_MO_here_18 : decode b_MO_here 18 = .ok (.getfield 279, 3) := by decide +kernel
theorem d_MO_here_21 : decode b_MO_here 21 = .ok (.iload_n 1, 1) := by decide +kernel
theorem d_MO_here_22 : decode b_MO_here 22 = .ok (.iadd, 1) := by decide +kernel
theorem d_MO_here_23 : decode b_MO_here 23 = .ok (.iaload, 1) := by decide +kernel
theorem d_MO_here_24 : decode b_MO_here 24 = .ok (.goto 4, 3) := by decide +kernel
theorem d_MO_here_27 : decode b_MO_here 27 = .ok (.iconst (-1), 1) := by decide +kernel
theorem d_MO_here_28 : decode b_MO_here 28 = .ok (.ireturn, 1) := by decide +kernel
theorem d_MO_hex_0 : decode b_MO_hex 0 = .ok (.iload_n 0, 1) := by decide +kernel
theorem d_MO_hex_1 : decode b_MO_hex 1 = .ok (.bipush 48, 2) := by decide +kernel
theorem d_MO_hex_3 : decode b_MO_hex 3 = .ok (.if_icmp .lt 16, 3) := by decide +kernel
theorem d_MO_hex_6 : decode b_MO_hex 6 = .ok (.iload_n 0, 1) := by decide +kernel
theorem d_MO_hex_7 : decode b_MO_hex 7 = .ok (.bipush 57, 2) := by decide +kernel
theorem d_MO_hex_9 : decode b_MO_hex 9 = .ok (.if_icmp .gt 10, 3) := by decide +kernel
theorem d_MO_hex_12 : decode b_MO_hex 12 = .ok (.iload_n 0, 1) := by decide +kernel
theorem d_MO_hex_13 : decode b_MO_hex 13 = .ok (.bipush 48, 2) := by decide +kernel
theorem d_MO_hex_15 : decode b_MO_hex 15 = .ok (.isub, 1) := by decide +kernel
theorem d_MO_hex_16 : decode b_MO_hex 16 = .ok (.goto 48, 3) := by decide +kernel
theorem d_MO_hex_19 : decode b_MO_hex 19 = .ok (.iload_n 0, 1) := by decide +kernel
theorem d_MO_hex_20 : decode b_MO_hex 20 = .ok (.bipush 97, 2) := by decide +kernel
theorem d_MO_hex_22 : decode b_MO_hex 22 = .ok (.if_icmp .lt 19, 3) := by decide +kernel
theorem d_MO_hex_25 : decode b_MO_hex 25 = .ok (.iload_n 0, 1) := by decide +kernel
theorem d_MO_hex_26 : decode b_MO_hex 26 = .ok (.bipush 102, 2) := by decide +kernel
theorem d_MO_hex_28 : decode b_MO_hex 28 = .ok (.if_icmp .gt 13, 3) := by decide +kernel
theorem d_MO_hex_31 : decode b_MO_hex 31 = .ok (.iload_n 0, 1) := by decide +kernel
theorem d_MO_hex_32 : decode b_MO_hex 32 = .ok (.bipush 97, 2) := by decide +kernel
theorem d_MO_hex_34 : decode b_MO_hex 34 = .ok (.isub, 1) := by decide +kernel
theorem d_MO_hex_35 : decode b_MO_hex 35 = .ok (.bipush 10, 2) := by decide +kernel
theorem d_MO_hex_37 : decode b_MO_hex 37 = .ok (.iadd, 1) := by decide +kernel
theorem d_MO_hex_38 : decode b_MO_hex 38 = .ok (.goto 26, 3) := by decide +kernel
theorem d_MO_hex_41 : decode b_MO_hex 41 = .ok (.iload_n 0, 1) := by decide +kernel
theorem d_MO_hex_42 : decode b_MO_hex 42 = .ok (.bipush 65, 2) := by decide +kernel
theorem d_MO_hex_44 : decode b_MO_hex 44 = .ok (.if_icmp .lt 19, 3) := by decide +kernel
theorem d_MO_hex_47 : decode b_MO_hex 47 = .ok (.iload_n 0, 1) := by decide +kernel
theorem d_MO_hex_48 : decode b_MO_hex 48 = .ok (.bipush 70, 2) := by decide +kernel
theorem d_MO_hex_50 : decode b_MO_hex 50 = .ok (.if_icmp .gt 13, 3) := by decide +kernel
theorem d_MO_hex_53 : decode b_MO_hex 53 = .ok (.iload_n 0, 1) := by decide +kernel
theorem d_MO_hex_54 : decode b_MO_hex 54 = .ok (.bipush 65, 2) := by decide +kernel
theorem d_MO_hex_56 : decode b_MO_hex 56 = .ok (.isub, 1) := by decide +kernel
theorem d_MO_hex_57 : decode b_MO_hex 57 = .ok (.bipush 10, 2) := by decide +kernel
theorem d_MO_hex_59 : decode b_MO_hex 59 = .ok (.iadd, 1) := by decide +kernel
theorem d_MO_hex_60 : decode b_MO_hex 60 = .ok (.goto 4, 3) := by decide +kernel
theorem d_MO_hex_63 : decode b_MO_hex 63 = .ok (.iconst (-1), 1) := by decide +kernel
theorem d_MO_hex_64 : decode b_MO_hex 64 = .ok (.ireturn, 1) := by decide +kernel
theorem d_MO_hexadecimal_0 : decode b_MO_hexadecimal 0 = .ok (.iconst 0, 1) := by decide +kernel
theorem d_MO_hexadecimal_1 : decode b_MO_hexadecimal 1 = .ok (.istore_n 2, 1) := by decide +kernel
theorem d_MO_hexadecimal_2 : decode b_MO_hexadecimal 2 = .ok (.iconst 0, 1) := by decide +kernel
theorem d_MO_hexadecimal_3 : decode b_MO_hexadecimal 3 = .ok (.istore_n 3, 1) := by decide +kernel
theorem d_MO_hexadecimal_4 : decode b_MO_hexadecimal 4 = .ok (.aload_n 0, 1) := by decide +kernel
theorem d_MO_hexadecimal_5 : decode b_MO_hexadecimal 5 = .ok (.iconst 0, 1) := by decide +kernel
theorem d_MO_hexadecimal_6 : decode b_MO_hexadecimal 6 = .ok (.invokevirtual 297, 3) := by decide +kernel
theorem d_MO_hexadecimal_9 : decode b_MO_hexadecimal 9 = .ok (.bipush 123, 2) := by decide +kernel
theorem d_MO_hexadecimal_11 : decode b_MO_hexadecimal 11 = .ok (.if_icmp .ne 106, 3) := by decide +kernel
theorem d_MO_hexadecimal_14 : decode b_MO_hexadecimal 14 = .ok (.aload_n 0, 1) := by decide +kernel
theorem d_MO_hexadecimal_15 : decode b_MO_hexadecimal 15 = .ok (.dup, 1) := by decide +kernel
theorem d_MO_hexadecimal_16 : decode b_MO_hexadecimal 16 = .ok (.getfield 279, 3) := by decide +kernel
theorem d_MO_hexadecimal_19 : decode b_MO_hexadecimal 19 = .ok (.iconst 1, 1) := by decide +kernel
theorem d_MO_hexadecimal_20 : decode b_MO_hexadecimal 20 = .ok (.iadd, 1) := by decide +kernel
theorem d_MO_hexadecimal_21 : decode b_MO_hexadecimal 21 = .ok (.putfield 279, 3) := by decide +kernel
theorem d_MO_hexadecimal_24 : decode b_MO_hexadecimal 24 = .ok (.iload_n 3, 1) := by decide +kernel
theorem d_MO_hexadecimal_25 : decode b_MO_hexadecimal 25 = .ok (.bipush 7, 2) := by decide +kernel
theorem d_MO_hexadecimal_27 : decode b_MO_hexadecimal 27 = .ok (.if_icmp .ge 52, 3) := by decide +kernel
theorem d_MO_hexadecimal_30 : decode b_MO_hexadecimal 30 = .ok (.aload_n 0, 1) := by decide +kernel
theorem d_MO_hexadecimal_31 : decode b_MO_hexadecimal 31 = .ok (.iconst 0, 1) := by decide +kernel
theorem d_MO_hexadecimal_32 : decode b_MO_hexadecimal 32 = .ok (.invokevirtual 297, 3) := by decide +kernel
theorem d_MO_hexadecimal_35 : decode b_MO_hexadecimal 35 = .ok (.ifCond .lt 44, 3) := by decide +kernel
theorem d_MO_hexadecimal_38 : decode b_MO_hexadecimal 38 = .ok (.aload_n 0, 1) := by decide +kernel
theorem d_MO_hexadecimal_39 : decode b_MO_hexadecimal 39 = .ok (.iconst 0, 1) := by decide +kernel
theorem d_MO_hexadecimal_40 : decode b_MO_hexadecimal 40 = .ok (.invokevirtual 297, 3) := by decide +kernel
theorem d_MO_hexadecimal_43 : decode b_MO_hexadecimal 43 = .ok (.invokestatic 300, 3) := by decide +kernel
theorem d_MO_hexadecimal_46 : decode b_MO_hexadecimal 46 = .ok (.ifCond .lt 33, 3) := by decide +kernel
theorem d_MO_hexadecimal_49 : decode b_MO_hexadecimal 49 = .ok (.bipush 16, 2) := by decide +kernel
theorem d_MO_hexadecimal_51 : decode b_MO_hexadecimal 51 = .ok (.iload_n 2, 1) := by decide +kernel
theorem d_MO_hexadecimal_52 : decode b_MO_hexadecimal 52 = .ok (.imul, 1) := by decide +kernel
theorem d_MO_hexadecimal_53 : decode b_MO_hexadecimal 53 = .ok (.aload_n 0, 1) := by decide +kernel
theorem d_MO_hexadecimal_54 : decode b_MO_hexadecimal 54 = .ok (.iconst 0, 1) := by decide +kernel
theorem d_MO_hexadecimal_55 : decode b_MO_hexadecimal 55 = .ok (.invokevirtual 297, 3) := by decide +kernel
theorem d_MO_hexadecimal_58 : decode b_MO_hexadecimal 58 = .ok (.invokestatic 300, 3) := by decide +kernel
theorem d_MO_hexadecimal_61 : decode b_MO_hexadecimal 61 = .ok (.iadd, 1) := by decide +kernel
theorem d_MO_hexadecimal_62 : decode b_MO_hexadecimal 62 = .ok (.istore_n 2, 1) := by decide +kernel
theorem d_MO_hexadecimal_63 : decode b_MO_hexadecimal 63 = .ok (.iinc 3 1, 3) := by decide +kernel
theorem d_MO_hexadecimal_66 : decode b_MO_hexadecimal 66 = .ok (.aload_n 0, 1) := by decide +kernel
theorem d_MO_hexadecimal_67 : decode b_MO_hexadecimal 67 = .ok (.dup, 1) := by decide +kernel
theorem d_MO_hexadecimal_68 : decode b_MO_hexadecimal 68 = .ok (.getfield 279, 3) := by decide +kernel
theorem d_MO_hexadecimal_71 : decode b_MO_hexadecimal 71 = .ok (.iconst 1, 1) := by decide +kernel
theorem d_MO_hexadecimal_72 : decode b_MO_hexadecimal 72 = .ok (.iadd, 1) := by decide +kernel
theorem d_MO_hexadecimal_73 : decode b_MO_hexadecimal 73 = .ok (.putfield 279, 3) := by decide +kernel
theorem d_MO_hexadecimal_76 : decode b_MO_hexadecimal 76 = .ok (.goto (-52), 3) := by decide +kernel
theorem d_MO_hexadecimal_79 : decode b_MO_hexadecimal 79 = .ok (.iload_n 3, 1) := by decide +kernel
theorem d_MO_hexadecimal_80 : decode b_MO_hexadecimal 80 = .ok (.iconst 1, 1) := by decide +kernel
theorem d_MO_hexadecimal_81 : decode b_MO_hexadecimal 81 = .ok (.if_icmp .lt 19, 3) := by decide +kernel
theorem d_MO_hexadecimal_84 : decode b_MO_hexadecimal 84 = .ok (.iload_n 3, 1) := by decide +kernel
theorem d_MO_hexadecimal_85 : decode b_MO_hexadecimal 85 = .ok (.bipush 6, 2) := by decide +kernel
theorem d_MO_hexadecimal_87 : decode b_MO_hexadecimal 87 = .ok (.if_icmp .gt 13, 3) := by decide +kernel
theorem d_MO_hexadecimal_90 : decode b_MO_hexadecimal 90 = .ok (.aload_n 0, 1) := by decide +kernel
theorem d_MO_hexadecimal_91 : decode b_MO_hexadecimal 91 = .ok (.iconst 0, 1) := by decide +kernel
theorem d_MO_hexadecimal_92 : decode b_MO_hexadecimal 92 = .ok (.invokevirtual 297, 3) := by decide +kernel
theorem d_MO_hexadecimal_95 : decode b_MO_hexadecimal 95 = .ok (.bipush 125, 2) := by decide +kernel
theorem d_MO_hexadecimal_97 : decode b_MO_hexadecimal 97 = .ok (.if_icmp .eq 7, 3) := by decide +kernel
theorem d_MO_hexadecimal_100 : decode b_MO_hexadecimal 100 = .ok (.ldc_w 303, 3) := by decide +kernel
theorem d_MO_hexadecimal_103 : decode b_MO_hexadecimal 103 = .ok (.istore_n 2, 1) := by decide +kernel
theorem d_MO_hexadecimal_104 : decode b_MO_hexadecimal 104 = .ok (.aload_n 0, 1) := by decide +kernel
theorem d_MO_hexadecimal_105 : decode b_MO_hexadecimal 105 = .ok (.dup, 1) := by decide +kernel
theorem d_MO_hexadecimal_106 : decode b_MO_hexadecimal 106 = .ok (.getfield 279, 3) := by decide +kernel
theorem d_MO_hexadecimal_109 : decode b_MO_hexadecimal 109 = .ok (.iconst 1, 1) := by decide +kernel
theorem d_MO_hexadecimal_110 : decode b_MO_hexadecimal 110 = .ok (.iadd, 1) := by decide +kernel
theorem d_MO_hexadecimal_111 : decode b_MO_hexadecimal 111 = .ok (.putfield 279, 3) := by decide +kernel
theorem d_MO_hexadecimal_114 : decode b_MO_hexadecimal 114 = .ok (.goto 90, 3) := by decide +kernel
theorem d_MO_hexadecimal_117 : decode b_MO_hexadecimal 117 = .ok (.aload_n 0, 1) := by decide +kernel
theorem d_MO_hexadecimal_118 : decode b_MO_hexadecimal 118 = .ok (.iconst 0, 1) := by decide +kernel
theorem d_MO_hexadecimal_119 : decode b_MO_hexadecimal 119 = .ok (.invokevirtual 297, 3) := by decide +kernel
theorem d_MO_hexadecimal_122 : decode b_MO_hexadecimal 122 = .ok (.ifCond .lt 37, 3) := by decide +kernel
theorem d_MO_hexadecimal_125 : decode b_MO_hexadecimal 125 = .ok (.aload_n 0, 1) := by decide +kernel
theorem d_MO_hexadecimal_126 : decode b_MO_hexadecimal 126 = .ok (.iconst 1, 1) := by decide +kernel
theorem d_MO_hexadecimal_127 : decode b_MO_hexadecimal 127 = .ok (.invokevirtual 297, 3) := by decide +kernel
theorem d_MO_hexadecimal_130 : decode b_MO_hexadecimal 130 = .ok (.ifCond .lt 29, 3) := by decide +kernel
theorem d_MO_hexadecimal_133 : decode b_MO_hexadecimal 133 = .ok (.aload_n 0, 1) := by decide +kernel
theorem d_MO_hexadecimal_134 : decode b_MO_hexadecimal 134 = .ok (.iconst 0, 1) := by decide +kernel
theorem d_MO_hexadecimal_135 : decode b_MO_hexadecimal 135 = .ok (.invokevirtual 297, 3) := by decide +kernel
theorem d_MO_hexadecimal_138 : decode b_MO_hexadecimal 138 = .ok (.invokestatic 300, 3) := by decide +kernel
theorem d_MO_hexadecimal_141 : decode b_MO_hexadecimal 141 = .ok (.ifCond .lt 18, 3) := by decide +kernel
theorem d_MO_hexadecimal_144 : decode b_MO_hexadecimal 144 = .ok (.aload_n 0, 1) := by decide +kernel
theorem d_MO_hexadecimal_145 : decode b_MO_hexadecimal 145 = .ok (.iconst 1, 1) := by decide +kernel
theorem d_MO_hexadecimal_146 : decode b_MO_hexadecimal 146 = .ok (.invokevirtual 297, 3) := by decide +kernel
theorem d_MO_hexadecimal_149 : decode b_MO_hexadecimal 149 = .ok (.invokestatic 300, 3) := by decide +kernel
theorem d_MO_hexadecimal_152 : decode b_MO_hexadecimal 152 = .ok (.ifCond .lt 7, 3) := by decide +kernel
theorem d_MO_hexadecimal_155 : decode b_MO_hexadecimal 155 = .ok (.iconst 1, 1) := by decide +kernel
theorem d_MO_hexadecimal_156 : decode b_MO_hexadecimal 156 = .ok (.goto 4, 3) := by decide +kernel
theorem d_MO_hexadecimal_159 : decode b_MO_hexadecimal 159 = .ok (.iconst 0, 1) := by decide +kernel
theorem d_MO_hexadecimal_160 : decode b_MO_hexadecimal 160 = .ok (.istore 4, 2) := by decide +kernel
theorem d_MO_hexadecimal_162 : decode b_MO_hexadecimal 162 = .ok (.iload 4, 2) := by decide +kernel
theorem d_MO_hexadecimal_164 : decode b_MO_hexadecimal 164 = .ok (.ifCond .eq 26, 3) := by decide +kernel
theorem d_MO_hexadecimal_167 : decode b_MO_hexadecimal 167 = .ok (.bipush 16, 2) := by decide +kernel
theorem d_MO_hexadecimal_169 : decode b_MO_hexadecimal 169 = .ok (.aload_n 0, 1) := by decide +kernel
theorem d_MO_hexadecimal_170 : decode b_MO_hexadecimal 170 = .ok (.iconst 0, 1) := by decide +kernel
theorem d_MO_hexadecimal_171 : decode b_MO_hexadecimal 171 = .ok (.invokevirtual 297, 3) := by decide +kernel
theorem d_MO_hexadecimal_174 : decode b_MO_hexadecimal 174 = .ok (.invokestatic 300, 3) := by decide +kernel
theorem d_MO_hexadecimal_177 : decode b_MO_hexadecimal 177 = .ok (.imul, 1) := by decide +kernel
theorem d_MO_hexadecimal_178 : decode b_MO_hexadecimal 178 = .ok (.aload_n 0, 1) := by decide +kernel
theorem d_MO_hexadecimal_179 : decode b_MO_hexadecimal 179 = .ok (.iconst 1, 1) := by decide +kernel
theorem d_MO_hexadecimal_180 : decode b_MO_hexadecimal 180 = .ok (.invokevirtual 297, 3) := by decide +kernel
theorem d_MO_hexadecimal_183 : decode b_MO_hexadecimal 183 = .ok (.invokestatic 300, 3) := by decide +kernel
theorem d_MO_hexadecimal_186 : decode b_MO_hexadecimal 186 = .ok (.iadd, 1) := by decide +kernel
theorem d_MO_hexadecimal_187 : decode b_MO_hexadecimal 187 = .ok (.goto 6, 3) := by decide +kernel
theorem d_MO_hexadecimal_190 : decode b_MO_hexadecimal 190 = .ok (.ldc_w 303, 3) := by decide +kernel
theorem d_MO_hexadecimal_193 : decode b_MO_hexadecimal 193 = .ok (.istore_n 2, 1) := by decide +kernel
theorem d_MO_hexadecimal_194 : decode b_MO_hexadecimal 194 = .ok (.aload_n 0, 1) := by decide +kernel
theorem d_MO_hexadecimal_195 : decode b_MO_hexadecimal 195 = .ok (.dup, 1) := by decide +kernel
theorem d_MO_hexadecimal_196 : decode b_MO_hexadecimal 196 = .ok (.getfield 279, 3) := by decide +kernel
theorem d_MO_hexadecimal_199 : decode b_MO_hexadecimal 199 = .ok (.iconst 2, 1) := by decide +kernel
theorem d_MO_hexadecimal_200 : decode b_MO_hexadecimal 200 = .ok (.iadd, 1) := by decide +kernel
theorem d_MO_hexadecimal_201 : decode b_MO_hexadecimal 201 = .ok (.putfield 279, 3) := by decide +kernel
theorem d_MO_hexadecimal_204 : decode b_MO_hexadecimal 204 = .ok (.iload_n 2, 1) := by decide +kernel
theorem d_MO_hexadecimal_205 : decode b_MO_hexadecimal 205 = .ok (.ldc 236, 2) := by decide +kernel
theorem d_MO_hexadecimal_207 : decode b_MO_hexadecimal 207 = .ok (.if_icmp .gt 15, 3) := by decide +kernel
theorem d_MO_hexadecimal_210 : decode b_MO_hexadecimal 210 = .ok (.iload_n 2, 1) := by decide +kernel
theorem d_MO_hexadecimal_211 : decode b_MO_hexadecimal 211 = .ok (.ldc 233, 2) := by decide +kernel
theorem d_MO_hexadecimal_213 : decode b_MO_hexadecimal 213 = .ok (.if_icmp .lt 17, 3) := by decide +kernel
theorem d_MO_hexadecimal_216 : decode b_MO_hexadecimal 216 = .ok (.iload_n 2, 1) := by decide +kernel
theorem d_MO_hexadecimal_217 : decode b_MO_hexadecimal 217 = .ok (.ldc 234, 2) := by decide +kernel
theorem d_MO_hexadecimal_219 : decode b_MO_hexadecimal 219 = .ok (.if_icmp .ge 11, 3) := by decide +kernel
theorem d_MO_hexadecimal_222 : decode b_MO_hexadecimal 222 = .ok (.aload_n 0, 1) := by decide +kernel
theorem d_MO_hexadecimal_223 : decode b_MO_hexadecimal 223 = .ok (.iconst 5, 1) := by decide +kernel
theorem d_MO_hexadecimal_224 : decode b_MO_hexadecimal 224 = .ok (.iload_n 1, 1) := by decide +kernel
theorem d_MO_hexadecimal_225 : decode b_MO_hexadecimal 225 = .ok (.invokevirtual 304, 3) := by decide +kernel
theorem d_MO_hexadecimal_228 : decode b_MO_hexadecimal 228 = .ok (.iconst (-1), 1) := by decide +kernel
theorem d_MO_hexadecimal_229 : decode b_MO_hexadecimal 229 = .ok (.ireturn, 1) := by decide +kernel
theorem d_MO_hexadecimal_230 : decode b_MO_hexadecimal 230 = .ok (.aload_n 0, 1) := by decide +kernel
theorem d_MO_hexadecimal_231 : decode b_MO_hexadecimal 231 = .ok (.iload_n 2, 1) := by decide +kernel
theorem d_MO_hexadecimal_232 : decode b_MO_hexadecimal 232 = .ok (.putfield 307, 3) := by decide +kernel
theorem d_MO_hexadecimal_235 : decode b_MO_hexadecimal 235 = .ok (.iconst 0, 1) := by decide +kernel
theorem d_MO_hexadecimal_236 : decode b_MO_hexadecimal 236 = .ok (.ireturn, 1) := by decide +kernel
theorem d_MO_item_0 : decode b_MO_item 0 = .ok (.aload_n 0, 1) := by decide +kernel
theorem d_MO_item_1 : decode b_MO_item 1 = .ok (.getfield 279, 3) := by decide +kernel
theorem d_MO_item_4 : decode b_MO_item 4 = .ok (.istore_n 1, 1) := by decide +kernel
theorem d_MO_item_5 : decode b_MO_item 5 = .ok (.aload_n 0, 1) := by decide +kernel
theorem d_MO_item_6 : decode b_MO_item 6 = .ok (.iconst 0, 1) := by decide +kernel
theorem d_MO_item_7 : decode b_MO_item 7 = .ok (.invokevirtual 297, 3) := by decide +kernel
theorem d_MO_item_10 : decode b_MO_item 10 = .ok (.bipush 91, 2) := by decide +kernel
theorem d_MO_item_12 : decode b_MO_item 12 = .ok (.if_icmp .ne 18, 3) := by decide +kernel
theorem d_MO_item_15 : decode b_MO_item 15 = .ok (.aload_n 0, 1) := by decide +kernel
theorem d_MO_item_16 : decode b_MO_item 16 = .ok (.iconst 1, 1) := by decide +kernel
theorem d_MO_item_17 : decode b_MO_item 17 = .ok (.invokevirtual 297, 3) := by decide +kernel
theorem d_MO_item_20 : decode b_MO_item 20 = .ok (.bipush 58, 2) := by decide +kernel
theorem d_MO_item_22 : decode b_MO_item 22 = .ok (.if_icmp .ne 8, 3) := by decide +kernel
theorem d_MO_item_25 : decode b_MO_item 25 = .ok (.aload_n 0, 1) := by decide +kernel
theorem d_MO_item_26 : decode b_MO_item 26 = .ok (.invokevirtual 341, 3) := by decide +kernel
theorem d_MO_item_29 : decode b_MO_item 29 = .ok (.return_, 1) := by decide +kernel
theorem d_MO_item_30 : decode b_MO_item 30 = .ok (.aload_n 0, 1) := by decide +kernel
theorem d_MO_item_31 : decode b_MO_item 31 = .ok (.iconst 0, 1) := by decide +kernel
theorem d_MO_item_32 : decode b_MO_item 32 = .ok (.invokevirtual 297, 3) := by decide +kernel
theorem d_MO_item_35 : decode b_MO_item 35 = .ok (.bipush 92, 2) := by decide +kernel
theorem d_MO_item_37 : decode b_MO_item 37 = .ok (.if_icmp .ne 39, 3) := by decide +kernel
theorem d_MO_item_40 : decode b_MO_item 40 = .ok (.aload_n 0, 1) := by decide +kernel
theorem d_MO_item_41 : decode b_MO_item 41 = .ok (.iconst 1, 1) := by decide +kernel
theorem d_MO_item_42 : decode b_MO_item 42 = .ok (.invokevirtual 344, 3) := by decide +kernel
theorem d_MO_item_45 : decode b_MO_item 45 = .ok (.istore_n 3, 1) := by decide +kernel
theorem d_MO_item_46 : decode b_MO_item 46 = .ok (.iload_n 3, 1) := by decide +kernel
theorem d_MO_item_47 : decode b_MO_item 47 = .ok (.iconst 1, 1) := by decide +kernel
theorem d_MO_item_48 : decode b_MO_item 48 = .ok (.if_icmp .ne 15, 3) := by decide +kernel
theorem d_MO_item_51 : decode b_MO_item 51 = .ok (.aload_n 0, 1) := by decide +kernel
theorem d_MO_item_52 : decode b_MO_item 52 = .ok (.aload_n 0, 1) := by decide +kernel
theorem d_MO_item_53 : decode b_MO_item 53 = .ok (.getfield 307, 3) := by decide +kernel
theorem d_MO_item_56 : decode b_MO_item 56 = .ok (.aload_n 0, 1) := by decide +kernel
theorem d_MO_item_57 : decode b_MO_item 57 = .ok (.getfield 319, 3) := by decide +kernel
theorem d_MO_item_60 : decode b_MO_item 60 = .ok (.invokevirtual 337, 3) := by decide +kernel
theorem d_MO_item_63 : decode b_MO_item 63 = .ok (.iload_n 3, 1) := by decide +kernel
theorem d_MO_item_64 : decode b_MO_item 64 = .ok (.ifCond .eq 4, 3) := by decide +kernel
theorem d_MO_item_67 : decode b_MO_item 67 = .ok (.return_, 1) := by decide +kernel
theorem d_MO_item_68 : decode b_MO_item 68 = .ok (.aload_n 0, 1) := by decide +kernel
theorem d_MO_item_69 : decode b_MO_item 69 = .ok (.getfield 307, 3) := by decide +kernel
theorem d_MO_item_72 : decode b_MO_item 72 = .ok (.istore_n 2, 1) := by decide +kernel
theorem d_MO_item_73 : decode b_MO_item 73 = .ok (.goto 8, 3) := by decide +kernel
theorem d_MO_item_76 : decode b_MO_item 76 = .ok (.aload_n 0, 1) := by decide +kernel
theorem d_MO_item_77 : decode b_MO_item 77 = .ok (.invokevirtual 348, 3) := by decide +kernel
theorem d_MO_item_80 : decode b_MO_item 80 = .ok (.istore_n 2, 1) := by decide +kernel
theorem d_MO_item_81 : decode b_MO_item 81 = .ok (.iload_n 2, 1) := by decide +kernel
theorem d_MO_item_82 : decode b_MO_item 82 = .ok (.istore_n 3, 1) := by decide +kernel
theorem d_MO_item_83 : decode b_MO_item 83 = .ok (.aload_n 0, 1) := by decide +kernel
theorem d_MO_item_84 : decode b_MO_item 84 = .ok (.getfield 273, 3) := by decide +kernel
theorem d_MO_item_87 : decode b_MO_item 87 = .ok (.ifCond .ne 66, 3) := by decide +kernel
theorem d_MO_item_90 : decode b_MO_item 90 = .ok (.aload_n 0, 1) := by decide +kernel
theorem d_MO_item_91 : decode b_MO_item 91 = .ok (.iconst 0, 1) := by decide +kernel
theorem d_MO_item_92 : decode b_MO_item 92 = .ok (.invokevirtual 297, 3) := by decide +kernel
theorem d_MO_item_95 : decode b_MO_item 95 = .ok (.bipush 45, 2) := by decide +kernel
theorem d_MO_item_97 : decode b_MO_item 97 = .ok (.if_icmp .ne 56, 3) := by decide +kernel
theorem d_MO_item_100 : decode b_MO_item 100 = .ok (.aload_n 0, 1) := by decide +kernel
theorem d_MO_item_101 : decode b_MO_item 101 = .ok (.iconst 1, 1) := by decide +kernel
theorem d_MO_item_102 : decode b_MO_item 102 = .ok (.invokevirtual 297, 3) := by decide +kernel
theorem d_MO_item_105 : decode b_MO_item 105 = .ok (.ifCond .lt 48, 3) := by decide +kernel
theorem d_MO_item_108 : decode b_MO_item 108 = .ok (.aload_n 0, 1) := by decide +kernel
theorem d_MO_item_109 : decode b_MO_item 109 = .ok (.iconst 1, 1) := by decide +kernel
theorem d_MO_item_110 : decode b_MO_item 110 = .ok (.invokevirtual 297, 3) := by decide +kernel
theorem d_MO_item_113 : decode b_MO_item 113 = .ok (.bipush 93, 2) := by decide +kernel
theorem d_MO_item_115 : decode b_MO_item 115 = .ok (.if_icmp .eq 38, 3) := by decide +kernel
theorem d_MO_item_118 : decode b_MO_item 118 = .ok (.aload_n 0, 1) := by decide +kernel
theorem d_MO_item_119 : decode b_MO_item 119 = .ok (.dup, 1) := by decide +kernel
theorem d_MO_item_120 : decode b_MO_item 120 = .ok (.getfield 279, 3) := by decide +kernel
theorem d_MO_item_123 : decode b_MO_item 123 = .ok (.iconst 1, 1) := by decide +kernel
theorem d_MO_item_124 : decode b_MO_item 124 = .ok (.iadd, 1) := by decide +kernel
theorem d_MO_item_125 : decode b_MO_item 125 = .ok (.putfield 279, 3) := by decide +kernel
theorem d_MO_item_128 : decode b_MO_item 128 = .ok (.aload_n 0, 1) := by decide +kernel
theorem d_MO_item_129 : decode b_MO_item 129 = .ok (.iload_n 1, 1) := by decide +kernel
theorem d_MO_item_130 : decode b_MO_item 130 = .ok (.invokevirtual 352, 3) := by decide +kernel
theorem d_MO_item_133 : decode b_MO_item 133 = .ok (.istore_n 3, 1) := by decide +kernel
theorem d_MO_item_134 : decode b_MO_item 134 = .ok (.aload_n 0, 1) := by decide +kernel
theorem d_MO_item_135 : decode b_MO_item 135 = .ok (.getfield 273, 3) := by decide +kernel
theorem d_MO_item_138 : decode b_MO_item 138 = .ok (.ifCond .ne 15, 3) := by decide +kernel
theorem d_MO_item_141 : decode b_MO_item 141 = .ok (.iload_n 3, 1) := by decide +kernel
theorem d_MO_item_142 : decode b_MO_item 142 = .ok (.iload_n 2, 1) := by decide +kernel
theorem d_MO_item_143 : decode b_MO_item 143 = .ok (.if_icmp .ge 10, 3) := by decide +kernel
theorem d_MO_item_146 : decode b_MO_item 146 = .ok (.aload_n 0, 1) := by decide +kernel
theorem d_MO_item_147 : decode b_MO_item 147 = .ok (.bipush 6, 2) := by decide +kernel
theorem d_MO_item_149 : decode b_MO_item 149 = .ok (.iload_n 1, 1) := by decide +kernel
theorem d_MO_item_150 : decode b_MO_item 150 = .ok (.invokevirtual 304, 3) := by decide +kernel
theorem d_MO_item_153 : decode b_MO_item 153 = .ok (.aload_n 0, 1) := by decide +kernel
theorem d_MO_item_154 : decode b_MO_item 154 = .ok (.getfield 273, 3) := by decide +kernel
theorem d_MO_item_157 : decode b_MO_item 157 = .ok (.ifCond .ne 14, 3) := by decide +kernel
theorem d_MO_item_160 : decode b_MO_item 160 = .ok (.aload_n 0, 1) := by decide +kernel
theorem d_MO_item_161 : decode b_MO_item 161 = .ok (.iload_n 2, 1) := by decide +kernel
theorem d_MO_item_162 : decode b_MO_item 162 = .ok (.iload_n 3, 1) := by decide +kernel
theorem d_MO_item_163 : decode b_MO_item 163 = .ok (.aload_n 0, 1) := by decide +kernel
theorem d_MO_item_164 : decode b_MO_item 164 = .ok (.iconst 1, 1) := by decide +kernel
theorem d_MO_item_165 : decode b_MO_item 165 = .ok (.invokevirtual 355, 3) := by decide +kernel
theorem d_MO_item_168 : decode b_MO_item 168 = .ok (.invokevirtual 358, 3) := by decide +kernel
theorem d_MO_item_171 : decode b_MO_item 171 = .ok (.return_, 1) := by decide +kernel
theorem d_MO_plain_0 : decode b_MO_plain 0 = .ok (.aload_n 0, 1) := by decide +kernel
theorem d_MO_plain_1 : decode b_MO_plain 1 = .ok (.aload_n 0, 1) := by decide +kernel
theorem d_MO_plain_2 : decode b_MO_plain 2 = .ok (.getfield 19, 3) := by decide +kernel
theorem d_MO_plain_5 : decode b_MO_plain 5 = .ok (.aload_n 0, 1) := by decide +kernel
theorem d_MO_plain_6 : decode b_MO_plain 6 = .ok (.getfield 223, 3) := by decide +kernel
theorem d_MO_plain_9 : decode b_MO_plain 9 = .ok (.aload_n 0, 1) := by decide +kernel
theorem d_MO_plain_10 : decode b_MO_plain 10 = .ok (.getfield 279, 3) := by decide +kernel
theorem d_MO_plain_13 : decode b_MO_plain 13 = .ok (.invokevirtual 330, 3) := by decide +kernel
theorem d_MO_plain_16 : decode b_MO_plain 16 = .ok (.istore_n 1, 1) := by decide +kernel
theorem d_MO_plain_17 : decode b_MO_plain 17 = .ok (.iload_n 1, 1) := by decide +kernel
theorem d_MO_plain_18 : decode b_MO_plain 18 = .ok (.ifCond .ge 15, 3) := by decide +kernel
theorem d_MO_plain_21 : decode b_MO_plain 21 = .ok (.aload_n 0, 1) := by decide +kernel
theorem d_MO_plain_22 : decode b_MO_plain 22 = .ok (.iconst 1, 1) := by decide +kernel
theorem d_MO_plain_23 : decode b_MO_plain 23 = .ok (.aload_n 0, 1) := by decide +kernel
theorem d_MO_plain_24 : decode b_MO_plain 24 = .ok (.getfield 279, 3) := by decide +kernel
theorem d_MO_plain_27 : decode b_MO_plain 27 = .ok (.invokevirtual 304, 3) := by decide +kernel
theorem d_MO_plain_30 : decode b_MO_plain 30 = .ok (.goto 16, 3) := by decide +kernel
theorem d_MO_plain_33 : decode b_MO_plain 33 = .ok (.aload_n 0, 1) := by decide +kernel
theorem d_MO_plain_34 : decode b_MO_plain 34 = .ok (.dup, 1) := by decide +kernel
theorem d_MO_plain_35 : decode b_MO_plain 35 = .ok (.getfield 279, 3) := by decide +kernel
theorem d_MO_plain_38 : decode b_MO_plain 38 = .ok (.aload_n 0, 1) := by decide +kernel
theorem d_MO_plain_39 : decode b_MO_plain 39 = .ok (.getfield 226, 3) := by decide +kernel
theorem d_MO_plain_42 : decode b_MO_plain 42 = .ok (.iadd, 1) := by decide +kernel
theorem d_MO_plain_43 : decode b_MO_plain 43 = .ok (.putfield 279, 3) := by decide +kernel
theorem d_MO_plain_46 : decode b_MO_plain 46 = .ok (.iload_n 1, 1) := by decide +kernel
theorem d_MO_plain_47 : decode b_MO_plain 47 = .ok (.ireturn, 1) := by decide +kernel
theorem d_MO_posix_0 : decode b_MO_posix 0 = .ok (.aload_n 0, 1) := by decide +kernel
theorem d_MO_posix_1 : decode b_MO_posix 1 = .ok (.getfield 279, 3) := by decide +kernel
theorem d_MO_posix_4 : decode b_MO_posix 4 = .ok (.istore_n 1, 1) := by decide +kernel
theorem d_MO_posix_5 : decode b_MO_posix 5 = .ok (.aload_n 0, 1) := by decide +kernel
theorem d_MO_posix_6 : decode b_MO_posix 6 = .ok (.dup, 1) := by decide +kernel
theorem d_MO_posix_7 : decode b_MO_posix 7 = .ok (.getfield 279, 3) := by decide +kernel
theorem d_MO_posix_10 : decode b_MO_posix 10 = .ok (.iconst 2, 1) := by decide +kernel
theorem d_MO_posix_11 : decode b_MO_posix 11 = .ok (.iadd, 1) := by decide +kernel
theorem d_MO_posix_12 : decode b_MO_posix 12 = .ok (.putfield 279, 3) := by decide +kernel
theorem d_MO_posix_15 : decode b_MO_posix 15 = .ok (.aload_n 0, 1) := by decide +kernel
theorem d_MO_posix_16 : decode b_MO_posix 16 = .ok (.iconst 0, 1) := by decide +kernel
theorem d_MO_posix_17 : decode b_MO_posix 17 = .ok (.invokevirtual 297, 3) := by decide +kernel
theorem d_MO_posix_20 : decode b_MO_posix 20 = .ok (.bipush 94, 2) := by decide +kernel
theorem d_MO_posix_22 : decode b_MO_posix 22 = .ok (.if_icmp .ne 7, 3) := by decide +kernel
theorem d_MO_posix_25 : decode b_MO_posix 25 = .ok (.iconst 1, 1) := by decide +kernel
theorem d_MO_posix_26 : decode b_MO_posix 26 = .ok (.goto 4, 3) := by decide +kernel
theorem d_MO_posix_29 : decode b_MO_posix 29 = .ok (.iconst 0, 1) := by decide +kernel
theorem d_MO_posix_30 : decode b_MO_posix 30 = .ok (.istore_n 2, 1) := by decide +kernel
theorem d_MO_posix_31 : decode b_MO_posix 31 = .ok (.aload_n 0, 1) := by decide +kernel
theorem d_MO_posix_32 : decode b_MO_posix 32 = .ok (.dup, 1) := by decide +kernel
theorem d_MO_posix_33 : decode b_MO_posix 33 = .ok (.getfield 279, 3) := by decide +kernel
theorem d_MO_posix_36 : decode b_MO_posix 36 = .ok (.iload_n 2, 1) := by decide +kernel
theorem d_MO_posix_37 : decode b_MO_posix 37 = .ok (.ifCond .eq 7, 3) := by decide +kernel
theorem d_MO_posix_40 : decode b_MO_posix 40 = .ok (.iconst 1, 1) := by decide +kernel
theorem d_MO_posix_41 : decode b_MO_posix 41 = .ok (.goto 4, 3) := by decide +kernel
theorem d_MO_posix_44 : decode b_MO_posix 44 = .ok (.iconst 0, 1) := by decide +kernel
theorem d_MO_posix_45 : decode b_MO_posix 45 = .ok (.iadd, 1) := by decide +kernel
theorem d_MO_posix_46 : decode b_MO_posix 46 = .ok (.putfield 279, 3) := by decide +kernel
theorem d_MO_posix_49 : decode b_MO_posix 49 = .ok (.aload_n 0, 1) := by decide +kernel
theorem d_MO_posix_50 : decode b_MO_posix 50 = .ok (.getfield 223, 3) := by decide +kernel
theorem d_MO_posix_53 : decode b_MO_posix 53 = .ok (.istore_n 3, 1) := by decide +kernel
theorem d_MO_posix_54 : decode b_MO_posix 54 = .ok (.aload_n 0, 1) := by decide +kernel
theorem d_MO_posix_55 : decode b_MO_posix 55 = .ok (.getfield 19, 3) := by decide +kernel
theorem d_MO_posix_58 : decode b_MO_posix 58 = .ok (.aload_n 0, 1) := by decide +kernel
theorem d_MO_posix_59 : decode b_MO_posix 59 = .ok (.getfield 279, 3) := by decide +kernel
theorem d_MO_posix_62 : decode b_MO_posix 62 = .ok (.iload_n 3, 1) := by decide +kernel
theorem d_MO_posix_63 : decode b_MO_posix 63 = .ok (.bipush 100, 2) := by decide +kernel
theorem d_MO_posix_65 : decode b_MO_posix 65 = .ok (.bipush 105, 2) := by decide +kernel
theorem d_MO_posix_67 : decode b_MO_posix 67 = .ok (.bipush 103, 2) := by decide +kernel
theorem d_MO_posix_69 : decode b_MO_posix 69 = .ok (.bipush 105, 2) := by decide +kernel
theorem d_MO_posix_71 : decode b_MO_posix 71 = .ok (.bipush 116, 2) := by decide +kernel
theorem d_MO_posix_73 : decode b_MO_posix 73 = .ok (.invokestatic 333, 3) := by decide +kernel
theorem d_MO_posix_76 : decode b_MO_posix 76 = .ok (.ifCond .eq 7, 3) := by decide +kernel
theorem d_MO_posix_79 : decode b_MO_posix 79 = .ok (.iconst 0, 1) := by decide +kernel
theorem d_MO_posix_80 : decode b_MO_posix 80 = .ok (.goto 154, 3) := by decide +kernel
theorem d_MO_posix_83 : decode b_MO_posix 83 = .ok (.aload_n 0, 1) := by decide +kernel
theorem d_MO_posix_84 : decode b_MO_posix 84 = .ok (.getfield 19, 3) := by decide +kernel
theorem d_MO_posix_87 : decode b_MO_posix 87 = .ok (.aload_n 0, 1) := by decide +kernel
theorem d_MO_posix_88 : decode b_MO_posix 88 = .ok (.getfield 279, 3) := by decide +kernel
theorem d_MO_posix_91 : decode b_MO_posix 91 = .ok (.iload_n 3, 1) := by decide +kernel
theorem d_MO_posix_92 : decode b_MO_posix 92 = .ok (.bipush 97, 2) := by decide +kernel
theorem d_MO_posix_94 : decode b_MO_posix 94 = .ok (.bipush 108, 2) := by decide +kernel
theorem d_MO_posix_96 : decode b_MO_posix 96 = .ok (.bipush 112, 2) := by decide +kernel
theorem d_MO_posix_98 : decode b_MO_posix 98 = .ok (.bipush 104, 2) := by decide +kernel
theorem d_MO_posix_100 : decode b_MO_posix 100 = .ok (.bipush 97, 2) := by decide +kernel
theorem d_MO_posix_102 : decode b_MO_posix 102 = .ok (.invokestatic 333, 3) := by decide +kernel
theorem d_MO_posix_105 : decode b_MO_posix 105 = .ok (.ifCond .eq 8, 3) := by decide +kernel
theorem d_MO_posix_108 : decode b_MO_posix 108 = .ok (.bipush 7, 2) := by decide +kernel
theorem d_MO_posix_110 : decode b_MO_posix 110 = .ok (.goto 124, 3) := by decide +kernel
theorem d_MO_posix_113 : decode b_MO_posix 113 = .ok (.aload_n 0, 1) := by decide +kernel
theorem d_MO_posix_114 : decode b_MO_posix 114 = .ok (.getfield 19, 3) := by decide +kernel
theorem d_MO_posix_117 : decode b_MO_posix 117 = .ok (.aload_n 0, 1) := by decide +kernel
theorem d_MO_posix_118 : decode b_MO_posix 118 = .ok (.getfield 279, 3) := by decide +kernel
theorem d_MO_posix_121 : decode b_MO_posix 121 = .ok (.iload_n 3, 1) := by decide +kernel
theorem d_MO_posix_122 : decode b_MO_posix 122 = .ok (.bipush 117, 2) := by decide +kernel
theorem d_MO_posix_124 : decode b_MO_posix 124 = .ok (.bipush 112, 2) := by decide +kernel
theorem d_MO_posix_126 : decode b_MO_posix 126 = .ok (.bipush 112, 2) := by decide +kernel
theorem d_MO_posix_128 : decode b_MO_posix 128 = .ok (.bipush 101, 2) := by decide +kernel
theorem d_MO_posix_130 : decode b_MO_posix 130 = .ok (.bipush 114, 2) := by decide +kernel
theorem d_MO_posix_132 : decode b_MO_posix 132 = .ok (.invokestatic 333, 3) := by decide +kernel
theorem d_MO_posix_135 : decode b_MO_posix 135 = .ok (.ifCond .eq 8, 3) := by decide +kernel
theorem d_MO_posix_138 : decode b_MO_posix 138 = .ok (.bipush 8, 2) := by decide +kernel
theorem d_MO_posix_140 : decode b_MO_posix 140 = .ok (.goto 94, 3) := by decide +kernel
theorem d_MO_posix_143 : decode b_MO_posix 143 = .ok (.aload_n 0, 1) := by decide +kernel
theorem d_MO_posix_144 : decode b_MO_posix 144 = .ok (.getfield 19, 3) := by decide +kernel
theorem d_MO_posix_147 : decode b_MO_posix 147 = .ok (.aload_n 0, 1) := by decide +kernel
theorem d_MO_posix_148 : decode b_MO_posix 148 = .ok (.getfield 279, 3) := by decide +kernel
theorem d_MO_posix_151 : decode b_MO_posix 151 = .ok (.iload_n 3, 1) := by decide +kernel
theorem d_MO_posix_152 : decode b_MO_posix 152 = .ok (.bipush 108, 2) := by decide +kernel
theorem d_MO_posix_154 : decode b_MO_posix 154 = .ok (.bipush 111, 2) := by decide +kernel
theorem d_MO_posix_156 : decode b_MO_posix 156 = .ok (.bipush 119, 2) := by decide +kernel
theorem d_MO_posix_158 : decode b_MO_posix 158 = .ok (.bipush 101, 2) := by decide +kernel
theorem d_MO_posix_160 : decode b_MO_posix 160 = .ok (.bipush 114, 2) := by decide +kernel
theorem d_MO_posix_162 : decode b_MO_posix 162 = .ok (.invokestatic 333, 3) := by decide +kernel
theorem d_MO_posix_165 : decode b_MO_posix 165 = .ok (.ifCond .eq 8, 3) := by decide +kernel
theorem d_MO_posix_168 : decode b_MO_posix 168 = .ok (.bipush 9, 2) := by decide +kernel
theorem d_MO_posix_170 : decode b_MO_posix 170 = .ok (.goto 64, 3) := by decide +kernel
theorem d_MO_posix_173 : decode b_MO_posix 173 = .ok (.aload_n 0, 1) := by decide +kernel
theorem d_MO_posix_174 : decode b_MO_posix 174 = .ok (.getfield 19, 3) := by decide +kernel
theorem d_MO_posix_177 : decode b_MO_posix 177 = .ok (.aload_n 0, 1) := by decide +kernel
theorem d_MO_posix_178 : decode b_MO_posix 178 = .ok (.getfield 279, 3) := by decide +kernel
theorem d_MO_posix_181 : decode b_MO_posix 181 = .ok (.iload_n 3, 1) := by decide +kernel
theorem d_MO_posix_182 : decode b_MO_posix 182 = .ok (.bipush 112, 2) := by decide +kernel
theorem d_MO_posix_184 : decode b_MO_posix 184 = .ok (.bipush 117, 2) := by decide +kernel
theorem d_MO_posix_186 : decode b_MO_posix 186 = .ok (.bipush 110, 2) := by decide +kernel
theorem d_MO_posix_188 : decode b_MO_posix 188 = .ok (.bipush 99, 2) := by decide +kernel
theorem d_MO_posix_190 : decode b_MO_posix 190 = .ok (.bipush 116, 2) := by decide +kernel
theorem d_MO_posix_192 : decode b_MO_posix 192 = .ok (.invokestatic 333, 3) := by decide +kernel
theorem d_MO_posix_195 : decode b_MO_posix 195 = .ok (.ifCond .eq 8, 3) := by decide +kernel
theorem d_MO_posix_198 : decode b_MO_posix 198 = .ok (.bipush 10, 2) := by decide +kernel
theorem d_MO_posix_200 : decode b_MO_posix 200 = .ok (.goto 34, 3) := by decide +kernel
theorem d_MO_posix_203 : decode b_MO_posix 203 = .ok (.aload_n 0, 1) := by decide +kernel
theorem d_MO_posix_204 : decode b_MO_posix 204 = .ok (.getfield 19, 3) := by decide +kernel
theorem d_MO_posix_207 : decode b_MO_posix 207 = .ok (.aload_n 0, 1) := by decide +kernel
theorem d_MO_posix_208 : decode b_MO_posix 208 = .ok (.getfield 279, 3) := by decide +kernel
theorem d_MO_posix_211 : decode b_MO_posix 211 = .ok (.iload_n 3, 1) := by decide +kernel
theorem d_MO_posix_212 : decode b_MO_posix 212 = .ok (.bipush 115, 2) := by decide +kernel
theorem d_MO_posix_214 : decode b_MO_posix 214 = .ok (.bipush 112, 2) := by decide +kernel
theorem d_MO_posix_216 : decode b_MO_posix 216 = .ok (.bipush 97, 2) := by decide +kernel
theorem d_MO_posix_218 : decode b_MO_posix 218 = .ok (.bipush 99, 2) := by decide +kernel
theorem d_MO_posix_220 : decode b_MO_posix 220 = .ok (.bipush 101, 2) := by decide +kernel
theorem d_MO_posix_222 : decode b_MO_posix 222 = .ok (.invokestatic 333, 3) := by decide +kernel
theorem d_MO_posix_225 : decode b_MO_posix 225 = .ok (.ifCond .eq 8, 3) := by decide +kernel
theorem d_MO_posix_228 : decode b_MO_posix 228 = .ok (.bipush 11, 2) := by decide +kernel
theorem d_MO_posix_230 : decode b_MO_posix 230 = .ok (.goto 4, 3) := by decide +kernel
theorem d_MO_posix_233 : decode b_MO_posix 233 = .ok (.iconst (-1), 1) := by decide +kernel
theorem d_MO_posix_234 : decode b_MO_posix 234 = .ok (.istore 4, 2) := by decide +kernel
theorem d_MO_posix_236 : decode b_MO_posix 236 = .ok (.iload 4, 2) := by decide +kernel
theorem d_MO_posix_238 : decode b_MO_posix 238 = .ok (.ifCond .lt 24, 3) := by decide +kernel
theorem d_MO_posix_241 : decode b_MO_posix 241 = .ok (.aload_n 0, 1) := by decide +kernel
theorem d_MO_posix_242 : decode b_MO_posix 242 = .ok (.iconst 5, 1) := by decide +kernel
theorem d_MO_posix_243 : decode b_MO_posix 243 = .ok (.invokevirtual 297, 3) := by decide +kernel
theorem d_MO_posix_246 : decode b_MO_posix 246 = .ok (.bipush 58, 2) := by decide +kernel
theorem d_MO_posix_248 : decode b_MO_posix 248 = .ok (.if_icmp .ne 14, 3) := by decide +kernel
theorem d_MO_posix_251 : decode b_MO_posix 251 = .ok (.aload_n 0, 1) := by decide +kernel
theorem d_MO_posix_252 : decode b_MO_posix 252 = .ok (.bipush 6, 2) := by decide +kernel
theorem d_MO_posix_254 : decode b_MO_posix 254 = .ok (.invokevirtual 297, 3) := by decide +kernel
theorem d_MO_posix_257 : decode b_MO_posix 257 = .ok (.bipush 93, 2) := by decide +kernel
theorem d_MO_posix_259 : decode b_MO_posix 259 = .ok (.if_icmp .eq 11, 3) := by decide +kernel
theorem d_MO_posix_262 : decode b_MO_posix 262 = .ok (.aload_n 0, 1) := by decide +kernel
theorem d_MO_posix_263 : decode b_MO_posix 263 = .ok (.bipush 7, 2) := by decide +kernel
theorem d_MO_posix_265 : decode b_MO_posix 265 = .ok (.iload_n 1, 1) := by decide +kernel
theorem d_MO_posix_266 : decode b_MO_posix 266 = .ok (.invokevirtual 304, 3) := by decide +kernel
theorem d_MO_posix_269 : decode b_MO_posix 269 = .ok (.return_, 1) := by decide +kernel
theorem d_MO_posix_270 : decode b_MO_posix 270 = .ok (.aload_n 0, 1) := by decide +kernel
theorem d_MO_posix_271 : decode b_MO_posix 271 = .ok (.iload 4, 2) := by decide +kernel
theorem d_MO_posix_273 : decode b_MO_posix 273 = .ok (.iload_n 2, 1) := by decide +kernel
theorem d_MO_posix_274 : decode b_MO_posix 274 = .ok (.invokevirtual 337, 3) := by decide +kernel
theorem d_MO_posix_277 : decode b_MO_posix 277 = .ok (.aload_n 0, 1) := by decide +kernel
theorem d_MO_posix_278 : decode b_MO_posix 278 = .ok (.dup, 1) := by decide +kernel
theorem d_MO_posix_279 : decode b_MO_posix 279 = .ok (.getfield 279, 3) := by decide +kernel
theorem d_MO_posix_282 : decode b_MO_posix 282 = .ok (.bipush 7, 2) := by decide +kernel
theorem d_MO_posix_284 : decode b_MO_posix 284 = .ok (.iadd, 1) := by decide +kernel
theorem d_MO_posix_285 : decode b_MO_posix 285 = .ok (.putfield 279, 3) := by decide +kernel
theorem d_MO_posix_288 : decode b_MO_posix 288 = .ok (.return_, 1) := by decide +kernel
theorem d_MO_rangeEnd_0 : decode b_MO_rangeEnd 0 = .ok (.aload_n 0, 1) := by decide +kernel
theorem d_MO_rangeEnd_1 : decode b_MO_rangeEnd 1 = .ok (.iconst 0, 1) := by decide +kernel
theorem d_MO_rangeEnd_2 : decode b_MO_rangeEnd 2 = .ok (.invokevirtual 297, 3) := by decide +kernel
theorem d_MO_rangeEnd_5 : decode b_MO_rangeEnd 5 = .ok (.bipush 91, 2) := by decide +kernel
theorem d_MO_rangeEnd_7 : decode b_MO_rangeEnd 7 = .ok (.if_icmp .ne 22, 3) := by decide +kernel
theorem d_MO_rangeEnd_10 : decode b_MO_rangeEnd 10 = .ok (.aload_n 0, 1) := by decide +kernel
theorem d_MO_rangeEnd_11 : decode b_MO_rangeEnd 11 = .ok (.iconst 1, 1) := by decide +kernel
theorem d_MO_rangeEnd_12 : decode b_MO_rangeEnd 12 = .ok (.invokevirtual 297, 3) := by decide +kernel
theorem d_MO_rangeEnd_15 : decode b_MO_rangeEnd 15 = .ok (.bipush 58, 2) := by decide +kernel
theorem d_MO_rangeEnd_17 : decode b_MO_rangeEnd 17 = .ok (.if_icmp .ne 12, 3) := by decide +kernel
theorem d_MO_rangeEnd_20 : decode b_MO_rangeEnd 20 = .ok (.aload_n 0, 1) := by decide +kernel
theorem d_MO_rangeEnd_21 : decode b_MO_rangeEnd 21 = .ok (.bipush 6, 2) := by decide +kernel
theorem d_MO_rangeEnd_23 : decode b_MO_rangeEnd 23 = .ok (.iload_n 1, 1) := by decide +kernel
theorem d_MO_rangeEnd_24 : decode b_MO_rangeEnd 24 = .ok (.invokevirtual 304, 3) := by decide +kernel
theorem d_MO_rangeEnd_27 : decode b_MO_rangeEnd 27 = .ok (.iconst (-1), 1) := by decide +kernel
theorem d_MO_rangeEnd_28 : decode b_MO_rangeEnd 28 = .ok (.ireturn, 1) := by decide +kernel
theorem d_MO_rangeEnd_29 : decode b_MO_rangeEnd 29 = .ok (.aload_n 0, 1) := by decide +kernel
theorem d_MO_rangeEnd_30 : decode b_MO_rangeEnd 30 = .ok (.iconst 0, 1) := by decide +kernel
theorem d_MO_rangeEnd_31 : decode b_MO_rangeEnd 31 = .ok (.invokevirtual 297, 3) := by decide +kernel
theorem d_MO_rangeEnd_34 : decode b_MO_rangeEnd 34 = .ok (.bipush 92, 2) := by decide +kernel
theorem d_MO_rangeEnd_36 : decode b_MO_rangeEnd 36 = .ok (.if_icmp .eq 8, 3) := by decide +kernel
