theorem dL_off_10 : decode cL_off 10 = .ok (.invokestatic 137, 3) := by decide +kernel
theorem dL_off_13 : decode cL_off 13 = .ok (.ldc 123, 2) := by decide +kernel
theorem dL_off_15 : decode cL_off 15 = .ok (.if_icmp .ne 7, 3) := by decide +kernel
theorem dL_off_18 : decode cL_off 18 = .ok (.iconst 1, 1) := by decide +kernel
theorem dL_off_19 : decode cL_off 19 = .ok (.goto 4, 3) := by decide +kernel
theorem dL_off_22 : decode cL_off 22 = .ok (.iconst 0, 1) := by decide +kernel
theorem dL_off_23 : decode cL_off 23 = .ok (.ireturn, 1) := by decide +kernel
theorem dL_isRefused_0 : decode cL_isRefused 0 = .ok (.iload 4, 2) := by decide +kernel
theorem dL_isRefused_2 : decode cL_isRefused 2 = .ok (.iconst 2, 1) := by decide +kernel
theorem dL_isRefused_3 : decode cL_isRefused 3 = .ok (.irem, 1) := by decide +kernel
theorem dL_isRefused_4 : decode cL_isRefused 4 = .ok (.ifCond .ne 7, 3) := by decide +kernel
theorem dL_isRefused_7 : decode cL_isRefused 7 = .ok (.iconst 1, 1) := by decide +kernel
theorem dL_isRefused_8 : decode cL_isRefused 8 = .ok (.goto 4, 3) := by decide +kernel
theorem dL_isRefused_11 : decode cL_isRefused 11 = .ok (.iconst 0, 1) := by decide +kernel
theorem dL_isRefused_12 : decode cL_isRefused 12 = .ok (.istore 5, 2) := by decide +kernel
theorem dL_isRefused_14 : decode cL_isRefused 14 = .ok (.iload 5, 2) := by decide +kernel
theorem dL_isRefused_16 : decode cL_isRefused 16 = .ok (.ifCond .eq 13, 3) := by decide +kernel
theorem dL_isRefused_19 : decode cL_isRefused 19 = .ok (.iconst (-1), 1) := by decide +kernel
theorem dL_isRefused_20 : decode cL_isRefused 20 = .ok (.iload 4, 2) := by decide +kernel
theorem dL_isRefused_22 : decode cL_isRefused 22 = .ok (.bipush 30, 2) := by decide +kernel
theorem dL_isRefused_24 : decode cL_isRefused 24 = .ok (.irem, 1) := by decide +kernel
theorem dL_isRefused_25 : decode cL_isRefused 25 = .ok (.isub, 1) := by decide +kernel
theorem dL_isRefused_26 : decode cL_isRefused 26 = .ok (.goto 12, 3) := by decide +kernel
theorem dL_isRefused_29 : decode cL_isRefused 29 = .ok (.aload_n 1, 1) := by decide +kernel
theorem dL_isRefused_30 : decode cL_isRefused 30 = .ok (.iconst 1, 1) := by decide +kernel
theorem dL_isRefused_31 : decode cL_isRefused 31 = .ok (.iaload, 1) := by decide +kernel
theorem dL_isRefused_32 : decode cL_isRefused 32 = .ok (.iload 4, 2) := by decide +kernel
theorem dL_isRefused_34 : decode cL_isRefused 34 = .ok (.bipush 30, 2) := by decide +kernel
theorem dL_isRefused_36 : decode cL_isRefused 36 = .ok (.irem, 1) := by decide +kernel
theorem dL_isRefused_37 : decode cL_isRefused 37 = .ok (.iadd, 1) := by decide +kernel
theorem dL_isRefused_38 : decode cL_isRefused 38 = .ok (.istore 6, 2) := by decide +kernel
theorem dL_isRefused_40 : decode cL_isRefused 40 = .ok (.iload 5, 2) := by decide +kernel
theorem dL_isRefused_42 : decode cL_isRefused 42 = .ok (.ifCond .eq 13, 3) := by decide +kernel
theorem dL_isRefused_45 : decode cL_isRefused 45 = .ok (.iconst (-1), 1) := by decide +kernel
theorem dL_isRefused_46 : decode cL_isRefused 46 = .ok (.iload 4, 2) := by decide +kernel
theorem dL_isRefused_48 : decode cL_isRefused 48 = .ok (.bipush 30, 2) := by decide +kernel
theorem dL_isRefused_50 : decode cL_isRefused 50 = .ok (.irem, 1) := by decide +kernel
theorem dL_isRefused_51 : decode cL_isRefused 51 = .ok (.isub, 1) := by decide +kernel
theorem dL_isRefused_52 : decode cL_isRefused 52 = .ok (.goto 12, 3) := by decide +kernel
theorem dL_isRefused_55 : decode cL_isRefused 55 = .ok (.aload_n 1, 1) := by decide +kernel
theorem dL_isRefused_56 : decode cL_isRefused 56 = .ok (.iconst 2, 1) := by decide +kernel
theorem dL_isRefused_57 : decode cL_isRefused 57 = .ok (.iaload, 1) := by decide +kernel
theorem dL_isRefused_58 : decode cL_isRefused 58 = .ok (.iload 4, 2) := by decide +kernel
theorem dL_isRefused_60 : decode cL_isRefused 60 = .ok (.bipush 30, 2) := by decide +kernel
theorem dL_isRefused_62 : decode cL_isRefused 62 = .ok (.irem, 1) := by decide +kernel
theorem dL_isRefused_63 : decode cL_isRefused 63 = .ok (.iadd, 1) := by decide +kernel
theorem dL_isRefused_64 : decode cL_isRefused 64 = .ok (.istore 7, 2) := by decide +kernel
theorem dL_isRefused_66 : decode cL_isRefused 66 = .ok (.iload 5, 2) := by decide +kernel
theorem dL_isRefused_68 : decode cL_isRefused 68 = .ok (.ifCond .eq 13, 3) := by decide +kernel
theorem dL_isRefused_71 : decode cL_isRefused 71 = .ok (.iconst (-1), 1) := by decide +kernel
theorem dL_isRefused_72 : decode cL_isRefused 72 = .ok (.iload 4, 2) := by decide +kernel
theorem dL_isRefused_74 : decode cL_isRefused 74 = .ok (.bipush 30, 2) := by decide +kernel
theorem dL_isRefused_76 : decode cL_isRefused 76 = .ok (.irem, 1) := by decide +kernel
theorem dL_isRefused_77 : decode cL_isRefused 77 = .ok (.isub, 1) := by decide +kernel
theorem dL_isRefused_78 : decode cL_isRefused 78 = .ok (.goto 12, 3) := by decide +kernel
theorem dL_isRefused_81 : decode cL_isRefused 81 = .ok (.aload_n 1, 1) := by decide +kernel
theorem dL_isRefused_82 : decode cL_isRefused 82 = .ok (.iconst 3, 1) := by decide +kernel
theorem dL_isRefused_83 : decode cL_isRefused 83 = .ok (.iaload, 1) := by decide +kernel
theorem dL_isRefused_84 : decode cL_isRefused 84 = .ok (.iload 4, 2) := by decide +kernel
theorem dL_isRefused_86 : decode cL_isRefused 86 = .ok (.bipush 30, 2) := by decide +kernel
theorem dL_isRefused_88 : decode cL_isRefused 88 = .ok (.irem, 1) := by decide +kernel
theorem dL_isRefused_89 : decode cL_isRefused 89 = .ok (.iadd, 1) := by decide +kernel
theorem dL_isRefused_90 : decode cL_isRefused 90 = .ok (.istore 8, 2) := by decide +kernel
theorem dL_isRefused_92 : decode cL_isRefused 92 = .ok (.iload 5, 2) := by decide +kernel
theorem dL_isRefused_94 : decode cL_isRefused 94 = .ok (.ifCond .eq 13, 3) := by decide +kernel
theorem dL_isRefused_97 : decode cL_isRefused 97 = .ok (.iconst (-1), 1) := by decide +kernel
theorem dL_isRefused_98 : decode cL_isRefused 98 = .ok (.iload 4, 2) := by decide +kernel
theorem dL_isRefused_100 : decode cL_isRefused 100 = .ok (.bipush 30, 2) := by decide +kernel
theorem dL_isRefused_102 : decode cL_isRefused 102 = .ok (.irem, 1) := by decide +kernel
theorem dL_isRefused_103 : decode cL_isRefused 103 = .ok (.isub, 1) := by decide +kernel
theorem dL_isRefused_104 : decode cL_isRefused 104 = .ok (.goto 10, 3) := by decide +kernel
theorem dL_isRefused_107 : decode cL_isRefused 107 = .ok (.iconst 5, 1) := by decide +kernel
theorem dL_isRefused_108 : decode cL_isRefused 108 = .ok (.iload 4, 2) := by decide +kernel
theorem dL_isRefused_110 : decode cL_isRefused 110 = .ok (.bipush 30, 2) := by decide +kernel
theorem dL_isRefused_112 : decode cL_isRefused 112 = .ok (.irem, 1) := by decide +kernel
theorem dL_isRefused_113 : decode cL_isRefused 113 = .ok (.iadd, 1) := by decide +kernel
theorem dL_isRefused_114 : decode cL_isRefused 114 = .ok (.istore 9, 2) := by decide +kernel
theorem dL_isRefused_116 : decode cL_isRefused 116 = .ok (.aload_n 0, 1) := by decide +kernel
theorem dL_isRefused_117 : decode cL_isRefused 117 = .ok (.aload_n 1, 1) := by decide +kernel
theorem dL_isRefused_118 : decode cL_isRefused 118 = .ok (.aload_n 2, 1) := by decide +kernel
theorem dL_isRefused_119 : decode cL_isRefused 119 = .ok (.invokestatic 143, 3) := by decide +kernel
theorem dL_isRefused_122 : decode cL_isRefused 122 = .ok (.lstore 10, 2) := by decide +kernel
theorem dL_isRefused_124 : decode cL_isRefused 124 = .ok (.aload_n 0, 1) := by decide +kernel
theorem dL_isRefused_125 : decode cL_isRefused 125 = .ok (.iconst 0, 1) := by decide +kernel
theorem dL_isRefused_126 : decode cL_isRefused 126 = .ok (.iconst 5, 1) := by decide +kernel
theorem dL_isRefused_127 : decode cL_isRefused 127 = .ok (.iconst 0, 1) := by decide +kernel
theorem dL_isRefused_128 : decode cL_isRefused 128 = .ok (.iconst 0, 1) := by decide +kernel
theorem dL_isRefused_129 : decode cL_isRefused 129 = .ok (.iload 5, 2) := by decide +kernel
theorem dL_isRefused_131 : decode cL_isRefused 131 = .ok (.ifCond .eq 14, 3) := by decide +kernel
theorem dL_isRefused_134 : decode cL_isRefused 134 = .ok (.bipush (-2), 2) := by decide +kernel
theorem dL_isRefused_136 : decode cL_isRefused 136 = .ok (.iload 4, 2) := by decide +kernel
theorem dL_isRefused_138 : decode cL_isRefused 138 = .ok (.bipush 30, 2) := by decide +kernel
theorem dL_isRefused_140 : decode cL_isRefused 140 = .ok (.irem, 1) := by decide +kernel
theorem dL_isRefused_141 : decode cL_isRefused 141 = .ok (.isub, 1) := by decide +kernel
theorem dL_isRefused_142 : decode cL_isRefused 142 = .ok (.goto 12, 3) := by decide +kernel
theorem dL_isRefused_145 : decode cL_isRefused 145 = .ok (.aload_n 1, 1) := by decide +kernel
theorem dL_isRefused_146 : decode cL_isRefused 146 = .ok (.iconst 1, 1) := by decide +kernel
theorem dL_isRefused_147 : decode cL_isRefused 147 = .ok (.iaload, 1) := by decide +kernel
theorem dL_isRefused_148 : decode cL_isRefused 148 = .ok (.iload 4, 2) := by decide +kernel
theorem dL_isRefused_150 : decode cL_isRefused 150 = .ok (.bipush 30, 2) := by decide +kernel
theorem dL_isRefused_152 : decode cL_isRefused 152 = .ok (.irem, 1) := by decide +kernel
theorem dL_isRefused_153 : decode cL_isRefused 153 = .ok (.iadd, 1) := by decide +kernel
theorem dL_isRefused_154 : decode cL_isRefused 154 = .ok (.iconst 0, 1) := by decide +kernel
theorem dL_isRefused_155 : decode cL_isRefused 155 = .ok (.invokestatic 137, 3) := by decide +kernel
theorem dL_isRefused_158 : decode cL_isRefused 158 = .ok (.ldc 120, 2) := by decide +kernel
theorem dL_isRefused_160 : decode cL_isRefused 160 = .ok (.if_icmp .ne 572, 3) := by decide +kernel
theorem dL_isRefused_163 : decode cL_isRefused 163 = .ok (.aload_n 0, 1) := by decide +kernel
theorem dL_isRefused_164 : decode cL_isRefused 164 = .ok (.iconst 0, 1) := by decide +kernel
theorem dL_isRefused_165 : decode cL_isRefused 165 = .ok (.iload 5, 2) := by decide +kernel
theorem dL_isRefused_167 : decode cL_isRefused 167 = .ok (.ifCond .eq 13, 3) := by decide +kernel
theorem dL_isRefused_170 : decode cL_isRefused 170 = .ok (.iconst 0, 1) := by decide +kernel
theorem dL_isRefused_171 : decode cL_isRefused 171 = .ok (.iload 4, 2) := by decide +kernel
theorem dL_isRefused_173 : decode cL_isRefused 173 = .ok (.bipush 30, 2) := by decide +kernel
theorem dL_isRefused_175 : decode cL_isRefused 175 = .ok (.irem, 1) := by decide +kernel
theorem dL_isRefused_176 : decode cL_isRefused 176 = .ok (.isub, 1) := by decide +kernel
theorem dL_isRefused_177 : decode cL_isRefused 177 = .ok (.goto 5, 3) := by decide +kernel
theorem dL_isRefused_180 : decode cL_isRefused 180 = .ok (.bipush 41, 2) := by decide +kernel
theorem dL_isRefused_182 : decode cL_isRefused 182 = .ok (.iconst 0, 1) := by decide +kernel
theorem dL_isRefused_183 : decode cL_isRefused 183 = .ok (.iconst 0, 1) := by decide +kernel
theorem dL_isRefused_184 : decode cL_isRefused 184 = .ok (.iconst (-1), 1) := by decide +kernel
theorem dL_isRefused_185 : decode cL_isRefused 185 = .ok (.iconst 0, 1) := by decide +kernel
theorem dL_isRefused_186 : decode cL_isRefused 186 = .ok (.invokestatic 147, 3) := by decide +kernel
theorem dL_isRefused_189 : decode cL_isRefused 189 = .ok (.ifCond .eq 543, 3) := by decide +kernel
theorem dL_isRefused_192 : decode cL_isRefused 192 = .ok (.aload_n 0, 1) := by decide +kernel
theorem dL_isRefused_193 : decode cL_isRefused 193 = .ok (.iconst 0, 1) := by decide +kernel
theorem dL_isRefused_194 : decode cL_isRefused 194 = .ok (.iconst 5, 1) := by decide +kernel
theorem dL_isRefused_195 : decode cL_isRefused 195 = .ok (.iload 5, 2) := by decide +kernel
theorem dL_isRefused_197 : decode cL_isRefused 197 = .ok (.ifCond .eq 7, 3) := by decide +kernel
theorem dL_isRefused_200 : decode cL_isRefused 200 = .ok (.iconst (-1), 1) := by decide +kernel
theorem dL_isRefused_201 : decode cL_isRefused 201 = .ok (.goto 10, 3) := by decide +kernel
theorem dL_isRefused_204 : decode cL_isRefused 204 = .ok (.iconst 4, 1) := by decide +kernel
theorem dL_isRefused_205 : decode cL_isRefused 205 = .ok (.iload 4, 2) := by decide +kernel
theorem dL_isRefused_207 : decode cL_isRefused 207 = .ok (.bipush 30, 2) := by decide +kernel
theorem dL_isRefused_209 : decode cL_isRefused 209 = .ok (.irem, 1) := by decide +kernel
theorem dL_isRefused_210 : decode cL_isRefused 210 = .ok (.iadd, 1) := by decide +kernel
theorem dL_isRefused_211 : decode cL_isRefused 211 = .ok (.iconst 0, 1) := by decide +kernel
theorem dL_isRefused_212 : decode cL_isRefused 212 = .ok (.iconst (-1), 1) := by decide +kernel
theorem dL_isRefused_213 : decode cL_isRefused 213 = .ok (.iconst 0, 1) := by decide +kernel
theorem dL_isRefused_214 : decode cL_isRefused 214 = .ok (.invokestatic 147, 3) := by decide +kernel
theorem dL_isRefused_217 : decode cL_isRefused 217 = .ok (.ifCond .eq 515, 3) := by decide +kernel
theorem dL_isRefused_220 : decode cL_isRefused 220 = .ok (.aload_n 0, 1) := by decide +kernel
theorem dL_isRefused_221 : decode cL_isRefused 221 = .ok (.iconst 0, 1) := by decide +kernel
theorem dL_isRefused_222 : decode cL_isRefused 222 = .ok (.iconst 5, 1) := by decide +kernel
theorem dL_isRefused_223 : decode cL_isRefused 223 = .ok (.iconst 0, 1) := by decide +kernel
theorem dL_isRefused_224 : decode cL_isRefused 224 = .ok (.iload 5, 2) := by decide +kernel
theorem dL_isRefused_226 : decode cL_isRefused 226 = .ok (.ifCond .eq 13, 3) := by decide +kernel
theorem dL_isRefused_229 : decode cL_isRefused 229 = .ok (.iconst (-1), 1) := by decide +kernel
theorem dL_isRefused_230 : decode cL_isRefused 230 = .ok (.iload 4, 2) := by decide +kernel
theorem dL_isRefused_232 : decode cL_isRefused 232 = .ok (.bipush 30, 2) := by decide +kernel
theorem dL_isRefused_234 : decode cL_isRefused 234 = .ok (.irem, 1) := by decide +kernel
theorem dL_isRefused_235 : decode cL_isRefused 235 = .ok (.isub, 1) := by decide +kernel
theorem dL_isRefused_236 : decode cL_isRefused 236 = .ok (.goto 6, 3) := by decide +kernel
theorem dL_isRefused_239 : decode cL_isRefused 239 = .ok (.sipush 1000, 3) := by decide +kernel
theorem dL_isRefused_242 : decode cL_isRefused 242 = .ok (.iconst (-1), 1) := by decide +kernel
theorem dL_isRefused_243 : decode cL_isRefused 243 = .ok (.iconst 0, 1) := by decide +kernel
theorem dL_isRefused_244 : decode cL_isRefused 244 = .ok (.invokestatic 147, 3) := by decide +kernel
theorem dL_isRefused_247 : decode cL_isRefused 247 = .ok (.ifCond .eq 485, 3) := by decide +kernel
theorem dL_isRefused_250 : decode cL_isRefused 250 = .ok (.aload_n 0, 1) := by decide +kernel
theorem dL_isRefused_251 : decode cL_isRefused 251 = .ok (.iconst 1, 1) := by decide +kernel
theorem dL_isRefused_252 : decode cL_isRefused 252 = .ok (.iload 6, 2) := by decide +kernel
theorem dL_isRefused_254 : decode cL_isRefused 254 = .ok (.iconst 0, 1) := by decide +kernel
theorem dL_isRefused_255 : decode cL_isRefused 255 = .ok (.iconst 0, 1) := by decide +kernel
theorem dL_isRefused_256 : decode cL_isRefused 256 = .ok (.invokestatic 151, 3) := by decide +kernel
theorem dL_isRefused_259 : decode cL_isRefused 259 = .ok (.ifCond .eq 473, 3) := by decide +kernel
theorem dL_isRefused_262 : decode cL_isRefused 262 = .ok (.aload_n 0, 1) := by decide +kernel
theorem dL_isRefused_263 : decode cL_isRefused 263 = .ok (.iconst 2, 1) := by decide +kernel
theorem dL_isRefused_264 : decode cL_isRefused 264 = .ok (.iload 6, 2) := by decide +kernel
theorem dL_isRefused_266 : decode cL_isRefused 266 = .ok (.iconst 5, 1) := by decide +kernel
theorem dL_isRefused_267 : decode cL_isRefused 267 = .ok (.iconst 4, 1) := by decide +kernel
theorem dL_isRefused_268 : decode cL_isRefused 268 = .ok (.invokestatic 151, 3) := by decide +kernel
theorem dL_isRefused_271 : decode cL_isRefused 271 = .ok (.ifCond .eq 461, 3) := by decide +kernel
theorem dL_isRefused_274 : decode cL_isRefused 274 = .ok (.aload_n 0, 1) := by decide +kernel
theorem dL_isRefused_275 : decode cL_isRefused 275 = .ok (.iconst 3, 1) := by decide +kernel
theorem dL_isRefused_276 : decode cL_isRefused 276 = .ok (.iconst 0, 1) := by decide +kernel
theorem dL_isRefused_277 : decode cL_isRefused 277 = .ok (.iload 6, 2) := by decide +kernel
theorem dL_isRefused_279 : decode cL_isRefused 279 = .ok (.iconst 0, 1) := by decide +kernel
theorem dL_isRefused_280 : decode cL_isRefused 280 = .ok (.iconst 0, 1) := by decide +kernel
theorem dL_isRefused_281 : decode cL_isRefused 281 = .ok (.iconst 5, 1) := by decide +kernel
theorem dL_isRefused_282 : decode cL_isRefused 282 = .ok (.invokestatic 137, 3) := by decide +kernel
theorem dL_isRefused_285 : decode cL_isRefused 285 = .ok (.ldc 120, 2) := by decide +kernel
theorem dL_isRefused_287 : decode cL_isRefused 287 = .ok (.if_icmp .ne 445, 3) := by decide +kernel
theorem dL_isRefused_290 : decode cL_isRefused 290 = .ok (.aload_n 0, 1) := by decide +kernel
theorem dL_isRefused_291 : decode cL_isRefused 291 = .ok (.iconst 4, 1) := by decide +kernel
theorem dL_isRefused_292 : decode cL_isRefused 292 = .ok (.iload 7, 2) := by decide +kernel
theorem dL_isRefused_294 : decode cL_isRefused 294 = .ok (.iconst 0, 1) := by decide +kernel
theorem dL_isRefused_295 : decode cL_isRefused 295 = .ok (.iconst 0, 1) := by decide +kernel
theorem dL_isRefused_296 : decode cL_isRefused 296 = .ok (.bipush 9, 2) := by decide +kernel
theorem dL_isRefused_298 : decode cL_isRefused 298 = .ok (.iconst 0, 1) := by decide +kernel
theorem dL_isRefused_299 : decode cL_isRefused 299 = .ok (.invokestatic 137, 3) := by decide +kernel
theorem dL_isRefused_302 : decode cL_isRefused 302 = .ok (.ldc 120, 2) := by decide +kernel
theorem dL_isRefused_304 : decode cL_isRefused 304 = .ok (.if_icmp .ne 428, 3) := by decide +kernel
theorem dL_isRefused_307 : decode cL_isRefused 307 = .ok (.aload_n 0, 1) := by decide +kernel
theorem dL_isRefused_308 : decode cL_isRefused 308 = .ok (.iconst 5, 1) := by decide +kernel
theorem dL_isRefused_309 : decode cL_isRefused 309 = .ok (.iload 7, 2) := by decide +kernel
theorem dL_isRefused_311 : decode cL_isRefused 311 = .ok (.iconst 0, 1) := by decide +kernel
theorem dL_isRefused_312 : decode cL_isRefused 312 = .ok (.iconst 0, 1) := by decide +kernel
theorem dL_isRefused_313 : decode cL_isRefused 313 = .ok (.invokestatic 151, 3) := by decide +kernel
theorem dL_isRefused_316 : decode cL_isRefused 316 = .ok (.ifCond .eq 416, 3) := by decide +kernel
theorem dL_isRefused_319 : decode cL_isRefused 319 = .ok (.aload_n 0, 1) := by decide +kernel
theorem dL_isRefused_320 : decode cL_isRefused 320 = .ok (.bipush 6, 2) := by decide +kernel
theorem dL_isRefused_322 : decode cL_isRefused 322 = .ok (.iload 7, 2) := by decide +kernel
theorem dL_isRefused_324 : decode cL_isRefused 324 = .ok (.iconst 0, 1) := by decide +kernel
theorem dL_isRefused_325 : decode cL_isRefused 325 = .ok (.iconst 0, 1) := by decide +kernel
theorem dL_isRefused_326 : decode cL_isRefused 326 = .ok (.invokestatic 151, 3) := by decide +kernel
theorem dL_isRefused_329 : decode cL_isRefused 329 = .ok (.ifCond .eq 403, 3) := by decide +kernel
theorem dL_isRefused_332 : decode cL_isRefused 332 = .ok (.aload_n 0, 1) := by decide +kernel
theorem dL_isRefused_333 : decode cL_isRefused 333 = .ok (.bipush 7, 2) := by decide +kernel
theorem dL_isRefused_335 : decode cL_isRefused 335 = .ok (.iload 6, 2) := by decide +kernel
theorem dL_isRefused_337 : decode cL_isRefused 337 = .ok (.iconst 0, 1) := by decide +kernel
theorem dL_isRefused_338 : decode cL_isRefused 338 = .ok (.iconst 0, 1) := by decide +kernel
theorem dL_isRefused_339 : decode cL_isRefused 339 = .ok (.invokestatic 151, 3) := by decide +kernel
theorem dL_isRefused_342 : decode cL_isRefused 342 = .ok (.ifCond .eq 390, 3) := by decide +kernel
theorem dL_isRefused_345 : decode cL_isRefused 345 = .ok (.aload_n 0, 1) := by decide +kernel
theorem dL_isRefused_346 : decode cL_isRefused 346 = .ok (.bipush 8, 2) := by decide +kernel
theorem dL_isRefused_348 : decode cL_isRefused 348 = .ok (.iload 8, 2) := by decide +kernel
theorem dL_isRefused_350 : decode cL_isRefused 350 = .ok (.bipush 9, 2) := by decide +kernel
theorem dL_isRefused_352 : decode cL_isRefused 352 = .ok (.iconst 0, 1) := by decide +kernel
theorem dL_isRefused_353 : decode cL_isRefused 353 = .ok (.invokestatic 151, 3) := by decide +kernel
theorem dL_isRefused_356 : decode cL_isRefused 356 = .ok (.ifCond .eq 376, 3) := by decide +kernel
theorem dL_isRefused_359 : decode cL_isRefused 359 = .ok (.aload_n 0, 1) := by decide +kernel
theorem dL_isRefused_360 : decode cL_isRefused 360 = .ok (.bipush 9, 2) := by decide +kernel
theorem dL_isRefused_362 : decode cL_isRefused 362 = .ok (.iload 8, 2) := by decide +kernel
theorem dL_isRefused_364 : decode cL_isRefused 364 = .ok (.iconst 0, 1) := by decide +kernel
theorem dL_isRefused_365 : decode cL_isRefused 365 = .ok (.iconst 0, 1) := by decide +kernel
theorem dL_isRefused_366 : decode cL_isRefused 366 = .ok (.invokestatic 151, 3) := by decide +kernel
theorem dL_isRefused_369 : decode cL_isRefused 369 = .ok (.ifCond .eq 363, 3) := by decide +kernel
theorem dL_isRefused_372 : decode cL_isRefused 372 = .ok (.aload_n 0, 1) := by decide +kernel
theorem dL_isRefused_373 : decode cL_isRefused 373 = .ok (.bipush 10, 2) := by decide +kernel
theorem dL_isRefused_375 : decode cL_isRefused 375 = .ok (.iload 8, 2) := by decide +kernel
theorem dL_isRefused_377 : decode cL_isRefused 377 = .ok (.bipush 9, 2) := by decide +kernel
theorem dL_isRefused_379 : decode cL_isRefused 379 = .ok (.iconst 0, 1) := by decide +kernel
theorem dL_isRefused_380 : decode cL_isRefused 380 = .ok (.invokestatic 151, 3) := by decide +kernel
theorem dL_isRefused_383 : decode cL_isRefused 383 = .ok (.ifCond .eq 349, 3) := by decide +kernel
theorem dL_isRefused_386 : decode cL_isRefused 386 = .ok (.aload_n 0, 1) := by decide +kernel
theorem dL_isRefused_387 : decode cL_isRefused 387 = .ok (.bipush 11, 2) := by decide +kernel
theorem dL_isRefused_389 : decode cL_isRefused 389 = .ok (.iload 8, 2) := by decide +kernel
theorem dL_isRefused_391 : decode cL_isRefused 391 = .ok (.iconst 0, 1) := by decide +kernel
theorem dL_isRefused_392 : decode cL_isRefused 392 = .ok (.iconst 0, 1) := by decide +kernel
theorem dL_isRefused_393 : decode cL_isRefused 393 = .ok (.invokestatic 151, 3) := by decide +kernel
theorem dL_isRefused_396 : decode cL_isRefused 396 = .ok (.ifCond .eq 336, 3) := by decide +kernel
theorem dL_isRefused_399 : decode cL_isRefused 399 = .ok (.aload_n 0, 1) := by decide +kernel
theorem dL_isRefused_400 : decode cL_isRefused 400 = .ok (.bipush 12, 2) := by decide +kernel
theorem dL_isRefused_402 : decode cL_isRefused 402 = .ok (.iload 8, 2) := by decide +kernel
theorem dL_isRefused_404 : decode cL_isRefused 404 = .ok (.iload 8, 2) := by decide +kernel
theorem dL_isRefused_406 : decode cL_isRefused 406 = .ok (.iconst 0, 1) := by decide +kernel
theorem dL_isRefused_407 : decode cL_isRefused 407 = .ok (.invokestatic 151, 3) := by decide +kernel
theorem dL_isRefused_410 : decode cL_isRefused 410 = .ok (.ifCond .eq 322, 3) := by decide +kernel
theorem dL_isRefused_413 : decode cL_isRefused 413 = .ok (.aload_n 0, 1) := by decide +kernel
theorem dL_isRefused_414 : decode cL_isRefused 414 = .ok (.bipush 13, 2) := by decide +kernel
theorem dL_isRefused_416 : decode cL_isRefused 416 = .ok (.iload 8, 2) := by decide +kernel
theorem dL_isRefused_418 : decode cL_isRefused 418 = .ok (.iconst 0, 1) := by decide +kernel
theorem dL_isRefused_419 : decode cL_isRefused 419 = .ok (.iconst 0, 1) := by decide +kernel
theorem dL_isRefused_420 : decode cL_isRefused 420 = .ok (.invokestatic 151, 3) := by decide +kernel
theorem dL_isRefused_423 : decode cL_isRefused 423 = .ok (.ifCond .eq 309, 3) := by decide +kernel
theorem dL_isRefused_426 : decode cL_isRefused 426 = .ok (.aload_n 0, 1) := by decide +kernel
theorem dL_isRefused_427 : decode cL_isRefused 427 = .ok (.bipush 14, 2) := by decide +kernel
theorem dL_isRefused_429 : decode cL_isRefused 429 = .ok (.iload 8, 2) := by decide +kernel
theorem dL_isRefused_431 : decode cL_isRefused 431 = .ok (.iconst 0, 1) := by decide +kernel
theorem dL_isRefused_432 : decode cL_isRefused 432 = .ok (.iconst 0, 1) := by decide +kernel
theorem dL_isRefused_433 : decode cL_isRefused 433 = .ok (.invokestatic 151, 3) := by decide +kernel
theorem dL_isRefused_436 : decode cL_isRefused 436 = .ok (.ifCond .eq 296, 3) := by decide +kernel
theorem dL_isRefused_439 : decode cL_isRefused 439 = .ok (.aload_n 0, 1) := by decide +kernel
theorem dL_isRefused_440 : decode cL_isRefused 440 = .ok (.bipush 15, 2) := by decide +kernel
theorem dL_isRefused_442 : decode cL_isRefused 442 = .ok (.iload 8, 2) := by decide +kernel
theorem dL_isRefused_444 : decode cL_isRefused 444 = .ok (.iconst 0, 1) := by decide +kernel
theorem dL_isRefused_445 : decode cL_isRefused 445 = .ok (.sipush 999, 3) := by decide +kernel
theorem dL_isRefused_448 : decode cL_isRefused 448 = .ok (.invokestatic 151, 3) := by decide +kernel
theorem dL_isRefused_451 : decode cL_isRefused 451 = .ok (.ifCond .eq 281, 3) := by decide +kernel
theorem dL_isRefused_454 : decode cL_isRefused 454 = .ok (.aload_n 0, 1) := by decide +kernel
theorem dL_isRefused_455 : decode cL_isRefused 455 = .ok (.bipush 16, 2) := by decide +kernel
theorem dL_isRefused_457 : decode cL_isRefused 457 = .ok (.iload 8, 2) := by decide +kernel
theorem dL_isRefused_459 : decode cL_isRefused 459 = .ok (.iconst 0, 1) := by decide +kernel
theorem dL_isRefused_460 : decode cL_isRefused 460 = .ok (.iconst 0, 1) := by decide +kernel
theorem dL_isRefused_461 : decode cL_isRefused 461 = .ok (.invokestatic 151, 3) := by decide +kernel
theorem dL_isRefused_464 : decode cL_isRefused 464 = .ok (.ifCond .eq 268, 3) := by decide +kernel
theorem dL_isRefused_467 : decode cL_isRefused 467 = .ok (.aload_n 0, 1) := by decide +kernel
theorem dL_isRefused_468 : decode cL_isRefused 468 = .ok (.bipush 17, 2) := by decide +kernel
theorem dL_isRefused_470 : decode cL_isRefused 470 = .ok (.iload 8, 2) := by decide +kernel
theorem dL_isRefused_472 : decode cL_isRefused 472 = .ok (.iconst 0, 1) := by decide +kernel
theorem dL_isRefused_473 : decode cL_isRefused 473 = .ok (.iconst 0, 1) := by decide +kernel
theorem dL_isRefused_474 : decode cL_isRefused 474 = .ok (.invokestatic 151, 3) := by decide +kernel
theorem dL_isRefused_477 : decode cL_isRefused 477 = .ok (.ifCond .eq 255, 3) := by decide +kernel
theorem dL_isRefused_480 : decode cL_isRefused 480 = .ok (.aload_n 0, 1) := by decide +kernel
