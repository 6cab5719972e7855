theorem dX9_ask_158 : decode cX9_ask 158 = .ok (.aload_n 0, 1) := by decide +kernel
theorem dX9_ask_159 : decode cX9_ask 159 = .ok (.getfield 74, 3) := by decide +kernel
theorem dX9_ask_162 : decode cX9_ask 162 = .ok (.aload_n 0, 1) := by decide +kernel
theorem dX9_ask_163 : decode cX9_ask 163 = .ok (.getfield 162, 3) := by decide +kernel
theorem dX9_ask_166 : decode cX9_ask 166 = .ok (.iload_n 2, 1) := by decide +kernel
theorem dX9_ask_167 : decode cX9_ask 167 = .ok (.iastore, 1) := by decide +kernel
theorem dX9_ask_168 : decode cX9_ask 168 = .ok (.aload_n 0, 1) := by decide +kernel
theorem dX9_ask_169 : decode cX9_ask 169 = .ok (.getfield 77, 3) := by decide +kernel
theorem dX9_ask_172 : decode cX9_ask 172 = .ok (.aload_n 0, 1) := by decide +kernel
theorem dX9_ask_173 : decode cX9_ask 173 = .ok (.getfield 162, 3) := by decide +kernel
theorem dX9_ask_176 : decode cX9_ask 176 = .ok (.iload_n 3, 1) := by decide +kernel
theorem dX9_ask_177 : decode cX9_ask 177 = .ok (.iastore, 1) := by decide +kernel
theorem dX9_ask_178 : decode cX9_ask 178 = .ok (.aload_n 0, 1) := by decide +kernel
theorem dX9_ask_179 : decode cX9_ask 179 = .ok (.getfield 80, 3) := by decide +kernel
theorem dX9_ask_182 : decode cX9_ask 182 = .ok (.aload_n 0, 1) := by decide +kernel
theorem dX9_ask_183 : decode cX9_ask 183 = .ok (.getfield 162, 3) := by decide +kernel
theorem dX9_ask_186 : decode cX9_ask 186 = .ok (.iload 4, 2) := by decide +kernel
theorem dX9_ask_188 : decode cX9_ask 188 = .ok (.iastore, 1) := by decide +kernel
theorem dX9_ask_189 : decode cX9_ask 189 = .ok (.aload_n 0, 1) := by decide +kernel
theorem dX9_ask_190 : decode cX9_ask 190 = .ok (.getfield 83, 3) := by decide +kernel
theorem dX9_ask_193 : decode cX9_ask 193 = .ok (.aload_n 0, 1) := by decide +kernel
theorem dX9_ask_194 : decode cX9_ask 194 = .ok (.getfield 162, 3) := by decide +kernel
theorem dX9_ask_197 : decode cX9_ask 197 = .ok (.iload 5, 2) := by decide +kernel
theorem dX9_ask_199 : decode cX9_ask 199 = .ok (.iastore, 1) := by decide +kernel
theorem dX9_ask_200 : decode cX9_ask 200 = .ok (.aload_n 0, 1) := by decide +kernel
theorem dX9_ask_201 : decode cX9_ask 201 = .ok (.getfield 86, 3) := by decide +kernel
theorem dX9_ask_204 : decode cX9_ask 204 = .ok (.aload_n 0, 1) := by decide +kernel
theorem dX9_ask_205 : decode cX9_ask 205 = .ok (.getfield 162, 3) := by decide +kernel
theorem dX9_ask_208 : decode cX9_ask 208 = .ok (.iload 6, 2) := by decide +kernel
theorem dX9_ask_210 : decode cX9_ask 210 = .ok (.iastore, 1) := by decide +kernel
theorem dX9_ask_211 : decode cX9_ask 211 = .ok (.aload_n 0, 1) := by decide +kernel
theorem dX9_ask_212 : decode cX9_ask 212 = .ok (.getfield 89, 3) := by decide +kernel
theorem dX9_ask_215 : decode cX9_ask 215 = .ok (.aload_n 0, 1) := by decide +kernel
theorem dX9_ask_216 : decode cX9_ask 216 = .ok (.getfield 162, 3) := by decide +kernel
theorem dX9_ask_219 : decode cX9_ask 219 = .ok (.iload 7, 2) := by decide +kernel
theorem dX9_ask_221 : decode cX9_ask 221 = .ok (.iastore, 1) := by decide +kernel
theorem dX9_ask_222 : decode cX9_ask 222 = .ok (.aload_n 0, 1) := by decide +kernel
theorem dX9_ask_223 : decode cX9_ask 223 = .ok (.getfield 92, 3) := by decide +kernel
theorem dX9_ask_226 : decode cX9_ask 226 = .ok (.aload_n 0, 1) := by decide +kernel
theorem dX9_ask_227 : decode cX9_ask 227 = .ok (.getfield 162, 3) := by decide +kernel
theorem dX9_ask_230 : decode cX9_ask 230 = .ok (.iload 8, 2) := by decide +kernel
theorem dX9_ask_232 : decode cX9_ask 232 = .ok (.iastore, 1) := by decide +kernel
theorem dX9_ask_233 : decode cX9_ask 233 = .ok (.aload_n 0, 1) := by decide +kernel
theorem dX9_ask_234 : decode cX9_ask 234 = .ok (.getfield 95, 3) := by decide +kernel
theorem dX9_ask_237 : decode cX9_ask 237 = .ok (.aload_n 0, 1) := by decide +kernel
theorem dX9_ask_238 : decode cX9_ask 238 = .ok (.getfield 162, 3) := by decide +kernel
theorem dX9_ask_241 : decode cX9_ask 241 = .ok (.aload_n 0, 1) := by decide +kernel
theorem dX9_ask_242 : decode cX9_ask 242 = .ok (.invokevirtual 175, 3) := by decide +kernel
theorem dX9_ask_245 : decode cX9_ask 245 = .ok (.iastore, 1) := by decide +kernel
theorem dX9_ask_246 : decode cX9_ask 246 = .ok (.aload_n 0, 1) := by decide +kernel
theorem dX9_ask_247 : decode cX9_ask 247 = .ok (.getfield 98, 3) := by decide +kernel
theorem dX9_ask_250 : decode cX9_ask 250 = .ok (.aload_n 0, 1) := by decide +kernel
theorem dX9_ask_251 : decode cX9_ask 251 = .ok (.getfield 162, 3) := by decide +kernel
theorem dX9_ask_254 : decode cX9_ask 254 = .ok (.iload 6, 2) := by decide +kernel
theorem dX9_ask_256 : decode cX9_ask 256 = .ok (.iconst 3, 1) := by decide +kernel
theorem dX9_ask_257 : decode cX9_ask 257 = .ok (.if_icmp .ne 7, 3) := by decide +kernel
theorem dX9_ask_260 : decode cX9_ask 260 = .ok (.iconst 1, 1) := by decide +kernel
theorem dX9_ask_261 : decode cX9_ask 261 = .ok (.goto 4, 3) := by decide +kernel
theorem dX9_ask_264 : decode cX9_ask 264 = .ok (.iconst 0, 1) := by decide +kernel
theorem dX9_ask_265 : decode cX9_ask 265 = .ok (.iastore, 1) := by decide +kernel
theorem dX9_ask_266 : decode cX9_ask 266 = .ok (.aload_n 0, 1) := by decide +kernel
theorem dX9_ask_267 : decode cX9_ask 267 = .ok (.dup, 1) := by decide +kernel
theorem dX9_ask_268 : decode cX9_ask 268 = .ok (.getfield 162, 3) := by decide +kernel
theorem dX9_ask_271 : decode cX9_ask 271 = .ok (.iconst 1, 1) := by decide +kernel
theorem dX9_ask_272 : decode cX9_ask 272 = .ok (.iadd, 1) := by decide +kernel
theorem dX9_ask_273 : decode cX9_ask 273 = .ok (.putfield 162, 3) := by decide +kernel
theorem dX9_ask_276 : decode cX9_ask 276 = .ok (.aload_n 0, 1) := by decide +kernel
theorem dX9_ask_277 : decode cX9_ask 277 = .ok (.getfield 162, 3) := by decide +kernel
theorem dX9_ask_280 : decode cX9_ask 280 = .ok (.iconst 1, 1) := by decide +kernel
theorem dX9_ask_281 : decode cX9_ask 281 = .ok (.isub, 1) := by decide +kernel
theorem dX9_ask_282 : decode cX9_ask 282 = .ok (.ireturn, 1) := by decide +kernel
theorem dX9_grants_0 : decode cX9_grants 0 = .ok (.iconst 4, 1) := by decide +kernel
theorem dX9_grants_1 : decode cX9_grants 1 = .ok (.aload_n 0, 1) := by decide +kernel
theorem dX9_grants_2 : decode cX9_grants 2 = .ok (.getfield 13, 3) := by decide +kernel
theorem dX9_grants_5 : decode cX9_grants 5 = .ok (.aload_n 0, 1) := by decide +kernel
theorem dX9_grants_6 : decode cX9_grants 6 = .ok (.getfield 74, 3) := by decide +kernel
theorem dX9_grants_9 : decode cX9_grants 9 = .ok (.iload_n 1, 1) := by decide +kernel
theorem dX9_grants_10 : decode cX9_grants 10 = .ok (.iaload, 1) := by decide +kernel
theorem dX9_grants_11 : decode cX9_grants 11 = .ok (.iaload, 1) := by decide +kernel
theorem dX9_grants_12 : decode cX9_grants 12 = .ok (.isub, 1) := by decide +kernel
theorem dX9_grants_13 : decode cX9_grants 13 = .ok (.istore_n 3, 1) := by decide +kernel
theorem dX9_grants_14 : decode cX9_grants 14 = .ok (.aload_n 0, 1) := by decide +kernel
theorem dX9_grants_15 : decode cX9_grants 15 = .ok (.getfield 86, 3) := by decide +kernel
theorem dX9_grants_18 : decode cX9_grants 18 = .ok (.iload_n 1, 1) := by decide +kernel
theorem dX9_grants_19 : decode cX9_grants 19 = .ok (.iaload, 1) := by decide +kernel
theorem dX9_grants_20 : decode cX9_grants 20 = .ok (.ifCond .ne 8, 3) := by decide +kernel
theorem dX9_grants_23 : decode cX9_grants 23 = .ok (.bipush 60, 2) := by decide +kernel
theorem dX9_grants_25 : decode cX9_grants 25 = .ok (.goto 34, 3) := by decide +kernel
theorem dX9_grants_28 : decode cX9_grants 28 = .ok (.aload_n 0, 1) := by decide +kernel
theorem dX9_grants_29 : decode cX9_grants 29 = .ok (.getfield 86, 3) := by decide +kernel
theorem dX9_grants_32 : decode cX9_grants 32 = .ok (.iload_n 1, 1) := by decide +kernel
theorem dX9_grants_33 : decode cX9_grants 33 = .ok (.iaload, 1) := by decide +kernel
theorem dX9_grants_34 : decode cX9_grants 34 = .ok (.iconst 1, 1) := by decide +kernel
theorem dX9_grants_35 : decode cX9_grants 35 = .ok (.if_icmp .ne 8, 3) := by decide +kernel
theorem dX9_grants_38 : decode cX9_grants 38 = .ok (.bipush 40, 2) := by decide +kernel
theorem dX9_grants_40 : decode cX9_grants 40 = .ok (.goto 19, 3) := by decide +kernel
theorem dX9_grants_43 : decode cX9_grants 43 = .ok (.aload_n 0, 1) := by decide +kernel
theorem dX9_grants_44 : decode cX9_grants 44 = .ok (.getfield 86, 3) := by decide +kernel
theorem dX9_grants_47 : decode cX9_grants 47 = .ok (.iload_n 1, 1) := by decide +kernel
theorem dX9_grants_48 : decode cX9_grants 48 = .ok (.iaload, 1) := by decide +kernel
theorem dX9_grants_49 : decode cX9_grants 49 = .ok (.iconst 2, 1) := by decide +kernel
theorem dX9_grants_50 : decode cX9_grants 50 = .ok (.if_icmp .ne 8, 3) := by decide +kernel
theorem dX9_grants_53 : decode cX9_grants 53 = .ok (.bipush 20, 2) := by decide +kernel
theorem dX9_grants_55 : decode cX9_grants 55 = .ok (.goto 4, 3) := by decide +kernel
theorem dX9_grants_58 : decode cX9_grants 58 = .ok (.iconst 0, 1) := by decide +kernel
theorem dX9_grants_59 : decode cX9_grants 59 = .ok (.iload_n 3, 1) := by decide +kernel
theorem dX9_grants_60 : decode cX9_grants 60 = .ok (.imul, 1) := by decide +kernel
theorem dX9_grants_61 : decode cX9_grants 61 = .ok (.istore 4, 2) := by decide +kernel
theorem dX9_grants_63 : decode cX9_grants 63 = .ok (.aload_n 0, 1) := by decide +kernel
theorem dX9_grants_64 : decode cX9_grants 64 = .ok (.getfield 98, 3) := by decide +kernel
theorem dX9_grants_67 : decode cX9_grants 67 = .ok (.iload_n 1, 1) := by decide +kernel
theorem dX9_grants_68 : decode cX9_grants 68 = .ok (.iconst 1, 1) := by decide +kernel
theorem dX9_grants_69 : decode cX9_grants 69 = .ok (.iastore, 1) := by decide +kernel
theorem dX9_grants_70 : decode cX9_grants 70 = .ok (.aload_n 0, 1) := by decide +kernel
theorem dX9_grants_71 : decode cX9_grants 71 = .ok (.getfield 101, 3) := by decide +kernel
theorem dX9_grants_74 : decode cX9_grants 74 = .ok (.iload_n 1, 1) := by decide +kernel
theorem dX9_grants_75 : decode cX9_grants 75 = .ok (.iload_n 2, 1) := by decide +kernel
theorem dX9_grants_76 : decode cX9_grants 76 = .ok (.iastore, 1) := by decide +kernel
theorem dX9_grants_77 : decode cX9_grants 77 = .ok (.aload_n 0, 1) := by decide +kernel
theorem dX9_grants_78 : decode cX9_grants 78 = .ok (.aload_n 0, 1) := by decide +kernel
theorem dX9_grants_79 : decode cX9_grants 79 = .ok (.getfield 71, 3) := by decide +kernel
theorem dX9_grants_82 : decode cX9_grants 82 = .ok (.iload_n 1, 1) := by decide +kernel
theorem dX9_grants_83 : decode cX9_grants 83 = .ok (.iaload, 1) := by decide +kernel
theorem dX9_grants_84 : decode cX9_grants 84 = .ok (.iconst 5, 1) := by decide +kernel
theorem dX9_grants_85 : decode cX9_grants 85 = .ok (.iload 4, 2) := by decide +kernel
theorem dX9_grants_87 : decode cX9_grants 87 = .ok (.invokevirtual 230, 3) := by decide +kernel
theorem dX9_grants_90 : decode cX9_grants 90 = .ok (.iload 4, 2) := by decide +kernel
theorem dX9_grants_92 : decode cX9_grants 92 = .ok (.ireturn, 1) := by decide +kernel
theorem dX9_grant_0 : decode cX9_grant 0 = .ok (.aload_n 0, 1) := by decide +kernel
theorem dX9_grant_1 : decode cX9_grant 1 = .ok (.iload_n 1, 1) := by decide +kernel
theorem dX9_grant_2 : decode cX9_grant 2 = .ok (.invokevirtual 234, 3) := by decide +kernel
theorem dX9_grant_5 : decode cX9_grant 5 = .ok (.istore_n 3, 1) := by decide +kernel
theorem dX9_grant_6 : decode cX9_grant 6 = .ok (.aload_n 0, 1) := by decide +kernel
theorem dX9_grant_7 : decode cX9_grant 7 = .ok (.iload_n 3, 1) := by decide +kernel
theorem dX9_grant_8 : decode cX9_grant 8 = .ok (.ifCond .ne 7, 3) := by decide +kernel
theorem dX9_grant_11 : decode cX9_grant 11 = .ok (.iconst 1, 1) := by decide +kernel
theorem dX9_grant_12 : decode cX9_grant 12 = .ok (.goto 38, 3) := by decide +kernel
theorem dX9_grant_15 : decode cX9_grant 15 = .ok (.iload_n 2, 1) := by decide +kernel
theorem dX9_grant_16 : decode cX9_grant 16 = .ok (.iconst 0, 1) := by decide +kernel
theorem dX9_grant_17 : decode cX9_grant 17 = .ok (.iconst 3, 1) := by decide +kernel
theorem dX9_grant_18 : decode cX9_grant 18 = .ok (.invokestatic 151, 3) := by decide +kernel
theorem dX9_grant_21 : decode cX9_grant 21 = .ok (.ifCond .ne 7, 3) := by decide +kernel
theorem dX9_grant_24 : decode cX9_grant 24 = .ok (.iconst 2, 1) := by decide +kernel
theorem dX9_grant_25 : decode cX9_grant 25 = .ok (.goto 25, 3) := by decide +kernel
theorem dX9_grant_28 : decode cX9_grant 28 = .ok (.aload_n 0, 1) := by decide +kernel
theorem dX9_grant_29 : decode cX9_grant 29 = .ok (.getfield 98, 3) := by decide +kernel
theorem dX9_grant_32 : decode cX9_grant 32 = .ok (.iload_n 1, 1) := by decide +kernel
theorem dX9_grant_33 : decode cX9_grant 33 = .ok (.iaload, 1) := by decide +kernel
theorem dX9_grant_34 : decode cX9_grant 34 = .ok (.ifCond .ne 11, 3) := by decide +kernel
theorem dX9_grant_37 : decode cX9_grant 37 = .ok (.aload_n 0, 1) := by decide +kernel
theorem dX9_grant_38 : decode cX9_grant 38 = .ok (.iload_n 1, 1) := by decide +kernel
theorem dX9_grant_39 : decode cX9_grant 39 = .ok (.invokevirtual 237, 3) := by decide +kernel
theorem dX9_grant_42 : decode cX9_grant 42 = .ok (.ifCond .le 7, 3) := by decide +kernel
theorem dX9_grant_45 : decode cX9_grant 45 = .ok (.iconst 3, 1) := by decide +kernel
theorem dX9_grant_46 : decode cX9_grant 46 = .ok (.goto 4, 3) := by decide +kernel
theorem dX9_grant_49 : decode cX9_grant 49 = .ok (.iconst 0, 1) := by decide +kernel
theorem dX9_grant_50 : decode cX9_grant 50 = .ok (.invokevirtual 168, 3) := by decide +kernel
theorem dX9_grant_53 : decode cX9_grant 53 = .ok (.ifCond .ne 5, 3) := by decide +kernel
theorem dX9_grant_56 : decode cX9_grant 56 = .ok (.iconst 0, 1) := by decide +kernel
theorem dX9_grant_57 : decode cX9_grant 57 = .ok (.ireturn, 1) := by decide +kernel
theorem dX9_grant_58 : decode cX9_grant 58 = .ok (.aload_n 0, 1) := by decide +kernel
theorem dX9_grant_59 : decode cX9_grant 59 = .ok (.iload_n 1, 1) := by decide +kernel
theorem dX9_grant_60 : decode cX9_grant 60 = .ok (.iload_n 2, 1) := by decide +kernel
theorem dX9_grant_61 : decode cX9_grant 61 = .ok (.invokevirtual 240, 3) := by decide +kernel
theorem dX9_grant_64 : decode cX9_grant 64 = .ok (.ireturn, 1) := by decide +kernel
theorem dX9_refuse_0 : decode cX9_refuse 0 = .ok (.aload_n 0, 1) := by decide +kernel
theorem dX9_refuse_1 : decode cX9_refuse 1 = .ok (.iload_n 1, 1) := by decide +kernel
theorem dX9_refuse_2 : decode cX9_refuse 2 = .ok (.invokevirtual 234, 3) := by decide +kernel
theorem dX9_refuse_5 : decode cX9_refuse 5 = .ok (.istore_n 2, 1) := by decide +kernel
theorem dX9_refuse_6 : decode cX9_refuse 6 = .ok (.aload_n 0, 1) := by decide +kernel
theorem dX9_refuse_7 : decode cX9_refuse 7 = .ok (.iload_n 2, 1) := by decide +kernel
theorem dX9_refuse_8 : decode cX9_refuse 8 = .ok (.ifCond .ne 7, 3) := by decide +kernel
theorem dX9_refuse_11 : decode cX9_refuse 11 = .ok (.iconst 1, 1) := by decide +kernel
theorem dX9_refuse_12 : decode cX9_refuse 12 = .ok (.goto 27, 3) := by decide +kernel
theorem dX9_refuse_15 : decode cX9_refuse 15 = .ok (.aload_n 0, 1) := by decide +kernel
theorem dX9_refuse_16 : decode cX9_refuse 16 = .ok (.getfield 98, 3) := by decide +kernel
theorem dX9_refuse_19 : decode cX9_refuse 19 = .ok (.iload_n 1, 1) := by decide +kernel
theorem dX9_refuse_20 : decode cX9_refuse 20 = .ok (.iaload, 1) := by decide +kernel
theorem dX9_refuse_21 : decode cX9_refuse 21 = .ok (.ifCond .eq 17, 3) := by decide +kernel
theorem dX9_refuse_24 : decode cX9_refuse 24 = .ok (.aload_n 0, 1) := by decide +kernel
theorem dX9_refuse_25 : decode cX9_refuse 25 = .ok (.getfield 98, 3) := by decide +kernel
theorem dX9_refuse_28 : decode cX9_refuse 28 = .ok (.iload_n 1, 1) := by decide +kernel
theorem dX9_refuse_29 : decode cX9_refuse 29 = .ok (.iaload, 1) := by decide +kernel
theorem dX9_refuse_30 : decode cX9_refuse 30 = .ok (.iconst 1, 1) := by decide +kernel
theorem dX9_refuse_31 : decode cX9_refuse 31 = .ok (.if_icmp .eq 7, 3) := by decide +kernel
theorem dX9_refuse_34 : decode cX9_refuse 34 = .ok (.iconst 2, 1) := by decide +kernel
theorem dX9_refuse_35 : decode cX9_refuse 35 = .ok (.goto 4, 3) := by decide +kernel
theorem dX9_refuse_38 : decode cX9_refuse 38 = .ok (.iconst 0, 1) := by decide +kernel
theorem dX9_refuse_39 : decode cX9_refuse 39 = .ok (.invokevirtual 168, 3) := by decide +kernel
theorem dX9_refuse_42 : decode cX9_refuse 42 = .ok (.ifCond .ne 5, 3) := by decide +kernel
theorem dX9_refuse_45 : decode cX9_refuse 45 = .ok (.iconst 0, 1) := by decide +kernel
theorem dX9_refuse_46 : decode cX9_refuse 46 = .ok (.ireturn, 1) := by decide +kernel
theorem dX9_refuse_47 : decode cX9_refuse 47 = .ok (.aload_n 0, 1) := by decide +kernel
theorem dX9_refuse_48 : decode cX9_refuse 48 = .ok (.getfield 98, 3) := by decide +kernel
theorem dX9_refuse_51 : decode cX9_refuse 51 = .ok (.iload_n 1, 1) := by decide +kernel
theorem dX9_refuse_52 : decode cX9_refuse 52 = .ok (.iaload, 1) := by decide +kernel
theorem dX9_refuse_53 : decode cX9_refuse 53 = .ok (.istore_n 3, 1) := by decide +kernel
theorem dX9_refuse_54 : decode cX9_refuse 54 = .ok (.aload_n 0, 1) := by decide +kernel
theorem dX9_refuse_55 : decode cX9_refuse 55 = .ok (.getfield 98, 3) := by decide +kernel
theorem dX9_refuse_58 : decode cX9_refuse 58 = .ok (.iload_n 1, 1) := by decide +kernel
theorem dX9_refuse_59 : decode cX9_refuse 59 = .ok (.iconst 2, 1) := by decide +kernel
theorem dX9_refuse_60 : decode cX9_refuse 60 = .ok (.iastore, 1) := by decide +kernel
theorem dX9_refuse_61 : decode cX9_refuse 61 = .ok (.iload_n 3, 1) := by decide +kernel
theorem dX9_refuse_62 : decode cX9_refuse 62 = .ok (.ireturn, 1) := by decide +kernel
theorem dX9_vary_0 : decode cX9_vary 0 = .ok (.aload_n 0, 1) := by decide +kernel
theorem dX9_vary_1 : decode cX9_vary 1 = .ok (.iload_n 1, 1) := by decide +kernel
theorem dX9_vary_2 : decode cX9_vary 2 = .ok (.invokevirtual 234, 3) := by decide +kernel
theorem dX9_vary_5 : decode cX9_vary 5 = .ok (.istore_n 3, 1) := by decide +kernel
theorem dX9_vary_6 : decode cX9_vary 6 = .ok (.aload_n 0, 1) := by decide +kernel
theorem dX9_vary_7 : decode cX9_vary 7 = .ok (.iload_n 3, 1) := by decide +kernel
theorem dX9_vary_8 : decode cX9_vary 8 = .ok (.ifCond .ne 7, 3) := by decide +kernel
theorem dX9_vary_11 : decode cX9_vary 11 = .ok (.iconst 1, 1) := by decide +kernel
theorem dX9_vary_12 : decode cX9_vary 12 = .ok (.goto 29, 3) := by decide +kernel
theorem dX9_vary_15 : decode cX9_vary 15 = .ok (.iload_n 2, 1) := by decide +kernel
theorem dX9_vary_16 : decode cX9_vary 16 = .ok (.iconst 0, 1) := by decide +kernel
theorem dX9_vary_17 : decode cX9_vary 17 = .ok (.iconst 3, 1) := by decide +kernel
theorem dX9_vary_18 : decode cX9_vary 18 = .ok (.invokestatic 151, 3) := by decide +kernel
theorem dX9_vary_21 : decode cX9_vary 21 = .ok (.ifCond .ne 7, 3) := by decide +kernel
theorem dX9_vary_24 : decode cX9_vary 24 = .ok (.iconst 2, 1) := by decide +kernel
theorem dX9_vary_25 : decode cX9_vary 25 = .ok (.goto 16, 3) := by decide +kernel
theorem dX9_vary_28 : decode cX9_vary 28 = .ok (.aload_n 0, 1) := by decide +kernel
theorem dX9_vary_29 : decode cX9_vary 29 = .ok (.iload_n 1, 1) := by decide +kernel
theorem dX9_vary_30 : decode cX9_vary 30 = .ok (.invokevirtual 214, 3) := by decide +kernel
theorem dX9_vary_33 : decode cX9_vary 33 = .ok (.ifCond .eq 7, 3) := by decide +kernel
theorem dX9_vary_36 : decode cX9_vary 36 = .ok (.iconst 0, 1) := by decide +kernel
theorem dX9_vary_37 : decode cX9_vary 37 = .ok (.goto 4, 3) := by decide +kernel
theorem dX9_vary_40 : decode cX9_vary 40 = .ok (.iconst 3, 1) := by decide +kernel
theorem dX9_vary_41 : decode cX9_vary 41 = .ok (.invokevirtual 168, 3) := by decide +kernel
theorem dX9_vary_44 : decode cX9_vary 44 = .ok (.ifCond .ne 5, 3) := by decide +kernel
theorem dX9_vary_47 : decode cX9_vary 47 = .ok (.iconst 0, 1) := by decide +kernel
theorem dX9_vary_48 : decode cX9_vary 48 = .ok (.ireturn, 1) := by decide +kernel
theorem dX9_vary_49 : decode cX9_vary 49 = .ok (.aload_n 0, 1) := by decide +kernel
theorem dX9_vary_50 : decode cX9_vary 50 = .ok (.getfield 101, 3) := by decide +kernel
theorem dX9_vary_53 : decode cX9_vary 53 = .ok (.iload_n 1, 1) := by decide +kernel
theorem dX9_vary_54 : decode cX9_vary 54 = .ok (.iload_n 2, 1) := by decide +kernel
theorem dX9_vary_55 : decode cX9_vary 55 = .ok (.iastore, 1) := by decide +kernel
theorem dX9_vary_56 : decode cX9_vary 56 = .ok (.aload_n 0, 1) := by decide +kernel
theorem dX9_vary_57 : decode cX9_vary 57 = .ok (.getfield 104, 3) := by decide +kernel
theorem dX9_vary_60 : decode cX9_vary 60 = .ok (.iload_n 1, 1) := by decide +kernel
theorem dX9_vary_61 : decode cX9_vary 61 = .ok (.dup2, 1) := by decide +kernel
theorem dX9_vary_62 : decode cX9_vary 62 = .ok (.iaload, 1) := by decide +kernel
theorem dX9_vary_63 : decode cX9_vary 63 = .ok (.iconst 1, 1) := by decide +kernel
theorem dX9_vary_64 : decode cX9_vary 64 = .ok (.iadd, 1) := by decide +kernel
theorem dX9_vary_65 : decode cX9_vary 65 = .ok (.iastore, 1) := by decide +kernel
theorem dX9_vary_66 : decode cX9_vary 66 = .ok (.aload_n 0, 1) := by decide +kernel
theorem dX9_vary_67 : decode cX9_vary 67 = .ok (.getfield 104, 3) := by decide +kernel
theorem dX9_vary_70 : decode cX9_vary 70 = .ok (.iload_n 1, 1) := by decide +kernel
theorem dX9_vary_71 : decode cX9_vary 71 = .ok (.iaload, 1) := by decide +kernel
theorem dX9_vary_72 : decode cX9_vary 72 = .ok (.ireturn, 1) := by decide +kernel
theorem dX9_exempt_0 : decode cX9_exempt 0 = .ok (.aload_n 0, 1) := by decide +kernel
theorem dX9_exempt_1 : decode cX9_exempt 1 = .ok (.aload_n 0, 1) := by decide +kernel
theorem dX9_exempt_2 : decode cX9_exempt 2 = .ok (.iload_n 1, 1) := by decide +kernel
theorem dX9_exempt_3 : decode cX9_exempt 3 = .ok (.invokevirtual 234, 3) := by decide +kernel
theorem dX9_exempt_6 : decode cX9_exempt 6 = .ok (.ifCond .eq 7, 3) := by decide +kernel
theorem dX9_exempt_9 : decode cX9_exempt 9 = .ok (.iconst 0, 1) := by decide +kernel
theorem dX9_exempt_10 : decode cX9_exempt 10 = .ok (.goto 4, 3) := by decide +kernel
theorem dX9_exempt_13 : decode cX9_exempt 13 = .ok (.iconst 1, 1) := by decide +kernel
theorem dX9_exempt_14 : decode cX9_exempt 14 = .ok (.invokevirtual 168, 3) := by decide +kernel
theorem dX9_exempt_17 : decode cX9_exempt 17 = .ok (.ifCond .ne 5, 3) := by decide +kernel
theorem dX9_exempt_20 : decode cX9_exempt 20 = .ok (.iconst 0, 1) := by decide +kernel
theorem dX9_exempt_21 : decode cX9_exempt 21 = .ok (.ireturn, 1) := by decide +kernel
theorem dX9_exempt_22 : decode cX9_exempt 22 = .ok (.aload_n 0, 1) := by decide +kernel
theorem dX9_exempt_23 : decode cX9_exempt 23 = .ok (.getfield 113, 3) := by decide +kernel
theorem dX9_exempt_26 : decode cX9_exempt 26 = .ok (.iload_n 1, 1) := by decide +kernel
theorem dX9_exempt_27 : decode cX9_exempt 27 = .ok (.aload_n 0, 1) := by decide +kernel
theorem dX9_exempt_28 : decode cX9_exempt 28 = .ok (.getfield 113, 3) := by decide +kernel
theorem dX9_exempt_31 : decode cX9_exempt 31 = .ok (.iload_n 1, 1) := by decide +kernel
theorem dX9_exempt_32 : decode cX9_exempt 32 = .ok (.baload, 1) := by decide +kernel
theorem dX9_exempt_33 : decode cX9_exempt 33 = .ok (.ifCond .ne 7, 3) := by decide +kernel
theorem dX9_exempt_36 : decode cX9_exempt 36 = .ok (.iconst 1, 1) := by decide +kernel
theorem dX9_exempt_37 : decode cX9_exempt 37 = .ok (.goto 4, 3) := by decide +kernel
theorem dX9_exempt_40 : decode cX9_exempt 40 = .ok (.iconst 0, 1) := by decide +kernel
theorem dX9_exempt_41 : decode cX9_exempt 41 = .ok (.bastore, 1) := by decide +kernel
theorem dX9_exempt_42 : decode cX9_exempt 42 = .ok (.aload_n 0, 1) := by decide +kernel
theorem dX9_exempt_43 : decode cX9_exempt 43 = .ok (.getfield 113, 3) := by decide +kernel
theorem dX9_exempt_46 : decode cX9_exempt 46 = .ok (.iload_n 1, 1) := by decide +kernel
theorem dX9_exempt_47 : decode cX9_exempt 47 = .ok (.baload, 1) := by decide +kernel
theorem dX9_exempt_48 : decode cX9_exempt 48 = .ok (.ireturn, 1) := by decide +kernel
theorem dX9_agree_0 : decode cX9_agree 0 = .ok (.aload_n 0, 1) := by decide +kernel
theorem dX9_agree_1 : decode cX9_agree 1 = .ok (.aload_n 0, 1) := by decide +kernel
theorem dX9_agree_2 : decode cX9_agree 2 = .ok (.iload_n 1, 1) := by decide +kernel
theorem dX9_agree_3 : decode cX9_agree 3 = .ok (.invokevirtual 234, 3) := by decide +kernel
theorem dX9_agree_6 : decode cX9_agree 6 = .ok (.ifCond .eq 11, 3) := by decide +kernel
theorem dX9_agree_9 : decode cX9_agree 9 = .ok (.aload_n 0, 1) := by decide +kernel
theorem dX9_agree_10 : decode cX9_agree 10 = .ok (.iload_n 2, 1) := by decide +kernel
theorem dX9_agree_11 : decode cX9_agree 11 = .ok (.invokevirtual 234, 3) := by decide +kernel
theorem dX9_agree_14 : decode cX9_agree 14 = .ok (.ifCond .ne 7, 3) := by decide +kernel
theorem dX9_agree_17 : decode cX9_agree 17 = .ok (.iconst 1, 1) := by decide +kernel
theorem dX9_agree_18 : decode cX9_agree 18 = .ok (.goto 13, 3) := by decide +kernel
theorem dX9_agree_21 : decode cX9_agree 21 = .ok (.iload_n 1, 1) := by decide +kernel
theorem dX9_agree_22 : decode cX9_agree 22 = .ok (.iload_n 2, 1) := by decide +kernel
theorem dX9_agree_23 : decode cX9_agree 23 = .ok (.if_icmp .ne 7, 3) := by decide +kernel
theorem dX9_agree_26 : decode cX9_agree 26 = .ok (.iconst 2, 1) := by decide +kernel
theorem dX9_agree_27 : decode cX9_agree 27 = .ok (.goto 4, 3) := by decide +kernel
theorem dX9_agree_30 : decode cX9_agree 30 = .ok (.iconst 0, 1) := by decide +kernel
theorem dX9_agree_31 : decode cX9_agree 31 = .ok (.invokevirtual 168, 3) := by decide +kernel
theorem dX9_agree_34 : decode cX9_agree 34 = .ok (.ifCond .ne 5, 3) := by decide +kernel
theorem dX9_agree_37 : decode cX9_agree 37 = .ok (.iconst 0, 1) := by decide +kernel
theorem dX9_agree_38 : decode cX9_agree 38 = .ok (.ireturn, 1) := by decide +kernel
theorem dX9_agree_39 : decode cX9_agree 39 = .ok (.aload_n 0, 1) := by decide +kernel
theorem dX9_agree_40 : decode cX9_agree 40 = .ok (.getfield 116, 3) := by decide +kernel
theorem dX9_agree_43 : decode cX9_agree 43 = .ok (.bipush 24, 2) := by decide +kernel
theorem dX9_agree_45 : decode cX9_agree 45 = .ok (.iload_n 1, 1) := by decide +kernel
theorem dX9_agree_46 : decode cX9_agree 46 = .ok (.imul, 1) := by decide +kernel
theorem dX9_agree_47 : decode cX9_agree 47 = .ok (.iload_n 2, 1) := by decide +kernel
theorem dX9_agree_48 : decode cX9_agree 48 = .ok (.iadd, 1) := by decide +kernel
theorem dX9_agree_49 : decode cX9_agree 49 = .ok (.baload, 1) := by decide +kernel
theorem dX9_agree_50 : decode cX9_agree 50 = .ok (.ifCond .ne 7, 3) := by decide +kernel
theorem dX9_agree_53 : decode cX9_agree 53 = .ok (.iconst 1, 1) := by decide +kernel
theorem dX9_agree_54 : decode cX9_agree 54 = .ok (.goto 4, 3) := by decide +kernel
theorem dX9_agree_57 : decode cX9_agree 57 = .ok (.iconst 0, 1) := by decide +kernel
theorem dX9_agree_58 : decode cX9_agree 58 = .ok (.istore_n 3, 1) := by decide +kernel
theorem dX9_agree_59 : decode cX9_agree 59 = .ok (.aload_n 0, 1) := by decide +kernel
theorem dX9_agree_60 : decode cX9_agree 60 = .ok (.getfield 116, 3) := by decide +kernel
theorem dX9_agree_63 : decode cX9_agree 63 = .ok (.bipush 24, 2) := by decide +kernel
theorem dX9_agree_65 : decode cX9_agree 65 = .ok (.iload_n 1, 1) := by decide +kernel
theorem dX9_agree_66 : decode cX9_agree 66 = .ok (.imul, 1) := by decide +kernel
theorem dX9_agree_67 : decode cX9_agree 67 = .ok (.iload_n 2, 1) := by decide +kernel
theorem dX9_agree_68 : decode cX9_agree 68 = .ok (.iadd, 1) := by decide +kernel
theorem dX9_agree_69 : decode cX9_agree 69 = .ok (.iload_n 3, 1) := by decide +kernel
theorem dX9_agree_70 : decode cX9_agree 70 = .ok (.bastore, 1) := by decide +kernel
theorem dX9_agree_71 : decode cX9_agree 71 = .ok (.aload_n 0, 1) := by decide +kernel
theorem dX9_agree_72 : decode cX9_agree 72 = .ok (.getfield 116, 3) := by decide +kernel
theorem dX9_agree_75 : decode cX9_agree 75 = .ok (.bipush 24, 2) := by decide +kernel
theorem dX9_agree_77 : decode cX9_agree 77 = .ok (.iload_n 2, 1) := by decide +kernel
theorem dX9_agree_78 : decode cX9_agree 78 = .ok (.imul, 1) := by decide +kernel
theorem dX9_agree_79 : decode cX9_agree 79 = .ok (.iload_n 1, 1) := by decide +kernel
theorem dX9_agree_80 : decode cX9_agree 80 = .ok (.iadd, 1) := by decide +kernel
theorem dX9_agree_81 : decode cX9_agree 81 = .ok (.iload_n 3, 1) := by decide +kernel
theorem dX9_agree_82 : decode cX9_agree 82 = .ok (.bastore, 1) := by decide +kernel
theorem dX9_agree_83 : decode cX9_agree 83 = .ok (.iload_n 3, 1) := by decide +kernel
theorem dX9_agree_84 : decode cX9_agree 84 = .ok (.ireturn, 1) := by decide +kernel
theorem dX9_start_0 : decode cX9_start 0 = .ok (.aload_n 0, 1) := by decide +kernel
theorem dX9_start_1 : decode cX9_start 1 = .ok (.iload_n 1, 1) := by decide +kernel
theorem dX9_start_2 : decode cX9_start 2 = .ok (.invokevirtual 234, 3) := by decide +kernel
theorem dX9_start_5 : decode cX9_start 5 = .ok (.istore_n 2, 1) := by decide +kernel
theorem dX9_start_6 : decode cX9_start 6 = .ok (.aload_n 0, 1) := by decide +kernel
theorem dX9_start_7 : decode cX9_start 7 = .ok (.iload_n 2, 1) := by decide +kernel
theorem dX9_start_8 : decode cX9_start 8 = .ok (.ifCond .ne 7, 3) := by decide +kernel
theorem dX9_start_11 : decode cX9_start 11 = .ok (.iconst 1, 1) := by decide +kernel
theorem dX9_start_12 : decode cX9_start 12 = .ok (.goto 39, 3) := by decide +kernel
theorem dX9_start_15 : decode cX9_start 15 = .ok (.aload_n 0, 1) := by decide +kernel
theorem dX9_start_16 : decode cX9_start 16 = .ok (.getfield 98, 3) := by decide +kernel
theorem dX9_start_19 : decode cX9_start 19 = .ok (.iload_n 1, 1) := by decide +kernel
theorem dX9_start_20 : decode cX9_start 20 = .ok (.iaload, 1) := by decide +kernel
theorem dX9_start_21 : decode cX9_start 21 = .ok (.iconst 1, 1) := by decide +kernel
theorem dX9_start_22 : decode cX9_start 22 = .ok (.if_icmp .ne 24, 3) := by decide +kernel
theorem dX9_start_25 : decode cX9_start 25 = .ok (.aload_n 0, 1) := by decide +kernel
theorem dX9_start_26 : decode cX9_start 26 = .ok (.invokevirtual 175, 3) := by decide +kernel
theorem dX9_start_29 : decode cX9_start 29 = .ok (.aload_n 0, 1) := by decide +kernel
theorem dX9_start_30 : decode cX9_start 30 = .ok (.getfield 89, 3) := by decide +kernel
theorem dX9_start_33 : decode cX9_start 33 = .ok (.iload_n 1, 1) := by decide +kernel
theorem dX9_start_34 : decode cX9_start 34 = .ok (.iaload, 1) := by decide +kernel
theorem dX9_start_35 : decode cX9_start 35 = .ok (.aload_n 0, 1) := by decide +kernel
theorem dX9_start_36 : decode cX9_start 36 = .ok (.iload_n 1, 1) := by decide +kernel
theorem dX9_start_37 : decode cX9_start 37 = .ok (.invokevirtual 208, 3) := by decide +kernel
theorem dX9_start_40 : decode cX9_start 40 = .ok (.invokestatic 151, 3) := by decide +kernel
theorem dX9_start_43 : decode cX9_start 43 = .ok (.ifCond .ne 7, 3) := by decide +kernel
theorem dX9_start_46 : decode cX9_start 46 = .ok (.iconst 2, 1) := by decide +kernel
theorem dX9_start_47 : decode cX9_start 47 = .ok (.goto 4, 3) := by decide +kernel
theorem dX9_start_50 : decode cX9_start 50 = .ok (.iconst 0, 1) := by decide +kernel
theorem dX9_start_51 : decode cX9_start 51 = .ok (.invokevirtual 168, 3) := by decide +kernel
theorem dX9_start_54 : decode cX9_start 54 = .ok (.ifCond .ne 5, 3) := by decide +kernel
theorem dX9_start_57 : decode cX9_start 57 = .ok (.iconst 0, 1) := by decide +kernel
theorem dX9_start_58 : decode cX9_start 58 = .ok (.ireturn, 1) := by decide +kernel
theorem dX9_start_59 : decode cX9_start 59 = .ok (.aload_n 0, 1) := by decide +kernel
theorem dX9_start_60 : decode cX9_start 60 = .ok (.getfield 98, 3) := by decide +kernel
theorem dX9_start_63 : decode cX9_start 63 = .ok (.iload_n 1, 1) := by decide +kernel
theorem dX9_start_64 : decode cX9_start 64 = .ok (.iconst 3, 1) := by decide +kernel
theorem dX9_start_65 : decode cX9_start 65 = .ok (.iastore, 1) := by decide +kernel
theorem dX9_start_66 : decode cX9_start 66 = .ok (.aload_n 0, 1) := by decide +kernel
theorem dX9_start_67 : decode cX9_start 67 = .ok (.iload_n 1, 1) := by decide +kernel
theorem dX9_start_68 : decode cX9_start 68 = .ok (.invokevirtual 208, 3) := by decide +kernel
theorem dX9_start_71 : decode cX9_start 71 = .ok (.ireturn, 1) := by decide +kernel
theorem dX9_isSuspect_0 : decode cX9_isSuspect 0 = .ok (.iconst 0, 1) := by decide +kernel
theorem dX9_isSuspect_1 : decode cX9_isSuspect 1 = .ok (.istore_n 3, 1) := by decide +kernel
theorem dX9_isSuspect_2 : decode cX9_isSuspect 2 = .ok (.iconst 0, 1) := by decide +kernel
theorem dX9_isSuspect_3 : decode cX9_isSuspect 3 = .ok (.istore 4, 2) := by decide +kernel
theorem dX9_isSuspect_5 : decode cX9_isSuspect 5 = .ok (.iload 4, 2) := by decide +kernel
theorem dX9_isSuspect_7 : decode cX9_isSuspect 7 = .ok (.aload_n 0, 1) := by decide +kernel
theorem dX9_isSuspect_8 : decode cX9_isSuspect 8 = .ok (.getfield 159, 3) := by decide +kernel
theorem dX9_isSuspect_11 : decode cX9_isSuspect 11 = .ok (.if_icmp .ge 30, 3) := by decide +kernel
theorem dX9_isSuspect_14 : decode cX9_isSuspect 14 = .ok (.iload_n 3, 1) := by decide +kernel
theorem dX9_isSuspect_15 : decode cX9_isSuspect 15 = .ok (.ifCond .ne 14, 3) := by decide +kernel
theorem dX9_isSuspect_18 : decode cX9_isSuspect 18 = .ok (.aload_n 0, 1) := by decide +kernel
theorem dX9_isSuspect_19 : decode cX9_isSuspect 19 = .ok (.iload 4, 2) := by decide +kernel
theorem dX9_isSuspect_21 : decode cX9_isSuspect 21 = .ok (.iload_n 1, 1) := by decide +kernel
theorem dX9_isSuspect_22 : decode cX9_isSuspect 22 = .ok (.iload_n 2, 1) := by decide +kernel
theorem dX9_isSuspect_23 : decode cX9_isSuspect 23 = .ok (.invokevirtual 192, 3) := by decide +kernel
theorem dX9_isSuspect_26 : decode cX9_isSuspect 26 = .ok (.ifCond .eq 7, 3) := by decide +kernel
theorem dX9_isSuspect_29 : decode cX9_isSuspect 29 = .ok (.iconst 1, 1) := by decide +kernel
theorem dX9_isSuspect_30 : decode cX9_isSuspect 30 = .ok (.goto 4, 3) := by decide +kernel
theorem dX9_isSuspect_33 : decode cX9_isSuspect 33 = .ok (.iconst 0, 1) := by decide +kernel
theorem dX9_isSuspect_34 : decode cX9_isSuspect 34 = .ok (.istore_n 3, 1) := by decide +kernel
theorem dX9_isSuspect_35 : decode cX9_isSuspect 35 = .ok (.iinc 4 1, 3) := by decide +kernel
theorem dX9_isSuspect_38 : decode cX9_isSuspect 38 = .ok (.goto (-33), 3) := by decide +kernel
theorem dX9_isSuspect_41 : decode cX9_isSuspect 41 = .ok (.iload_n 3, 1) := by decide +kernel
theorem dX9_isSuspect_42 : decode cX9_isSuspect 42 = .ok (.ireturn, 1) := by decide +kernel
theorem dX9_isOff_0 : decode cX9_isOff 0 = .ok (.bipush 40, 2) := by decide +kernel
theorem dX9_isOff_2 : decode cX9_isOff 2 = .ok (.aload_n 0, 1) := by decide +kernel
theorem dX9_isOff_3 : decode cX9_isOff 3 = .ok (.getfield 74, 3) := by decide +kernel
theorem dX9_isOff_6 : decode cX9_isOff 6 = .ok (.iload_n 1, 1) := by decide +kernel
theorem dX9_isOff_7 : decode cX9_isOff 7 = .ok (.iaload, 1) := by decide +kernel
theorem dX9_isOff_8 : decode cX9_isOff 8 = .ok (.imul, 1) := by decide +kernel
theorem dX9_isOff_9 : decode cX9_isOff 9 = .ok (.iload_n 2, 1) := by decide +kernel
theorem dX9_isOff_10 : decode cX9_isOff 10 = .ok (.iadd, 1) := by decide +kernel
theorem dX9_isOff_11 : decode cX9_isOff 11 = .ok (.istore_n 3, 1) := by decide +kernel
theorem dX9_isOff_12 : decode cX9_isOff 12 = .ok (.aload_n 0, 1) := by decide +kernel
theorem dX9_isOff_13 : decode cX9_isOff 13 = .ok (.getfield 101, 3) := by decide +kernel
theorem dX9_isOff_16 : decode cX9_isOff 16 = .ok (.iload_n 1, 1) := by decide +kernel
theorem dX9_isOff_17 : decode cX9_isOff 17 = .ok (.iaload, 1) := by decide +kernel
theorem dX9_isOff_18 : decode cX9_isOff 18 = .ok (.iconst 1, 1) := by decide +kernel
theorem dX9_isOff_19 : decode cX9_isOff 19 = .ok (.iand, 1) := by decide +kernel
theorem dX9_isOff_20 : decode cX9_isOff 20 = .ok (.ifCond .eq 14, 3) := by decide +kernel
theorem dX9_isOff_23 : decode cX9_isOff 23 = .ok (.aload_n 0, 1) := by decide +kernel
theorem dX9_isOff_24 : decode cX9_isOff 24 = .ok (.invokevirtual 243, 3) := by decide +kernel
theorem dX9_isOff_27 : decode cX9_isOff 27 = .ok (.ifCond .eq 7, 3) := by decide +kernel
theorem dX9_isOff_30 : decode cX9_isOff 30 = .ok (.iconst 1, 1) := by decide +kernel
theorem dX9_isOff_31 : decode cX9_isOff 31 = .ok (.goto 4, 3) := by decide +kernel
theorem dX9_isOff_34 : decode cX9_isOff 34 = .ok (.iconst 0, 1) := by decide +kernel
theorem dX9_isOff_35 : decode cX9_isOff 35 = .ok (.istore 4, 2) := by decide +kernel
theorem dX9_isOff_37 : decode cX9_isOff 37 = .ok (.aload_n 0, 1) := by decide +kernel
theorem dX9_isOff_38 : decode cX9_isOff 38 = .ok (.getfield 98, 3) := by decide +kernel
theorem dX9_isOff_41 : decode cX9_isOff 41 = .ok (.iload_n 1, 1) := by decide +kernel
theorem dX9_isOff_42 : decode cX9_isOff 42 = .ok (.iaload, 1) := by decide +kernel
theorem dX9_isOff_43 : decode cX9_isOff 43 = .ok (.iconst 3, 1) := by decide +kernel
theorem dX9_isOff_44 : decode cX9_isOff 44 = .ok (.if_icmp .ne 50, 3) := by decide +kernel
theorem dX9_isOff_47 : decode cX9_isOff 47 = .ok (.aload_n 0, 1) := by decide +kernel
theorem dX9_isOff_48 : decode cX9_isOff 48 = .ok (.getfield 110, 3) := by decide +kernel
theorem dX9_isOff_51 : decode cX9_isOff 51 = .ok (.iload_n 1, 1) := by decide +kernel
theorem dX9_isOff_52 : decode cX9_isOff 52 = .ok (.baload, 1) := by decide +kernel
theorem dX9_isOff_53 : decode cX9_isOff 53 = .ok (.ifCond .ne 41, 3) := by decide +kernel
theorem dX9_isOff_56 : decode cX9_isOff 56 = .ok (.iload 4, 2) := by decide +kernel
theorem dX9_isOff_58 : decode cX9_isOff 58 = .ok (.ifCond .ne 36, 3) := by decide +kernel
theorem dX9_isOff_61 : decode cX9_isOff 61 = .ok (.aload_n 0, 1) := by decide +kernel
theorem dX9_isOff_62 : decode cX9_isOff 62 = .ok (.getfield 44, 3) := by decide +kernel
theorem dX9_isOff_65 : decode cX9_isOff 65 = .ok (.iload_n 3, 1) := by decide +kernel
theorem dX9_isOff_66 : decode cX9_isOff 66 = .ok (.iaload, 1) := by decide +kernel
theorem dX9_isOff_67 : decode cX9_isOff 67 = .ok (.iconst (-1), 1) := by decide +kernel
theorem dX9_isOff_68 : decode cX9_isOff 68 = .ok (.if_icmp .ne 26, 3) := by decide +kernel
theorem dX9_isOff_71 : decode cX9_isOff 71 = .ok (.aload_n 0, 1) := by decide +kernel
theorem dX9_isOff_72 : decode cX9_isOff 72 = .ok (.getfield 40, 3) := by decide +kernel
theorem dX9_isOff_75 : decode cX9_isOff 75 = .ok (.iload_n 3, 1) := by decide +kernel
theorem dX9_isOff_76 : decode cX9_isOff 76 = .ok (.baload, 1) := by decide +kernel
theorem dX9_isOff_77 : decode cX9_isOff 77 = .ok (.ifCond .ne 21, 3) := by decide +kernel
theorem dX9_isOff_80 : decode cX9_isOff 80 = .ok (.aload_n 0, 1) := by decide +kernel
theorem dX9_isOff_81 : decode cX9_isOff 81 = .ok (.aload_n 0, 1) := by decide +kernel
theorem dX9_isOff_82 : decode cX9_isOff 82 = .ok (.getfield 74, 3) := by decide +kernel
theorem dX9_isOff_85 : decode cX9_isOff 85 = .ok (.iload_n 1, 1) := by decide +kernel
theorem dX9_isOff_86 : decode cX9_isOff 86 = .ok (.iaload, 1) := by decide +kernel
theorem dX9_isOff_87 : decode cX9_isOff 87 = .ok (.iload_n 2, 1) := by decide +kernel
theorem dX9_isOff_88 : decode cX9_isOff 88 = .ok (.invokevirtual 247, 3) := by decide +kernel
theorem dX9_isOff_91 : decode cX9_isOff 91 = .ok (.ifCond .eq 7, 3) := by decide +kernel
theorem dX9_isOff_94 : decode cX9_isOff 94 = .ok (.iconst 1, 1) := by decide +kernel
theorem dX9_isOff_95 : decode cX9_isOff 95 = .ok (.goto 4, 3) := by decide +kernel
theorem dX9_isOff_98 : decode cX9_isOff 98 = .ok (.iconst 0, 1) := by decide +kernel
theorem dX9_isOff_99 : decode cX9_isOff 99 = .ok (.ireturn, 1) := by decide +kernel
theorem dX9_isOf_0 : decode cX9_isOf 0 = .ok (.aload_n 0, 1) := by decide +kernel
theorem dX9_isOf_1 : decode cX9_isOf 1 = .ok (.iload_n 1, 1) := by decide +kernel
theorem dX9_isOf_2 : decode cX9_isOf 2 = .ok (.invokevirtual 234, 3) := by decide +kernel
theorem dX9_isOf_5 : decode cX9_isOf 5 = .ok (.ifCond .eq 26, 3) := by decide +kernel
theorem dX9_isOf_8 : decode cX9_isOf 8 = .ok (.iload_n 2, 1) := by decide +kernel
theorem dX9_isOf_9 : decode cX9_isOf 9 = .ok (.aload_n 0, 1) := by decide +kernel
theorem dX9_isOf_10 : decode cX9_isOf 10 = .ok (.getfield 77, 3) := by decide +kernel
theorem dX9_isOf_13 : decode cX9_isOf 13 = .ok (.iload_n 1, 1) := by decide +kernel
theorem dX9_isOf_14 : decode cX9_isOf 14 = .ok (.iaload, 1) := by decide +kernel
theorem dX9_isOf_15 : decode cX9_isOf 15 = .ok (.aload_n 0, 1) := by decide +kernel
theorem dX9_isOf_16 : decode cX9_isOf 16 = .ok (.getfield 80, 3) := by decide +kernel
theorem dX9_isOf_19 : decode cX9_isOf 19 = .ok (.iload_n 1, 1) := by decide +kernel
theorem dX9_isOf_20 : decode cX9_isOf 20 = .ok (.iaload, 1) := by decide +kernel
theorem dX9_isOf_21 : decode cX9_isOf 21 = .ok (.invokestatic 151, 3) := by decide +kernel
theorem dX9_isOf_24 : decode cX9_isOf 24 = .ok (.ifCond .eq 7, 3) := by decide +kernel
theorem dX9_isOf_27 : decode cX9_isOf 27 = .ok (.iconst 1, 1) := by decide +kernel
theorem dX9_isOf_28 : decode cX9_isOf 28 = .ok (.goto 4, 3) := by decide +kernel
theorem dX9_isOf_31 : decode cX9_isOf 31 = .ok (.iconst 0, 1) := by decide +kernel
theorem dX9_isOf_32 : decode cX9_isOf 32 = .ok (.ireturn, 1) := by decide +kernel
theorem dX9_open_0 : decode cX9_open 0 = .ok (.aload_n 0, 1) := by decide +kernel
theorem dX9_open_1 : decode cX9_open 1 = .ok (.iload_n 1, 1) := by decide +kernel
theorem dX9_open_2 : decode cX9_open 2 = .ok (.iload_n 2, 1) := by decide +kernel
theorem dX9_open_3 : decode cX9_open 3 = .ok (.invokevirtual 250, 3) := by decide +kernel
theorem dX9_open_6 : decode cX9_open 6 = .ok (.istore_n 3, 1) := by decide +kernel
theorem dX9_open_7 : decode cX9_open 7 = .ok (.aload_n 0, 1) := by decide +kernel
theorem dX9_open_8 : decode cX9_open 8 = .ok (.iload_n 3, 1) := by decide +kernel
theorem dX9_open_9 : decode cX9_open 9 = .ok (.ifCond .ne 7, 3) := by decide +kernel
theorem dX9_open_12 : decode cX9_open 12 = .ok (.iconst 1, 1) := by decide +kernel
theorem dX9_open_13 : decode cX9_open 13 = .ok (.goto 17, 3) := by decide +kernel
theorem dX9_open_16 : decode cX9_open 16 = .ok (.aload_n 0, 1) := by decide +kernel
theorem dX9_open_17 : decode cX9_open 17 = .ok (.iload_n 1, 1) := by decide +kernel
theorem dX9_open_18 : decode cX9_open 18 = .ok (.iload_n 2, 1) := by decide +kernel
theorem dX9_open_19 : decode cX9_open 19 = .ok (.invokevirtual 253, 3) := by decide +kernel
theorem dX9_open_22 : decode cX9_open 22 = .ok (.ifCond .eq 7, 3) := by decide +kernel
theorem dX9_open_25 : decode cX9_open 25 = .ok (.iconst 2, 1) := by decide +kernel
theorem dX9_open_26 : decode cX9_open 26 = .ok (.goto 4, 3) := by decide +kernel
theorem dX9_open_29 : decode cX9_open 29 = .ok (.iconst 0, 1) := by decide +kernel
theorem dX9_open_30 : decode cX9_open 30 = .ok (.invokevirtual 168, 3) := by decide +kernel
theorem dX9_open_33 : decode cX9_open 33 = .ok (.ifCond .ne 5, 3) := by decide +kernel
theorem dX9_open_36 : decode cX9_open 36 = .ok (.iconst 0, 1) := by decide +kernel
theorem dX9_open_37 : decode cX9_open 37 = .ok (.ireturn, 1) := by decide +kernel
theorem dX9_open_38 : decode cX9_open 38 = .ok (.bipush 40, 2) := by decide +kernel
theorem dX9_open_40 : decode cX9_open 40 = .ok (.aload_n 0, 1) := by decide +kernel
theorem dX9_open_41 : decode cX9_open 41 = .ok (.getfield 74, 3) := by decide +kernel
theorem dX9_open_44 : decode cX9_open 44 = .ok (.iload_n 1, 1) := by decide +kernel
theorem dX9_open_45 : decode cX9_open 45 = .ok (.iaload, 1) := by decide +kernel
theorem dX9_open_46 : decode cX9_open 46 = .ok (.imul, 1) := by decide +kernel
theorem dX9_open_47 : decode cX9_open 47 = .ok (.iload_n 2, 1) := by decide +kernel
theorem dX9_open_48 : decode cX9_open 48 = .ok (.iadd, 1) := by decide +kernel
theorem dX9_open_49 : decode cX9_open 49 = .ok (.istore 4, 2) := by decide +kernel
theorem dX9_open_51 : decode cX9_open 51 = .ok (.iconst 0, 1) := by decide +kernel
theorem dX9_open_52 : decode cX9_open 52 = .ok (.istore 5, 2) := by decide +kernel
theorem dX9_open_54 : decode cX9_open 54 = .ok (.iconst 0, 1) := by decide +kernel
theorem dX9_open_55 : decode cX9_open 55 = .ok (.istore 6, 2) := by decide +kernel
theorem dX9_open_57 : decode cX9_open 57 = .ok (.iload 6, 2) := by decide +kernel
theorem dX9_open_59 : decode cX9_open 59 = .ok (.aload_n 0, 1) := by decide +kernel
theorem dX9_open_60 : decode cX9_open 60 = .ok (.getfield 159, 3) := by decide +kernel
theorem dX9_open_63 : decode cX9_open 63 = .ok (.if_icmp .ge 74, 3) := by decide +kernel
theorem dX9_open_66 : decode cX9_open 66 = .ok (.aload_n 0, 1) := by decide +kernel
theorem dX9_open_67 : decode cX9_open 67 = .ok (.getfield 40, 3) := by decide +kernel
theorem dX9_open_70 : decode cX9_open 70 = .ok (.iload 4, 2) := by decide +kernel
theorem dX9_open_72 : decode cX9_open 72 = .ok (.baload, 1) := by decide +kernel
theorem dX9_open_73 : decode cX9_open 73 = .ok (.ifCond .ne 64, 3) := by decide +kernel
theorem dX9_open_76 : decode cX9_open 76 = .ok (.aload_n 0, 1) := by decide +kernel
theorem dX9_open_77 : decode cX9_open 77 = .ok (.iload 6, 2) := by decide +kernel
theorem dX9_open_79 : decode cX9_open 79 = .ok (.aload_n 0, 1) := by decide +kernel
theorem dX9_open_80 : decode cX9_open 80 = .ok (.getfield 74, 3) := by decide +kernel
theorem dX9_open_83 : decode cX9_open 83 = .ok (.iload_n 1, 1) := by decide +kernel
theorem dX9_open_84 : decode cX9_open 84 = .ok (.iaload, 1) := by decide +kernel
theorem dX9_open_85 : decode cX9_open 85 = .ok (.iload_n 2, 1) := by decide +kernel
theorem dX9_open_86 : decode cX9_open 86 = .ok (.invokevirtual 205, 3) := by decide +kernel
theorem dX9_open_89 : decode cX9_open 89 = .ok (.ifCond .eq 42, 3) := by decide +kernel
theorem dX9_open_92 : decode cX9_open 92 = .ok (.aload_n 0, 1) := by decide +kernel
theorem dX9_open_93 : decode cX9_open 93 = .ok (.getfield 59, 3) := by decide +kernel
theorem dX9_open_96 : decode cX9_open 96 = .ok (.iload 6, 2) := by decide +kernel
theorem dX9_open_98 : decode cX9_open 98 = .ok (.iaload, 1) := by decide +kernel
theorem dX9_open_99 : decode cX9_open 99 = .ok (.aload_n 0, 1) := by decide +kernel
theorem dX9_open_100 : decode cX9_open 100 = .ok (.getfield 83, 3) := by decide +kernel
theorem dX9_open_103 : decode cX9_open 103 = .ok (.iload_n 1, 1) := by decide +kernel
theorem dX9_open_104 : decode cX9_open 104 = .ok (.iaload, 1) := by decide +kernel
theorem dX9_open_105 : decode cX9_open 105 = .ok (.if_icmp .gt 26, 3) := by decide +kernel
theorem dX9_open_108 : decode cX9_open 108 = .ok (.aload_n 0, 1) := by decide +kernel
theorem dX9_open_109 : decode cX9_open 109 = .ok (.aload_n 0, 1) := by decide +kernel
theorem dX9_open_110 : decode cX9_open 110 = .ok (.getfield 71, 3) := by decide +kernel
theorem dX9_open_113 : decode cX9_open 113 = .ok (.iload_n 1, 1) := by decide +kernel
theorem dX9_open_114 : decode cX9_open 114 = .ok (.iaload, 1) := by decide +kernel
theorem dX9_open_115 : decode cX9_open 115 = .ok (.aload_n 0, 1) := by decide +kernel
theorem dX9_open_116 : decode cX9_open 116 = .ok (.getfield 47, 3) := by decide +kernel
theorem dX9_open_119 : decode cX9_open 119 = .ok (.iload 6, 2) := by decide +kernel
theorem dX9_open_121 : decode cX9_open 121 = .ok (.iaload, 1) := by decide +kernel
theorem dX9_open_122 : decode cX9_open 122 = .ok (.sipush 1000, 3) := by decide +kernel
theorem dX9_open_125 : decode cX9_open 125 = .ok (.invokevirtual 230, 3) := by decide +kernel
theorem dX9_open_128 : decode cX9_open 128 = .ok (.iinc 5 1, 3) := by decide +kernel
theorem dX9_open_131 : decode cX9_open 131 = .ok (.iinc 6 1, 3) := by decide +kernel
theorem dX9_open_134 : decode cX9_open 134 = .ok (.goto (-77), 3) := by decide +kernel
theorem dX9_open_137 : decode cX9_open 137 = .ok (.aload_n 0, 1) := by decide +kernel
theorem dX9_open_138 : decode cX9_open 138 = .ok (.getfield 107, 3) := by decide +kernel
theorem dX9_open_141 : decode cX9_open 141 = .ok (.iload_n 1, 1) := by decide +kernel
theorem dX9_open_142 : decode cX9_open 142 = .ok (.dup2, 1) := by decide +kernel
theorem dX9_open_143 : decode cX9_open 143 = .ok (.iaload, 1) := by decide +kernel
theorem dX9_open_144 : decode cX9_open 144 = .ok (.iload 5, 2) := by decide +kernel
theorem dX9_open_146 : decode cX9_open 146 = .ok (.iadd, 1) := by decide +kernel
theorem dX9_open_147 : decode cX9_open 147 = .ok (.iastore, 1) := by decide +kernel
theorem dX9_open_148 : decode cX9_open 148 = .ok (.aload_n 0, 1) := by decide +kernel
theorem dX9_open_149 : decode cX9_open 149 = .ok (.getfield 40, 3) := by decide +kernel
theorem dX9_open_152 : decode cX9_open 152 = .ok (.iload 4, 2) := by decide +kernel
theorem dX9_open_154 : decode cX9_open 154 = .ok (.iconst 1, 1) := by decide +kernel
theorem dX9_open_155 : decode cX9_open 155 = .ok (.bastore, 1) := by decide +kernel
theorem dX9_open_156 : decode cX9_open 156 = .ok (.aload_n 0, 1) := by decide +kernel
theorem dX9_open_157 : decode cX9_open 157 = .ok (.getfield 44, 3) := by decide +kernel
theorem dX9_open_160 : decode cX9_open 160 = .ok (.iload 4, 2) := by decide +kernel
theorem dX9_open_162 : decode cX9_open 162 = .ok (.iload_n 1, 1) := by decide +kernel
theorem dX9_open_163 : decode cX9_open 163 = .ok (.iastore, 1) := by decide +kernel
theorem dX9_open_164 : decode cX9_open 164 = .ok (.iload 5, 2) := by decide +kernel
theorem dX9_open_166 : decode cX9_open 166 = .ok (.ireturn, 1) := by decide +kernel
theorem dX9_fillsOf_0 : decode cX9_fillsOf 0 = .ok (.iconst 0, 1) := by decide +kernel
theorem dX9_fillsOf_1 : decode cX9_fillsOf 1 = .ok (.istore_n 2, 1) := by decide +kernel
theorem dX9_fillsOf_2 : decode cX9_fillsOf 2 = .ok (.iconst 0, 1) := by decide +kernel
theorem dX9_fillsOf_3 : decode cX9_fillsOf 3 = .ok (.istore_n 3, 1) := by decide +kernel
theorem dX9_fillsOf_4 : decode cX9_fillsOf 4 = .ok (.iload_n 3, 1) := by decide +kernel
theorem dX9_fillsOf_5 : decode cX9_fillsOf 5 = .ok (.aload_n 0, 1) := by decide +kernel
theorem dX9_fillsOf_6 : decode cX9_fillsOf 6 = .ok (.getfield 179, 3) := by decide +kernel
theorem dX9_fillsOf_9 : decode cX9_fillsOf 9 = .ok (.if_icmp .ge 27, 3) := by decide +kernel
theorem dX9_fillsOf_12 : decode cX9_fillsOf 12 = .ok (.iload_n 2, 1) := by decide +kernel
theorem dX9_fillsOf_13 : decode cX9_fillsOf 13 = .ok (.aload_n 0, 1) := by decide +kernel
theorem dX9_fillsOf_14 : decode cX9_fillsOf 14 = .ok (.getfield 119, 3) := by decide +kernel
theorem dX9_fillsOf_17 : decode cX9_fillsOf 17 = .ok (.iload_n 3, 1) := by decide +kernel
theorem dX9_fillsOf_18 : decode cX9_fillsOf 18 = .ok (.iaload, 1) := by decide +kernel
theorem dX9_fillsOf_19 : decode cX9_fillsOf 19 = .ok (.iload_n 1, 1) := by decide +kernel
theorem dX9_fillsOf_20 : decode cX9_fillsOf 20 = .ok (.if_icmp .ne 7, 3) := by decide +kernel
theorem dX9_fillsOf_23 : decode cX9_fillsOf 23 = .ok (.iconst 1, 1) := by decide +kernel
theorem dX9_fillsOf_24 : decode cX9_fillsOf 24 = .ok (.goto 4, 3) := by decide +kernel
theorem dX9_fillsOf_27 : decode cX9_fillsOf 27 = .ok (.iconst 0, 1) := by decide +kernel
theorem dX9_fillsOf_28 : decode cX9_fillsOf 28 = .ok (.iadd, 1) := by decide +kernel
theorem dX9_fillsOf_29 : decode cX9_fillsOf 29 = .ok (.istore_n 2, 1) := by decide +kernel
theorem dX9_fillsOf_30 : decode cX9_fillsOf 30 = .ok (.iinc 3 1, 3) := by decide +kernel
theorem dX9_fillsOf_33 : decode cX9_fillsOf 33 = .ok (.goto (-29), 3) := by decide +kernel
theorem dX9_fillsOf_36 : decode cX9_fillsOf 36 = .ok (.iload_n 2, 1) := by decide +kernel
theorem dX9_fillsOf_37 : decode cX9_fillsOf 37 = .ok (.ireturn, 1) := by decide +kernel
theorem dX9_fill_0 : decode cX9_fill 0 = .ok (.aload_n 0, 1) := by decide +kernel
theorem dX9_fill_1 : decode cX9_fill 1 = .ok (.iload_n 1, 1) := by decide +kernel
theorem dX9_fill_2 : decode cX9_fill 2 = .ok (.iload_n 2, 1) := by decide +kernel
theorem dX9_fill_3 : decode cX9_fill 3 = .ok (.invokevirtual 250, 3) := by decide +kernel
theorem dX9_fill_6 : decode cX9_fill 6 = .ok (.istore 4, 2) := by decide +kernel
theorem dX9_fill_8 : decode cX9_fill 8 = .ok (.iload 4, 2) := by decide +kernel
theorem dX9_fill_10 : decode cX9_fill 10 = .ok (.ifCond .eq 17, 3) := by decide +kernel
theorem dX9_fill_13 : decode cX9_fill 13 = .ok (.bipush 40, 2) := by decide +kernel
theorem dX9_fill_15 : decode cX9_fill 15 = .ok (.aload_n 0, 1) := by decide +kernel
theorem dX9_fill_16 : decode cX9_fill 16 = .ok (.getfield 74, 3) := by decide +kernel
theorem dX9_fill_19 : decode cX9_fill 19 = .ok (.iload_n 1, 1) := by decide +kernel
theorem dX9_fill_20 : decode cX9_fill 20 = .ok (.iaload, 1) := by decide +kernel
theorem dX9_fill_21 : decode cX9_fill 21 = .ok (.imul, 1) := by decide +kernel
theorem dX9_fill_22 : decode cX9_fill 22 = .ok (.iload_n 2, 1) := by decide +kernel
theorem dX9_fill_23 : decode cX9_fill 23 = .ok (.iadd, 1) := by decide +kernel
theorem dX9_fill_24 : decode cX9_fill 24 = .ok (.goto 4, 3) := by decide +kernel
theorem dX9_fill_27 : decode cX9_fill 27 = .ok (.iconst 0, 1) := by decide +kernel
theorem dX9_fill_28 : decode cX9_fill 28 = .ok (.istore 5, 2) := by decide +kernel
theorem dX9_fill_30 : decode cX9_fill 30 = .ok (.aload_n 0, 1) := by decide +kernel
theorem dX9_fill_31 : decode cX9_fill 31 = .ok (.iload 4, 2) := by decide +kernel
theorem dX9_fill_33 : decode cX9_fill 33 = .ok (.ifCond .ne 7, 3) := by decide +kernel
theorem dX9_fill_36 : decode cX9_fill 36 = .ok (.iconst 1, 1) := by decide +kernel
theorem dX9_fill_37 : decode cX9_fill 37 = .ok (.goto 33, 3) := by decide +kernel
theorem dX9_fill_40 : decode cX9_fill 40 = .ok (.iload_n 3, 1) := by decide +kernel
theorem dX9_fill_41 : decode cX9_fill 41 = .ok (.iconst 0, 1) := by decide +kernel
theorem dX9_fill_42 : decode cX9_fill 42 = .ok (.bipush 100, 2) := by decide +kernel
theorem dX9_fill_44 : decode cX9_fill 44 = .ok (.invokestatic 151, 3) := by decide +kernel
theorem dX9_fill_47 : decode cX9_fill 47 = .ok (.ifCond .ne 7, 3) := by decide +kernel
theorem dX9_fill_50 : decode cX9_fill 50 = .ok (.iconst 2, 1) := by decide +kernel
theorem dX9_fill_51 : decode cX9_fill 51 = .ok (.goto 19, 3) := by decide +kernel
theorem dX9_fill_54 : decode cX9_fill 54 = .ok (.aload_n 0, 1) := by decide +kernel
theorem dX9_fill_55 : decode cX9_fill 55 = .ok (.getfield 44, 3) := by decide +kernel
theorem dX9_fill_58 : decode cX9_fill 58 = .ok (.iload 5, 2) := by decide +kernel
theorem dX9_fill_60 : decode cX9_fill 60 = .ok (.iaload, 1) := by decide +kernel
theorem dX9_fill_61 : decode cX9_fill 61 = .ok (.iload_n 1, 1) := by decide +kernel
theorem dX9_fill_62 : decode cX9_fill 62 = .ok (.if_icmp .eq 7, 3) := by decide +kernel
theorem dX9_fill_65 : decode cX9_fill 65 = .ok (.iconst 3, 1) := by decide +kernel
theorem dX9_fill_66 : decode cX9_fill 66 = .ok (.goto 4, 3) := by decide +kernel
theorem dX9_fill_69 : decode cX9_fill 69 = .ok (.iconst 0, 1) := by decide +kernel
theorem dX9_fill_70 : decode cX9_fill 70 = .ok (.invokevirtual 168, 3) := by decide +kernel
theorem dX9_fill_73 : decode cX9_fill 73 = .ok (.ifCond .ne 5, 3) := by decide +kernel
theorem dX9_fill_76 : decode cX9_fill 76 = .ok (.iconst 0, 1) := by decide +kernel
theorem dX9_fill_77 : decode cX9_fill 77 = .ok (.ireturn, 1) := by decide +kernel
theorem dX9_fill_78 : decode cX9_fill 78 = .ok (.aload_n 0, 1) := by decide +kernel
theorem dX9_fill_79 : decode cX9_fill 79 = .ok (.getfield 44, 3) := by decide +kernel
theorem dX9_fill_82 : decode cX9_fill 82 = .ok (.iload 5, 2) := by decide +kernel
theorem dX9_fill_84 : decode cX9_fill 84 = .ok (.iconst (-1), 1) := by decide +kernel
theorem dX9_fill_85 : decode cX9_fill 85 = .ok (.iastore, 1) := by decide +kernel
theorem dX9_fill_86 : decode cX9_fill 86 = .ok (.aload_n 0, 1) := by decide +kernel
theorem dX9_fill_87 : decode cX9_fill 87 = .ok (.getfield 119, 3) := by decide +kernel
theorem dX9_fill_90 : decode cX9_fill 90 = .ok (.aload_n 0, 1) := by decide +kernel
theorem dX9_fill_91 : decode cX9_fill 91 = .ok (.getfield 179, 3) := by decide +kernel
theorem dX9_fill_94 : decode cX9_fill 94 = .ok (.iload 5, 2) := by decide +kernel
theorem dX9_fill_96 : decode cX9_fill 96 = .ok (.iastore, 1) := by decide +kernel
theorem dX9_fill_97 : decode cX9_fill 97 = .ok (.aload_n 0, 1) := by decide +kernel
theorem dX9_fill_98 : decode cX9_fill 98 = .ok (.getfield 122, 3) := by decide +kernel
theorem dX9_fill_101 : decode cX9_fill 101 = .ok (.aload_n 0, 1) := by decide +kernel
theorem dX9_fill_102 : decode cX9_fill 102 = .ok (.getfield 179, 3) := by decide +kernel
theorem dX9_fill_105 : decode cX9_fill 105 = .ok (.iload_n 1, 1) := by decide +kernel
theorem dX9_fill_106 : decode cX9_fill 106 = .ok (.iastore, 1) := by decide +kernel
theorem dX9_fill_107 : decode cX9_fill 107 = .ok (.aload_n 0, 1) := by decide +kernel
theorem dX9_fill_108 : decode cX9_fill 108 = .ok (.getfield 125, 3) := by decide +kernel
theorem dX9_fill_111 : decode cX9_fill 111 = .ok (.aload_n 0, 1) := by decide +kernel
theorem dX9_fill_112 : decode cX9_fill 112 = .ok (.getfield 179, 3) := by decide +kernel
theorem dX9_fill_115 : decode cX9_fill 115 = .ok (.aload_n 0, 1) := by decide +kernel
theorem dX9_fill_116 : decode cX9_fill 116 = .ok (.invokevirtual 175, 3) := by decide +kernel
theorem dX9_fill_119 : decode cX9_fill 119 = .ok (.iastore, 1) := by decide +kernel
theorem dX9_fill_120 : decode cX9_fill 120 = .ok (.aload_n 0, 1) := by decide +kernel
theorem dX9_fill_121 : decode cX9_fill 121 = .ok (.getfield 128, 3) := by decide +kernel
theorem dX9_fill_124 : decode cX9_fill 124 = .ok (.aload_n 0, 1) := by decide +kernel
theorem dX9_fill_125 : decode cX9_fill 125 = .ok (.getfield 179, 3) := by decide +kernel
theorem dX9_fill_128 : decode cX9_fill 128 = .ok (.iload_n 3, 1) := by decide +kernel
theorem dX9_fill_129 : decode cX9_fill 129 = .ok (.iastore, 1) := by decide +kernel
theorem dX9_fill_130 : decode cX9_fill 130 = .ok (.aload_n 0, 1) := by decide +kernel
theorem dX9_fill_131 : decode cX9_fill 131 = .ok (.dup, 1) := by decide +kernel
theorem dX9_fill_132 : decode cX9_fill 132 = .ok (.getfield 179, 3) := by decide +kernel
theorem dX9_fill_135 : decode cX9_fill 135 = .ok (.iconst 1, 1) := by decide +kernel
theorem dX9_fill_136 : decode cX9_fill 136 = .ok (.iadd, 1) := by decide +kernel
theorem dX9_fill_137 : decode cX9_fill 137 = .ok (.putfield 179, 3) := by decide +kernel
theorem dX9_fill_140 : decode cX9_fill 140 = .ok (.aload_n 0, 1) := by decide +kernel
theorem dX9_fill_141 : decode cX9_fill 141 = .ok (.iload 5, 2) := by decide +kernel
theorem dX9_fill_143 : decode cX9_fill 143 = .ok (.invokevirtual 256, 3) := by decide +kernel
theorem dX9_fill_146 : decode cX9_fill 146 = .ok (.ireturn, 1) := by decide +kernel
theorem dX9_plate_0 : decode cX9_plate 0 = .ok (.aload_n 0, 1) := by decide +kernel
theorem dX9_plate_1 : decode cX9_plate 1 = .ok (.iload_n 1, 1) := by decide +kernel
theorem dX9_plate_2 : decode cX9_plate 2 = .ok (.invokevirtual 234, 3) := by decide +kernel
theorem dX9_plate_5 : decode cX9_plate 5 = .ok (.istore_n 2, 1) := by decide +kernel
theorem dX9_plate_6 : decode cX9_plate 6 = .ok (.aload_n 0, 1) := by decide +kernel
theorem dX9_plate_7 : decode cX9_plate 7 = .ok (.iload_n 2, 1) := by decide +kernel
theorem dX9_plate_8 : decode cX9_plate 8 = .ok (.ifCond .ne 7, 3) := by decide +kernel
theorem dX9_plate_11 : decode cX9_plate 11 = .ok (.iconst 1, 1) := by decide +kernel
theorem dX9_plate_12 : decode cX9_plate 12 = .ok (.goto 18, 3) := by decide +kernel
theorem dX9_plate_15 : decode cX9_plate 15 = .ok (.aload_n 0, 1) := by decide +kernel
theorem dX9_plate_16 : decode cX9_plate 16 = .ok (.getfield 98, 3) := by decide +kernel
theorem dX9_plate_19 : decode cX9_plate 19 = .ok (.iload_n 1, 1) := by decide +kernel
theorem dX9_plate_20 : decode cX9_plate 20 = .ok (.iaload, 1) := by decide +kernel
theorem dX9_plate_21 : decode cX9_plate 21 = .ok (.iconst 3, 1) := by decide +kernel
theorem dX9_plate_22 : decode cX9_plate 22 = .ok (.if_icmp .ne 7, 3) := by decide +kernel
theorem dX9_plate_25 : decode cX9_plate 25 = .ok (.iconst 0, 1) := by decide +kernel
theorem dX9_plate_26 : decode cX9_plate 26 = .ok (.goto 4, 3) := by decide +kernel
theorem dX9_plate_29 : decode cX9_plate 29 = .ok (.iconst 2, 1) := by decide +kernel
theorem dX9_plate_30 : decode cX9_plate 30 = .ok (.invokevirtual 168, 3) := by decide +kernel
theorem dX9_plate_33 : decode cX9_plate 33 = .ok (.ifCond .ne 5, 3) := by decide +kernel
theorem dX9_plate_36 : decode cX9_plate 36 = .ok (.iconst 0, 1) := by decide +kernel
theorem dX9_plate_37 : decode cX9_plate 37 = .ok (.ireturn, 1) := by decide +kernel
theorem dX9_plate_38 : decode cX9_plate 38 = .ok (.aload_n 0, 1) := by decide +kernel
theorem dX9_plate_39 : decode cX9_plate 39 = .ok (.getfield 110, 3) := by decide +kernel
theorem dX9_plate_42 : decode cX9_plate 42 = .ok (.iload_n 1, 1) := by decide +kernel
theorem dX9_plate_43 : decode cX9_plate 43 = .ok (.aload_n 0, 1) := by decide +kernel
theorem dX9_plate_44 : decode cX9_plate 44 = .ok (.getfield 110, 3) := by decide +kernel
theorem dX9_plate_47 : decode cX9_plate 47 = .ok (.iload_n 1, 1) := by decide +kernel
theorem dX9_plate_48 : decode cX9_plate 48 = .ok (.baload, 1) := by decide +kernel
theorem dX9_plate_49 : decode cX9_plate 49 = .ok (.ifCond .ne 7, 3) := by decide +kernel
theorem dX9_plate_52 : decode cX9_plate 52 = .ok (.iconst 1, 1) := by decide +kernel
theorem dX9_plate_53 : decode cX9_plate 53 = .ok (.goto 4, 3) := by decide +kernel
theorem dX9_plate_56 : decode cX9_plate 56 = .ok (.iconst 0, 1) := by decide +kernel
theorem dX9_plate_57 : decode cX9_plate 57 = .ok (.bastore, 1) := by decide +kernel
theorem dX9_plate_58 : decode cX9_plate 58 = .ok (.aload_n 0, 1) := by decide +kernel
theorem dX9_plate_59 : decode cX9_plate 59 = .ok (.getfield 110, 3) := by decide +kernel
theorem dX9_plate_62 : decode cX9_plate 62 = .ok (.iload_n 1, 1) := by decide +kernel
theorem dX9_plate_63 : decode cX9_plate 63 = .ok (.baload, 1) := by decide +kernel
theorem dX9_plate_64 : decode cX9_plate 64 = .ok (.ireturn, 1) := by decide +kernel
theorem dX9_extend_0 : decode cX9_extend 0 = .ok (.aload_n 0, 1) := by decide +kernel
theorem dX9_extend_1 : decode cX9_extend 1 = .ok (.iload_n 1, 1) := by decide +kernel
theorem dX9_extend_2 : decode cX9_extend 2 = .ok (.invokevirtual 234, 3) := by decide +kernel
theorem dX9_extend_5 : decode cX9_extend 5 = .ok (.istore_n 2, 1) := by decide +kernel
theorem dX9_extend_6 : decode cX9_extend 6 = .ok (.iload_n 2, 1) := by decide +kernel
theorem dX9_extend_7 : decode cX9_extend 7 = .ok (.ifCond .eq 26, 3) := by decide +kernel
theorem dX9_extend_10 : decode cX9_extend 10 = .ok (.aload_n 0, 1) := by decide +kernel
theorem dX9_extend_11 : decode cX9_extend 11 = .ok (.getfield 98, 3) := by decide +kernel
theorem dX9_extend_14 : decode cX9_extend 14 = .ok (.iload_n 1, 1) := by decide +kernel
theorem dX9_extend_15 : decode cX9_extend 15 = .ok (.iaload, 1) := by decide +kernel
theorem dX9_extend_16 : decode cX9_extend 16 = .ok (.iconst 3, 1) := by decide +kernel
theorem dX9_extend_17 : decode cX9_extend 17 = .ok (.if_icmp .ne 16, 3) := by decide +kernel
theorem dX9_extend_20 : decode cX9_extend 20 = .ok (.aload_n 0, 1) := by decide +kernel
theorem dX9_extend_21 : decode cX9_extend 21 = .ok (.getfield 107, 3) := by decide +kernel
theorem dX9_extend_24 : decode cX9_extend 24 = .ok (.iload_n 1, 1) := by decide +kernel
theorem dX9_extend_25 : decode cX9_extend 25 = .ok (.iaload, 1) := by decide +kernel
theorem dX9_extend_26 : decode cX9_extend 26 = .ok (.ifCond .le 7, 3) := by decide +kernel
theorem dX9_extend_29 : decode cX9_extend 29 = .ok (.iconst 1, 1) := by decide +kernel
theorem dX9_extend_30 : decode cX9_extend 30 = .ok (.goto 4, 3) := by decide +kernel
theorem dX9_extend_33 : decode cX9_extend 33 = .ok (.iconst 0, 1) := by decide +kernel
theorem dX9_extend_34 : decode cX9_extend 34 = .ok (.istore_n 3, 1) := by decide +kernel
theorem dX9_extend_35 : decode cX9_extend 35 = .ok (.iload_n 3, 1) := by decide +kernel
theorem dX9_extend_36 : decode cX9_extend 36 = .ok (.ifCond .eq 13, 3) := by decide +kernel
theorem dX9_extend_39 : decode cX9_extend 39 = .ok (.aload_n 0, 1) := by decide +kernel
theorem dX9_extend_40 : decode cX9_extend 40 = .ok (.getfield 92, 3) := by decide +kernel
theorem dX9_extend_43 : decode cX9_extend 43 = .ok (.iload_n 1, 1) := by decide +kernel
theorem dX9_extend_44 : decode cX9_extend 44 = .ok (.dup2, 1) := by decide +kernel
theorem dX9_extend_45 : decode cX9_extend 45 = .ok (.iaload, 1) := by decide +kernel
theorem dX9_extend_46 : decode cX9_extend 46 = .ok (.iconst 2, 1) := by decide +kernel
theorem dX9_extend_47 : decode cX9_extend 47 = .ok (.iadd, 1) := by decide +kernel
theorem dX9_extend_48 : decode cX9_extend 48 = .ok (.iastore, 1) := by decide +kernel
theorem dX9_extend_49 : decode cX9_extend 49 = .ok (.iload_n 3, 1) := by decide +kernel
theorem dX9_extend_50 : decode cX9_extend 50 = .ok (.ifCond .eq 15, 3) := by decide +kernel
theorem dX9_extend_53 : decode cX9_extend 53 = .ok (.aload_n 0, 1) := by decide +kernel
theorem dX9_extend_54 : decode cX9_extend 54 = .ok (.iload_n 1, 1) := by decide +kernel
theorem dX9_extend_55 : decode cX9_extend 55 = .ok (.invokevirtual 223, 3) := by decide +kernel
theorem dX9_extend_58 : decode cX9_extend 58 = .ok (.ifCond .eq 7, 3) := by decide +kernel
theorem dX9_extend_61 : decode cX9_extend 61 = .ok (.iconst 1, 1) := by decide +kernel
theorem dX9_extend_62 : decode cX9_extend 62 = .ok (.goto 4, 3) := by decide +kernel
theorem dX9_extend_65 : decode cX9_extend 65 = .ok (.iconst 0, 1) := by decide +kernel
theorem dX9_extend_66 : decode cX9_extend 66 = .ok (.istore 4, 2) := by decide +kernel
theorem dX9_extend_68 : decode cX9_extend 68 = .ok (.iload 4, 2) := by decide +kernel
theorem dX9_extend_70 : decode cX9_extend 70 = .ok (.ifCond .eq 13, 3) := by decide +kernel
theorem dX9_extend_73 : decode cX9_extend 73 = .ok (.aload_n 0, 1) := by decide +kernel
theorem dX9_extend_74 : decode cX9_extend 74 = .ok (.getfield 92, 3) := by decide +kernel
theorem dX9_extend_77 : decode cX9_extend 77 = .ok (.iload_n 1, 1) := by decide +kernel
theorem dX9_extend_78 : decode cX9_extend 78 = .ok (.dup2, 1) := by decide +kernel
theorem dX9_extend_79 : decode cX9_extend 79 = .ok (.iaload, 1) := by decide +kernel
theorem dX9_extend_80 : decode cX9_extend 80 = .ok (.iconst 2, 1) := by decide +kernel
theorem dX9_extend_81 : decode cX9_extend 81 = .ok (.isub, 1) := by decide +kernel
theorem dX9_extend_82 : decode cX9_extend 82 = .ok (.iastore, 1) := by decide +kernel
theorem dX9_extend_83 : decode cX9_extend 83 = .ok (.aload_n 0, 1) := by decide +kernel
theorem dX9_extend_84 : decode cX9_extend 84 = .ok (.iload_n 2, 1) := by decide +kernel
theorem dX9_extend_85 : decode cX9_extend 85 = .ok (.ifCond .ne 7, 3) := by decide +kernel
theorem dX9_extend_88 : decode cX9_extend 88 = .ok (.iconst 1, 1) := by decide +kernel
theorem dX9_extend_89 : decode cX9_extend 89 = .ok (.goto 17, 3) := by decide +kernel
theorem dX9_extend_92 : decode cX9_extend 92 = .ok (.iload_n 3, 1) := by decide +kernel
theorem dX9_extend_93 : decode cX9_extend 93 = .ok (.ifCond .eq 8, 3) := by decide +kernel
theorem dX9_extend_96 : decode cX9_extend 96 = .ok (.iload 4, 2) := by decide +kernel
theorem dX9_extend_98 : decode cX9_extend 98 = .ok (.ifCond .eq 7, 3) := by decide +kernel
theorem dX9_extend_101 : decode cX9_extend 101 = .ok (.iconst 2, 1) := by decide +kernel
theorem dX9_extend_102 : decode cX9_extend 102 = .ok (.goto 4, 3) := by decide +kernel
theorem dX9_extend_105 : decode cX9_extend 105 = .ok (.iconst 0, 1) := by decide +kernel
theorem dX9_extend_106 : decode cX9_extend 106 = .ok (.invokevirtual 168, 3) := by decide +kernel
theorem dX9_extend_109 : decode cX9_extend 109 = .ok (.ifCond .ne 5, 3) := by decide +kernel
theorem dX9_extend_112 : decode cX9_extend 112 = .ok (.iconst 0, 1) := by decide +kernel
theorem dX9_extend_113 : decode cX9_extend 113 = .ok (.ireturn, 1) := by decide +kernel
theorem dX9_extend_114 : decode cX9_extend 114 = .ok (.aload_n 0, 1) := by decide +kernel
theorem dX9_extend_115 : decode cX9_extend 115 = .ok (.getfield 107, 3) := by decide +kernel
theorem dX9_extend_118 : decode cX9_extend 118 = .ok (.iload_n 1, 1) := by decide +kernel
theorem dX9_extend_119 : decode cX9_extend 119 = .ok (.dup2, 1) := by decide +kernel
theorem dX9_extend_120 : decode cX9_extend 120 = .ok (.iaload, 1) := by decide +kernel
theorem dX9_extend_121 : decode cX9_extend 121 = .ok (.iconst 1, 1) := by decide +kernel
theorem dX9_extend_122 : decode cX9_extend 122 = .ok (.isub, 1) := by decide +kernel
theorem dX9_extend_123 : decode cX9_extend 123 = .ok (.iastore, 1) := by decide +kernel
theorem dX9_extend_124 : decode cX9_extend 124 = .ok (.aload_n 0, 1) := by decide +kernel
theorem dX9_extend_125 : decode cX9_extend 125 = .ok (.iload_n 1, 1) := by decide +kernel
theorem dX9_extend_126 : decode cX9_extend 126 = .ok (.invokevirtual 208, 3) := by decide +kernel
theorem dX9_extend_129 : decode cX9_extend 129 = .ok (.ireturn, 1) := by decide +kernel
theorem dX9_openOf_0 : decode cX9_openOf 0 = .ok (.iconst 0, 1) := by decide +kernel
theorem dX9_openOf_1 : decode cX9_openOf 1 = .ok (.istore_n 2, 1) := by decide +kernel
theorem dX9_openOf_2 : decode cX9_openOf 2 = .ok (.iconst 0, 1) := by decide +kernel
theorem dX9_openOf_3 : decode cX9_openOf 3 = .ok (.istore_n 3, 1) := by decide +kernel
theorem dX9_openOf_4 : decode cX9_openOf 4 = .ok (.iload_n 3, 1) := by decide +kernel
theorem dX9_openOf_5 : decode cX9_openOf 5 = .ok (.sipush 240, 3) := by decide +kernel
theorem dX9_openOf_8 : decode cX9_openOf 8 = .ok (.if_icmp .ge 27, 3) := by decide +kernel
theorem dX9_openOf_11 : decode cX9_openOf 11 = .ok (.iload_n 2, 1) := by decide +kernel
theorem dX9_openOf_12 : decode cX9_openOf 12 = .ok (.aload_n 0, 1) := by decide +kernel
theorem dX9_openOf_13 : decode cX9_openOf 13 = .ok (.getfield 44, 3) := by decide +kernel
theorem dX9_openOf_16 : decode cX9_openOf 16 = .ok (.iload_n 3, 1) := by decide +kernel
theorem dX9_openOf_17 : decode cX9_openOf 17 = .ok (.iaload, 1) := by decide +kernel
theorem dX9_openOf_18 : decode cX9_openOf 18 = .ok (.iload_n 1, 1) := by decide +kernel
theorem dX9_openOf_19 : decode cX9_openOf 19 = .ok (.if_icmp .ne 7, 3) := by decide +kernel
theorem dX9_openOf_22 : decode cX9_openOf 22 = .ok (.iconst 1, 1) := by decide +kernel
theorem dX9_openOf_23 : decode cX9_openOf 23 = .ok (.goto 4, 3) := by decide +kernel
theorem dX9_openOf_26 : decode cX9_openOf 26 = .ok (.iconst 0, 1) := by decide +kernel
theorem dX9_openOf_27 : decode cX9_openOf 27 = .ok (.iadd, 1) := by decide +kernel
theorem dX9_openOf_28 : decode cX9_openOf 28 = .ok (.istore_n 2, 1) := by decide +kernel
theorem dX9_openOf_29 : decode cX9_openOf 29 = .ok (.iinc 3 1, 3) := by decide +kernel
theorem dX9_openOf_32 : decode cX9_openOf 32 = .ok (.goto (-28), 3) := by decide +kernel
theorem dX9_openOf_35 : decode cX9_openOf 35 = .ok (.iload_n 2, 1) := by decide +kernel
theorem dX9_openOf_36 : decode cX9_openOf 36 = .ok (.ireturn, 1) := by decide +kernel
theorem dX9_stop_0 : decode cX9_stop 0 = .ok (.aload_n 0, 1) := by decide +kernel
theorem dX9_stop_1 : decode cX9_stop 1 = .ok (.iload_n 1, 1) := by decide +kernel
theorem dX9_stop_2 : decode cX9_stop 2 = .ok (.invokevirtual 234, 3) := by decide +kernel
theorem dX9_stop_5 : decode cX9_stop 5 = .ok (.istore_n 2, 1) := by decide +kernel
theorem dX9_stop_6 : decode cX9_stop 6 = .ok (.aload_n 0, 1) := by decide +kernel
theorem dX9_stop_7 : decode cX9_stop 7 = .ok (.iload_n 2, 1) := by decide +kernel
theorem dX9_stop_8 : decode cX9_stop 8 = .ok (.ifCond .ne 7, 3) := by decide +kernel
theorem dX9_stop_11 : decode cX9_stop 11 = .ok (.iconst 1, 1) := by decide +kernel
theorem dX9_stop_12 : decode cX9_stop 12 = .ok (.goto 26, 3) := by decide +kernel
theorem dX9_stop_15 : decode cX9_stop 15 = .ok (.aload_n 0, 1) := by decide +kernel
theorem dX9_stop_16 : decode cX9_stop 16 = .ok (.getfield 98, 3) := by decide +kernel
theorem dX9_stop_19 : decode cX9_stop 19 = .ok (.iload_n 1, 1) := by decide +kernel
theorem dX9_stop_20 : decode cX9_stop 20 = .ok (.iaload, 1) := by decide +kernel
theorem dX9_stop_21 : decode cX9_stop 21 = .ok (.iconst 3, 1) := by decide +kernel
theorem dX9_stop_22 : decode cX9_stop 22 = .ok (.if_icmp .ne 11, 3) := by decide +kernel
theorem dX9_stop_25 : decode cX9_stop 25 = .ok (.aload_n 0, 1) := by decide +kernel
theorem dX9_stop_26 : decode cX9_stop 26 = .ok (.iload_n 1, 1) := by decide +kernel
theorem dX9_stop_27 : decode cX9_stop 27 = .ok (.invokevirtual 259, 3) := by decide +kernel
theorem dX9_stop_30 : decode cX9_stop 30 = .ok (.ifCond .le 7, 3) := by decide +kernel
theorem dX9_stop_33 : decode cX9_stop 33 = .ok (.iconst 2, 1) := by decide +kernel
theorem dX9_stop_34 : decode cX9_stop 34 = .ok (.goto 4, 3) := by decide +kernel
theorem dX9_stop_37 : decode cX9_stop 37 = .ok (.iconst 0, 1) := by decide +kernel
theorem dX9_stop_38 : decode cX9_stop 38 = .ok (.invokevirtual 168, 3) := by decide +kernel
theorem dX9_stop_41 : decode cX9_stop 41 = .ok (.ifCond .ne 5, 3) := by decide +kernel
theorem dX9_stop_44 : decode cX9_stop 44 = .ok (.iconst 0, 1) := by decide +kernel
theorem dX9_stop_45 : decode cX9_stop 45 = .ok (.ireturn, 1) := by decide +kernel
theorem dX9_stop_46 : decode cX9_stop 46 = .ok (.aload_n 0, 1) := by decide +kernel
theorem dX9_stop_47 : decode cX9_stop 47 = .ok (.iload_n 1, 1) := by decide +kernel
theorem dX9_stop_48 : decode cX9_stop 48 = .ok (.invokevirtual 211, 3) := by decide +kernel
theorem dX9_stop_51 : decode cX9_stop 51 = .ok (.aload_n 0, 1) := by decide +kernel
theorem dX9_stop_52 : decode cX9_stop 52 = .ok (.iload_n 1, 1) := by decide +kernel
theorem dX9_stop_53 : decode cX9_stop 53 = .ok (.invokevirtual 208, 3) := by decide +kernel
theorem dX9_stop_56 : decode cX9_stop 56 = .ok (.isub, 1) := by decide +kernel
theorem dX9_stop_57 : decode cX9_stop 57 = .ok (.istore_n 3, 1) := by decide +kernel
theorem dX9_stop_58 : decode cX9_stop 58 = .ok (.aload_n 0, 1) := by decide +kernel
theorem dX9_stop_59 : decode cX9_stop 59 = .ok (.getfield 98, 3) := by decide +kernel
theorem dX9_stop_62 : decode cX9_stop 62 = .ok (.iload_n 1, 1) := by decide +kernel
theorem dX9_stop_63 : decode cX9_stop 63 = .ok (.iconst 4, 1) := by decide +kernel
theorem dX9_stop_64 : decode cX9_stop 64 = .ok (.iastore, 1) := by decide +kernel
theorem dX9_stop_65 : decode cX9_stop 65 = .ok (.aload_n 0, 1) := by decide +kernel
theorem dX9_stop_66 : decode cX9_stop 66 = .ok (.getfield 110, 3) := by decide +kernel
theorem dX9_stop_69 : decode cX9_stop 69 = .ok (.iload_n 1, 1) := by decide +kernel
theorem dX9_stop_70 : decode cX9_stop 70 = .ok (.iconst 0, 1) := by decide +kernel
theorem dX9_stop_71 : decode cX9_stop 71 = .ok (.bastore, 1) := by decide +kernel
theorem dX9_stop_72 : decode cX9_stop 72 = .ok (.iload_n 3, 1) := by decide +kernel
theorem dX9_stop_73 : decode cX9_stop 73 = .ok (.ireturn, 1) := by decide +kernel
theorem dX9_settles_0 : decode cX9_settles 0 = .ok (.iconst 0, 1) := by decide +kernel
theorem dX9_settles_1 : decode cX9_settles 1 = .ok (.istore_n 1, 1) := by decide +kernel
theorem dX9_settles_2 : decode cX9_settles 2 = .ok (.iload_n 1, 1) := by decide +kernel
theorem dX9_settles_3 : decode cX9_settles 3 = .ok (.aload_n 0, 1) := by decide +kernel
theorem dX9_settles_4 : decode cX9_settles 4 = .ok (.getfield 162, 3) := by decide +kernel
theorem dX9_settles_7 : decode cX9_settles 7 = .ok (.if_icmp .ge 72, 3) := by decide +kernel
theorem dX9_settles_10 : decode cX9_settles 10 = .ok (.aload_n 0, 1) := by decide +kernel
theorem dX9_settles_11 : decode cX9_settles 11 = .ok (.getfield 98, 3) := by decide +kernel
theorem dX9_settles_14 : decode cX9_settles 14 = .ok (.iload_n 1, 1) := by decide +kernel
theorem dX9_settles_15 : decode cX9_settles 15 = .ok (.iaload, 1) := by decide +kernel
theorem dX9_settles_16 : decode cX9_settles 16 = .ok (.ifCond .ne 57, 3) := by decide +kernel
theorem dX9_settles_19 : decode cX9_settles 19 = .ok (.aload_n 0, 1) := by decide +kernel
theorem dX9_settles_20 : decode cX9_settles 20 = .ok (.invokevirtual 175, 3) := by decide +kernel
theorem dX9_settles_23 : decode cX9_settles 23 = .ok (.aload_n 0, 1) := by decide +kernel
theorem dX9_settles_24 : decode cX9_settles 24 = .ok (.getfield 95, 3) := by decide +kernel
theorem dX9_settles_27 : decode cX9_settles 27 = .ok (.iload_n 1, 1) := by decide +kernel
theorem dX9_settles_28 : decode cX9_settles 28 = .ok (.iaload, 1) := by decide +kernel
theorem dX9_settles_29 : decode cX9_settles 29 = .ok (.aload_n 0, 1) := by decide +kernel
theorem dX9_settles_30 : decode cX9_settles 30 = .ok (.getfield 86, 3) := by decide +kernel
theorem dX9_settles_33 : decode cX9_settles 33 = .ok (.iload_n 1, 1) := by decide +kernel
theorem dX9_settles_34 : decode cX9_settles 34 = .ok (.iaload, 1) := by decide +kernel
theorem dX9_settles_35 : decode cX9_settles 35 = .ok (.iconst 2, 1) := by decide +kernel
theorem dX9_settles_36 : decode cX9_settles 36 = .ok (.if_icmp .ne 7, 3) := by decide +kernel
theorem dX9_settles_39 : decode cX9_settles 39 = .ok (.iconst 2, 1) := by decide +kernel
theorem dX9_settles_40 : decode cX9_settles 40 = .ok (.goto 4, 3) := by decide +kernel
theorem dX9_settles_43 : decode cX9_settles 43 = .ok (.iconst 5, 1) := by decide +kernel
theorem dX9_settles_44 : decode cX9_settles 44 = .ok (.iadd, 1) := by decide +kernel
theorem dX9_settles_45 : decode cX9_settles 45 = .ok (.if_icmp .ne 28, 3) := by decide +kernel
theorem dX9_settles_48 : decode cX9_settles 48 = .ok (.aload_n 0, 1) := by decide +kernel
theorem dX9_settles_49 : decode cX9_settles 49 = .ok (.iload_n 1, 1) := by decide +kernel
theorem dX9_settles_50 : decode cX9_settles 50 = .ok (.invokevirtual 237, 3) := by decide +kernel
theorem dX9_settles_53 : decode cX9_settles 53 = .ok (.ifCond .le 13, 3) := by decide +kernel
theorem dX9_settles_56 : decode cX9_settles 56 = .ok (.aload_n 0, 1) := by decide +kernel
theorem dX9_settles_57 : decode cX9_settles 57 = .ok (.getfield 98, 3) := by decide +kernel
theorem dX9_settles_60 : decode cX9_settles 60 = .ok (.iload_n 1, 1) := by decide +kernel
theorem dX9_settles_61 : decode cX9_settles 61 = .ok (.iconst 2, 1) := by decide +kernel
theorem dX9_settles_62 : decode cX9_settles 62 = .ok (.iastore, 1) := by decide +kernel
theorem dX9_settles_63 : decode cX9_settles 63 = .ok (.goto 10, 3) := by decide +kernel
theorem dX9_settles_66 : decode cX9_settles 66 = .ok (.aload_n 0, 1) := by decide +kernel
theorem dX9_settles_67 : decode cX9_settles 67 = .ok (.iload_n 1, 1) := by decide +kernel
theorem dX9_settles_68 : decode cX9_settles 68 = .ok (.iconst 0, 1) := by decide +kernel
theorem dX9_settles_69 : decode cX9_settles 69 = .ok (.invokevirtual 240, 3) := by decide +kernel
theorem dX9_settles_72 : decode cX9_settles 72 = .ok (.istore_n 2, 1) := by decide +kernel
theorem dX9_settles_73 : decode cX9_settles 73 = .ok (.iinc 1 1, 3) := by decide +kernel
theorem dX9_settles_76 : decode cX9_settles 76 = .ok (.goto (-74), 3) := by decide +kernel
theorem dX9_settles_79 : decode cX9_settles 79 = .ok (.return_, 1) := by decide +kernel
theorem dX9_grade_0 : decode cX9_grade 0 = .ok (.iconst 4, 1) := by decide +kernel
theorem dX9_grade_1 : decode cX9_grade 1 = .ok (.aload_n 0, 1) := by decide +kernel
theorem dX9_grade_2 : decode cX9_grade 2 = .ok (.getfield 13, 3) := by decide +kernel
theorem dX9_grade_5 : decode cX9_grade 5 = .ok (.aload_n 0, 1) := by decide +kernel
theorem dX9_grade_6 : decode cX9_grade 6 = .ok (.getfield 74, 3) := by decide +kernel
theorem dX9_grade_9 : decode cX9_grade 9 = .ok (.iload_n 1, 1) := by decide +kernel
theorem dX9_grade_10 : decode cX9_grade 10 = .ok (.iaload, 1) := by decide +kernel
theorem dX9_grade_11 : decode cX9_grade 11 = .ok (.iaload, 1) := by decide +kernel
theorem dX9_grade_12 : decode cX9_grade 12 = .ok (.isub, 1) := by decide +kernel
theorem dX9_grade_13 : decode cX9_grade 13 = .ok (.ireturn, 1) := by decide +kernel
theorem dX9_takes_0 : decode cX9_takes 0 = .ok (.aload_n 0, 1) := by decide +kernel
theorem dX9_takes_1 : decode cX9_takes 1 = .ok (.getfield 98, 3) := by decide +kernel
theorem dX9_takes_4 : decode cX9_takes 4 = .ok (.iload_n 1, 1) := by decide +kernel
theorem dX9_takes_5 : decode cX9_takes 5 = .ok (.iaload, 1) := by decide +kernel
theorem dX9_takes_6 : decode cX9_takes 6 = .ok (.iconst 3, 1) := by decide +kernel
theorem dX9_takes_7 : decode cX9_takes 7 = .ok (.if_icmp .ne 24, 3) := by decide +kernel
theorem dX9_takes_10 : decode cX9_takes 10 = .ok (.aload_n 0, 1) := by decide +kernel
theorem dX9_takes_11 : decode cX9_takes 11 = .ok (.getfield 110, 3) := by decide +kernel
theorem dX9_takes_14 : decode cX9_takes 14 = .ok (.iload_n 1, 1) := by decide +kernel
theorem dX9_takes_15 : decode cX9_takes 15 = .ok (.baload, 1) := by decide +kernel
theorem dX9_takes_16 : decode cX9_takes 16 = .ok (.ifCond .ne 15, 3) := by decide +kernel
theorem dX9_takes_19 : decode cX9_takes 19 = .ok (.aload_n 0, 1) := by decide +kernel
theorem dX9_takes_20 : decode cX9_takes 20 = .ok (.iload_n 1, 1) := by decide +kernel
theorem dX9_takes_21 : decode cX9_takes 21 = .ok (.invokevirtual 259, 3) := by decide +kernel
theorem dX9_takes_24 : decode cX9_takes 24 = .ok (.ifCond .le 7, 3) := by decide +kernel
theorem dX9_takes_27 : decode cX9_takes 27 = .ok (.iconst 1, 1) := by decide +kernel
theorem dX9_takes_28 : decode cX9_takes 28 = .ok (.goto 4, 3) := by decide +kernel
theorem dX9_takes_31 : decode cX9_takes 31 = .ok (.iconst 0, 1) := by decide +kernel
theorem dX9_takes_32 : decode cX9_takes 32 = .ok (.ireturn, 1) := by decide +kernel
theorem dX9_isTaken_0 : decode cX9_isTaken 0 = .ok (.iconst 0, 1) := by decide +kernel
theorem dX9_isTaken_1 : decode cX9_isTaken 1 = .ok (.istore_n 2, 1) := by decide +kernel
theorem dX9_isTaken_2 : decode cX9_isTaken 2 = .ok (.iconst 0, 1) := by decide +kernel
theorem dX9_isTaken_3 : decode cX9_isTaken 3 = .ok (.istore_n 3, 1) := by decide +kernel
theorem dX9_isTaken_4 : decode cX9_isTaken 4 = .ok (.iload_n 3, 1) := by decide +kernel
theorem dX9_isTaken_5 : decode cX9_isTaken 5 = .ok (.aload_n 0, 1) := by decide +kernel
theorem dX9_isTaken_6 : decode cX9_isTaken 6 = .ok (.getfield 162, 3) := by decide +kernel
theorem dX9_isTaken_9 : decode cX9_isTaken 9 = .ok (.if_icmp .ge 37, 3) := by decide +kernel
theorem dX9_isTaken_12 : decode cX9_isTaken 12 = .ok (.iload_n 2, 1) := by decide +kernel
theorem dX9_isTaken_13 : decode cX9_isTaken 13 = .ok (.ifCond .ne 21, 3) := by decide +kernel
theorem dX9_isTaken_16 : decode cX9_isTaken 16 = .ok (.aload_n 0, 1) := by decide +kernel
theorem dX9_isTaken_17 : decode cX9_isTaken 17 = .ok (.getfield 74, 3) := by decide +kernel
theorem dX9_isTaken_20 : decode cX9_isTaken 20 = .ok (.iload_n 3, 1) := by decide +kernel
theorem dX9_isTaken_21 : decode cX9_isTaken 21 = .ok (.iaload, 1) := by decide +kernel
theorem dX9_isTaken_22 : decode cX9_isTaken 22 = .ok (.iload_n 1, 1) := by decide +kernel
theorem dX9_isTaken_23 : decode cX9_isTaken 23 = .ok (.if_icmp .ne 15, 3) := by decide +kernel
theorem dX9_isTaken_26 : decode cX9_isTaken 26 = .ok (.aload_n 0, 1) := by decide +kernel
theorem dX9_isTaken_27 : decode cX9_isTaken 27 = .ok (.iload_n 3, 1) := by decide +kernel
theorem dX9_isTaken_28 : decode cX9_isTaken 28 = .ok (.invokevirtual 262, 3) := by decide +kernel
theorem dX9_isTaken_31 : decode cX9_isTaken 31 = .ok (.ifCond .eq 7, 3) := by decide +kernel
theorem dX9_isTaken_34 : decode cX9_isTaken 34 = .ok (.iconst 1, 1) := by decide +kernel
theorem dX9_isTaken_35 : decode cX9_isTaken 35 = .ok (.goto 4, 3) := by decide +kernel
theorem dX9_isTaken_38 : decode cX9_isTaken 38 = .ok (.iconst 0, 1) := by decide +kernel
theorem dX9_isTaken_39 : decode cX9_isTaken 39 = .ok (.istore_n 2, 1) := by decide +kernel
theorem dX9_isTaken_40 : decode cX9_isTaken 40 = .ok (.iinc 3 1, 3) := by decide +kernel
theorem dX9_isTaken_43 : decode cX9_isTaken 43 = .ok (.goto (-39), 3) := by decide +kernel
theorem dX9_isTaken_46 : decode cX9_isTaken 46 = .ok (.iload_n 2, 1) := by decide +kernel
theorem dX9_isTaken_47 : decode cX9_isTaken 47 = .ok (.ireturn, 1) := by decide +kernel
theorem dX9_shares_0 : decode cX9_shares 0 = .ok (.iconst 0, 1) := by decide +kernel
theorem dX9_shares_1 : decode cX9_shares 1 = .ok (.istore_n 2, 1) := by decide +kernel
theorem dX9_shares_2 : decode cX9_shares 2 = .ok (.iconst 0, 1) := by decide +kernel
theorem dX9_shares_3 : decode cX9_shares 3 = .ok (.istore_n 3, 1) := by decide +kernel
theorem dX9_shares_4 : decode cX9_shares 4 = .ok (.iload_n 3, 1) := by decide +kernel
theorem dX9_shares_5 : decode cX9_shares 5 = .ok (.aload_n 0, 1) := by decide +kernel
theorem dX9_shares_6 : decode cX9_shares 6 = .ok (.getfield 162, 3) := by decide +kernel
theorem dX9_shares_9 : decode cX9_shares 9 = .ok (.if_icmp .ge 56, 3) := by decide +kernel
theorem dX9_shares_12 : decode cX9_shares 12 = .ok (.iload_n 2, 1) := by decide +kernel
theorem dX9_shares_13 : decode cX9_shares 13 = .ok (.ifCond .ne 40, 3) := by decide +kernel
theorem dX9_shares_16 : decode cX9_shares 16 = .ok (.aload_n 0, 1) := by decide +kernel
theorem dX9_shares_17 : decode cX9_shares 17 = .ok (.getfield 116, 3) := by decide +kernel
theorem dX9_shares_20 : decode cX9_shares 20 = .ok (.bipush 24, 2) := by decide +kernel
theorem dX9_shares_22 : decode cX9_shares 22 = .ok (.iload_n 1, 1) := by decide +kernel
theorem dX9_shares_23 : decode cX9_shares 23 = .ok (.imul, 1) := by decide +kernel
theorem dX9_shares_24 : decode cX9_shares 24 = .ok (.iload_n 3, 1) := by decide +kernel
theorem dX9_shares_25 : decode cX9_shares 25 = .ok (.iadd, 1) := by decide +kernel
theorem dX9_shares_26 : decode cX9_shares 26 = .ok (.baload, 1) := by decide +kernel
theorem dX9_shares_27 : decode cX9_shares 27 = .ok (.ifCond .eq 30, 3) := by decide +kernel
theorem dX9_shares_30 : decode cX9_shares 30 = .ok (.aload_n 0, 1) := by decide +kernel
theorem dX9_shares_31 : decode cX9_shares 31 = .ok (.getfield 74, 3) := by decide +kernel
theorem dX9_shares_34 : decode cX9_shares 34 = .ok (.iload_n 3, 1) := by decide +kernel
theorem dX9_shares_35 : decode cX9_shares 35 = .ok (.iaload, 1) := by decide +kernel
theorem dX9_shares_36 : decode cX9_shares 36 = .ok (.aload_n 0, 1) := by decide +kernel
theorem dX9_shares_37 : decode cX9_shares 37 = .ok (.getfield 74, 3) := by decide +kernel
theorem dX9_shares_40 : decode cX9_shares 40 = .ok (.iload_n 1, 1) := by decide +kernel
theorem dX9_shares_41 : decode cX9_shares 41 = .ok (.iaload, 1) := by decide +kernel
theorem dX9_shares_42 : decode cX9_shares 42 = .ok (.if_icmp .ne 15, 3) := by decide +kernel
theorem dX9_shares_45 : decode cX9_shares 45 = .ok (.aload_n 0, 1) := by decide +kernel
theorem dX9_shares_46 : decode cX9_shares 46 = .ok (.iload_n 3, 1) := by decide +kernel
theorem dX9_shares_47 : decode cX9_shares 47 = .ok (.invokevirtual 262, 3) := by decide +kernel
theorem dX9_shares_50 : decode cX9_shares 50 = .ok (.ifCond .eq 7, 3) := by decide +kernel
theorem dX9_shares_53 : decode cX9_shares 53 = .ok (.iconst 1, 1) := by decide +kernel
theorem dX9_shares_54 : decode cX9_shares 54 = .ok (.goto 4, 3) := by decide +kernel
theorem dX9_shares_57 : decode cX9_shares 57 = .ok (.iconst 0, 1) := by decide +kernel
theorem dX9_shares_58 : decode cX9_shares 58 = .ok (.istore_n 2, 1) := by decide +kernel
theorem dX9_shares_59 : decode cX9_shares 59 = .ok (.iinc 3 1, 3) := by decide +kernel
theorem dX9_shares_62 : decode cX9_shares 62 = .ok (.goto (-58), 3) := by decide +kernel
theorem dX9_shares_65 : decode cX9_shares 65 = .ok (.iload_n 2, 1) := by decide +kernel
theorem dX9_shares_66 : decode cX9_shares 66 = .ok (.ireturn, 1) := by decide +kernel
theorem dX9_rents_0 : decode cX9_rents 0 = .ok (.iconst 0, 1) := by decide +kernel
theorem dX9_rents_1 : decode cX9_rents 1 = .ok (.istore_n 1, 1) := by decide +kernel
theorem dX9_rents_2 : decode cX9_rents 2 = .ok (.iload_n 1, 1) := by decide +kernel
theorem dX9_rents_3 : decode cX9_rents 3 = .ok (.aload_n 0, 1) := by decide +kernel
theorem dX9_rents_4 : decode cX9_rents 4 = .ok (.getfield 162, 3) := by decide +kernel
theorem dX9_rents_7 : decode cX9_rents 7 = .ok (.if_icmp .ge 81, 3) := by decide +kernel
theorem dX9_rents_10 : decode cX9_rents 10 = .ok (.aload_n 0, 1) := by decide +kernel
theorem dX9_rents_11 : decode cX9_rents 11 = .ok (.iload_n 1, 1) := by decide +kernel
theorem dX9_rents_12 : decode cX9_rents 12 = .ok (.invokevirtual 262, 3) := by decide +kernel
theorem dX9_rents_15 : decode cX9_rents 15 = .ok (.ifCond .eq 67, 3) := by decide +kernel
theorem dX9_rents_18 : decode cX9_rents 18 = .ok (.bipush 50, 2) := by decide +kernel
theorem dX9_rents_20 : decode cX9_rents 20 = .ok (.aload_n 0, 1) := by decide +kernel
theorem dX9_rents_21 : decode cX9_rents 21 = .ok (.iload_n 1, 1) := by decide +kernel
theorem dX9_rents_22 : decode cX9_rents 22 = .ok (.invokevirtual 265, 3) := by decide +kernel
theorem dX9_rents_25 : decode cX9_rents 25 = .ok (.imul, 1) := by decide +kernel
theorem dX9_rents_26 : decode cX9_rents 26 = .ok (.istore_n 2, 1) := by decide +kernel
theorem dX9_rents_27 : decode cX9_rents 27 = .ok (.aload_n 0, 1) := by decide +kernel
theorem dX9_rents_28 : decode cX9_rents 28 = .ok (.aload_n 0, 1) := by decide +kernel
theorem dX9_rents_29 : decode cX9_rents 29 = .ok (.getfield 71, 3) := by decide +kernel
theorem dX9_rents_32 : decode cX9_rents 32 = .ok (.iload_n 1, 1) := by decide +kernel
theorem dX9_rents_33 : decode cX9_rents 33 = .ok (.iaload, 1) := by decide +kernel
theorem dX9_rents_34 : decode cX9_rents 34 = .ok (.iconst 5, 1) := by decide +kernel
theorem dX9_rents_35 : decode cX9_rents 35 = .ok (.aload_n 0, 1) := by decide +kernel
theorem dX9_rents_36 : decode cX9_rents 36 = .ok (.iload_n 1, 1) := by decide +kernel
theorem dX9_rents_37 : decode cX9_rents 37 = .ok (.invokevirtual 268, 3) := by decide +kernel
theorem dX9_rents_40 : decode cX9_rents 40 = .ok (.ifCond .eq 9, 3) := by decide +kernel
theorem dX9_rents_43 : decode cX9_rents 43 = .ok (.iload_n 2, 1) := by decide +kernel
theorem dX9_rents_44 : decode cX9_rents 44 = .ok (.iconst 2, 1) := by decide +kernel
theorem dX9_rents_45 : decode cX9_rents 45 = .ok (.idiv, 1) := by decide +kernel
theorem dX9_rents_46 : decode cX9_rents 46 = .ok (.goto 4, 3) := by decide +kernel
theorem dX9_rents_49 : decode cX9_rents 49 = .ok (.iload_n 2, 1) := by decide +kernel
theorem dX9_rents_50 : decode cX9_rents 50 = .ok (.invokevirtual 230, 3) := by decide +kernel
theorem dX9_rents_53 : decode cX9_rents 53 = .ok (.aload_n 0, 1) := by decide +kernel
theorem dX9_rents_54 : decode cX9_rents 54 = .ok (.aload_n 0, 1) := by decide +kernel
theorem dX9_rents_55 : decode cX9_rents 55 = .ok (.getfield 71, 3) := by decide +kernel
theorem dX9_rents_58 : decode cX9_rents 58 = .ok (.iload_n 1, 1) := by decide +kernel
theorem dX9_rents_59 : decode cX9_rents 59 = .ok (.iaload, 1) := by decide +kernel
theorem dX9_rents_60 : decode cX9_rents 60 = .ok (.iconst 5, 1) := by decide +kernel
theorem dX9_rents_61 : decode cX9_rents 61 = .ok (.aload_n 0, 1) := by decide +kernel
theorem dX9_rents_62 : decode cX9_rents 62 = .ok (.getfield 101, 3) := by decide +kernel
theorem dX9_rents_65 : decode cX9_rents 65 = .ok (.iload_n 1, 1) := by decide +kernel
theorem dX9_rents_66 : decode cX9_rents 66 = .ok (.iaload, 1) := by decide +kernel
theorem dX9_rents_67 : decode cX9_rents 67 = .ok (.iconst 2, 1) := by decide +kernel
theorem dX9_rents_68 : decode cX9_rents 68 = .ok (.iand, 1) := by decide +kernel
theorem dX9_rents_69 : decode cX9_rents 69 = .ok (.ifCond .eq 9, 3) := by decide +kernel
theorem dX9_rents_72 : decode cX9_rents 72 = .ok (.sipush 200, 3) := by decide +kernel
theorem dX9_rents_75 : decode cX9_rents 75 = .ok (.goto 4, 3) := by decide +kernel
theorem dX9_rents_78 : decode cX9_rents 78 = .ok (.iconst 0, 1) := by decide +kernel
theorem dX9_rents_79 : decode cX9_rents 79 = .ok (.invokevirtual 230, 3) := by decide +kernel
theorem dX9_rents_82 : decode cX9_rents 82 = .ok (.iinc 1 1, 3) := by decide +kernel
theorem dX9_rents_85 : decode cX9_rents 85 = .ok (.goto (-83), 3) := by decide +kernel
theorem dX9_rents_88 : decode cX9_rents 88 = .ok (.return_, 1) := by decide +kernel
theorem dX9_waits_0 : decode cX9_waits 0 = .ok (.iconst 0, 1) := by decide +kernel
theorem dX9_waits_1 : decode cX9_waits 1 = .ok (.istore_n 1, 1) := by decide +kernel
theorem dX9_waits_2 : decode cX9_waits 2 = .ok (.iload_n 1, 1) := by decide +kernel
theorem dX9_waits_3 : decode cX9_waits 3 = .ok (.aload_n 0, 1) := by decide +kernel
theorem dX9_waits_4 : decode cX9_waits 4 = .ok (.getfield 148, 3) := by decide +kernel
theorem dX9_waits_7 : decode cX9_waits 7 = .ok (.if_icmp .ge 16, 3) := by decide +kernel
theorem dX9_waits_10 : decode cX9_waits 10 = .ok (.aload_n 0, 1) := by decide +kernel
theorem dX9_waits_11 : decode cX9_waits 11 = .ok (.getfield 37, 3) := by decide +kernel
theorem dX9_waits_14 : decode cX9_waits 14 = .ok (.iload_n 1, 1) := by decide +kernel
theorem dX9_waits_15 : decode cX9_waits 15 = .ok (.iconst 0, 1) := by decide +kernel
theorem dX9_waits_16 : decode cX9_waits 16 = .ok (.iastore, 1) := by decide +kernel
theorem dX9_waits_17 : decode cX9_waits 17 = .ok (.iinc 1 1, 3) := by decide +kernel
theorem dX9_waits_20 : decode cX9_waits 20 = .ok (.goto (-18), 3) := by decide +kernel
theorem dX9_waits_23 : decode cX9_waits 23 = .ok (.iconst 0, 1) := by decide +kernel
theorem dX9_waits_24 : decode cX9_waits 24 = .ok (.istore_n 1, 1) := by decide +kernel
theorem dX9_waits_25 : decode cX9_waits 25 = .ok (.iload_n 1, 1) := by decide +kernel
theorem dX9_waits_26 : decode cX9_waits 26 = .ok (.aload_n 0, 1) := by decide +kernel
theorem dX9_waits_27 : decode cX9_waits 27 = .ok (.getfield 148, 3) := by decide +kernel
theorem dX9_waits_30 : decode cX9_waits 30 = .ok (.if_icmp .ge 76, 3) := by decide +kernel
theorem dX9_waits_33 : decode cX9_waits 33 = .ok (.aload_n 0, 1) := by decide +kernel
theorem dX9_waits_34 : decode cX9_waits 34 = .ok (.iload_n 1, 1) := by decide +kernel
theorem dX9_waits_35 : decode cX9_waits 35 = .ok (.invokevirtual 271, 3) := by decide +kernel
theorem dX9_waits_38 : decode cX9_waits 38 = .ok (.ifCond .eq 24, 3) := by decide +kernel
theorem dX9_waits_41 : decode cX9_waits 41 = .ok (.aload_n 0, 1) := by decide +kernel
theorem dX9_waits_42 : decode cX9_waits 42 = .ok (.getfield 19, 3) := by decide +kernel
theorem dX9_waits_45 : decode cX9_waits 45 = .ok (.iload_n 1, 1) := by decide +kernel
theorem dX9_waits_46 : decode cX9_waits 46 = .ok (.iaload, 1) := by decide +kernel
theorem dX9_waits_47 : decode cX9_waits 47 = .ok (.iconst (-1), 1) := by decide +kernel
theorem dX9_waits_48 : decode cX9_waits 48 = .ok (.if_icmp .eq 14, 3) := by decide +kernel
theorem dX9_waits_51 : decode cX9_waits 51 = .ok (.aload_n 0, 1) := by decide +kernel
theorem dX9_waits_52 : decode cX9_waits 52 = .ok (.getfield 16, 3) := by decide +kernel
theorem dX9_waits_55 : decode cX9_waits 55 = .ok (.iload_n 1, 1) := by decide +kernel
theorem dX9_waits_56 : decode cX9_waits 56 = .ok (.iaload, 1) := by decide +kernel
theorem dX9_waits_57 : decode cX9_waits 57 = .ok (.iconst 2, 1) := by decide +kernel
theorem dX9_waits_58 : decode cX9_waits 58 = .ok (.idiv, 1) := by decide +kernel
theorem dX9_waits_59 : decode cX9_waits 59 = .ok (.goto 4, 3) := by decide +kernel
theorem dX9_waits_62 : decode cX9_waits 62 = .ok (.iconst 0, 1) := by decide +kernel
theorem dX9_waits_63 : decode cX9_waits 63 = .ok (.istore_n 2, 1) := by decide +kernel
theorem dX9_waits_64 : decode cX9_waits 64 = .ok (.aload_n 0, 1) := by decide +kernel
theorem dX9_waits_65 : decode cX9_waits 65 = .ok (.getfield 37, 3) := by decide +kernel
theorem dX9_waits_68 : decode cX9_waits 68 = .ok (.iload_n 1, 1) := by decide +kernel
theorem dX9_waits_69 : decode cX9_waits 69 = .ok (.dup2, 1) := by decide +kernel
theorem dX9_waits_70 : decode cX9_waits 70 = .ok (.iaload, 1) := by decide +kernel
theorem dX9_waits_71 : decode cX9_waits 71 = .ok (.aload_n 0, 1) := by decide +kernel
theorem dX9_waits_72 : decode cX9_waits 72 = .ok (.getfield 16, 3) := by decide +kernel
theorem dX9_waits_75 : decode cX9_waits 75 = .ok (.iload_n 1, 1) := by decide +kernel
theorem dX9_waits_76 : decode cX9_waits 76 = .ok (.iaload, 1) := by decide +kernel
theorem dX9_waits_77 : decode cX9_waits 77 = .ok (.iload_n 2, 1) := by decide +kernel
theorem dX9_waits_78 : decode cX9_waits 78 = .ok (.isub, 1) := by decide +kernel
theorem dX9_waits_79 : decode cX9_waits 79 = .ok (.iadd, 1) := by decide +kernel
theorem dX9_waits_80 : decode cX9_waits 80 = .ok (.iastore, 1) := by decide +kernel
theorem dX9_waits_81 : decode cX9_waits 81 = .ok (.iload_n 2, 1) := by decide +kernel
theorem dX9_waits_82 : decode cX9_waits 82 = .ok (.ifCond .le 18, 3) := by decide +kernel
theorem dX9_waits_85 : decode cX9_waits 85 = .ok (.aload_n 0, 1) := by decide +kernel
theorem dX9_waits_86 : decode cX9_waits 86 = .ok (.getfield 37, 3) := by decide +kernel
theorem dX9_waits_89 : decode cX9_waits 89 = .ok (.aload_n 0, 1) := by decide +kernel
theorem dX9_waits_90 : decode cX9_waits 90 = .ok (.getfield 19, 3) := by decide +kernel
theorem dX9_waits_93 : decode cX9_waits 93 = .ok (.iload_n 1, 1) := by decide +kernel
theorem dX9_waits_94 : decode cX9_waits 94 = .ok (.iaload, 1) := by decide +kernel
theorem dX9_waits_95 : decode cX9_waits 95 = .ok (.dup2, 1) := by decide +kernel
theorem dX9_waits_96 : decode cX9_waits 96 = .ok (.iaload, 1) := by decide +kernel
theorem dX9_waits_97 : decode cX9_waits 97 = .ok (.iload_n 2, 1) := by decide +kernel
theorem dX9_waits_98 : decode cX9_waits 98 = .ok (.iadd, 1) := by decide +kernel
theorem dX9_waits_99 : decode cX9_waits 99 = .ok (.iastore, 1) := by decide +kernel
theorem dX9_waits_100 : decode cX9_waits 100 = .ok (.iinc 1 1, 3) := by decide +kernel
theorem dX9_waits_103 : decode cX9_waits 103 = .ok (.goto (-78), 3) := by decide +kernel
theorem dX9_waits_106 : decode cX9_waits 106 = .ok (.iconst 0, 1) := by decide +kernel
theorem dX9_waits_107 : decode cX9_waits 107 = .ok (.istore_n 1, 1) := by decide +kernel
theorem dX9_waits_108 : decode cX9_waits 108 = .ok (.iload_n 1, 1) := by decide +kernel
theorem dX9_waits_109 : decode cX9_waits 109 = .ok (.aload_n 0, 1) := by decide +kernel
theorem dX9_waits_110 : decode cX9_waits 110 = .ok (.getfield 148, 3) := by decide +kernel
theorem dX9_waits_113 : decode cX9_waits 113 = .ok (.if_icmp .ge 71, 3) := by decide +kernel
theorem dX9_waits_116 : decode cX9_waits 116 = .ok (.bipush 100, 2) := by decide +kernel
theorem dX9_waits_118 : decode cX9_waits 118 = .ok (.bipush 40, 2) := by decide +kernel
theorem dX9_waits_120 : decode cX9_waits 120 = .ok (.iconst 3, 1) := by decide +kernel
theorem dX9_waits_121 : decode cX9_waits 121 = .ok (.aload_n 0, 1) := by decide +kernel
theorem dX9_waits_122 : decode cX9_waits 122 = .ok (.getfield 13, 3) := by decide +kernel
theorem dX9_waits_125 : decode cX9_waits 125 = .ok (.iload_n 1, 1) := by decide +kernel
theorem dX9_waits_126 : decode cX9_waits 126 = .ok (.iaload, 1) := by decide +kernel
theorem dX9_waits_127 : decode cX9_waits 127 = .ok (.isub, 1) := by decide +kernel
theorem dX9_waits_128 : decode cX9_waits 128 = .ok (.imul, 1) := by decide +kernel
theorem dX9_waits_129 : decode cX9_waits 129 = .ok (.iadd, 1) := by decide +kernel
theorem dX9_waits_130 : decode cX9_waits 130 = .ok (.istore_n 2, 1) := by decide +kernel
theorem dX9_waits_131 : decode cX9_waits 131 = .ok (.aload_n 0, 1) := by decide +kernel
theorem dX9_waits_132 : decode cX9_waits 132 = .ok (.iload_n 1, 1) := by decide +kernel
theorem dX9_waits_133 : decode cX9_waits 133 = .ok (.invokevirtual 271, 3) := by decide +kernel
theorem dX9_waits_136 : decode cX9_waits 136 = .ok (.ifCond .eq 9, 3) := by decide +kernel
theorem dX9_waits_139 : decode cX9_waits 139 = .ok (.iload_n 2, 1) := by decide +kernel
theorem dX9_waits_140 : decode cX9_waits 140 = .ok (.iconst 2, 1) := by decide +kernel
theorem dX9_waits_141 : decode cX9_waits 141 = .ok (.idiv, 1) := by decide +kernel
theorem dX9_waits_142 : decode cX9_waits 142 = .ok (.goto 4, 3) := by decide +kernel
theorem dX9_waits_145 : decode cX9_waits 145 = .ok (.iload_n 2, 1) := by decide +kernel
theorem dX9_waits_146 : decode cX9_waits 146 = .ok (.istore_n 2, 1) := by decide +kernel
theorem dX9_waits_147 : decode cX9_waits 147 = .ok (.aload_n 0, 1) := by decide +kernel
theorem dX9_waits_148 : decode cX9_waits 148 = .ok (.getfield 34, 3) := by decide +kernel
theorem dX9_waits_151 : decode cX9_waits 151 = .ok (.iload_n 1, 1) := by decide +kernel
theorem dX9_waits_152 : decode cX9_waits 152 = .ok (.iaload, 1) := by decide +kernel
theorem dX9_waits_153 : decode cX9_waits 153 = .ok (.aload_n 0, 1) := by decide +kernel
theorem dX9_waits_154 : decode cX9_waits 154 = .ok (.getfield 37, 3) := by decide +kernel
theorem dX9_waits_157 : decode cX9_waits 157 = .ok (.iload_n 1, 1) := by decide +kernel
theorem dX9_waits_158 : decode cX9_waits 158 = .ok (.iaload, 1) := by decide +kernel
theorem dX9_waits_159 : decode cX9_waits 159 = .ok (.iadd, 1) := by decide +kernel
theorem dX9_waits_160 : decode cX9_waits 160 = .ok (.iload_n 2, 1) := by decide +kernel
theorem dX9_waits_161 : decode cX9_waits 161 = .ok (.isub, 1) := by decide +kernel
theorem dX9_waits_162 : decode cX9_waits 162 = .ok (.istore_n 3, 1) := by decide +kernel
theorem dX9_waits_163 : decode cX9_waits 163 = .ok (.aload_n 0, 1) := by decide +kernel
theorem dX9_waits_164 : decode cX9_waits 164 = .ok (.getfield 34, 3) := by decide +kernel
theorem dX9_waits_167 : decode cX9_waits 167 = .ok (.iload_n 1, 1) := by decide +kernel
theorem dX9_waits_168 : decode cX9_waits 168 = .ok (.iload_n 3, 1) := by decide +kernel
theorem dX9_waits_169 : decode cX9_waits 169 = .ok (.ifCond .ge 7, 3) := by decide +kernel
theorem dX9_waits_172 : decode cX9_waits 172 = .ok (.iconst 0, 1) := by decide +kernel
theorem dX9_waits_173 : decode cX9_waits 173 = .ok (.goto 4, 3) := by decide +kernel
theorem dX9_waits_176 : decode cX9_waits 176 = .ok (.iload_n 3, 1) := by decide +kernel
theorem dX9_waits_177 : decode cX9_waits 177 = .ok (.iastore, 1) := by decide +kernel
theorem dX9_waits_178 : decode cX9_waits 178 = .ok (.iinc 1 1, 3) := by decide +kernel
theorem dX9_waits_181 : decode cX9_waits 181 = .ok (.goto (-73), 3) := by decide +kernel
theorem dX9_waits_184 : decode cX9_waits 184 = .ok (.return_, 1) := by decide +kernel
theorem dX9_goesBy_0 : decode cX9_goesBy 0 = .ok (.aload_n 0, 1) := by decide +kernel
theorem dX9_goesBy_1 : decode cX9_goesBy 1 = .ok (.dup, 1) := by decide +kernel
theorem dX9_goesBy_2 : decode cX9_goesBy 2 = .ok (.getfield 165, 3) := by decide +kernel
theorem dX9_goesBy_5 : decode cX9_goesBy 5 = .ok (.iconst 1, 1) := by decide +kernel
theorem dX9_goesBy_6 : decode cX9_goesBy 6 = .ok (.iadd, 1) := by decide +kernel
theorem dX9_goesBy_7 : decode cX9_goesBy 7 = .ok (.putfield 165, 3) := by decide +kernel
theorem dX9_goesBy_10 : decode cX9_goesBy 10 = .ok (.aload_n 0, 1) := by decide +kernel
theorem dX9_goesBy_11 : decode cX9_goesBy 11 = .ok (.getfield 165, 3) := by decide +kernel
theorem dX9_goesBy_14 : decode cX9_goesBy 14 = .ok (.bipush 24, 2) := by decide +kernel
theorem dX9_goesBy_16 : decode cX9_goesBy 16 = .ok (.irem, 1) := by decide +kernel
theorem dX9_goesBy_17 : decode cX9_goesBy 17 = .ok (.ifCond .ne 65, 3) := by decide +kernel
theorem dX9_goesBy_20 : decode cX9_goesBy 20 = .ok (.aload_n 0, 1) := by decide +kernel
theorem dX9_goesBy_21 : decode cX9_goesBy 21 = .ok (.invokevirtual 274, 3) := by decide +kernel
theorem dX9_goesBy_24 : decode cX9_goesBy 24 = .ok (.iconst 0, 1) := by decide +kernel
theorem dX9_goesBy_25 : decode cX9_goesBy 25 = .ok (.istore_n 1, 1) := by decide +kernel
theorem dX9_goesBy_26 : decode cX9_goesBy 26 = .ok (.iload_n 1, 1) := by decide +kernel
theorem dX9_goesBy_27 : decode cX9_goesBy 27 = .ok (.aload_n 0, 1) := by decide +kernel
theorem dX9_goesBy_28 : decode cX9_goesBy 28 = .ok (.getfield 162, 3) := by decide +kernel
theorem dX9_goesBy_31 : decode cX9_goesBy 31 = .ok (.if_icmp .ge 51, 3) := by decide +kernel
theorem dX9_goesBy_34 : decode cX9_goesBy 34 = .ok (.aload_n 0, 1) := by decide +kernel
theorem dX9_goesBy_35 : decode cX9_goesBy 35 = .ok (.getfield 98, 3) := by decide +kernel
theorem dX9_goesBy_38 : decode cX9_goesBy 38 = .ok (.iload_n 1, 1) := by decide +kernel
theorem dX9_goesBy_39 : decode cX9_goesBy 39 = .ok (.iaload, 1) := by decide +kernel
theorem dX9_goesBy_40 : decode cX9_goesBy 40 = .ok (.iconst 3, 1) := by decide +kernel
theorem dX9_goesBy_41 : decode cX9_goesBy 41 = .ok (.if_icmp .ne 35, 3) := by decide +kernel
theorem dX9_goesBy_44 : decode cX9_goesBy 44 = .ok (.aload_n 0, 1) := by decide +kernel
theorem dX9_goesBy_45 : decode cX9_goesBy 45 = .ok (.iload_n 1, 1) := by decide +kernel
theorem dX9_goesBy_46 : decode cX9_goesBy 46 = .ok (.invokevirtual 208, 3) := by decide +kernel
theorem dX9_goesBy_49 : decode cX9_goesBy 49 = .ok (.aload_n 0, 1) := by decide +kernel
theorem dX9_goesBy_50 : decode cX9_goesBy 50 = .ok (.invokevirtual 175, 3) := by decide +kernel
theorem dX9_goesBy_53 : decode cX9_goesBy 53 = .ok (.if_icmp .ge 23, 3) := by decide +kernel
theorem dX9_goesBy_56 : decode cX9_goesBy 56 = .ok (.aload_n 0, 1) := by decide +kernel
theorem dX9_goesBy_57 : decode cX9_goesBy 57 = .ok (.aload_n 0, 1) := by decide +kernel
theorem dX9_goesBy_58 : decode cX9_goesBy 58 = .ok (.getfield 71, 3) := by decide +kernel
theorem dX9_goesBy_61 : decode cX9_goesBy 61 = .ok (.iload_n 1, 1) := by decide +kernel
theorem dX9_goesBy_62 : decode cX9_goesBy 62 = .ok (.iaload, 1) := by decide +kernel
theorem dX9_goesBy_63 : decode cX9_goesBy 63 = .ok (.iconst 5, 1) := by decide +kernel
theorem dX9_goesBy_64 : decode cX9_goesBy 64 = .ok (.sipush 500, 3) := by decide +kernel
theorem dX9_goesBy_67 : decode cX9_goesBy 67 = .ok (.aload_n 0, 1) := by decide +kernel
theorem dX9_goesBy_68 : decode cX9_goesBy 68 = .ok (.iload_n 1, 1) := by decide +kernel
theorem dX9_goesBy_69 : decode cX9_goesBy 69 = .ok (.invokevirtual 265, 3) := by decide +kernel
theorem dX9_goesBy_72 : decode cX9_goesBy 72 = .ok (.imul, 1) := by decide +kernel
theorem dX9_goesBy_73 : decode cX9_goesBy 73 = .ok (.invokevirtual 230, 3) := by decide +kernel
theorem dX9_goesBy_76 : decode cX9_goesBy 76 = .ok (.iinc 1 1, 3) := by decide +kernel
theorem dX9_goesBy_79 : decode cX9_goesBy 79 = .ok (.goto (-53), 3) := by decide +kernel
theorem dX9_goesBy_82 : decode cX9_goesBy 82 = .ok (.aload_n 0, 1) := by decide +kernel
theorem dX9_goesBy_83 : decode cX9_goesBy 83 = .ok (.invokevirtual 243, 3) := by decide +kernel
theorem dX9_goesBy_86 : decode cX9_goesBy 86 = .ok (.ifCond .eq 7, 3) := by decide +kernel
theorem dX9_goesBy_89 : decode cX9_goesBy 89 = .ok (.aload_n 0, 1) := by decide +kernel
theorem dX9_goesBy_90 : decode cX9_goesBy 90 = .ok (.invokevirtual 277, 3) := by decide +kernel
theorem dX9_goesBy_93 : decode cX9_goesBy 93 = .ok (.aload_n 0, 1) := by decide +kernel
theorem dX9_goesBy_94 : decode cX9_goesBy 94 = .ok (.invokevirtual 280, 3) := by decide +kernel
theorem dX9_goesBy_97 : decode cX9_goesBy 97 = .ok (.return_, 1) := by decide +kernel
theorem dX9_pass_0 : decode cX9_pass 0 = .ok (.iload_n 1, 1) := by decide +kernel
theorem dX9_pass_1 : decode cX9_pass 1 = .ok (.iconst 1, 1) := by decide +kernel
theorem dX9_pass_2 : decode cX9_pass 2 = .ok (.sipush 200, 3) := by decide +kernel
theorem dX9_pass_5 : decode cX9_pass 5 = .ok (.invokestatic 151, 3) := by decide +kernel
theorem dX9_pass_8 : decode cX9_pass 8 = .ok (.istore_n 2, 1) := by decide +kernel
theorem dX9_pass_9 : decode cX9_pass 9 = .ok (.aload_n 0, 1) := by decide +kernel
theorem dX9_pass_10 : decode cX9_pass 10 = .ok (.iload_n 2, 1) := by decide +kernel
theorem dX9_pass_11 : decode cX9_pass 11 = .ok (.ifCond .ne 7, 3) := by decide +kernel
theorem dX9_pass_14 : decode cX9_pass 14 = .ok (.iconst 1, 1) := by decide +kernel
theorem dX9_pass_15 : decode cX9_pass 15 = .ok (.goto 20, 3) := by decide +kernel
theorem dX9_pass_18 : decode cX9_pass 18 = .ok (.aload_n 0, 1) := by decide +kernel
theorem dX9_pass_19 : decode cX9_pass 19 = .ok (.getfield 165, 3) := by decide +kernel
theorem dX9_pass_22 : decode cX9_pass 22 = .ok (.iload_n 1, 1) := by decide +kernel
theorem dX9_pass_23 : decode cX9_pass 23 = .ok (.iadd, 1) := by decide +kernel
theorem dX9_pass_24 : decode cX9_pass 24 = .ok (.sipush 9999, 3) := by decide +kernel
theorem dX9_pass_27 : decode cX9_pass 27 = .ok (.if_icmp .le 7, 3) := by decide +kernel
theorem dX9_pass_30 : decode cX9_pass 30 = .ok (.iconst 2, 1) := by decide +kernel
theorem dX9_pass_31 : decode cX9_pass 31 = .ok (.goto 4, 3) := by decide +kernel
theorem dX9_pass_34 : decode cX9_pass 34 = .ok (.iconst 0, 1) := by decide +kernel
theorem dX9_pass_35 : decode cX9_pass 35 = .ok (.invokevirtual 168, 3) := by decide +kernel
theorem dX9_pass_38 : decode cX9_pass 38 = .ok (.ifCond .ne 5, 3) := by decide +kernel
theorem dX9_pass_41 : decode cX9_pass 41 = .ok (.iconst 0, 1) := by decide +kernel
theorem dX9_pass_42 : decode cX9_pass 42 = .ok (.ireturn, 1) := by decide +kernel
theorem dX9_pass_43 : decode cX9_pass 43 = .ok (.iconst 0, 1) := by decide +kernel
theorem dX9_pass_44 : decode cX9_pass 44 = .ok (.istore_n 3, 1) := by decide +kernel
theorem dX9_pass_45 : decode cX9_pass 45 = .ok (.iload_n 3, 1) := by decide +kernel
theorem dX9_pass_46 : decode cX9_pass 46 = .ok (.iload_n 1, 1) := by decide +kernel
theorem dX9_pass_47 : decode cX9_pass 47 = .ok (.if_icmp .ge 13, 3) := by decide +kernel
theorem dX9_pass_50 : decode cX9_pass 50 = .ok (.aload_n 0, 1) := by decide +kernel
theorem dX9_pass_51 : decode cX9_pass 51 = .ok (.invokevirtual 283, 3) := by decide +kernel
theorem dX9_pass_54 : decode cX9_pass 54 = .ok (.iinc 3 1, 3) := by decide +kernel
theorem dX9_pass_57 : decode cX9_pass 57 = .ok (.goto (-12), 3) := by decide +kernel
theorem dX9_pass_60 : decode cX9_pass 60 = .ok (.aload_n 0, 1) := by decide +kernel
theorem dX9_pass_61 : decode cX9_pass 61 = .ok (.getfield 165, 3) := by decide +kernel
theorem dX9_pass_64 : decode cX9_pass 64 = .ok (.ireturn, 1) := by decide +kernel
theorem dX9_liableFor_0 : decode cX9_liableFor 0 = .ok (.iconst (-1), 1) := by decide +kernel
theorem dX9_liableFor_1 : decode cX9_liableFor 1 = .ok (.istore 4, 2) := by decide +kernel
theorem dX9_liableFor_3 : decode cX9_liableFor 3 = .ok (.iconst 0, 1) := by decide +kernel
theorem dX9_liableFor_4 : decode cX9_liableFor 4 = .ok (.istore 5, 2) := by decide +kernel
theorem dX9_liableFor_6 : decode cX9_liableFor 6 = .ok (.iload 5, 2) := by decide +kernel
theorem dX9_liableFor_8 : decode cX9_liableFor 8 = .ok (.aload_n 0, 1) := by decide +kernel
theorem dX9_liableFor_9 : decode cX9_liableFor 9 = .ok (.getfield 179, 3) := by decide +kernel
theorem dX9_liableFor_12 : decode cX9_liableFor 12 = .ok (.if_icmp .ge 50, 3) := by decide +kernel
theorem dX9_liableFor_15 : decode cX9_liableFor 15 = .ok (.aload_n 0, 1) := by decide +kernel
theorem dX9_liableFor_16 : decode cX9_liableFor 16 = .ok (.getfield 119, 3) := by decide +kernel
theorem dX9_liableFor_19 : decode cX9_liableFor 19 = .ok (.iload 5, 2) := by decide +kernel
theorem dX9_liableFor_21 : decode cX9_liableFor 21 = .ok (.iaload, 1) := by decide +kernel
theorem dX9_liableFor_22 : decode cX9_liableFor 22 = .ok (.bipush 40, 2) := by decide +kernel
theorem dX9_liableFor_24 : decode cX9_liableFor 24 = .ok (.iload_n 1, 1) := by decide +kernel
theorem dX9_liableFor_25 : decode cX9_liableFor 25 = .ok (.imul, 1) := by decide +kernel
theorem dX9_liableFor_26 : decode cX9_liableFor 26 = .ok (.iload_n 2, 1) := by decide +kernel
theorem dX9_liableFor_27 : decode cX9_liableFor 27 = .ok (.iadd, 1) := by decide +kernel
theorem dX9_liableFor_28 : decode cX9_liableFor 28 = .ok (.if_icmp .ne 24, 3) := by decide +kernel
theorem dX9_liableFor_31 : decode cX9_liableFor 31 = .ok (.aload_n 0, 1) := by decide +kernel
theorem dX9_liableFor_32 : decode cX9_liableFor 32 = .ok (.getfield 83, 3) := by decide +kernel
theorem dX9_liableFor_35 : decode cX9_liableFor 35 = .ok (.aload_n 0, 1) := by decide +kernel
theorem dX9_liableFor_36 : decode cX9_liableFor 36 = .ok (.getfield 122, 3) := by decide +kernel
theorem dX9_liableFor_39 : decode cX9_liableFor 39 = .ok (.iload 5, 2) := by decide +kernel
theorem dX9_liableFor_41 : decode cX9_liableFor 41 = .ok (.iaload, 1) := by decide +kernel
theorem dX9_liableFor_42 : decode cX9_liableFor 42 = .ok (.iaload, 1) := by decide +kernel
theorem dX9_liableFor_43 : decode cX9_liableFor 43 = .ok (.iload_n 3, 1) := by decide +kernel
theorem dX9_liableFor_44 : decode cX9_liableFor 44 = .ok (.if_icmp .lt 8, 3) := by decide +kernel
theorem dX9_liableFor_47 : decode cX9_liableFor 47 = .ok (.iload 5, 2) := by decide +kernel
theorem dX9_liableFor_49 : decode cX9_liableFor 49 = .ok (.goto 5, 3) := by decide +kernel
theorem dX9_liableFor_52 : decode cX9_liableFor 52 = .ok (.iload 4, 2) := by decide +kernel
theorem dX9_liableFor_54 : decode cX9_liableFor 54 = .ok (.istore 4, 2) := by decide +kernel
theorem dX9_liableFor_56 : decode cX9_liableFor 56 = .ok (.iinc 5 1, 3) := by decide +kernel
theorem dX9_liableFor_59 : decode cX9_liableFor 59 = .ok (.goto (-53), 3) := by decide +kernel
theorem dX9_liableFor_62 : decode cX9_liableFor 62 = .ok (.iload 4, 2) := by decide +kernel
theorem dX9_liableFor_64 : decode cX9_liableFor 64 = .ok (.iconst (-1), 1) := by decide +kernel
theorem dX9_liableFor_65 : decode cX9_liableFor 65 = .ok (.if_icmp .ne 5, 3) := by decide +kernel
theorem dX9_liableFor_68 : decode cX9_liableFor 68 = .ok (.iconst (-1), 1) := by decide +kernel
theorem dX9_liableFor_69 : decode cX9_liableFor 69 = .ok (.ireturn, 1) := by decide +kernel
theorem dX9_liableFor_70 : decode cX9_liableFor 70 = .ok (.aload_n 0, 1) := by decide +kernel
theorem dX9_liableFor_71 : decode cX9_liableFor 71 = .ok (.getfield 122, 3) := by decide +kernel
theorem dX9_liableFor_74 : decode cX9_liableFor 74 = .ok (.iload 4, 2) := by decide +kernel
theorem dX9_liableFor_76 : decode cX9_liableFor 76 = .ok (.iaload, 1) := by decide +kernel
theorem dX9_liableFor_77 : decode cX9_liableFor 77 = .ok (.istore 5, 2) := by decide +kernel
theorem dX9_liableFor_79 : decode cX9_liableFor 79 = .ok (.aload_n 0, 1) := by decide +kernel
theorem dX9_liableFor_80 : decode cX9_liableFor 80 = .ok (.invokevirtual 175, 3) := by decide +kernel
theorem dX9_liableFor_83 : decode cX9_liableFor 83 = .ok (.aload_n 0, 1) := by decide +kernel
theorem dX9_liableFor_84 : decode cX9_liableFor 84 = .ok (.getfield 125, 3) := by decide +kernel
theorem dX9_liableFor_87 : decode cX9_liableFor 87 = .ok (.iload 4, 2) := by decide +kernel
theorem dX9_liableFor_89 : decode cX9_liableFor 89 = .ok (.iaload, 1) := by decide +kernel
theorem dX9_liableFor_90 : decode cX9_liableFor 90 = .ok (.isub, 1) := by decide +kernel
theorem dX9_liableFor_91 : decode cX9_liableFor 91 = .ok (.aload_n 0, 1) := by decide +kernel
theorem dX9_liableFor_92 : decode cX9_liableFor 92 = .ok (.getfield 83, 3) := by decide +kernel
theorem dX9_liableFor_95 : decode cX9_liableFor 95 = .ok (.iload 5, 2) := by decide +kernel
theorem dX9_liableFor_97 : decode cX9_liableFor 97 = .ok (.iaload, 1) := by decide +kernel
theorem dX9_liableFor_98 : decode cX9_liableFor 98 = .ok (.bipush 120, 2) := by decide +kernel
theorem dX9_liableFor_100 : decode cX9_liableFor 100 = .ok (.if_icmp .lt 9, 3) := by decide +kernel
theorem dX9_liableFor_103 : decode cX9_liableFor 103 = .ok (.sipush 300, 3) := by decide +kernel
theorem dX9_liableFor_106 : decode cX9_liableFor 106 = .ok (.goto 6, 3) := by decide +kernel
theorem dX9_liableFor_109 : decode cX9_liableFor 109 = .ok (.sipush 200, 3) := by decide +kernel
theorem dX9_liableFor_112 : decode cX9_liableFor 112 = .ok (.if_icmp .le 7, 3) := by decide +kernel
theorem dX9_liableFor_115 : decode cX9_liableFor 115 = .ok (.iconst 1, 1) := by decide +kernel
theorem dX9_liableFor_116 : decode cX9_liableFor 116 = .ok (.goto 4, 3) := by decide +kernel
theorem dX9_liableFor_119 : decode cX9_liableFor 119 = .ok (.iconst 0, 1) := by decide +kernel
theorem dX9_liableFor_120 : decode cX9_liableFor 120 = .ok (.istore 6, 2) := by decide +kernel
theorem dX9_liableFor_122 : decode cX9_liableFor 122 = .ok (.iload_n 3, 1) := by decide +kernel
theorem dX9_liableFor_123 : decode cX9_liableFor 123 = .ok (.bipush 10, 2) := by decide +kernel
theorem dX9_liableFor_125 : decode cX9_liableFor 125 = .ok (.if_icmp .ge 18, 3) := by decide +kernel
theorem dX9_liableFor_128 : decode cX9_liableFor 128 = .ok (.iload 4, 2) := by decide +kernel
theorem dX9_liableFor_130 : decode cX9_liableFor 130 = .ok (.aload_n 0, 1) := by decide +kernel
theorem dX9_liableFor_131 : decode cX9_liableFor 131 = .ok (.getfield 25, 3) := by decide +kernel
theorem dX9_liableFor_134 : decode cX9_liableFor 134 = .ok (.iload_n 1, 1) := by decide +kernel
theorem dX9_liableFor_135 : decode cX9_liableFor 135 = .ok (.iaload, 1) := by decide +kernel
theorem dX9_liableFor_136 : decode cX9_liableFor 136 = .ok (.if_icmp .ge 7, 3) := by decide +kernel
theorem dX9_liableFor_139 : decode cX9_liableFor 139 = .ok (.iconst 1, 1) := by decide +kernel
theorem dX9_liableFor_140 : decode cX9_liableFor 140 = .ok (.goto 4, 3) := by decide +kernel
theorem dX9_liableFor_143 : decode cX9_liableFor 143 = .ok (.iconst 0, 1) := by decide +kernel
theorem dX9_liableFor_144 : decode cX9_liableFor 144 = .ok (.istore 7, 2) := by decide +kernel
theorem dX9_liableFor_146 : decode cX9_liableFor 146 = .ok (.iload 6, 2) := by decide +kernel
theorem dX9_liableFor_148 : decode cX9_liableFor 148 = .ok (.ifCond .ne 8, 3) := by decide +kernel
theorem dX9_liableFor_151 : decode cX9_liableFor 151 = .ok (.iload 7, 2) := by decide +kernel
theorem dX9_liableFor_153 : decode cX9_liableFor 153 = .ok (.ifCond .eq 7, 3) := by decide +kernel
theorem dX9_liableFor_156 : decode cX9_liableFor 156 = .ok (.iconst (-1), 1) := by decide +kernel
theorem dX9_liableFor_157 : decode cX9_liableFor 157 = .ok (.goto 5, 3) := by decide +kernel
theorem dX9_liableFor_160 : decode cX9_liableFor 160 = .ok (.iload 5, 2) := by decide +kernel
theorem dX9_liableFor_162 : decode cX9_liableFor 162 = .ok (.ireturn, 1) := by decide +kernel
theorem dX9_asksMetre_0 : decode cX9_asksMetre 0 = .ok (.aload_n 0, 1) := by decide +kernel
theorem dX9_asksMetre_1 : decode cX9_asksMetre 1 = .ok (.aload_n 0, 1) := by decide +kernel
theorem dX9_asksMetre_2 : decode cX9_asksMetre 2 = .ok (.iload_n 1, 1) := by decide +kernel
theorem dX9_asksMetre_3 : decode cX9_asksMetre 3 = .ok (.iload_n 2, 1) := by decide +kernel
theorem dX9_asksMetre_4 : decode cX9_asksMetre 4 = .ok (.invokevirtual 188, 3) := by decide +kernel
theorem dX9_asksMetre_7 : decode cX9_asksMetre 7 = .ok (.ifCond .ne 7, 3) := by decide +kernel
theorem dX9_asksMetre_10 : decode cX9_asksMetre 10 = .ok (.iconst 1, 1) := by decide +kernel
theorem dX9_asksMetre_11 : decode cX9_asksMetre 11 = .ok (.goto 19, 3) := by decide +kernel
theorem dX9_asksMetre_14 : decode cX9_asksMetre 14 = .ok (.iload_n 3, 1) := by decide +kernel
theorem dX9_asksMetre_15 : decode cX9_asksMetre 15 = .ok (.iconst 0, 1) := by decide +kernel
theorem dX9_asksMetre_16 : decode cX9_asksMetre 16 = .ok (.sipush 300, 3) := by decide +kernel
theorem dX9_asksMetre_19 : decode cX9_asksMetre 19 = .ok (.invokestatic 151, 3) := by decide +kernel
theorem dX9_asksMetre_22 : decode cX9_asksMetre 22 = .ok (.ifCond .eq 7, 3) := by decide +kernel
theorem dX9_asksMetre_25 : decode cX9_asksMetre 25 = .ok (.iconst 0, 1) := by decide +kernel
theorem dX9_asksMetre_26 : decode cX9_asksMetre 26 = .ok (.goto 4, 3) := by decide +kernel
theorem dX9_asksMetre_29 : decode cX9_asksMetre 29 = .ok (.iconst 2, 1) := by decide +kernel
theorem dX9_asksMetre_30 : decode cX9_asksMetre 30 = .ok (.invokevirtual 168, 3) := by decide +kernel
theorem dX9_asksMetre_33 : decode cX9_asksMetre 33 = .ok (.ireturn, 1) := by decide +kernel
theorem dX9_defect_0 : decode cX9_defect 0 = .ok (.aload_n 0, 1) := by decide +kernel
theorem dX9_defect_1 : decode cX9_defect 1 = .ok (.iload_n 1, 1) := by decide +kernel
theorem dX9_defect_2 : decode cX9_defect 2 = .ok (.iload_n 2, 1) := by decide +kernel
theorem dX9_defect_3 : decode cX9_defect 3 = .ok (.iload_n 3, 1) := by decide +kernel
theorem dX9_defect_4 : decode cX9_defect 4 = .ok (.invokevirtual 286, 3) := by decide +kernel
theorem dX9_defect_7 : decode cX9_defect 7 = .ok (.ifCond .ne 5, 3) := by decide +kernel
theorem dX9_defect_10 : decode cX9_defect 10 = .ok (.iconst 0, 1) := by decide +kernel
theorem dX9_defect_11 : decode cX9_defect 11 = .ok (.ireturn, 1) := by decide +kernel
theorem dX9_defect_12 : decode cX9_defect 12 = .ok (.aload_n 0, 1) := by decide +kernel
theorem dX9_defect_13 : decode cX9_defect 13 = .ok (.iload_n 1, 1) := by decide +kernel
theorem dX9_defect_14 : decode cX9_defect 14 = .ok (.iload_n 2, 1) := by decide +kernel
theorem dX9_defect_15 : decode cX9_defect 15 = .ok (.iload_n 3, 1) := by decide +kernel
theorem dX9_defect_16 : decode cX9_defect 16 = .ok (.invokevirtual 289, 3) := by decide +kernel
theorem dX9_defect_19 : decode cX9_defect 19 = .ok (.istore 4, 2) := by decide +kernel
theorem dX9_defect_21 : decode cX9_defect 21 = .ok (.iload 4, 2) := by decide +kernel
theorem dX9_defect_23 : decode cX9_defect 23 = .ok (.iconst (-1), 1) := by decide +kernel
theorem dX9_defect_24 : decode cX9_defect 24 = .ok (.if_icmp .eq 34, 3) := by decide +kernel
theorem dX9_defect_27 : decode cX9_defect 27 = .ok (.aload_n 0, 1) := by decide +kernel
theorem dX9_defect_28 : decode cX9_defect 28 = .ok (.aload_n 0, 1) := by decide +kernel
theorem dX9_defect_29 : decode cX9_defect 29 = .ok (.getfield 71, 3) := by decide +kernel
theorem dX9_defect_32 : decode cX9_defect 32 = .ok (.iload 4, 2) := by decide +kernel
theorem dX9_defect_34 : decode cX9_defect 34 = .ok (.iaload, 1) := by decide +kernel
theorem dX9_defect_35 : decode cX9_defect 35 = .ok (.iconst 5, 1) := by decide +kernel
theorem dX9_defect_36 : decode cX9_defect 36 = .ok (.sipush 300, 3) := by decide +kernel
theorem dX9_defect_39 : decode cX9_defect 39 = .ok (.invokevirtual 230, 3) := by decide +kernel
theorem dX9_defect_42 : decode cX9_defect 42 = .ok (.aload_n 0, 1) := by decide +kernel
theorem dX9_defect_43 : decode cX9_defect 43 = .ok (.getfield 134, 3) := by decide +kernel
theorem dX9_defect_46 : decode cX9_defect 46 = .ok (.aload_n 0, 1) := by decide +kernel
theorem dX9_defect_47 : decode cX9_defect 47 = .ok (.getfield 71, 3) := by decide +kernel
theorem dX9_defect_50 : decode cX9_defect 50 = .ok (.iload 4, 2) := by decide +kernel
theorem dX9_defect_52 : decode cX9_defect 52 = .ok (.iaload, 1) := by decide +kernel
theorem dX9_defect_53 : decode cX9_defect 53 = .ok (.dup2, 1) := by decide +kernel
theorem dX9_defect_54 : decode cX9_defect 54 = .ok (.iaload, 1) := by decide +kernel
theorem dX9_defect_55 : decode cX9_defect 55 = .ok (.iconst 1, 1) := by decide +kernel
theorem dX9_defect_56 : decode cX9_defect 56 = .ok (.iadd, 1) := by decide +kernel
theorem dX9_defect_57 : decode cX9_defect 57 = .ok (.iastore, 1) := by decide +kernel
theorem dX9_defect_58 : decode cX9_defect 58 = .ok (.iload 4, 2) := by decide +kernel
theorem dX9_defect_60 : decode cX9_defect 60 = .ok (.ireturn, 1) := by decide +kernel
theorem dX9_latest_0 : decode cX9_latest 0 = .ok (.iconst (-1), 1) := by decide +kernel
theorem dX9_latest_1 : decode cX9_latest 1 = .ok (.istore_n 2, 1) := by decide +kernel
theorem dX9_latest_2 : decode cX9_latest 2 = .ok (.iconst 0, 1) := by decide +kernel
theorem dX9_latest_3 : decode cX9_latest 3 = .ok (.istore_n 3, 1) := by decide +kernel
theorem dX9_latest_4 : decode cX9_latest 4 = .ok (.iload_n 3, 1) := by decide +kernel
theorem dX9_latest_5 : decode cX9_latest 5 = .ok (.aload_n 0, 1) := by decide +kernel
theorem dX9_latest_6 : decode cX9_latest 6 = .ok (.getfield 179, 3) := by decide +kernel
theorem dX9_latest_9 : decode cX9_latest 9 = .ok (.if_icmp .ge 25, 3) := by decide +kernel
theorem dX9_latest_12 : decode cX9_latest 12 = .ok (.aload_n 0, 1) := by decide +kernel
theorem dX9_latest_13 : decode cX9_latest 13 = .ok (.getfield 119, 3) := by decide +kernel
theorem dX9_latest_16 : decode cX9_latest 16 = .ok (.iload_n 3, 1) := by decide +kernel
theorem dX9_latest_17 : decode cX9_latest 17 = .ok (.iaload, 1) := by decide +kernel
theorem dX9_latest_18 : decode cX9_latest 18 = .ok (.iload_n 1, 1) := by decide +kernel
theorem dX9_latest_19 : decode cX9_latest 19 = .ok (.if_icmp .ne 7, 3) := by decide +kernel
theorem dX9_latest_22 : decode cX9_latest 22 = .ok (.iload_n 3, 1) := by decide +kernel
theorem dX9_latest_23 : decode cX9_latest 23 = .ok (.goto 4, 3) := by decide +kernel
theorem dX9_latest_26 : decode cX9_latest 26 = .ok (.iload_n 2, 1) := by decide +kernel
theorem dX9_latest_27 : decode cX9_latest 27 = .ok (.istore_n 2, 1) := by decide +kernel
theorem dX9_latest_28 : decode cX9_latest 28 = .ok (.iinc 3 1, 3) := by decide +kernel
theorem dX9_latest_31 : decode cX9_latest 31 = .ok (.goto (-27), 3) := by decide +kernel
theorem dX9_latest_34 : decode cX9_latest 34 = .ok (.iload_n 2, 1) := by decide +kernel
theorem dX9_latest_35 : decode cX9_latest 35 = .ok (.ireturn, 1) := by decide +kernel
theorem dX9_core_0 : decode cX9_core 0 = .ok (.aload_n 0, 1) := by decide +kernel
theorem dX9_core_1 : decode cX9_core 1 = .ok (.iload_n 1, 1) := by decide +kernel
theorem dX9_core_2 : decode cX9_core 2 = .ok (.iload_n 2, 1) := by decide +kernel
theorem dX9_core_3 : decode cX9_core 3 = .ok (.invokevirtual 188, 3) := by decide +kernel
theorem dX9_core_6 : decode cX9_core 6 = .ok (.istore_n 3, 1) := by decide +kernel
theorem dX9_core_7 : decode cX9_core 7 = .ok (.iload_n 3, 1) := by decide +kernel
theorem dX9_core_8 : decode cX9_core 8 = .ok (.ifCond .eq 16, 3) := by decide +kernel
theorem dX9_core_11 : decode cX9_core 11 = .ok (.aload_n 0, 1) := by decide +kernel
theorem dX9_core_12 : decode cX9_core 12 = .ok (.bipush 40, 2) := by decide +kernel
theorem dX9_core_14 : decode cX9_core 14 = .ok (.iload_n 1, 1) := by decide +kernel
theorem dX9_core_15 : decode cX9_core 15 = .ok (.imul, 1) := by decide +kernel
theorem dX9_core_16 : decode cX9_core 16 = .ok (.iload_n 2, 1) := by decide +kernel
theorem dX9_core_17 : decode cX9_core 17 = .ok (.iadd, 1) := by decide +kernel
theorem dX9_core_18 : decode cX9_core 18 = .ok (.invokevirtual 293, 3) := by decide +kernel
theorem dX9_core_21 : decode cX9_core 21 = .ok (.goto 4, 3) := by decide +kernel
theorem dX9_core_24 : decode cX9_core 24 = .ok (.iconst (-1), 1) := by decide +kernel
theorem dX9_core_25 : decode cX9_core 25 = .ok (.istore 4, 2) := by decide +kernel
theorem dX9_core_27 : decode cX9_core 27 = .ok (.aload_n 0, 1) := by decide +kernel
theorem dX9_core_28 : decode cX9_core 28 = .ok (.iload_n 3, 1) := by decide +kernel
theorem dX9_core_29 : decode cX9_core 29 = .ok (.ifCond .ne 7, 3) := by decide +kernel
theorem dX9_core_32 : decode cX9_core 32 = .ok (.iconst 1, 1) := by decide +kernel
theorem dX9_core_33 : decode cX9_core 33 = .ok (.goto 24, 3) := by decide +kernel
theorem dX9_core_36 : decode cX9_core 36 = .ok (.iload 4, 2) := by decide +kernel
theorem dX9_core_38 : decode cX9_core 38 = .ok (.iconst (-1), 1) := by decide +kernel
theorem dX9_core_39 : decode cX9_core 39 = .ok (.if_icmp .eq 13, 3) := by decide +kernel
theorem dX9_core_42 : decode cX9_core 42 = .ok (.aload_n 0, 1) := by decide +kernel
theorem dX9_core_43 : decode cX9_core 43 = .ok (.getfield 131, 3) := by decide +kernel
theorem dX9_core_46 : decode cX9_core 46 = .ok (.iload 4, 2) := by decide +kernel
theorem dX9_core_48 : decode cX9_core 48 = .ok (.baload, 1) := by decide +kernel
theorem dX9_core_49 : decode cX9_core 49 = .ok (.ifCond .eq 7, 3) := by decide +kernel
theorem dX9_core_52 : decode cX9_core 52 = .ok (.iconst 2, 1) := by decide +kernel
theorem dX9_core_53 : decode cX9_core 53 = .ok (.goto 4, 3) := by decide +kernel
theorem dX9_core_56 : decode cX9_core 56 = .ok (.iconst 0, 1) := by decide +kernel
theorem dX9_core_57 : decode cX9_core 57 = .ok (.invokevirtual 168, 3) := by decide +kernel
theorem dX9_core_60 : decode cX9_core 60 = .ok (.ifCond .ne 5, 3) := by decide +kernel
theorem dX9_core_63 : decode cX9_core 63 = .ok (.iconst 0, 1) := by decide +kernel
theorem dX9_core_64 : decode cX9_core 64 = .ok (.ireturn, 1) := by decide +kernel
theorem dX9_core_65 : decode cX9_core 65 = .ok (.aload_n 0, 1) := by decide +kernel
theorem dX9_core_66 : decode cX9_core 66 = .ok (.getfield 131, 3) := by decide +kernel
theorem dX9_core_69 : decode cX9_core 69 = .ok (.iload 4, 2) := by decide +kernel
theorem dX9_core_71 : decode cX9_core 71 = .ok (.iconst 1, 1) := by decide +kernel
theorem dX9_core_72 : decode cX9_core 72 = .ok (.bastore, 1) := by decide +kernel
theorem dX9_core_73 : decode cX9_core 73 = .ok (.aload_n 0, 1) := by decide +kernel
theorem dX9_core_74 : decode cX9_core 74 = .ok (.getfield 71, 3) := by decide +kernel
theorem dX9_core_77 : decode cX9_core 77 = .ok (.aload_n 0, 1) := by decide +kernel
theorem dX9_core_78 : decode cX9_core 78 = .ok (.getfield 122, 3) := by decide +kernel
theorem dX9_core_81 : decode cX9_core 81 = .ok (.iload 4, 2) := by decide +kernel
theorem dX9_core_83 : decode cX9_core 83 = .ok (.iaload, 1) := by decide +kernel
theorem dX9_core_84 : decode cX9_core 84 = .ok (.iaload, 1) := by decide +kernel
theorem dX9_core_85 : decode cX9_core 85 = .ok (.istore 5, 2) := by decide +kernel
theorem dX9_core_87 : decode cX9_core 87 = .ok (.aload_n 0, 1) := by decide +kernel
theorem dX9_core_88 : decode cX9_core 88 = .ok (.getfield 137, 3) := by decide +kernel
theorem dX9_core_91 : decode cX9_core 91 = .ok (.iload 5, 2) := by decide +kernel
theorem dX9_core_93 : decode cX9_core 93 = .ok (.dup2, 1) := by decide +kernel
theorem dX9_core_94 : decode cX9_core 94 = .ok (.iaload, 1) := by decide +kernel
theorem dX9_core_95 : decode cX9_core 95 = .ok (.iconst 1, 1) := by decide +kernel
theorem dX9_core_96 : decode cX9_core 96 = .ok (.iadd, 1) := by decide +kernel
theorem dX9_core_97 : decode cX9_core 97 = .ok (.iastore, 1) := by decide +kernel
theorem dX9_core_98 : decode cX9_core 98 = .ok (.aload_n 0, 1) := by decide +kernel
theorem dX9_core_99 : decode cX9_core 99 = .ok (.getfield 134, 3) := by decide +kernel
theorem dX9_core_102 : decode cX9_core 102 = .ok (.iload 5, 2) := by decide +kernel
theorem dX9_core_104 : decode cX9_core 104 = .ok (.dup2, 1) := by decide +kernel
theorem dX9_core_105 : decode cX9_core 105 = .ok (.iaload, 1) := by decide +kernel
theorem dX9_core_106 : decode cX9_core 106 = .ok (.aload_n 0, 1) := by decide +kernel
theorem dX9_core_107 : decode cX9_core 107 = .ok (.getfield 128, 3) := by decide +kernel
theorem dX9_core_110 : decode cX9_core 110 = .ok (.iload 4, 2) := by decide +kernel
theorem dX9_core_112 : decode cX9_core 112 = .ok (.iaload, 1) := by decide +kernel
theorem dX9_core_113 : decode cX9_core 113 = .ok (.bipush 80, 2) := by decide +kernel
theorem dX9_core_115 : decode cX9_core 115 = .ok (.if_icmp .ge 7, 3) := by decide +kernel
theorem dX9_core_118 : decode cX9_core 118 = .ok (.iconst 1, 1) := by decide +kernel
theorem dX9_core_119 : decode cX9_core 119 = .ok (.goto 4, 3) := by decide +kernel
theorem dX9_core_122 : decode cX9_core 122 = .ok (.iconst 0, 1) := by decide +kernel
theorem dX9_core_123 : decode cX9_core 123 = .ok (.iadd, 1) := by decide +kernel
theorem dX9_core_124 : decode cX9_core 124 = .ok (.iastore, 1) := by decide +kernel
theorem dX9_core_125 : decode cX9_core 125 = .ok (.aload_n 0, 1) := by decide +kernel
theorem dX9_core_126 : decode cX9_core 126 = .ok (.getfield 128, 3) := by decide +kernel
theorem dX9_core_129 : decode cX9_core 129 = .ok (.iload 4, 2) := by decide +kernel
theorem dX9_core_131 : decode cX9_core 131 = .ok (.iaload, 1) := by decide +kernel
theorem dX9_core_132 : decode cX9_core 132 = .ok (.ireturn, 1) := by decide +kernel
theorem dX9_liable_0 : decode cX9_liable 0 = .ok (.aload_n 0, 1) := by decide +kernel
theorem dX9_liable_1 : decode cX9_liable 1 = .ok (.iload_n 1, 1) := by decide +kernel
theorem dX9_liable_2 : decode cX9_liable 2 = .ok (.iload_n 2, 1) := by decide +kernel
theorem dX9_liable_3 : decode cX9_liable 3 = .ok (.iload_n 3, 1) := by decide +kernel
theorem dX9_liable_4 : decode cX9_liable 4 = .ok (.invokevirtual 286, 3) := by decide +kernel
theorem dX9_liable_7 : decode cX9_liable 7 = .ok (.ifCond .eq 13, 3) := by decide +kernel
theorem dX9_liable_10 : decode cX9_liable 10 = .ok (.aload_n 0, 1) := by decide +kernel
theorem dX9_liable_11 : decode cX9_liable 11 = .ok (.iload_n 1, 1) := by decide +kernel
theorem dX9_liable_12 : decode cX9_liable 12 = .ok (.iload_n 2, 1) := by decide +kernel
theorem dX9_liable_13 : decode cX9_liable 13 = .ok (.iload_n 3, 1) := by decide +kernel
theorem dX9_liable_14 : decode cX9_liable 14 = .ok (.invokevirtual 289, 3) := by decide +kernel
theorem dX9_liable_17 : decode cX9_liable 17 = .ok (.goto 4, 3) := by decide +kernel
theorem dX9_liable_20 : decode cX9_liable 20 = .ok (.iconst 0, 1) := by decide +kernel
theorem dX9_liable_21 : decode cX9_liable 21 = .ok (.ireturn, 1) := by decide +kernel
theorem dX9_liableAnew_0 : decode cX9_liableAnew 0 = .ok (.aload_n 0, 1) := by decide +kernel
theorem dX9_liableAnew_1 : decode cX9_liableAnew 1 = .ok (.iload_n 1, 1) := by decide +kernel
theorem dX9_liableAnew_2 : decode cX9_liableAnew 2 = .ok (.iload_n 2, 1) := by decide +kernel
theorem dX9_liableAnew_3 : decode cX9_liableAnew 3 = .ok (.iload_n 3, 1) := by decide +kernel
theorem dX9_liableAnew_4 : decode cX9_liableAnew 4 = .ok (.invokevirtual 286, 3) := by decide +kernel
theorem dX9_liableAnew_7 : decode cX9_liableAnew 7 = .ok (.ifCond .eq 13, 3) := by decide +kernel
theorem dX9_liableAnew_10 : decode cX9_liableAnew 10 = .ok (.aload_n 0, 1) := by decide +kernel
theorem dX9_liableAnew_11 : decode cX9_liableAnew 11 = .ok (.iload_n 1, 1) := by decide +kernel
theorem dX9_liableAnew_12 : decode cX9_liableAnew 12 = .ok (.iload_n 2, 1) := by decide +kernel
theorem dX9_liableAnew_13 : decode cX9_liableAnew 13 = .ok (.iload_n 3, 1) := by decide +kernel
theorem dX9_liableAnew_14 : decode cX9_liableAnew 14 = .ok (.invokevirtual 289, 3) := by decide +kernel
theorem dX9_liableAnew_17 : decode cX9_liableAnew 17 = .ok (.goto 4, 3) := by decide +kernel
theorem dX9_liableAnew_20 : decode cX9_liableAnew 20 = .ok (.iconst 0, 1) := by decide +kernel
theorem dX9_liableAnew_21 : decode cX9_liableAnew 21 = .ok (.ireturn, 1) := by decide +kernel
theorem dX9_bars_0 : decode cX9_bars 0 = .ok (.aload_n 0, 1) := by decide +kernel
theorem dX9_bars_1 : decode cX9_bars 1 = .ok (.aload_n 0, 1) := by decide +kernel
theorem dX9_bars_2 : decode cX9_bars 2 = .ok (.iload_n 1, 1) := by decide +kernel
theorem dX9_bars_3 : decode cX9_bars 3 = .ok (.invokevirtual 234, 3) := by decide +kernel
theorem dX9_bars_6 : decode cX9_bars 6 = .ok (.ifCond .eq 7, 3) := by decide +kernel
theorem dX9_bars_9 : decode cX9_bars 9 = .ok (.iconst 0, 1) := by decide +kernel
theorem dX9_bars_10 : decode cX9_bars 10 = .ok (.goto 4, 3) := by decide +kernel
theorem dX9_bars_13 : decode cX9_bars 13 = .ok (.iconst 1, 1) := by decide +kernel
theorem dX9_bars_14 : decode cX9_bars 14 = .ok (.invokevirtual 168, 3) := by decide +kernel
theorem dX9_bars_17 : decode cX9_bars 17 = .ok (.ifCond .eq 11, 3) := by decide +kernel
theorem dX9_bars_20 : decode cX9_bars 20 = .ok (.aload_n 0, 1) := by decide +kernel
theorem dX9_bars_21 : decode cX9_bars 21 = .ok (.iload_n 1, 1) := by decide +kernel
theorem dX9_bars_22 : decode cX9_bars 22 = .ok (.invokevirtual 237, 3) := by decide +kernel
theorem dX9_bars_25 : decode cX9_bars 25 = .ok (.goto 4, 3) := by decide +kernel
theorem dX9_bars_28 : decode cX9_bars 28 = .ok (.iconst 0, 1) := by decide +kernel
theorem dX9_bars_29 : decode cX9_bars 29 = .ok (.ireturn, 1) := by decide +kernel
theorem dX9_meets_0 : decode cX9_meets 0 = .ok (.aload_n 0, 1) := by decide +kernel
theorem dX9_meets_1 : decode cX9_meets 1 = .ok (.aload_n 0, 1) := by decide +kernel
theorem dX9_meets_2 : decode cX9_meets 2 = .ok (.iload_n 1, 1) := by decide +kernel
theorem dX9_meets_3 : decode cX9_meets 3 = .ok (.invokevirtual 234, 3) := by decide +kernel
theorem dX9_meets_6 : decode cX9_meets 6 = .ok (.ifCond .ne 7, 3) := by decide +kernel
theorem dX9_meets_9 : decode cX9_meets 9 = .ok (.iconst 1, 1) := by decide +kernel
theorem dX9_meets_10 : decode cX9_meets 10 = .ok (.goto 12, 3) := by decide +kernel
theorem dX9_meets_13 : decode cX9_meets 13 = .ok (.iload_n 2, 1) := by decide +kernel
theorem dX9_meets_14 : decode cX9_meets 14 = .ok (.ifCond .ge 7, 3) := by decide +kernel
theorem dX9_meets_17 : decode cX9_meets 17 = .ok (.iconst 2, 1) := by decide +kernel
theorem dX9_meets_18 : decode cX9_meets 18 = .ok (.goto 4, 3) := by decide +kernel
theorem dX9_meets_21 : decode cX9_meets 21 = .ok (.iconst 0, 1) := by decide +kernel
theorem dX9_meets_22 : decode cX9_meets 22 = .ok (.invokevirtual 168, 3) := by decide +kernel
theorem dX9_meets_25 : decode cX9_meets 25 = .ok (.ifCond .ne 5, 3) := by decide +kernel
theorem dX9_meets_28 : decode cX9_meets 28 = .ok (.iconst 0, 1) := by decide +kernel
theorem dX9_meets_29 : decode cX9_meets 29 = .ok (.ireturn, 1) := by decide +kernel
theorem dX9_meets_30 : decode cX9_meets 30 = .ok (.iload_n 2, 1) := by decide +kernel
theorem dX9_meets_31 : decode cX9_meets 31 = .ok (.istore_n 3, 1) := by decide +kernel
theorem dX9_meets_32 : decode cX9_meets 32 = .ok (.iload_n 3, 1) := by decide +kernel
theorem dX9_meets_33 : decode cX9_meets 33 = .ok (.aload_n 0, 1) := by decide +kernel
theorem dX9_meets_34 : decode cX9_meets 34 = .ok (.getfield 162, 3) := by decide +kernel
theorem dX9_meets_37 : decode cX9_meets 37 = .ok (.if_icmp .ge 20, 3) := by decide +kernel
theorem dX9_meets_40 : decode cX9_meets 40 = .ok (.aload_n 0, 1) := by decide +kernel
theorem dX9_meets_41 : decode cX9_meets 41 = .ok (.iload_n 1, 1) := by decide +kernel
theorem dX9_meets_42 : decode cX9_meets 42 = .ok (.iload_n 3, 1) := by decide +kernel
theorem dX9_meets_43 : decode cX9_meets 43 = .ok (.invokevirtual 220, 3) := by decide +kernel
theorem dX9_meets_46 : decode cX9_meets 46 = .ok (.ifCond .eq 5, 3) := by decide +kernel
theorem dX9_meets_49 : decode cX9_meets 49 = .ok (.iload_n 3, 1) := by decide +kernel
theorem dX9_meets_50 : decode cX9_meets 50 = .ok (.ireturn, 1) := by decide +kernel
theorem dX9_meets_51 : decode cX9_meets 51 = .ok (.iinc 3 1, 3) := by decide +kernel
theorem dX9_meets_54 : decode cX9_meets 54 = .ok (.goto (-22), 3) := by decide +kernel
theorem dX9_meets_57 : decode cX9_meets 57 = .ok (.iconst (-1), 1) := by decide +kernel
theorem dX9_meets_58 : decode cX9_meets 58 = .ok (.ireturn, 1) := by decide +kernel
theorem dX9_of_0 : decode cX9_of 0 = .ok (.aload_n 0, 1) := by decide +kernel
theorem dX9_of_1 : decode cX9_of 1 = .ok (.aload_n 0, 1) := by decide +kernel
theorem dX9_of_2 : decode cX9_of 2 = .ok (.iload_n 1, 1) := by decide +kernel
theorem dX9_of_3 : decode cX9_of 3 = .ok (.invokevirtual 234, 3) := by decide +kernel
theorem dX9_of_6 : decode cX9_of 6 = .ok (.ifCond .ne 7, 3) := by decide +kernel
theorem dX9_of_9 : decode cX9_of 9 = .ok (.iconst 1, 1) := by decide +kernel
theorem dX9_of_10 : decode cX9_of 10 = .ok (.goto 18, 3) := by decide +kernel
theorem dX9_of_13 : decode cX9_of 13 = .ok (.iload_n 2, 1) := by decide +kernel
theorem dX9_of_14 : decode cX9_of 14 = .ok (.iconst 0, 1) := by decide +kernel
theorem dX9_of_15 : decode cX9_of 15 = .ok (.bipush 7, 2) := by decide +kernel
theorem dX9_of_17 : decode cX9_of 17 = .ok (.invokestatic 151, 3) := by decide +kernel
theorem dX9_of_20 : decode cX9_of 20 = .ok (.ifCond .eq 7, 3) := by decide +kernel
theorem dX9_of_23 : decode cX9_of 23 = .ok (.iconst 0, 1) := by decide +kernel
theorem dX9_of_24 : decode cX9_of 24 = .ok (.goto 4, 3) := by decide +kernel
theorem dX9_of_27 : decode cX9_of 27 = .ok (.iconst 2, 1) := by decide +kernel
theorem dX9_of_28 : decode cX9_of 28 = .ok (.invokevirtual 168, 3) := by decide +kernel
theorem dX9_of_31 : decode cX9_of 31 = .ok (.ifCond .ne 5, 3) := by decide +kernel
theorem dX9_of_34 : decode cX9_of 34 = .ok (.iconst 0, 1) := by decide +kernel
theorem dX9_of_35 : decode cX9_of 35 = .ok (.ireturn, 1) := by decide +kernel
theorem dX9_of_36 : decode cX9_of 36 = .ok (.iload_n 2, 1) := by decide +kernel
theorem dX9_of_37 : decode cX9_of 37 = .ok (.tableswitch 98 0 6 #[43, 50, 56, 63, 70, 77, 83], 43) := by decide +kernel
theorem dX9_of_80 : decode cX9_of 80 = .ok (.aload_n 0, 1) := by decide +kernel
theorem dX9_of_81 : decode cX9_of 81 = .ok (.getfield 98, 3) := by decide +kernel
theorem dX9_of_84 : decode cX9_of 84 = .ok (.iload_n 1, 1) := by decide +kernel
theorem dX9_of_85 : decode cX9_of 85 = .ok (.iaload, 1) := by decide +kernel
theorem dX9_of_86 : decode cX9_of 86 = .ok (.ireturn, 1) := by decide +kernel
theorem dX9_of_87 : decode cX9_of 87 = .ok (.aload_n 0, 1) := by decide +kernel
theorem dX9_of_88 : decode cX9_of 88 = .ok (.iload_n 1, 1) := by decide +kernel
theorem dX9_of_89 : decode cX9_of 89 = .ok (.invokevirtual 208, 3) := by decide +kernel
theorem dX9_of_92 : decode cX9_of 92 = .ok (.ireturn, 1) := by decide +kernel
theorem dX9_of_93 : decode cX9_of 93 = .ok (.aload_n 0, 1) := by decide +kernel
theorem dX9_of_94 : decode cX9_of 94 = .ok (.getfield 101, 3) := by decide +kernel
theorem dX9_of_97 : decode cX9_of 97 = .ok (.iload_n 1, 1) := by decide +kernel
theorem dX9_of_98 : decode cX9_of 98 = .ok (.iaload, 1) := by decide +kernel
theorem dX9_of_99 : decode cX9_of 99 = .ok (.ireturn, 1) := by decide +kernel
theorem dX9_of_100 : decode cX9_of 100 = .ok (.aload_n 0, 1) := by decide +kernel
theorem dX9_of_101 : decode cX9_of 101 = .ok (.getfield 104, 3) := by decide +kernel
theorem dX9_of_104 : decode cX9_of 104 = .ok (.iload_n 1, 1) := by decide +kernel
theorem dX9_of_105 : decode cX9_of 105 = .ok (.iaload, 1) := by decide +kernel
theorem dX9_of_106 : decode cX9_of 106 = .ok (.ireturn, 1) := by decide +kernel
theorem dX9_of_107 : decode cX9_of 107 = .ok (.aload_n 0, 1) := by decide +kernel
theorem dX9_of_108 : decode cX9_of 108 = .ok (.getfield 107, 3) := by decide +kernel
theorem dX9_of_111 : decode cX9_of 111 = .ok (.iload_n 1, 1) := by decide +kernel
theorem dX9_of_112 : decode cX9_of 112 = .ok (.iaload, 1) := by decide +kernel
theorem dX9_of_113 : decode cX9_of 113 = .ok (.ireturn, 1) := by decide +kernel
theorem dX9_of_114 : decode cX9_of 114 = .ok (.aload_n 0, 1) := by decide +kernel
theorem dX9_of_115 : decode cX9_of 115 = .ok (.iload_n 1, 1) := by decide +kernel
theorem dX9_of_116 : decode cX9_of 116 = .ok (.invokevirtual 259, 3) := by decide +kernel
theorem dX9_of_119 : decode cX9_of 119 = .ok (.ireturn, 1) := by decide +kernel
theorem dX9_of_120 : decode cX9_of 120 = .ok (.aload_n 0, 1) := by decide +kernel
theorem dX9_of_121 : decode cX9_of 121 = .ok (.getfield 110, 3) := by decide +kernel
theorem dX9_of_124 : decode cX9_of 124 = .ok (.iload_n 1, 1) := by decide +kernel
theorem dX9_of_125 : decode cX9_of 125 = .ok (.baload, 1) := by decide +kernel
theorem dX9_of_126 : decode cX9_of 126 = .ok (.ifCond .eq 7, 3) := by decide +kernel
theorem dX9_of_129 : decode cX9_of 129 = .ok (.iconst 1, 1) := by decide +kernel
theorem dX9_of_130 : decode cX9_of 130 = .ok (.goto 4, 3) := by decide +kernel
theorem dX9_of_133 : decode cX9_of 133 = .ok (.iconst 0, 1) := by decide +kernel
theorem dX9_of_134 : decode cX9_of 134 = .ok (.ireturn, 1) := by decide +kernel
theorem dX9_of_135 : decode cX9_of 135 = .ok (.aload_n 0, 1) := by decide +kernel
theorem dX9_of_136 : decode cX9_of 136 = .ok (.getfield 113, 3) := by decide +kernel
theorem dX9_of_139 : decode cX9_of 139 = .ok (.iload_n 1, 1) := by decide +kernel
theorem dX9_of_140 : decode cX9_of 140 = .ok (.baload, 1) := by decide +kernel
theorem dX9_of_141 : decode cX9_of 141 = .ok (.ifCond .eq 7, 3) := by decide +kernel
theorem dX9_of_144 : decode cX9_of 144 = .ok (.iconst 1, 1) := by decide +kernel
theorem dX9_of_145 : decode cX9_of 145 = .ok (.goto 4, 3) := by decide +kernel
theorem dX9_of_148 : decode cX9_of 148 = .ok (.iconst 0, 1) := by decide +kernel
theorem dX9_of_149 : decode cX9_of 149 = .ok (.ireturn, 1) := by decide +kernel
theorem dX9_metre_0 : decode cX9_metre 0 = .ok (.aload_n 0, 1) := by decide +kernel
theorem dX9_metre_1 : decode cX9_metre 1 = .ok (.aload_n 0, 1) := by decide +kernel
theorem dX9_metre_2 : decode cX9_metre 2 = .ok (.iload_n 1, 1) := by decide +kernel
theorem dX9_metre_3 : decode cX9_metre 3 = .ok (.iload_n 2, 1) := by decide +kernel
theorem dX9_metre_4 : decode cX9_metre 4 = .ok (.invokevirtual 188, 3) := by decide +kernel
theorem dX9_metre_7 : decode cX9_metre 7 = .ok (.ifCond .ne 7, 3) := by decide +kernel
theorem dX9_metre_10 : decode cX9_metre 10 = .ok (.iconst 1, 1) := by decide +kernel
theorem dX9_metre_11 : decode cX9_metre 11 = .ok (.goto 17, 3) := by decide +kernel
theorem dX9_metre_14 : decode cX9_metre 14 = .ok (.iload_n 3, 1) := by decide +kernel
theorem dX9_metre_15 : decode cX9_metre 15 = .ok (.iconst 0, 1) := by decide +kernel
theorem dX9_metre_16 : decode cX9_metre 16 = .ok (.iconst 3, 1) := by decide +kernel
theorem dX9_metre_17 : decode cX9_metre 17 = .ok (.invokestatic 151, 3) := by decide +kernel
theorem dX9_metre_20 : decode cX9_metre 20 = .ok (.ifCond .eq 7, 3) := by decide +kernel
theorem dX9_metre_23 : decode cX9_metre 23 = .ok (.iconst 0, 1) := by decide +kernel
theorem dX9_metre_24 : decode cX9_metre 24 = .ok (.goto 4, 3) := by decide +kernel
theorem dX9_metre_27 : decode cX9_metre 27 = .ok (.iconst 2, 1) := by decide +kernel
theorem dX9_metre_28 : decode cX9_metre 28 = .ok (.invokevirtual 168, 3) := by decide +kernel
theorem dX9_metre_31 : decode cX9_metre 31 = .ok (.ifCond .ne 5, 3) := by decide +kernel
theorem dX9_metre_34 : decode cX9_metre 34 = .ok (.iconst 0, 1) := by decide +kernel
theorem dX9_metre_35 : decode cX9_metre 35 = .ok (.ireturn, 1) := by decide +kernel
theorem dX9_metre_36 : decode cX9_metre 36 = .ok (.bipush 40, 2) := by decide +kernel
theorem dX9_metre_38 : decode cX9_metre 38 = .ok (.iload_n 1, 1) := by decide +kernel
theorem dX9_metre_39 : decode cX9_metre 39 = .ok (.imul, 1) := by decide +kernel
theorem dX9_metre_40 : decode cX9_metre 40 = .ok (.iload_n 2, 1) := by decide +kernel
theorem dX9_metre_41 : decode cX9_metre 41 = .ok (.iadd, 1) := by decide +kernel
theorem dX9_metre_42 : decode cX9_metre 42 = .ok (.istore 4, 2) := by decide +kernel
theorem dX9_metre_44 : decode cX9_metre 44 = .ok (.iload_n 3, 1) := by decide +kernel
theorem dX9_metre_45 : decode cX9_metre 45 = .ok (.ifCond .ne 20, 3) := by decide +kernel
theorem dX9_metre_48 : decode cX9_metre 48 = .ok (.aload_n 0, 1) := by decide +kernel
theorem dX9_metre_49 : decode cX9_metre 49 = .ok (.iload_n 1, 1) := by decide +kernel
theorem dX9_metre_50 : decode cX9_metre 50 = .ok (.iload_n 2, 1) := by decide +kernel
theorem dX9_metre_51 : decode cX9_metre 51 = .ok (.invokevirtual 247, 3) := by decide +kernel
theorem dX9_metre_54 : decode cX9_metre 54 = .ok (.ifCond .eq 7, 3) := by decide +kernel
theorem dX9_metre_57 : decode cX9_metre 57 = .ok (.iconst 1, 1) := by decide +kernel
theorem dX9_metre_58 : decode cX9_metre 58 = .ok (.goto 51, 3) := by decide +kernel
theorem dX9_metre_61 : decode cX9_metre 61 = .ok (.iconst 0, 1) := by decide +kernel
theorem dX9_metre_62 : decode cX9_metre 62 = .ok (.goto 47, 3) := by decide +kernel
theorem dX9_metre_65 : decode cX9_metre 65 = .ok (.iload_n 3, 1) := by decide +kernel
theorem dX9_metre_66 : decode cX9_metre 66 = .ok (.iconst 1, 1) := by decide +kernel
theorem dX9_metre_67 : decode cX9_metre 67 = .ok (.if_icmp .ne 21, 3) := by decide +kernel
theorem dX9_metre_70 : decode cX9_metre 70 = .ok (.aload_n 0, 1) := by decide +kernel
theorem dX9_metre_71 : decode cX9_metre 71 = .ok (.getfield 40, 3) := by decide +kernel
theorem dX9_metre_74 : decode cX9_metre 74 = .ok (.iload 4, 2) := by decide +kernel
theorem dX9_metre_76 : decode cX9_metre 76 = .ok (.baload, 1) := by decide +kernel
theorem dX9_metre_77 : decode cX9_metre 77 = .ok (.ifCond .eq 7, 3) := by decide +kernel
theorem dX9_metre_80 : decode cX9_metre 80 = .ok (.iconst 1, 1) := by decide +kernel
theorem dX9_metre_81 : decode cX9_metre 81 = .ok (.goto 28, 3) := by decide +kernel
theorem dX9_metre_84 : decode cX9_metre 84 = .ok (.iconst 0, 1) := by decide +kernel
theorem dX9_metre_85 : decode cX9_metre 85 = .ok (.goto 24, 3) := by decide +kernel
theorem dX9_metre_88 : decode cX9_metre 88 = .ok (.iload_n 3, 1) := by decide +kernel
theorem dX9_metre_89 : decode cX9_metre 89 = .ok (.iconst 2, 1) := by decide +kernel
theorem dX9_metre_90 : decode cX9_metre 90 = .ok (.if_icmp .ne 13, 3) := by decide +kernel
theorem dX9_metre_93 : decode cX9_metre 93 = .ok (.aload_n 0, 1) := by decide +kernel
theorem dX9_metre_94 : decode cX9_metre 94 = .ok (.getfield 44, 3) := by decide +kernel
theorem dX9_metre_97 : decode cX9_metre 97 = .ok (.iload 4, 2) := by decide +kernel
theorem dX9_metre_99 : decode cX9_metre 99 = .ok (.iaload, 1) := by decide +kernel
theorem dX9_metre_100 : decode cX9_metre 100 = .ok (.goto 9, 3) := by decide +kernel
theorem dX9_metre_103 : decode cX9_metre 103 = .ok (.aload_n 0, 1) := by decide +kernel
theorem dX9_metre_104 : decode cX9_metre 104 = .ok (.iload 4, 2) := by decide +kernel
theorem dX9_metre_106 : decode cX9_metre 106 = .ok (.invokevirtual 256, 3) := by decide +kernel
theorem dX9_metre_109 : decode cX9_metre 109 = .ok (.ireturn, 1) := by decide +kernel
theorem dX9_search_0 : decode cX9_search 0 = .ok (.aload_n 0, 1) := by decide +kernel
theorem dX9_search_1 : decode cX9_search 1 = .ok (.iload_n 1, 1) := by decide +kernel
theorem dX9_search_2 : decode cX9_search 2 = .ok (.iload_n 2, 1) := by decide +kernel
theorem dX9_search_3 : decode cX9_search 3 = .ok (.invokevirtual 188, 3) := by decide +kernel
theorem dX9_search_6 : decode cX9_search 6 = .ok (.ifCond .eq 16, 3) := by decide +kernel
theorem dX9_search_9 : decode cX9_search 9 = .ok (.aload_n 0, 1) := by decide +kernel
theorem dX9_search_10 : decode cX9_search 10 = .ok (.iload_n 1, 1) := by decide +kernel
theorem dX9_search_11 : decode cX9_search 11 = .ok (.iload_n 3, 1) := by decide +kernel
theorem dX9_search_12 : decode cX9_search 12 = .ok (.invokevirtual 188, 3) := by decide +kernel
theorem dX9_search_15 : decode cX9_search 15 = .ok (.ifCond .eq 7, 3) := by decide +kernel
theorem dX9_search_18 : decode cX9_search 18 = .ok (.iconst 1, 1) := by decide +kernel
theorem dX9_search_19 : decode cX9_search 19 = .ok (.goto 4, 3) := by decide +kernel
theorem dX9_search_22 : decode cX9_search 22 = .ok (.iconst 0, 1) := by decide +kernel
theorem dX9_search_23 : decode cX9_search 23 = .ok (.istore 4, 2) := by decide +kernel
theorem dX9_search_25 : decode cX9_search 25 = .ok (.aload_n 0, 1) := by decide +kernel
theorem dX9_search_26 : decode cX9_search 26 = .ok (.iload 4, 2) := by decide +kernel
theorem dX9_search_28 : decode cX9_search 28 = .ok (.ifCond .ne 7, 3) := by decide +kernel
theorem dX9_search_31 : decode cX9_search 31 = .ok (.iconst 1, 1) := by decide +kernel
theorem dX9_search_32 : decode cX9_search 32 = .ok (.goto 13, 3) := by decide +kernel
theorem dX9_search_35 : decode cX9_search 35 = .ok (.iload_n 3, 1) := by decide +kernel
theorem dX9_search_36 : decode cX9_search 36 = .ok (.iload_n 2, 1) := by decide +kernel
theorem dX9_search_37 : decode cX9_search 37 = .ok (.if_icmp .ge 7, 3) := by decide +kernel
theorem dX9_search_40 : decode cX9_search 40 = .ok (.iconst 2, 1) := by decide +kernel
theorem dX9_search_41 : decode cX9_search 41 = .ok (.goto 4, 3) := by decide +kernel
theorem dX9_search_44 : decode cX9_search 44 = .ok (.iconst 0, 1) := by decide +kernel
theorem dX9_search_45 : decode cX9_search 45 = .ok (.invokevirtual 168, 3) := by decide +kernel
theorem dX9_search_48 : decode cX9_search 48 = .ok (.ifCond .ne 5, 3) := by decide +kernel
theorem dX9_search_51 : decode cX9_search 51 = .ok (.iconst 0, 1) := by decide +kernel
theorem dX9_search_52 : decode cX9_search 52 = .ok (.ireturn, 1) := by decide +kernel
theorem dX9_search_53 : decode cX9_search 53 = .ok (.iconst 0, 1) := by decide +kernel
theorem dX9_search_54 : decode cX9_search 54 = .ok (.istore 5, 2) := by decide +kernel
theorem dX9_search_56 : decode cX9_search 56 = .ok (.iconst 0, 1) := by decide +kernel
theorem dX9_search_57 : decode cX9_search 57 = .ok (.istore 6, 2) := by decide +kernel
theorem dX9_search_59 : decode cX9_search 59 = .ok (.iload 6, 2) := by decide +kernel
theorem dX9_search_61 : decode cX9_search 61 = .ok (.aload_n 0, 1) := by decide +kernel
theorem dX9_search_62 : decode cX9_search 62 = .ok (.getfield 159, 3) := by decide +kernel
theorem dX9_search_65 : decode cX9_search 65 = .ok (.if_icmp .ge 77, 3) := by decide +kernel
theorem dX9_search_68 : decode cX9_search 68 = .ok (.aload_n 0, 1) := by decide +kernel
theorem dX9_search_69 : decode cX9_search 69 = .ok (.getfield 62, 3) := by decide +kernel
theorem dX9_search_72 : decode cX9_search 72 = .ok (.iload 6, 2) := by decide +kernel
theorem dX9_search_74 : decode cX9_search 74 = .ok (.baload, 1) := by decide +kernel
theorem dX9_search_75 : decode cX9_search 75 = .ok (.ifCond .eq 40, 3) := by decide +kernel
theorem dX9_search_78 : decode cX9_search 78 = .ok (.aload_n 0, 1) := by decide +kernel
theorem dX9_search_79 : decode cX9_search 79 = .ok (.getfield 50, 3) := by decide +kernel
theorem dX9_search_82 : decode cX9_search 82 = .ok (.iload 6, 2) := by decide +kernel
theorem dX9_search_84 : decode cX9_search 84 = .ok (.iaload, 1) := by decide +kernel
theorem dX9_search_85 : decode cX9_search 85 = .ok (.iload_n 1, 1) := by decide +kernel
theorem dX9_search_86 : decode cX9_search 86 = .ok (.if_icmp .ne 29, 3) := by decide +kernel
theorem dX9_search_89 : decode cX9_search 89 = .ok (.aload_n 0, 1) := by decide +kernel
theorem dX9_search_90 : decode cX9_search 90 = .ok (.getfield 65, 3) := by decide +kernel
theorem dX9_search_93 : decode cX9_search 93 = .ok (.iload 6, 2) := by decide +kernel
theorem dX9_search_95 : decode cX9_search 95 = .ok (.iaload, 1) := by decide +kernel
theorem dX9_search_96 : decode cX9_search 96 = .ok (.iload_n 3, 1) := by decide +kernel
theorem dX9_search_97 : decode cX9_search 97 = .ok (.if_icmp .gt 18, 3) := by decide +kernel
theorem dX9_search_100 : decode cX9_search 100 = .ok (.iload_n 2, 1) := by decide +kernel
theorem dX9_search_101 : decode cX9_search 101 = .ok (.aload_n 0, 1) := by decide +kernel
theorem dX9_search_102 : decode cX9_search 102 = .ok (.getfield 68, 3) := by decide +kernel
theorem dX9_search_105 : decode cX9_search 105 = .ok (.iload 6, 2) := by decide +kernel
theorem dX9_search_107 : decode cX9_search 107 = .ok (.iaload, 1) := by decide +kernel
theorem dX9_search_108 : decode cX9_search 108 = .ok (.if_icmp .gt 7, 3) := by decide +kernel
theorem dX9_search_111 : decode cX9_search 111 = .ok (.iconst 1, 1) := by decide +kernel
theorem dX9_search_112 : decode cX9_search 112 = .ok (.goto 4, 3) := by decide +kernel
theorem dX9_search_115 : decode cX9_search 115 = .ok (.iconst 0, 1) := by decide +kernel
theorem dX9_search_116 : decode cX9_search 116 = .ok (.istore 7, 2) := by decide +kernel
theorem dX9_search_118 : decode cX9_search 118 = .ok (.iload 5, 2) := by decide +kernel
theorem dX9_search_120 : decode cX9_search 120 = .ok (.iload 7, 2) := by decide +kernel
theorem dX9_search_122 : decode cX9_search 122 = .ok (.ifCond .eq 10, 3) := by decide +kernel
theorem dX9_search_125 : decode cX9_search 125 = .ok (.iconst 1, 1) := by decide +kernel
theorem dX9_search_126 : decode cX9_search 126 = .ok (.iload 6, 2) := by decide +kernel
theorem dX9_search_128 : decode cX9_search 128 = .ok (.ishl, 1) := by decide +kernel
theorem dX9_search_129 : decode cX9_search 129 = .ok (.goto 4, 3) := by decide +kernel
theorem dX9_search_132 : decode cX9_search 132 = .ok (.iconst 0, 1) := by decide +kernel
theorem dX9_search_133 : decode cX9_search 133 = .ok (.ior, 1) := by decide +kernel
theorem dX9_search_134 : decode cX9_search 134 = .ok (.istore 5, 2) := by decide +kernel
theorem dX9_search_136 : decode cX9_search 136 = .ok (.iinc 6 1, 3) := by decide +kernel
theorem dX9_search_139 : decode cX9_search 139 = .ok (.goto (-80), 3) := by decide +kernel
theorem dX9_search_142 : decode cX9_search 142 = .ok (.iload 5, 2) := by decide +kernel
theorem dX9_search_144 : decode cX9_search 144 = .ok (.ireturn, 1) := by decide +kernel
theorem dX9_queue_0 : decode cX9_queue 0 = .ok (.aload_n 0, 1) := by decide +kernel
theorem dX9_queue_1 : decode cX9_queue 1 = .ok (.aload_n 0, 1) := by decide +kernel
theorem dX9_queue_2 : decode cX9_queue 2 = .ok (.iload_n 1, 1) := by decide +kernel
theorem dX9_queue_3 : decode cX9_queue 3 = .ok (.invokevirtual 155, 3) := by decide +kernel
theorem dX9_queue_6 : decode cX9_queue 6 = .ok (.ifCond .eq 7, 3) := by decide +kernel
theorem dX9_queue_9 : decode cX9_queue 9 = .ok (.iconst 0, 1) := by decide +kernel
theorem dX9_queue_10 : decode cX9_queue 10 = .ok (.goto 4, 3) := by decide +kernel
theorem dX9_queue_13 : decode cX9_queue 13 = .ok (.iconst 1, 1) := by decide +kernel
theorem dX9_queue_14 : decode cX9_queue 14 = .ok (.invokevirtual 168, 3) := by decide +kernel
theorem dX9_queue_17 : decode cX9_queue 17 = .ok (.ifCond .eq 12, 3) := by decide +kernel
theorem dX9_queue_20 : decode cX9_queue 20 = .ok (.aload_n 0, 1) := by decide +kernel
theorem dX9_queue_21 : decode cX9_queue 21 = .ok (.getfield 34, 3) := by decide +kernel
theorem dX9_queue_24 : decode cX9_queue 24 = .ok (.iload_n 1, 1) := by decide +kernel
theorem dX9_queue_25 : decode cX9_queue 25 = .ok (.iaload, 1) := by decide +kernel
theorem dX9_queue_26 : decode cX9_queue 26 = .ok (.goto 4, 3) := by decide +kernel
theorem dX9_queue_29 : decode cX9_queue 29 = .ok (.iconst 0, 1) := by decide +kernel
theorem dX9_queue_30 : decode cX9_queue 30 = .ok (.ireturn, 1) := by decide +kernel
theorem dX9_due_0 : decode cX9_due 0 = .ok (.aload_n 0, 1) := by decide +kernel
theorem dX9_due_1 : decode cX9_due 1 = .ok (.iload_n 1, 1) := by decide +kernel
theorem dX9_due_2 : decode cX9_due 2 = .ok (.invokestatic 185, 3) := by decide +kernel
theorem dX9_due_5 : decode cX9_due 5 = .ok (.ifCond .eq 7, 3) := by decide +kernel
theorem dX9_due_8 : decode cX9_due 8 = .ok (.iconst 0, 1) := by decide +kernel
theorem dX9_due_9 : decode cX9_due 9 = .ok (.goto 4, 3) := by decide +kernel
theorem dX9_due_12 : decode cX9_due 12 = .ok (.iconst 1, 1) := by decide +kernel
theorem dX9_due_13 : decode cX9_due 13 = .ok (.invokevirtual 168, 3) := by decide +kernel
theorem dX9_due_16 : decode cX9_due 16 = .ok (.ifCond .ne 5, 3) := by decide +kernel
theorem dX9_due_19 : decode cX9_due 19 = .ok (.iconst 0, 1) := by decide +kernel
theorem dX9_due_20 : decode cX9_due 20 = .ok (.ireturn, 1) := by decide +kernel
theorem dX9_due_21 : decode cX9_due 21 = .ok (.iconst 0, 1) := by decide +kernel
theorem dX9_due_22 : decode cX9_due 22 = .ok (.istore_n 2, 1) := by decide +kernel
theorem dX9_due_23 : decode cX9_due 23 = .ok (.iconst 0, 1) := by decide +kernel
theorem dX9_due_24 : decode cX9_due 24 = .ok (.istore_n 3, 1) := by decide +kernel
theorem dX9_due_25 : decode cX9_due 25 = .ok (.iload_n 3, 1) := by decide +kernel
theorem dX9_due_26 : decode cX9_due 26 = .ok (.aload_n 0, 1) := by decide +kernel
theorem dX9_due_27 : decode cX9_due 27 = .ok (.getfield 179, 3) := by decide +kernel
theorem dX9_due_30 : decode cX9_due 30 = .ok (.if_icmp .ge 32, 3) := by decide +kernel
theorem dX9_due_33 : decode cX9_due 33 = .ok (.iload_n 2, 1) := by decide +kernel
theorem dX9_due_34 : decode cX9_due 34 = .ok (.aload_n 0, 1) := by decide +kernel
theorem dX9_due_35 : decode cX9_due 35 = .ok (.getfield 71, 3) := by decide +kernel
theorem dX9_due_38 : decode cX9_due 38 = .ok (.aload_n 0, 1) := by decide +kernel
theorem dX9_due_39 : decode cX9_due 39 = .ok (.getfield 122, 3) := by decide +kernel
theorem dX9_due_42 : decode cX9_due 42 = .ok (.iload_n 3, 1) := by decide +kernel
theorem dX9_due_43 : decode cX9_due 43 = .ok (.iaload, 1) := by decide +kernel
theorem dX9_due_44 : decode cX9_due 44 = .ok (.iaload, 1) := by decide +kernel
theorem dX9_due_45 : decode cX9_due 45 = .ok (.iload_n 1, 1) := by decide +kernel
theorem dX9_due_46 : decode cX9_due 46 = .ok (.if_icmp .ne 7, 3) := by decide +kernel
theorem dX9_due_49 : decode cX9_due 49 = .ok (.iconst 1, 1) := by decide +kernel
theorem dX9_due_50 : decode cX9_due 50 = .ok (.goto 4, 3) := by decide +kernel
theorem dX9_due_53 : decode cX9_due 53 = .ok (.iconst 0, 1) := by decide +kernel
theorem dX9_due_54 : decode cX9_due 54 = .ok (.iadd, 1) := by decide +kernel
theorem dX9_due_55 : decode cX9_due 55 = .ok (.istore_n 2, 1) := by decide +kernel
theorem dX9_due_56 : decode cX9_due 56 = .ok (.iinc 3 1, 3) := by decide +kernel
theorem dX9_due_59 : decode cX9_due 59 = .ok (.goto (-34), 3) := by decide +kernel
theorem dX9_due_62 : decode cX9_due 62 = .ok (.iconst 5, 1) := by decide +kernel
theorem dX9_due_63 : decode cX9_due 63 = .ok (.iconst 5, 1) := by decide +kernel
theorem dX9_due_64 : decode cX9_due 64 = .ok (.aload_n 0, 1) := by decide +kernel
theorem dX9_due_65 : decode cX9_due 65 = .ok (.getfield 134, 3) := by decide +kernel
theorem dX9_due_68 : decode cX9_due 68 = .ok (.iload_n 1, 1) := by decide +kernel
theorem dX9_due_69 : decode cX9_due 69 = .ok (.iaload, 1) := by decide +kernel
theorem dX9_due_70 : decode cX9_due 70 = .ok (.imul, 1) := by decide +kernel
theorem dX9_due_71 : decode cX9_due 71 = .ok (.iadd, 1) := by decide +kernel
theorem dX9_due_72 : decode cX9_due 72 = .ok (.istore_n 3, 1) := by decide +kernel
theorem dX9_due_73 : decode cX9_due 73 = .ok (.iload_n 3, 1) := by decide +kernel
theorem dX9_due_74 : decode cX9_due 74 = .ok (.bipush 50, 2) := by decide +kernel
theorem dX9_due_76 : decode cX9_due 76 = .ok (.if_icmp .le 8, 3) := by decide +kernel
theorem dX9_due_79 : decode cX9_due 79 = .ok (.bipush 50, 2) := by decide +kernel
theorem dX9_due_81 : decode cX9_due 81 = .ok (.goto 4, 3) := by decide +kernel
theorem dX9_due_84 : decode cX9_due 84 = .ok (.iload_n 3, 1) := by decide +kernel
theorem dX9_due_85 : decode cX9_due 85 = .ok (.istore_n 3, 1) := by decide +kernel
theorem dX9_due_86 : decode cX9_due 86 = .ok (.iload_n 2, 1) := by decide +kernel
theorem dX9_due_87 : decode cX9_due 87 = .ok (.iload_n 3, 1) := by decide +kernel
theorem dX9_due_88 : decode cX9_due 88 = .ok (.imul, 1) := by decide +kernel
theorem dX9_due_89 : decode cX9_due 89 = .ok (.bipush 99, 2) := by decide +kernel
theorem dX9_due_91 : decode cX9_due 91 = .ok (.iadd, 1) := by decide +kernel
theorem dX9_due_92 : decode cX9_due 92 = .ok (.bipush 100, 2) := by decide +kernel
theorem dX9_due_94 : decode cX9_due 94 = .ok (.idiv, 1) := by decide +kernel
theorem dX9_due_95 : decode cX9_due 95 = .ok (.aload_n 0, 1) := by decide +kernel
theorem dX9_due_96 : decode cX9_due 96 = .ok (.getfield 137, 3) := by decide +kernel
theorem dX9_due_99 : decode cX9_due 99 = .ok (.iload_n 1, 1) := by decide +kernel
theorem dX9_due_100 : decode cX9_due 100 = .ok (.iaload, 1) := by decide +kernel
theorem dX9_due_101 : decode cX9_due 101 = .ok (.isub, 1) := by decide +kernel
theorem dX9_due_102 : decode cX9_due 102 = .ok (.istore 4, 2) := by decide +kernel
theorem dX9_due_104 : decode cX9_due 104 = .ok (.iload 4, 2) := by decide +kernel
theorem dX9_due_106 : decode cX9_due 106 = .ok (.ifCond .ge 7, 3) := by decide +kernel
theorem dX9_due_109 : decode cX9_due 109 = .ok (.iconst 0, 1) := by decide +kernel
theorem dX9_due_110 : decode cX9_due 110 = .ok (.goto 5, 3) := by decide +kernel
theorem dX9_due_113 : decode cX9_due 113 = .ok (.iload 4, 2) := by decide +kernel
theorem dX9_due_115 : decode cX9_due 115 = .ok (.ireturn, 1) := by decide +kernel
theorem dX9_money_0 : decode cX9_money 0 = .ok (.aload_n 0, 1) := by decide +kernel
theorem dX9_money_1 : decode cX9_money 1 = .ok (.iload_n 1, 1) := by decide +kernel
theorem dX9_money_2 : decode cX9_money 2 = .ok (.iconst 0, 1) := by decide +kernel
theorem dX9_money_3 : decode cX9_money 3 = .ok (.iconst 5, 1) := by decide +kernel
theorem dX9_money_4 : decode cX9_money 4 = .ok (.invokestatic 151, 3) := by decide +kernel
theorem dX9_money_7 : decode cX9_money 7 = .ok (.ifCond .eq 7, 3) := by decide +kernel
theorem dX9_money_10 : decode cX9_money 10 = .ok (.iconst 0, 1) := by decide +kernel
theorem dX9_money_11 : decode cX9_money 11 = .ok (.goto 4, 3) := by decide +kernel
theorem dX9_money_14 : decode cX9_money 14 = .ok (.iconst 1, 1) := by decide +kernel
theorem dX9_money_15 : decode cX9_money 15 = .ok (.invokevirtual 168, 3) := by decide +kernel
theorem dX9_money_18 : decode cX9_money 18 = .ok (.ifCond .eq 12, 3) := by decide +kernel
theorem dX9_money_21 : decode cX9_money 21 = .ok (.aload_n 0, 1) := by decide +kernel
theorem dX9_money_22 : decode cX9_money 22 = .ok (.getfield 140, 3) := by decide +kernel
theorem dX9_money_25 : decode cX9_money 25 = .ok (.iload_n 1, 1) := by decide +kernel
theorem dX9_money_26 : decode cX9_money 26 = .ok (.laload, 1) := by decide +kernel
theorem dX9_money_27 : decode cX9_money 27 = .ok (.goto 4, 3) := by decide +kernel
theorem dX9_money_30 : decode cX9_money 30 = .ok (.lconst 0, 1) := by decide +kernel
theorem dX9_money_31 : decode cX9_money 31 = .ok (.lreturn, 1) := by decide +kernel
theorem dX9_moneyAnew_0 : decode cX9_moneyAnew 0 = .ok (.aload_n 0, 1) := by decide +kernel
theorem dX9_moneyAnew_1 : decode cX9_moneyAnew 1 = .ok (.iload_n 1, 1) := by decide +kernel
theorem dX9_moneyAnew_2 : decode cX9_moneyAnew 2 = .ok (.iconst 0, 1) := by decide +kernel
theorem dX9_moneyAnew_3 : decode cX9_moneyAnew 3 = .ok (.iconst 5, 1) := by decide +kernel
theorem dX9_moneyAnew_4 : decode cX9_moneyAnew 4 = .ok (.invokestatic 151, 3) := by decide +kernel
theorem dX9_moneyAnew_7 : decode cX9_moneyAnew 7 = .ok (.ifCond .eq 7, 3) := by decide +kernel
theorem dX9_moneyAnew_10 : decode cX9_moneyAnew 10 = .ok (.iconst 0, 1) := by decide +kernel
theorem dX9_moneyAnew_11 : decode cX9_moneyAnew 11 = .ok (.goto 4, 3) := by decide +kernel
theorem dX9_moneyAnew_14 : decode cX9_moneyAnew 14 = .ok (.iconst 1, 1) := by decide +kernel
theorem dX9_moneyAnew_15 : decode cX9_moneyAnew 15 = .ok (.invokevirtual 168, 3) := by decide +kernel
theorem dX9_moneyAnew_18 : decode cX9_moneyAnew 18 = .ok (.ifCond .eq 12, 3) := by decide +kernel
theorem dX9_moneyAnew_21 : decode cX9_moneyAnew 21 = .ok (.aload_n 0, 1) := by decide +kernel
theorem dX9_moneyAnew_22 : decode cX9_moneyAnew 22 = .ok (.getfield 140, 3) := by decide +kernel
theorem dX9_moneyAnew_25 : decode cX9_moneyAnew 25 = .ok (.iload_n 1, 1) := by decide +kernel
theorem dX9_moneyAnew_26 : decode cX9_moneyAnew 26 = .ok (.laload, 1) := by decide +kernel
theorem dX9_moneyAnew_27 : decode cX9_moneyAnew 27 = .ok (.goto 4, 3) := by decide +kernel
theorem dX9_moneyAnew_30 : decode cX9_moneyAnew 30 = .ok (.lconst 0, 1) := by decide +kernel
theorem dX9_moneyAnew_31 : decode cX9_moneyAnew 31 = .ok (.lreturn, 1) := by decide +kernel
theorem dJ9_max_7cf53_0 : decode cJ9_max_7cf53 0 = .ok (.iload_n 0, 1) := by decide +kernel
theorem dJ9_max_7cf53_1 : decode cJ9_max_7cf53 1 = .ok (.iload_n 1, 1) := by decide +kernel
theorem dJ9_max_7cf53_2 : decode cJ9_max_7cf53 2 = .ok (.if_icmp .lt 7, 3) := by decide +kernel
theorem dJ9_max_7cf53_5 : decode cJ9_max_7cf53 5 = .ok (.iload_n 0, 1) := by decide +kernel
theorem dJ9_max_7cf53_6 : decode cJ9_max_7cf53 6 = .ok (.goto 4, 3) := by decide +kernel
theorem dJ9_max_7cf53_9 : decode cJ9_max_7cf53 9 = .ok (.iload_n 1, 1) := by decide +kernel
theorem dJ9_max_7cf53_10 : decode cJ9_max_7cf53 10 = .ok (.ireturn, 1) := by decide +kernel
theorem dJ9_min_7cf53_0 : decode cJ9_min_7cf53 0 = .ok (.iload_n 0, 1) := by decide +kernel
theorem dJ9_min_7cf53_1 : decode cJ9_min_7cf53 1 = .ok (.iload_n 1, 1) := by decide +kernel
theorem dJ9_min_7cf53_2 : decode cJ9_min_7cf53 2 = .ok (.if_icmp .gt 7, 3) := by decide +kernel
theorem dJ9_min_7cf53_5 : decode cJ9_min_7cf53 5 = .ok (.iload_n 0, 1) := by decide +kernel
theorem dJ9_min_7cf53_6 : decode cJ9_min_7cf53 6 = .ok (.goto 4, 3) := by decide +kernel
theorem dJ9_min_7cf53_9 : decode cJ9_min_7cf53 9 = .ok (.iload_n 1, 1) := by decide +kernel
theorem dJ9_min_7cf53_10 : decode cJ9_min_7cf53 10 = .ok (.ireturn, 1) := by decide +kernel
theorem dJxa1e45_init_da8c8_0 : decode cJxa1e45_init_da8c8 0 = .ok (.aload_n 0, 1) := by decide +kernel
theorem dJxa1e45_init_da8c8_1 : decode cJxa1e45_init_da8c8 1 = .ok (.invokespecial 1, 3) := by decide +kernel
theorem dJxa1e45_init_da8c8_4 : decode cJxa1e45_init_da8c8 4 = .ok (.return_, 1) := by decide +kernel
theorem dJxc12de_init_da8c8_0 : decode cJxc12de_init_da8c8 0 = .ok (.aload_n 0, 1) := by decide +kernel
theorem dJxc12de_init_da8c8_1 : decode cJxc12de_init_da8c8 1 = .ok (.invokespecial 1, 3) := by decide +kernel
theorem dJxc12de_init_da8c8_4 : decode cJxc12de_init_da8c8 4 = .ok (.aload_n 0, 1) := by decide +kernel
theorem dJxc12de_init_da8c8_5 : decode cJxc12de_init_da8c8 5 = .ok (.iconst 0, 1) := by decide +kernel
theorem dJxc12de_init_da8c8_6 : decode cJxc12de_init_da8c8 6 = .ok (.putfield 7, 3) := by decide +kernel
theorem dJxc12de_init_da8c8_9 : decode cJxc12de_init_da8c8 9 = .ok (.return_, 1) := by decide +kernel
theorem dJx4a65c_init_da8c8_0 : decode cJx4a65c_init_da8c8 0 = .ok (.aload_n 0, 1) := by decide +kernel
theorem dJx4a65c_init_da8c8_1 : decode cJx4a65c_init_da8c8 1 = .ok (.invokespecial 1, 3) := by decide +kernel
theorem dJx4a65c_init_da8c8_4 : decode cJx4a65c_init_da8c8 4 = .ok (.aload_n 0, 1) := by decide +kernel
theorem dJx4a65c_init_da8c8_5 : decode cJx4a65c_init_da8c8 5 = .ok (.getstatic 39, 3) := by decide +kernel
theorem dJx4a65c_init_da8c8_8 : decode cJx4a65c_init_da8c8 8 = .ok (.putfield 9, 3) := by decide +kernel
theorem dJx4a65c_init_da8c8_11 : decode cJx4a65c_init_da8c8 11 = .ok (.return_, 1) := by decide +kernel
theorem dJx4a65c_grow_92f84_0 : decode cJx4a65c_grow_92f84 0 = .ok (.aload_n 0, 1) := by decide +kernel
theorem dJx4a65c_grow_92f84_1 : decode cJx4a65c_grow_92f84 1 = .ok (.getfield 9, 3) := by decide +kernel
theorem dJx4a65c_grow_92f84_4 : decode cJx4a65c_grow_92f84 4 = .ok (.arraylength, 1) := by decide +kernel
theorem dJx4a65c_grow_92f84_5 : decode cJx4a65c_grow_92f84 5 = .ok (.istore_n 2, 1) := by decide +kernel
theorem dJx4a65c_grow_92f84_6 : decode cJx4a65c_grow_92f84 6 = .ok (.iload_n 2, 1) := by decide +kernel
theorem dJx4a65c_grow_92f84_7 : decode cJx4a65c_grow_92f84 7 = .ok (.ifCond .gt 13, 3) := by decide +kernel
theorem dJx4a65c_grow_92f84_10 : decode cJx4a65c_grow_92f84 10 = .ok (.aload_n 0, 1) := by decide +kernel
theorem dJx4a65c_grow_92f84_11 : decode cJx4a65c_grow_92f84 11 = .ok (.getfield 9, 3) := by decide +kernel
theorem dJx4a65c_grow_92f84_14 : decode cJx4a65c_grow_92f84 14 = .ok (.getstatic 39, 3) := by decide +kernel
theorem dJx4a65c_grow_92f84_17 : decode cJx4a65c_grow_92f84 17 = .ok (.if_acmp .eq 28, 3) := by decide +kernel
theorem dJx4a65c_grow_92f84_20 : decode cJx4a65c_grow_92f84 20 = .ok (.iload_n 2, 1) := by decide +kernel
theorem dJx4a65c_grow_92f84_21 : decode cJx4a65c_grow_92f84 21 = .ok (.iload_n 1, 1) := by decide +kernel
theorem dJx4a65c_grow_92f84_22 : decode cJx4a65c_grow_92f84 22 = .ok (.iload_n 2, 1) := by decide +kernel
theorem dJx4a65c_grow_92f84_23 : decode cJx4a65c_grow_92f84 23 = .ok (.isub, 1) := by decide +kernel
theorem dJx4a65c_grow_92f84_24 : decode cJx4a65c_grow_92f84 24 = .ok (.iload_n 2, 1) := by decide +kernel
theorem dJx4a65c_grow_92f84_25 : decode cJx4a65c_grow_92f84 25 = .ok (.iconst 1, 1) := by decide +kernel
theorem dJx4a65c_grow_92f84_26 : decode cJx4a65c_grow_92f84 26 = .ok (.ishr, 1) := by decide +kernel
theorem dJx4a65c_grow_92f84_27 : decode cJx4a65c_grow_92f84 27 = .ok (.invokestatic 73, 3) := by decide +kernel
theorem dJx4a65c_grow_92f84_30 : decode cJx4a65c_grow_92f84 30 = .ok (.istore_n 3, 1) := by decide +kernel
theorem dJx4a65c_grow_92f84_31 : decode cJx4a65c_grow_92f84 31 = .ok (.aload_n 0, 1) := by decide +kernel
theorem dJx4a65c_grow_92f84_32 : decode cJx4a65c_grow_92f84 32 = .ok (.aload_n 0, 1) := by decide +kernel
theorem dJx4a65c_grow_92f84_33 : decode cJx4a65c_grow_92f84 33 = .ok (.getfield 9, 3) := by decide +kernel
theorem dJx4a65c_grow_92f84_36 : decode cJx4a65c_grow_92f84 36 = .ok (.iload_n 3, 1) := by decide +kernel
theorem dJx4a65c_grow_92f84_37 : decode cJx4a65c_grow_92f84 37 = .ok (.invokestatic 66, 3) := by decide +kernel
theorem dJx4a65c_grow_92f84_40 : decode cJx4a65c_grow_92f84 40 = .ok (.dup_x1, 1) := by decide +kernel
theorem dJx4a65c_grow_92f84_41 : decode cJx4a65c_grow_92f84 41 = .ok (.putfield 9, 3) := by decide +kernel
theorem dJx4a65c_grow_92f84_44 : decode cJx4a65c_grow_92f84 44 = .ok (.areturn, 1) := by decide +kernel
theorem dJx4a65c_grow_92f84_45 : decode cJx4a65c_grow_92f84 45 = .ok (.aload_n 0, 1) := by decide +kernel
theorem dJx4a65c_grow_92f84_46 : decode cJx4a65c_grow_92f84 46 = .ok (.bipush 10, 2) := by decide +kernel
theorem dJx4a65c_grow_92f84_48 : decode cJx4a65c_grow_92f84 48 = .ok (.iload_n 1, 1) := by decide +kernel
theorem dJx4a65c_grow_92f84_49 : decode cJx4a65c_grow_92f84 49 = .ok (.invokestatic 79, 3) := by decide +kernel
theorem dJx4a65c_grow_92f84_52 : decode cJx4a65c_grow_92f84 52 = .ok (.anewarray 7, 3) := by decide +kernel
theorem dJx4a65c_grow_92f84_55 : decode cJx4a65c_grow_92f84 55 = .ok (.dup_x1, 1) := by decide +kernel
theorem dJx4a65c_grow_92f84_56 : decode cJx4a65c_grow_92f84 56 = .ok (.putfield 9, 3) := by decide +kernel
theorem dJx4a65c_grow_92f84_59 : decode cJx4a65c_grow_92f84 59 = .ok (.areturn, 1) := by decide +kernel
theorem dJx4a65c_grow_d5877_0 : decode cJx4a65c_grow_d5877 0 = .ok (.aload_n 0, 1) := by decide +kernel
theorem dJx4a65c_grow_d5877_1 : decode cJx4a65c_grow_d5877 1 = .ok (.aload_n 0, 1) := by decide +kernel
theorem dJx4a65c_grow_d5877_2 : decode cJx4a65c_grow_d5877 2 = .ok (.getfield 48, 3) := by decide +kernel
theorem dJx4a65c_grow_d5877_5 : decode cJx4a65c_grow_d5877 5 = .ok (.iconst 1, 1) := by decide +kernel
theorem dJx4a65c_grow_d5877_6 : decode cJx4a65c_grow_d5877 6 = .ok (.iadd, 1) := by decide +kernel
theorem dJx4a65c_grow_d5877_7 : decode cJx4a65c_grow_d5877 7 = .ok (.invokevirtual 69, 3) := by decide +kernel
theorem dJx4a65c_grow_d5877_10 : decode cJx4a65c_grow_d5877 10 = .ok (.areturn, 1) := by decide +kernel
theorem dJx4a65c_size_8abf5_0 : decode cJx4a65c_size_8abf5 0 = .ok (.aload_n 0, 1) := by decide +kernel
theorem dJx4a65c_size_8abf5_1 : decode cJx4a65c_size_8abf5 1 = .ok (.getfield 48, 3) := by decide +kernel
theorem dJx4a65c_size_8abf5_4 : decode cJx4a65c_size_8abf5 4 = .ok (.ireturn, 1) := by decide +kernel
theorem dJx4a65c_elementData_915e3_0 : decode cJx4a65c_elementData_915e3 0 = .ok (.aload_n 0, 1) := by decide +kernel
theorem dJx4a65c_elementData_915e3_1 : decode cJx4a65c_elementData_915e3 1 = .ok (.getfield 9, 3) := by decide +kernel
theorem dJx4a65c_elementData_915e3_4 : decode cJx4a65c_elementData_915e3 4 = .ok (.iload_n 1, 1) := by decide +kernel
theorem dJx4a65c_elementData_915e3_5 : decode cJx4a65c_elementData_915e3 5 = .ok (.aaload, 1) := by decide +kernel
theorem dJx4a65c_elementData_915e3_6 : decode cJx4a65c_elementData_915e3 6 = .ok (.areturn, 1) := by decide +kernel
theorem dJx4a65c_get_915e3_0 : decode cJx4a65c_get_915e3 0 = .ok (.iload_n 1, 1) := by decide +kernel
theorem dJx4a65c_get_915e3_1 : decode cJx4a65c_get_915e3 1 = .ok (.aload_n 0, 1) := by decide +kernel
theorem dJx4a65c_get_915e3_2 : decode cJx4a65c_get_915e3 2 = .ok (.getfield 48, 3) := by decide +kernel
theorem dJx4a65c_get_915e3_5 : decode cJx4a65c_get_915e3 5 = .ok (.invokestatic 118, 3) := by decide +kernel
theorem dJx4a65c_get_915e3_8 : decode cJx4a65c_get_915e3 8 = .ok (.pop, 1) := by decide +kernel
theorem dJx4a65c_get_915e3_9 : decode cJx4a65c_get_915e3 9 = .ok (.aload_n 0, 1) := by decide +kernel
theorem dJx4a65c_get_915e3_10 : decode cJx4a65c_get_915e3 10 = .ok (.iload_n 1, 1) := by decide +kernel
theorem dJx4a65c_get_915e3_11 : decode cJx4a65c_get_915e3 11 = .ok (.invokevirtual 123, 3) := by decide +kernel
theorem dJx4a65c_get_915e3_14 : decode cJx4a65c_get_915e3 14 = .ok (.areturn, 1) := by decide +kernel
theorem dJx4a65c_add_72be8_0 : decode cJx4a65c_add_72be8 0 = .ok (.iload_n 3, 1) := by decide +kernel
theorem dJx4a65c_add_72be8_1 : decode cJx4a65c_add_72be8 1 = .ok (.aload_n 2, 1) := by decide +kernel
theorem dJx4a65c_add_72be8_2 : decode cJx4a65c_add_72be8 2 = .ok (.arraylength, 1) := by decide +kernel
theorem dJx4a65c_add_72be8_3 : decode cJx4a65c_add_72be8 3 = .ok (.if_icmp .ne 8, 3) := by decide +kernel
theorem dJx4a65c_add_72be8_6 : decode cJx4a65c_add_72be8 6 = .ok (.aload_n 0, 1) := by decide +kernel
theorem dJx4a65c_add_72be8_7 : decode cJx4a65c_add_72be8 7 = .ok (.invokevirtual 129, 3) := by decide +kernel
theorem dJx4a65c_add_72be8_10 : decode cJx4a65c_add_72be8 10 = .ok (.astore_n 2, 1) := by decide +kernel
theorem dJx4a65c_add_72be8_11 : decode cJx4a65c_add_72be8 11 = .ok (.aload_n 2, 1) := by decide +kernel
theorem dJx4a65c_add_72be8_12 : decode cJx4a65c_add_72be8 12 = .ok (.iload_n 3, 1) := by decide +kernel
theorem dJx4a65c_add_72be8_13 : decode cJx4a65c_add_72be8 13 = .ok (.aload_n 1, 1) := by decide +kernel
theorem dJx4a65c_add_72be8_14 : decode cJx4a65c_add_72be8 14 = .ok (.aastore, 1) := by decide +kernel
theorem dJx4a65c_add_72be8_15 : decode cJx4a65c_add_72be8 15 = .ok (.aload_n 0, 1) := by decide +kernel
theorem dJx4a65c_add_72be8_16 : decode cJx4a65c_add_72be8 16 = .ok (.iload_n 3, 1) := by decide +kernel
theorem dJx4a65c_add_72be8_17 : decode cJx4a65c_add_72be8 17 = .ok (.iconst 1, 1) := by decide +kernel
theorem dJx4a65c_add_72be8_18 : decode cJx4a65c_add_72be8 18 = .ok (.iadd, 1) := by decide +kernel
theorem dJx4a65c_add_72be8_19 : decode cJx4a65c_add_72be8 19 = .ok (.putfield 48, 3) := by decide +kernel
theorem dJx4a65c_add_72be8_22 : decode cJx4a65c_add_72be8 22 = .ok (.return_, 1) := by decide +kernel
theorem dJx4a65c_add_9ea2d_0 : decode cJx4a65c_add_9ea2d 0 = .ok (.aload_n 0, 1) := by decide +kernel
theorem dJx4a65c_add_9ea2d_1 : decode cJx4a65c_add_9ea2d 1 = .ok (.dup, 1) := by decide +kernel
theorem dJx4a65c_add_9ea2d_2 : decode cJx4a65c_add_9ea2d 2 = .ok (.getfield 63, 3) := by decide +kernel
theorem dJx4a65c_add_9ea2d_5 : decode cJx4a65c_add_9ea2d 5 = .ok (.iconst 1, 1) := by decide +kernel
theorem dJx4a65c_add_9ea2d_6 : decode cJx4a65c_add_9ea2d 6 = .ok (.iadd, 1) := by decide +kernel
theorem dJx4a65c_add_9ea2d_7 : decode cJx4a65c_add_9ea2d 7 = .ok (.putfield 63, 3) := by decide +kernel
theorem dJx4a65c_add_9ea2d_10 : decode cJx4a65c_add_9ea2d 10 = .ok (.aload_n 0, 1) := by decide +kernel
theorem dJx4a65c_add_9ea2d_11 : decode cJx4a65c_add_9ea2d 11 = .ok (.aload_n 1, 1) := by decide +kernel
theorem dJx4a65c_add_9ea2d_12 : decode cJx4a65c_add_9ea2d 12 = .ok (.aload_n 0, 1) := by decide +kernel
theorem dJx4a65c_add_9ea2d_13 : decode cJx4a65c_add_9ea2d 13 = .ok (.getfield 9, 3) := by decide +kernel
theorem dJx4a65c_add_9ea2d_16 : decode cJx4a65c_add_9ea2d 16 = .ok (.aload_n 0, 1) := by decide +kernel
theorem dJx4a65c_add_9ea2d_17 : decode cJx4a65c_add_9ea2d 17 = .ok (.getfield 48, 3) := by decide +kernel
theorem dJx4a65c_add_9ea2d_20 : decode cJx4a65c_add_9ea2d 20 = .ok (.invokevirtual 131, 3) := by decide +kernel
theorem dJx4a65c_add_9ea2d_23 : decode cJx4a65c_add_9ea2d 23 = .ok (.iconst 1, 1) := by decide +kernel
theorem dJx4a65c_add_9ea2d_24 : decode cJx4a65c_add_9ea2d 24 = .ok (.ireturn, 1) := by decide +kernel
theorem dJ7_copyOf_1904c_0 : decode cJ7_copyOf_1904c 0 = .ok (.aload_n 0, 1) := by decide +kernel
theorem dJ7_copyOf_1904c_1 : decode cJ7_copyOf_1904c 1 = .ok (.iload_n 1, 1) := by decide +kernel
theorem dJ7_copyOf_1904c_2 : decode cJ7_copyOf_1904c 2 = .ok (.aload_n 0, 1) := by decide +kernel
theorem dJ7_copyOf_1904c_3 : decode cJ7_copyOf_1904c 3 = .ok (.invokevirtual 86, 3) := by decide +kernel
theorem dJ7_copyOf_1904c_6 : decode cJ7_copyOf_1904c 6 = .ok (.invokestatic 300, 3) := by decide +kernel
theorem dJ7_copyOf_1904c_9 : decode cJ7_copyOf_1904c 9 = .ok (.areturn, 1) := by decide +kernel
theorem dJ7_copyOf_6403c_0 : decode cJ7_copyOf_6403c 0 = .ok (.aload_n 2, 1) := by decide +kernel
theorem dJ7_copyOf_6403c_1 : decode cJ7_copyOf_6403c 1 = .ok (.ldc 110, 2) := by decide +kernel
theorem dJ7_copyOf_6403c_3 : decode cJ7_copyOf_6403c 3 = .ok (.if_acmp .ne 10, 3) := by decide +kernel
theorem dJ7_copyOf_6403c_6 : decode cJ7_copyOf_6403c 6 = .ok (.iload_n 1, 1) := by decide +kernel
theorem dJ7_copyOf_6403c_7 : decode cJ7_copyOf_6403c 7 = .ok (.anewarray 2, 3) := by decide +kernel
theorem dJ7_copyOf_6403c_10 : decode cJ7_copyOf_6403c 10 = .ok (.goto 14, 3) := by decide +kernel
theorem dJ7_copyOf_6403c_13 : decode cJ7_copyOf_6403c 13 = .ok (.aload_n 2, 1) := by decide +kernel
theorem dJ7_copyOf_6403c_14 : decode cJ7_copyOf_6403c 14 = .ok (.invokevirtual 90, 3) := by decide +kernel
theorem dJ7_copyOf_6403c_17 : decode cJ7_copyOf_6403c 17 = .ok (.iload_n 1, 1) := by decide +kernel
theorem dJ7_copyOf_6403c_18 : decode cJ7_copyOf_6403c 18 = .ok (.invokestatic 95, 3) := by decide +kernel
theorem dJ7_copyOf_6403c_21 : decode cJ7_copyOf_6403c 21 = .ok (.checkcast 110, 3) := by decide +kernel
theorem dJ7_copyOf_6403c_24 : decode cJ7_copyOf_6403c 24 = .ok (.astore_n 3, 1) := by decide +kernel
theorem dJ7_copyOf_6403c_25 : decode cJ7_copyOf_6403c 25 = .ok (.aload_n 0, 1) := by decide +kernel
theorem dJ7_copyOf_6403c_26 : decode cJ7_copyOf_6403c 26 = .ok (.iconst 0, 1) := by decide +kernel
theorem dJ7_copyOf_6403c_27 : decode cJ7_copyOf_6403c 27 = .ok (.aload_n 3, 1) := by decide +kernel
theorem dJ7_copyOf_6403c_28 : decode cJ7_copyOf_6403c 28 = .ok (.iconst 0, 1) := by decide +kernel
theorem dJ7_copyOf_6403c_29 : decode cJ7_copyOf_6403c 29 = .ok (.aload_n 0, 1) := by decide +kernel
theorem dJ7_copyOf_6403c_30 : decode cJ7_copyOf_6403c 30 = .ok (.arraylength, 1) := by decide +kernel
theorem dJ7_copyOf_6403c_31 : decode cJ7_copyOf_6403c 31 = .ok (.iload_n 1, 1) := by decide +kernel
theorem dJ7_copyOf_6403c_32 : decode cJ7_copyOf_6403c 32 = .ok (.invokestatic 304, 3) := by decide +kernel
theorem dJ7_copyOf_6403c_35 : decode cJ7_copyOf_6403c 35 = .ok (.invokestatic 150, 3) := by decide +kernel
theorem dJ7_copyOf_6403c_38 : decode cJ7_copyOf_6403c 38 = .ok (.aload_n 3, 1) := by decide +kernel
theorem dJ7_copyOf_6403c_39 : decode cJ7_copyOf_6403c 39 = .ok (.areturn, 1) := by decide +kernel
theorem dJ7_copyOf_59c91_0 : decode cJ7_copyOf_59c91 0 = .ok (.iload_n 1, 1) := by decide +kernel
theorem dJ7_copyOf_59c91_1 : decode cJ7_copyOf_59c91 1 = .ok (.aload_n 0, 1) := by decide +kernel
theorem dJ7_copyOf_59c91_2 : decode cJ7_copyOf_59c91 2 = .ok (.arraylength, 1) := by decide +kernel
theorem dJ7_copyOf_59c91_3 : decode cJ7_copyOf_59c91 3 = .ok (.if_icmp .ne 11, 3) := by decide +kernel
theorem dJ7_copyOf_59c91_6 : decode cJ7_copyOf_59c91 6 = .ok (.aload_n 0, 1) := by decide +kernel
theorem dJ7_copyOf_59c91_7 : decode cJ7_copyOf_59c91 7 = .ok (.invokevirtual 316, 3) := by decide +kernel
theorem dJ7_copyOf_59c91_10 : decode cJ7_copyOf_59c91 10 = .ok (.checkcast 317, 3) := by decide +kernel
theorem dJ7_copyOf_59c91_13 : decode cJ7_copyOf_59c91 13 = .ok (.areturn, 1) := by decide +kernel
theorem dJ7_copyOf_59c91_14 : decode cJ7_copyOf_59c91 14 = .ok (.iload_n 1, 1) := by decide +kernel
theorem dJ7_copyOf_59c91_15 : decode cJ7_copyOf_59c91 15 = .ok (.newarray .int, 2) := by decide +kernel
theorem dJ7_copyOf_59c91_17 : decode cJ7_copyOf_59c91 17 = .ok (.astore_n 2, 1) := by decide +kernel
theorem dJ7_copyOf_59c91_18 : decode cJ7_copyOf_59c91 18 = .ok (.aload_n 0, 1) := by decide +kernel
theorem dJ7_copyOf_59c91_19 : decode cJ7_copyOf_59c91 19 = .ok (.iconst 0, 1) := by decide +kernel
theorem dJ7_copyOf_59c91_20 : decode cJ7_copyOf_59c91 20 = .ok (.aload_n 2, 1) := by decide +kernel
theorem dJ7_copyOf_59c91_21 : decode cJ7_copyOf_59c91 21 = .ok (.iconst 0, 1) := by decide +kernel
theorem dJ7_copyOf_59c91_22 : decode cJ7_copyOf_59c91 22 = .ok (.aload_n 0, 1) := by decide +kernel
theorem dJ7_copyOf_59c91_23 : decode cJ7_copyOf_59c91 23 = .ok (.arraylength, 1) := by decide +kernel
theorem dJ7_copyOf_59c91_24 : decode cJ7_copyOf_59c91 24 = .ok (.iload_n 1, 1) := by decide +kernel
theorem dJ7_copyOf_59c91_25 : decode cJ7_copyOf_59c91 25 = .ok (.invokestatic 304, 3) := by decide +kernel
theorem dJ7_copyOf_59c91_28 : decode cJ7_copyOf_59c91 28 = .ok (.invokestatic 150, 3) := by decide +kernel
theorem dJ7_copyOf_59c91_31 : decode cJ7_copyOf_59c91 31 = .ok (.aload_n 2, 1) := by decide +kernel
theorem dJ7_copyOf_59c91_32 : decode cJ7_copyOf_59c91 32 = .ok (.areturn, 1) := by decide +kernel
theorem dJ15_checkIndex_7cf53_0 : decode cJ15_checkIndex_7cf53 0 = .ok (.iload_n 0, 1) := by decide +kernel
theorem dJ15_checkIndex_7cf53_1 : decode cJ15_checkIndex_7cf53 1 = .ok (.iload_n 1, 1) := by decide +kernel
theorem dJ15_checkIndex_7cf53_2 : decode cJ15_checkIndex_7cf53 2 = .ok (.aconst_null, 1) := by decide +kernel
theorem dJ15_checkIndex_7cf53_3 : decode cJ15_checkIndex_7cf53 3 = .ok (.invokestatic 105, 3) := by decide +kernel
theorem dJ15_checkIndex_7cf53_6 : decode cJ15_checkIndex_7cf53 6 = .ok (.ireturn, 1) := by decide +kernel
theorem dJ8_newLength_cabcc_0 : decode cJ8_newLength_cabcc 0 = .ok (.iload_n 0, 1) := by decide +kernel
theorem dJ8_newLength_cabcc_1 : decode cJ8_newLength_cabcc 1 = .ok (.iload_n 1, 1) := by decide +kernel
theorem dJ8_newLength_cabcc_2 : decode cJ8_newLength_cabcc 2 = .ok (.iload_n 2, 1) := by decide +kernel
theorem dJ8_newLength_cabcc_3 : decode cJ8_newLength_cabcc 3 = .ok (.invokestatic 194, 3) := by decide +kernel
theorem dJ8_newLength_cabcc_6 : decode cJ8_newLength_cabcc 6 = .ok (.iadd, 1) := by decide +kernel
theorem dJ8_newLength_cabcc_7 : decode cJ8_newLength_cabcc 7 = .ok (.istore_n 3, 1) := by decide +kernel
theorem dJ8_newLength_cabcc_8 : decode cJ8_newLength_cabcc 8 = .ok (.iconst 0, 1) := by decide +kernel
theorem dJ8_newLength_cabcc_9 : decode cJ8_newLength_cabcc 9 = .ok (.iload_n 3, 1) := by decide +kernel
theorem dJ8_newLength_cabcc_10 : decode cJ8_newLength_cabcc 10 = .ok (.if_icmp .ge 11, 3) := by decide +kernel
theorem dJ8_newLength_cabcc_13 : decode cJ8_newLength_cabcc 13 = .ok (.iload_n 3, 1) := by decide +kernel
theorem dJ8_newLength_cabcc_14 : decode cJ8_newLength_cabcc 14 = .ok (.ldc 200, 2) := by decide +kernel
theorem dJ8_newLength_cabcc_16 : decode cJ8_newLength_cabcc 16 = .ok (.if_icmp .gt 5, 3) := by decide +kernel
theorem dJ8_newLength_cabcc_19 : decode cJ8_newLength_cabcc 19 = .ok (.iload_n 3, 1) := by decide +kernel
theorem dJ8_newLength_cabcc_20 : decode cJ8_newLength_cabcc 20 = .ok (.ireturn, 1) := by decide +kernel
theorem dJ8_newLength_cabcc_21 : decode cJ8_newLength_cabcc 21 = .ok (.iload_n 0, 1) := by decide +kernel
theorem dJ8_newLength_cabcc_22 : decode cJ8_newLength_cabcc 22 = .ok (.iload_n 1, 1) := by decide +kernel
theorem dJ8_newLength_cabcc_23 : decode cJ8_newLength_cabcc 23 = .ok (.invokestatic 201, 3) := by decide +kernel
theorem dJ8_newLength_cabcc_26 : decode cJ8_newLength_cabcc 26 = .ok (.ireturn, 1) := by decide +kernel
theorem dJ8_hugeLength_7cf53_0 : decode cJ8_hugeLength_7cf53 0 = .ok (.iload_n 0, 1) := by decide +kernel
theorem dJ8_hugeLength_7cf53_1 : decode cJ8_hugeLength_7cf53 1 = .ok (.iload_n 1, 1) := by decide +kernel
theorem dJ8_hugeLength_7cf53_2 : decode cJ8_hugeLength_7cf53 2 = .ok (.iadd, 1) := by decide +kernel
theorem dJ8_hugeLength_7cf53_3 : decode cJ8_hugeLength_7cf53 3 = .ok (.istore_n 2, 1) := by decide +kernel
theorem dJ8_hugeLength_7cf53_4 : decode cJ8_hugeLength_7cf53 4 = .ok (.iload_n 2, 1) := by decide +kernel
theorem dJ8_hugeLength_7cf53_5 : decode cJ8_hugeLength_7cf53 5 = .ok (.ifCond .ge 44, 3) := by decide +kernel
theorem dJ8_hugeLength_7cf53_8 : decode cJ8_hugeLength_7cf53 8 = .ok (.new 204, 3) := by decide +kernel
theorem dJ8_hugeLength_7cf53_11 : decode cJ8_hugeLength_7cf53 11 = .ok (.dup, 1) := by decide +kernel
theorem dJ8_hugeLength_7cf53_12 : decode cJ8_hugeLength_7cf53 12 = .ok (.new 89, 3) := by decide +kernel
theorem dJ8_hugeLength_7cf53_15 : decode cJ8_hugeLength_7cf53 15 = .ok (.dup, 1) := by decide +kernel
theorem dJ8_hugeLength_7cf53_16 : decode cJ8_hugeLength_7cf53 16 = .ok (.invokespecial 91, 3) := by decide +kernel
theorem dJ8_hugeLength_7cf53_19 : decode cJ8_hugeLength_7cf53 19 = .ok (.ldc 206, 2) := by decide +kernel
theorem dJ8_hugeLength_7cf53_21 : decode cJ8_hugeLength_7cf53 21 = .ok (.invokevirtual 94, 3) := by decide +kernel
theorem dJ8_hugeLength_7cf53_24 : decode cJ8_hugeLength_7cf53 24 = .ok (.iload_n 0, 1) := by decide +kernel
theorem dJ8_hugeLength_7cf53_25 : decode cJ8_hugeLength_7cf53 25 = .ok (.invokevirtual 98, 3) := by decide +kernel
theorem dJ8_hugeLength_7cf53_28 : decode cJ8_hugeLength_7cf53 28 = .ok (.ldc 208, 2) := by decide +kernel
theorem dJ8_hugeLength_7cf53_30 : decode cJ8_hugeLength_7cf53 30 = .ok (.invokevirtual 94, 3) := by decide +kernel
theorem dJ8_hugeLength_7cf53_33 : decode cJ8_hugeLength_7cf53 33 = .ok (.iload_n 1, 1) := by decide +kernel
theorem dJ8_hugeLength_7cf53_34 : decode cJ8_hugeLength_7cf53 34 = .ok (.invokevirtual 98, 3) := by decide +kernel
theorem dJ8_hugeLength_7cf53_37 : decode cJ8_hugeLength_7cf53 37 = .ok (.ldc 210, 2) := by decide +kernel
theorem dJ8_hugeLength_7cf53_39 : decode cJ8_hugeLength_7cf53 39 = .ok (.invokevirtual 94, 3) := by decide +kernel
theorem dJ8_hugeLength_7cf53_42 : decode cJ8_hugeLength_7cf53 42 = .ok (.invokevirtual 101, 3) := by decide +kernel
theorem dJ8_hugeLength_7cf53_45 : decode cJ8_hugeLength_7cf53 45 = .ok (.invokespecial 212, 3) := by decide +kernel
theorem dJ8_hugeLength_7cf53_48 : decode cJ8_hugeLength_7cf53 48 = .ok (.athrow, 1) := by decide +kernel
theorem dJ8_hugeLength_7cf53_49 : decode cJ8_hugeLength_7cf53 49 = .ok (.iload_n 2, 1) := by decide +kernel
theorem dJ8_hugeLength_7cf53_50 : decode cJ8_hugeLength_7cf53 50 = .ok (.ldc 200, 2) := by decide +kernel
theorem dJ8_hugeLength_7cf53_52 : decode cJ8_hugeLength_7cf53 52 = .ok (.if_icmp .gt 6, 3) := by decide +kernel
theorem dJ8_hugeLength_7cf53_55 : decode cJ8_hugeLength_7cf53 55 = .ok (.ldc 200, 2) := by decide +kernel
theorem dJ8_hugeLength_7cf53_57 : decode cJ8_hugeLength_7cf53 57 = .ok (.ireturn, 1) := by decide +kernel
theorem dJ8_hugeLength_7cf53_58 : decode cJ8_hugeLength_7cf53 58 = .ok (.iload_n 2, 1) := by decide +kernel
theorem dJ8_hugeLength_7cf53_59 : decode cJ8_hugeLength_7cf53 59 = .ok (.ireturn, 1) := by decide +kernel
theorem dJ3_checkIndex_8e157_0 : decode cJ3_checkIndex_8e157 0 = .ok (.iload_n 0, 1) := by decide +kernel
theorem dJ3_checkIndex_8e157_1 : decode cJ3_checkIndex_8e157 1 = .ok (.ifCond .lt 8, 3) := by decide +kernel
theorem dJ3_checkIndex_8e157_4 : decode cJ3_checkIndex_8e157 4 = .ok (.iload_n 0, 1) := by decide +kernel
theorem dJ3_checkIndex_8e157_5 : decode cJ3_checkIndex_8e157 5 = .ok (.iload_n 1, 1) := by decide +kernel
theorem dJ3_checkIndex_8e157_6 : decode cJ3_checkIndex_8e157 6 = .ok (.if_icmp .lt 10, 3) := by decide +kernel
theorem dJ3_checkIndex_8e157_9 : decode cJ3_checkIndex_8e157 9 = .ok (.aload_n 2, 1) := by decide +kernel
theorem dJ3_checkIndex_8e157_10 : decode cJ3_checkIndex_8e157 10 = .ok (.iload_n 0, 1) := by decide +kernel
theorem dJ3_checkIndex_8e157_11 : decode cJ3_checkIndex_8e157 11 = .ok (.iload_n 1, 1) := by decide +kernel
theorem dJ3_checkIndex_8e157_12 : decode cJ3_checkIndex_8e157 12 = .ok (.invokestatic 95, 3) := by decide +kernel
theorem dJ3_checkIndex_8e157_15 : decode cJ3_checkIndex_8e157 15 = .ok (.athrow, 1) := by decide +kernel
theorem dJ3_checkIndex_8e157_16 : decode cJ3_checkIndex_8e157 16 = .ok (.iload_n 0, 1) := by decide +kernel
theorem dJ3_checkIndex_8e157_17 : decode cJ3_checkIndex_8e157 17 = .ok (.ireturn, 1) := by decide +kernel
theorem dL_street_0 : decode cL_street 0 = .ok (.aload 5, 2) := by decide +kernel
theorem dL_street_2 : decode cL_street 2 = .ok (.iconst 0, 1) := by decide +kernel
theorem dL_street_3 : decode cL_street 3 = .ok (.aload_n 0, 1) := by decide +kernel
theorem dL_street_4 : decode cL_street 4 = .ok (.iload_n 1, 1) := by decide +kernel
theorem dL_street_5 : decode cL_street 5 = .ok (.iload_n 2, 1) := by decide +kernel
theorem dL_street_6 : decode cL_street 6 = .ok (.iload_n 3, 1) := by decide +kernel
theorem dL_street_7 : decode cL_street 7 = .ok (.iload 4, 2) := by decide +kernel
theorem dL_street_9 : decode cL_street 9 = .ok (.invokevirtual 7, 3) := by decide +kernel
theorem dL_street_12 : decode cL_street 12 = .ok (.i2l, 1) := by decide +kernel
theorem dL_street_13 : decode cL_street 13 = .ok (.lastore, 1) := by decide +kernel
theorem dL_street_14 : decode cL_street 14 = .ok (.goto 15, 3) := by decide +kernel
theorem dL_street_17 : decode cL_street 17 = .ok (.astore 6, 2) := by decide +kernel
theorem dL_street_19 : decode cL_street 19 = .ok (.iconst 1, 1) := by decide +kernel
theorem dL_street_20 : decode cL_street 20 = .ok (.ireturn, 1) := by decide +kernel
theorem dL_street_21 : decode cL_street 21 = .ok (.astore 6, 2) := by decide +kernel
theorem dL_street_23 : decode cL_street 23 = .ok (.iconst 2, 1) := by decide +kernel
theorem dL_street_24 : decode cL_street 24 = .ok (.ireturn, 1) := by decide +kernel
theorem dL_street_25 : decode cL_street 25 = .ok (.astore 6, 2) := by decide +kernel
theorem dL_street_27 : decode cL_street 27 = .ok (.iconst 3, 1) := by decide +kernel
theorem dL_street_28 : decode cL_street 28 = .ok (.ireturn, 1) := by decide +kernel
theorem dL_street_29 : decode cL_street 29 = .ok (.iconst 0, 1) := by decide +kernel
theorem dL_street_30 : decode cL_street 30 = .ok (.ireturn, 1) := by decide +kernel
theorem dL_surface_0 : decode cL_surface 0 = .ok (.aload_n 2, 1) := by decide +kernel
theorem dL_surface_1 : decode cL_surface 1 = .ok (.iconst 0, 1) := by decide +kernel
theorem dL_surface_2 : decode cL_surface 2 = .ok (.aload_n 0, 1) := by decide +kernel
theorem dL_surface_3 : decode cL_surface 3 = .ok (.iload_n 1, 1) := by decide +kernel
theorem dL_surface_4 : decode cL_surface 4 = .ok (.invokevirtual 19, 3) := by decide +kernel
theorem dL_surface_7 : decode cL_surface 7 = .ok (.i2l, 1) := by decide +kernel
theorem dL_surface_8 : decode cL_surface 8 = .ok (.lastore, 1) := by decide +kernel
