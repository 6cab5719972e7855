theorem dX9_ask_158 : decode cX9_ask 158 = .ok (.aload_n 0, 1) := by decide +kernel
theorem dX9_ask_159 : decode cX9_ask 159 = .ok (.getfield 74, 3) := by decide +kernel
theorem dX9_ask_162 : decode cX9_ask 162 = .ok (.aload_n 0, 1) := by decide +kernel
theorem dX9_ask_163 : decode cX9_ask 163 = .ok (.getfield 162, 3) := by decide +kernel
theorem dX9_ask_166 : decode cX9_ask 166 = .ok (.iload_n 2, 1) := by decide +kernel
theorem dX9_ask_167 : decode cX9_ask 167 = .ok (.iastore, 1) := by decide +kernel
theorem dX9_ask_168 : decode cX9_ask 168 = .ok (.aload_n 0, 1) := by decide +kernel
theorem dX9_ask_169 : decode cX9_ask 169 = .ok (.getfield 77, 3) := by decide +kernel
theorem dX9_ask_172 : decode cX9_ask 172 = .ok (.aload_n 0, 1) := by decide +kernel
theorem dX9_ask_173 : decode cX9_ask 173 = .ok (.getfield 162, 3) := by decide +kernel
theorem dX9_ask_176 : decode cX9_ask 176 = .ok (.iload_n 3, 1) := by decide +kernel
theorem dX9_ask_177 : decode cX9_ask 177 = .ok (.iastore, 1) := by decide +kernel
theorem dX9_ask_178 : decode cX9_ask 178 = .ok (.aload_n 0, 1) := by decide +kernel
theorem dX9_ask_179 : decode cX9_ask 179 = .ok (.getfield 80, 3) := by decide +kernel
theorem dX9_ask_182 : decode cX9_ask 182 = .ok (.aload_n 0, 1) := by decide +kernel
theorem dX9_ask_183 : decode cX9_ask 183 = .ok (.getfield 162, 3) := by decide +kernel
theorem dX9_ask_186 : decode cX9_ask 186 = .ok (.iload 4, 2) := by decide +kernel
theorem dX9_ask_188 : decode cX9_ask 188 = .ok (.iastore, 1) := by decide +kernel
theorem dX9_ask_189 : decode cX9_ask 189 = .ok (.aload_n 0, 1) := by decide +kernel
theorem dX9_ask_190 : decode cX9_ask 190 = .ok (.getfield 83, 3) := by decide +kernel
theorem dX9_ask_193 : decode cX9_ask 193 = .ok (.aload_n 0, 1) := by decide +kernel
theorem dX9_ask_194 : decode cX9_ask 194 = .ok (.getfield 162, 3) := by decide +kernel
theorem dX9_ask_197 : decode cX9_ask 197 = .ok (.iload 5, 2) := by decide +kernel
theorem dX9_ask_199 : decode cX9_ask 199 = .ok (.iastore, 1) := by decide +kernel
theorem dX9_ask_200 : decode cX9_ask 200 = .ok (.aload_n 0, 1) := by decide +kernel
theorem dX9_ask_201 : decode cX9_ask 201 = .ok (.getfield 86, 3) := by decide +kernel
theorem dX9_ask_204 : decode cX9_ask 204 = .ok (.aload_n 0, 1) := by decide +kernel
theorem dX9_ask_205 : decode cX9_ask 205 = .ok (.getfield 162, 3) := by decide +kernel
theorem dX9_ask_208 : decode cX9_ask 208 = .ok (.iload 6, 2) := by decide +kernel
theorem dX9_ask_210 : decode cX9_ask 210 = .ok (.iastore, 1) := by decide +kernel
theorem dX9_ask_211 : decode cX9_ask 211 = .ok (.aload_n 0, 1) := by decide +kernel
theorem dX9_ask_212 : decode cX9_ask 212 = .ok (.getfield 89, 3) := by decide +kernel
theorem dX9_ask_215 : decode cX9_ask 215 = .ok (.aload_n 0, 1) := by decide +kernel
theorem dX9_ask_216 : decode cX9_ask 216 = .ok (.getfield 162, 3) := by decide +kernel
theorem dX9_ask_219 : decode cX9_ask 219 = .ok (.iload 7, 2) := by decide +kernel
theorem dX9_ask_221 : decode cX9_ask 221 = .ok (.iastore, 1) := by decide +kernel
theorem dX9_ask_222 : decode cX9_ask 222 = .ok (.aload_n 0, 1) := by decide +kernel
theorem dX9_ask_223 : decode cX9_ask 223 = .ok (.getfield 92, 3) := by decide +kernel
theorem dX9_ask_226 : decode cX9_ask 226 = .ok (.aload_n 0, 1) := by decide +kernel
theorem dX9_ask_227 : decode cX9_ask 227 = .ok (.getfield 162, 3) := by decide +kernel
theorem dX9_ask_230 : decode cX9_ask 230 = .ok (.iload 8, 2) := by decide +kernel
theorem dX9_ask_232 : decode cX9_ask 232 = .ok (.iastore, 1) := by decide +kernel
theorem dX9_ask_233 : decode cX9_ask 233 = .ok (.aload_n 0, 1) := by decide +kernel
theorem dX9_ask_234 : decode cX9_ask 234 = .ok (.getfield 95, 3) := by decide +kernel
theorem dX9_ask_237 : decode cX9_ask 237 = .ok (.aload_n 0, 1) := by decide +kernel
theorem dX9_ask_238 : decode cX9_ask 238 = .ok (.getfield 162, 3) := by decide +kernel
theorem dX9_ask_241 : decode cX9_ask 241 = .ok (.aload_n 0, 1) := by decide +kernel
theorem dX9_ask_242 : decode cX9_ask 242 = .ok (.invokevirtual 175, 3) := by decide +kernel
theorem dX9_ask_245 : decode cX9_ask 245 = .ok (.iastore, 1) := by decide +kernel
theorem dX9_ask_246 : decode cX9_ask 246 = .ok (.aload_n 0, 1) := by decide +kernel
theorem dX9_ask_247 : decode cX9_ask 247 = .ok (.getfield 98, 3) := by decide +kernel
theorem dX9_ask_250 : decode cX9_ask 250 = .ok (.aload_n 0, 1) := by decide +kernel
theorem dX9_ask_251 : decode cX9_ask 251 = .ok (.getfield 162, 3) := by decide +kernel
theorem dX9_ask_254 : decode cX9_ask 254 = .ok (.iload 6, 2) := by decide +kernel
theorem dX9_ask_256 : decode cX9_ask 256 = .ok (.iconst 3, 1) := by decide +kernel
theorem dX9_ask_257 : decode cX9_ask 257 = .ok (.if_icmp .ne 7, 3) := by decide +kernel
theorem dX9_ask_260 : decode cX9_ask 260 = .ok (.iconst 1, 1) := by decide +kernel
theorem dX9_ask_261 : decode cX9_ask 261 = .ok (.goto 4, 3) := by decide +kernel
theorem dX9_ask_264 : decode cX9_ask 264 = .ok (.iconst 0, 1) := by decide +kernel
theorem dX9_ask_265 : decode cX9_ask 265 = .ok (.iastore, 1) := by decide +kernel
theorem dX9_ask_266 : decode cX9_ask 266 = .ok (.aload_n 0, 1) := by decide +kernel
theorem dX9_ask_267 : decode cX9_ask 267 = .ok (.dup, 1) := by decide +kernel
theorem dX9_ask_268 : decode cX9_ask 268 = .ok (.getfield 162, 3) := by decide +kernel
theorem dX9_ask_271 : decode cX9_ask 271 = .ok (.iconst 1, 1) := by decide +kernel
theorem dX9_ask_272 : decode cX9_ask 272 = .ok (.iadd, 1) := by decide +kernel
theorem dX9_ask_273 : decode cX9_ask 273 = .ok (.putfield 162, 3) := by decide +kernel
theorem dX9_ask_276 : decode cX9_ask 276 = .ok (.aload_n 0, 1) := by decide +kernel
theorem dX9_ask_277 : decode cX9_ask 277 = .ok (.getfield 162, 3) := by decide +kernel
theorem dX9_ask_280 : decode cX9_ask 280 = .ok (.iconst 1, 1) := by decide +kernel
theorem dX9_ask_281 : decode cX9_ask 281 = .ok (.isub, 1) := by decide +kernel
theorem dX9_ask_282 : decode cX9_ask 282 = .ok (.ireturn, 1) := by decide +kernel
theorem dX9_grants_0 : decode cX9_grants 0 = .ok (.iconst 4, 1) := by decide +kernel
theorem dX9_grants_1 : decode cX9_grants 1 = .ok (.aload_n 0, 1) := by decide +kernel
theorem dX9_grants_2 : decode cX9_grants 2 = .ok (.getfield 13, 3) := by decide +kernel
theorem dX9_grants_5 : decode cX9_grants 5 = .ok (.aload_n 0, 1) := by decide +kernel
theorem dX9_grants_6 : decode cX9_grants 6 = .ok (.getfield 74, 3) := by decide +kernel
theorem dX9_grants_9 : decode cX9_grants 9 = .ok (.iload_n 1, 1) := by decide +kernel
theorem dX9_grants_10 : decode cX9_grants 10 = .ok (.iaload, 1) := by decide +kernel
theorem dX9_grants_11 : decode cX9_grants 11 = .ok (.iaload, 1) := by decide +kernel
theorem dX9_grants_12 : decode cX9_grants 12 = .ok (.isub, 1) := by decide +kernel
theorem dX9_grants_13 : decode cX9_grants 13 = .ok (.istore_n 3, 1) := by decide +kernel
theorem dX9_grants_14 : decode cX9_grants 14 = .ok (.aload_n 0, 1) := by decide +kernel
theorem dX9_grants_15 : decode cX9_grants 15 = .ok (.getfield 86, 3) := by decide +kernel
theorem dX9_grants_18 : decode cX9_grants 18 = .ok (.iload_n 1, 1) := by decide +kernel
theorem dX9_grants_19 : decode cX9_grants 19 = .ok (.iaload, 1) := by decide +kernel
theorem dX9_grants_20 : decode cX9_grants 20 = .ok (.ifCond .ne 8, 3) := by decide +kernel
theorem dX9_grants_23 : decode cX9_grants 23 = .ok (.bipush 60, 2) := by decide +kernel
theorem dX9_grants_25 : decode cX9_grants 25 = .ok (.goto 34, 3) := by decide +kernel
theorem dX9_grants_28 : decode cX9_grants 28 = .ok (.aload_n 0, 1) := by decide +kernel
theorem dX9_grants_29 : decode cX9_grants 29 = .ok (.getfield 86, 3) := by decide +kernel
theorem dX9_grants_32 : decode cX9_grants 32 = .ok (.iload_n 1, 1) := by decide +kernel
theorem dX9_grants_33 : decode cX9_grants 33 = .ok (.iaload, 1) := by decide +kernel
theorem dX9_grants_34 : decode cX9_grants 34 = .ok (.iconst 1, 1) := by decide +kernel
theorem dX9_grants_35 : decode cX9_grants 35 = .ok (.if_icmp .ne 8, 3) := by decide +kernel
theorem dX9_grants_38 : decode cX9_grants 38 = .ok (.bipush 40, 2) := by decide +kernel
theorem dX9_grants_40 : decode cX9_grants 40 = .ok (.goto 19, 3) := by decide +kernel
theorem dX9_grants_43 : decode cX9_grants 43 = .ok (.aload_n 0, 1) := by decide +kernel
theorem dX9_grants_44 : decode cX9_grants 44 = .ok (.getfield 86, 3) := by decide +kernel
theorem dX9_grants_47 : decode cX9_grants 47 = .ok (.iload_n 1, 1) := by decide +kernel
theorem dX9_grants_48 : decode cX9_grants 48 = .ok (.iaload, 1) := by decide +kernel
theorem dX9_grants_49 : decode cX9_grants 49 = .ok (.iconst 2, 1) := by decide +kernel
theorem dX9_grants_50 : decode cX9_grants 50 = .ok (.if_icmp .ne 8, 3) := by decide +kernel
theorem dX9_grants_53 : decode cX9_grants 53 = .ok (.bipush 20, 2) := by decide +kernel
theorem dX9_grants_55 : decode cX9_grants 55 = .ok (.goto 4, 3) := by decide +kernel
theorem dX9_grants_58 : decode cX9_grants 58 = .ok (.iconst 0, 1) := by decide +kernel
theorem dX9_grants_59 : decode cX9_grants 59 = .ok (.iload_n 3, 1) := by decide +kernel
theorem dX9_grants_60 : decode cX9_grants 60 = .ok (.imul, 1) := by decide +kernel
theorem dX9_grants_61 : decode cX9_grants 61 = .ok (.istore 4, 2) := by decide +kernel
theorem dX9_grants_63 : decode cX9_grants 63 = .ok (.aload_n 0, 1) := by decide +kernel
theorem dX9_grants_64 : decode cX9_grants 64 = .ok (.getfield 98, 3) := by decide +kernel
theorem dX9_grants_67 : decode cX9_grants 67 = .ok (.iload_n 1, 1) := by decide +kernel
theorem dX9_grants_68 : decode cX9_grants 68 = .ok (.iconst 1, 1) := by decide +kernel
theorem dX9_grants_69 : decode cX9_grants 69 = .ok (.iastore, 1) := by decide +kernel
theorem dX9_grants_70 : decode cX9_grants 70 = .ok (.aload_n 0, 1) := by decide +kernel
theorem dX9_grants_71 : decode cX9_grants 71 = .ok (.getfield 101, 3) := by decide +kernel
theorem dX9_grants_74 : decode cX9_grants 74 = .ok (.iload_n 1, 1) := by decide +kernel
theorem dX9_grants_75 : decode cX9_grants 75 = .ok (.iload_n 2, 1) := by decide +kernel
theorem dX9_grants_76 : decode cX9_grants 76 = .ok (.iastore, 1) := by decide +kernel
theorem dX9_grants_77 : decode cX9_grants 77 = .ok (.aload_n 0, 1) := by decide +kernel
theorem dX9_grants_78 : decode cX9_grants 78 = .ok (.aload_n 0, 1) := by decide +kernel
theorem dX9_grants_79 : decode cX9_grants 79 = .ok (.getfield 71, 3) := by decide +kernel
theorem dX9_grants_82 : decode cX9_grants 82 = .ok (.iload_n 1, 1) := by decide +kernel
theorem dX9_grants_83 : decode cX9_grants 83 = .ok (.iaload, 1) := by decide +kernel
theorem dX9_grants_84 : decode cX9_grants 84 = .ok (.iconst 5, 1) := by decide +kernel
theorem dX9_grants_85 : decode cX9_grants 85 = .ok (.iload 4, 2) := by decide +kernel
theorem dX9_grants_87 : decode cX9_grants 87 = .ok (.invokevirtual 230, 3) := by decide +kernel
theorem dX9_grants_90 : decode cX9_grants 90 = .ok (.iload 4, 2) := by decide +kernel
theorem dX9_grants_92 : decode cX9_grants 92 = .ok (.ireturn, 1) := by decide +kernel
theorem dX9_grant_0 : decode cX9_grant 0 = .ok (.aload_n 0, 1) := by decide +kernel
theorem dX9_grant_1 : decode cX9_grant 1 = .ok (.iload_n 1, 1) := by decide +kernel
theorem dX9_grant_2 : decode cX9_grant 2 = .ok (.invokevirtual 234, 3) := by decide +kernel
theorem dX9_grant_5 : decode cX9_grant 5 = .ok (.istore_n 3, 1) := by decide +kernel
theorem dX9_grant_6 : decode cX9_grant 6 = .ok (.aload_n 0, 1) := by decide +kernel
theorem dX9_grant_7 : decode cX9_grant 7 = .ok (.iload_n 3, 1) := by decide +kernel
theorem dX9_grant_8 : decode cX9_grant 8 = .ok (.ifCond .ne 7, 3) := by decide +kernel
theorem dX9_grant_11 : decode cX9_grant 11 = .ok (.iconst 1, 1) := by decide +kernel
theorem dX9_grant_12 : decode cX9_grant 12 = .ok (.goto 38, 3) := by decide +kernel
theorem dX9_grant_15 : decode cX9_grant 15 = .ok (.iload_n 2, 1) := by decide +kernel
theorem dX9_grant_16 : decode cX9_grant 16 = .ok (.iconst 0, 1) := by decide +kernel
theorem dX9_grant_17 : decode cX9_grant 17 = .ok (.iconst 3, 1) := by decide +kernel
theorem dX9_grant_18 : decode cX9_grant 18 = .ok (.invokestatic 151, 3) := by decide +kernel
theorem dX9_grant_21 : decode cX9_grant 21 = .ok (.ifCond .ne 7, 3) := by decide +kernel
theorem dX9_grant_24 : decode cX9_grant 24 = .ok (.iconst 2, 1) := by decide +kernel
theorem dX9_grant_25 : decode cX9_grant 25 = .ok (.goto 25, 3) := by decide +kernel
theorem dX9_grant_28 : decode cX9_grant 28 = .ok (.aload_n 0, 1) := by decide +kernel
theorem dX9_grant_29 : decode cX9_grant 29 = .ok (.getfield 98, 3) := by decide +kernel
theorem dX9_grant_32 : decode cX9_grant 32 = .ok (.iload_n 1, 1) := by decide +kernel
theorem dX9_grant_33 : decode cX9_grant 33 = .ok (.iaload, 1) := by decide +kernel
theorem dX9_grant_34 : decode cX9_grant 34 = .ok (.ifCond .ne 11, 3) := by decide +kernel
theorem dX9_grant_37 : decode cX9_grant 37 = .ok (.aload_n 0, 1) := by decide +kernel
theorem dX9_grant_38 : decode cX9_grant 38 = .ok (.iload_n 1, 1) := by decide +kernel
theorem dX9_grant_39 : decode cX9_grant 39 = .ok (.invokevirtual 237, 3) := by decide +kernel
theorem dX9_grant_42 : decode cX9_grant 42 = .ok (.ifCond .le 7, 3) := by decide +kernel
theorem dX9_grant_45 : decode cX9_grant 45 = .ok (.iconst 3, 1) := by decide +kernel
theorem dX9_grant_46 : decode cX9_grant 46 = .ok (.goto 4, 3) := by decide +kernel
theorem dX9_grant_49 : decode cX9_grant 49 = .ok (.iconst 0, 1) := by decide +kernel
theorem dX9_grant_50 : decode cX9_grant 50 = .ok (.invokevirtual 168, 3) := by decide +kernel
theorem dX9_grant_53 : decode cX9_grant 53 = .ok (.ifCond .ne 5, 3) := by decide +kernel
theorem dX9_grant_56 : decode cX9_grant 56 = .ok (.iconst 0, 1) := by decide +kernel
theorem dX9_grant_57 : decode cX9_grant 57 = .ok (.ireturn, 1) := by decide +kernel
theorem dX9_grant_58 : decode cX9_grant 58 = .ok (.aload_n 0, 1) := by decide +kernel
theorem dX9_grant_59 : decode cX9_grant 59 = .ok (.iload_n 1, 1) := by decide +kernel
theorem dX9_grant_60 : decode cX9_grant 60 = .ok (.iload_n 2, 1) := by decide +kernel
theorem dX9_grant_61 : decode cX9_grant 61 = .ok (.invokevirtual 240, 3) := by decide +kernel
theorem dX9_grant_64 : decode cX9_grant 64 = .ok (.ireturn, 1) := by decide +kernel
theorem dX9_refuse_0 : decode cX9_refuse 0 = .ok (.aload_n 0, 1) := by decide +kernel
theorem dX9_refuse_1 : decode cX9_refuse 1 = .ok (.iload_n 1, 1) := by decide +kernel
theorem dX9_refuse_2 : decode cX9_refuse 2 = .ok (.invokevirtual 234, 3) := by decide +kernel
theorem dX9_refuse_5 : decode cX9_refuse 5 = .ok (.istore_n 2, 1) := by decide +kernel
theorem dX9_refuse_6 : decode cX9_refuse 6 = .ok (.aload_n 0, 1) := by decide +kernel
theorem dX9_refuse_7 : decode cX9_refuse 7 = .ok (.iload_n 2, 1) := by decide +kernel
theorem dX9_refuse_8 : decode cX9_refuse 8 = .ok (.ifCond .ne 7, 3) := by decide +kernel
theorem dX9_refuse_11 : decode cX9_refuse 11 = .ok (.iconst 1, 1) := by decide +kernel
theorem dX9_refuse_12 : decode cX9_refuse 12 = .ok (.goto 27, 3) := by decide +kernel
theorem dX9_refuse_15 : decode cX9_refuse 15 = .ok (.aload_n 0, 1) := by decide +kernel
theorem dX9_refuse_16 : decode cX9_refuse 16 = .ok (.getfield 98, 3) := by decide +kernel
theorem dX9_refuse_19 : decode cX9_refuse 19 = .ok (.iload_n 1, 1) := by decide +kernel
theorem dX9_refuse_20 : decode cX9_refuse 20 = .ok (.iaload, 1) := by decide +kernel
theorem dX9_refuse_21 : decode cX9_refuse 21 = .ok (.ifCond .eq 17, 3) := by decide +kernel
theorem dX9_refuse_24 : decode cX9_refuse 24 = .ok (.aload_n 0, 1) := by decide +kernel
theorem dX9_refuse_25 : decode cX9_refuse 25 = .ok (.getfield 98, 3) := by decide +kernel
theorem dX9_refuse_28 : decode cX9_refuse 28 = .ok (.iload_n 1, 1) := by decide +kernel
theorem dX9_refuse_29 : decode cX9_refuse 29 = .ok (.iaload, 1) := by decide +kernel
theorem dX9_refuse_30 : decode cX9_refuse 30 = .ok (.iconst 1, 1) := by decide +kernel
theorem dX9_refuse_31 : decode cX9_refuse 31 = .ok (.if_icmp .eq 7, 3) := by decide +kernel
theorem dX9_refuse_34 : decode cX9_refuse 34 = .ok (.iconst 2, 1) := by decide +kernel
theorem dX9_refuse_35 : decode cX9_refuse 35 = .ok (.goto 4, 3) := by decide +kernel
theorem dX9_refuse_38 : decode cX9_refuse 38 = .ok (.iconst 0, 1) := by decide +kernel
theorem dX9_refuse_39 : decode cX9_refuse 39 = .ok (.invokevirtual 168, 3) := by decide +kernel
theorem dX9_refuse_42 : decode cX9_refuse 42 = .ok (.ifCond .ne 5, 3) := by decide +kernel
theorem dX9_refuse_45 : decode cX9_refuse 45 = .ok (.iconst 0, 1) := by decide +kernel
theorem dX9_refuse_46 : decode cX9_refuse 46 = .ok (.ireturn, 1) := by decide +kernel
theorem dX9_refuse_47 : decode cX9_refuse 47 = .ok (.aload_n 0, 1) := by decide +kernel
theorem dX9_refuse_48 : decode cX9_refuse 48 = .ok (.getfield 98, 3) := by decide +kernel
theorem dX9_refuse_51 : decode cX9_refuse 51 = .ok (.iload_n 1, 1) := by decide +kernel
theorem dX9_refuse_52 : decode cX9_refuse 52 = .ok (.iaload, 1) := by decide +kernel
theorem dX9_refuse_53 : decode cX9_refuse 53 = .ok (.istore_n 3, 1) := by decide +kernel
theorem dX9_refuse_54 : decode cX9_refuse 54 = .ok (.aload_n 0, 1) := by decide +kernel
theorem dX9_refuse_55 : decode cX9_refuse 55 = .ok (.getfield 98, 3) := by decide +kernel
theorem dX9_refuse_58 : decode cX9_refuse 58 = .ok (.iload_n 1, 1) := by decide +kernel
theorem dX9_refuse_59 : decode cX9_refuse 59 = .ok (.iconst 2, 1) := by decide +kernel
theorem dX9_refuse_60 : decode cX9_refuse 60 = .ok (.iastore, 1) := by decide +kernel
theorem dX9_refuse_61 : decode cX9_refuse 61 = .ok (.iload_n 3, 1) := by decide +kernel
theorem dX9_refuse_62 : decode cX9_refuse 62 = .ok (.ireturn, 1) := by decide +kernel
theorem dX9_vary_0 : decode cX9_vary 0 = .ok (.aload_n 0, 1) := by decide +kernel
theorem dX9_vary_1 : decode cX9_vary 1 = .ok (.iload_n 1, 1) := by decide +kernel
theorem dX9_vary_2 : decode cX9_vary 2 = .ok (.invokevirtual 234, 3) := by decide +kernel
theorem dX9_vary_5 : decode cX9_vary 5 = .ok (.istore_n 3, 1) := by decide +kernel
theorem dX9_vary_6 : decode cX9_vary 6 = .ok (.aload_n 0, 1) := by decide +kernel
theorem dX9_vary_7 : decode cX9_vary 7 = .ok (.iload_n 3, 1) := by decide +kernel
theorem dX9_vary_8 : decode cX9_vary 8 = .ok (.ifCond .ne 7, 3) := by decide +kernel
theorem dX9_vary_11 : decode cX9_vary 11 = .ok (.iconst 1, 1) := by decide +kernel
theorem dX9_vary_12 : decode cX9_vary 12 = .ok (.goto 29, 3) := by decide +kernel
theorem dX9_vary_15 : decode cX9_vary 15 = .ok (.iload_n 2, 1) := by decide +kernel
theorem dX9_vary_16 : decode cX9_vary 16 = .ok (.iconst 0, 1) := by decide +kernel
theorem dX9_vary_17 : decode cX9_vary 17 = .ok (.iconst 3, 1) := by decide +kernel
theorem dX9_vary_18 : decode cX9_vary 18 = .ok (.invokestatic 151, 3) := by decide +kernel
theorem dX9_vary_21 : decode cX9_vary 21 = .ok (.ifCond .ne 7, 3) := by decide +kernel
theorem dX9_vary_24 : decode cX9_vary 24 = .ok (.iconst 2, 1) := by decide +kernel
theorem dX9_vary_25 : decode cX9_vary 25 = .ok (.goto 16, 3) := by decide +kernel
theorem dX9_vary_28 : decode cX9_vary 28 = .ok (.aload_n 0, 1) := by decide +kernel
theorem dX9_vary_29 : decode cX9_vary 29 = .ok (.iload_n 1, 1) := by decide +kernel
theorem dX9_vary_30 : decode cX9_vary 30 = .ok (.invokevirtual 214, 3) := by decide +kernel
theorem dX9_vary_33 : decode cX9_vary 33 = .ok (.ifCond .eq 7, 3) := by decide +kernel
theorem dX9_vary_36 : decode cX9_vary 36 = .ok (.iconst 0, 1) := by decide +kernel
theorem dX9_vary_37 : decode cX9_vary 37 = .ok (.goto 4, 3) := by decide +kernel
theorem dX9_vary_40 : decode cX9_vary 40 = .ok (.iconst 3, 1) := by decide +kernel
theorem dX9_vary_41 : decode cX9_vary 41 = .ok (.invokevirtual 168, 3) := by decide +kernel
theorem dX9_vary_44 : decode cX9_vary 44 = .ok (.ifCond .ne 5, 3) := by decide +kernel
theorem dX9_vary_47 : decode cX9_vary 47 = .ok (.iconst 0, 1) := by decide +kernel
theorem dX9_vary_48 : decode cX9_vary 48 = .ok (.ireturn, 1) := by decide +kernel
theorem dX9_vary_49 : decode cX9_vary 49 = .ok (.aload_n 0, 1) := by decide +kernel
theorem dX9_vary_50 : decode cX9_vary 50 = .ok (.getfield 101, 3) := by decide +kernel
theorem dX9_vary_53 : decode cX9_vary 53 = .ok (.iload_n 1, 1) := by decide +kernel
theorem dX9_vary_54 : decode cX9_vary 54 = .ok (.iload_n 2, 1) := by decide +kernel
theorem dX9_vary_55 : decode cX9_vary 55 = .ok (.iastore, 1) := by decide +kernel
theorem dX9_vary_56 : decode cX9_vary 56 = .ok (.aload_n 0, 1) := by decide +kernel
theorem dX9_vary_57 : decode cX9_vary 57 = .ok (.getfield 104, 3) := by decide +kernel
theorem dX9_vary_60 : decode cX9_vary 60 = .ok (.iload_n 1, 1) := by decide +kernel
theorem dX9_vary_61 : decode cX9_vary 61 = .ok (.dup2, 1) := by decide +kernel
theorem dX9_vary_62 : decode cX9_vary 62 = .ok (.iaload, 1) := by decide +kernel
theorem dX9_vary_63 : decode cX9_vary 63 = .ok (.iconst 1, 1) := by decide +kernel
theorem dX9_vary_64 : decode cX9_vary 64 = .ok (.iadd, 1) := by decide +kernel
theorem dX9_vary_65 : decode cX9_vary 65 = .ok (.iastore, 1) := by decide +kernel
theorem dX9_vary_66 : decode cX9_vary 66 = .ok (.aload_n 0, 1) := by decide +kernel
theorem dX9_vary_67 : decode cX9_vary 67 = .ok (.getfield 104, 3) := by decide +kernel
theorem dX9_vary_70 : decode cX9_vary 70 = .ok (.iload_n 1, 1) := by decide +kernel
theorem dX9_vary_71 : decode cX9_vary 71 = .ok (.iaload, 1) := by decide +kernel
theorem dX9_vary_72 : decode cX9_vary 72 = .ok (.ireturn, 1) := by decide +kernel
theorem dX9_exempt_0 : decode cX9_exempt 0 = .ok (.aload_n 0, 1) := by decide +kernel
theorem dX9_exempt_1 : decode cX9_exempt 1 = .ok (.aload_n 0, 1) := by decide +kernel
theorem dX9_exempt_2 : decode cX9_exempt 2 = .ok (.iload_n 1, 1) := by decide +kernel
theorem dX9_exempt_3 : decode cX9_exempt 3 = .ok (.invokevirtual 234, 3) := by decide +kernel
theorem dX9_exempt_6 : decode cX9_exempt 6 = .ok (.ifCond .eq 7, 3) := by decide +kernel
theorem dX9_exempt_9 : decode cX9_exempt 9 = .ok (.iconst 0, 1) := by decide +kernel
theorem dX9_exempt_10 : decode cX9_exempt 10 = .ok (.goto 4, 3) := by decide +kernel
theorem dX9_exempt_13 : decode cX9_exempt 13 = .ok (.iconst 1, 1) := by decide +kernel
theorem dX9_exempt_14 : decode cX9_exempt 14 = .ok (.invokevirtual 168, 3) := by decide +kernel
theorem dX9_exempt_17 : decode cX9_exempt 17 = .ok (.ifCond .ne 5, 3) := by decide +kernel
theorem dX9_exempt_20 : decode cX9_exempt 20 = .ok (.iconst 0, 1) := by decide +kernel
theorem dX9_exempt_21 : decode cX9_exempt 21 = .ok (.ireturn, 1) := by decide +kernel
theorem dX9_exempt_22 : decode cX9_exempt 22 = .ok (.aload_n 0, 1) := by decide +kernel
theorem dX9_exempt_23 : decode cX9_exempt 23 = .ok (.getfield 113, 3) := by decide +kernel
theorem dX9_exempt_26 : decode cX9_exempt 26 = .ok (.iload_n 1, 1) := by decide +kernel
theorem dX9_exempt_27 : decode cX9_exempt 27 = .ok (.aload_n 0, 1) := by decide +kernel
theorem dX9_exempt_28 : decode cX9_exempt 28 = .ok (.getfield 113, 3) := by decide +kernel
theorem dX9_exempt_31 : decode cX9_exempt 31 = .ok (.iload_n 1, 1) := by decide +kernel
theorem dX9_exempt_32 : decode cX9_exempt 32 = .ok (.baload, 1) := by decide +kernel
theorem dX9_exempt_33 : decode cX9_exempt 33 = .ok (.ifCond .ne 7, 3) := by decide +kernel
theorem dX9_exempt_36 : decode cX9_exempt 36 = .ok (.iconst 1, 1) := by decide +kernel
theorem dX9_exempt_37 : decode cX9_exempt 37 = .ok (.goto 4, 3) := by decide +kernel
theorem dX9_exempt_40 : decode cX9_exempt 40 = .ok (.iconst 0, 1) := by decide +kernel
theorem dX9_exempt_41 : decode cX9_exempt 41 = .ok (.bastore, 1) := by decide +kernel
theorem dX9_exempt_42 : decode cX9_exempt 42 = .ok (.aload_n 0, 1) := by decide +kernel
theorem dX9_exempt_43 : decode cX9_exempt 43 = .ok (.getfield 113, 3) := by decide +kernel
theorem dX9_exempt_46 : decode cX9_exempt 46 = .ok (.iload_n 1, 1) := by decide +kernel
theorem dX9_exempt_47 : decode cX9_exempt 47 = .ok (.baload, 1) := by decide +kernel
theorem dX9_exempt_48 : decode cX9_exempt 48 = .ok (.ireturn, 1) := by decide +kernel
theorem dX9_agree_0 : decode cX9_agree 0 = .ok (.aload_n 0, 1) := by decide +kernel
theorem dX9_agree_1 : decode cX9_agree 1 = .ok (.aload_n 0, 1) := by decide +kernel
theorem dX9_agree_2 : decode cX9_agree 2 = .ok (.iload_n 1, 1) := by decide +kernel
theorem dX9_agree_3 : decode cX9_agree 3 = .ok (.invokevirtual 234, 3) := by decide +kernel
theorem dX9_agree_6 : decode cX9_agree 6 = .ok (.ifCond .eq 11, 3) := by decide +kernel
theorem dX9_agree_9 : decode cX9_agree 9 = .ok (.aload_n 0, 1) := by decide +kernel
theorem dX9_agree_10 : decode cX9_agree 10 = .ok (.iload_n 2, 1) := by decide +kernel
theorem dX9_agree_11 : decode cX9_agree 11 = .ok (.invokevirtual 234, 3) := by decide +kernel
theorem dX9_agree_14 : decode cX9_agree 14 = .ok (.ifCond .ne 7, 3) := by decide +kernel
theorem dX9_agree_17 : decode cX9_agree 17 = .ok (.iconst 1, 1) := by decide +kernel
theorem dX9_agree_18 : decode cX9_agree 18 = .ok (.goto 13, 3) := by decide +kernel
theorem dX9_agree_21 : decode cX9_agree 21 = .ok (.iload_n 1, 1) := by decide +kernel
theorem dX9_agree_22 : decode cX9_agree 22 = .ok (.iload_n 2, 1) := by decide +kernel
theorem dX9_agree_23 : decode cX9_agree 23 = .ok (.if_icmp .ne 7, 3) := by decide +kernel
theorem dX9_agree_26 : decode cX9_agree 26 = .ok (.iconst 2, 1) := by decide +kernel
theorem dX9_agree_27 : decode cX9_agree 27 = .ok (.goto 4, 3) := by decide +kernel
theorem dX9_agree_30 : decode cX9_agree 30 = .ok (.iconst 0, 1) := by decide +kernel
theorem dX9_agree_31 : decode cX9_agree 31 = .ok (.invokevirtual 168, 3) := by decide +kernel
theorem dX9_agree_34 : decode cX9_agree 34 = .ok (.ifCond .ne 5, 3) := by decide +kernel
theorem dX9_agree_37 : decode cX9_agree 37 = .ok (.iconst 0, 1) := by decide +kernel
theorem dX9_agree_38 : decode cX9_agree 38 = .ok (.ireturn, 1) := by decide +kernel
theorem dX9_agree_39 : decode cX9_agree 39 = .ok (.aload_n 0, 1) := by decide +kernel
theorem dX9_agree_40 : decode cX9_agree 40 = .ok (.getfield 116, 3) := by decide +kernel
theorem dX9_agree_43 : decode cX9_agree 43 = .ok (.bipush 24, 2) := by decide +kernel
theorem dX9_agree_45 : decode cX9_agree 45 = .ok (.iload_n 1, 1) := by decide +kernel
theorem dX9_agree_46 : decode cX9_agree 46 = .ok (.imul, 1) := by decide +kernel
theorem dX9_agree_47 : decode cX9_agree 47 = .ok (.iload_n 2, 1) := by decide +kernel
theorem dX9_agree_48 : decode cX9_agree 48 = .ok (.iadd, 1) := by decide +kernel
theorem dX9_agree_49 : decode cX9_agree 49 = .ok (.baload, 1) := by decide +kernel
theorem dX9_agree_50 : decode cX9_agree 50 = .ok (.ifCond .ne 7, 3) := by decide +kernel
theorem dX9_agree_53 : decode cX9_agree 53 = .ok (.iconst 1, 1) := by decide +kernel
theorem dX9_agree_54 : decode cX9_agree 54 = .ok (.goto 4, 3) := by decide +kernel
theorem dX9_agree_57 : decode cX9_agree 57 = .ok (.iconst 0, 1) := by decide +kernel
theorem dX9_agree_58 : decode cX9_agree 58 = .ok (.istore_n 3, 1) := by decide +kernel
theorem dX9_agree_59 : decode cX9_agree 59 = .ok (.aload_n 0, 1) := by decide +kernel
theorem dX9_agree_60 : decode cX9_agree 60 = .ok (.getfield 116, 3) := by decide +kernel
theorem dX9_agree_63 : decode cX9_agree 63 = .ok (.bipush 24, 2) := by decide +kernel
theorem dX9_agree_65 : decode cX9_agree 65 = .ok (.iload_n 1, 1) := by decide +kernel
theorem dX9_agree_66 : decode cX9_agree 66 = .ok (.imul, 1) := by decide +kernel
theorem dX9_agree_67 : decode cX9_agree 67 = .ok (.iload_n 2, 1) := by decide +kernel
theorem dX9_agree_68 : decode cX9_agree 68 = .ok (.iadd, 1) := by decide +kernel
theorem dX9_agree_69 : decode cX9_agree 69 = .ok (.iload_n 3, 1) := by decide +kernel
theorem dX9_agree_70 : decode cX9_agree 70 = .ok (.bastore, 1) := by decide +kernel
theorem dX9_agree_71 : decode cX9_agree 71 = .ok (.aload_n 0, 1) := by decide +kernel
theorem dX9_agree_72 : decode cX9_agree 72 = .ok (.getfield 116, 3) := by decide +kernel
theorem dX9_agree_75 : decode cX9_agree 75 = .ok (.bipush 24, 2) := by decide +kernel
theorem dX9_agree_77 : decode cX9_agree 77 = .ok (.iload_n 2, 1) := by decide +kernel
theorem dX9_agree_78 : decode cX9_agree 78 = .ok (.imul, 1) := by decide +kernel
theorem dX9_agree_79 : decode cX9_agree 79 = .ok (.iload_n 1, 1) := by decide +kernel
theorem dX9_agree_80 : decode cX9_agree 80 = .ok (.iadd, 1) := by decide +kernel
theorem dX9_agree_81 : decode cX9_agree 81 = .ok (.iload_n 3, 1) := by decide +kernel
theorem dX9_agree_82 : decode cX9_agree 82 = .ok (.bastore, 1) := by decide +kernel
theorem dX9_agree_83 : decode cX9_agree 83 = .ok (.iload_n 3, 1) := by decide +kernel
theorem dX9_agree_84 : decode cX9_agree 84 = .ok (.ireturn, 1) := by decide +kernel
theorem dX9_start_0 : decode cX9_start 0 = .ok (.aload_n 0, 1) := by decide +kernel
theorem dX9_start_1 : decode cX9_start 1 = .ok (.iload_n 1, 1) := by decide +kernel
theorem dX9_start_2 : decode cX9_start 2 = .ok (.invokevirtual 234, 3) := by decide +kernel
theorem dX9_start_5 : decode cX9_start 5 = .ok (.istore_n 2, 1) := by decide +kernel
theorem dX9_start_6 : decode cX9_start 6 = .ok (.aload_n 0, 1) := by decide +kernel
theorem dX9_start_7 : decode cX9_start 7 = .ok (.iload_n 2, 1) := by decide +kernel
theorem dX9_start_8 : decode cX9_start 8 = .ok (.ifCond .ne 7, 3) := by decide +kernel
theorem dX9_start_11 : decode cX9_start 11 = .ok (.iconst 1, 1) := by decide +kernel
theorem dX9_start_12 : decode cX9_start 12 = .ok (.goto 39, 3) := by decide +kernel
theorem dX9_start_15 : decode cX9_start 15 = .ok (.aload_n 0, 1) := by decide +kernel
theorem dX9_start_16 : decode cX9_start 16 = .ok (.getfield 98, 3) := by decide +kernel
theorem dX9_start_19 : decode cX9_start 19 = .ok (.iload_n 1, 1) := by decide +kernel
theorem dX9_start_20 : decode cX9_start 20 = .ok (.iaload, 1) := by decide +kernel
theorem dX9_start_21 : decode cX9_start 21 = .ok (.iconst 1, 1) := by decide +kernel
theorem dX9_start_22 : decode cX9_start 22 = .ok (.if_icmp .ne 24, 3) := by decide +kernel
theorem dX9_start_25 : decode cX9_start 25 = .ok (.aload_n 0, 1) := by decide +kernel
theorem dX9_start_26 : decode cX9_start 26 = .ok (.invokevirtual 175, 3) := by decide +kernel
theorem dX9_start_29 : decode cX9_start 29 = .ok (.aload_n 0, 1) := by decide +kernel
theorem dX9_start_30 : decode cX9_start 30 = .ok (.getfield 89, 3) := by decide +kernel
theorem dX9_start_33 : decode cX9_start 33 = .ok (.iload_n 1, 1) := by decide +kernel
theorem dX9_start_34 : decode cX9_start 34 = .ok (.iaload, 1) := by decide +kernel
theorem dX9_start_35 : decode cX9_start 35 = .ok (.aload_n 0, 1) := by decide +kernel
theorem dX9_start_36 : decode cX9_start 36 = .ok (.iload_n 1, 1) := by decide +kernel
theorem dX9_start_37 : decode cX9_start 37 = .ok (.invokevirtual 208, 3) := by decide +kernel
theorem dX9_start_40 : decode cX9_start 40 = .ok (.invokestatic 151, 3) := by decide +kernel
theorem dX9_start_43 : decode cX9_start 43 = .ok (.ifCond .ne 7, 3) := by decide +kernel
theorem dX9_start_46 : decode cX9_start 46 = .ok (.iconst 2, 1) := by decide +kernel
theorem dX9_start_47 : decode cX9_start 47 = .ok (.goto 4, 3) := by decide +kernel
theorem dX9_start_50 : decode cX9_start 50 = .ok (.iconst 0, 1) := by decide +kernel
theorem dX9_start_51 : decode cX9_start 51 = .ok (.invokevirtual 168, 3) := by decide +kernel
theorem dX9_start_54 : decode cX9_start 54 = .ok (.ifCond .ne 5, 3) := by decide +kernel
theorem dX9_start_57 : decode cX9_start 57 = .ok (.iconst 0, 1) := by decide +kernel
