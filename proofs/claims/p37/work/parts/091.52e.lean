theorem dX8_survey_41 : decode cX8_survey 41 = .ok (.istore_n 3, 1) := by decide +kernel
theorem dX8_survey_42 : decode cX8_survey 42 = .ok (.aload_n 2, 1) := by decide +kernel
theorem dX8_survey_43 : decode cX8_survey 43 = .ok (.aload_n 2, 1) := by decide +kernel
theorem dX8_survey_44 : decode cX8_survey 44 = .ok (.getfield 183, 3) := by decide +kernel
theorem dX8_survey_47 : decode cX8_survey 47 = .ok (.aload_n 2, 1) := by decide +kernel
theorem dX8_survey_48 : decode cX8_survey 48 = .ok (.getfield 186, 3) := by decide +kernel
theorem dX8_survey_51 : decode cX8_survey 51 = .ok (.iconst 0, 1) := by decide +kernel
theorem dX8_survey_52 : decode cX8_survey 52 = .ok (.invokevirtual 166, 3) := by decide +kernel
theorem dX8_survey_55 : decode cX8_survey 55 = .ok (.iload_n 3, 1) := by decide +kernel
theorem dX8_survey_56 : decode cX8_survey 56 = .ok (.ireturn, 1) := by decide +kernel
theorem dX8_trial_0 : decode cX8_trial 0 = .ok (.aload_n 0, 1) := by decide +kernel
theorem dX8_trial_1 : decode cX8_trial 1 = .ok (.iload_n 1, 1) := by decide +kernel
theorem dX8_trial_2 : decode cX8_trial 2 = .ok (.invokevirtual 48, 3) := by decide +kernel
theorem dX8_trial_5 : decode cX8_trial 5 = .ok (.astore_n 3, 1) := by decide +kernel
theorem dX8_trial_6 : decode cX8_trial 6 = .ok (.aload_n 3, 1) := by decide +kernel
theorem dX8_trial_7 : decode cX8_trial 7 = .ok (.ifnonnull 7, 3) := by decide +kernel
theorem dX8_trial_10 : decode cX8_trial 10 = .ok (.aconst_null, 1) := by decide +kernel
theorem dX8_trial_11 : decode cX8_trial 11 = .ok (.goto 8, 3) := by decide +kernel
theorem dX8_trial_14 : decode cX8_trial 14 = .ok (.aload_n 3, 1) := by decide +kernel
theorem dX8_trial_15 : decode cX8_trial 15 = .ok (.iload_n 2, 1) := by decide +kernel
theorem dX8_trial_16 : decode cX8_trial 16 = .ok (.invokevirtual 135, 3) := by decide +kernel
theorem dX8_trial_19 : decode cX8_trial 19 = .ok (.astore 4, 2) := by decide +kernel
theorem dX8_trial_21 : decode cX8_trial 21 = .ok (.aload_n 3, 1) := by decide +kernel
theorem dX8_trial_22 : decode cX8_trial 22 = .ok (.ifnull 8, 3) := by decide +kernel
theorem dX8_trial_25 : decode cX8_trial 25 = .ok (.aload 4, 2) := by decide +kernel
theorem dX8_trial_27 : decode cX8_trial 27 = .ok (.ifnonnull 13, 3) := by decide +kernel
theorem dX8_trial_30 : decode cX8_trial 30 = .ok (.new 52, 3) := by decide +kernel
theorem dX8_trial_33 : decode cX8_trial 33 = .ok (.dup, 1) := by decide +kernel
theorem dX8_trial_34 : decode cX8_trial 34 = .ok (.ldc 189, 2) := by decide +kernel
theorem dX8_trial_36 : decode cX8_trial 36 = .ok (.invokespecial 56, 3) := by decide +kernel
theorem dX8_trial_39 : decode cX8_trial 39 = .ok (.athrow, 1) := by decide +kernel
theorem dX8_trial_40 : decode cX8_trial 40 = .ok (.aload 4, 2) := by decide +kernel
theorem dX8_trial_42 : decode cX8_trial 42 = .ok (.iconst 1, 1) := by decide +kernel
theorem dX8_trial_43 : decode cX8_trial 43 = .ok (.putfield 151, 3) := by decide +kernel
theorem dX8_trial_46 : decode cX8_trial 46 = .ok (.iconst 0, 1) := by decide +kernel
theorem dX8_trial_47 : decode cX8_trial 47 = .ok (.istore 5, 2) := by decide +kernel
theorem dX8_trial_49 : decode cX8_trial 49 = .ok (.iconst 0, 1) := by decide +kernel
theorem dX8_trial_50 : decode cX8_trial 50 = .ok (.istore 6, 2) := by decide +kernel
theorem dX8_trial_52 : decode cX8_trial 52 = .ok (.iload 6, 2) := by decide +kernel
theorem dX8_trial_54 : decode cX8_trial 54 = .ok (.aload_n 0, 1) := by decide +kernel
theorem dX8_trial_55 : decode cX8_trial 55 = .ok (.getfield 17, 3) := by decide +kernel
theorem dX8_trial_58 : decode cX8_trial 58 = .ok (.arraylength, 1) := by decide +kernel
theorem dX8_trial_59 : decode cX8_trial 59 = .ok (.if_icmp .ge 36, 3) := by decide +kernel
theorem dX8_trial_62 : decode cX8_trial 62 = .ok (.aload_n 0, 1) := by decide +kernel
theorem dX8_trial_63 : decode cX8_trial 63 = .ok (.getfield 17, 3) := by decide +kernel
theorem dX8_trial_66 : decode cX8_trial 66 = .ok (.iload 6, 2) := by decide +kernel
theorem dX8_trial_68 : decode cX8_trial 68 = .ok (.aaload, 1) := by decide +kernel
theorem dX8_trial_69 : decode cX8_trial 69 = .ok (.astore 7, 2) := by decide +kernel
theorem dX8_trial_71 : decode cX8_trial 71 = .ok (.aload 7, 2) := by decide +kernel
theorem dX8_trial_73 : decode cX8_trial 73 = .ok (.ifnull 16, 3) := by decide +kernel
theorem dX8_trial_76 : decode cX8_trial 76 = .ok (.aload 7, 2) := by decide +kernel
theorem dX8_trial_78 : decode cX8_trial 78 = .ok (.aload_n 3, 1) := by decide +kernel
theorem dX8_trial_79 : decode cX8_trial 79 = .ok (.iload_n 2, 1) := by decide +kernel
theorem dX8_trial_80 : decode cX8_trial 80 = .ok (.invokevirtual 191, 3) := by decide +kernel
theorem dX8_trial_83 : decode cX8_trial 83 = .ok (.ifCond .eq 6, 3) := by decide +kernel
theorem dX8_trial_86 : decode cX8_trial 86 = .ok (.iinc 5 1, 3) := by decide +kernel
theorem dX8_trial_89 : decode cX8_trial 89 = .ok (.iinc 6 1, 3) := by decide +kernel
theorem dX8_trial_92 : decode cX8_trial 92 = .ok (.goto (-40), 3) := by decide +kernel
theorem dX8_trial_95 : decode cX8_trial 95 = .ok (.iload 5, 2) := by decide +kernel
theorem dX8_trial_97 : decode cX8_trial 97 = .ok (.ireturn, 1) := by decide +kernel
theorem dX8_ask_0 : decode cX8_ask 0 = .ok (.aload_n 0, 1) := by decide +kernel
theorem dX8_ask_1 : decode cX8_ask 1 = .ok (.iload_n 2, 1) := by decide +kernel
theorem dX8_ask_2 : decode cX8_ask 2 = .ok (.invokevirtual 48, 3) := by decide +kernel
theorem dX8_ask_5 : decode cX8_ask 5 = .ok (.astore 9, 2) := by decide +kernel
theorem dX8_ask_7 : decode cX8_ask 7 = .ok (.iload_n 1, 1) := by decide +kernel
theorem dX8_ask_8 : decode cX8_ask 8 = .ok (.invokestatic 131, 3) := by decide +kernel
theorem dX8_ask_11 : decode cX8_ask 11 = .ok (.ifCond .eq 27, 3) := by decide +kernel
theorem dX8_ask_14 : decode cX8_ask 14 = .ok (.aload 9, 2) := by decide +kernel
theorem dX8_ask_16 : decode cX8_ask 16 = .ok (.ifnull 22, 3) := by decide +kernel
theorem dX8_ask_19 : decode cX8_ask 19 = .ok (.aload 9, 2) := by decide +kernel
theorem dX8_ask_21 : decode cX8_ask 21 = .ok (.iload_n 3, 1) := by decide +kernel
theorem dX8_ask_22 : decode cX8_ask 22 = .ok (.invokevirtual 135, 3) := by decide +kernel
theorem dX8_ask_25 : decode cX8_ask 25 = .ok (.ifnull 13, 3) := by decide +kernel
theorem dX8_ask_28 : decode cX8_ask 28 = .ok (.aload 9, 2) := by decide +kernel
theorem dX8_ask_30 : decode cX8_ask 30 = .ok (.iload 4, 2) := by decide +kernel
theorem dX8_ask_32 : decode cX8_ask 32 = .ok (.invokevirtual 135, 3) := by decide +kernel
theorem dX8_ask_35 : decode cX8_ask 35 = .ok (.ifnonnull 13, 3) := by decide +kernel
theorem dX8_ask_38 : decode cX8_ask 38 = .ok (.new 52, 3) := by decide +kernel
theorem dX8_ask_41 : decode cX8_ask 41 = .ok (.dup, 1) := by decide +kernel
theorem dX8_ask_42 : decode cX8_ask 42 = .ok (.ldc 139, 2) := by decide +kernel
theorem dX8_ask_44 : decode cX8_ask 44 = .ok (.invokespecial 56, 3) := by decide +kernel
theorem dX8_ask_47 : decode cX8_ask 47 = .ok (.athrow, 1) := by decide +kernel
theorem dX8_ask_48 : decode cX8_ask 48 = .ok (.iload 4, 2) := by decide +kernel
theorem dX8_ask_50 : decode cX8_ask 50 = .ok (.iload_n 3, 1) := by decide +kernel
theorem dX8_ask_51 : decode cX8_ask 51 = .ok (.if_icmp .lt 29, 3) := by decide +kernel
theorem dX8_ask_54 : decode cX8_ask 54 = .ok (.iload 5, 2) := by decide +kernel
theorem dX8_ask_56 : decode cX8_ask 56 = .ok (.bipush 10, 2) := by decide +kernel
theorem dX8_ask_58 : decode cX8_ask 58 = .ok (.if_icmp .lt 22, 3) := by decide +kernel
theorem dX8_ask_61 : decode cX8_ask 61 = .ok (.iload 5, 2) := by decide +kernel
theorem dX8_ask_63 : decode cX8_ask 63 = .ok (.sipush 300, 3) := by decide +kernel
theorem dX8_ask_66 : decode cX8_ask 66 = .ok (.if_icmp .gt 14, 3) := by decide +kernel
theorem dX8_ask_69 : decode cX8_ask 69 = .ok (.iload 6, 2) := by decide +kernel
theorem dX8_ask_71 : decode cX8_ask 71 = .ok (.ifCond .lt 9, 3) := by decide +kernel
theorem dX8_ask_74 : decode cX8_ask 74 = .ok (.iload 6, 2) := by decide +kernel
theorem dX8_ask_76 : decode cX8_ask 76 = .ok (.iconst 3, 1) := by decide +kernel
theorem dX8_ask_77 : decode cX8_ask 77 = .ok (.if_icmp .le 13, 3) := by decide +kernel
theorem dX8_ask_80 : decode cX8_ask 80 = .ok (.new 59, 3) := by decide +kernel
theorem dX8_ask_83 : decode cX8_ask 83 = .ok (.dup, 1) := by decide +kernel
theorem dX8_ask_84 : decode cX8_ask 84 = .ok (.ldc 195, 2) := by decide +kernel
theorem dX8_ask_86 : decode cX8_ask 86 = .ok (.invokespecial 63, 3) := by decide +kernel
theorem dX8_ask_89 : decode cX8_ask 89 = .ok (.athrow, 1) := by decide +kernel
theorem dX8_ask_90 : decode cX8_ask 90 = .ok (.iload 7, 2) := by decide +kernel
theorem dX8_ask_92 : decode cX8_ask 92 = .ok (.aload_n 0, 1) := by decide +kernel
theorem dX8_ask_93 : decode cX8_ask 93 = .ok (.invokevirtual 84, 3) := by decide +kernel
theorem dX8_ask_96 : decode cX8_ask 96 = .ok (.aload 9, 2) := by decide +kernel
theorem dX8_ask_98 : decode cX8_ask 98 = .ok (.iload 6, 2) := by decide +kernel
theorem dX8_ask_100 : decode cX8_ask 100 = .ok (.invokevirtual 197, 3) := by decide +kernel
theorem dX8_ask_103 : decode cX8_ask 103 = .ok (.iadd, 1) := by decide +kernel
theorem dX8_ask_104 : decode cX8_ask 104 = .ok (.if_icmp .lt 24, 3) := by decide +kernel
theorem dX8_ask_107 : decode cX8_ask 107 = .ok (.iload 7, 2) := by decide +kernel
theorem dX8_ask_109 : decode cX8_ask 109 = .ok (.sipush 999, 3) := by decide +kernel
theorem dX8_ask_112 : decode cX8_ask 112 = .ok (.if_icmp .gt 16, 3) := by decide +kernel
theorem dX8_ask_115 : decode cX8_ask 115 = .ok (.iload 8, 2) := by decide +kernel
theorem dX8_ask_117 : decode cX8_ask 117 = .ok (.iconst 1, 1) := by decide +kernel
theorem dX8_ask_118 : decode cX8_ask 118 = .ok (.if_icmp .lt 10, 3) := by decide +kernel
theorem dX8_ask_121 : decode cX8_ask 121 = .ok (.iload 8, 2) := by decide +kernel
theorem dX8_ask_123 : decode cX8_ask 123 = .ok (.bipush 60, 2) := by decide +kernel
theorem dX8_ask_125 : decode cX8_ask 125 = .ok (.if_icmp .le 13, 3) := by decide +kernel
theorem dX8_ask_128 : decode cX8_ask 128 = .ok (.new 59, 3) := by decide +kernel
theorem dX8_ask_131 : decode cX8_ask 131 = .ok (.dup, 1) := by decide +kernel
theorem dX8_ask_132 : decode cX8_ask 132 = .ok (.ldc 201, 2) := by decide +kernel
theorem dX8_ask_134 : decode cX8_ask 134 = .ok (.invokespecial 63, 3) := by decide +kernel
theorem dX8_ask_137 : decode cX8_ask 137 = .ok (.athrow, 1) := by decide +kernel
theorem dX8_ask_138 : decode cX8_ask 138 = .ok (.aload_n 0, 1) := by decide +kernel
theorem dX8_ask_139 : decode cX8_ask 139 = .ok (.getfield 203, 3) := by decide +kernel
theorem dX8_ask_142 : decode cX8_ask 142 = .ok (.aload_n 0, 1) := by decide +kernel
theorem dX8_ask_143 : decode cX8_ask 143 = .ok (.getfield 23, 3) := by decide +kernel
theorem dX8_ask_146 : decode cX8_ask 146 = .ok (.arraylength, 1) := by decide +kernel
theorem dX8_ask_147 : decode cX8_ask 147 = .ok (.if_icmp .lt 13, 3) := by decide +kernel
theorem dX8_ask_150 : decode cX8_ask 150 = .ok (.new 68, 3) := by decide +kernel
theorem dX8_ask_153 : decode cX8_ask 153 = .ok (.dup, 1) := by decide +kernel
theorem dX8_ask_154 : decode cX8_ask 154 = .ok (.ldc 206, 2) := by decide +kernel
theorem dX8_ask_156 : decode cX8_ask 156 = .ok (.invokespecial 72, 3) := by decide +kernel
theorem dX8_ask_159 : decode cX8_ask 159 = .ok (.athrow, 1) := by decide +kernel
theorem dX8_ask_160 : decode cX8_ask 160 = .ok (.new 21, 3) := by decide +kernel
theorem dX8_ask_163 : decode cX8_ask 163 = .ok (.dup, 1) := by decide +kernel
theorem dX8_ask_164 : decode cX8_ask 164 = .ok (.aload_n 0, 1) := by decide +kernel
theorem dX8_ask_165 : decode cX8_ask 165 = .ok (.getfield 203, 3) := by decide +kernel
theorem dX8_ask_168 : decode cX8_ask 168 = .ok (.iload_n 1, 1) := by decide +kernel
theorem dX8_ask_169 : decode cX8_ask 169 = .ok (.aload 9, 2) := by decide +kernel
theorem dX8_ask_171 : decode cX8_ask 171 = .ok (.iload 6, 2) := by decide +kernel
theorem dX8_ask_173 : decode cX8_ask 173 = .ok (.aload_n 0, 1) := by decide +kernel
theorem dX8_ask_174 : decode cX8_ask 174 = .ok (.invokevirtual 84, 3) := by decide +kernel
theorem dX8_ask_177 : decode cX8_ask 177 = .ok (.invokespecial 208, 3) := by decide +kernel
theorem dX8_ask_180 : decode cX8_ask 180 = .ok (.astore 10, 2) := by decide +kernel
theorem dX8_ask_182 : decode cX8_ask 182 = .ok (.aload 10, 2) := by decide +kernel
theorem dX8_ask_184 : decode cX8_ask 184 = .ok (.iload_n 3, 1) := by decide +kernel
theorem dX8_ask_185 : decode cX8_ask 185 = .ok (.iload 4, 2) := by decide +kernel
theorem dX8_ask_187 : decode cX8_ask 187 = .ok (.iload 5, 2) := by decide +kernel
theorem dX8_ask_189 : decode cX8_ask 189 = .ok (.invokevirtual 211, 3) := by decide +kernel
theorem dX8_ask_192 : decode cX8_ask 192 = .ok (.aload 10, 2) := by decide +kernel
theorem dX8_ask_194 : decode cX8_ask 194 = .ok (.iload 7, 2) := by decide +kernel
theorem dX8_ask_196 : decode cX8_ask 196 = .ok (.iload 8, 2) := by decide +kernel
theorem dX8_ask_198 : decode cX8_ask 198 = .ok (.invokevirtual 214, 3) := by decide +kernel
theorem dX8_ask_201 : decode cX8_ask 201 = .ok (.aload_n 0, 1) := by decide +kernel
theorem dX8_ask_202 : decode cX8_ask 202 = .ok (.getfield 23, 3) := by decide +kernel
theorem dX8_ask_205 : decode cX8_ask 205 = .ok (.aload_n 0, 1) := by decide +kernel
theorem dX8_ask_206 : decode cX8_ask 206 = .ok (.getfield 203, 3) := by decide +kernel
theorem dX8_ask_209 : decode cX8_ask 209 = .ok (.aload 10, 2) := by decide +kernel
theorem dX8_ask_211 : decode cX8_ask 211 = .ok (.aastore, 1) := by decide +kernel
theorem dX8_ask_212 : decode cX8_ask 212 = .ok (.aload_n 0, 1) := by decide +kernel
theorem dX8_ask_213 : decode cX8_ask 213 = .ok (.dup, 1) := by decide +kernel
theorem dX8_ask_214 : decode cX8_ask 214 = .ok (.getfield 203, 3) := by decide +kernel
theorem dX8_ask_217 : decode cX8_ask 217 = .ok (.iconst 1, 1) := by decide +kernel
theorem dX8_ask_218 : decode cX8_ask 218 = .ok (.iadd, 1) := by decide +kernel
theorem dX8_ask_219 : decode cX8_ask 219 = .ok (.putfield 203, 3) := by decide +kernel
theorem dX8_ask_222 : decode cX8_ask 222 = .ok (.aload 10, 2) := by decide +kernel
theorem dX8_ask_224 : decode cX8_ask 224 = .ok (.getfield 218, 3) := by decide +kernel
theorem dX8_ask_227 : decode cX8_ask 227 = .ok (.ireturn, 1) := by decide +kernel
theorem dX8_grant_0 : decode cX8_grant 0 = .ok (.aload_n 0, 1) := by decide +kernel
theorem dX8_grant_1 : decode cX8_grant 1 = .ok (.iload_n 1, 1) := by decide +kernel
theorem dX8_grant_2 : decode cX8_grant 2 = .ok (.invokevirtual 221, 3) := by decide +kernel
theorem dX8_grant_5 : decode cX8_grant 5 = .ok (.astore_n 3, 1) := by decide +kernel
theorem dX8_grant_6 : decode cX8_grant 6 = .ok (.aload_n 3, 1) := by decide +kernel
theorem dX8_grant_7 : decode cX8_grant 7 = .ok (.ifnonnull 13, 3) := by decide +kernel
theorem dX8_grant_10 : decode cX8_grant 10 = .ok (.new 52, 3) := by decide +kernel
theorem dX8_grant_13 : decode cX8_grant 13 = .ok (.dup, 1) := by decide +kernel
theorem dX8_grant_14 : decode cX8_grant 14 = .ok (.ldc 225, 2) := by decide +kernel
theorem dX8_grant_16 : decode cX8_grant 16 = .ok (.invokespecial 56, 3) := by decide +kernel
theorem dX8_grant_19 : decode cX8_grant 19 = .ok (.athrow, 1) := by decide +kernel
theorem dX8_grant_20 : decode cX8_grant 20 = .ok (.iload_n 2, 1) := by decide +kernel
theorem dX8_grant_21 : decode cX8_grant 21 = .ok (.ifCond .lt 8, 3) := by decide +kernel
theorem dX8_grant_24 : decode cX8_grant 24 = .ok (.iload_n 2, 1) := by decide +kernel
theorem dX8_grant_25 : decode cX8_grant 25 = .ok (.iconst 3, 1) := by decide +kernel
theorem dX8_grant_26 : decode cX8_grant 26 = .ok (.if_icmp .le 13, 3) := by decide +kernel
theorem dX8_grant_29 : decode cX8_grant 29 = .ok (.new 59, 3) := by decide +kernel
theorem dX8_grant_32 : decode cX8_grant 32 = .ok (.dup, 1) := by decide +kernel
theorem dX8_grant_33 : decode cX8_grant 33 = .ok (.ldc 227, 2) := by decide +kernel
theorem dX8_grant_35 : decode cX8_grant 35 = .ok (.invokespecial 63, 3) := by decide +kernel
theorem dX8_grant_38 : decode cX8_grant 38 = .ok (.athrow, 1) := by decide +kernel
theorem dX8_grant_39 : decode cX8_grant 39 = .ok (.aload_n 3, 1) := by decide +kernel
theorem dX8_grant_40 : decode cX8_grant 40 = .ok (.getfield 118, 3) := by decide +kernel
theorem dX8_grant_43 : decode cX8_grant 43 = .ok (.ifCond .ne 11, 3) := by decide +kernel
theorem dX8_grant_46 : decode cX8_grant 46 = .ok (.aload_n 0, 1) := by decide +kernel
theorem dX8_grant_47 : decode cX8_grant 47 = .ok (.aload_n 3, 1) := by decide +kernel
theorem dX8_grant_48 : decode cX8_grant 48 = .ok (.invokevirtual 229, 3) := by decide +kernel
theorem dX8_grant_51 : decode cX8_grant 51 = .ok (.ifCond .eq 13, 3) := by decide +kernel
theorem dX8_grant_54 : decode cX8_grant 54 = .ok (.new 68, 3) := by decide +kernel
theorem dX8_grant_57 : decode cX8_grant 57 = .ok (.dup, 1) := by decide +kernel
theorem dX8_grant_58 : decode cX8_grant 58 = .ok (.ldc 233, 2) := by decide +kernel
theorem dX8_grant_60 : decode cX8_grant 60 = .ok (.invokespecial 72, 3) := by decide +kernel
theorem dX8_grant_63 : decode cX8_grant 63 = .ok (.athrow, 1) := by decide +kernel
theorem dX8_grant_64 : decode cX8_grant 64 = .ok (.aload_n 0, 1) := by decide +kernel
theorem dX8_grant_65 : decode cX8_grant 65 = .ok (.aload_n 3, 1) := by decide +kernel
theorem dX8_grant_66 : decode cX8_grant 66 = .ok (.iload_n 2, 1) := by decide +kernel
theorem dX8_grant_67 : decode cX8_grant 67 = .ok (.invokevirtual 235, 3) := by decide +kernel
theorem dX8_grant_70 : decode cX8_grant 70 = .ok (.aload_n 3, 1) := by decide +kernel
theorem dX8_grant_71 : decode cX8_grant 71 = .ok (.invokevirtual 239, 3) := by decide +kernel
theorem dX8_grant_74 : decode cX8_grant 74 = .ok (.ireturn, 1) := by decide +kernel
theorem dX8_refuse_0 : decode cX8_refuse 0 = .ok (.aload_n 0, 1) := by decide +kernel
theorem dX8_refuse_1 : decode cX8_refuse 1 = .ok (.iload_n 1, 1) := by decide +kernel
theorem dX8_refuse_2 : decode cX8_refuse 2 = .ok (.invokevirtual 221, 3) := by decide +kernel
theorem dX8_refuse_5 : decode cX8_refuse 5 = .ok (.astore_n 2, 1) := by decide +kernel
theorem dX8_refuse_6 : decode cX8_refuse 6 = .ok (.aload_n 2, 1) := by decide +kernel
theorem dX8_refuse_7 : decode cX8_refuse 7 = .ok (.ifnonnull 13, 3) := by decide +kernel
theorem dX8_refuse_10 : decode cX8_refuse 10 = .ok (.new 52, 3) := by decide +kernel
theorem dX8_refuse_13 : decode cX8_refuse 13 = .ok (.dup, 1) := by decide +kernel
theorem dX8_refuse_14 : decode cX8_refuse 14 = .ok (.ldc 225, 2) := by decide +kernel
theorem dX8_refuse_16 : decode cX8_refuse 16 = .ok (.invokespecial 56, 3) := by decide +kernel
theorem dX8_refuse_19 : decode cX8_refuse 19 = .ok (.athrow, 1) := by decide +kernel
theorem dX8_refuse_20 : decode cX8_refuse 20 = .ok (.aload_n 2, 1) := by decide +kernel
theorem dX8_refuse_21 : decode cX8_refuse 21 = .ok (.getfield 118, 3) := by decide +kernel
theorem dX8_refuse_24 : decode cX8_refuse 24 = .ok (.ifCond .eq 21, 3) := by decide +kernel
theorem dX8_refuse_27 : decode cX8_refuse 27 = .ok (.aload_n 2, 1) := by decide +kernel
theorem dX8_refuse_28 : decode cX8_refuse 28 = .ok (.getfield 118, 3) := by decide +kernel
theorem dX8_refuse_31 : decode cX8_refuse 31 = .ok (.iconst 1, 1) := by decide +kernel
theorem dX8_refuse_32 : decode cX8_refuse 32 = .ok (.if_icmp .eq 13, 3) := by decide +kernel
theorem dX8_refuse_35 : decode cX8_refuse 35 = .ok (.new 68, 3) := by decide +kernel
theorem dX8_refuse_38 : decode cX8_refuse 38 = .ok (.dup, 1) := by decide +kernel
theorem dX8_refuse_39 : decode cX8_refuse 39 = .ok (.ldc 242, 2) := by decide +kernel
theorem dX8_refuse_41 : decode cX8_refuse 41 = .ok (.invokespecial 72, 3) := by decide +kernel
theorem dX8_refuse_44 : decode cX8_refuse 44 = .ok (.athrow, 1) := by decide +kernel
theorem dX8_refuse_45 : decode cX8_refuse 45 = .ok (.aload_n 2, 1) := by decide +kernel
theorem dX8_refuse_46 : decode cX8_refuse 46 = .ok (.getfield 118, 3) := by decide +kernel
theorem dX8_refuse_49 : decode cX8_refuse 49 = .ok (.istore_n 3, 1) := by decide +kernel
theorem dX8_refuse_50 : decode cX8_refuse 50 = .ok (.aload_n 2, 1) := by decide +kernel
theorem dX8_refuse_51 : decode cX8_refuse 51 = .ok (.iconst 2, 1) := by decide +kernel
theorem dX8_refuse_52 : decode cX8_refuse 52 = .ok (.putfield 118, 3) := by decide +kernel
theorem dX8_refuse_55 : decode cX8_refuse 55 = .ok (.iload_n 3, 1) := by decide +kernel
theorem dX8_refuse_56 : decode cX8_refuse 56 = .ok (.ireturn, 1) := by decide +kernel
theorem dX8_vary_0 : decode cX8_vary 0 = .ok (.aload_n 0, 1) := by decide +kernel
theorem dX8_vary_1 : decode cX8_vary 1 = .ok (.iload_n 1, 1) := by decide +kernel
theorem dX8_vary_2 : decode cX8_vary 2 = .ok (.invokevirtual 221, 3) := by decide +kernel
theorem dX8_vary_5 : decode cX8_vary 5 = .ok (.astore_n 3, 1) := by decide +kernel
theorem dX8_vary_6 : decode cX8_vary 6 = .ok (.aload_n 3, 1) := by decide +kernel
theorem dX8_vary_7 : decode cX8_vary 7 = .ok (.ifnonnull 13, 3) := by decide +kernel
theorem dX8_vary_10 : decode cX8_vary 10 = .ok (.new 52, 3) := by decide +kernel
theorem dX8_vary_13 : decode cX8_vary 13 = .ok (.dup, 1) := by decide +kernel
theorem dX8_vary_14 : decode cX8_vary 14 = .ok (.ldc 225, 2) := by decide +kernel
theorem dX8_vary_16 : decode cX8_vary 16 = .ok (.invokespecial 56, 3) := by decide +kernel
theorem dX8_vary_19 : decode cX8_vary 19 = .ok (.athrow, 1) := by decide +kernel
theorem dX8_vary_20 : decode cX8_vary 20 = .ok (.iload_n 2, 1) := by decide +kernel
theorem dX8_vary_21 : decode cX8_vary 21 = .ok (.ifCond .lt 8, 3) := by decide +kernel
theorem dX8_vary_24 : decode cX8_vary 24 = .ok (.iload_n 2, 1) := by decide +kernel
theorem dX8_vary_25 : decode cX8_vary 25 = .ok (.iconst 3, 1) := by decide +kernel
theorem dX8_vary_26 : decode cX8_vary 26 = .ok (.if_icmp .le 13, 3) := by decide +kernel
theorem dX8_vary_29 : decode cX8_vary 29 = .ok (.new 59, 3) := by decide +kernel
theorem dX8_vary_32 : decode cX8_vary 32 = .ok (.dup, 1) := by decide +kernel
theorem dX8_vary_33 : decode cX8_vary 33 = .ok (.ldc 227, 2) := by decide +kernel
theorem dX8_vary_35 : decode cX8_vary 35 = .ok (.invokespecial 63, 3) := by decide +kernel
theorem dX8_vary_38 : decode cX8_vary 38 = .ok (.athrow, 1) := by decide +kernel
theorem dX8_vary_39 : decode cX8_vary 39 = .ok (.aload_n 3, 1) := by decide +kernel
theorem dX8_vary_40 : decode cX8_vary 40 = .ok (.invokevirtual 244, 3) := by decide +kernel
theorem dX8_vary_43 : decode cX8_vary 43 = .ok (.ifCond .ne 13, 3) := by decide +kernel
theorem dX8_vary_46 : decode cX8_vary 46 = .ok (.new 68, 3) := by decide +kernel
theorem dX8_vary_49 : decode cX8_vary 49 = .ok (.dup, 1) := by decide +kernel
theorem dX8_vary_50 : decode cX8_vary 50 = .ok (.ldc 247, 2) := by decide +kernel
theorem dX8_vary_52 : decode cX8_vary 52 = .ok (.invokespecial 72, 3) := by decide +kernel
theorem dX8_vary_55 : decode cX8_vary 55 = .ok (.athrow, 1) := by decide +kernel
theorem dX8_vary_56 : decode cX8_vary 56 = .ok (.aload_n 3, 1) := by decide +kernel
theorem dX8_vary_57 : decode cX8_vary 57 = .ok (.iload_n 2, 1) := by decide +kernel
theorem dX8_vary_58 : decode cX8_vary 58 = .ok (.putfield 249, 3) := by decide +kernel
theorem dX8_vary_61 : decode cX8_vary 61 = .ok (.aload_n 3, 1) := by decide +kernel
theorem dX8_vary_62 : decode cX8_vary 62 = .ok (.dup, 1) := by decide +kernel
theorem dX8_vary_63 : decode cX8_vary 63 = .ok (.getfield 252, 3) := by decide +kernel
theorem dX8_vary_66 : decode cX8_vary 66 = .ok (.iconst 1, 1) := by decide +kernel
theorem dX8_vary_67 : decode cX8_vary 67 = .ok (.iadd, 1) := by decide +kernel
theorem dX8_vary_68 : decode cX8_vary 68 = .ok (.putfield 252, 3) := by decide +kernel
theorem dX8_vary_71 : decode cX8_vary 71 = .ok (.aload_n 3, 1) := by decide +kernel
theorem dX8_vary_72 : decode cX8_vary 72 = .ok (.getfield 252, 3) := by decide +kernel
theorem dX8_vary_75 : decode cX8_vary 75 = .ok (.ireturn, 1) := by decide +kernel
theorem dX8_exempt_0 : decode cX8_exempt 0 = .ok (.aload_n 0, 1) := by decide +kernel
theorem dX8_exempt_1 : decode cX8_exempt 1 = .ok (.iload_n 1, 1) := by decide +kernel
