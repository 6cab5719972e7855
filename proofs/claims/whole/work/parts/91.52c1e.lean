theorem dX9_thing_149 : decode cX9_thing 149 = .ok (.iload 5, 2) := by decide +kernel
theorem dX9_thing_151 : decode cX9_thing 151 = .ok (.iastore, 1) := by decide +kernel
theorem dX9_thing_152 : decode cX9_thing 152 = .ok (.iload_n 3, 1) := by decide +kernel
theorem dX9_thing_153 : decode cX9_thing 153 = .ok (.istore 8, 2) := by decide +kernel
theorem dX9_thing_155 : decode cX9_thing 155 = .ok (.iload 8, 2) := by decide +kernel
theorem dX9_thing_157 : decode cX9_thing 157 = .ok (.iload 4, 2) := by decide +kernel
theorem dX9_thing_159 : decode cX9_thing 159 = .ok (.if_icmp .gt 22, 3) := by decide +kernel
theorem dX9_thing_162 : decode cX9_thing 162 = .ok (.aload_n 0, 1) := by decide +kernel
theorem dX9_thing_163 : decode cX9_thing 163 = .ok (.getfield 40, 3) := by decide +kernel
theorem dX9_thing_166 : decode cX9_thing 166 = .ok (.bipush 40, 2) := by decide +kernel
theorem dX9_thing_168 : decode cX9_thing 168 = .ok (.iload_n 2, 1) := by decide +kernel
theorem dX9_thing_169 : decode cX9_thing 169 = .ok (.imul, 1) := by decide +kernel
theorem dX9_thing_170 : decode cX9_thing 170 = .ok (.iload 8, 2) := by decide +kernel
theorem dX9_thing_172 : decode cX9_thing 172 = .ok (.iadd, 1) := by decide +kernel
theorem dX9_thing_173 : decode cX9_thing 173 = .ok (.iconst 0, 1) := by decide +kernel
theorem dX9_thing_174 : decode cX9_thing 174 = .ok (.bastore, 1) := by decide +kernel
theorem dX9_thing_175 : decode cX9_thing 175 = .ok (.iinc 8 1, 3) := by decide +kernel
theorem dX9_thing_178 : decode cX9_thing 178 = .ok (.goto (-23), 3) := by decide +kernel
theorem dX9_thing_181 : decode cX9_thing 181 = .ok (.aload_n 0, 1) := by decide +kernel
theorem dX9_thing_182 : decode cX9_thing 182 = .ok (.dup, 1) := by decide +kernel
theorem dX9_thing_183 : decode cX9_thing 183 = .ok (.getfield 159, 3) := by decide +kernel
theorem dX9_thing_186 : decode cX9_thing 186 = .ok (.iconst 1, 1) := by decide +kernel
theorem dX9_thing_187 : decode cX9_thing 187 = .ok (.iadd, 1) := by decide +kernel
theorem dX9_thing_188 : decode cX9_thing 188 = .ok (.putfield 159, 3) := by decide +kernel
theorem dX9_thing_191 : decode cX9_thing 191 = .ok (.aload_n 0, 1) := by decide +kernel
theorem dX9_thing_192 : decode cX9_thing 192 = .ok (.getfield 159, 3) := by decide +kernel
theorem dX9_thing_195 : decode cX9_thing 195 = .ok (.iconst 1, 1) := by decide +kernel
theorem dX9_thing_196 : decode cX9_thing 196 = .ok (.isub, 1) := by decide +kernel
theorem dX9_thing_197 : decode cX9_thing 197 = .ok (.ireturn, 1) := by decide +kernel
theorem dX9_isSuspectBy_0 : decode cX9_isSuspectBy 0 = .ok (.aload_n 0, 1) := by decide +kernel
theorem dX9_isSuspectBy_1 : decode cX9_isSuspectBy 1 = .ok (.getfield 62, 3) := by decide +kernel
theorem dX9_isSuspectBy_4 : decode cX9_isSuspectBy 4 = .ok (.iload_n 1, 1) := by decide +kernel
theorem dX9_isSuspectBy_5 : decode cX9_isSuspectBy 5 = .ok (.baload, 1) := by decide +kernel
theorem dX9_isSuspectBy_6 : decode cX9_isSuspectBy 6 = .ok (.ifCond .eq 36, 3) := by decide +kernel
theorem dX9_isSuspectBy_9 : decode cX9_isSuspectBy 9 = .ok (.aload_n 0, 1) := by decide +kernel
theorem dX9_isSuspectBy_10 : decode cX9_isSuspectBy 10 = .ok (.getfield 50, 3) := by decide +kernel
theorem dX9_isSuspectBy_13 : decode cX9_isSuspectBy 13 = .ok (.iload_n 1, 1) := by decide +kernel
theorem dX9_isSuspectBy_14 : decode cX9_isSuspectBy 14 = .ok (.iaload, 1) := by decide +kernel
theorem dX9_isSuspectBy_15 : decode cX9_isSuspectBy 15 = .ok (.iload_n 2, 1) := by decide +kernel
theorem dX9_isSuspectBy_16 : decode cX9_isSuspectBy 16 = .ok (.if_icmp .ne 26, 3) := by decide +kernel
theorem dX9_isSuspectBy_19 : decode cX9_isSuspectBy 19 = .ok (.iload_n 3, 1) := by decide +kernel
theorem dX9_isSuspectBy_20 : decode cX9_isSuspectBy 20 = .ok (.aload_n 0, 1) := by decide +kernel
theorem dX9_isSuspectBy_21 : decode cX9_isSuspectBy 21 = .ok (.getfield 65, 3) := by decide +kernel
theorem dX9_isSuspectBy_24 : decode cX9_isSuspectBy 24 = .ok (.iload_n 1, 1) := by decide +kernel
theorem dX9_isSuspectBy_25 : decode cX9_isSuspectBy 25 = .ok (.iaload, 1) := by decide +kernel
theorem dX9_isSuspectBy_26 : decode cX9_isSuspectBy 26 = .ok (.aload_n 0, 1) := by decide +kernel
theorem dX9_isSuspectBy_27 : decode cX9_isSuspectBy 27 = .ok (.getfield 68, 3) := by decide +kernel
theorem dX9_isSuspectBy_30 : decode cX9_isSuspectBy 30 = .ok (.iload_n 1, 1) := by decide +kernel
theorem dX9_isSuspectBy_31 : decode cX9_isSuspectBy 31 = .ok (.iaload, 1) := by decide +kernel
theorem dX9_isSuspectBy_32 : decode cX9_isSuspectBy 32 = .ok (.invokestatic 151, 3) := by decide +kernel
theorem dX9_isSuspectBy_35 : decode cX9_isSuspectBy 35 = .ok (.ifCond .eq 7, 3) := by decide +kernel
theorem dX9_isSuspectBy_38 : decode cX9_isSuspectBy 38 = .ok (.iconst 1, 1) := by decide +kernel
theorem dX9_isSuspectBy_39 : decode cX9_isSuspectBy 39 = .ok (.goto 4, 3) := by decide +kernel
theorem dX9_isSuspectBy_42 : decode cX9_isSuspectBy 42 = .ok (.iconst 0, 1) := by decide +kernel
theorem dX9_isSuspectBy_43 : decode cX9_isSuspectBy 43 = .ok (.ireturn, 1) := by decide +kernel
theorem dX9_suspects_0 : decode cX9_suspects 0 = .ok (.iconst 0, 1) := by decide +kernel
theorem dX9_suspects_1 : decode cX9_suspects 1 = .ok (.istore_n 2, 1) := by decide +kernel
theorem dX9_suspects_2 : decode cX9_suspects 2 = .ok (.iconst 0, 1) := by decide +kernel
theorem dX9_suspects_3 : decode cX9_suspects 3 = .ok (.istore_n 3, 1) := by decide +kernel
theorem dX9_suspects_4 : decode cX9_suspects 4 = .ok (.iload_n 3, 1) := by decide +kernel
theorem dX9_suspects_5 : decode cX9_suspects 5 = .ok (.aload_n 0, 1) := by decide +kernel
theorem dX9_suspects_6 : decode cX9_suspects 6 = .ok (.getfield 7, 3) := by decide +kernel
theorem dX9_suspects_9 : decode cX9_suspects 9 = .ok (.aload_n 0, 1) := by decide +kernel
theorem dX9_suspects_10 : decode cX9_suspects 10 = .ok (.getfield 50, 3) := by decide +kernel
theorem dX9_suspects_13 : decode cX9_suspects 13 = .ok (.iload_n 1, 1) := by decide +kernel
theorem dX9_suspects_14 : decode cX9_suspects 14 = .ok (.iaload, 1) := by decide +kernel
theorem dX9_suspects_15 : decode cX9_suspects 15 = .ok (.iaload, 1) := by decide +kernel
theorem dX9_suspects_16 : decode cX9_suspects 16 = .ok (.if_icmp .ge 32, 3) := by decide +kernel
theorem dX9_suspects_19 : decode cX9_suspects 19 = .ok (.iload_n 2, 1) := by decide +kernel
theorem dX9_suspects_20 : decode cX9_suspects 20 = .ok (.aload_n 0, 1) := by decide +kernel
theorem dX9_suspects_21 : decode cX9_suspects 21 = .ok (.iload_n 1, 1) := by decide +kernel
theorem dX9_suspects_22 : decode cX9_suspects 22 = .ok (.aload_n 0, 1) := by decide +kernel
theorem dX9_suspects_23 : decode cX9_suspects 23 = .ok (.getfield 50, 3) := by decide +kernel
theorem dX9_suspects_26 : decode cX9_suspects 26 = .ok (.iload_n 1, 1) := by decide +kernel
theorem dX9_suspects_27 : decode cX9_suspects 27 = .ok (.iaload, 1) := by decide +kernel
theorem dX9_suspects_28 : decode cX9_suspects 28 = .ok (.iload_n 3, 1) := by decide +kernel
theorem dX9_suspects_29 : decode cX9_suspects 29 = .ok (.invokevirtual 192, 3) := by decide +kernel
theorem dX9_suspects_32 : decode cX9_suspects 32 = .ok (.ifCond .eq 7, 3) := by decide +kernel
theorem dX9_suspects_35 : decode cX9_suspects 35 = .ok (.iconst 1, 1) := by decide +kernel
theorem dX9_suspects_36 : decode cX9_suspects 36 = .ok (.goto 4, 3) := by decide +kernel
theorem dX9_suspects_39 : decode cX9_suspects 39 = .ok (.iconst 0, 1) := by decide +kernel
theorem dX9_suspects_40 : decode cX9_suspects 40 = .ok (.iadd, 1) := by decide +kernel
theorem dX9_suspects_41 : decode cX9_suspects 41 = .ok (.istore_n 2, 1) := by decide +kernel
theorem dX9_suspects_42 : decode cX9_suspects 42 = .ok (.iinc 3 1, 3) := by decide +kernel
theorem dX9_suspects_45 : decode cX9_suspects 45 = .ok (.goto (-41), 3) := by decide +kernel
theorem dX9_suspects_48 : decode cX9_suspects 48 = .ok (.iload_n 2, 1) := by decide +kernel
theorem dX9_suspects_49 : decode cX9_suspects 49 = .ok (.ireturn, 1) := by decide +kernel
theorem dX9_records_0 : decode cX9_records 0 = .ok (.aload_n 0, 1) := by decide +kernel
theorem dX9_records_1 : decode cX9_records 1 = .ok (.getfield 62, 3) := by decide +kernel
theorem dX9_records_4 : decode cX9_records 4 = .ok (.iload_n 1, 1) := by decide +kernel
theorem dX9_records_5 : decode cX9_records 5 = .ok (.iconst 1, 1) := by decide +kernel
theorem dX9_records_6 : decode cX9_records 6 = .ok (.bastore, 1) := by decide +kernel
theorem dX9_records_7 : decode cX9_records 7 = .ok (.aload_n 0, 1) := by decide +kernel
theorem dX9_records_8 : decode cX9_records 8 = .ok (.getfield 65, 3) := by decide +kernel
theorem dX9_records_11 : decode cX9_records 11 = .ok (.iload_n 1, 1) := by decide +kernel
theorem dX9_records_12 : decode cX9_records 12 = .ok (.iload_n 2, 1) := by decide +kernel
theorem dX9_records_13 : decode cX9_records 13 = .ok (.iload 4, 2) := by decide +kernel
theorem dX9_records_15 : decode cX9_records 15 = .ok (.isub, 1) := by decide +kernel
theorem dX9_records_16 : decode cX9_records 16 = .ok (.iastore, 1) := by decide +kernel
theorem dX9_records_17 : decode cX9_records 17 = .ok (.aload_n 0, 1) := by decide +kernel
theorem dX9_records_18 : decode cX9_records 18 = .ok (.getfield 68, 3) := by decide +kernel
theorem dX9_records_21 : decode cX9_records 21 = .ok (.iload_n 1, 1) := by decide +kernel
theorem dX9_records_22 : decode cX9_records 22 = .ok (.iload_n 3, 1) := by decide +kernel
theorem dX9_records_23 : decode cX9_records 23 = .ok (.iload 4, 2) := by decide +kernel
theorem dX9_records_25 : decode cX9_records 25 = .ok (.iadd, 1) := by decide +kernel
theorem dX9_records_26 : decode cX9_records 26 = .ok (.iastore, 1) := by decide +kernel
theorem dX9_records_27 : decode cX9_records 27 = .ok (.return_, 1) := by decide +kernel
theorem dX9_record_0 : decode cX9_record 0 = .ok (.aload_n 0, 1) := by decide +kernel
theorem dX9_record_1 : decode cX9_record 1 = .ok (.iload_n 1, 1) := by decide +kernel
theorem dX9_record_2 : decode cX9_record 2 = .ok (.invokevirtual 195, 3) := by decide +kernel
theorem dX9_record_5 : decode cX9_record 5 = .ok (.istore 5, 2) := by decide +kernel
theorem dX9_record_7 : decode cX9_record 7 = .ok (.iload 5, 2) := by decide +kernel
theorem dX9_record_9 : decode cX9_record 9 = .ok (.ifCond .eq 35, 3) := by decide +kernel
theorem dX9_record_12 : decode cX9_record 12 = .ok (.aload_n 0, 1) := by decide +kernel
theorem dX9_record_13 : decode cX9_record 13 = .ok (.aload_n 0, 1) := by decide +kernel
theorem dX9_record_14 : decode cX9_record 14 = .ok (.getfield 50, 3) := by decide +kernel
theorem dX9_record_17 : decode cX9_record 17 = .ok (.iload_n 1, 1) := by decide +kernel
theorem dX9_record_18 : decode cX9_record 18 = .ok (.iaload, 1) := by decide +kernel
theorem dX9_record_19 : decode cX9_record 19 = .ok (.iload_n 2, 1) := by decide +kernel
theorem dX9_record_20 : decode cX9_record 20 = .ok (.invokevirtual 188, 3) := by decide +kernel
theorem dX9_record_23 : decode cX9_record 23 = .ok (.ifCond .eq 21, 3) := by decide +kernel
theorem dX9_record_26 : decode cX9_record 26 = .ok (.aload_n 0, 1) := by decide +kernel
theorem dX9_record_27 : decode cX9_record 27 = .ok (.aload_n 0, 1) := by decide +kernel
theorem dX9_record_28 : decode cX9_record 28 = .ok (.getfield 50, 3) := by decide +kernel
theorem dX9_record_31 : decode cX9_record 31 = .ok (.iload_n 1, 1) := by decide +kernel
theorem dX9_record_32 : decode cX9_record 32 = .ok (.iaload, 1) := by decide +kernel
theorem dX9_record_33 : decode cX9_record 33 = .ok (.iload_n 3, 1) := by decide +kernel
theorem dX9_record_34 : decode cX9_record 34 = .ok (.invokevirtual 188, 3) := by decide +kernel
theorem dX9_record_37 : decode cX9_record 37 = .ok (.ifCond .eq 7, 3) := by decide +kernel
theorem dX9_record_40 : decode cX9_record 40 = .ok (.iconst 1, 1) := by decide +kernel
theorem dX9_record_41 : decode cX9_record 41 = .ok (.goto 4, 3) := by decide +kernel
theorem dX9_record_44 : decode cX9_record 44 = .ok (.iconst 0, 1) := by decide +kernel
theorem dX9_record_45 : decode cX9_record 45 = .ok (.istore 6, 2) := by decide +kernel
theorem dX9_record_47 : decode cX9_record 47 = .ok (.aload_n 0, 1) := by decide +kernel
theorem dX9_record_48 : decode cX9_record 48 = .ok (.iload 6, 2) := by decide +kernel
theorem dX9_record_50 : decode cX9_record 50 = .ok (.ifCond .ne 7, 3) := by decide +kernel
theorem dX9_record_53 : decode cX9_record 53 = .ok (.iconst 1, 1) := by decide +kernel
theorem dX9_record_54 : decode cX9_record 54 = .ok (.goto 23, 3) := by decide +kernel
theorem dX9_record_57 : decode cX9_record 57 = .ok (.iload_n 3, 1) := by decide +kernel
theorem dX9_record_58 : decode cX9_record 58 = .ok (.iload_n 2, 1) := by decide +kernel
theorem dX9_record_59 : decode cX9_record 59 = .ok (.if_icmp .lt 13, 3) := by decide +kernel
theorem dX9_record_62 : decode cX9_record 62 = .ok (.iload 4, 2) := by decide +kernel
theorem dX9_record_64 : decode cX9_record 64 = .ok (.iconst 0, 1) := by decide +kernel
theorem dX9_record_65 : decode cX9_record 65 = .ok (.iconst 3, 1) := by decide +kernel
theorem dX9_record_66 : decode cX9_record 66 = .ok (.invokestatic 151, 3) := by decide +kernel
theorem dX9_record_69 : decode cX9_record 69 = .ok (.ifCond .ne 7, 3) := by decide +kernel
theorem dX9_record_72 : decode cX9_record 72 = .ok (.iconst 2, 1) := by decide +kernel
theorem dX9_record_73 : decode cX9_record 73 = .ok (.goto 4, 3) := by decide +kernel
theorem dX9_record_76 : decode cX9_record 76 = .ok (.iconst 0, 1) := by decide +kernel
theorem dX9_record_77 : decode cX9_record 77 = .ok (.invokevirtual 168, 3) := by decide +kernel
theorem dX9_record_80 : decode cX9_record 80 = .ok (.ifCond .ne 5, 3) := by decide +kernel
theorem dX9_record_83 : decode cX9_record 83 = .ok (.iconst 0, 1) := by decide +kernel
theorem dX9_record_84 : decode cX9_record 84 = .ok (.ireturn, 1) := by decide +kernel
theorem dX9_record_85 : decode cX9_record 85 = .ok (.aload_n 0, 1) := by decide +kernel
theorem dX9_record_86 : decode cX9_record 86 = .ok (.iload_n 1, 1) := by decide +kernel
theorem dX9_record_87 : decode cX9_record 87 = .ok (.iload_n 2, 1) := by decide +kernel
theorem dX9_record_88 : decode cX9_record 88 = .ok (.iload_n 3, 1) := by decide +kernel
theorem dX9_record_89 : decode cX9_record 89 = .ok (.iload 4, 2) := by decide +kernel
theorem dX9_record_91 : decode cX9_record 91 = .ok (.invokevirtual 198, 3) := by decide +kernel
theorem dX9_record_94 : decode cX9_record 94 = .ok (.aload_n 0, 1) := by decide +kernel
theorem dX9_record_95 : decode cX9_record 95 = .ok (.iload_n 1, 1) := by decide +kernel
theorem dX9_record_96 : decode cX9_record 96 = .ok (.invokevirtual 202, 3) := by decide +kernel
theorem dX9_record_99 : decode cX9_record 99 = .ok (.ireturn, 1) := by decide +kernel
theorem dX9_lose_0 : decode cX9_lose 0 = .ok (.aload_n 0, 1) := by decide +kernel
theorem dX9_lose_1 : decode cX9_lose 1 = .ok (.aload_n 0, 1) := by decide +kernel
theorem dX9_lose_2 : decode cX9_lose 2 = .ok (.iload_n 1, 1) := by decide +kernel
theorem dX9_lose_3 : decode cX9_lose 3 = .ok (.invokevirtual 195, 3) := by decide +kernel
theorem dX9_lose_6 : decode cX9_lose 6 = .ok (.ifCond .eq 7, 3) := by decide +kernel
theorem dX9_lose_9 : decode cX9_lose 9 = .ok (.iconst 0, 1) := by decide +kernel
theorem dX9_lose_10 : decode cX9_lose 10 = .ok (.goto 4, 3) := by decide +kernel
theorem dX9_lose_13 : decode cX9_lose 13 = .ok (.iconst 1, 1) := by decide +kernel
theorem dX9_lose_14 : decode cX9_lose 14 = .ok (.invokevirtual 168, 3) := by decide +kernel
theorem dX9_lose_17 : decode cX9_lose 17 = .ok (.ifCond .ne 5, 3) := by decide +kernel
theorem dX9_lose_20 : decode cX9_lose 20 = .ok (.iconst 0, 1) := by decide +kernel
theorem dX9_lose_21 : decode cX9_lose 21 = .ok (.ireturn, 1) := by decide +kernel
theorem dX9_lose_22 : decode cX9_lose 22 = .ok (.aload_n 0, 1) := by decide +kernel
theorem dX9_lose_23 : decode cX9_lose 23 = .ok (.getfield 62, 3) := by decide +kernel
theorem dX9_lose_26 : decode cX9_lose 26 = .ok (.iload_n 1, 1) := by decide +kernel
theorem dX9_lose_27 : decode cX9_lose 27 = .ok (.baload, 1) := by decide +kernel
theorem dX9_lose_28 : decode cX9_lose 28 = .ok (.istore_n 2, 1) := by decide +kernel
theorem dX9_lose_29 : decode cX9_lose 29 = .ok (.aload_n 0, 1) := by decide +kernel
theorem dX9_lose_30 : decode cX9_lose 30 = .ok (.getfield 62, 3) := by decide +kernel
theorem dX9_lose_33 : decode cX9_lose 33 = .ok (.iload_n 1, 1) := by decide +kernel
theorem dX9_lose_34 : decode cX9_lose 34 = .ok (.iconst 0, 1) := by decide +kernel
theorem dX9_lose_35 : decode cX9_lose 35 = .ok (.bastore, 1) := by decide +kernel
theorem dX9_lose_36 : decode cX9_lose 36 = .ok (.iload_n 2, 1) := by decide +kernel
theorem dX9_lose_37 : decode cX9_lose 37 = .ok (.ireturn, 1) := by decide +kernel
theorem dX9_survey_0 : decode cX9_survey 0 = .ok (.aload_n 0, 1) := by decide +kernel
theorem dX9_survey_1 : decode cX9_survey 1 = .ok (.iload_n 1, 1) := by decide +kernel
theorem dX9_survey_2 : decode cX9_survey 2 = .ok (.invokevirtual 195, 3) := by decide +kernel
theorem dX9_survey_5 : decode cX9_survey 5 = .ok (.istore_n 2, 1) := by decide +kernel
theorem dX9_survey_6 : decode cX9_survey 6 = .ok (.iconst 0, 1) := by decide +kernel
theorem dX9_survey_7 : decode cX9_survey 7 = .ok (.istore_n 3, 1) := by decide +kernel
theorem dX9_survey_8 : decode cX9_survey 8 = .ok (.iconst 0, 1) := by decide +kernel
theorem dX9_survey_9 : decode cX9_survey 9 = .ok (.istore 4, 2) := by decide +kernel
theorem dX9_survey_11 : decode cX9_survey 11 = .ok (.iload 4, 2) := by decide +kernel
theorem dX9_survey_13 : decode cX9_survey 13 = .ok (.bipush 40, 2) := by decide +kernel
theorem dX9_survey_15 : decode cX9_survey 15 = .ok (.if_icmp .ge 63, 3) := by decide +kernel
theorem dX9_survey_18 : decode cX9_survey 18 = .ok (.iload_n 2, 1) := by decide +kernel
theorem dX9_survey_19 : decode cX9_survey 19 = .ok (.ifCond .eq 59, 3) := by decide +kernel
theorem dX9_survey_22 : decode cX9_survey 22 = .ok (.iload_n 3, 1) := by decide +kernel
theorem dX9_survey_23 : decode cX9_survey 23 = .ok (.ifCond .ne 43, 3) := by decide +kernel
theorem dX9_survey_26 : decode cX9_survey 26 = .ok (.iload 4, 2) := by decide +kernel
theorem dX9_survey_28 : decode cX9_survey 28 = .ok (.aload_n 0, 1) := by decide +kernel
theorem dX9_survey_29 : decode cX9_survey 29 = .ok (.getfield 53, 3) := by decide +kernel
theorem dX9_survey_32 : decode cX9_survey 32 = .ok (.iload_n 1, 1) := by decide +kernel
theorem dX9_survey_33 : decode cX9_survey 33 = .ok (.iaload, 1) := by decide +kernel
theorem dX9_survey_34 : decode cX9_survey 34 = .ok (.aload_n 0, 1) := by decide +kernel
theorem dX9_survey_35 : decode cX9_survey 35 = .ok (.getfield 56, 3) := by decide +kernel
theorem dX9_survey_38 : decode cX9_survey 38 = .ok (.iload_n 1, 1) := by decide +kernel
theorem dX9_survey_39 : decode cX9_survey 39 = .ok (.iaload, 1) := by decide +kernel
theorem dX9_survey_40 : decode cX9_survey 40 = .ok (.invokestatic 151, 3) := by decide +kernel
theorem dX9_survey_43 : decode cX9_survey 43 = .ok (.ifCond .eq 27, 3) := by decide +kernel
theorem dX9_survey_46 : decode cX9_survey 46 = .ok (.aload_n 0, 1) := by decide +kernel
theorem dX9_survey_47 : decode cX9_survey 47 = .ok (.getfield 40, 3) := by decide +kernel
theorem dX9_survey_50 : decode cX9_survey 50 = .ok (.bipush 40, 2) := by decide +kernel
theorem dX9_survey_52 : decode cX9_survey 52 = .ok (.aload_n 0, 1) := by decide +kernel
theorem dX9_survey_53 : decode cX9_survey 53 = .ok (.getfield 50, 3) := by decide +kernel
theorem dX9_survey_56 : decode cX9_survey 56 = .ok (.iload_n 1, 1) := by decide +kernel
theorem dX9_survey_57 : decode cX9_survey 57 = .ok (.iaload, 1) := by decide +kernel
theorem dX9_survey_58 : decode cX9_survey 58 = .ok (.imul, 1) := by decide +kernel
theorem dX9_survey_59 : decode cX9_survey 59 = .ok (.iload 4, 2) := by decide +kernel
theorem dX9_survey_61 : decode cX9_survey 61 = .ok (.iadd, 1) := by decide +kernel
theorem dX9_survey_62 : decode cX9_survey 62 = .ok (.baload, 1) := by decide +kernel
theorem dX9_survey_63 : decode cX9_survey 63 = .ok (.ifCond .eq 7, 3) := by decide +kernel
theorem dX9_survey_66 : decode cX9_survey 66 = .ok (.iconst 1, 1) := by decide +kernel
theorem dX9_survey_67 : decode cX9_survey 67 = .ok (.goto 4, 3) := by decide +kernel
theorem dX9_survey_70 : decode cX9_survey 70 = .ok (.iconst 0, 1) := by decide +kernel
theorem dX9_survey_71 : decode cX9_survey 71 = .ok (.istore_n 3, 1) := by decide +kernel
theorem dX9_survey_72 : decode cX9_survey 72 = .ok (.iinc 4 1, 3) := by decide +kernel
theorem dX9_survey_75 : decode cX9_survey 75 = .ok (.goto (-64), 3) := by decide +kernel
theorem dX9_survey_78 : decode cX9_survey 78 = .ok (.aload_n 0, 1) := by decide +kernel
theorem dX9_survey_79 : decode cX9_survey 79 = .ok (.iload_n 2, 1) := by decide +kernel
theorem dX9_survey_80 : decode cX9_survey 80 = .ok (.ifCond .ne 7, 3) := by decide +kernel
theorem dX9_survey_83 : decode cX9_survey 83 = .ok (.iconst 1, 1) := by decide +kernel
theorem dX9_survey_84 : decode cX9_survey 84 = .ok (.goto 12, 3) := by decide +kernel
theorem dX9_survey_87 : decode cX9_survey 87 = .ok (.iload_n 3, 1) := by decide +kernel
theorem dX9_survey_88 : decode cX9_survey 88 = .ok (.ifCond .eq 7, 3) := by decide +kernel
theorem dX9_survey_91 : decode cX9_survey 91 = .ok (.iconst 0, 1) := by decide +kernel
theorem dX9_survey_92 : decode cX9_survey 92 = .ok (.goto 4, 3) := by decide +kernel
theorem dX9_survey_95 : decode cX9_survey 95 = .ok (.iconst 2, 1) := by decide +kernel
theorem dX9_survey_96 : decode cX9_survey 96 = .ok (.invokevirtual 168, 3) := by decide +kernel
theorem dX9_survey_99 : decode cX9_survey 99 = .ok (.ifCond .ne 5, 3) := by decide +kernel
theorem dX9_survey_102 : decode cX9_survey 102 = .ok (.iconst 0, 1) := by decide +kernel
theorem dX9_survey_103 : decode cX9_survey 103 = .ok (.ireturn, 1) := by decide +kernel
theorem dX9_survey_104 : decode cX9_survey 104 = .ok (.aload_n 0, 1) := by decide +kernel
theorem dX9_survey_105 : decode cX9_survey 105 = .ok (.iload_n 1, 1) := by decide +kernel
theorem dX9_survey_106 : decode cX9_survey 106 = .ok (.invokevirtual 202, 3) := by decide +kernel
theorem dX9_survey_109 : decode cX9_survey 109 = .ok (.istore 4, 2) := by decide +kernel
theorem dX9_survey_111 : decode cX9_survey 111 = .ok (.aload_n 0, 1) := by decide +kernel
theorem dX9_survey_112 : decode cX9_survey 112 = .ok (.iload_n 1, 1) := by decide +kernel
theorem dX9_survey_113 : decode cX9_survey 113 = .ok (.aload_n 0, 1) := by decide +kernel
theorem dX9_survey_114 : decode cX9_survey 114 = .ok (.getfield 53, 3) := by decide +kernel
theorem dX9_survey_117 : decode cX9_survey 117 = .ok (.iload_n 1, 1) := by decide +kernel
theorem dX9_survey_118 : decode cX9_survey 118 = .ok (.iaload, 1) := by decide +kernel
theorem dX9_survey_119 : decode cX9_survey 119 = .ok (.aload_n 0, 1) := by decide +kernel
theorem dX9_survey_120 : decode cX9_survey 120 = .ok (.getfield 56, 3) := by decide +kernel
theorem dX9_survey_123 : decode cX9_survey 123 = .ok (.iload_n 1, 1) := by decide +kernel
theorem dX9_survey_124 : decode cX9_survey 124 = .ok (.iaload, 1) := by decide +kernel
theorem dX9_survey_125 : decode cX9_survey 125 = .ok (.iconst 0, 1) := by decide +kernel
theorem dX9_survey_126 : decode cX9_survey 126 = .ok (.invokevirtual 198, 3) := by decide +kernel
theorem dX9_survey_129 : decode cX9_survey 129 = .ok (.iload 4, 2) := by decide +kernel
theorem dX9_survey_131 : decode cX9_survey 131 = .ok (.ireturn, 1) := by decide +kernel
theorem dX9_lies_0 : decode cX9_lies 0 = .ok (.aload_n 0, 1) := by decide +kernel
theorem dX9_lies_1 : decode cX9_lies 1 = .ok (.getfield 50, 3) := by decide +kernel
theorem dX9_lies_4 : decode cX9_lies 4 = .ok (.iload_n 1, 1) := by decide +kernel
theorem dX9_lies_5 : decode cX9_lies 5 = .ok (.iaload, 1) := by decide +kernel
theorem dX9_lies_6 : decode cX9_lies 6 = .ok (.iload_n 2, 1) := by decide +kernel
theorem dX9_lies_7 : decode cX9_lies 7 = .ok (.if_icmp .ne 26, 3) := by decide +kernel
theorem dX9_lies_10 : decode cX9_lies 10 = .ok (.iload_n 3, 1) := by decide +kernel
theorem dX9_lies_11 : decode cX9_lies 11 = .ok (.aload_n 0, 1) := by decide +kernel
theorem dX9_lies_12 : decode cX9_lies 12 = .ok (.getfield 53, 3) := by decide +kernel
theorem dX9_lies_15 : decode cX9_lies 15 = .ok (.iload_n 1, 1) := by decide +kernel
theorem dX9_lies_16 : decode cX9_lies 16 = .ok (.iaload, 1) := by decide +kernel
theorem dX9_lies_17 : decode cX9_lies 17 = .ok (.aload_n 0, 1) := by decide +kernel
theorem dX9_lies_18 : decode cX9_lies 18 = .ok (.getfield 56, 3) := by decide +kernel
theorem dX9_lies_21 : decode cX9_lies 21 = .ok (.iload_n 1, 1) := by decide +kernel
theorem dX9_lies_22 : decode cX9_lies 22 = .ok (.iaload, 1) := by decide +kernel
theorem dX9_lies_23 : decode cX9_lies 23 = .ok (.invokestatic 151, 3) := by decide +kernel
theorem dX9_lies_26 : decode cX9_lies 26 = .ok (.ifCond .eq 7, 3) := by decide +kernel
theorem dX9_lies_29 : decode cX9_lies 29 = .ok (.iconst 1, 1) := by decide +kernel
theorem dX9_lies_30 : decode cX9_lies 30 = .ok (.goto 4, 3) := by decide +kernel
theorem dX9_lies_33 : decode cX9_lies 33 = .ok (.iconst 0, 1) := by decide +kernel
theorem dX9_lies_34 : decode cX9_lies 34 = .ok (.ireturn, 1) := by decide +kernel
theorem dX9_trial_0 : decode cX9_trial 0 = .ok (.aload_n 0, 1) := by decide +kernel
theorem dX9_trial_1 : decode cX9_trial 1 = .ok (.aload_n 0, 1) := by decide +kernel
theorem dX9_trial_2 : decode cX9_trial 2 = .ok (.iload_n 1, 1) := by decide +kernel
theorem dX9_trial_3 : decode cX9_trial 3 = .ok (.iload_n 2, 1) := by decide +kernel
theorem dX9_trial_4 : decode cX9_trial 4 = .ok (.invokevirtual 188, 3) := by decide +kernel
theorem dX9_trial_7 : decode cX9_trial 7 = .ok (.ifCond .eq 7, 3) := by decide +kernel
theorem dX9_trial_10 : decode cX9_trial 10 = .ok (.iconst 0, 1) := by decide +kernel
theorem dX9_trial_11 : decode cX9_trial 11 = .ok (.goto 4, 3) := by decide +kernel
theorem dX9_trial_14 : decode cX9_trial 14 = .ok (.iconst 1, 1) := by decide +kernel
theorem dX9_trial_15 : decode cX9_trial 15 = .ok (.invokevirtual 168, 3) := by decide +kernel
theorem dX9_trial_18 : decode cX9_trial 18 = .ok (.ifCond .ne 5, 3) := by decide +kernel
theorem dX9_trial_21 : decode cX9_trial 21 = .ok (.iconst 0, 1) := by decide +kernel
theorem dX9_trial_22 : decode cX9_trial 22 = .ok (.ireturn, 1) := by decide +kernel
theorem dX9_trial_23 : decode cX9_trial 23 = .ok (.aload_n 0, 1) := by decide +kernel
theorem dX9_trial_24 : decode cX9_trial 24 = .ok (.getfield 40, 3) := by decide +kernel
theorem dX9_trial_27 : decode cX9_trial 27 = .ok (.bipush 40, 2) := by decide +kernel
theorem dX9_trial_29 : decode cX9_trial 29 = .ok (.iload_n 1, 1) := by decide +kernel
theorem dX9_trial_30 : decode cX9_trial 30 = .ok (.imul, 1) := by decide +kernel
theorem dX9_trial_31 : decode cX9_trial 31 = .ok (.iload_n 2, 1) := by decide +kernel
theorem dX9_trial_32 : decode cX9_trial 32 = .ok (.iadd, 1) := by decide +kernel
theorem dX9_trial_33 : decode cX9_trial 33 = .ok (.iconst 1, 1) := by decide +kernel
theorem dX9_trial_34 : decode cX9_trial 34 = .ok (.bastore, 1) := by decide +kernel
theorem dX9_trial_35 : decode cX9_trial 35 = .ok (.iconst 0, 1) := by decide +kernel
theorem dX9_trial_36 : decode cX9_trial 36 = .ok (.istore_n 3, 1) := by decide +kernel
theorem dX9_trial_37 : decode cX9_trial 37 = .ok (.iconst 0, 1) := by decide +kernel
theorem dX9_trial_38 : decode cX9_trial 38 = .ok (.istore 4, 2) := by decide +kernel
theorem dX9_trial_40 : decode cX9_trial 40 = .ok (.iload 4, 2) := by decide +kernel
theorem dX9_trial_42 : decode cX9_trial 42 = .ok (.aload_n 0, 1) := by decide +kernel
theorem dX9_trial_43 : decode cX9_trial 43 = .ok (.getfield 159, 3) := by decide +kernel
theorem dX9_trial_46 : decode cX9_trial 46 = .ok (.if_icmp .ge 28, 3) := by decide +kernel
theorem dX9_trial_49 : decode cX9_trial 49 = .ok (.iload_n 3, 1) := by decide +kernel
theorem dX9_trial_50 : decode cX9_trial 50 = .ok (.aload_n 0, 1) := by decide +kernel
theorem dX9_trial_51 : decode cX9_trial 51 = .ok (.iload 4, 2) := by decide +kernel
theorem dX9_trial_53 : decode cX9_trial 53 = .ok (.iload_n 1, 1) := by decide +kernel
theorem dX9_trial_54 : decode cX9_trial 54 = .ok (.iload_n 2, 1) := by decide +kernel
theorem dX9_trial_55 : decode cX9_trial 55 = .ok (.invokevirtual 205, 3) := by decide +kernel
theorem dX9_trial_58 : decode cX9_trial 58 = .ok (.ifCond .eq 7, 3) := by decide +kernel
theorem dX9_trial_61 : decode cX9_trial 61 = .ok (.iconst 1, 1) := by decide +kernel
theorem dX9_trial_62 : decode cX9_trial 62 = .ok (.goto 4, 3) := by decide +kernel
theorem dX9_trial_65 : decode cX9_trial 65 = .ok (.iconst 0, 1) := by decide +kernel
theorem dX9_trial_66 : decode cX9_trial 66 = .ok (.iadd, 1) := by decide +kernel
theorem dX9_trial_67 : decode cX9_trial 67 = .ok (.istore_n 3, 1) := by decide +kernel
theorem dX9_trial_68 : decode cX9_trial 68 = .ok (.iinc 4 1, 3) := by decide +kernel
theorem dX9_trial_71 : decode cX9_trial 71 = .ok (.goto (-31), 3) := by decide +kernel
theorem dX9_trial_74 : decode cX9_trial 74 = .ok (.iload_n 3, 1) := by decide +kernel
theorem dX9_trial_75 : decode cX9_trial 75 = .ok (.ireturn, 1) := by decide +kernel
theorem dX9_lastDay_0 : decode cX9_lastDay 0 = .ok (.aload_n 0, 1) := by decide +kernel
theorem dX9_lastDay_1 : decode cX9_lastDay 1 = .ok (.getfield 89, 3) := by decide +kernel
theorem dX9_lastDay_4 : decode cX9_lastDay 4 = .ok (.iload_n 1, 1) := by decide +kernel
theorem dX9_lastDay_5 : decode cX9_lastDay 5 = .ok (.iaload, 1) := by decide +kernel
theorem dX9_lastDay_6 : decode cX9_lastDay 6 = .ok (.aload_n 0, 1) := by decide +kernel
theorem dX9_lastDay_7 : decode cX9_lastDay 7 = .ok (.getfield 92, 3) := by decide +kernel
theorem dX9_lastDay_10 : decode cX9_lastDay 10 = .ok (.iload_n 1, 1) := by decide +kernel
theorem dX9_lastDay_11 : decode cX9_lastDay 11 = .ok (.iaload, 1) := by decide +kernel
theorem dX9_lastDay_12 : decode cX9_lastDay 12 = .ok (.iadd, 1) := by decide +kernel
theorem dX9_lastDay_13 : decode cX9_lastDay 13 = .ok (.iconst 1, 1) := by decide +kernel
theorem dX9_lastDay_14 : decode cX9_lastDay 14 = .ok (.isub, 1) := by decide +kernel
theorem dX9_lastDay_15 : decode cX9_lastDay 15 = .ok (.ireturn, 1) := by decide +kernel
theorem dX9_lastOf_0 : decode cX9_lastOf 0 = .ok (.aload_n 0, 1) := by decide +kernel
theorem dX9_lastOf_1 : decode cX9_lastOf 1 = .ok (.getfield 98, 3) := by decide +kernel
theorem dX9_lastOf_4 : decode cX9_lastOf 4 = .ok (.iload_n 1, 1) := by decide +kernel
theorem dX9_lastOf_5 : decode cX9_lastOf 5 = .ok (.iaload, 1) := by decide +kernel
theorem dX9_lastOf_6 : decode cX9_lastOf 6 = .ok (.iconst 3, 1) := by decide +kernel
theorem dX9_lastOf_7 : decode cX9_lastOf 7 = .ok (.if_icmp .ne 19, 3) := by decide +kernel
theorem dX9_lastOf_10 : decode cX9_lastOf 10 = .ok (.aload_n 0, 1) := by decide +kernel
theorem dX9_lastOf_11 : decode cX9_lastOf 11 = .ok (.iload_n 1, 1) := by decide +kernel
theorem dX9_lastOf_12 : decode cX9_lastOf 12 = .ok (.invokevirtual 208, 3) := by decide +kernel
theorem dX9_lastOf_15 : decode cX9_lastOf 15 = .ok (.aload_n 0, 1) := by decide +kernel
theorem dX9_lastOf_16 : decode cX9_lastOf 16 = .ok (.invokevirtual 175, 3) := by decide +kernel
theorem dX9_lastOf_19 : decode cX9_lastOf 19 = .ok (.if_icmp .ge 7, 3) := by decide +kernel
theorem dX9_lastOf_22 : decode cX9_lastOf 22 = .ok (.iconst 1, 1) := by decide +kernel
theorem dX9_lastOf_23 : decode cX9_lastOf 23 = .ok (.goto 4, 3) := by decide +kernel
theorem dX9_lastOf_26 : decode cX9_lastOf 26 = .ok (.iconst 0, 1) := by decide +kernel
theorem dX9_lastOf_27 : decode cX9_lastOf 27 = .ok (.istore_n 2, 1) := by decide +kernel
theorem dX9_lastOf_28 : decode cX9_lastOf 28 = .ok (.iload_n 2, 1) := by decide +kernel
theorem dX9_lastOf_29 : decode cX9_lastOf 29 = .ok (.ifCond .eq 10, 3) := by decide +kernel
theorem dX9_lastOf_32 : decode cX9_lastOf 32 = .ok (.aload_n 0, 1) := by decide +kernel
theorem dX9_lastOf_33 : decode cX9_lastOf 33 = .ok (.invokevirtual 175, 3) := by decide +kernel
theorem dX9_lastOf_36 : decode cX9_lastOf 36 = .ok (.goto 8, 3) := by decide +kernel
theorem dX9_lastOf_39 : decode cX9_lastOf 39 = .ok (.aload_n 0, 1) := by decide +kernel
