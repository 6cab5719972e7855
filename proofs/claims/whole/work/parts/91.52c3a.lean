theorem dL_surface_9 : decode cL_surface 9 = .ok (.goto 9, 3) := by decide +kernel
theorem dL_surface_12 : decode cL_surface 12 = .ok (.astore_n 3, 1) := by decide +kernel
theorem dL_surface_13 : decode cL_surface 13 = .ok (.iconst 1, 1) := by decide +kernel
theorem dL_surface_14 : decode cL_surface 14 = .ok (.ireturn, 1) := by decide +kernel
theorem dL_surface_15 : decode cL_surface 15 = .ok (.astore_n 3, 1) := by decide +kernel
theorem dL_surface_16 : decode cL_surface 16 = .ok (.iconst 2, 1) := by decide +kernel
theorem dL_surface_17 : decode cL_surface 17 = .ok (.ireturn, 1) := by decide +kernel
theorem dL_surface_18 : decode cL_surface 18 = .ok (.iconst 0, 1) := by decide +kernel
theorem dL_surface_19 : decode cL_surface 19 = .ok (.ireturn, 1) := by decide +kernel
theorem dL_embargo_0 : decode cL_embargo 0 = .ok (.aload 4, 2) := by decide +kernel
theorem dL_embargo_2 : decode cL_embargo 2 = .ok (.iconst 0, 1) := by decide +kernel
theorem dL_embargo_3 : decode cL_embargo 3 = .ok (.aload_n 0, 1) := by decide +kernel
theorem dL_embargo_4 : decode cL_embargo 4 = .ok (.iload_n 1, 1) := by decide +kernel
theorem dL_embargo_5 : decode cL_embargo 5 = .ok (.iload_n 2, 1) := by decide +kernel
theorem dL_embargo_6 : decode cL_embargo 6 = .ok (.iload_n 3, 1) := by decide +kernel
theorem dL_embargo_7 : decode cL_embargo 7 = .ok (.invokevirtual 23, 3) := by decide +kernel
theorem dL_embargo_10 : decode cL_embargo 10 = .ok (.i2l, 1) := by decide +kernel
theorem dL_embargo_11 : decode cL_embargo 11 = .ok (.lastore, 1) := by decide +kernel
theorem dL_embargo_12 : decode cL_embargo 12 = .ok (.goto 11, 3) := by decide +kernel
theorem dL_embargo_15 : decode cL_embargo 15 = .ok (.astore 5, 2) := by decide +kernel
theorem dL_embargo_17 : decode cL_embargo 17 = .ok (.iconst 1, 1) := by decide +kernel
theorem dL_embargo_18 : decode cL_embargo 18 = .ok (.ireturn, 1) := by decide +kernel
theorem dL_embargo_19 : decode cL_embargo 19 = .ok (.astore 5, 2) := by decide +kernel
theorem dL_embargo_21 : decode cL_embargo 21 = .ok (.iconst 2, 1) := by decide +kernel
theorem dL_embargo_22 : decode cL_embargo 22 = .ok (.ireturn, 1) := by decide +kernel
theorem dL_embargo_23 : decode cL_embargo 23 = .ok (.iconst 0, 1) := by decide +kernel
theorem dL_embargo_24 : decode cL_embargo 24 = .ok (.ireturn, 1) := by decide +kernel
theorem dL_thing_0 : decode cL_thing 0 = .ok (.aload 6, 2) := by decide +kernel
theorem dL_thing_2 : decode cL_thing 2 = .ok (.iconst 0, 1) := by decide +kernel
theorem dL_thing_3 : decode cL_thing 3 = .ok (.aload_n 0, 1) := by decide +kernel
theorem dL_thing_4 : decode cL_thing 4 = .ok (.iload_n 1, 1) := by decide +kernel
theorem dL_thing_5 : decode cL_thing 5 = .ok (.iload_n 2, 1) := by decide +kernel
theorem dL_thing_6 : decode cL_thing 6 = .ok (.iload_n 3, 1) := by decide +kernel
theorem dL_thing_7 : decode cL_thing 7 = .ok (.iload 4, 2) := by decide +kernel
theorem dL_thing_9 : decode cL_thing 9 = .ok (.iload 5, 2) := by decide +kernel
theorem dL_thing_11 : decode cL_thing 11 = .ok (.invokevirtual 27, 3) := by decide +kernel
theorem dL_thing_14 : decode cL_thing 14 = .ok (.i2l, 1) := by decide +kernel
theorem dL_thing_15 : decode cL_thing 15 = .ok (.lastore, 1) := by decide +kernel
theorem dL_thing_16 : decode cL_thing 16 = .ok (.goto 15, 3) := by decide +kernel
theorem dL_thing_19 : decode cL_thing 19 = .ok (.astore 7, 2) := by decide +kernel
theorem dL_thing_21 : decode cL_thing 21 = .ok (.iconst 1, 1) := by decide +kernel
theorem dL_thing_22 : decode cL_thing 22 = .ok (.ireturn, 1) := by decide +kernel
theorem dL_thing_23 : decode cL_thing 23 = .ok (.astore 7, 2) := by decide +kernel
theorem dL_thing_25 : decode cL_thing 25 = .ok (.iconst 2, 1) := by decide +kernel
theorem dL_thing_26 : decode cL_thing 26 = .ok (.ireturn, 1) := by decide +kernel
theorem dL_thing_27 : decode cL_thing 27 = .ok (.astore 7, 2) := by decide +kernel
theorem dL_thing_29 : decode cL_thing 29 = .ok (.iconst 3, 1) := by decide +kernel
theorem dL_thing_30 : decode cL_thing 30 = .ok (.ireturn, 1) := by decide +kernel
theorem dL_thing_31 : decode cL_thing 31 = .ok (.iconst 0, 1) := by decide +kernel
theorem dL_thing_32 : decode cL_thing 32 = .ok (.ireturn, 1) := by decide +kernel
theorem dL_record_0 : decode cL_record 0 = .ok (.aload 5, 2) := by decide +kernel
theorem dL_record_2 : decode cL_record 2 = .ok (.iconst 0, 1) := by decide +kernel
theorem dL_record_3 : decode cL_record 3 = .ok (.aload_n 0, 1) := by decide +kernel
theorem dL_record_4 : decode cL_record 4 = .ok (.iload_n 1, 1) := by decide +kernel
theorem dL_record_5 : decode cL_record 5 = .ok (.iload_n 2, 1) := by decide +kernel
theorem dL_record_6 : decode cL_record 6 = .ok (.iload_n 3, 1) := by decide +kernel
theorem dL_record_7 : decode cL_record 7 = .ok (.iload 4, 2) := by decide +kernel
theorem dL_record_9 : decode cL_record 9 = .ok (.invokevirtual 31, 3) := by decide +kernel
theorem dL_record_12 : decode cL_record 12 = .ok (.i2l, 1) := by decide +kernel
theorem dL_record_13 : decode cL_record 13 = .ok (.lastore, 1) := by decide +kernel
theorem dL_record_14 : decode cL_record 14 = .ok (.goto 11, 3) := by decide +kernel
theorem dL_record_17 : decode cL_record 17 = .ok (.astore 6, 2) := by decide +kernel
theorem dL_record_19 : decode cL_record 19 = .ok (.iconst 1, 1) := by decide +kernel
theorem dL_record_20 : decode cL_record 20 = .ok (.ireturn, 1) := by decide +kernel
theorem dL_record_21 : decode cL_record 21 = .ok (.astore 6, 2) := by decide +kernel
theorem dL_record_23 : decode cL_record 23 = .ok (.iconst 2, 1) := by decide +kernel
theorem dL_record_24 : decode cL_record 24 = .ok (.ireturn, 1) := by decide +kernel
theorem dL_record_25 : decode cL_record 25 = .ok (.iconst 0, 1) := by decide +kernel
theorem dL_record_26 : decode cL_record 26 = .ok (.ireturn, 1) := by decide +kernel
theorem dL_lose_0 : decode cL_lose 0 = .ok (.aload_n 2, 1) := by decide +kernel
theorem dL_lose_1 : decode cL_lose 1 = .ok (.iconst 0, 1) := by decide +kernel
theorem dL_lose_2 : decode cL_lose 2 = .ok (.aload_n 0, 1) := by decide +kernel
theorem dL_lose_3 : decode cL_lose 3 = .ok (.iload_n 1, 1) := by decide +kernel
theorem dL_lose_4 : decode cL_lose 4 = .ok (.invokevirtual 34, 3) := by decide +kernel
theorem dL_lose_7 : decode cL_lose 7 = .ok (.ifCond .eq 7, 3) := by decide +kernel
theorem dL_lose_10 : decode cL_lose 10 = .ok (.lconst 1, 1) := by decide +kernel
theorem dL_lose_11 : decode cL_lose 11 = .ok (.goto 4, 3) := by decide +kernel
theorem dL_lose_14 : decode cL_lose 14 = .ok (.lconst 0, 1) := by decide +kernel
theorem dL_lose_15 : decode cL_lose 15 = .ok (.lastore, 1) := by decide +kernel
theorem dL_lose_16 : decode cL_lose 16 = .ok (.goto 6, 3) := by decide +kernel
theorem dL_lose_19 : decode cL_lose 19 = .ok (.astore_n 3, 1) := by decide +kernel
theorem dL_lose_20 : decode cL_lose 20 = .ok (.iconst 1, 1) := by decide +kernel
theorem dL_lose_21 : decode cL_lose 21 = .ok (.ireturn, 1) := by decide +kernel
theorem dL_lose_22 : decode cL_lose 22 = .ok (.iconst 0, 1) := by decide +kernel
theorem dL_lose_23 : decode cL_lose 23 = .ok (.ireturn, 1) := by decide +kernel
theorem dL_survey_0 : decode cL_survey 0 = .ok (.aload_n 2, 1) := by decide +kernel
theorem dL_survey_1 : decode cL_survey 1 = .ok (.iconst 0, 1) := by decide +kernel
theorem dL_survey_2 : decode cL_survey 2 = .ok (.aload_n 0, 1) := by decide +kernel
theorem dL_survey_3 : decode cL_survey 3 = .ok (.iload_n 1, 1) := by decide +kernel
theorem dL_survey_4 : decode cL_survey 4 = .ok (.invokevirtual 38, 3) := by decide +kernel
theorem dL_survey_7 : decode cL_survey 7 = .ok (.i2l, 1) := by decide +kernel
theorem dL_survey_8 : decode cL_survey 8 = .ok (.lastore, 1) := by decide +kernel
theorem dL_survey_9 : decode cL_survey 9 = .ok (.goto 9, 3) := by decide +kernel
theorem dL_survey_12 : decode cL_survey 12 = .ok (.astore_n 3, 1) := by decide +kernel
theorem dL_survey_13 : decode cL_survey 13 = .ok (.iconst 1, 1) := by decide +kernel
theorem dL_survey_14 : decode cL_survey 14 = .ok (.ireturn, 1) := by decide +kernel
theorem dL_survey_15 : decode cL_survey 15 = .ok (.astore_n 3, 1) := by decide +kernel
theorem dL_survey_16 : decode cL_survey 16 = .ok (.iconst 2, 1) := by decide +kernel
theorem dL_survey_17 : decode cL_survey 17 = .ok (.ireturn, 1) := by decide +kernel
theorem dL_survey_18 : decode cL_survey 18 = .ok (.iconst 0, 1) := by decide +kernel
theorem dL_survey_19 : decode cL_survey 19 = .ok (.ireturn, 1) := by decide +kernel
theorem dL_trial_0 : decode cL_trial 0 = .ok (.aload_n 3, 1) := by decide +kernel
theorem dL_trial_1 : decode cL_trial 1 = .ok (.iconst 0, 1) := by decide +kernel
theorem dL_trial_2 : decode cL_trial 2 = .ok (.aload_n 0, 1) := by decide +kernel
theorem dL_trial_3 : decode cL_trial 3 = .ok (.iload_n 1, 1) := by decide +kernel
theorem dL_trial_4 : decode cL_trial 4 = .ok (.iload_n 2, 1) := by decide +kernel
theorem dL_trial_5 : decode cL_trial 5 = .ok (.invokevirtual 41, 3) := by decide +kernel
theorem dL_trial_8 : decode cL_trial 8 = .ok (.i2l, 1) := by decide +kernel
theorem dL_trial_9 : decode cL_trial 9 = .ok (.lastore, 1) := by decide +kernel
theorem dL_trial_10 : decode cL_trial 10 = .ok (.goto 7, 3) := by decide +kernel
theorem dL_trial_13 : decode cL_trial 13 = .ok (.astore 4, 2) := by decide +kernel
theorem dL_trial_15 : decode cL_trial 15 = .ok (.iconst 1, 1) := by decide +kernel
theorem dL_trial_16 : decode cL_trial 16 = .ok (.ireturn, 1) := by decide +kernel
theorem dL_trial_17 : decode cL_trial 17 = .ok (.iconst 0, 1) := by decide +kernel
theorem dL_trial_18 : decode cL_trial 18 = .ok (.ireturn, 1) := by decide +kernel
theorem dL_ask_0 : decode cL_ask 0 = .ok (.aload 9, 2) := by decide +kernel
theorem dL_ask_2 : decode cL_ask 2 = .ok (.iconst 0, 1) := by decide +kernel
theorem dL_ask_3 : decode cL_ask 3 = .ok (.aload_n 0, 1) := by decide +kernel
theorem dL_ask_4 : decode cL_ask 4 = .ok (.iload_n 1, 1) := by decide +kernel
theorem dL_ask_5 : decode cL_ask 5 = .ok (.iload_n 2, 1) := by decide +kernel
theorem dL_ask_6 : decode cL_ask 6 = .ok (.iload_n 3, 1) := by decide +kernel
theorem dL_ask_7 : decode cL_ask 7 = .ok (.iload 4, 2) := by decide +kernel
theorem dL_ask_9 : decode cL_ask 9 = .ok (.iload 5, 2) := by decide +kernel
theorem dL_ask_11 : decode cL_ask 11 = .ok (.iload 6, 2) := by decide +kernel
theorem dL_ask_13 : decode cL_ask 13 = .ok (.iload 7, 2) := by decide +kernel
theorem dL_ask_15 : decode cL_ask 15 = .ok (.iload 8, 2) := by decide +kernel
theorem dL_ask_17 : decode cL_ask 17 = .ok (.invokevirtual 45, 3) := by decide +kernel
theorem dL_ask_20 : decode cL_ask 20 = .ok (.i2l, 1) := by decide +kernel
theorem dL_ask_21 : decode cL_ask 21 = .ok (.lastore, 1) := by decide +kernel
theorem dL_ask_22 : decode cL_ask 22 = .ok (.goto 15, 3) := by decide +kernel
theorem dL_ask_25 : decode cL_ask 25 = .ok (.astore 10, 2) := by decide +kernel
theorem dL_ask_27 : decode cL_ask 27 = .ok (.iconst 1, 1) := by decide +kernel
theorem dL_ask_28 : decode cL_ask 28 = .ok (.ireturn, 1) := by decide +kernel
theorem dL_ask_29 : decode cL_ask 29 = .ok (.astore 10, 2) := by decide +kernel
theorem dL_ask_31 : decode cL_ask 31 = .ok (.iconst 2, 1) := by decide +kernel
theorem dL_ask_32 : decode cL_ask 32 = .ok (.ireturn, 1) := by decide +kernel
theorem dL_ask_33 : decode cL_ask 33 = .ok (.astore 10, 2) := by decide +kernel
theorem dL_ask_35 : decode cL_ask 35 = .ok (.iconst 3, 1) := by decide +kernel
theorem dL_ask_36 : decode cL_ask 36 = .ok (.ireturn, 1) := by decide +kernel
theorem dL_ask_37 : decode cL_ask 37 = .ok (.iconst 0, 1) := by decide +kernel
theorem dL_ask_38 : decode cL_ask 38 = .ok (.ireturn, 1) := by decide +kernel
theorem dL_grant_0 : decode cL_grant 0 = .ok (.aload_n 3, 1) := by decide +kernel
theorem dL_grant_1 : decode cL_grant 1 = .ok (.iconst 0, 1) := by decide +kernel
theorem dL_grant_2 : decode cL_grant 2 = .ok (.aload_n 0, 1) := by decide +kernel
theorem dL_grant_3 : decode cL_grant 3 = .ok (.iload_n 1, 1) := by decide +kernel
theorem dL_grant_4 : decode cL_grant 4 = .ok (.iload_n 2, 1) := by decide +kernel
theorem dL_grant_5 : decode cL_grant 5 = .ok (.invokevirtual 49, 3) := by decide +kernel
theorem dL_grant_8 : decode cL_grant 8 = .ok (.i2l, 1) := by decide +kernel
theorem dL_grant_9 : decode cL_grant 9 = .ok (.lastore, 1) := by decide +kernel
theorem dL_grant_10 : decode cL_grant 10 = .ok (.goto 15, 3) := by decide +kernel
theorem dL_grant_13 : decode cL_grant 13 = .ok (.astore 4, 2) := by decide +kernel
theorem dL_grant_15 : decode cL_grant 15 = .ok (.iconst 1, 1) := by decide +kernel
theorem dL_grant_16 : decode cL_grant 16 = .ok (.ireturn, 1) := by decide +kernel
theorem dL_grant_17 : decode cL_grant 17 = .ok (.astore 4, 2) := by decide +kernel
theorem dL_grant_19 : decode cL_grant 19 = .ok (.iconst 2, 1) := by decide +kernel
theorem dL_grant_20 : decode cL_grant 20 = .ok (.ireturn, 1) := by decide +kernel
theorem dL_grant_21 : decode cL_grant 21 = .ok (.astore 4, 2) := by decide +kernel
theorem dL_grant_23 : decode cL_grant 23 = .ok (.iconst 3, 1) := by decide +kernel
theorem dL_grant_24 : decode cL_grant 24 = .ok (.ireturn, 1) := by decide +kernel
theorem dL_grant_25 : decode cL_grant 25 = .ok (.iconst 0, 1) := by decide +kernel
theorem dL_grant_26 : decode cL_grant 26 = .ok (.ireturn, 1) := by decide +kernel
theorem dL_refuse_0 : decode cL_refuse 0 = .ok (.aload_n 2, 1) := by decide +kernel
theorem dL_refuse_1 : decode cL_refuse 1 = .ok (.iconst 0, 1) := by decide +kernel
theorem dL_refuse_2 : decode cL_refuse 2 = .ok (.aload_n 0, 1) := by decide +kernel
theorem dL_refuse_3 : decode cL_refuse 3 = .ok (.iload_n 1, 1) := by decide +kernel
theorem dL_refuse_4 : decode cL_refuse 4 = .ok (.invokevirtual 52, 3) := by decide +kernel
theorem dL_refuse_7 : decode cL_refuse 7 = .ok (.i2l, 1) := by decide +kernel
theorem dL_refuse_8 : decode cL_refuse 8 = .ok (.lastore, 1) := by decide +kernel
theorem dL_refuse_9 : decode cL_refuse 9 = .ok (.goto 9, 3) := by decide +kernel
theorem dL_refuse_12 : decode cL_refuse 12 = .ok (.astore_n 3, 1) := by decide +kernel
theorem dL_refuse_13 : decode cL_refuse 13 = .ok (.iconst 1, 1) := by decide +kernel
theorem dL_refuse_14 : decode cL_refuse 14 = .ok (.ireturn, 1) := by decide +kernel
theorem dL_refuse_15 : decode cL_refuse 15 = .ok (.astore_n 3, 1) := by decide +kernel
theorem dL_refuse_16 : decode cL_refuse 16 = .ok (.iconst 2, 1) := by decide +kernel
theorem dL_refuse_17 : decode cL_refuse 17 = .ok (.ireturn, 1) := by decide +kernel
theorem dL_refuse_18 : decode cL_refuse 18 = .ok (.iconst 0, 1) := by decide +kernel
theorem dL_refuse_19 : decode cL_refuse 19 = .ok (.ireturn, 1) := by decide +kernel
theorem dL_vary_0 : decode cL_vary 0 = .ok (.aload_n 3, 1) := by decide +kernel
theorem dL_vary_1 : decode cL_vary 1 = .ok (.iconst 0, 1) := by decide +kernel
theorem dL_vary_2 : decode cL_vary 2 = .ok (.aload_n 0, 1) := by decide +kernel
theorem dL_vary_3 : decode cL_vary 3 = .ok (.iload_n 1, 1) := by decide +kernel
theorem dL_vary_4 : decode cL_vary 4 = .ok (.iload_n 2, 1) := by decide +kernel
theorem dL_vary_5 : decode cL_vary 5 = .ok (.invokevirtual 55, 3) := by decide +kernel
theorem dL_vary_8 : decode cL_vary 8 = .ok (.i2l, 1) := by decide +kernel
theorem dL_vary_9 : decode cL_vary 9 = .ok (.lastore, 1) := by decide +kernel
theorem dL_vary_10 : decode cL_vary 10 = .ok (.goto 15, 3) := by decide +kernel
theorem dL_vary_13 : decode cL_vary 13 = .ok (.astore 4, 2) := by decide +kernel
theorem dL_vary_15 : decode cL_vary 15 = .ok (.iconst 1, 1) := by decide +kernel
theorem dL_vary_16 : decode cL_vary 16 = .ok (.ireturn, 1) := by decide +kernel
theorem dL_vary_17 : decode cL_vary 17 = .ok (.astore 4, 2) := by decide +kernel
theorem dL_vary_19 : decode cL_vary 19 = .ok (.iconst 2, 1) := by decide +kernel
theorem dL_vary_20 : decode cL_vary 20 = .ok (.ireturn, 1) := by decide +kernel
theorem dL_vary_21 : decode cL_vary 21 = .ok (.astore 4, 2) := by decide +kernel
theorem dL_vary_23 : decode cL_vary 23 = .ok (.iconst 3, 1) := by decide +kernel
theorem dL_vary_24 : decode cL_vary 24 = .ok (.ireturn, 1) := by decide +kernel
theorem dL_vary_25 : decode cL_vary 25 = .ok (.iconst 0, 1) := by decide +kernel
theorem dL_vary_26 : decode cL_vary 26 = .ok (.ireturn, 1) := by decide +kernel
theorem dL_exempt_0 : decode cL_exempt 0 = .ok (.aload_n 2, 1) := by decide +kernel
theorem dL_exempt_1 : decode cL_exempt 1 = .ok (.iconst 0, 1) := by decide +kernel
theorem dL_exempt_2 : decode cL_exempt 2 = .ok (.aload_n 0, 1) := by decide +kernel
theorem dL_exempt_3 : decode cL_exempt 3 = .ok (.iload_n 1, 1) := by decide +kernel
theorem dL_exempt_4 : decode cL_exempt 4 = .ok (.invokevirtual 58, 3) := by decide +kernel
theorem dL_exempt_7 : decode cL_exempt 7 = .ok (.ifCond .eq 7, 3) := by decide +kernel
theorem dL_exempt_10 : decode cL_exempt 10 = .ok (.lconst 1, 1) := by decide +kernel
theorem dL_exempt_11 : decode cL_exempt 11 = .ok (.goto 4, 3) := by decide +kernel
theorem dL_exempt_14 : decode cL_exempt 14 = .ok (.lconst 0, 1) := by decide +kernel
theorem dL_exempt_15 : decode cL_exempt 15 = .ok (.lastore, 1) := by decide +kernel
theorem dL_exempt_16 : decode cL_exempt 16 = .ok (.goto 6, 3) := by decide +kernel
theorem dL_exempt_19 : decode cL_exempt 19 = .ok (.astore_n 3, 1) := by decide +kernel
theorem dL_exempt_20 : decode cL_exempt 20 = .ok (.iconst 1, 1) := by decide +kernel
theorem dL_exempt_21 : decode cL_exempt 21 = .ok (.ireturn, 1) := by decide +kernel
theorem dL_exempt_22 : decode cL_exempt 22 = .ok (.iconst 0, 1) := by decide +kernel
theorem dL_exempt_23 : decode cL_exempt 23 = .ok (.ireturn, 1) := by decide +kernel
theorem dL_agree_0 : decode cL_agree 0 = .ok (.aload_n 3, 1) := by decide +kernel
theorem dL_agree_1 : decode cL_agree 1 = .ok (.iconst 0, 1) := by decide +kernel
theorem dL_agree_2 : decode cL_agree 2 = .ok (.aload_n 0, 1) := by decide +kernel
theorem dL_agree_3 : decode cL_agree 3 = .ok (.iload_n 1, 1) := by decide +kernel
theorem dL_agree_4 : decode cL_agree 4 = .ok (.iload_n 2, 1) := by decide +kernel
theorem dL_agree_5 : decode cL_agree 5 = .ok (.invokevirtual 61, 3) := by decide +kernel
theorem dL_agree_8 : decode cL_agree 8 = .ok (.ifCond .eq 7, 3) := by decide +kernel
theorem dL_agree_11 : decode cL_agree 11 = .ok (.lconst 1, 1) := by decide +kernel
theorem dL_agree_12 : decode cL_agree 12 = .ok (.goto 4, 3) := by decide +kernel
theorem dL_agree_15 : decode cL_agree 15 = .ok (.lconst 0, 1) := by decide +kernel
theorem dL_agree_16 : decode cL_agree 16 = .ok (.lastore, 1) := by decide +kernel
theorem dL_agree_17 : decode cL_agree 17 = .ok (.goto 11, 3) := by decide +kernel
theorem dL_agree_20 : decode cL_agree 20 = .ok (.astore 4, 2) := by decide +kernel
theorem dL_agree_22 : decode cL_agree 22 = .ok (.iconst 1, 1) := by decide +kernel
theorem dL_agree_23 : decode cL_agree 23 = .ok (.ireturn, 1) := by decide +kernel
theorem dL_agree_24 : decode cL_agree 24 = .ok (.astore 4, 2) := by decide +kernel
theorem dL_agree_26 : decode cL_agree 26 = .ok (.iconst 2, 1) := by decide +kernel
theorem dL_agree_27 : decode cL_agree 27 = .ok (.ireturn, 1) := by decide +kernel
theorem dL_agree_28 : decode cL_agree 28 = .ok (.iconst 0, 1) := by decide +kernel
theorem dL_agree_29 : decode cL_agree 29 = .ok (.ireturn, 1) := by decide +kernel
theorem dL_start_0 : decode cL_start 0 = .ok (.aload_n 2, 1) := by decide +kernel
theorem dL_start_1 : decode cL_start 1 = .ok (.iconst 0, 1) := by decide +kernel
theorem dL_start_2 : decode cL_start 2 = .ok (.aload_n 0, 1) := by decide +kernel
theorem dL_start_3 : decode cL_start 3 = .ok (.iload_n 1, 1) := by decide +kernel
theorem dL_start_4 : decode cL_start 4 = .ok (.invokevirtual 65, 3) := by decide +kernel
theorem dL_start_7 : decode cL_start 7 = .ok (.i2l, 1) := by decide +kernel
theorem dL_start_8 : decode cL_start 8 = .ok (.lastore, 1) := by decide +kernel
theorem dL_start_9 : decode cL_start 9 = .ok (.goto 9, 3) := by decide +kernel
theorem dL_start_12 : decode cL_start 12 = .ok (.astore_n 3, 1) := by decide +kernel
theorem dL_start_13 : decode cL_start 13 = .ok (.iconst 1, 1) := by decide +kernel
theorem dL_start_14 : decode cL_start 14 = .ok (.ireturn, 1) := by decide +kernel
theorem dL_start_15 : decode cL_start 15 = .ok (.astore_n 3, 1) := by decide +kernel
theorem dL_start_16 : decode cL_start 16 = .ok (.iconst 2, 1) := by decide +kernel
theorem dL_start_17 : decode cL_start 17 = .ok (.ireturn, 1) := by decide +kernel
theorem dL_start_18 : decode cL_start 18 = .ok (.iconst 0, 1) := by decide +kernel
theorem dL_start_19 : decode cL_start 19 = .ok (.ireturn, 1) := by decide +kernel
theorem dL_open_0 : decode cL_open 0 = .ok (.aload_n 3, 1) := by decide +kernel
theorem dL_open_1 : decode cL_open 1 = .ok (.iconst 0, 1) := by decide +kernel
theorem dL_open_2 : decode cL_open 2 = .ok (.aload_n 0, 1) := by decide +kernel
theorem dL_open_3 : decode cL_open 3 = .ok (.iload_n 1, 1) := by decide +kernel
theorem dL_open_4 : decode cL_open 4 = .ok (.iload_n 2, 1) := by decide +kernel
theorem dL_open_5 : decode cL_open 5 = .ok (.invokevirtual 68, 3) := by decide +kernel
theorem dL_open_8 : decode cL_open 8 = .ok (.i2l, 1) := by decide +kernel
theorem dL_open_9 : decode cL_open 9 = .ok (.lastore, 1) := by decide +kernel
theorem dL_open_10 : decode cL_open 10 = .ok (.goto 11, 3) := by decide +kernel
theorem dL_open_13 : decode cL_open 13 = .ok (.astore 4, 2) := by decide +kernel
theorem dL_open_15 : decode cL_open 15 = .ok (.iconst 1, 1) := by decide +kernel
theorem dL_open_16 : decode cL_open 16 = .ok (.ireturn, 1) := by decide +kernel
theorem dL_open_17 : decode cL_open 17 = .ok (.astore 4, 2) := by decide +kernel
theorem dL_open_19 : decode cL_open 19 = .ok (.iconst 2, 1) := by decide +kernel
theorem dL_open_20 : decode cL_open 20 = .ok (.ireturn, 1) := by decide +kernel
theorem dL_open_21 : decode cL_open 21 = .ok (.iconst 0, 1) := by decide +kernel
theorem dL_open_22 : decode cL_open 22 = .ok (.ireturn, 1) := by decide +kernel
theorem dL_fill_0 : decode cL_fill 0 = .ok (.aload 4, 2) := by decide +kernel
theorem dL_fill_2 : decode cL_fill 2 = .ok (.iconst 0, 1) := by decide +kernel
theorem dL_fill_3 : decode cL_fill 3 = .ok (.aload_n 0, 1) := by decide +kernel
theorem dL_fill_4 : decode cL_fill 4 = .ok (.iload_n 1, 1) := by decide +kernel
theorem dL_fill_5 : decode cL_fill 5 = .ok (.iload_n 2, 1) := by decide +kernel
theorem dL_fill_6 : decode cL_fill 6 = .ok (.iload_n 3, 1) := by decide +kernel
theorem dL_fill_7 : decode cL_fill 7 = .ok (.invokevirtual 71, 3) := by decide +kernel
theorem dL_fill_10 : decode cL_fill 10 = .ok (.i2l, 1) := by decide +kernel
theorem dL_fill_11 : decode cL_fill 11 = .ok (.lastore, 1) := by decide +kernel
theorem dL_fill_12 : decode cL_fill 12 = .ok (.goto 15, 3) := by decide +kernel
theorem dL_fill_15 : decode cL_fill 15 = .ok (.astore 5, 2) := by decide +kernel
theorem dL_fill_17 : decode cL_fill 17 = .ok (.iconst 1, 1) := by decide +kernel
theorem dL_fill_18 : decode cL_fill 18 = .ok (.ireturn, 1) := by decide +kernel
theorem dL_fill_19 : decode cL_fill 19 = .ok (.astore 5, 2) := by decide +kernel
theorem dL_fill_21 : decode cL_fill 21 = .ok (.iconst 2, 1) := by decide +kernel
theorem dL_fill_22 : decode cL_fill 22 = .ok (.ireturn, 1) := by decide +kernel
theorem dL_fill_23 : decode cL_fill 23 = .ok (.astore 5, 2) := by decide +kernel
theorem dL_fill_25 : decode cL_fill 25 = .ok (.iconst 3, 1) := by decide +kernel
theorem dL_fill_26 : decode cL_fill 26 = .ok (.ireturn, 1) := by decide +kernel
theorem dL_fill_27 : decode cL_fill 27 = .ok (.iconst 0, 1) := by decide +kernel
theorem dL_fill_28 : decode cL_fill 28 = .ok (.ireturn, 1) := by decide +kernel
theorem dL_plate_0 : decode cL_plate 0 = .ok (.aload_n 2, 1) := by decide +kernel
theorem dL_plate_1 : decode cL_plate 1 = .ok (.iconst 0, 1) := by decide +kernel
theorem dL_plate_2 : decode cL_plate 2 = .ok (.aload_n 0, 1) := by decide +kernel
theorem dL_plate_3 : decode cL_plate 3 = .ok (.iload_n 1, 1) := by decide +kernel
theorem dL_plate_4 : decode cL_plate 4 = .ok (.invokevirtual 74, 3) := by decide +kernel
theorem dL_plate_7 : decode cL_plate 7 = .ok (.ifCond .eq 7, 3) := by decide +kernel
theorem dL_plate_10 : decode cL_plate 10 = .ok (.lconst 1, 1) := by decide +kernel
theorem dL_plate_11 : decode cL_plate 11 = .ok (.goto 4, 3) := by decide +kernel
theorem dL_plate_14 : decode cL_plate 14 = .ok (.lconst 0, 1) := by decide +kernel
theorem dL_plate_15 : decode cL_plate 15 = .ok (.lastore, 1) := by decide +kernel
theorem dL_plate_16 : decode cL_plate 16 = .ok (.goto 9, 3) := by decide +kernel
theorem dL_plate_19 : decode cL_plate 19 = .ok (.astore_n 3, 1) := by decide +kernel
theorem dL_plate_20 : decode cL_plate 20 = .ok (.iconst 1, 1) := by decide +kernel
theorem dL_plate_21 : decode cL_plate 21 = .ok (.ireturn, 1) := by decide +kernel
theorem dL_plate_22 : decode cL_plate 22 = .ok (.astore_n 3, 1) := by decide +kernel
theorem dL_plate_23 : decode cL_plate 23 = .ok (.iconst 2, 1) := by decide +kernel
theorem dL_plate_24 : decode cL_plate 24 = .ok (.ireturn, 1) := by decide +kernel
theorem dL_plate_25 : decode cL_plate 25 = .ok (.iconst 0, 1) := by decide +kernel
theorem dL_plate_26 : decode cL_plate 26 = .ok (.ireturn, 1) := by decide +kernel
theorem dL_extend_0 : decode cL_extend 0 = .ok (.aload_n 2, 1) := by decide +kernel
theorem dL_extend_1 : decode cL_extend 1 = .ok (.iconst 0, 1) := by decide +kernel
theorem dL_extend_2 : decode cL_extend 2 = .ok (.aload_n 0, 1) := by decide +kernel
theorem dL_extend_3 : decode cL_extend 3 = .ok (.iload_n 1, 1) := by decide +kernel
theorem dL_extend_4 : decode cL_extend 4 = .ok (.invokevirtual 77, 3) := by decide +kernel
theorem dL_extend_7 : decode cL_extend 7 = .ok (.i2l, 1) := by decide +kernel
theorem dL_extend_8 : decode cL_extend 8 = .ok (.lastore, 1) := by decide +kernel
theorem dL_extend_9 : decode cL_extend 9 = .ok (.goto 9, 3) := by decide +kernel
theorem dL_extend_12 : decode cL_extend 12 = .ok (.astore_n 3, 1) := by decide +kernel
theorem dL_extend_13 : decode cL_extend 13 = .ok (.iconst 1, 1) := by decide +kernel
theorem dL_extend_14 : decode cL_extend 14 = .ok (.ireturn, 1) := by decide +kernel
theorem dL_extend_15 : decode cL_extend 15 = .ok (.astore_n 3, 1) := by decide +kernel
theorem dL_extend_16 : decode cL_extend 16 = .ok (.iconst 2, 1) := by decide +kernel
theorem dL_extend_17 : decode cL_extend 17 = .ok (.ireturn, 1) := by decide +kernel
theorem dL_extend_18 : decode cL_extend 18 = .ok (.iconst 0, 1) := by decide +kernel
theorem dL_extend_19 : decode cL_extend 19 = .ok (.ireturn, 1) := by decide +kernel
theorem dL_stop_0 : decode cL_stop 0 = .ok (.aload_n 2, 1) := by decide +kernel
theorem dL_stop_1 : decode cL_stop 1 = .ok (.iconst 0, 1) := by decide +kernel
theorem dL_stop_2 : decode cL_stop 2 = .ok (.aload_n 0, 1) := by decide +kernel
theorem dL_stop_3 : decode cL_stop 3 = .ok (.iload_n 1, 1) := by decide +kernel
theorem dL_stop_4 : decode cL_stop 4 = .ok (.invokevirtual 80, 3) := by decide +kernel
theorem dL_stop_7 : decode cL_stop 7 = .ok (.i2l, 1) := by decide +kernel
theorem dL_stop_8 : decode cL_stop 8 = .ok (.lastore, 1) := by decide +kernel
theorem dL_stop_9 : decode cL_stop 9 = .ok (.goto 9, 3) := by decide +kernel
theorem dL_stop_12 : decode cL_stop 12 = .ok (.astore_n 3, 1) := by decide +kernel
theorem dL_stop_13 : decode cL_stop 13 = .ok (.iconst 1, 1) := by decide +kernel
theorem dL_stop_14 : decode cL_stop 14 = .ok (.ireturn, 1) := by decide +kernel
theorem dL_stop_15 : decode cL_stop 15 = .ok (.astore_n 3, 1) := by decide +kernel
theorem dL_stop_16 : decode cL_stop 16 = .ok (.iconst 2, 1) := by decide +kernel
theorem dL_stop_17 : decode cL_stop 17 = .ok (.ireturn, 1) := by decide +kernel
theorem dL_stop_18 : decode cL_stop 18 = .ok (.iconst 0, 1) := by decide +kernel
theorem dL_stop_19 : decode cL_stop 19 = .ok (.ireturn, 1) := by decide +kernel
theorem dL_pass_0 : decode cL_pass 0 = .ok (.aload_n 2, 1) := by decide +kernel
theorem dL_pass_1 : decode cL_pass 1 = .ok (.iconst 0, 1) := by decide +kernel
theorem dL_pass_2 : decode cL_pass 2 = .ok (.aload_n 0, 1) := by decide +kernel
theorem dL_pass_3 : decode cL_pass 3 = .ok (.iload_n 1, 1) := by decide +kernel
theorem dL_pass_4 : decode cL_pass 4 = .ok (.invokevirtual 83, 3) := by decide +kernel
theorem dL_pass_7 : decode cL_pass 7 = .ok (.i2l, 1) := by decide +kernel
theorem dL_pass_8 : decode cL_pass 8 = .ok (.lastore, 1) := by decide +kernel
theorem dL_pass_9 : decode cL_pass 9 = .ok (.goto 9, 3) := by decide +kernel
theorem dL_pass_12 : decode cL_pass 12 = .ok (.astore_n 3, 1) := by decide +kernel
theorem dL_pass_13 : decode cL_pass 13 = .ok (.iconst 1, 1) := by decide +kernel
theorem dL_pass_14 : decode cL_pass 14 = .ok (.ireturn, 1) := by decide +kernel
theorem dL_pass_15 : decode cL_pass 15 = .ok (.astore_n 3, 1) := by decide +kernel
theorem dL_pass_16 : decode cL_pass 16 = .ok (.iconst 2, 1) := by decide +kernel
theorem dL_pass_17 : decode cL_pass 17 = .ok (.ireturn, 1) := by decide +kernel
theorem dL_pass_18 : decode cL_pass 18 = .ok (.iconst 0, 1) := by decide +kernel
theorem dL_pass_19 : decode cL_pass 19 = .ok (.ireturn, 1) := by decide +kernel
theorem dL_defect_0 : decode cL_defect 0 = .ok (.aload 4, 2) := by decide +kernel
theorem dL_defect_2 : decode cL_defect 2 = .ok (.iconst 0, 1) := by decide +kernel
theorem dL_defect_3 : decode cL_defect 3 = .ok (.aload_n 0, 1) := by decide +kernel
theorem dL_defect_4 : decode cL_defect 4 = .ok (.iload_n 1, 1) := by decide +kernel
theorem dL_defect_5 : decode cL_defect 5 = .ok (.iload_n 2, 1) := by decide +kernel
theorem dL_defect_6 : decode cL_defect 6 = .ok (.iload_n 3, 1) := by decide +kernel
theorem dL_defect_7 : decode cL_defect 7 = .ok (.invokevirtual 86, 3) := by decide +kernel
theorem dL_defect_10 : decode cL_defect 10 = .ok (.i2l, 1) := by decide +kernel
theorem dL_defect_11 : decode cL_defect 11 = .ok (.lastore, 1) := by decide +kernel
