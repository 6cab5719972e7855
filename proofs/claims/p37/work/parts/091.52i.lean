theorem dX8_search_52 : decode cX8_search 52 = .ok (.invokespecial 63, 3) := by decide +kernel
theorem dX8_search_55 : decode cX8_search 55 = .ok (.athrow, 1) := by decide +kernel
theorem dX8_search_56 : decode cX8_search 56 = .ok (.aload_n 0, 1) := by decide +kernel
theorem dX8_search_57 : decode cX8_search 57 = .ok (.aload 4, 2) := by decide +kernel
theorem dX8_search_59 : decode cX8_search 59 = .ok (.iload_n 2, 1) := by decide +kernel
theorem dX8_search_60 : decode cX8_search 60 = .ok (.iload_n 3, 1) := by decide +kernel
theorem dX8_search_61 : decode cX8_search 61 = .ok (.invokevirtual 417, 3) := by decide +kernel
theorem dX8_search_64 : decode cX8_search 64 = .ok (.ireturn, 1) := by decide +kernel
theorem dX8_queue_0 : decode cX8_queue 0 = .ok (.aload_n 0, 1) := by decide +kernel
theorem dX8_queue_1 : decode cX8_queue 1 = .ok (.iload_n 1, 1) := by decide +kernel
theorem dX8_queue_2 : decode cX8_queue 2 = .ok (.invokevirtual 48, 3) := by decide +kernel
theorem dX8_queue_5 : decode cX8_queue 5 = .ok (.astore_n 2, 1) := by decide +kernel
theorem dX8_queue_6 : decode cX8_queue 6 = .ok (.aload_n 2, 1) := by decide +kernel
theorem dX8_queue_7 : decode cX8_queue 7 = .ok (.ifnonnull 13, 3) := by decide +kernel
theorem dX8_queue_10 : decode cX8_queue 10 = .ok (.new 52, 3) := by decide +kernel
theorem dX8_queue_13 : decode cX8_queue 13 = .ok (.dup, 1) := by decide +kernel
theorem dX8_queue_14 : decode cX8_queue 14 = .ok (.ldc 76, 2) := by decide +kernel
theorem dX8_queue_16 : decode cX8_queue 16 = .ok (.invokespecial 56, 3) := by decide +kernel
theorem dX8_queue_19 : decode cX8_queue 19 = .ok (.athrow, 1) := by decide +kernel
theorem dX8_queue_20 : decode cX8_queue 20 = .ok (.aload_n 2, 1) := by decide +kernel
theorem dX8_queue_21 : decode cX8_queue 21 = .ok (.getfield 421, 3) := by decide +kernel
theorem dX8_queue_24 : decode cX8_queue 24 = .ok (.ireturn, 1) := by decide +kernel
theorem dX8_due_0 : decode cX8_due 0 = .ok (.aload_n 0, 1) := by decide +kernel
theorem dX8_due_1 : decode cX8_due 1 = .ok (.iload_n 1, 1) := by decide +kernel
theorem dX8_due_2 : decode cX8_due 2 = .ok (.invokevirtual 424, 3) := by decide +kernel
theorem dX8_due_5 : decode cX8_due 5 = .ok (.astore_n 2, 1) := by decide +kernel
theorem dX8_due_6 : decode cX8_due 6 = .ok (.aload_n 2, 1) := by decide +kernel
theorem dX8_due_7 : decode cX8_due 7 = .ok (.ifnull 10, 3) := by decide +kernel
theorem dX8_due_10 : decode cX8_due 10 = .ok (.iload_n 1, 1) := by decide +kernel
theorem dX8_due_11 : decode cX8_due 11 = .ok (.invokestatic 131, 3) := by decide +kernel
theorem dX8_due_14 : decode cX8_due 14 = .ok (.ifCond .ne 14, 3) := by decide +kernel
theorem dX8_due_17 : decode cX8_due 17 = .ok (.new 52, 3) := by decide +kernel
theorem dX8_due_20 : decode cX8_due 20 = .ok (.dup, 1) := by decide +kernel
theorem dX8_due_21 : decode cX8_due 21 = .ok (.ldc_w 428, 3) := by decide +kernel
theorem dX8_due_24 : decode cX8_due 24 = .ok (.invokespecial 56, 3) := by decide +kernel
theorem dX8_due_27 : decode cX8_due 27 = .ok (.athrow, 1) := by decide +kernel
theorem dX8_due_28 : decode cX8_due 28 = .ok (.iconst 5, 1) := by decide +kernel
theorem dX8_due_29 : decode cX8_due 29 = .ok (.iconst 5, 1) := by decide +kernel
theorem dX8_due_30 : decode cX8_due 30 = .ok (.aload_n 2, 1) := by decide +kernel
theorem dX8_due_31 : decode cX8_due 31 = .ok (.getfield 430, 3) := by decide +kernel
theorem dX8_due_34 : decode cX8_due 34 = .ok (.bipush 9, 2) := by decide +kernel
theorem dX8_due_36 : decode cX8_due 36 = .ok (.invokestatic 433, 3) := by decide +kernel
theorem dX8_due_39 : decode cX8_due 39 = .ok (.imul, 1) := by decide +kernel
theorem dX8_due_40 : decode cX8_due 40 = .ok (.iadd, 1) := by decide +kernel
theorem dX8_due_41 : decode cX8_due 41 = .ok (.istore_n 3, 1) := by decide +kernel
theorem dX8_due_42 : decode cX8_due 42 = .ok (.aload_n 2, 1) := by decide +kernel
theorem dX8_due_43 : decode cX8_due 43 = .ok (.getfield 436, 3) := by decide +kernel
theorem dX8_due_46 : decode cX8_due 46 = .ok (.iload_n 3, 1) := by decide +kernel
theorem dX8_due_47 : decode cX8_due 47 = .ok (.imul, 1) := by decide +kernel
theorem dX8_due_48 : decode cX8_due 48 = .ok (.bipush 99, 2) := by decide +kernel
theorem dX8_due_50 : decode cX8_due 50 = .ok (.iadd, 1) := by decide +kernel
theorem dX8_due_51 : decode cX8_due 51 = .ok (.bipush 100, 2) := by decide +kernel
theorem dX8_due_53 : decode cX8_due 53 = .ok (.idiv, 1) := by decide +kernel
theorem dX8_due_54 : decode cX8_due 54 = .ok (.aload_n 2, 1) := by decide +kernel
theorem dX8_due_55 : decode cX8_due 55 = .ok (.getfield 437, 3) := by decide +kernel
theorem dX8_due_58 : decode cX8_due 58 = .ok (.isub, 1) := by decide +kernel
theorem dX8_due_59 : decode cX8_due 59 = .ok (.iconst 0, 1) := by decide +kernel
theorem dX8_due_60 : decode cX8_due 60 = .ok (.invokestatic 333, 3) := by decide +kernel
theorem dX8_due_63 : decode cX8_due 63 = .ok (.ireturn, 1) := by decide +kernel
theorem dX8_money_0 : decode cX8_money 0 = .ok (.aload_n 0, 1) := by decide +kernel
theorem dX8_money_1 : decode cX8_money 1 = .ok (.iload_n 1, 1) := by decide +kernel
theorem dX8_money_2 : decode cX8_money 2 = .ok (.invokevirtual 424, 3) := by decide +kernel
theorem dX8_money_5 : decode cX8_money 5 = .ok (.astore_n 2, 1) := by decide +kernel
theorem dX8_money_6 : decode cX8_money 6 = .ok (.aload_n 2, 1) := by decide +kernel
theorem dX8_money_7 : decode cX8_money 7 = .ok (.ifnonnull 14, 3) := by decide +kernel
theorem dX8_money_10 : decode cX8_money 10 = .ok (.new 52, 3) := by decide +kernel
theorem dX8_money_13 : decode cX8_money 13 = .ok (.dup, 1) := by decide +kernel
theorem dX8_money_14 : decode cX8_money 14 = .ok (.ldc_w 440, 3) := by decide +kernel
theorem dX8_money_17 : decode cX8_money 17 = .ok (.invokespecial 56, 3) := by decide +kernel
theorem dX8_money_20 : decode cX8_money 20 = .ok (.athrow, 1) := by decide +kernel
theorem dX8_money_21 : decode cX8_money 21 = .ok (.aload_n 2, 1) := by decide +kernel
theorem dX8_money_22 : decode cX8_money 22 = .ok (.getfield 442, 3) := by decide +kernel
theorem dX8_money_25 : decode cX8_money 25 = .ok (.lreturn, 1) := by decide +kernel
theorem dX8_moneyAnew_0 : decode cX8_moneyAnew 0 = .ok (.aload_n 0, 1) := by decide +kernel
theorem dX8_moneyAnew_1 : decode cX8_moneyAnew 1 = .ok (.iload_n 1, 1) := by decide +kernel
theorem dX8_moneyAnew_2 : decode cX8_moneyAnew 2 = .ok (.invokevirtual 424, 3) := by decide +kernel
theorem dX8_moneyAnew_5 : decode cX8_moneyAnew 5 = .ok (.ifnonnull 14, 3) := by decide +kernel
theorem dX8_moneyAnew_8 : decode cX8_moneyAnew 8 = .ok (.new 52, 3) := by decide +kernel
theorem dX8_moneyAnew_11 : decode cX8_moneyAnew 11 = .ok (.dup, 1) := by decide +kernel
theorem dX8_moneyAnew_12 : decode cX8_moneyAnew 12 = .ok (.ldc_w 440, 3) := by decide +kernel
theorem dX8_moneyAnew_15 : decode cX8_moneyAnew 15 = .ok (.invokespecial 56, 3) := by decide +kernel
theorem dX8_moneyAnew_18 : decode cX8_moneyAnew 18 = .ok (.athrow, 1) := by decide +kernel
theorem dX8_moneyAnew_19 : decode cX8_moneyAnew 19 = .ok (.aload_n 0, 1) := by decide +kernel
theorem dX8_moneyAnew_20 : decode cX8_moneyAnew 20 = .ok (.getfield 36, 3) := by decide +kernel
theorem dX8_moneyAnew_23 : decode cX8_moneyAnew 23 = .ok (.iload_n 1, 1) := by decide +kernel
theorem dX8_moneyAnew_24 : decode cX8_moneyAnew 24 = .ok (.invokevirtual 446, 3) := by decide +kernel
theorem dX8_moneyAnew_27 : decode cX8_moneyAnew 27 = .ok (.lreturn, 1) := by decide +kernel
theorem dX8_streetAt_0 : decode cX8_streetAt 0 = .ok (.iload_n 1, 1) := by decide +kernel
theorem dX8_streetAt_1 : decode cX8_streetAt 1 = .ok (.ifCond .lt 21, 3) := by decide +kernel
theorem dX8_streetAt_4 : decode cX8_streetAt 4 = .ok (.iload_n 1, 1) := by decide +kernel
theorem dX8_streetAt_5 : decode cX8_streetAt 5 = .ok (.aload_n 0, 1) := by decide +kernel
theorem dX8_streetAt_6 : decode cX8_streetAt 6 = .ok (.getfield 11, 3) := by decide +kernel
theorem dX8_streetAt_9 : decode cX8_streetAt 9 = .ok (.arraylength, 1) := by decide +kernel
theorem dX8_streetAt_10 : decode cX8_streetAt 10 = .ok (.if_icmp .ge 12, 3) := by decide +kernel
theorem dX8_streetAt_13 : decode cX8_streetAt 13 = .ok (.aload_n 0, 1) := by decide +kernel
theorem dX8_streetAt_14 : decode cX8_streetAt 14 = .ok (.getfield 11, 3) := by decide +kernel
theorem dX8_streetAt_17 : decode cX8_streetAt 17 = .ok (.iload_n 1, 1) := by decide +kernel
theorem dX8_streetAt_18 : decode cX8_streetAt 18 = .ok (.aaload, 1) := by decide +kernel
theorem dX8_streetAt_19 : decode cX8_streetAt 19 = .ok (.goto 4, 3) := by decide +kernel
theorem dX8_streetAt_22 : decode cX8_streetAt 22 = .ok (.aconst_null, 1) := by decide +kernel
theorem dX8_streetAt_23 : decode cX8_streetAt 23 = .ok (.areturn, 1) := by decide +kernel
theorem dX8_thingAt_0 : decode cX8_thingAt 0 = .ok (.iload_n 1, 1) := by decide +kernel
theorem dX8_thingAt_1 : decode cX8_thingAt 1 = .ok (.ifCond .lt 21, 3) := by decide +kernel
theorem dX8_thingAt_4 : decode cX8_thingAt 4 = .ok (.iload_n 1, 1) := by decide +kernel
theorem dX8_thingAt_5 : decode cX8_thingAt 5 = .ok (.aload_n 0, 1) := by decide +kernel
theorem dX8_thingAt_6 : decode cX8_thingAt 6 = .ok (.getfield 17, 3) := by decide +kernel
theorem dX8_thingAt_9 : decode cX8_thingAt 9 = .ok (.arraylength, 1) := by decide +kernel
theorem dX8_thingAt_10 : decode cX8_thingAt 10 = .ok (.if_icmp .ge 12, 3) := by decide +kernel
theorem dX8_thingAt_13 : decode cX8_thingAt 13 = .ok (.aload_n 0, 1) := by decide +kernel
theorem dX8_thingAt_14 : decode cX8_thingAt 14 = .ok (.getfield 17, 3) := by decide +kernel
theorem dX8_thingAt_17 : decode cX8_thingAt 17 = .ok (.iload_n 1, 1) := by decide +kernel
theorem dX8_thingAt_18 : decode cX8_thingAt 18 = .ok (.aaload, 1) := by decide +kernel
theorem dX8_thingAt_19 : decode cX8_thingAt 19 = .ok (.goto 4, 3) := by decide +kernel
theorem dX8_thingAt_22 : decode cX8_thingAt 22 = .ok (.aconst_null, 1) := by decide +kernel
theorem dX8_thingAt_23 : decode cX8_thingAt 23 = .ok (.areturn, 1) := by decide +kernel
theorem dX8_worksAt_0 : decode cX8_worksAt 0 = .ok (.iload_n 1, 1) := by decide +kernel
theorem dX8_worksAt_1 : decode cX8_worksAt 1 = .ok (.ifCond .lt 21, 3) := by decide +kernel
theorem dX8_worksAt_4 : decode cX8_worksAt 4 = .ok (.iload_n 1, 1) := by decide +kernel
theorem dX8_worksAt_5 : decode cX8_worksAt 5 = .ok (.aload_n 0, 1) := by decide +kernel
theorem dX8_worksAt_6 : decode cX8_worksAt 6 = .ok (.getfield 23, 3) := by decide +kernel
theorem dX8_worksAt_9 : decode cX8_worksAt 9 = .ok (.arraylength, 1) := by decide +kernel
theorem dX8_worksAt_10 : decode cX8_worksAt 10 = .ok (.if_icmp .ge 12, 3) := by decide +kernel
theorem dX8_worksAt_13 : decode cX8_worksAt 13 = .ok (.aload_n 0, 1) := by decide +kernel
theorem dX8_worksAt_14 : decode cX8_worksAt 14 = .ok (.getfield 23, 3) := by decide +kernel
theorem dX8_worksAt_17 : decode cX8_worksAt 17 = .ok (.iload_n 1, 1) := by decide +kernel
theorem dX8_worksAt_18 : decode cX8_worksAt 18 = .ok (.aaload, 1) := by decide +kernel
theorem dX8_worksAt_19 : decode cX8_worksAt 19 = .ok (.goto 4, 3) := by decide +kernel
theorem dX8_worksAt_22 : decode cX8_worksAt 22 = .ok (.aconst_null, 1) := by decide +kernel
theorem dX8_worksAt_23 : decode cX8_worksAt 23 = .ok (.areturn, 1) := by decide +kernel
theorem dX8_partyAt_0 : decode cX8_partyAt 0 = .ok (.iload_n 1, 1) := by decide +kernel
theorem dX8_partyAt_1 : decode cX8_partyAt 1 = .ok (.ifCond .lt 21, 3) := by decide +kernel
theorem dX8_partyAt_4 : decode cX8_partyAt 4 = .ok (.iload_n 1, 1) := by decide +kernel
theorem dX8_partyAt_5 : decode cX8_partyAt 5 = .ok (.aload_n 0, 1) := by decide +kernel
theorem dX8_partyAt_6 : decode cX8_partyAt 6 = .ok (.getfield 29, 3) := by decide +kernel
theorem dX8_partyAt_9 : decode cX8_partyAt 9 = .ok (.arraylength, 1) := by decide +kernel
theorem dX8_partyAt_10 : decode cX8_partyAt 10 = .ok (.if_icmp .ge 12, 3) := by decide +kernel
theorem dX8_partyAt_13 : decode cX8_partyAt 13 = .ok (.aload_n 0, 1) := by decide +kernel
theorem dX8_partyAt_14 : decode cX8_partyAt 14 = .ok (.getfield 29, 3) := by decide +kernel
theorem dX8_partyAt_17 : decode cX8_partyAt 17 = .ok (.iload_n 1, 1) := by decide +kernel
theorem dX8_partyAt_18 : decode cX8_partyAt 18 = .ok (.aaload, 1) := by decide +kernel
theorem dX8_partyAt_19 : decode cX8_partyAt 19 = .ok (.goto 4, 3) := by decide +kernel
theorem dX8_partyAt_22 : decode cX8_partyAt 22 = .ok (.aconst_null, 1) := by decide +kernel
theorem dX8_partyAt_23 : decode cX8_partyAt 23 = .ok (.areturn, 1) := by decide +kernel
theorem dX8_isPromoter_0 : decode cX8_isPromoter 0 = .ok (.iload_n 0, 1) := by decide +kernel
theorem dX8_isPromoter_1 : decode cX8_isPromoter 1 = .ok (.ifCond .lt 12, 3) := by decide +kernel
theorem dX8_isPromoter_4 : decode cX8_isPromoter 4 = .ok (.iload_n 0, 1) := by decide +kernel
theorem dX8_isPromoter_5 : decode cX8_isPromoter 5 = .ok (.iconst 5, 1) := by decide +kernel
theorem dX8_isPromoter_6 : decode cX8_isPromoter 6 = .ok (.if_icmp .ge 7, 3) := by decide +kernel
theorem dX8_isPromoter_9 : decode cX8_isPromoter 9 = .ok (.iconst 1, 1) := by decide +kernel
theorem dX8_isPromoter_10 : decode cX8_isPromoter 10 = .ok (.goto 4, 3) := by decide +kernel
theorem dX8_isPromoter_13 : decode cX8_isPromoter 13 = .ok (.iconst 0, 1) := by decide +kernel
theorem dX8_isPromoter_14 : decode cX8_isPromoter 14 = .ok (.ireturn, 1) := by decide +kernel
theorem dX8_numberOf_0 : decode cX8_numberOf 0 = .ok (.aload_n 0, 1) := by decide +kernel
theorem dX8_numberOf_1 : decode cX8_numberOf 1 = .ok (.ifnonnull 7, 3) := by decide +kernel
theorem dX8_numberOf_4 : decode cX8_numberOf 4 = .ok (.iconst (-1), 1) := by decide +kernel
theorem dX8_numberOf_5 : decode cX8_numberOf 5 = .ok (.goto 7, 3) := by decide +kernel
theorem dX8_numberOf_8 : decode cX8_numberOf 8 = .ok (.aload_n 0, 1) := by decide +kernel
theorem dX8_numberOf_9 : decode cX8_numberOf 9 = .ok (.getfield 218, 3) := by decide +kernel
theorem dX8_numberOf_12 : decode cX8_numberOf 12 = .ok (.ireturn, 1) := by decide +kernel
theorem dX8_today_0 : decode cX8_today 0 = .ok (.aload_n 0, 1) := by decide +kernel
theorem dX8_today_1 : decode cX8_today 1 = .ok (.getfield 352, 3) := by decide +kernel
theorem dX8_today_4 : decode cX8_today 4 = .ok (.bipush 24, 2) := by decide +kernel
theorem dX8_today_6 : decode cX8_today 6 = .ok (.idiv, 1) := by decide +kernel
theorem dX8_today_7 : decode cX8_today 7 = .ok (.ireturn, 1) := by decide +kernel
theorem dX8_isBusy_0 : decode cX8_isBusy 0 = .ok (.aload_n 0, 1) := by decide +kernel
theorem dX8_isBusy_1 : decode cX8_isBusy 1 = .ok (.getfield 352, 3) := by decide +kernel
theorem dX8_isBusy_4 : decode cX8_isBusy 4 = .ok (.bipush 24, 2) := by decide +kernel
theorem dX8_isBusy_6 : decode cX8_isBusy 6 = .ok (.irem, 1) := by decide +kernel
theorem dX8_isBusy_7 : decode cX8_isBusy 7 = .ok (.istore_n 1, 1) := by decide +kernel
theorem dX8_isBusy_8 : decode cX8_isBusy 8 = .ok (.iload_n 1, 1) := by decide +kernel
theorem dX8_isBusy_9 : decode cX8_isBusy 9 = .ok (.bipush 7, 2) := by decide +kernel
theorem dX8_isBusy_11 : decode cX8_isBusy 11 = .ok (.if_icmp .lt 9, 3) := by decide +kernel
theorem dX8_isBusy_14 : decode cX8_isBusy 14 = .ok (.iload_n 1, 1) := by decide +kernel
theorem dX8_isBusy_15 : decode cX8_isBusy 15 = .ok (.bipush 9, 2) := by decide +kernel
theorem dX8_isBusy_17 : decode cX8_isBusy 17 = .ok (.if_icmp .le 15, 3) := by decide +kernel
theorem dX8_isBusy_20 : decode cX8_isBusy 20 = .ok (.iload_n 1, 1) := by decide +kernel
theorem dX8_isBusy_21 : decode cX8_isBusy 21 = .ok (.bipush 16, 2) := by decide +kernel
theorem dX8_isBusy_23 : decode cX8_isBusy 23 = .ok (.if_icmp .lt 13, 3) := by decide +kernel
theorem dX8_isBusy_26 : decode cX8_isBusy 26 = .ok (.iload_n 1, 1) := by decide +kernel
theorem dX8_isBusy_27 : decode cX8_isBusy 27 = .ok (.bipush 18, 2) := by decide +kernel
theorem dX8_isBusy_29 : decode cX8_isBusy 29 = .ok (.if_icmp .gt 7, 3) := by decide +kernel
theorem dX8_isBusy_32 : decode cX8_isBusy 32 = .ok (.iconst 1, 1) := by decide +kernel
theorem dX8_isBusy_33 : decode cX8_isBusy 33 = .ok (.goto 4, 3) := by decide +kernel
theorem dX8_isBusy_36 : decode cX8_isBusy 36 = .ok (.iconst 0, 1) := by decide +kernel
theorem dX8_isBusy_37 : decode cX8_isBusy 37 = .ok (.ireturn, 1) := by decide +kernel
theorem dX8_overlap_0 : decode cX8_overlap 0 = .ok (.iload_n 0, 1) := by decide +kernel
theorem dX8_overlap_1 : decode cX8_overlap 1 = .ok (.iload_n 3, 1) := by decide +kernel
theorem dX8_overlap_2 : decode cX8_overlap 2 = .ok (.if_icmp .gt 12, 3) := by decide +kernel
theorem dX8_overlap_5 : decode cX8_overlap 5 = .ok (.iload_n 2, 1) := by decide +kernel
theorem dX8_overlap_6 : decode cX8_overlap 6 = .ok (.iload_n 1, 1) := by decide +kernel
theorem dX8_overlap_7 : decode cX8_overlap 7 = .ok (.if_icmp .gt 7, 3) := by decide +kernel
theorem dX8_overlap_10 : decode cX8_overlap 10 = .ok (.iconst 1, 1) := by decide +kernel
theorem dX8_overlap_11 : decode cX8_overlap 11 = .ok (.goto 4, 3) := by decide +kernel
theorem dX8_overlap_14 : decode cX8_overlap 14 = .ok (.iconst 0, 1) := by decide +kernel
theorem dX8_overlap_15 : decode cX8_overlap 15 = .ok (.ireturn, 1) := by decide +kernel
theorem dX8_tell_0 : decode cX8_tell 0 = .ok (.aload_n 0, 1) := by decide +kernel
theorem dX8_tell_1 : decode cX8_tell 1 = .ok (.getfield 43, 3) := by decide +kernel
theorem dX8_tell_4 : decode cX8_tell 4 = .ok (.invokevirtual 91, 3) := by decide +kernel
theorem dX8_tell_7 : decode cX8_tell 7 = .ok (.sipush 512, 3) := by decide +kernel
theorem dX8_tell_10 : decode cX8_tell 10 = .ok (.if_icmp .ge 12, 3) := by decide +kernel
theorem dX8_tell_13 : decode cX8_tell 13 = .ok (.aload_n 0, 1) := by decide +kernel
theorem dX8_tell_14 : decode cX8_tell 14 = .ok (.getfield 43, 3) := by decide +kernel
theorem dX8_tell_17 : decode cX8_tell 17 = .ok (.aload_n 1, 1) := by decide +kernel
theorem dX8_tell_18 : decode cX8_tell 18 = .ok (.invokevirtual 450, 3) := by decide +kernel
theorem dX8_tell_21 : decode cX8_tell 21 = .ok (.pop, 1) := by decide +kernel
theorem dX8_tell_22 : decode cX8_tell 22 = .ok (.return_, 1) := by decide +kernel
theorem dX8_countFill_0 : decode cX8_countFill 0 = .ok (.aload_n 0, 1) := by decide +kernel
theorem dX8_countFill_1 : decode cX8_countFill 1 = .ok (.iload_n 1, 1) := by decide +kernel
theorem dX8_countFill_2 : decode cX8_countFill 2 = .ok (.invokevirtual 424, 3) := by decide +kernel
theorem dX8_countFill_5 : decode cX8_countFill 5 = .ok (.astore_n 2, 1) := by decide +kernel
theorem dX8_countFill_6 : decode cX8_countFill 6 = .ok (.aload_n 2, 1) := by decide +kernel
theorem dX8_countFill_7 : decode cX8_countFill 7 = .ok (.ifnull 13, 3) := by decide +kernel
theorem dX8_countFill_10 : decode cX8_countFill 10 = .ok (.aload_n 2, 1) := by decide +kernel
theorem dX8_countFill_11 : decode cX8_countFill 11 = .ok (.dup, 1) := by decide +kernel
theorem dX8_countFill_12 : decode cX8_countFill 12 = .ok (.getfield 436, 3) := by decide +kernel
theorem dX8_countFill_15 : decode cX8_countFill 15 = .ok (.iconst 1, 1) := by decide +kernel
theorem dX8_countFill_16 : decode cX8_countFill 16 = .ok (.iadd, 1) := by decide +kernel
theorem dX8_countFill_17 : decode cX8_countFill 17 = .ok (.putfield 436, 3) := by decide +kernel
theorem dX8_countFill_20 : decode cX8_countFill 20 = .ok (.return_, 1) := by decide +kernel
theorem dX8_countFault_0 : decode cX8_countFault 0 = .ok (.aload_n 0, 1) := by decide +kernel
theorem dX8_countFault_1 : decode cX8_countFault 1 = .ok (.iload_n 1, 1) := by decide +kernel
theorem dX8_countFault_2 : decode cX8_countFault 2 = .ok (.invokevirtual 424, 3) := by decide +kernel
theorem dX8_countFault_5 : decode cX8_countFault 5 = .ok (.astore_n 2, 1) := by decide +kernel
theorem dX8_countFault_6 : decode cX8_countFault 6 = .ok (.aload_n 2, 1) := by decide +kernel
theorem dX8_countFault_7 : decode cX8_countFault 7 = .ok (.ifnull 13, 3) := by decide +kernel
theorem dX8_countFault_10 : decode cX8_countFault 10 = .ok (.aload_n 2, 1) := by decide +kernel
theorem dX8_countFault_11 : decode cX8_countFault 11 = .ok (.dup, 1) := by decide +kernel
theorem dX8_countFault_12 : decode cX8_countFault 12 = .ok (.getfield 430, 3) := by decide +kernel
theorem dX8_countFault_15 : decode cX8_countFault 15 = .ok (.iconst 1, 1) := by decide +kernel
theorem dX8_countFault_16 : decode cX8_countFault 16 = .ok (.iadd, 1) := by decide +kernel
theorem dX8_countFault_17 : decode cX8_countFault 17 = .ok (.putfield 430, 3) := by decide +kernel
theorem dX8_countFault_20 : decode cX8_countFault 20 = .ok (.return_, 1) := by decide +kernel
theorem dX8_countCore_0 : decode cX8_countCore 0 = .ok (.aload_n 0, 1) := by decide +kernel
theorem dX8_countCore_1 : decode cX8_countCore 1 = .ok (.iload_n 1, 1) := by decide +kernel
theorem dX8_countCore_2 : decode cX8_countCore 2 = .ok (.invokevirtual 424, 3) := by decide +kernel
theorem dX8_countCore_5 : decode cX8_countCore 5 = .ok (.astore_n 2, 1) := by decide +kernel
theorem dX8_countCore_6 : decode cX8_countCore 6 = .ok (.aload_n 2, 1) := by decide +kernel
theorem dX8_countCore_7 : decode cX8_countCore 7 = .ok (.ifnull 13, 3) := by decide +kernel
theorem dX8_countCore_10 : decode cX8_countCore 10 = .ok (.aload_n 2, 1) := by decide +kernel
theorem dX8_countCore_11 : decode cX8_countCore 11 = .ok (.dup, 1) := by decide +kernel
theorem dX8_countCore_12 : decode cX8_countCore 12 = .ok (.getfield 437, 3) := by decide +kernel
theorem dX8_countCore_15 : decode cX8_countCore 15 = .ok (.iconst 1, 1) := by decide +kernel
theorem dX8_countCore_16 : decode cX8_countCore 16 = .ok (.iadd, 1) := by decide +kernel
theorem dX8_countCore_17 : decode cX8_countCore 17 = .ok (.putfield 437, 3) := by decide +kernel
theorem dX8_countCore_20 : decode cX8_countCore 20 = .ok (.return_, 1) := by decide +kernel
theorem dX8_pay_0 : decode cX8_pay 0 = .ok (.aload_n 0, 1) := by decide +kernel
theorem dX8_pay_1 : decode cX8_pay 1 = .ok (.iload_n 1, 1) := by decide +kernel
theorem dX8_pay_2 : decode cX8_pay 2 = .ok (.invokevirtual 424, 3) := by decide +kernel
theorem dX8_pay_5 : decode cX8_pay 5 = .ok (.astore 4, 2) := by decide +kernel
theorem dX8_pay_7 : decode cX8_pay 7 = .ok (.aload_n 0, 1) := by decide +kernel
theorem dX8_pay_8 : decode cX8_pay 8 = .ok (.iload_n 2, 1) := by decide +kernel
theorem dX8_pay_9 : decode cX8_pay 9 = .ok (.invokevirtual 424, 3) := by decide +kernel
theorem dX8_pay_12 : decode cX8_pay 12 = .ok (.astore 5, 2) := by decide +kernel
theorem dX8_pay_14 : decode cX8_pay 14 = .ok (.aload 4, 2) := by decide +kernel
theorem dX8_pay_16 : decode cX8_pay 16 = .ok (.ifnull 42, 3) := by decide +kernel
theorem dX8_pay_19 : decode cX8_pay 19 = .ok (.aload 5, 2) := by decide +kernel
theorem dX8_pay_21 : decode cX8_pay 21 = .ok (.ifnull 37, 3) := by decide +kernel
theorem dX8_pay_24 : decode cX8_pay 24 = .ok (.aload 4, 2) := by decide +kernel
theorem dX8_pay_26 : decode cX8_pay 26 = .ok (.dup, 1) := by decide +kernel
theorem dX8_pay_27 : decode cX8_pay 27 = .ok (.getfield 442, 3) := by decide +kernel
theorem dX8_pay_30 : decode cX8_pay 30 = .ok (.iload_n 3, 1) := by decide +kernel
theorem dX8_pay_31 : decode cX8_pay 31 = .ok (.i2l, 1) := by decide +kernel
theorem dX8_pay_32 : decode cX8_pay 32 = .ok (.lsub, 1) := by decide +kernel
theorem dX8_pay_33 : decode cX8_pay 33 = .ok (.putfield 442, 3) := by decide +kernel
theorem dX8_pay_36 : decode cX8_pay 36 = .ok (.aload 5, 2) := by decide +kernel
theorem dX8_pay_38 : decode cX8_pay 38 = .ok (.dup, 1) := by decide +kernel
theorem dX8_pay_39 : decode cX8_pay 39 = .ok (.getfield 442, 3) := by decide +kernel
theorem dX8_pay_42 : decode cX8_pay 42 = .ok (.iload_n 3, 1) := by decide +kernel
theorem dX8_pay_43 : decode cX8_pay 43 = .ok (.i2l, 1) := by decide +kernel
theorem dX8_pay_44 : decode cX8_pay 44 = .ok (.ladd, 1) := by decide +kernel
theorem dX8_pay_45 : decode cX8_pay 45 = .ok (.putfield 442, 3) := by decide +kernel
theorem dX8_pay_48 : decode cX8_pay 48 = .ok (.aload_n 0, 1) := by decide +kernel
theorem dX8_pay_49 : decode cX8_pay 49 = .ok (.getfield 36, 3) := by decide +kernel
theorem dX8_pay_52 : decode cX8_pay 52 = .ok (.iload_n 1, 1) := by decide +kernel
theorem dX8_pay_53 : decode cX8_pay 53 = .ok (.iload_n 2, 1) := by decide +kernel
theorem dX8_pay_54 : decode cX8_pay 54 = .ok (.iload_n 3, 1) := by decide +kernel
theorem dX8_pay_55 : decode cX8_pay 55 = .ok (.invokevirtual 454, 3) := by decide +kernel
theorem dX8_pay_58 : decode cX8_pay 58 = .ok (.return_, 1) := by decide +kernel
theorem dX8_suspects_0 : decode cX8_suspects 0 = .ok (.iconst 0, 1) := by decide +kernel
theorem dX8_suspects_1 : decode cX8_suspects 1 = .ok (.istore 4, 2) := by decide +kernel
theorem dX8_suspects_3 : decode cX8_suspects 3 = .ok (.iconst 0, 1) := by decide +kernel
theorem dX8_suspects_4 : decode cX8_suspects 4 = .ok (.istore 5, 2) := by decide +kernel
theorem dX8_suspects_6 : decode cX8_suspects 6 = .ok (.iload 5, 2) := by decide +kernel
