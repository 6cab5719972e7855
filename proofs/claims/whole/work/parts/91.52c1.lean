theorem dX8_of_119 : decode cX8_of 119 = .ok (.goto 4, 3) := by decide +kernel
theorem dX8_of_122 : decode cX8_of 122 = .ok (.iconst 0, 1) := by decide +kernel
theorem dX8_of_123 : decode cX8_of 123 = .ok (.ireturn, 1) := by decide +kernel
theorem dX8_of_124 : decode cX8_of 124 = .ok (.new 59, 3) := by decide +kernel
theorem dX8_of_127 : decode cX8_of 127 = .ok (.dup, 1) := by decide +kernel
theorem dX8_of_128 : decode cX8_of 128 = .ok (.ldc_w 413, 3) := by decide +kernel
theorem dX8_of_131 : decode cX8_of 131 = .ok (.invokespecial 63, 3) := by decide +kernel
theorem dX8_of_134 : decode cX8_of 134 = .ok (.athrow, 1) := by decide +kernel
theorem dX8_metre_0 : decode cX8_metre 0 = .ok (.aload_n 0, 1) := by decide +kernel
theorem dX8_metre_1 : decode cX8_metre 1 = .ok (.iload_n 1, 1) := by decide +kernel
theorem dX8_metre_2 : decode cX8_metre 2 = .ok (.invokevirtual 48, 3) := by decide +kernel
theorem dX8_metre_5 : decode cX8_metre 5 = .ok (.astore 4, 2) := by decide +kernel
theorem dX8_metre_7 : decode cX8_metre 7 = .ok (.aload 4, 2) := by decide +kernel
theorem dX8_metre_9 : decode cX8_metre 9 = .ok (.ifnonnull 7, 3) := by decide +kernel
theorem dX8_metre_12 : decode cX8_metre 12 = .ok (.aconst_null, 1) := by decide +kernel
theorem dX8_metre_13 : decode cX8_metre 13 = .ok (.goto 9, 3) := by decide +kernel
theorem dX8_metre_16 : decode cX8_metre 16 = .ok (.aload 4, 2) := by decide +kernel
theorem dX8_metre_18 : decode cX8_metre 18 = .ok (.iload_n 2, 1) := by decide +kernel
theorem dX8_metre_19 : decode cX8_metre 19 = .ok (.invokevirtual 135, 3) := by decide +kernel
theorem dX8_metre_22 : decode cX8_metre 22 = .ok (.astore 5, 2) := by decide +kernel
theorem dX8_metre_24 : decode cX8_metre 24 = .ok (.aload 4, 2) := by decide +kernel
theorem dX8_metre_26 : decode cX8_metre 26 = .ok (.ifnull 8, 3) := by decide +kernel
theorem dX8_metre_29 : decode cX8_metre 29 = .ok (.aload 5, 2) := by decide +kernel
theorem dX8_metre_31 : decode cX8_metre 31 = .ok (.ifnonnull 13, 3) := by decide +kernel
theorem dX8_metre_34 : decode cX8_metre 34 = .ok (.new 52, 3) := by decide +kernel
theorem dX8_metre_37 : decode cX8_metre 37 = .ok (.dup, 1) := by decide +kernel
theorem dX8_metre_38 : decode cX8_metre 38 = .ok (.ldc 189, 2) := by decide +kernel
theorem dX8_metre_40 : decode cX8_metre 40 = .ok (.invokespecial 56, 3) := by decide +kernel
theorem dX8_metre_43 : decode cX8_metre 43 = .ok (.athrow, 1) := by decide +kernel
theorem dX8_metre_44 : decode cX8_metre 44 = .ok (.iload_n 3, 1) := by decide +kernel
theorem dX8_metre_45 : decode cX8_metre 45 = .ok (.tableswitch 73 0 3 #[31, 47, 61, 67], 31) := by decide +kernel
theorem dX8_metre_76 : decode cX8_metre 76 = .ok (.aload_n 0, 1) := by decide +kernel
theorem dX8_metre_77 : decode cX8_metre 77 = .ok (.aload 4, 2) := by decide +kernel
theorem dX8_metre_79 : decode cX8_metre 79 = .ok (.iload_n 2, 1) := by decide +kernel
theorem dX8_metre_80 : decode cX8_metre 80 = .ok (.invokevirtual 291, 3) := by decide +kernel
theorem dX8_metre_83 : decode cX8_metre 83 = .ok (.ifCond .eq 7, 3) := by decide +kernel
theorem dX8_metre_86 : decode cX8_metre 86 = .ok (.iconst 1, 1) := by decide +kernel
theorem dX8_metre_87 : decode cX8_metre 87 = .ok (.goto 4, 3) := by decide +kernel
theorem dX8_metre_90 : decode cX8_metre 90 = .ok (.iconst 0, 1) := by decide +kernel
theorem dX8_metre_91 : decode cX8_metre 91 = .ok (.ireturn, 1) := by decide +kernel
theorem dX8_metre_92 : decode cX8_metre 92 = .ok (.aload 5, 2) := by decide +kernel
theorem dX8_metre_94 : decode cX8_metre 94 = .ok (.getfield 151, 3) := by decide +kernel
theorem dX8_metre_97 : decode cX8_metre 97 = .ok (.ifCond .eq 7, 3) := by decide +kernel
theorem dX8_metre_100 : decode cX8_metre 100 = .ok (.iconst 1, 1) := by decide +kernel
theorem dX8_metre_101 : decode cX8_metre 101 = .ok (.goto 4, 3) := by decide +kernel
theorem dX8_metre_104 : decode cX8_metre 104 = .ok (.iconst 0, 1) := by decide +kernel
theorem dX8_metre_105 : decode cX8_metre 105 = .ok (.ireturn, 1) := by decide +kernel
theorem dX8_metre_106 : decode cX8_metre 106 = .ok (.aload 5, 2) := by decide +kernel
theorem dX8_metre_108 : decode cX8_metre 108 = .ok (.getfield 288, 3) := by decide +kernel
theorem dX8_metre_111 : decode cX8_metre 111 = .ok (.ireturn, 1) := by decide +kernel
theorem dX8_metre_112 : decode cX8_metre 112 = .ok (.aload 5, 2) := by decide +kernel
theorem dX8_metre_114 : decode cX8_metre 114 = .ok (.getfield 316, 3) := by decide +kernel
theorem dX8_metre_117 : decode cX8_metre 117 = .ok (.ireturn, 1) := by decide +kernel
theorem dX8_metre_118 : decode cX8_metre 118 = .ok (.new 59, 3) := by decide +kernel
theorem dX8_metre_121 : decode cX8_metre 121 = .ok (.dup, 1) := by decide +kernel
theorem dX8_metre_122 : decode cX8_metre 122 = .ok (.ldc_w 413, 3) := by decide +kernel
theorem dX8_metre_125 : decode cX8_metre 125 = .ok (.invokespecial 63, 3) := by decide +kernel
theorem dX8_metre_128 : decode cX8_metre 128 = .ok (.athrow, 1) := by decide +kernel
theorem dX8_search_0 : decode cX8_search 0 = .ok (.aload_n 0, 1) := by decide +kernel
theorem dX8_search_1 : decode cX8_search 1 = .ok (.iload_n 1, 1) := by decide +kernel
theorem dX8_search_2 : decode cX8_search 2 = .ok (.invokevirtual 48, 3) := by decide +kernel
theorem dX8_search_5 : decode cX8_search 5 = .ok (.astore 4, 2) := by decide +kernel
theorem dX8_search_7 : decode cX8_search 7 = .ok (.aload 4, 2) := by decide +kernel
theorem dX8_search_9 : decode cX8_search 9 = .ok (.ifnull 21, 3) := by decide +kernel
theorem dX8_search_12 : decode cX8_search 12 = .ok (.aload 4, 2) := by decide +kernel
theorem dX8_search_14 : decode cX8_search 14 = .ok (.iload_n 2, 1) := by decide +kernel
theorem dX8_search_15 : decode cX8_search 15 = .ok (.invokevirtual 135, 3) := by decide +kernel
theorem dX8_search_18 : decode cX8_search 18 = .ok (.ifnull 12, 3) := by decide +kernel
theorem dX8_search_21 : decode cX8_search 21 = .ok (.aload 4, 2) := by decide +kernel
theorem dX8_search_23 : decode cX8_search 23 = .ok (.iload_n 3, 1) := by decide +kernel
theorem dX8_search_24 : decode cX8_search 24 = .ok (.invokevirtual 135, 3) := by decide +kernel
theorem dX8_search_27 : decode cX8_search 27 = .ok (.ifnonnull 13, 3) := by decide +kernel
theorem dX8_search_30 : decode cX8_search 30 = .ok (.new 52, 3) := by decide +kernel
theorem dX8_search_33 : decode cX8_search 33 = .ok (.dup, 1) := by decide +kernel
theorem dX8_search_34 : decode cX8_search 34 = .ok (.ldc 189, 2) := by decide +kernel
theorem dX8_search_36 : decode cX8_search 36 = .ok (.invokespecial 56, 3) := by decide +kernel
theorem dX8_search_39 : decode cX8_search 39 = .ok (.athrow, 1) := by decide +kernel
theorem dX8_search_40 : decode cX8_search 40 = .ok (.iload_n 3, 1) := by decide +kernel
theorem dX8_search_41 : decode cX8_search 41 = .ok (.iload_n 2, 1) := by decide +kernel
theorem dX8_search_42 : decode cX8_search 42 = .ok (.if_icmp .ge 14, 3) := by decide +kernel
theorem dX8_search_45 : decode cX8_search 45 = .ok (.new 59, 3) := by decide +kernel
theorem dX8_search_48 : decode cX8_search 48 = .ok (.dup, 1) := by decide +kernel
theorem dX8_search_49 : decode cX8_search 49 = .ok (.ldc_w 415, 3) := by decide +kernel
theorem dX8_search_52 : decode cX8_search 52 = .ok (.invokespecial 63, 3) := by decide +kernel
theorem dX8_search_55 : decode cX8_search 55 = .ok (.athrow, 1) := by decide +kernel
theorem dX8_search_56 : decode cX8_search 56 = .ok (.aload_n 0, 1) := by decide +kernel
theorem dX8_search_57 : decode cX8_search 57 = .ok (.aload 4, 2) := by decide +kernel
theorem dX8_search_59 : decode cX8_search 59 = .ok (.iload_n 2, 1) := by decide +kernel
theorem dX8_search_60 : decode cX8_search 60 = .ok (.iload_n 3, 1) := by decide +kernel
theorem dX8_search_61 : decode cX8_search 61 = .ok (.invokevirtual 417, 3) := by decide +kernel
theorem dX8_search_64 : decode cX8_search 64 = .ok (.ireturn, 1) := by decide +kernel
theorem dX8_queue_0 : decode cX8_queue 0 = .ok (.aload_n 0, 1) := by decide +kernel
theorem dX8_queue_1 : decode cX8_queue 1 = .ok (.iload_n 1, 1) := by decide +kernel
theorem dX8_queue_2 : decode cX8_queue 2 = .ok (.invokevirtual 48, 3) := by decide +kernel
theorem dX8_queue_5 : decode cX8_queue 5 = .ok (.astore_n 2, 1) := by decide +kernel
theorem dX8_queue_6 : decode cX8_queue 6 = .ok (.aload_n 2, 1) := by decide +kernel
theorem dX8_queue_7 : decode cX8_queue 7 = .ok (.ifnonnull 13, 3) := by decide +kernel
theorem dX8_queue_10 : decode cX8_queue 10 = .ok (.new 52, 3) := by decide +kernel
theorem dX8_queue_13 : decode cX8_queue 13 = .ok (.dup, 1) := by decide +kernel
theorem dX8_queue_14 : decode cX8_queue 14 = .ok (.ldc 76, 2) := by decide +kernel
theorem dX8_queue_16 : decode cX8_queue 16 = .ok (.invokespecial 56, 3) := by decide +kernel
theorem dX8_queue_19 : decode cX8_queue 19 = .ok (.athrow, 1) := by decide +kernel
theorem dX8_queue_20 : decode cX8_queue 20 = .ok (.aload_n 2, 1) := by decide +kernel
theorem dX8_queue_21 : decode cX8_queue 21 = .ok (.getfield 421, 3) := by decide +kernel
theorem dX8_queue_24 : decode cX8_queue 24 = .ok (.ireturn, 1) := by decide +kernel
theorem dX8_due_0 : decode cX8_due 0 = .ok (.aload_n 0, 1) := by decide +kernel
theorem dX8_due_1 : decode cX8_due 1 = .ok (.iload_n 1, 1) := by decide +kernel
theorem dX8_due_2 : decode cX8_due 2 = .ok (.invokevirtual 424, 3) := by decide +kernel
theorem dX8_due_5 : decode cX8_due 5 = .ok (.astore_n 2, 1) := by decide +kernel
theorem dX8_due_6 : decode cX8_due 6 = .ok (.aload_n 2, 1) := by decide +kernel
theorem dX8_due_7 : decode cX8_due 7 = .ok (.ifnull 10, 3) := by decide +kernel
theorem dX8_due_10 : decode cX8_due 10 = .ok (.iload_n 1, 1) := by decide +kernel
theorem dX8_due_11 : decode cX8_due 11 = .ok (.invokestatic 131, 3) := by decide +kernel
theorem dX8_due_14 : decode cX8_due 14 = .ok (.ifCond .ne 14, 3) := by decide +kernel
theorem dX8_due_17 : decode cX8_due 17 = .ok (.new 52, 3) := by decide +kernel
theorem dX8_due_20 : decode cX8_due 20 = .ok (.dup, 1) := by decide +kernel
theorem dX8_due_21 : decode cX8_due 21 = .ok (.ldc_w 428, 3) := by decide +kernel
theorem dX8_due_24 : decode cX8_due 24 = .ok (.invokespecial 56, 3) := by decide +kernel
theorem dX8_due_27 : decode cX8_due 27 = .ok (.athrow, 1) := by decide +kernel
theorem dX8_due_28 : decode cX8_due 28 = .ok (.iconst 5, 1) := by decide +kernel
theorem dX8_due_29 : decode cX8_due 29 = .ok (.iconst 5, 1) := by decide +kernel
theorem dX8_due_30 : decode cX8_due 30 = .ok (.aload_n 2, 1) := by decide +kernel
theorem dX8_due_31 : decode cX8_due 31 = .ok (.getfield 430, 3) := by decide +kernel
theorem dX8_due_34 : decode cX8_due 34 = .ok (.bipush 9, 2) := by decide +kernel
theorem dX8_due_36 : decode cX8_due 36 = .ok (.invokestatic 433, 3) := by decide +kernel
theorem dX8_due_39 : decode cX8_due 39 = .ok (.imul, 1) := by decide +kernel
theorem dX8_due_40 : decode cX8_due 40 = .ok (.iadd, 1) := by decide +kernel
theorem dX8_due_41 : decode cX8_due 41 = .ok (.istore_n 3, 1) := by decide +kernel
theorem dX8_due_42 : decode cX8_due 42 = .ok (.aload_n 2, 1) := by decide +kernel
theorem dX8_due_43 : decode cX8_due 43 = .ok (.getfield 436, 3) := by decide +kernel
theorem dX8_due_46 : decode cX8_due 46 = .ok (.iload_n 3, 1) := by decide +kernel
theorem dX8_due_47 : decode cX8_due 47 = .ok (.imul, 1) := by decide +kernel
theorem dX8_due_48 : decode cX8_due 48 = .ok (.bipush 99, 2) := by decide +kernel
theorem dX8_due_50 : decode cX8_due 50 = .ok (.iadd, 1) := by decide +kernel
theorem dX8_due_51 : decode cX8_due 51 = .ok (.bipush 100, 2) := by decide +kernel
theorem dX8_due_53 : decode cX8_due 53 = .ok (.idiv, 1) := by decide +kernel
theorem dX8_due_54 : decode cX8_due 54 = .ok (.aload_n 2, 1) := by decide +kernel
theorem dX8_due_55 : decode cX8_due 55 = .ok (.getfield 437, 3) := by decide +kernel
theorem dX8_due_58 : decode cX8_due 58 = .ok (.isub, 1) := by decide +kernel
theorem dX8_due_59 : decode cX8_due 59 = .ok (.iconst 0, 1) := by decide +kernel
theorem dX8_due_60 : decode cX8_due 60 = .ok (.invokestatic 333, 3) := by decide +kernel
theorem dX8_due_63 : decode cX8_due 63 = .ok (.ireturn, 1) := by decide +kernel
theorem dX8_money_0 : decode cX8_money 0 = .ok (.aload_n 0, 1) := by decide +kernel
theorem dX8_money_1 : decode cX8_money 1 = .ok (.iload_n 1, 1) := by decide +kernel
theorem dX8_money_2 : decode cX8_money 2 = .ok (.invokevirtual 424, 3) := by decide +kernel
theorem dX8_money_5 : decode cX8_money 5 = .ok (.astore_n 2, 1) := by decide +kernel
theorem dX8_money_6 : decode cX8_money 6 = .ok (.aload_n 2, 1) := by decide +kernel
theorem dX8_money_7 : decode cX8_money 7 = .ok (.ifnonnull 14, 3) := by decide +kernel
theorem dX8_money_10 : decode cX8_money 10 = .ok (.new 52, 3) := by decide +kernel
theorem dX8_money_13 : decode cX8_money 13 = .ok (.dup, 1) := by decide +kernel
theorem dX8_money_14 : decode cX8_money 14 = .ok (.ldc_w 440, 3) := by decide +kernel
theorem dX8_money_17 : decode cX8_money 17 = .ok (.invokespecial 56, 3) := by decide +kernel
theorem dX8_money_20 : decode cX8_money 20 = .ok (.athrow, 1) := by decide +kernel
theorem dX8_money_21 : decode cX8_money 21 = .ok (.aload_n 2, 1) := by decide +kernel
theorem dX8_money_22 : decode cX8_money 22 = .ok (.getfield 442, 3) := by decide +kernel
theorem dX8_money_25 : decode cX8_money 25 = .ok (.lreturn, 1) := by decide +kernel
theorem dX8_moneyAnew_0 : decode cX8_moneyAnew 0 = .ok (.aload_n 0, 1) := by decide +kernel
theorem dX8_moneyAnew_1 : decode cX8_moneyAnew 1 = .ok (.iload_n 1, 1) := by decide +kernel
theorem dX8_moneyAnew_2 : decode cX8_moneyAnew 2 = .ok (.invokevirtual 424, 3) := by decide +kernel
theorem dX8_moneyAnew_5 : decode cX8_moneyAnew 5 = .ok (.ifnonnull 14, 3) := by decide +kernel
theorem dX8_moneyAnew_8 : decode cX8_moneyAnew 8 = .ok (.new 52, 3) := by decide +kernel
theorem dX8_moneyAnew_11 : decode cX8_moneyAnew 11 = .ok (.dup, 1) := by decide +kernel
theorem dX8_moneyAnew_12 : decode cX8_moneyAnew 12 = .ok (.ldc_w 440, 3) := by decide +kernel
theorem dX8_moneyAnew_15 : decode cX8_moneyAnew 15 = .ok (.invokespecial 56, 3) := by decide +kernel
theorem dX8_moneyAnew_18 : decode cX8_moneyAnew 18 = .ok (.athrow, 1) := by decide +kernel
theorem dX8_moneyAnew_19 : decode cX8_moneyAnew 19 = .ok (.aload_n 0, 1) := by decide +kernel
theorem dX8_moneyAnew_20 : decode cX8_moneyAnew 20 = .ok (.getfield 36, 3) := by decide +kernel
theorem dX8_moneyAnew_23 : decode cX8_moneyAnew 23 = .ok (.iload_n 1, 1) := by decide +kernel
theorem dX8_moneyAnew_24 : decode cX8_moneyAnew 24 = .ok (.invokevirtual 446, 3) := by decide +kernel
theorem dX8_moneyAnew_27 : decode cX8_moneyAnew 27 = .ok (.lreturn, 1) := by decide +kernel
theorem dX8_streetAt_0 : decode cX8_streetAt 0 = .ok (.iload_n 1, 1) := by decide +kernel
theorem dX8_streetAt_1 : decode cX8_streetAt 1 = .ok (.ifCond .lt 21, 3) := by decide +kernel
theorem dX8_streetAt_4 : decode cX8_streetAt 4 = .ok (.iload_n 1, 1) := by decide +kernel
theorem dX8_streetAt_5 : decode cX8_streetAt 5 = .ok (.aload_n 0, 1) := by decide +kernel
theorem dX8_streetAt_6 : decode cX8_streetAt 6 = .ok (.getfield 11, 3) := by decide +kernel
theorem dX8_streetAt_9 : decode cX8_streetAt 9 = .ok (.arraylength, 1) := by decide +kernel
theorem dX8_streetAt_10 : decode cX8_streetAt 10 = .ok (.if_icmp .ge 12, 3) := by decide +kernel
theorem dX8_streetAt_13 : decode cX8_streetAt 13 = .ok (.aload_n 0, 1) := by decide +kernel
theorem dX8_streetAt_14 : decode cX8_streetAt 14 = .ok (.getfield 11, 3) := by decide +kernel
theorem dX8_streetAt_17 : decode cX8_streetAt 17 = .ok (.iload_n 1, 1) := by decide +kernel
theorem dX8_streetAt_18 : decode cX8_streetAt 18 = .ok (.aaload, 1) := by decide +kernel
theorem dX8_streetAt_19 : decode cX8_streetAt 19 = .ok (.goto 4, 3) := by decide +kernel
theorem dX8_streetAt_22 : decode cX8_streetAt 22 = .ok (.aconst_null, 1) := by decide +kernel
theorem dX8_streetAt_23 : decode cX8_streetAt 23 = .ok (.areturn, 1) := by decide +kernel
theorem dX8_thingAt_0 : decode cX8_thingAt 0 = .ok (.iload_n 1, 1) := by decide +kernel
theorem dX8_thingAt_1 : decode cX8_thingAt 1 = .ok (.ifCond .lt 21, 3) := by decide +kernel
theorem dX8_thingAt_4 : decode cX8_thingAt 4 = .ok (.iload_n 1, 1) := by decide +kernel
theorem dX8_thingAt_5 : decode cX8_thingAt 5 = .ok (.aload_n 0, 1) := by decide +kernel
theorem dX8_thingAt_6 : decode cX8_thingAt 6 = .ok (.getfield 17, 3) := by decide +kernel
theorem dX8_thingAt_9 : decode cX8_thingAt 9 = .ok (.arraylength, 1) := by decide +kernel
theorem dX8_thingAt_10 : decode cX8_thingAt 10 = .ok (.if_icmp .ge 12, 3) := by decide +kernel
theorem dX8_thingAt_13 : decode cX8_thingAt 13 = .ok (.aload_n 0, 1) := by decide +kernel
theorem dX8_thingAt_14 : decode cX8_thingAt 14 = .ok (.getfield 17, 3) := by decide +kernel
theorem dX8_thingAt_17 : decode cX8_thingAt 17 = .ok (.iload_n 1, 1) := by decide +kernel
theorem dX8_thingAt_18 : decode cX8_thingAt 18 = .ok (.aaload, 1) := by decide +kernel
theorem dX8_thingAt_19 : decode cX8_thingAt 19 = .ok (.goto 4, 3) := by decide +kernel
theorem dX8_thingAt_22 : decode cX8_thingAt 22 = .ok (.aconst_null, 1) := by decide +kernel
theorem dX8_thingAt_23 : decode cX8_thingAt 23 = .ok (.areturn, 1) := by decide +kernel
theorem dX8_worksAt_0 : decode cX8_worksAt 0 = .ok (.iload_n 1, 1) := by decide +kernel
theorem dX8_worksAt_1 : decode cX8_worksAt 1 = .ok (.ifCond .lt 21, 3) := by decide +kernel
theorem dX8_worksAt_4 : decode cX8_worksAt 4 = .ok (.iload_n 1, 1) := by decide +kernel
theorem dX8_worksAt_5 : decode cX8_worksAt 5 = .ok (.aload_n 0, 1) := by decide +kernel
theorem dX8_worksAt_6 : decode cX8_worksAt 6 = .ok (.getfield 23, 3) := by decide +kernel
theorem dX8_worksAt_9 : decode cX8_worksAt 9 = .ok (.arraylength, 1) := by decide +kernel
theorem dX8_worksAt_10 : decode cX8_worksAt 10 = .ok (.if_icmp .ge 12, 3) := by decide +kernel
theorem dX8_worksAt_13 : decode cX8_worksAt 13 = .ok (.aload_n 0, 1) := by decide +kernel
theorem dX8_worksAt_14 : decode cX8_worksAt 14 = .ok (.getfield 23, 3) := by decide +kernel
theorem dX8_worksAt_17 : decode cX8_worksAt 17 = .ok (.iload_n 1, 1) := by decide +kernel
theorem dX8_worksAt_18 : decode cX8_worksAt 18 = .ok (.aaload, 1) := by decide +kernel
theorem dX8_worksAt_19 : decode cX8_worksAt 19 = .ok (.goto 4, 3) := by decide +kernel
theorem dX8_worksAt_22 : decode cX8_worksAt 22 = .ok (.aconst_null, 1) := by decide +kernel
theorem dX8_worksAt_23 : decode cX8_worksAt 23 = .ok (.areturn, 1) := by decide +kernel
theorem dX8_partyAt_0 : decode cX8_partyAt 0 = .ok (.iload_n 1, 1) := by decide +kernel
theorem dX8_partyAt_1 : decode cX8_partyAt 1 = .ok (.ifCond .lt 21, 3) := by decide +kernel
theorem dX8_partyAt_4 : decode cX8_partyAt 4 = .ok (.iload_n 1, 1) := by decide +kernel
theorem dX8_partyAt_5 : decode cX8_partyAt 5 = .ok (.aload_n 0, 1) := by decide +kernel
theorem dX8_partyAt_6 : decode cX8_partyAt 6 = .ok (.getfield 29, 3) := by decide +kernel
theorem dX8_partyAt_9 : decode cX8_partyAt 9 = .ok (.arraylength, 1) := by decide +kernel
theorem dX8_partyAt_10 : decode cX8_partyAt 10 = .ok (.if_icmp .ge 12, 3) := by decide +kernel
theorem dX8_partyAt_13 : decode cX8_partyAt 13 = .ok (.aload_n 0, 1) := by decide +kernel
theorem dX8_partyAt_14 : decode cX8_partyAt 14 = .ok (.getfield 29, 3) := by decide +kernel
theorem dX8_partyAt_17 : decode cX8_partyAt 17 = .ok (.iload_n 1, 1) := by decide +kernel
theorem dX8_partyAt_18 : decode cX8_partyAt 18 = .ok (.aaload, 1) := by decide +kernel
theorem dX8_partyAt_19 : decode cX8_partyAt 19 = .ok (.goto 4, 3) := by decide +kernel
theorem dX8_partyAt_22 : decode cX8_partyAt 22 = .ok (.aconst_null, 1) := by decide +kernel
theorem dX8_partyAt_23 : decode cX8_partyAt 23 = .ok (.areturn, 1) := by decide +kernel
theorem dX8_isPromoter_0 : decode cX8_isPromoter 0 = .ok (.iload_n 0, 1) := by decide +kernel
theorem dX8_isPromoter_1 : decode cX8_isPromoter 1 = .ok (.ifCond .lt 12, 3) := by decide +kernel
theorem dX8_isPromoter_4 : decode cX8_isPromoter 4 = .ok (.iload_n 0, 1) := by decide +kernel
theorem dX8_isPromoter_5 : decode cX8_isPromoter 5 = .ok (.iconst 5, 1) := by decide +kernel
theorem dX8_isPromoter_6 : decode cX8_isPromoter 6 = .ok (.if_icmp .ge 7, 3) := by decide +kernel
theorem dX8_isPromoter_9 : decode cX8_isPromoter 9 = .ok (.iconst 1, 1) := by decide +kernel
theorem dX8_isPromoter_10 : decode cX8_isPromoter 10 = .ok (.goto 4, 3) := by decide +kernel
theorem dX8_isPromoter_13 : decode cX8_isPromoter 13 = .ok (.iconst 0, 1) := by decide +kernel
theorem dX8_isPromoter_14 : decode cX8_isPromoter 14 = .ok (.ireturn, 1) := by decide +kernel
theorem dX8_numberOf_0 : decode cX8_numberOf 0 = .ok (.aload_n 0, 1) := by decide +kernel
theorem dX8_numberOf_1 : decode cX8_numberOf 1 = .ok (.ifnonnull 7, 3) := by decide +kernel
theorem dX8_numberOf_4 : decode cX8_numberOf 4 = .ok (.iconst (-1), 1) := by decide +kernel
theorem dX8_numberOf_5 : decode cX8_numberOf 5 = .ok (.goto 7, 3) := by decide +kernel
theorem dX8_numberOf_8 : decode cX8_numberOf 8 = .ok (.aload_n 0, 1) := by decide +kernel
theorem dX8_numberOf_9 : decode cX8_numberOf 9 = .ok (.getfield 218, 3) := by decide +kernel
theorem dX8_numberOf_12 : decode cX8_numberOf 12 = .ok (.ireturn, 1) := by decide +kernel
theorem dX8_today_0 : decode cX8_today 0 = .ok (.aload_n 0, 1) := by decide +kernel
theorem dX8_today_1 : decode cX8_today 1 = .ok (.getfield 352, 3) := by decide +kernel
theorem dX8_today_4 : decode cX8_today 4 = .ok (.bipush 24, 2) := by decide +kernel
theorem dX8_today_6 : decode cX8_today 6 = .ok (.idiv, 1) := by decide +kernel
theorem dX8_today_7 : decode cX8_today 7 = .ok (.ireturn, 1) := by decide +kernel
theorem dX8_isBusy_0 : decode cX8_isBusy 0 = .ok (.aload_n 0, 1) := by decide +kernel
theorem dX8_isBusy_1 : decode cX8_isBusy 1 = .ok (.getfield 352, 3) := by decide +kernel
theorem dX8_isBusy_4 : decode cX8_isBusy 4 = .ok (.bipush 24, 2) := by decide +kernel
theorem dX8_isBusy_6 : decode cX8_isBusy 6 = .ok (.irem, 1) := by decide +kernel
theorem dX8_isBusy_7 : decode cX8_isBusy 7 = .ok (.istore_n 1, 1) := by decide +kernel
theorem dX8_isBusy_8 : decode cX8_isBusy 8 = .ok (.iload_n 1, 1) := by decide +kernel
theorem dX8_isBusy_9 : decode cX8_isBusy 9 = .ok (.bipush 7, 2) := by decide +kernel
theorem dX8_isBusy_11 : decode cX8_isBusy 11 = .ok (.if_icmp .lt 9, 3) := by decide +kernel
theorem dX8_isBusy_14 : decode cX8_isBusy 14 = .ok (.iload_n 1, 1) := by decide +kernel
theorem dX8_isBusy_15 : decode cX8_isBusy 15 = .ok (.bipush 9, 2) := by decide +kernel
theorem dX8_isBusy_17 : decode cX8_isBusy 17 = .ok (.if_icmp .le 15, 3) := by decide +kernel
theorem dX8_isBusy_20 : decode cX8_isBusy 20 = .ok (.iload_n 1, 1) := by decide +kernel
theorem dX8_isBusy_21 : decode cX8_isBusy 21 = .ok (.bipush 16, 2) := by decide +kernel
theorem dX8_isBusy_23 : decode cX8_isBusy 23 = .ok (.if_icmp .lt 13, 3) := by decide +kernel
theorem dX8_isBusy_26 : decode cX8_isBusy 26 = .ok (.iload_n 1, 1) := by decide +kernel
theorem dX8_isBusy_27 : decode cX8_isBusy 27 = .ok (.bipush 18, 2) := by decide +kernel
theorem dX8_isBusy_29 : decode cX8_isBusy 29 = .ok (.if_icmp .gt 7, 3) := by decide +kernel
theorem dX8_isBusy_32 : decode cX8_isBusy 32 = .ok (.iconst 1, 1) := by decide +kernel
theorem dX8_isBusy_33 : decode cX8_isBusy 33 = .ok (.goto 4, 3) := by decide +kernel
theorem dX8_isBusy_36 : decode cX8_isBusy 36 = .ok (.iconst 0, 1) := by decide +kernel
theorem dX8_isBusy_37 : decode cX8_isBusy 37 = .ok (.ireturn, 1) := by decide +kernel
theorem dX8_overlap_0 : decode cX8_overlap 0 = .ok (.iload_n 0, 1) := by decide +kernel
theorem dX8_overlap_1 : decode cX8_overlap 1 = .ok (.iload_n 3, 1) := by decide +kernel
theorem dX8_overlap_2 : decode cX8_overlap 2 = .ok (.if_icmp .gt 12, 3) := by decide +kernel
theorem dX8_overlap_5 : decode cX8_overlap 5 = .ok (.iload_n 2, 1) := by decide +kernel
theorem dX8_overlap_6 : decode cX8_overlap 6 = .ok (.iload_n 1, 1) := by decide +kernel
theorem dX8_overlap_7 : decode cX8_overlap 7 = .ok (.if_icmp .gt 7, 3) := by decide +kernel
theorem dX8_overlap_10 : decode cX8_overlap 10 = .ok (.iconst 1, 1) := by decide +kernel
theorem dX8_overlap_11 : decode cX8_overlap 11 = .ok (.goto 4, 3) := by decide +kernel
theorem dX8_overlap_14 : decode cX8_overlap 14 = .ok (.iconst 0, 1) := by decide +kernel
theorem dX8_overlap_15 : decode cX8_overlap 15 = .ok (.ireturn, 1) := by decide +kernel
theorem dX8_tell_0 : decode cX8_tell 0 = .ok (.aload_n 0, 1) := by decide +kernel
theorem dX8_tell_1 : decode cX8_tell 1 = .ok (.getfield 43, 3) := by decide +kernel
theorem dX8_tell_4 : decode cX8_tell 4 = .ok (.invokevirtual 91, 3) := by decide +kernel
theorem dX8_tell_7 : decode cX8_tell 7 = .ok (.sipush 512, 3) := by decide +kernel
theorem dX8_tell_10 : decode cX8_tell 10 = .ok (.if_icmp .ge 12, 3) := by decide +kernel
theorem dX8_tell_13 : decode cX8_tell 13 = .ok (.aload_n 0, 1) := by decide +kernel
theorem dX8_tell_14 : decode cX8_tell 14 = .ok (.getfield 43, 3) := by decide +kernel
theorem dX8_tell_17 : decode cX8_tell 17 = .ok (.aload_n 1, 1) := by decide +kernel
theorem dX8_tell_18 : decode cX8_tell 18 = .ok (.invokevirtual 450, 3) := by decide +kernel
theorem dX8_tell_21 : decode cX8_tell 21 = .ok (.pop, 1) := by decide +kernel
theorem dX8_tell_22 : decode cX8_tell 22 = .ok (.return_, 1) := by decide +kernel
theorem dX8_countFill_0 : decode cX8_countFill 0 = .ok (.aload_n 0, 1) := by decide +kernel
theorem dX8_countFill_1 : decode cX8_countFill 1 = .ok (.iload_n 1, 1) := by decide +kernel
theorem dX8_countFill_2 : decode cX8_countFill 2 = .ok (.invokevirtual 424, 3) := by decide +kernel
theorem dX8_countFill_5 : decode cX8_countFill 5 = .ok (.astore_n 2, 1) := by decide +kernel
theorem dX8_countFill_6 : decode cX8_countFill 6 = .ok (.aload_n 2, 1) := by decide +kernel
theorem dX8_countFill_7 : decode cX8_countFill 7 = .ok (.ifnull 13, 3) := by decide +kernel
theorem dX8_countFill_10 : decode cX8_countFill 10 = .ok (.aload_n 2, 1) := by decide +kernel
theorem dX8_countFill_11 : decode cX8_countFill 11 = .ok (.dup, 1) := by decide +kernel
theorem dX8_countFill_12 : decode cX8_countFill 12 = .ok (.getfield 436, 3) := by decide +kernel
theorem dX8_countFill_15 : decode cX8_countFill 15 = .ok (.iconst 1, 1) := by decide +kernel
theorem dX8_countFill_16 : decode cX8_countFill 16 = .ok (.iadd, 1) := by decide +kernel
theorem dX8_countFill_17 : decode cX8_countFill 17 = .ok (.putfield 436, 3) := by decide +kernel
theorem dX8_countFill_20 : decode cX8_countFill 20 = .ok (.return_, 1) := by decide +kernel
theorem dX8_countFault_0 : decode cX8_countFault 0 = .ok (.aload_n 0, 1) := by decide +kernel
theorem dX8_countFault_1 : decode cX8_countFault 1 = .ok (.iload_n 1, 1) := by decide +kernel
theorem dX8_countFault_2 : decode cX8_countFault 2 = .ok (.invokevirtual 424, 3) := by decide +kernel
theorem dX8_countFault_5 : decode cX8_countFault 5 = .ok (.astore_n 2, 1) := by decide +kernel
theorem dX8_countFault_6 : decode cX8_countFault 6 = .ok (.aload_n 2, 1) := by decide +kernel
theorem dX8_countFault_7 : decode cX8_countFault 7 = .ok (.ifnull 13, 3) := by decide +kernel
theorem dX8_countFault_10 : decode cX8_countFault 10 = .ok (.aload_n 2, 1) := by decide +kernel
theorem dX8_countFault_11 : decode cX8_countFault 11 = .ok (.dup, 1) := by decide +kernel
theorem dX8_countFault_12 : decode cX8_countFault 12 = .ok (.getfield 430, 3) := by decide +kernel
theorem dX8_countFault_15 : decode cX8_countFault 15 = .ok (.iconst 1, 1) := by decide +kernel
theorem dX8_countFault_16 : decode cX8_countFault 16 = .ok (.iadd, 1) := by decide +kernel
theorem dX8_countFault_17 : decode cX8_countFault 17 = .ok (.putfield 430, 3) := by decide +kernel
theorem dX8_countFault_20 : decode cX8_countFault 20 = .ok (.return_, 1) := by decide +kernel
theorem dX8_countCore_0 : decode cX8_countCore 0 = .ok (.aload_n 0, 1) := by decide +kernel
theorem dX8_countCore_1 : decode cX8_countCore 1 = .ok (.iload_n 1, 1) := by decide +kernel
theorem dX8_countCore_2 : decode cX8_countCore 2 = .ok (.invokevirtual 424, 3) := by decide +kernel
theorem dX8_countCore_5 : decode cX8_countCore 5 = .ok (.astore_n 2, 1) := by decide +kernel
theorem dX8_countCore_6 : decode cX8_countCore 6 = .ok (.aload_n 2, 1) := by decide +kernel
theorem dX8_countCore_7 : decode cX8_countCore 7 = .ok (.ifnull 13, 3) := by decide +kernel
theorem dX8_countCore_10 : decode cX8_countCore 10 = .ok (.aload_n 2, 1) := by decide +kernel
theorem dX8_countCore_11 : decode cX8_countCore 11 = .ok (.dup, 1) := by decide +kernel
theorem dX8_countCore_12 : decode cX8_countCore 12 = .ok (.getfield 437, 3) := by decide +kernel
theorem dX8_countCore_15 : decode cX8_countCore 15 = .ok (.iconst 1, 1) := by decide +kernel
theorem dX8_countCore_16 : decode cX8_countCore 16 = .ok (.iadd, 1) := by decide +kernel
theorem dX8_countCore_17 : decode cX8_countCore 17 = .ok (.putfield 437, 3) := by decide +kernel
theorem dX8_countCore_20 : decode cX8_countCore 20 = .ok (.return_, 1) := by decide +kernel
theorem dX8_pay_0 : decode cX8_pay 0 = .ok (.aload_n 0, 1) := by decide +kernel
theorem dX8_pay_1 : decode cX8_pay 1 = .ok (.iload_n 1, 1) := by decide +kernel
theorem dX8_pay_2 : decode cX8_pay 2 = .ok (.invokevirtual 424, 3) := by decide +kernel
theorem dX8_pay_5 : decode cX8_pay 5 = .ok (.astore 4, 2) := by decide +kernel
theorem dX8_pay_7 : decode cX8_pay 7 = .ok (.aload_n 0, 1) := by decide +kernel
theorem dX8_pay_8 : decode cX8_pay 8 = .ok (.iload_n 2, 1) := by decide +kernel
theorem dX8_pay_9 : decode cX8_pay 9 = .ok (.invokevirtual 424, 3) := by decide +kernel
theorem dX8_pay_12 : decode cX8_pay 12 = .ok (.astore 5, 2) := by decide +kernel
theorem dX8_pay_14 : decode cX8_pay 14 = .ok (.aload 4, 2) := by decide +kernel
theorem dX8_pay_16 : decode cX8_pay 16 = .ok (.ifnull 42, 3) := by decide +kernel
theorem dX8_pay_19 : decode cX8_pay 19 = .ok (.aload 5, 2) := by decide +kernel
theorem dX8_pay_21 : decode cX8_pay 21 = .ok (.ifnull 37, 3) := by decide +kernel
theorem dX8_pay_24 : decode cX8_pay 24 = .ok (.aload 4, 2) := by decide +kernel
theorem dX8_pay_26 : decode cX8_pay 26 = .ok (.dup, 1) := by decide +kernel
theorem dX8_pay_27 : decode cX8_pay 27 = .ok (.getfield 442, 3) := by decide +kernel
theorem dX8_pay_30 : decode cX8_pay 30 = .ok (.iload_n 3, 1) := by decide +kernel
theorem dX8_pay_31 : decode cX8_pay 31 = .ok (.i2l, 1) := by decide +kernel
theorem dX8_pay_32 : decode cX8_pay 32 = .ok (.lsub, 1) := by decide +kernel
theorem dX8_pay_33 : decode cX8_pay 33 = .ok (.putfield 442, 3) := by decide +kernel
theorem dX8_pay_36 : decode cX8_pay 36 = .ok (.aload 5, 2) := by decide +kernel
theorem dX8_pay_38 : decode cX8_pay 38 = .ok (.dup, 1) := by decide +kernel
theorem dX8_pay_39 : decode cX8_pay 39 = .ok (.getfield 442, 3) := by decide +kernel
theorem dX8_pay_42 : decode cX8_pay 42 = .ok (.iload_n 3, 1) := by decide +kernel
theorem dX8_pay_43 : decode cX8_pay 43 = .ok (.i2l, 1) := by decide +kernel
theorem dX8_pay_44 : decode cX8_pay 44 = .ok (.ladd, 1) := by decide +kernel
theorem dX8_pay_45 : decode cX8_pay 45 = .ok (.putfield 442, 3) := by decide +kernel
theorem dX8_pay_48 : decode cX8_pay 48 = .ok (.aload_n 0, 1) := by decide +kernel
theorem dX8_pay_49 : decode cX8_pay 49 = .ok (.getfield 36, 3) := by decide +kernel
theorem dX8_pay_52 : decode cX8_pay 52 = .ok (.iload_n 1, 1) := by decide +kernel
theorem dX8_pay_53 : decode cX8_pay 53 = .ok (.iload_n 2, 1) := by decide +kernel
theorem dX8_pay_54 : decode cX8_pay 54 = .ok (.iload_n 3, 1) := by decide +kernel
theorem dX8_pay_55 : decode cX8_pay 55 = .ok (.invokevirtual 454, 3) := by decide +kernel
theorem dX8_pay_58 : decode cX8_pay 58 = .ok (.return_, 1) := by decide +kernel
theorem dX8_suspects_0 : decode cX8_suspects 0 = .ok (.iconst 0, 1) := by decide +kernel
theorem dX8_suspects_1 : decode cX8_suspects 1 = .ok (.istore 4, 2) := by decide +kernel
theorem dX8_suspects_3 : decode cX8_suspects 3 = .ok (.iconst 0, 1) := by decide +kernel
theorem dX8_suspects_4 : decode cX8_suspects 4 = .ok (.istore 5, 2) := by decide +kernel
theorem dX8_suspects_6 : decode cX8_suspects 6 = .ok (.iload 5, 2) := by decide +kernel
theorem dX8_suspects_8 : decode cX8_suspects 8 = .ok (.aload_n 0, 1) := by decide +kernel
theorem dX8_suspects_9 : decode cX8_suspects 9 = .ok (.getfield 17, 3) := by decide +kernel
theorem dX8_suspects_12 : decode cX8_suspects 12 = .ok (.arraylength, 1) := by decide +kernel
theorem dX8_suspects_13 : decode cX8_suspects 13 = .ok (.if_icmp .ge 67, 3) := by decide +kernel
theorem dX8_suspects_16 : decode cX8_suspects 16 = .ok (.aload_n 0, 1) := by decide +kernel
theorem dX8_suspects_17 : decode cX8_suspects 17 = .ok (.getfield 17, 3) := by decide +kernel
theorem dX8_suspects_20 : decode cX8_suspects 20 = .ok (.iload 5, 2) := by decide +kernel
theorem dX8_suspects_22 : decode cX8_suspects 22 = .ok (.aaload, 1) := by decide +kernel
theorem dX8_suspects_23 : decode cX8_suspects 23 = .ok (.astore 6, 2) := by decide +kernel
theorem dX8_suspects_25 : decode cX8_suspects 25 = .ok (.aload 6, 2) := by decide +kernel
theorem dX8_suspects_27 : decode cX8_suspects 27 = .ok (.ifnull 47, 3) := by decide +kernel
theorem dX8_suspects_30 : decode cX8_suspects 30 = .ok (.aload 6, 2) := by decide +kernel
theorem dX8_suspects_32 : decode cX8_suspects 32 = .ok (.getfield 161, 3) := by decide +kernel
theorem dX8_suspects_35 : decode cX8_suspects 35 = .ok (.aload_n 1, 1) := by decide +kernel
theorem dX8_suspects_36 : decode cX8_suspects 36 = .ok (.if_acmp .ne 38, 3) := by decide +kernel
theorem dX8_suspects_39 : decode cX8_suspects 39 = .ok (.aload 6, 2) := by decide +kernel
theorem dX8_suspects_41 : decode cX8_suspects 41 = .ok (.getfield 175, 3) := by decide +kernel
theorem dX8_suspects_44 : decode cX8_suspects 44 = .ok (.ifCond .eq 30, 3) := by decide +kernel
theorem dX8_suspects_47 : decode cX8_suspects 47 = .ok (.iload_n 2, 1) := by decide +kernel
theorem dX8_suspects_48 : decode cX8_suspects 48 = .ok (.iload_n 3, 1) := by decide +kernel
theorem dX8_suspects_49 : decode cX8_suspects 49 = .ok (.aload 6, 2) := by decide +kernel
theorem dX8_suspects_51 : decode cX8_suspects 51 = .ok (.getfield 457, 3) := by decide +kernel
theorem dX8_suspects_54 : decode cX8_suspects 54 = .ok (.aload 6, 2) := by decide +kernel
theorem dX8_suspects_56 : decode cX8_suspects 56 = .ok (.getfield 460, 3) := by decide +kernel
theorem dX8_suspects_59 : decode cX8_suspects 59 = .ok (.invokestatic 463, 3) := by decide +kernel
theorem dX8_suspects_62 : decode cX8_suspects 62 = .ok (.ifCond .eq 12, 3) := by decide +kernel
theorem dX8_suspects_65 : decode cX8_suspects 65 = .ok (.iload 4, 2) := by decide +kernel
theorem dX8_suspects_67 : decode cX8_suspects 67 = .ok (.iconst 1, 1) := by decide +kernel
theorem dX8_suspects_68 : decode cX8_suspects 68 = .ok (.iload 5, 2) := by decide +kernel
theorem dX8_suspects_70 : decode cX8_suspects 70 = .ok (.ishl, 1) := by decide +kernel
theorem dX8_suspects_71 : decode cX8_suspects 71 = .ok (.ior, 1) := by decide +kernel
theorem dX8_suspects_72 : decode cX8_suspects 72 = .ok (.istore 4, 2) := by decide +kernel
theorem dX8_suspects_74 : decode cX8_suspects 74 = .ok (.iinc 5 1, 3) := by decide +kernel
theorem dX8_suspects_77 : decode cX8_suspects 77 = .ok (.goto (-71), 3) := by decide +kernel
theorem dX8_suspects_80 : decode cX8_suspects 80 = .ok (.iload 4, 2) := by decide +kernel
theorem dX8_suspects_82 : decode cX8_suspects 82 = .ok (.ireturn, 1) := by decide +kernel
theorem dX8_isSuspect_0 : decode cX8_isSuspect 0 = .ok (.aload_n 0, 1) := by decide +kernel
theorem dX8_isSuspect_1 : decode cX8_isSuspect 1 = .ok (.aload_n 1, 1) := by decide +kernel
theorem dX8_isSuspect_2 : decode cX8_isSuspect 2 = .ok (.iload_n 2, 1) := by decide +kernel
theorem dX8_isSuspect_3 : decode cX8_isSuspect 3 = .ok (.iload_n 2, 1) := by decide +kernel
theorem dX8_isSuspect_4 : decode cX8_isSuspect 4 = .ok (.invokevirtual 417, 3) := by decide +kernel
theorem dX8_isSuspect_7 : decode cX8_isSuspect 7 = .ok (.ifCond .eq 7, 3) := by decide +kernel
theorem dX8_isSuspect_10 : decode cX8_isSuspect 10 = .ok (.iconst 1, 1) := by decide +kernel
theorem dX8_isSuspect_11 : decode cX8_isSuspect 11 = .ok (.goto 4, 3) := by decide +kernel
theorem dX8_isSuspect_14 : decode cX8_isSuspect 14 = .ok (.iconst 0, 1) := by decide +kernel
theorem dX8_isSuspect_15 : decode cX8_isSuspect 15 = .ok (.ireturn, 1) := by decide +kernel
theorem dX8_strikeThings_0 : decode cX8_strikeThings 0 = .ok (.iconst 0, 1) := by decide +kernel
theorem dX8_strikeThings_1 : decode cX8_strikeThings 1 = .ok (.istore_n 3, 1) := by decide +kernel
theorem dX8_strikeThings_2 : decode cX8_strikeThings 2 = .ok (.iconst 0, 1) := by decide +kernel
theorem dX8_strikeThings_3 : decode cX8_strikeThings 3 = .ok (.istore 4, 2) := by decide +kernel
theorem dX8_strikeThings_5 : decode cX8_strikeThings 5 = .ok (.iload 4, 2) := by decide +kernel
theorem dX8_strikeThings_7 : decode cX8_strikeThings 7 = .ok (.aload_n 0, 1) := by decide +kernel
theorem dX8_strikeThings_8 : decode cX8_strikeThings 8 = .ok (.getfield 17, 3) := by decide +kernel
theorem dX8_strikeThings_11 : decode cX8_strikeThings 11 = .ok (.arraylength, 1) := by decide +kernel
theorem dX8_strikeThings_12 : decode cX8_strikeThings 12 = .ok (.if_icmp .ge 67, 3) := by decide +kernel
theorem dX8_strikeThings_15 : decode cX8_strikeThings 15 = .ok (.aload_n 0, 1) := by decide +kernel
theorem dX8_strikeThings_16 : decode cX8_strikeThings 16 = .ok (.getfield 17, 3) := by decide +kernel
theorem dX8_strikeThings_19 : decode cX8_strikeThings 19 = .ok (.iload 4, 2) := by decide +kernel
theorem dX8_strikeThings_21 : decode cX8_strikeThings 21 = .ok (.aaload, 1) := by decide +kernel
theorem dX8_strikeThings_22 : decode cX8_strikeThings 22 = .ok (.astore 5, 2) := by decide +kernel
theorem dX8_strikeThings_24 : decode cX8_strikeThings 24 = .ok (.aload 5, 2) := by decide +kernel
theorem dX8_strikeThings_26 : decode cX8_strikeThings 26 = .ok (.ifnull 47, 3) := by decide +kernel
theorem dX8_strikeThings_29 : decode cX8_strikeThings 29 = .ok (.aload 5, 2) := by decide +kernel
theorem dX8_strikeThings_31 : decode cX8_strikeThings 31 = .ok (.aload_n 1, 1) := by decide +kernel
theorem dX8_strikeThings_32 : decode cX8_strikeThings 32 = .ok (.getfield 114, 3) := by decide +kernel
theorem dX8_strikeThings_35 : decode cX8_strikeThings 35 = .ok (.iload_n 2, 1) := by decide +kernel
theorem dX8_strikeThings_36 : decode cX8_strikeThings 36 = .ok (.invokevirtual 191, 3) := by decide +kernel
theorem dX8_strikeThings_39 : decode cX8_strikeThings 39 = .ok (.ifCond .eq 34, 3) := by decide +kernel
theorem dX8_strikeThings_42 : decode cX8_strikeThings 42 = .ok (.aload 5, 2) := by decide +kernel
theorem dX8_strikeThings_44 : decode cX8_strikeThings 44 = .ok (.getfield 467, 3) := by decide +kernel
theorem dX8_strikeThings_47 : decode cX8_strikeThings 47 = .ok (.aload_n 1, 1) := by decide +kernel
theorem dX8_strikeThings_48 : decode cX8_strikeThings 48 = .ok (.getfield 398, 3) := by decide +kernel
theorem dX8_strikeThings_51 : decode cX8_strikeThings 51 = .ok (.if_icmp .gt 22, 3) := by decide +kernel
theorem dX8_strikeThings_54 : decode cX8_strikeThings 54 = .ok (.aload_n 0, 1) := by decide +kernel
theorem dX8_strikeThings_55 : decode cX8_strikeThings 55 = .ok (.aload_n 1, 1) := by decide +kernel
theorem dX8_strikeThings_56 : decode cX8_strikeThings 56 = .ok (.getfield 319, 3) := by decide +kernel
theorem dX8_strikeThings_59 : decode cX8_strikeThings 59 = .ok (.aload 5, 2) := by decide +kernel
theorem dX8_strikeThings_61 : decode cX8_strikeThings 61 = .ok (.getfield 468, 3) := by decide +kernel
theorem dX8_strikeThings_64 : decode cX8_strikeThings 64 = .ok (.sipush 1000, 3) := by decide +kernel
theorem dX8_strikeThings_67 : decode cX8_strikeThings 67 = .ok (.invokevirtual 366, 3) := by decide +kernel
theorem dX8_strikeThings_70 : decode cX8_strikeThings 70 = .ok (.iinc 3 1, 3) := by decide +kernel
theorem dX8_strikeThings_73 : decode cX8_strikeThings 73 = .ok (.iinc 4 1, 3) := by decide +kernel
theorem dX8_strikeThings_76 : decode cX8_strikeThings 76 = .ok (.goto (-71), 3) := by decide +kernel
theorem dX8_strikeThings_79 : decode cX8_strikeThings 79 = .ok (.aload_n 1, 1) := by decide +kernel
theorem dX8_strikeThings_80 : decode cX8_strikeThings 80 = .ok (.dup, 1) := by decide +kernel
theorem dX8_strikeThings_81 : decode cX8_strikeThings 81 = .ok (.getfield 328, 3) := by decide +kernel
theorem dX8_strikeThings_84 : decode cX8_strikeThings 84 = .ok (.iload_n 3, 1) := by decide +kernel
theorem dX8_strikeThings_85 : decode cX8_strikeThings 85 = .ok (.iadd, 1) := by decide +kernel
theorem dX8_strikeThings_86 : decode cX8_strikeThings 86 = .ok (.putfield 328, 3) := by decide +kernel
theorem dX8_strikeThings_89 : decode cX8_strikeThings 89 = .ok (.iload_n 3, 1) := by decide +kernel
theorem dX8_strikeThings_90 : decode cX8_strikeThings 90 = .ok (.ireturn, 1) := by decide +kernel
theorem dX8_permit_0 : decode cX8_permit 0 = .ok (.aload_n 1, 1) := by decide +kernel
theorem dX8_permit_1 : decode cX8_permit 1 = .ok (.iconst 1, 1) := by decide +kernel
theorem dX8_permit_2 : decode cX8_permit 2 = .ok (.putfield 118, 3) := by decide +kernel
theorem dX8_permit_5 : decode cX8_permit 5 = .ok (.aload_n 1, 1) := by decide +kernel
theorem dX8_permit_6 : decode cX8_permit 6 = .ok (.iload_n 2, 1) := by decide +kernel
theorem dX8_permit_7 : decode cX8_permit 7 = .ok (.putfield 249, 3) := by decide +kernel
theorem dX8_permit_10 : decode cX8_permit 10 = .ok (.aload_n 0, 1) := by decide +kernel
theorem dX8_permit_11 : decode cX8_permit 11 = .ok (.aload_n 1, 1) := by decide +kernel
theorem dX8_permit_12 : decode cX8_permit 12 = .ok (.getfield 319, 3) := by decide +kernel
theorem dX8_permit_15 : decode cX8_permit 15 = .ok (.iconst 5, 1) := by decide +kernel
theorem dX8_permit_16 : decode cX8_permit 16 = .ok (.aload_n 1, 1) := by decide +kernel
theorem dX8_permit_17 : decode cX8_permit 17 = .ok (.invokevirtual 239, 3) := by decide +kernel
theorem dX8_permit_20 : decode cX8_permit 20 = .ok (.invokevirtual 366, 3) := by decide +kernel
theorem dX8_permit_23 : decode cX8_permit 23 = .ok (.return_, 1) := by decide +kernel
theorem dX8_whatBars_0 : decode cX8_whatBars 0 = .ok (.aload_n 1, 1) := by decide +kernel
theorem dX8_whatBars_1 : decode cX8_whatBars 1 = .ok (.getfield 471, 3) := by decide +kernel
theorem dX8_whatBars_4 : decode cX8_whatBars 4 = .ok (.iconst 3, 1) := by decide +kernel
theorem dX8_whatBars_5 : decode cX8_whatBars 5 = .ok (.if_icmp .ne 5, 3) := by decide +kernel
theorem dX8_whatBars_8 : decode cX8_whatBars 8 = .ok (.iconst 0, 1) := by decide +kernel
theorem dX8_whatBars_9 : decode cX8_whatBars 9 = .ok (.ireturn, 1) := by decide +kernel
theorem dX8_whatBars_10 : decode cX8_whatBars 10 = .ok (.aload_n 1, 1) := by decide +kernel
theorem dX8_whatBars_11 : decode cX8_whatBars 11 = .ok (.aload_n 0, 1) := by decide +kernel
theorem dX8_whatBars_12 : decode cX8_whatBars 12 = .ok (.invokevirtual 84, 3) := by decide +kernel
theorem dX8_whatBars_15 : decode cX8_whatBars 15 = .ok (.invokevirtual 347, 3) := by decide +kernel
theorem dX8_whatBars_18 : decode cX8_whatBars 18 = .ok (.istore_n 2, 1) := by decide +kernel
theorem dX8_whatBars_19 : decode cX8_whatBars 19 = .ok (.aload_n 1, 1) := by decide +kernel
theorem dX8_whatBars_20 : decode cX8_whatBars 20 = .ok (.getfield 114, 3) := by decide +kernel
theorem dX8_whatBars_23 : decode cX8_whatBars 23 = .ok (.aload_n 1, 1) := by decide +kernel
theorem dX8_whatBars_24 : decode cX8_whatBars 24 = .ok (.getfield 121, 3) := by decide +kernel
theorem dX8_whatBars_27 : decode cX8_whatBars 27 = .ok (.iload_n 2, 1) := by decide +kernel
theorem dX8_whatBars_28 : decode cX8_whatBars 28 = .ok (.invokevirtual 127, 3) := by decide +kernel
theorem dX8_whatBars_31 : decode cX8_whatBars 31 = .ok (.ifCond .eq 5, 3) := by decide +kernel
theorem dX8_whatBars_34 : decode cX8_whatBars 34 = .ok (.iconst 1, 1) := by decide +kernel
theorem dX8_whatBars_35 : decode cX8_whatBars 35 = .ok (.ireturn, 1) := by decide +kernel
theorem dX8_whatBars_36 : decode cX8_whatBars 36 = .ok (.aload_n 1, 1) := by decide +kernel
theorem dX8_whatBars_37 : decode cX8_whatBars 37 = .ok (.getfield 255, 3) := by decide +kernel
theorem dX8_whatBars_40 : decode cX8_whatBars 40 = .ok (.ifCond .ne 20, 3) := by decide +kernel
theorem dX8_whatBars_43 : decode cX8_whatBars 43 = .ok (.aload_n 1, 1) := by decide +kernel
theorem dX8_whatBars_44 : decode cX8_whatBars 44 = .ok (.getfield 114, 3) := by decide +kernel
theorem dX8_whatBars_47 : decode cX8_whatBars 47 = .ok (.aload_n 1, 1) := by decide +kernel
theorem dX8_whatBars_48 : decode cX8_whatBars 48 = .ok (.getfield 121, 3) := by decide +kernel
theorem dX8_whatBars_51 : decode cX8_whatBars 51 = .ok (.iload_n 2, 1) := by decide +kernel
theorem dX8_whatBars_52 : decode cX8_whatBars 52 = .ok (.invokevirtual 474, 3) := by decide +kernel
theorem dX8_whatBars_55 : decode cX8_whatBars 55 = .ok (.ifCond .eq 5, 3) := by decide +kernel
theorem dX8_whatBars_58 : decode cX8_whatBars 58 = .ok (.iconst 2, 1) := by decide +kernel
theorem dX8_whatBars_59 : decode cX8_whatBars 59 = .ok (.ireturn, 1) := by decide +kernel
theorem dX8_whatBars_60 : decode cX8_whatBars 60 = .ok (.aload_n 0, 1) := by decide +kernel
theorem dX8_whatBars_61 : decode cX8_whatBars 61 = .ok (.aload_n 1, 1) := by decide +kernel
theorem dX8_whatBars_62 : decode cX8_whatBars 62 = .ok (.iload_n 2, 1) := by decide +kernel
theorem dX8_whatBars_63 : decode cX8_whatBars 63 = .ok (.iconst 0, 1) := by decide +kernel
theorem dX8_whatBars_64 : decode cX8_whatBars 64 = .ok (.iconst 1, 1) := by decide +kernel
theorem dX8_whatBars_65 : decode cX8_whatBars 65 = .ok (.invokevirtual 339, 3) := by decide +kernel
theorem dX8_whatBars_68 : decode cX8_whatBars 68 = .ok (.iconst (-1), 1) := by decide +kernel
theorem dX8_whatBars_69 : decode cX8_whatBars 69 = .ok (.if_icmp .ne 7, 3) := by decide +kernel
theorem dX8_whatBars_72 : decode cX8_whatBars 72 = .ok (.iconst 0, 1) := by decide +kernel
theorem dX8_whatBars_73 : decode cX8_whatBars 73 = .ok (.goto 4, 3) := by decide +kernel
theorem dX8_whatBars_76 : decode cX8_whatBars 76 = .ok (.iconst 3, 1) := by decide +kernel
theorem dX8_whatBars_77 : decode cX8_whatBars 77 = .ok (.ireturn, 1) := by decide +kernel
theorem dX8_firstMet_0 : decode cX8_firstMet 0 = .ok (.iload_n 3, 1) := by decide +kernel
theorem dX8_firstMet_1 : decode cX8_firstMet 1 = .ok (.istore 5, 2) := by decide +kernel
theorem dX8_firstMet_3 : decode cX8_firstMet 3 = .ok (.iload 5, 2) := by decide +kernel
theorem dX8_firstMet_5 : decode cX8_firstMet 5 = .ok (.aload_n 0, 1) := by decide +kernel
theorem dX8_firstMet_6 : decode cX8_firstMet 6 = .ok (.getfield 23, 3) := by decide +kernel
theorem dX8_firstMet_9 : decode cX8_firstMet 9 = .ok (.arraylength, 1) := by decide +kernel
theorem dX8_firstMet_10 : decode cX8_firstMet 10 = .ok (.if_icmp .ge 99, 3) := by decide +kernel
theorem dX8_firstMet_13 : decode cX8_firstMet 13 = .ok (.aload_n 0, 1) := by decide +kernel
theorem dX8_firstMet_14 : decode cX8_firstMet 14 = .ok (.iload 5, 2) := by decide +kernel
theorem dX8_firstMet_16 : decode cX8_firstMet 16 = .ok (.invokevirtual 221, 3) := by decide +kernel
theorem dX8_firstMet_19 : decode cX8_firstMet 19 = .ok (.astore 6, 2) := by decide +kernel
theorem dX8_firstMet_21 : decode cX8_firstMet 21 = .ok (.aload 6, 2) := by decide +kernel
theorem dX8_firstMet_23 : decode cX8_firstMet 23 = .ok (.ifnull 80, 3) := by decide +kernel
theorem dX8_firstMet_26 : decode cX8_firstMet 26 = .ok (.aload 6, 2) := by decide +kernel
theorem dX8_firstMet_28 : decode cX8_firstMet 28 = .ok (.aload_n 1, 1) := by decide +kernel
theorem dX8_firstMet_29 : decode cX8_firstMet 29 = .ok (.if_acmp .eq 74, 3) := by decide +kernel
theorem dX8_firstMet_32 : decode cX8_firstMet 32 = .ok (.iload 4, 2) := by decide +kernel
theorem dX8_firstMet_34 : decode cX8_firstMet 34 = .ok (.ifCond .eq 14, 3) := by decide +kernel
theorem dX8_firstMet_37 : decode cX8_firstMet 37 = .ok (.aload 6, 2) := by decide +kernel
theorem dX8_firstMet_39 : decode cX8_firstMet 39 = .ok (.invokevirtual 244, 3) := by decide +kernel
theorem dX8_firstMet_42 : decode cX8_firstMet 42 = .ok (.ifCond .ne 6, 3) := by decide +kernel
theorem dX8_firstMet_45 : decode cX8_firstMet 45 = .ok (.goto 58, 3) := by decide +kernel
theorem dX8_firstMet_48 : decode cX8_firstMet 48 = .ok (.aload_n 1, 1) := by decide +kernel
theorem dX8_firstMet_49 : decode cX8_firstMet 49 = .ok (.aload 6, 2) := by decide +kernel
theorem dX8_firstMet_51 : decode cX8_firstMet 51 = .ok (.invokestatic 477, 3) := by decide +kernel
theorem dX8_firstMet_54 : decode cX8_firstMet 54 = .ok (.ifCond .eq 49, 3) := by decide +kernel
theorem dX8_firstMet_57 : decode cX8_firstMet 57 = .ok (.aload_n 1, 1) := by decide +kernel
theorem dX8_firstMet_58 : decode cX8_firstMet 58 = .ok (.getfield 121, 3) := by decide +kernel
theorem dX8_firstMet_61 : decode cX8_firstMet 61 = .ok (.iload_n 2, 1) := by decide +kernel
theorem dX8_firstMet_62 : decode cX8_firstMet 62 = .ok (.aload 6, 2) := by decide +kernel
theorem dX8_firstMet_64 : decode cX8_firstMet 64 = .ok (.getfield 121, 3) := by decide +kernel
theorem dX8_firstMet_67 : decode cX8_firstMet 67 = .ok (.aload 6, 2) := by decide +kernel
theorem dX8_firstMet_69 : decode cX8_firstMet 69 = .ok (.aload_n 0, 1) := by decide +kernel
theorem dX8_firstMet_70 : decode cX8_firstMet 70 = .ok (.invokevirtual 84, 3) := by decide +kernel
theorem dX8_firstMet_73 : decode cX8_firstMet 73 = .ok (.invokevirtual 347, 3) := by decide +kernel
theorem dX8_firstMet_76 : decode cX8_firstMet 76 = .ok (.invokestatic 463, 3) := by decide +kernel
theorem dX8_firstMet_79 : decode cX8_firstMet 79 = .ok (.ifCond .eq 24, 3) := by decide +kernel
theorem dX8_firstMet_82 : decode cX8_firstMet 82 = .ok (.aload_n 1, 1) := by decide +kernel
theorem dX8_firstMet_83 : decode cX8_firstMet 83 = .ok (.aload 6, 2) := by decide +kernel
theorem dX8_firstMet_85 : decode cX8_firstMet 85 = .ok (.invokevirtual 266, 3) := by decide +kernel
theorem dX8_firstMet_88 : decode cX8_firstMet 88 = .ok (.ifCond .ne 15, 3) := by decide +kernel
theorem dX8_firstMet_91 : decode cX8_firstMet 91 = .ok (.aload_n 1, 1) := by decide +kernel
theorem dX8_firstMet_92 : decode cX8_firstMet 92 = .ok (.aload 6, 2) := by decide +kernel
theorem dX8_firstMet_94 : decode cX8_firstMet 94 = .ok (.invokestatic 481, 3) := by decide +kernel
theorem dX8_firstMet_97 : decode cX8_firstMet 97 = .ok (.ifCond .eq 6, 3) := by decide +kernel
theorem dX8_firstMet_100 : decode cX8_firstMet 100 = .ok (.iload 5, 2) := by decide +kernel
theorem dX8_firstMet_102 : decode cX8_firstMet 102 = .ok (.ireturn, 1) := by decide +kernel
theorem dX8_firstMet_103 : decode cX8_firstMet 103 = .ok (.iinc 5 1, 3) := by decide +kernel
theorem dX8_firstMet_106 : decode cX8_firstMet 106 = .ok (.goto (-103), 3) := by decide +kernel
theorem dX8_firstMet_109 : decode cX8_firstMet 109 = .ok (.iconst (-1), 1) := by decide +kernel
theorem dX8_firstMet_110 : decode cX8_firstMet 110 = .ok (.ireturn, 1) := by decide +kernel
theorem dX8_goOneHour_0 : decode cX8_goOneHour 0 = .ok (.aload_n 0, 1) := by decide +kernel
theorem dX8_goOneHour_1 : decode cX8_goOneHour 1 = .ok (.dup, 1) := by decide +kernel
theorem dX8_goOneHour_2 : decode cX8_goOneHour 2 = .ok (.getfield 352, 3) := by decide +kernel
theorem dX8_goOneHour_5 : decode cX8_goOneHour 5 = .ok (.iconst 1, 1) := by decide +kernel
theorem dX8_goOneHour_6 : decode cX8_goOneHour 6 = .ok (.iadd, 1) := by decide +kernel
theorem dX8_goOneHour_7 : decode cX8_goOneHour 7 = .ok (.putfield 352, 3) := by decide +kernel
theorem dX8_goOneHour_10 : decode cX8_goOneHour 10 = .ok (.aload_n 0, 1) := by decide +kernel
theorem dX8_goOneHour_11 : decode cX8_goOneHour 11 = .ok (.getfield 352, 3) := by decide +kernel
theorem dX8_goOneHour_14 : decode cX8_goOneHour 14 = .ok (.bipush 24, 2) := by decide +kernel
theorem dX8_goOneHour_16 : decode cX8_goOneHour 16 = .ok (.irem, 1) := by decide +kernel
theorem dX8_goOneHour_17 : decode cX8_goOneHour 17 = .ok (.ifCond .ne 11, 3) := by decide +kernel
theorem dX8_goOneHour_20 : decode cX8_goOneHour 20 = .ok (.aload_n 0, 1) := by decide +kernel
theorem dX8_goOneHour_21 : decode cX8_goOneHour 21 = .ok (.invokevirtual 484, 3) := by decide +kernel
theorem dX8_goOneHour_24 : decode cX8_goOneHour 24 = .ok (.aload_n 0, 1) := by decide +kernel
theorem dX8_goOneHour_25 : decode cX8_goOneHour 25 = .ok (.invokevirtual 487, 3) := by decide +kernel
theorem dX8_goOneHour_28 : decode cX8_goOneHour 28 = .ok (.aload_n 0, 1) := by decide +kernel
theorem dX8_goOneHour_29 : decode cX8_goOneHour 29 = .ok (.invokevirtual 490, 3) := by decide +kernel
theorem dX8_goOneHour_32 : decode cX8_goOneHour 32 = .ok (.aload_n 0, 1) := by decide +kernel
theorem dX8_goOneHour_33 : decode cX8_goOneHour 33 = .ok (.invokevirtual 283, 3) := by decide +kernel
theorem dX8_goOneHour_36 : decode cX8_goOneHour 36 = .ok (.ifCond .eq 7, 3) := by decide +kernel
theorem dX8_goOneHour_39 : decode cX8_goOneHour 39 = .ok (.aload_n 0, 1) := by decide +kernel
theorem dX8_goOneHour_40 : decode cX8_goOneHour 40 = .ok (.invokevirtual 493, 3) := by decide +kernel
theorem dX8_goOneHour_43 : decode cX8_goOneHour 43 = .ok (.aload_n 0, 1) := by decide +kernel
theorem dX8_goOneHour_44 : decode cX8_goOneHour 44 = .ok (.invokevirtual 496, 3) := by decide +kernel
theorem dX8_goOneHour_47 : decode cX8_goOneHour 47 = .ok (.return_, 1) := by decide +kernel
theorem dX8_settleAsked_0 : decode cX8_settleAsked 0 = .ok (.iconst 0, 1) := by decide +kernel
theorem dX8_settleAsked_1 : decode cX8_settleAsked 1 = .ok (.istore_n 1, 1) := by decide +kernel
theorem dX8_settleAsked_2 : decode cX8_settleAsked 2 = .ok (.iload_n 1, 1) := by decide +kernel
theorem dX8_settleAsked_3 : decode cX8_settleAsked 3 = .ok (.aload_n 0, 1) := by decide +kernel
theorem dX8_settleAsked_4 : decode cX8_settleAsked 4 = .ok (.getfield 23, 3) := by decide +kernel
theorem dX8_settleAsked_7 : decode cX8_settleAsked 7 = .ok (.arraylength, 1) := by decide +kernel
theorem dX8_settleAsked_8 : decode cX8_settleAsked 8 = .ok (.if_icmp .ge 60, 3) := by decide +kernel
theorem dX8_settleAsked_11 : decode cX8_settleAsked 11 = .ok (.aload_n 0, 1) := by decide +kernel
theorem dX8_settleAsked_12 : decode cX8_settleAsked 12 = .ok (.getfield 23, 3) := by decide +kernel
theorem dX8_settleAsked_15 : decode cX8_settleAsked 15 = .ok (.iload_n 1, 1) := by decide +kernel
theorem dX8_settleAsked_16 : decode cX8_settleAsked 16 = .ok (.aaload, 1) := by decide +kernel
theorem dX8_settleAsked_17 : decode cX8_settleAsked 17 = .ok (.astore_n 2, 1) := by decide +kernel
theorem dX8_settleAsked_18 : decode cX8_settleAsked 18 = .ok (.aload_n 2, 1) := by decide +kernel
theorem dX8_settleAsked_19 : decode cX8_settleAsked 19 = .ok (.ifnull 43, 3) := by decide +kernel
theorem dX8_settleAsked_22 : decode cX8_settleAsked 22 = .ok (.aload_n 2, 1) := by decide +kernel
theorem dX8_settleAsked_23 : decode cX8_settleAsked 23 = .ok (.getfield 118, 3) := by decide +kernel
theorem dX8_settleAsked_26 : decode cX8_settleAsked 26 = .ok (.ifCond .ne 36, 3) := by decide +kernel
theorem dX8_settleAsked_29 : decode cX8_settleAsked 29 = .ok (.aload_n 2, 1) := by decide +kernel
theorem dX8_settleAsked_30 : decode cX8_settleAsked 30 = .ok (.invokevirtual 499, 3) := by decide +kernel
theorem dX8_settleAsked_33 : decode cX8_settleAsked 33 = .ok (.aload_n 0, 1) := by decide +kernel
theorem dX8_settleAsked_34 : decode cX8_settleAsked 34 = .ok (.invokevirtual 84, 3) := by decide +kernel
theorem dX8_settleAsked_37 : decode cX8_settleAsked 37 = .ok (.if_icmp .ne 25, 3) := by decide +kernel
theorem dX8_settleAsked_40 : decode cX8_settleAsked 40 = .ok (.aload_n 0, 1) := by decide +kernel
theorem dX8_settleAsked_41 : decode cX8_settleAsked 41 = .ok (.aload_n 2, 1) := by decide +kernel
theorem dX8_settleAsked_42 : decode cX8_settleAsked 42 = .ok (.invokevirtual 229, 3) := by decide +kernel
theorem dX8_settleAsked_45 : decode cX8_settleAsked 45 = .ok (.ifCond .ne 12, 3) := by decide +kernel
theorem dX8_settleAsked_48 : decode cX8_settleAsked 48 = .ok (.aload_n 0, 1) := by decide +kernel
theorem dX8_settleAsked_49 : decode cX8_settleAsked 49 = .ok (.aload_n 2, 1) := by decide +kernel
theorem dX8_settleAsked_50 : decode cX8_settleAsked 50 = .ok (.iconst 0, 1) := by decide +kernel
theorem dX8_settleAsked_51 : decode cX8_settleAsked 51 = .ok (.invokevirtual 235, 3) := by decide +kernel
theorem dX8_settleAsked_54 : decode cX8_settleAsked 54 = .ok (.goto 8, 3) := by decide +kernel
theorem dX8_settleAsked_57 : decode cX8_settleAsked 57 = .ok (.aload_n 2, 1) := by decide +kernel
theorem dX8_settleAsked_58 : decode cX8_settleAsked 58 = .ok (.iconst 2, 1) := by decide +kernel
theorem dX8_settleAsked_59 : decode cX8_settleAsked 59 = .ok (.putfield 118, 3) := by decide +kernel
theorem dX8_settleAsked_62 : decode cX8_settleAsked 62 = .ok (.iinc 1 1, 3) := by decide +kernel
theorem dX8_settleAsked_65 : decode cX8_settleAsked 65 = .ok (.goto (-63), 3) := by decide +kernel
theorem dX8_settleAsked_68 : decode cX8_settleAsked 68 = .ok (.return_, 1) := by decide +kernel
theorem dX8_fineLate_0 : decode cX8_fineLate 0 = .ok (.iconst 0, 1) := by decide +kernel
theorem dX8_fineLate_1 : decode cX8_fineLate 1 = .ok (.istore_n 1, 1) := by decide +kernel
theorem dX8_fineLate_2 : decode cX8_fineLate 2 = .ok (.iload_n 1, 1) := by decide +kernel
theorem dX8_fineLate_3 : decode cX8_fineLate 3 = .ok (.aload_n 0, 1) := by decide +kernel
theorem dX8_fineLate_4 : decode cX8_fineLate 4 = .ok (.getfield 23, 3) := by decide +kernel
theorem dX8_fineLate_7 : decode cX8_fineLate 7 = .ok (.arraylength, 1) := by decide +kernel
theorem dX8_fineLate_8 : decode cX8_fineLate 8 = .ok (.if_icmp .ge 59, 3) := by decide +kernel
theorem dX8_fineLate_11 : decode cX8_fineLate 11 = .ok (.aload_n 0, 1) := by decide +kernel
theorem dX8_fineLate_12 : decode cX8_fineLate 12 = .ok (.getfield 23, 3) := by decide +kernel
theorem dX8_fineLate_15 : decode cX8_fineLate 15 = .ok (.iload_n 1, 1) := by decide +kernel
theorem dX8_fineLate_16 : decode cX8_fineLate 16 = .ok (.aaload, 1) := by decide +kernel
theorem dX8_fineLate_17 : decode cX8_fineLate 17 = .ok (.astore_n 2, 1) := by decide +kernel
theorem dX8_fineLate_18 : decode cX8_fineLate 18 = .ok (.aload_n 2, 1) := by decide +kernel
theorem dX8_fineLate_19 : decode cX8_fineLate 19 = .ok (.ifnull 42, 3) := by decide +kernel
theorem dX8_fineLate_22 : decode cX8_fineLate 22 = .ok (.aload_n 2, 1) := by decide +kernel
theorem dX8_fineLate_23 : decode cX8_fineLate 23 = .ok (.getfield 118, 3) := by decide +kernel
theorem dX8_fineLate_26 : decode cX8_fineLate 26 = .ok (.iconst 3, 1) := by decide +kernel
theorem dX8_fineLate_27 : decode cX8_fineLate 27 = .ok (.if_icmp .ne 34, 3) := by decide +kernel
theorem dX8_fineLate_30 : decode cX8_fineLate 30 = .ok (.aload_n 2, 1) := by decide +kernel
theorem dX8_fineLate_31 : decode cX8_fineLate 31 = .ok (.getfield 124, 3) := by decide +kernel
theorem dX8_fineLate_34 : decode cX8_fineLate 34 = .ok (.aload_n 0, 1) := by decide +kernel
theorem dX8_fineLate_35 : decode cX8_fineLate 35 = .ok (.invokevirtual 84, 3) := by decide +kernel
theorem dX8_fineLate_38 : decode cX8_fineLate 38 = .ok (.if_icmp .ge 23, 3) := by decide +kernel
theorem dX8_fineLate_41 : decode cX8_fineLate 41 = .ok (.aload_n 0, 1) := by decide +kernel
theorem dX8_fineLate_42 : decode cX8_fineLate 42 = .ok (.aload_n 2, 1) := by decide +kernel
theorem dX8_fineLate_43 : decode cX8_fineLate 43 = .ok (.getfield 319, 3) := by decide +kernel
theorem dX8_fineLate_46 : decode cX8_fineLate 46 = .ok (.iconst 5, 1) := by decide +kernel
theorem dX8_fineLate_47 : decode cX8_fineLate 47 = .ok (.sipush 500, 3) := by decide +kernel
theorem dX8_fineLate_50 : decode cX8_fineLate 50 = .ok (.aload_n 2, 1) := by decide +kernel
theorem dX8_fineLate_51 : decode cX8_fineLate 51 = .ok (.getfield 114, 3) := by decide +kernel
theorem dX8_fineLate_54 : decode cX8_fineLate 54 = .ok (.invokevirtual 502, 3) := by decide +kernel
theorem dX8_fineLate_57 : decode cX8_fineLate 57 = .ok (.imul, 1) := by decide +kernel
theorem dX8_fineLate_58 : decode cX8_fineLate 58 = .ok (.invokevirtual 366, 3) := by decide +kernel
theorem dX8_fineLate_61 : decode cX8_fineLate 61 = .ok (.iinc 1 1, 3) := by decide +kernel
theorem dX8_fineLate_64 : decode cX8_fineLate 64 = .ok (.goto (-62), 3) := by decide +kernel
theorem dX8_fineLate_67 : decode cX8_fineLate 67 = .ok (.return_, 1) := by decide +kernel
theorem dX8_takeStreets_0 : decode cX8_takeStreets 0 = .ok (.iconst 0, 1) := by decide +kernel
theorem dX8_takeStreets_1 : decode cX8_takeStreets 1 = .ok (.istore_n 1, 1) := by decide +kernel
theorem dX8_takeStreets_2 : decode cX8_takeStreets 2 = .ok (.iload_n 1, 1) := by decide +kernel
theorem dX8_takeStreets_3 : decode cX8_takeStreets 3 = .ok (.aload_n 0, 1) := by decide +kernel
theorem dX8_takeStreets_4 : decode cX8_takeStreets 4 = .ok (.getfield 11, 3) := by decide +kernel
theorem dX8_takeStreets_7 : decode cX8_takeStreets 7 = .ok (.arraylength, 1) := by decide +kernel
theorem dX8_takeStreets_8 : decode cX8_takeStreets 8 = .ok (.if_icmp .ge 25, 3) := by decide +kernel
theorem dX8_takeStreets_11 : decode cX8_takeStreets 11 = .ok (.aload_n 0, 1) := by decide +kernel
theorem dX8_takeStreets_12 : decode cX8_takeStreets 12 = .ok (.getfield 11, 3) := by decide +kernel
theorem dX8_takeStreets_15 : decode cX8_takeStreets 15 = .ok (.iload_n 1, 1) := by decide +kernel
theorem dX8_takeStreets_16 : decode cX8_takeStreets 16 = .ok (.aaload, 1) := by decide +kernel
theorem dX8_takeStreets_17 : decode cX8_takeStreets 17 = .ok (.astore_n 2, 1) := by decide +kernel
theorem dX8_takeStreets_18 : decode cX8_takeStreets 18 = .ok (.aload_n 2, 1) := by decide +kernel
theorem dX8_takeStreets_19 : decode cX8_takeStreets 19 = .ok (.ifnull 8, 3) := by decide +kernel
theorem dX8_takeStreets_22 : decode cX8_takeStreets 22 = .ok (.aload_n 2, 1) := by decide +kernel
theorem dX8_takeStreets_23 : decode cX8_takeStreets 23 = .ok (.iconst 0, 1) := by decide +kernel
theorem dX8_takeStreets_24 : decode cX8_takeStreets 24 = .ok (.putfield 505, 3) := by decide +kernel
theorem dX8_takeStreets_27 : decode cX8_takeStreets 27 = .ok (.iinc 1 1, 3) := by decide +kernel
theorem dX8_takeStreets_30 : decode cX8_takeStreets 30 = .ok (.goto (-28), 3) := by decide +kernel
theorem dX8_takeStreets_33 : decode cX8_takeStreets 33 = .ok (.iconst 0, 1) := by decide +kernel
theorem dX8_takeStreets_34 : decode cX8_takeStreets 34 = .ok (.istore_n 1, 1) := by decide +kernel
theorem dX8_takeStreets_35 : decode cX8_takeStreets 35 = .ok (.iload_n 1, 1) := by decide +kernel
theorem dX8_takeStreets_36 : decode cX8_takeStreets 36 = .ok (.aload_n 0, 1) := by decide +kernel
theorem dX8_takeStreets_37 : decode cX8_takeStreets 37 = .ok (.getfield 23, 3) := by decide +kernel
theorem dX8_takeStreets_40 : decode cX8_takeStreets 40 = .ok (.arraylength, 1) := by decide +kernel
theorem dX8_takeStreets_41 : decode cX8_takeStreets 41 = .ok (.if_icmp .ge 43, 3) := by decide +kernel
theorem dX8_takeStreets_44 : decode cX8_takeStreets 44 = .ok (.aload_n 0, 1) := by decide +kernel
theorem dX8_takeStreets_45 : decode cX8_takeStreets 45 = .ok (.getfield 23, 3) := by decide +kernel
theorem dX8_takeStreets_48 : decode cX8_takeStreets 48 = .ok (.iload_n 1, 1) := by decide +kernel
theorem dX8_takeStreets_49 : decode cX8_takeStreets 49 = .ok (.aaload, 1) := by decide +kernel
theorem dX8_takeStreets_50 : decode cX8_takeStreets 50 = .ok (.astore_n 2, 1) := by decide +kernel
theorem dX8_takeStreets_51 : decode cX8_takeStreets 51 = .ok (.aload_n 2, 1) := by decide +kernel
theorem dX8_takeStreets_52 : decode cX8_takeStreets 52 = .ok (.ifnull 26, 3) := by decide +kernel
theorem dX8_takeStreets_55 : decode cX8_takeStreets 55 = .ok (.aload_n 2, 1) := by decide +kernel
theorem dX8_takeStreets_56 : decode cX8_takeStreets 56 = .ok (.invokevirtual 508, 3) := by decide +kernel
theorem dX8_takeStreets_59 : decode cX8_takeStreets 59 = .ok (.ifCond .eq 19, 3) := by decide +kernel
theorem dX8_takeStreets_62 : decode cX8_takeStreets 62 = .ok (.aload_n 2, 1) := by decide +kernel
theorem dX8_takeStreets_63 : decode cX8_takeStreets 63 = .ok (.getfield 114, 3) := by decide +kernel
theorem dX8_takeStreets_66 : decode cX8_takeStreets 66 = .ok (.dup, 1) := by decide +kernel
theorem dX8_takeStreets_67 : decode cX8_takeStreets 67 = .ok (.getfield 505, 3) := by decide +kernel
theorem dX8_takeStreets_70 : decode cX8_takeStreets 70 = .ok (.aload_n 2, 1) := by decide +kernel
theorem dX8_takeStreets_71 : decode cX8_takeStreets 71 = .ok (.invokevirtual 263, 3) := by decide +kernel
theorem dX8_takeStreets_74 : decode cX8_takeStreets 74 = .ok (.ior, 1) := by decide +kernel
theorem dX8_takeStreets_75 : decode cX8_takeStreets 75 = .ok (.putfield 505, 3) := by decide +kernel
theorem dX8_takeStreets_78 : decode cX8_takeStreets 78 = .ok (.iinc 1 1, 3) := by decide +kernel
theorem dX8_takeStreets_81 : decode cX8_takeStreets 81 = .ok (.goto (-46), 3) := by decide +kernel
theorem dX8_takeStreets_84 : decode cX8_takeStreets 84 = .ok (.return_, 1) := by decide +kernel
theorem dX8_chargeTakers_0 : decode cX8_chargeTakers 0 = .ok (.iconst 0, 1) := by decide +kernel
theorem dX8_chargeTakers_1 : decode cX8_chargeTakers 1 = .ok (.istore_n 1, 1) := by decide +kernel
theorem dX8_chargeTakers_2 : decode cX8_chargeTakers 2 = .ok (.iload_n 1, 1) := by decide +kernel
theorem dX8_chargeTakers_3 : decode cX8_chargeTakers 3 = .ok (.aload_n 0, 1) := by decide +kernel
theorem dX8_chargeTakers_4 : decode cX8_chargeTakers 4 = .ok (.getfield 23, 3) := by decide +kernel
theorem dX8_chargeTakers_7 : decode cX8_chargeTakers 7 = .ok (.arraylength, 1) := by decide +kernel
theorem dX8_chargeTakers_8 : decode cX8_chargeTakers 8 = .ok (.if_icmp .ge 101, 3) := by decide +kernel
theorem dX8_chargeTakers_11 : decode cX8_chargeTakers 11 = .ok (.aload_n 0, 1) := by decide +kernel
theorem dX8_chargeTakers_12 : decode cX8_chargeTakers 12 = .ok (.getfield 23, 3) := by decide +kernel
theorem dX8_chargeTakers_15 : decode cX8_chargeTakers 15 = .ok (.iload_n 1, 1) := by decide +kernel
theorem dX8_chargeTakers_16 : decode cX8_chargeTakers 16 = .ok (.aaload, 1) := by decide +kernel
theorem dX8_chargeTakers_17 : decode cX8_chargeTakers 17 = .ok (.astore_n 2, 1) := by decide +kernel
theorem dX8_chargeTakers_18 : decode cX8_chargeTakers 18 = .ok (.aload_n 2, 1) := by decide +kernel
theorem dX8_chargeTakers_19 : decode cX8_chargeTakers 19 = .ok (.ifnull 84, 3) := by decide +kernel
theorem dX8_chargeTakers_22 : decode cX8_chargeTakers 22 = .ok (.aload_n 2, 1) := by decide +kernel
theorem dX8_chargeTakers_23 : decode cX8_chargeTakers 23 = .ok (.invokevirtual 508, 3) := by decide +kernel
theorem dX8_chargeTakers_26 : decode cX8_chargeTakers 26 = .ok (.ifCond .eq 77, 3) := by decide +kernel
theorem dX8_chargeTakers_29 : decode cX8_chargeTakers 29 = .ok (.bipush 50, 2) := by decide +kernel
theorem dX8_chargeTakers_31 : decode cX8_chargeTakers 31 = .ok (.aload_n 2, 1) := by decide +kernel
theorem dX8_chargeTakers_32 : decode cX8_chargeTakers 32 = .ok (.getfield 114, 3) := by decide +kernel
theorem dX8_chargeTakers_35 : decode cX8_chargeTakers 35 = .ok (.invokevirtual 502, 3) := by decide +kernel
theorem dX8_chargeTakers_38 : decode cX8_chargeTakers 38 = .ok (.imul, 1) := by decide +kernel
theorem dX8_chargeTakers_39 : decode cX8_chargeTakers 39 = .ok (.istore_n 3, 1) := by decide +kernel
theorem dX8_chargeTakers_40 : decode cX8_chargeTakers 40 = .ok (.aload_n 2, 1) := by decide +kernel
theorem dX8_chargeTakers_41 : decode cX8_chargeTakers 41 = .ok (.getfield 114, 3) := by decide +kernel
theorem dX8_chargeTakers_44 : decode cX8_chargeTakers 44 = .ok (.getfield 505, 3) := by decide +kernel
theorem dX8_chargeTakers_47 : decode cX8_chargeTakers 47 = .ok (.aload_n 2, 1) := by decide +kernel
theorem dX8_chargeTakers_48 : decode cX8_chargeTakers 48 = .ok (.getfield 260, 3) := by decide +kernel
theorem dX8_chargeTakers_51 : decode cX8_chargeTakers 51 = .ok (.iand, 1) := by decide +kernel
theorem dX8_chargeTakers_52 : decode cX8_chargeTakers 52 = .ok (.ifCond .eq 7, 3) := by decide +kernel
theorem dX8_chargeTakers_55 : decode cX8_chargeTakers 55 = .ok (.iconst 1, 1) := by decide +kernel
theorem dX8_chargeTakers_56 : decode cX8_chargeTakers 56 = .ok (.goto 4, 3) := by decide +kernel
theorem dX8_chargeTakers_59 : decode cX8_chargeTakers 59 = .ok (.iconst 0, 1) := by decide +kernel
theorem dX8_chargeTakers_60 : decode cX8_chargeTakers 60 = .ok (.istore 4, 2) := by decide +kernel
theorem dX8_chargeTakers_62 : decode cX8_chargeTakers 62 = .ok (.aload_n 0, 1) := by decide +kernel
theorem dX8_chargeTakers_63 : decode cX8_chargeTakers 63 = .ok (.aload_n 2, 1) := by decide +kernel
theorem dX8_chargeTakers_64 : decode cX8_chargeTakers 64 = .ok (.getfield 319, 3) := by decide +kernel
theorem dX8_chargeTakers_67 : decode cX8_chargeTakers 67 = .ok (.iconst 5, 1) := by decide +kernel
theorem dX8_chargeTakers_68 : decode cX8_chargeTakers 68 = .ok (.iload 4, 2) := by decide +kernel
theorem dX8_chargeTakers_70 : decode cX8_chargeTakers 70 = .ok (.ifCond .eq 9, 3) := by decide +kernel
theorem dX8_chargeTakers_73 : decode cX8_chargeTakers 73 = .ok (.iload_n 3, 1) := by decide +kernel
theorem dX8_chargeTakers_74 : decode cX8_chargeTakers 74 = .ok (.iconst 2, 1) := by decide +kernel
theorem dX8_chargeTakers_75 : decode cX8_chargeTakers 75 = .ok (.idiv, 1) := by decide +kernel
theorem dX8_chargeTakers_76 : decode cX8_chargeTakers 76 = .ok (.goto 4, 3) := by decide +kernel
theorem dX8_chargeTakers_79 : decode cX8_chargeTakers 79 = .ok (.iload_n 3, 1) := by decide +kernel
theorem dX8_chargeTakers_80 : decode cX8_chargeTakers 80 = .ok (.invokevirtual 366, 3) := by decide +kernel
theorem dX8_chargeTakers_83 : decode cX8_chargeTakers 83 = .ok (.aload_n 2, 1) := by decide +kernel
theorem dX8_chargeTakers_84 : decode cX8_chargeTakers 84 = .ok (.iconst 2, 1) := by decide +kernel
theorem dX8_chargeTakers_85 : decode cX8_chargeTakers 85 = .ok (.invokevirtual 280, 3) := by decide +kernel
theorem dX8_chargeTakers_88 : decode cX8_chargeTakers 88 = .ok (.ifCond .eq 15, 3) := by decide +kernel
theorem dX8_chargeTakers_91 : decode cX8_chargeTakers 91 = .ok (.aload_n 0, 1) := by decide +kernel
theorem dX8_chargeTakers_92 : decode cX8_chargeTakers 92 = .ok (.aload_n 2, 1) := by decide +kernel
theorem dX8_chargeTakers_93 : decode cX8_chargeTakers 93 = .ok (.getfield 319, 3) := by decide +kernel
theorem dX8_chargeTakers_96 : decode cX8_chargeTakers 96 = .ok (.iconst 5, 1) := by decide +kernel
theorem dX8_chargeTakers_97 : decode cX8_chargeTakers 97 = .ok (.sipush 200, 3) := by decide +kernel
theorem dX8_chargeTakers_100 : decode cX8_chargeTakers 100 = .ok (.invokevirtual 366, 3) := by decide +kernel
theorem dX8_chargeTakers_103 : decode cX8_chargeTakers 103 = .ok (.iinc 1 1, 3) := by decide +kernel
theorem dX8_chargeTakers_106 : decode cX8_chargeTakers 106 = .ok (.goto (-104), 3) := by decide +kernel
theorem dX8_chargeTakers_109 : decode cX8_chargeTakers 109 = .ok (.return_, 1) := by decide +kernel
theorem dX8_moveQueues_0 : decode cX8_moveQueues 0 = .ok (.iconst 0, 1) := by decide +kernel
theorem dX8_moveQueues_1 : decode cX8_moveQueues 1 = .ok (.istore_n 1, 1) := by decide +kernel
theorem dX8_moveQueues_2 : decode cX8_moveQueues 2 = .ok (.iload_n 1, 1) := by decide +kernel
theorem dX8_moveQueues_3 : decode cX8_moveQueues 3 = .ok (.aload_n 0, 1) := by decide +kernel
theorem dX8_moveQueues_4 : decode cX8_moveQueues 4 = .ok (.getfield 11, 3) := by decide +kernel
theorem dX8_moveQueues_7 : decode cX8_moveQueues 7 = .ok (.arraylength, 1) := by decide +kernel
theorem dX8_moveQueues_8 : decode cX8_moveQueues 8 = .ok (.if_icmp .ge 24, 3) := by decide +kernel
theorem dX8_moveQueues_11 : decode cX8_moveQueues 11 = .ok (.aload_n 0, 1) := by decide +kernel
theorem dX8_moveQueues_12 : decode cX8_moveQueues 12 = .ok (.getfield 11, 3) := by decide +kernel
theorem dX8_moveQueues_15 : decode cX8_moveQueues 15 = .ok (.iload_n 1, 1) := by decide +kernel
theorem dX8_moveQueues_16 : decode cX8_moveQueues 16 = .ok (.aaload, 1) := by decide +kernel
theorem dX8_moveQueues_17 : decode cX8_moveQueues 17 = .ok (.astore_n 2, 1) := by decide +kernel
theorem dX8_moveQueues_18 : decode cX8_moveQueues 18 = .ok (.aload_n 2, 1) := by decide +kernel
theorem dX8_moveQueues_19 : decode cX8_moveQueues 19 = .ok (.ifnull 7, 3) := by decide +kernel
theorem dX8_moveQueues_22 : decode cX8_moveQueues 22 = .ok (.aload_n 2, 1) := by decide +kernel
theorem dX8_moveQueues_23 : decode cX8_moveQueues 23 = .ok (.invokevirtual 511, 3) := by decide +kernel
theorem dX8_moveQueues_26 : decode cX8_moveQueues 26 = .ok (.iinc 1 1, 3) := by decide +kernel
theorem dX8_moveQueues_29 : decode cX8_moveQueues 29 = .ok (.goto (-27), 3) := by decide +kernel
theorem dX8_moveQueues_32 : decode cX8_moveQueues 32 = .ok (.iconst 0, 1) := by decide +kernel
theorem dX8_moveQueues_33 : decode cX8_moveQueues 33 = .ok (.istore_n 1, 1) := by decide +kernel
theorem dX8_moveQueues_34 : decode cX8_moveQueues 34 = .ok (.iload_n 1, 1) := by decide +kernel
theorem dX8_moveQueues_35 : decode cX8_moveQueues 35 = .ok (.aload_n 0, 1) := by decide +kernel
theorem dX8_moveQueues_36 : decode cX8_moveQueues 36 = .ok (.getfield 11, 3) := by decide +kernel
theorem dX8_moveQueues_39 : decode cX8_moveQueues 39 = .ok (.arraylength, 1) := by decide +kernel
theorem dX8_moveQueues_40 : decode cX8_moveQueues 40 = .ok (.if_icmp .ge 24, 3) := by decide +kernel
theorem dX8_moveQueues_43 : decode cX8_moveQueues 43 = .ok (.aload_n 0, 1) := by decide +kernel
theorem dX8_moveQueues_44 : decode cX8_moveQueues 44 = .ok (.getfield 11, 3) := by decide +kernel
theorem dX8_moveQueues_47 : decode cX8_moveQueues 47 = .ok (.iload_n 1, 1) := by decide +kernel
theorem dX8_moveQueues_48 : decode cX8_moveQueues 48 = .ok (.aaload, 1) := by decide +kernel
theorem dX8_moveQueues_49 : decode cX8_moveQueues 49 = .ok (.astore_n 2, 1) := by decide +kernel
theorem dX8_moveQueues_50 : decode cX8_moveQueues 50 = .ok (.aload_n 2, 1) := by decide +kernel
theorem dX8_moveQueues_51 : decode cX8_moveQueues 51 = .ok (.ifnull 7, 3) := by decide +kernel
theorem dX8_moveQueues_54 : decode cX8_moveQueues 54 = .ok (.aload_n 2, 1) := by decide +kernel
theorem dX8_moveQueues_55 : decode cX8_moveQueues 55 = .ok (.invokevirtual 514, 3) := by decide +kernel
theorem dX8_moveQueues_58 : decode cX8_moveQueues 58 = .ok (.iinc 1 1, 3) := by decide +kernel
theorem dX8_moveQueues_61 : decode cX8_moveQueues 61 = .ok (.goto (-27), 3) := by decide +kernel
theorem dX8_moveQueues_64 : decode cX8_moveQueues 64 = .ok (.return_, 1) := by decide +kernel
theorem dX8_whoIsLiable_0 : decode cX8_whoIsLiable 0 = .ok (.aload_n 2, 1) := by decide +kernel
theorem dX8_whoIsLiable_1 : decode cX8_whoIsLiable 1 = .ok (.iload_n 3, 1) := by decide +kernel
theorem dX8_whoIsLiable_2 : decode cX8_whoIsLiable 2 = .ok (.invokevirtual 517, 3) := by decide +kernel
theorem dX8_whoIsLiable_5 : decode cX8_whoIsLiable 5 = .ok (.astore 4, 2) := by decide +kernel
theorem dX8_whoIsLiable_7 : decode cX8_whoIsLiable 7 = .ok (.aload 4, 2) := by decide +kernel
theorem dX8_whoIsLiable_9 : decode cX8_whoIsLiable 9 = .ok (.ifnull 24, 3) := by decide +kernel
theorem dX8_whoIsLiable_12 : decode cX8_whoIsLiable 12 = .ok (.aload_n 0, 1) := by decide +kernel
theorem dX8_whoIsLiable_13 : decode cX8_whoIsLiable 13 = .ok (.invokevirtual 84, 3) := by decide +kernel
theorem dX8_whoIsLiable_16 : decode cX8_whoIsLiable 16 = .ok (.aload 4, 2) := by decide +kernel
theorem dX8_whoIsLiable_18 : decode cX8_whoIsLiable 18 = .ok (.getfield 521, 3) := by decide +kernel
theorem dX8_whoIsLiable_21 : decode cX8_whoIsLiable 21 = .ok (.isub, 1) := by decide +kernel
theorem dX8_whoIsLiable_22 : decode cX8_whoIsLiable 22 = .ok (.aload 4, 2) := by decide +kernel
theorem dX8_whoIsLiable_24 : decode cX8_whoIsLiable 24 = .ok (.getfield 377, 3) := by decide +kernel
theorem dX8_whoIsLiable_27 : decode cX8_whoIsLiable 27 = .ok (.invokevirtual 408, 3) := by decide +kernel
theorem dX8_whoIsLiable_30 : decode cX8_whoIsLiable 30 = .ok (.if_icmp .le 5, 3) := by decide +kernel
theorem dX8_whoIsLiable_33 : decode cX8_whoIsLiable 33 = .ok (.aconst_null, 1) := by decide +kernel
theorem dX8_whoIsLiable_34 : decode cX8_whoIsLiable 34 = .ok (.areturn, 1) := by decide +kernel
theorem dX8_whoIsLiable_35 : decode cX8_whoIsLiable 35 = .ok (.iload_n 3, 1) := by decide +kernel
theorem dX8_whoIsLiable_36 : decode cX8_whoIsLiable 36 = .ok (.bipush 10, 2) := by decide +kernel
theorem dX8_whoIsLiable_38 : decode cX8_whoIsLiable 38 = .ok (.if_icmp .ge 17, 3) := by decide +kernel
theorem dX8_whoIsLiable_41 : decode cX8_whoIsLiable 41 = .ok (.aload_n 1, 1) := by decide +kernel
theorem dX8_whoIsLiable_42 : decode cX8_whoIsLiable 42 = .ok (.getfield 94, 3) := by decide +kernel
theorem dX8_whoIsLiable_45 : decode cX8_whoIsLiable 45 = .ok (.aload 4, 2) := by decide +kernel
theorem dX8_whoIsLiable_47 : decode cX8_whoIsLiable 47 = .ok (.getfield 522, 3) := by decide +kernel
theorem dX8_whoIsLiable_50 : decode cX8_whoIsLiable 50 = .ok (.if_icmp .le 5, 3) := by decide +kernel
theorem dX8_whoIsLiable_53 : decode cX8_whoIsLiable 53 = .ok (.aconst_null, 1) := by decide +kernel
theorem dX8_whoIsLiable_54 : decode cX8_whoIsLiable 54 = .ok (.areturn, 1) := by decide +kernel
theorem dX8_whoIsLiable_55 : decode cX8_whoIsLiable 55 = .ok (.aload 4, 2) := by decide +kernel
theorem dX8_whoIsLiable_57 : decode cX8_whoIsLiable 57 = .ok (.getfield 377, 3) := by decide +kernel
theorem dX8_whoIsLiable_60 : decode cX8_whoIsLiable 60 = .ok (.areturn, 1) := by decide +kernel
theorem dX9_init_0 : decode cX9_init 0 = .ok (.aload_n 0, 1) := by decide +kernel
theorem dX9_init_1 : decode cX9_init 1 = .ok (.invokespecial 1, 3) := by decide +kernel
theorem dX9_init_4 : decode cX9_init 4 = .ok (.aload_n 0, 1) := by decide +kernel
theorem dX9_init_5 : decode cX9_init 5 = .ok (.bipush 6, 2) := by decide +kernel
theorem dX9_init_7 : decode cX9_init 7 = .ok (.newarray .int, 2) := by decide +kernel
theorem dX9_init_9 : decode cX9_init 9 = .ok (.putfield 7, 3) := by decide +kernel
theorem dX9_init_12 : decode cX9_init 12 = .ok (.aload_n 0, 1) := by decide +kernel
theorem dX9_init_13 : decode cX9_init 13 = .ok (.bipush 6, 2) := by decide +kernel
theorem dX9_init_15 : decode cX9_init 15 = .ok (.newarray .int, 2) := by decide +kernel
theorem dX9_init_17 : decode cX9_init 17 = .ok (.putfield 13, 3) := by decide +kernel
theorem dX9_init_20 : decode cX9_init 20 = .ok (.aload_n 0, 1) := by decide +kernel
theorem dX9_init_21 : decode cX9_init 21 = .ok (.bipush 6, 2) := by decide +kernel
theorem dX9_init_23 : decode cX9_init 23 = .ok (.newarray .int, 2) := by decide +kernel
theorem dX9_init_25 : decode cX9_init 25 = .ok (.putfield 16, 3) := by decide +kernel
theorem dX9_init_28 : decode cX9_init 28 = .ok (.aload_n 0, 1) := by decide +kernel
theorem dX9_init_29 : decode cX9_init 29 = .ok (.bipush 6, 2) := by decide +kernel
theorem dX9_init_31 : decode cX9_init 31 = .ok (.newarray .int, 2) := by decide +kernel
theorem dX9_init_33 : decode cX9_init 33 = .ok (.putfield 19, 3) := by decide +kernel
theorem dX9_init_36 : decode cX9_init 36 = .ok (.aload_n 0, 1) := by decide +kernel
theorem dX9_init_37 : decode cX9_init 37 = .ok (.bipush 6, 2) := by decide +kernel
theorem dX9_init_39 : decode cX9_init 39 = .ok (.newarray .int, 2) := by decide +kernel
theorem dX9_init_41 : decode cX9_init 41 = .ok (.putfield 22, 3) := by decide +kernel
theorem dX9_init_44 : decode cX9_init 44 = .ok (.aload_n 0, 1) := by decide +kernel
theorem dX9_init_45 : decode cX9_init 45 = .ok (.bipush 6, 2) := by decide +kernel
theorem dX9_init_47 : decode cX9_init 47 = .ok (.newarray .int, 2) := by decide +kernel
theorem dX9_init_49 : decode cX9_init 49 = .ok (.putfield 25, 3) := by decide +kernel
theorem dX9_init_52 : decode cX9_init 52 = .ok (.aload_n 0, 1) := by decide +kernel
theorem dX9_init_53 : decode cX9_init 53 = .ok (.bipush 6, 2) := by decide +kernel
theorem dX9_init_55 : decode cX9_init 55 = .ok (.newarray .int, 2) := by decide +kernel
theorem dX9_init_57 : decode cX9_init 57 = .ok (.putfield 28, 3) := by decide +kernel
theorem dX9_init_60 : decode cX9_init 60 = .ok (.aload_n 0, 1) := by decide +kernel
theorem dX9_init_61 : decode cX9_init 61 = .ok (.bipush 6, 2) := by decide +kernel
theorem dX9_init_63 : decode cX9_init 63 = .ok (.newarray .int, 2) := by decide +kernel
theorem dX9_init_65 : decode cX9_init 65 = .ok (.putfield 31, 3) := by decide +kernel
theorem dX9_init_68 : decode cX9_init 68 = .ok (.aload_n 0, 1) := by decide +kernel
theorem dX9_init_69 : decode cX9_init 69 = .ok (.bipush 6, 2) := by decide +kernel
theorem dX9_init_71 : decode cX9_init 71 = .ok (.newarray .int, 2) := by decide +kernel
theorem dX9_init_73 : decode cX9_init 73 = .ok (.putfield 34, 3) := by decide +kernel
theorem dX9_init_76 : decode cX9_init 76 = .ok (.aload_n 0, 1) := by decide +kernel
theorem dX9_init_77 : decode cX9_init 77 = .ok (.bipush 6, 2) := by decide +kernel
theorem dX9_init_79 : decode cX9_init 79 = .ok (.newarray .int, 2) := by decide +kernel
theorem dX9_init_81 : decode cX9_init 81 = .ok (.putfield 37, 3) := by decide +kernel
theorem dX9_init_84 : decode cX9_init 84 = .ok (.aload_n 0, 1) := by decide +kernel
theorem dX9_init_85 : decode cX9_init 85 = .ok (.sipush 240, 3) := by decide +kernel
theorem dX9_init_88 : decode cX9_init 88 = .ok (.newarray .boolean, 2) := by decide +kernel
theorem dX9_init_90 : decode cX9_init 90 = .ok (.putfield 40, 3) := by decide +kernel
theorem dX9_init_93 : decode cX9_init 93 = .ok (.aload_n 0, 1) := by decide +kernel
theorem dX9_init_94 : decode cX9_init 94 = .ok (.sipush 240, 3) := by decide +kernel
theorem dX9_init_97 : decode cX9_init 97 = .ok (.newarray .int, 2) := by decide +kernel
theorem dX9_init_99 : decode cX9_init 99 = .ok (.putfield 44, 3) := by decide +kernel
theorem dX9_init_102 : decode cX9_init 102 = .ok (.aload_n 0, 1) := by decide +kernel
theorem dX9_init_103 : decode cX9_init 103 = .ok (.bipush 30, 2) := by decide +kernel
theorem dX9_init_105 : decode cX9_init 105 = .ok (.newarray .int, 2) := by decide +kernel
theorem dX9_init_107 : decode cX9_init 107 = .ok (.putfield 47, 3) := by decide +kernel
theorem dX9_init_110 : decode cX9_init 110 = .ok (.aload_n 0, 1) := by decide +kernel
theorem dX9_init_111 : decode cX9_init 111 = .ok (.bipush 30, 2) := by decide +kernel
theorem dX9_init_113 : decode cX9_init 113 = .ok (.newarray .int, 2) := by decide +kernel
theorem dX9_init_115 : decode cX9_init 115 = .ok (.putfield 50, 3) := by decide +kernel
theorem dX9_init_118 : decode cX9_init 118 = .ok (.aload_n 0, 1) := by decide +kernel
theorem dX9_init_119 : decode cX9_init 119 = .ok (.bipush 30, 2) := by decide +kernel
theorem dX9_init_121 : decode cX9_init 121 = .ok (.newarray .int, 2) := by decide +kernel
theorem dX9_init_123 : decode cX9_init 123 = .ok (.putfield 53, 3) := by decide +kernel
theorem dX9_init_126 : decode cX9_init 126 = .ok (.aload_n 0, 1) := by decide +kernel
theorem dX9_init_127 : decode cX9_init 127 = .ok (.bipush 30, 2) := by decide +kernel
theorem dX9_init_129 : decode cX9_init 129 = .ok (.newarray .int, 2) := by decide +kernel
theorem dX9_init_131 : decode cX9_init 131 = .ok (.putfield 56, 3) := by decide +kernel
theorem dX9_init_134 : decode cX9_init 134 = .ok (.aload_n 0, 1) := by decide +kernel
theorem dX9_init_135 : decode cX9_init 135 = .ok (.bipush 30, 2) := by decide +kernel
theorem dX9_init_137 : decode cX9_init 137 = .ok (.newarray .int, 2) := by decide +kernel
theorem dX9_init_139 : decode cX9_init 139 = .ok (.putfield 59, 3) := by decide +kernel
theorem dX9_init_142 : decode cX9_init 142 = .ok (.aload_n 0, 1) := by decide +kernel
theorem dX9_init_143 : decode cX9_init 143 = .ok (.bipush 30, 2) := by decide +kernel
theorem dX9_init_145 : decode cX9_init 145 = .ok (.newarray .boolean, 2) := by decide +kernel
theorem dX9_init_147 : decode cX9_init 147 = .ok (.putfield 62, 3) := by decide +kernel
theorem dX9_init_150 : decode cX9_init 150 = .ok (.aload_n 0, 1) := by decide +kernel
theorem dX9_init_151 : decode cX9_init 151 = .ok (.bipush 30, 2) := by decide +kernel
theorem dX9_init_153 : decode cX9_init 153 = .ok (.newarray .int, 2) := by decide +kernel
theorem dX9_init_155 : decode cX9_init 155 = .ok (.putfield 65, 3) := by decide +kernel
theorem dX9_init_158 : decode cX9_init 158 = .ok (.aload_n 0, 1) := by decide +kernel
theorem dX9_init_159 : decode cX9_init 159 = .ok (.bipush 30, 2) := by decide +kernel
theorem dX9_init_161 : decode cX9_init 161 = .ok (.newarray .int, 2) := by decide +kernel
theorem dX9_init_163 : decode cX9_init 163 = .ok (.putfield 68, 3) := by decide +kernel
theorem dX9_init_166 : decode cX9_init 166 = .ok (.aload_n 0, 1) := by decide +kernel
theorem dX9_init_167 : decode cX9_init 167 = .ok (.bipush 24, 2) := by decide +kernel
theorem dX9_init_169 : decode cX9_init 169 = .ok (.newarray .int, 2) := by decide +kernel
theorem dX9_init_171 : decode cX9_init 171 = .ok (.putfield 71, 3) := by decide +kernel
theorem dX9_init_174 : decode cX9_init 174 = .ok (.aload_n 0, 1) := by decide +kernel
theorem dX9_init_175 : decode cX9_init 175 = .ok (.bipush 24, 2) := by decide +kernel
theorem dX9_init_177 : decode cX9_init 177 = .ok (.newarray .int, 2) := by decide +kernel
theorem dX9_init_179 : decode cX9_init 179 = .ok (.putfield 74, 3) := by decide +kernel
theorem dX9_init_182 : decode cX9_init 182 = .ok (.aload_n 0, 1) := by decide +kernel
theorem dX9_init_183 : decode cX9_init 183 = .ok (.bipush 24, 2) := by decide +kernel
theorem dX9_init_185 : decode cX9_init 185 = .ok (.newarray .int, 2) := by decide +kernel
theorem dX9_init_187 : decode cX9_init 187 = .ok (.putfield 77, 3) := by decide +kernel
theorem dX9_init_190 : decode cX9_init 190 = .ok (.aload_n 0, 1) := by decide +kernel
theorem dX9_init_191 : decode cX9_init 191 = .ok (.bipush 24, 2) := by decide +kernel
theorem dX9_init_193 : decode cX9_init 193 = .ok (.newarray .int, 2) := by decide +kernel
theorem dX9_init_195 : decode cX9_init 195 = .ok (.putfield 80, 3) := by decide +kernel
theorem dX9_init_198 : decode cX9_init 198 = .ok (.aload_n 0, 1) := by decide +kernel
theorem dX9_init_199 : decode cX9_init 199 = .ok (.bipush 24, 2) := by decide +kernel
theorem dX9_init_201 : decode cX9_init 201 = .ok (.newarray .int, 2) := by decide +kernel
theorem dX9_init_203 : decode cX9_init 203 = .ok (.putfield 83, 3) := by decide +kernel
theorem dX9_init_206 : decode cX9_init 206 = .ok (.aload_n 0, 1) := by decide +kernel
theorem dX9_init_207 : decode cX9_init 207 = .ok (.bipush 24, 2) := by decide +kernel
theorem dX9_init_209 : decode cX9_init 209 = .ok (.newarray .int, 2) := by decide +kernel
theorem dX9_init_211 : decode cX9_init 211 = .ok (.putfield 86, 3) := by decide +kernel
theorem dX9_init_214 : decode cX9_init 214 = .ok (.aload_n 0, 1) := by decide +kernel
theorem dX9_init_215 : decode cX9_init 215 = .ok (.bipush 24, 2) := by decide +kernel
theorem dX9_init_217 : decode cX9_init 217 = .ok (.newarray .int, 2) := by decide +kernel
theorem dX9_init_219 : decode cX9_init 219 = .ok (.putfield 89, 3) := by decide +kernel
theorem dX9_init_222 : decode cX9_init 222 = .ok (.aload_n 0, 1) := by decide +kernel
theorem dX9_init_223 : decode cX9_init 223 = .ok (.bipush 24, 2) := by decide +kernel
theorem dX9_init_225 : decode cX9_init 225 = .ok (.newarray .int, 2) := by decide +kernel
theorem dX9_init_227 : decode cX9_init 227 = .ok (.putfield 92, 3) := by decide +kernel
theorem dX9_init_230 : decode cX9_init 230 = .ok (.aload_n 0, 1) := by decide +kernel
theorem dX9_init_231 : decode cX9_init 231 = .ok (.bipush 24, 2) := by decide +kernel
theorem dX9_init_233 : decode cX9_init 233 = .ok (.newarray .int, 2) := by decide +kernel
theorem dX9_init_235 : decode cX9_init 235 = .ok (.putfield 95, 3) := by decide +kernel
theorem dX9_init_238 : decode cX9_init 238 = .ok (.aload_n 0, 1) := by decide +kernel
theorem dX9_init_239 : decode cX9_init 239 = .ok (.bipush 24, 2) := by decide +kernel
theorem dX9_init_241 : decode cX9_init 241 = .ok (.newarray .int, 2) := by decide +kernel
theorem dX9_init_243 : decode cX9_init 243 = .ok (.putfield 98, 3) := by decide +kernel
theorem dX9_init_246 : decode cX9_init 246 = .ok (.aload_n 0, 1) := by decide +kernel
theorem dX9_init_247 : decode cX9_init 247 = .ok (.bipush 24, 2) := by decide +kernel
theorem dX9_init_249 : decode cX9_init 249 = .ok (.newarray .int, 2) := by decide +kernel
theorem dX9_init_251 : decode cX9_init 251 = .ok (.putfield 101, 3) := by decide +kernel
theorem dX9_init_254 : decode cX9_init 254 = .ok (.aload_n 0, 1) := by decide +kernel
theorem dX9_init_255 : decode cX9_init 255 = .ok (.bipush 24, 2) := by decide +kernel
theorem dX9_init_257 : decode cX9_init 257 = .ok (.newarray .int, 2) := by decide +kernel
theorem dX9_init_259 : decode cX9_init 259 = .ok (.putfield 104, 3) := by decide +kernel
theorem dX9_init_262 : decode cX9_init 262 = .ok (.aload_n 0, 1) := by decide +kernel
theorem dX9_init_263 : decode cX9_init 263 = .ok (.bipush 24, 2) := by decide +kernel
theorem dX9_init_265 : decode cX9_init 265 = .ok (.newarray .int, 2) := by decide +kernel
theorem dX9_init_267 : decode cX9_init 267 = .ok (.putfield 107, 3) := by decide +kernel
theorem dX9_init_270 : decode cX9_init 270 = .ok (.aload_n 0, 1) := by decide +kernel
theorem dX9_init_271 : decode cX9_init 271 = .ok (.bipush 24, 2) := by decide +kernel
theorem dX9_init_273 : decode cX9_init 273 = .ok (.newarray .boolean, 2) := by decide +kernel
theorem dX9_init_275 : decode cX9_init 275 = .ok (.putfield 110, 3) := by decide +kernel
theorem dX9_init_278 : decode cX9_init 278 = .ok (.aload_n 0, 1) := by decide +kernel
theorem dX9_init_279 : decode cX9_init 279 = .ok (.bipush 24, 2) := by decide +kernel
theorem dX9_init_281 : decode cX9_init 281 = .ok (.newarray .boolean, 2) := by decide +kernel
theorem dX9_init_283 : decode cX9_init 283 = .ok (.putfield 113, 3) := by decide +kernel
theorem dX9_init_286 : decode cX9_init 286 = .ok (.aload_n 0, 1) := by decide +kernel
theorem dX9_init_287 : decode cX9_init 287 = .ok (.sipush 576, 3) := by decide +kernel
theorem dX9_init_290 : decode cX9_init 290 = .ok (.newarray .boolean, 2) := by decide +kernel
theorem dX9_init_292 : decode cX9_init 292 = .ok (.putfield 116, 3) := by decide +kernel
theorem dX9_init_295 : decode cX9_init 295 = .ok (.aload_n 0, 1) := by decide +kernel
theorem dX9_init_296 : decode cX9_init 296 = .ok (.sipush 1024, 3) := by decide +kernel
theorem dX9_init_299 : decode cX9_init 299 = .ok (.newarray .int, 2) := by decide +kernel
theorem dX9_init_301 : decode cX9_init 301 = .ok (.putfield 119, 3) := by decide +kernel
theorem dX9_init_304 : decode cX9_init 304 = .ok (.aload_n 0, 1) := by decide +kernel
theorem dX9_init_305 : decode cX9_init 305 = .ok (.sipush 1024, 3) := by decide +kernel
theorem dX9_init_308 : decode cX9_init 308 = .ok (.newarray .int, 2) := by decide +kernel
theorem dX9_init_310 : decode cX9_init 310 = .ok (.putfield 122, 3) := by decide +kernel
theorem dX9_init_313 : decode cX9_init 313 = .ok (.aload_n 0, 1) := by decide +kernel
theorem dX9_init_314 : decode cX9_init 314 = .ok (.sipush 1024, 3) := by decide +kernel
theorem dX9_init_317 : decode cX9_init 317 = .ok (.newarray .int, 2) := by decide +kernel
theorem dX9_init_319 : decode cX9_init 319 = .ok (.putfield 125, 3) := by decide +kernel
theorem dX9_init_322 : decode cX9_init 322 = .ok (.aload_n 0, 1) := by decide +kernel
theorem dX9_init_323 : decode cX9_init 323 = .ok (.sipush 1024, 3) := by decide +kernel
theorem dX9_init_326 : decode cX9_init 326 = .ok (.newarray .int, 2) := by decide +kernel
theorem dX9_init_328 : decode cX9_init 328 = .ok (.putfield 128, 3) := by decide +kernel
theorem dX9_init_331 : decode cX9_init 331 = .ok (.aload_n 0, 1) := by decide +kernel
theorem dX9_init_332 : decode cX9_init 332 = .ok (.sipush 1024, 3) := by decide +kernel
theorem dX9_init_335 : decode cX9_init 335 = .ok (.newarray .boolean, 2) := by decide +kernel
theorem dX9_init_337 : decode cX9_init 337 = .ok (.putfield 131, 3) := by decide +kernel
theorem dX9_init_340 : decode cX9_init 340 = .ok (.aload_n 0, 1) := by decide +kernel
theorem dX9_init_341 : decode cX9_init 341 = .ok (.iconst 5, 1) := by decide +kernel
theorem dX9_init_342 : decode cX9_init 342 = .ok (.newarray .int, 2) := by decide +kernel
theorem dX9_init_344 : decode cX9_init 344 = .ok (.putfield 134, 3) := by decide +kernel
theorem dX9_init_347 : decode cX9_init 347 = .ok (.aload_n 0, 1) := by decide +kernel
theorem dX9_init_348 : decode cX9_init 348 = .ok (.iconst 5, 1) := by decide +kernel
theorem dX9_init_349 : decode cX9_init 349 = .ok (.newarray .int, 2) := by decide +kernel
theorem dX9_init_351 : decode cX9_init 351 = .ok (.putfield 137, 3) := by decide +kernel
theorem dX9_init_354 : decode cX9_init 354 = .ok (.aload_n 0, 1) := by decide +kernel
theorem dX9_init_355 : decode cX9_init 355 = .ok (.bipush 6, 2) := by decide +kernel
theorem dX9_init_357 : decode cX9_init 357 = .ok (.newarray .long, 2) := by decide +kernel
theorem dX9_init_359 : decode cX9_init 359 = .ok (.putfield 140, 3) := by decide +kernel
theorem dX9_init_362 : decode cX9_init 362 = .ok (.iconst 0, 1) := by decide +kernel
theorem dX9_init_363 : decode cX9_init 363 = .ok (.istore_n 1, 1) := by decide +kernel
theorem dX9_init_364 : decode cX9_init 364 = .ok (.iload_n 1, 1) := by decide +kernel
theorem dX9_init_365 : decode cX9_init 365 = .ok (.sipush 240, 3) := by decide +kernel
theorem dX9_init_368 : decode cX9_init 368 = .ok (.if_icmp .ge 16, 3) := by decide +kernel
theorem dX9_init_371 : decode cX9_init 371 = .ok (.aload_n 0, 1) := by decide +kernel
theorem dX9_init_372 : decode cX9_init 372 = .ok (.getfield 44, 3) := by decide +kernel
theorem dX9_init_375 : decode cX9_init 375 = .ok (.iload_n 1, 1) := by decide +kernel
theorem dX9_init_376 : decode cX9_init 376 = .ok (.iconst (-1), 1) := by decide +kernel
theorem dX9_init_377 : decode cX9_init 377 = .ok (.iastore, 1) := by decide +kernel
theorem dX9_init_378 : decode cX9_init 378 = .ok (.iinc 1 1, 3) := by decide +kernel
theorem dX9_init_381 : decode cX9_init 381 = .ok (.goto (-17), 3) := by decide +kernel
theorem dX9_init_384 : decode cX9_init 384 = .ok (.iconst 0, 1) := by decide +kernel
theorem dX9_init_385 : decode cX9_init 385 = .ok (.istore_n 1, 1) := by decide +kernel
theorem dX9_init_386 : decode cX9_init 386 = .ok (.iload_n 1, 1) := by decide +kernel
theorem dX9_init_387 : decode cX9_init 387 = .ok (.bipush 6, 2) := by decide +kernel
theorem dX9_init_389 : decode cX9_init 389 = .ok (.if_icmp .ge 23, 3) := by decide +kernel
theorem dX9_init_392 : decode cX9_init 392 = .ok (.aload_n 0, 1) := by decide +kernel
theorem dX9_init_393 : decode cX9_init 393 = .ok (.getfield 28, 3) := by decide +kernel
theorem dX9_init_396 : decode cX9_init 396 = .ok (.iload_n 1, 1) := by decide +kernel
theorem dX9_init_397 : decode cX9_init 397 = .ok (.iconst (-1), 1) := by decide +kernel
theorem dX9_init_398 : decode cX9_init 398 = .ok (.iastore, 1) := by decide +kernel
theorem dX9_init_399 : decode cX9_init 399 = .ok (.aload_n 0, 1) := by decide +kernel
theorem dX9_init_400 : decode cX9_init 400 = .ok (.getfield 22, 3) := by decide +kernel
theorem dX9_init_403 : decode cX9_init 403 = .ok (.iload_n 1, 1) := by decide +kernel
theorem dX9_init_404 : decode cX9_init 404 = .ok (.iconst (-1), 1) := by decide +kernel
theorem dX9_init_405 : decode cX9_init 405 = .ok (.iastore, 1) := by decide +kernel
theorem dX9_init_406 : decode cX9_init 406 = .ok (.iinc 1 1, 3) := by decide +kernel
theorem dX9_init_409 : decode cX9_init 409 = .ok (.goto (-23), 3) := by decide +kernel
theorem dX9_init_412 : decode cX9_init 412 = .ok (.return_, 1) := by decide +kernel
theorem dX9_thrown_0 : decode cX9_thrown 0 = .ok (.aload_n 0, 1) := by decide +kernel
theorem dX9_thrown_1 : decode cX9_thrown 1 = .ok (.getfield 144, 3) := by decide +kernel
theorem dX9_thrown_4 : decode cX9_thrown 4 = .ok (.ireturn, 1) := by decide +kernel
theorem dX9_goes_0 : decode cX9_goes 0 = .ok (.aload_n 0, 1) := by decide +kernel
theorem dX9_goes_1 : decode cX9_goes 1 = .ok (.iload_n 1, 1) := by decide +kernel
theorem dX9_goes_2 : decode cX9_goes 2 = .ok (.putfield 144, 3) := by decide +kernel
theorem dX9_goes_5 : decode cX9_goes 5 = .ok (.iload_n 1, 1) := by decide +kernel
theorem dX9_goes_6 : decode cX9_goes 6 = .ok (.ifCond .ne 7, 3) := by decide +kernel
theorem dX9_goes_9 : decode cX9_goes 9 = .ok (.iconst 1, 1) := by decide +kernel
theorem dX9_goes_10 : decode cX9_goes 10 = .ok (.goto 4, 3) := by decide +kernel
theorem dX9_goes_13 : decode cX9_goes 13 = .ok (.iconst 0, 1) := by decide +kernel
theorem dX9_goes_14 : decode cX9_goes 14 = .ok (.ireturn, 1) := by decide +kernel
theorem dX9_isIn_0 : decode cX9_isIn 0 = .ok (.iload_n 0, 1) := by decide +kernel
theorem dX9_isIn_1 : decode cX9_isIn 1 = .ok (.iload_n 1, 1) := by decide +kernel
theorem dX9_isIn_2 : decode cX9_isIn 2 = .ok (.if_icmp .lt 12, 3) := by decide +kernel
theorem dX9_isIn_5 : decode cX9_isIn 5 = .ok (.iload_n 0, 1) := by decide +kernel
theorem dX9_isIn_6 : decode cX9_isIn 6 = .ok (.iload_n 2, 1) := by decide +kernel
theorem dX9_isIn_7 : decode cX9_isIn 7 = .ok (.if_icmp .gt 7, 3) := by decide +kernel
theorem dX9_isIn_10 : decode cX9_isIn 10 = .ok (.iconst 1, 1) := by decide +kernel
theorem dX9_isIn_11 : decode cX9_isIn 11 = .ok (.goto 4, 3) := by decide +kernel
theorem dX9_isIn_14 : decode cX9_isIn 14 = .ok (.iconst 0, 1) := by decide +kernel
theorem dX9_isIn_15 : decode cX9_isIn 15 = .ok (.ireturn, 1) := by decide +kernel
theorem dX9_isStreet_0 : decode cX9_isStreet 0 = .ok (.iload_n 1, 1) := by decide +kernel
theorem dX9_isStreet_1 : decode cX9_isStreet 1 = .ok (.iconst 0, 1) := by decide +kernel
theorem dX9_isStreet_2 : decode cX9_isStreet 2 = .ok (.aload_n 0, 1) := by decide +kernel
theorem dX9_isStreet_3 : decode cX9_isStreet 3 = .ok (.getfield 148, 3) := by decide +kernel
theorem dX9_isStreet_6 : decode cX9_isStreet 6 = .ok (.iconst 1, 1) := by decide +kernel
theorem dX9_isStreet_7 : decode cX9_isStreet 7 = .ok (.isub, 1) := by decide +kernel
theorem dX9_isStreet_8 : decode cX9_isStreet 8 = .ok (.invokestatic 151, 3) := by decide +kernel
theorem dX9_isStreet_11 : decode cX9_isStreet 11 = .ok (.ireturn, 1) := by decide +kernel
theorem dX9_isMetre_0 : decode cX9_isMetre 0 = .ok (.aload_n 0, 1) := by decide +kernel
theorem dX9_isMetre_1 : decode cX9_isMetre 1 = .ok (.iload_n 1, 1) := by decide +kernel
theorem dX9_isMetre_2 : decode cX9_isMetre 2 = .ok (.invokevirtual 155, 3) := by decide +kernel
theorem dX9_isMetre_5 : decode cX9_isMetre 5 = .ok (.ifCond .eq 23, 3) := by decide +kernel
theorem dX9_isMetre_8 : decode cX9_isMetre 8 = .ok (.iload_n 2, 1) := by decide +kernel
theorem dX9_isMetre_9 : decode cX9_isMetre 9 = .ok (.iconst 0, 1) := by decide +kernel
theorem dX9_isMetre_10 : decode cX9_isMetre 10 = .ok (.aload_n 0, 1) := by decide +kernel
theorem dX9_isMetre_11 : decode cX9_isMetre 11 = .ok (.getfield 7, 3) := by decide +kernel
theorem dX9_isMetre_14 : decode cX9_isMetre 14 = .ok (.iload_n 1, 1) := by decide +kernel
theorem dX9_isMetre_15 : decode cX9_isMetre 15 = .ok (.iaload, 1) := by decide +kernel
theorem dX9_isMetre_16 : decode cX9_isMetre 16 = .ok (.iconst 1, 1) := by decide +kernel
theorem dX9_isMetre_17 : decode cX9_isMetre 17 = .ok (.isub, 1) := by decide +kernel
theorem dX9_isMetre_18 : decode cX9_isMetre 18 = .ok (.invokestatic 151, 3) := by decide +kernel
theorem dX9_isMetre_21 : decode cX9_isMetre 21 = .ok (.ifCond .eq 7, 3) := by decide +kernel
theorem dX9_isMetre_24 : decode cX9_isMetre 24 = .ok (.iconst 1, 1) := by decide +kernel
theorem dX9_isMetre_25 : decode cX9_isMetre 25 = .ok (.goto 4, 3) := by decide +kernel
theorem dX9_isMetre_28 : decode cX9_isMetre 28 = .ok (.iconst 0, 1) := by decide +kernel
theorem dX9_isMetre_29 : decode cX9_isMetre 29 = .ok (.ireturn, 1) := by decide +kernel
theorem dX9_isThing_0 : decode cX9_isThing 0 = .ok (.iload_n 1, 1) := by decide +kernel
theorem dX9_isThing_1 : decode cX9_isThing 1 = .ok (.iconst 0, 1) := by decide +kernel
theorem dX9_isThing_2 : decode cX9_isThing 2 = .ok (.aload_n 0, 1) := by decide +kernel
theorem dX9_isThing_3 : decode cX9_isThing 3 = .ok (.getfield 159, 3) := by decide +kernel
theorem dX9_isThing_6 : decode cX9_isThing 6 = .ok (.iconst 1, 1) := by decide +kernel
theorem dX9_isThing_7 : decode cX9_isThing 7 = .ok (.isub, 1) := by decide +kernel
theorem dX9_isThing_8 : decode cX9_isThing 8 = .ok (.invokestatic 151, 3) := by decide +kernel
theorem dX9_isThing_11 : decode cX9_isThing 11 = .ok (.ireturn, 1) := by decide +kernel
theorem dX9_areWorks_0 : decode cX9_areWorks 0 = .ok (.iload_n 1, 1) := by decide +kernel
theorem dX9_areWorks_1 : decode cX9_areWorks 1 = .ok (.iconst 0, 1) := by decide +kernel
theorem dX9_areWorks_2 : decode cX9_areWorks 2 = .ok (.aload_n 0, 1) := by decide +kernel
theorem dX9_areWorks_3 : decode cX9_areWorks 3 = .ok (.getfield 162, 3) := by decide +kernel
theorem dX9_areWorks_6 : decode cX9_areWorks 6 = .ok (.iconst 1, 1) := by decide +kernel
theorem dX9_areWorks_7 : decode cX9_areWorks 7 = .ok (.isub, 1) := by decide +kernel
theorem dX9_areWorks_8 : decode cX9_areWorks 8 = .ok (.invokestatic 151, 3) := by decide +kernel
theorem dX9_areWorks_11 : decode cX9_areWorks 11 = .ok (.ireturn, 1) := by decide +kernel
theorem dX9_isPromoter_0 : decode cX9_isPromoter 0 = .ok (.iload_n 0, 1) := by decide +kernel
theorem dX9_isPromoter_1 : decode cX9_isPromoter 1 = .ok (.iconst 0, 1) := by decide +kernel
theorem dX9_isPromoter_2 : decode cX9_isPromoter 2 = .ok (.iconst 4, 1) := by decide +kernel
theorem dX9_isPromoter_3 : decode cX9_isPromoter 3 = .ok (.invokestatic 151, 3) := by decide +kernel
theorem dX9_isPromoter_6 : decode cX9_isPromoter 6 = .ok (.ireturn, 1) := by decide +kernel
theorem dX9_today_0 : decode cX9_today 0 = .ok (.aload_n 0, 1) := by decide +kernel
theorem dX9_today_1 : decode cX9_today 1 = .ok (.getfield 165, 3) := by decide +kernel
theorem dX9_today_4 : decode cX9_today 4 = .ok (.bipush 24, 2) := by decide +kernel
theorem dX9_today_6 : decode cX9_today 6 = .ok (.idiv, 1) := by decide +kernel
theorem dX9_today_7 : decode cX9_today 7 = .ok (.ireturn, 1) := by decide +kernel
theorem dX9_isBusy_0 : decode cX9_isBusy 0 = .ok (.aload_n 0, 1) := by decide +kernel
theorem dX9_isBusy_1 : decode cX9_isBusy 1 = .ok (.getfield 165, 3) := by decide +kernel
theorem dX9_isBusy_4 : decode cX9_isBusy 4 = .ok (.bipush 24, 2) := by decide +kernel
theorem dX9_isBusy_6 : decode cX9_isBusy 6 = .ok (.irem, 1) := by decide +kernel
theorem dX9_isBusy_7 : decode cX9_isBusy 7 = .ok (.bipush 7, 2) := by decide +kernel
theorem dX9_isBusy_9 : decode cX9_isBusy 9 = .ok (.bipush 9, 2) := by decide +kernel
theorem dX9_isBusy_11 : decode cX9_isBusy 11 = .ok (.invokestatic 151, 3) := by decide +kernel
theorem dX9_isBusy_14 : decode cX9_isBusy 14 = .ok (.ifCond .ne 20, 3) := by decide +kernel
theorem dX9_isBusy_17 : decode cX9_isBusy 17 = .ok (.aload_n 0, 1) := by decide +kernel
theorem dX9_isBusy_18 : decode cX9_isBusy 18 = .ok (.getfield 165, 3) := by decide +kernel
theorem dX9_isBusy_21 : decode cX9_isBusy 21 = .ok (.bipush 24, 2) := by decide +kernel
theorem dX9_isBusy_23 : decode cX9_isBusy 23 = .ok (.irem, 1) := by decide +kernel
theorem dX9_isBusy_24 : decode cX9_isBusy 24 = .ok (.bipush 16, 2) := by decide +kernel
theorem dX9_isBusy_26 : decode cX9_isBusy 26 = .ok (.bipush 18, 2) := by decide +kernel
theorem dX9_isBusy_28 : decode cX9_isBusy 28 = .ok (.invokestatic 151, 3) := by decide +kernel
theorem dX9_isBusy_31 : decode cX9_isBusy 31 = .ok (.ifCond .eq 7, 3) := by decide +kernel
theorem dX9_isBusy_34 : decode cX9_isBusy 34 = .ok (.iconst 1, 1) := by decide +kernel
theorem dX9_isBusy_35 : decode cX9_isBusy 35 = .ok (.goto 4, 3) := by decide +kernel
theorem dX9_isBusy_38 : decode cX9_isBusy 38 = .ok (.iconst 0, 1) := by decide +kernel
theorem dX9_isBusy_39 : decode cX9_isBusy 39 = .ok (.ireturn, 1) := by decide +kernel
theorem dX9_pays_0 : decode cX9_pays 0 = .ok (.aload_n 0, 1) := by decide +kernel
theorem dX9_pays_1 : decode cX9_pays 1 = .ok (.getfield 140, 3) := by decide +kernel
theorem dX9_pays_4 : decode cX9_pays 4 = .ok (.iload_n 1, 1) := by decide +kernel
theorem dX9_pays_5 : decode cX9_pays 5 = .ok (.dup2, 1) := by decide +kernel
theorem dX9_pays_6 : decode cX9_pays 6 = .ok (.laload, 1) := by decide +kernel
theorem dX9_pays_7 : decode cX9_pays 7 = .ok (.iload_n 3, 1) := by decide +kernel
theorem dX9_pays_8 : decode cX9_pays 8 = .ok (.i2l, 1) := by decide +kernel
theorem dX9_pays_9 : decode cX9_pays 9 = .ok (.lsub, 1) := by decide +kernel
theorem dX9_pays_10 : decode cX9_pays 10 = .ok (.lastore, 1) := by decide +kernel
theorem dX9_pays_11 : decode cX9_pays 11 = .ok (.aload_n 0, 1) := by decide +kernel
theorem dX9_pays_12 : decode cX9_pays 12 = .ok (.getfield 140, 3) := by decide +kernel
theorem dX9_pays_15 : decode cX9_pays 15 = .ok (.iload_n 2, 1) := by decide +kernel
theorem dX9_pays_16 : decode cX9_pays 16 = .ok (.dup2, 1) := by decide +kernel
theorem dX9_pays_17 : decode cX9_pays 17 = .ok (.laload, 1) := by decide +kernel
theorem dX9_pays_18 : decode cX9_pays 18 = .ok (.iload_n 3, 1) := by decide +kernel
theorem dX9_pays_19 : decode cX9_pays 19 = .ok (.i2l, 1) := by decide +kernel
theorem dX9_pays_20 : decode cX9_pays 20 = .ok (.ladd, 1) := by decide +kernel
theorem dX9_pays_21 : decode cX9_pays 21 = .ok (.lastore, 1) := by decide +kernel
theorem dX9_pays_22 : decode cX9_pays 22 = .ok (.return_, 1) := by decide +kernel
theorem dX9_street_0 : decode cX9_street 0 = .ok (.iload_n 1, 1) := by decide +kernel
theorem dX9_street_1 : decode cX9_street 1 = .ok (.iconst 1, 1) := by decide +kernel
theorem dX9_street_2 : decode cX9_street 2 = .ok (.bipush 40, 2) := by decide +kernel
theorem dX9_street_4 : decode cX9_street 4 = .ok (.invokestatic 151, 3) := by decide +kernel
theorem dX9_street_7 : decode cX9_street 7 = .ok (.ifCond .eq 27, 3) := by decide +kernel
theorem dX9_street_10 : decode cX9_street 10 = .ok (.iload_n 2, 1) := by decide +kernel
theorem dX9_street_11 : decode cX9_street 11 = .ok (.iconst 0, 1) := by decide +kernel
theorem dX9_street_12 : decode cX9_street 12 = .ok (.iconst 3, 1) := by decide +kernel
theorem dX9_street_13 : decode cX9_street 13 = .ok (.invokestatic 151, 3) := by decide +kernel
theorem dX9_street_16 : decode cX9_street 16 = .ok (.ifCond .eq 18, 3) := by decide +kernel
theorem dX9_street_19 : decode cX9_street 19 = .ok (.iload_n 3, 1) := by decide +kernel
theorem dX9_street_20 : decode cX9_street 20 = .ok (.iconst 0, 1) := by decide +kernel
theorem dX9_street_21 : decode cX9_street 21 = .ok (.sipush 999, 3) := by decide +kernel
theorem dX9_street_24 : decode cX9_street 24 = .ok (.invokestatic 151, 3) := by decide +kernel
theorem dX9_street_27 : decode cX9_street 27 = .ok (.ifCond .eq 7, 3) := by decide +kernel
theorem dX9_street_30 : decode cX9_street 30 = .ok (.iconst 1, 1) := by decide +kernel
theorem dX9_street_31 : decode cX9_street 31 = .ok (.goto 4, 3) := by decide +kernel
theorem dX9_street_34 : decode cX9_street 34 = .ok (.iconst 0, 1) := by decide +kernel
theorem dX9_street_35 : decode cX9_street 35 = .ok (.istore 5, 2) := by decide +kernel
theorem dX9_street_37 : decode cX9_street 37 = .ok (.aload_n 0, 1) := by decide +kernel
theorem dX9_street_38 : decode cX9_street 38 = .ok (.iload 4, 2) := by decide +kernel
theorem dX9_street_40 : decode cX9_street 40 = .ok (.iconst (-1), 1) := by decide +kernel
theorem dX9_street_41 : decode cX9_street 41 = .ok (.if_icmp .eq 16, 3) := by decide +kernel
theorem dX9_street_44 : decode cX9_street 44 = .ok (.aload_n 0, 1) := by decide +kernel
theorem dX9_street_45 : decode cX9_street 45 = .ok (.iload 4, 2) := by decide +kernel
theorem dX9_street_47 : decode cX9_street 47 = .ok (.invokevirtual 155, 3) := by decide +kernel
theorem dX9_street_50 : decode cX9_street 50 = .ok (.ifCond .ne 7, 3) := by decide +kernel
theorem dX9_street_53 : decode cX9_street 53 = .ok (.iconst 1, 1) := by decide +kernel
theorem dX9_street_54 : decode cX9_street 54 = .ok (.goto 26, 3) := by decide +kernel
theorem dX9_street_57 : decode cX9_street 57 = .ok (.iload 5, 2) := by decide +kernel
theorem dX9_street_59 : decode cX9_street 59 = .ok (.ifCond .ne 7, 3) := by decide +kernel
theorem dX9_street_62 : decode cX9_street 62 = .ok (.iconst 2, 1) := by decide +kernel
theorem dX9_street_63 : decode cX9_street 63 = .ok (.goto 17, 3) := by decide +kernel
theorem dX9_street_66 : decode cX9_street 66 = .ok (.aload_n 0, 1) := by decide +kernel
theorem dX9_street_67 : decode cX9_street 67 = .ok (.getfield 148, 3) := by decide +kernel
theorem dX9_street_70 : decode cX9_street 70 = .ok (.bipush 6, 2) := by decide +kernel
theorem dX9_street_72 : decode cX9_street 72 = .ok (.if_icmp .ne 7, 3) := by decide +kernel
theorem dX9_street_75 : decode cX9_street 75 = .ok (.iconst 3, 1) := by decide +kernel
theorem dX9_street_76 : decode cX9_street 76 = .ok (.goto 4, 3) := by decide +kernel
theorem dX9_street_79 : decode cX9_street 79 = .ok (.iconst 0, 1) := by decide +kernel
theorem dX9_street_80 : decode cX9_street 80 = .ok (.invokevirtual 168, 3) := by decide +kernel
theorem dX9_street_83 : decode cX9_street 83 = .ok (.ifCond .ne 5, 3) := by decide +kernel
theorem dX9_street_86 : decode cX9_street 86 = .ok (.iconst 0, 1) := by decide +kernel
theorem dX9_street_87 : decode cX9_street 87 = .ok (.ireturn, 1) := by decide +kernel
theorem dX9_street_88 : decode cX9_street 88 = .ok (.aload_n 0, 1) := by decide +kernel
theorem dX9_street_89 : decode cX9_street 89 = .ok (.getfield 7, 3) := by decide +kernel
theorem dX9_street_92 : decode cX9_street 92 = .ok (.aload_n 0, 1) := by decide +kernel
theorem dX9_street_93 : decode cX9_street 93 = .ok (.getfield 148, 3) := by decide +kernel
theorem dX9_street_96 : decode cX9_street 96 = .ok (.iload_n 1, 1) := by decide +kernel
theorem dX9_street_97 : decode cX9_street 97 = .ok (.iastore, 1) := by decide +kernel
theorem dX9_street_98 : decode cX9_street 98 = .ok (.aload_n 0, 1) := by decide +kernel
theorem dX9_street_99 : decode cX9_street 99 = .ok (.getfield 13, 3) := by decide +kernel
theorem dX9_street_102 : decode cX9_street 102 = .ok (.aload_n 0, 1) := by decide +kernel
theorem dX9_street_103 : decode cX9_street 103 = .ok (.getfield 148, 3) := by decide +kernel
theorem dX9_street_106 : decode cX9_street 106 = .ok (.iload_n 2, 1) := by decide +kernel
theorem dX9_street_107 : decode cX9_street 107 = .ok (.iastore, 1) := by decide +kernel
theorem dX9_street_108 : decode cX9_street 108 = .ok (.aload_n 0, 1) := by decide +kernel
theorem dX9_street_109 : decode cX9_street 109 = .ok (.getfield 16, 3) := by decide +kernel
theorem dX9_street_112 : decode cX9_street 112 = .ok (.aload_n 0, 1) := by decide +kernel
theorem dX9_street_113 : decode cX9_street 113 = .ok (.getfield 148, 3) := by decide +kernel
theorem dX9_street_116 : decode cX9_street 116 = .ok (.iload_n 3, 1) := by decide +kernel
theorem dX9_street_117 : decode cX9_street 117 = .ok (.iastore, 1) := by decide +kernel
theorem dX9_street_118 : decode cX9_street 118 = .ok (.aload_n 0, 1) := by decide +kernel
theorem dX9_street_119 : decode cX9_street 119 = .ok (.getfield 19, 3) := by decide +kernel
theorem dX9_street_122 : decode cX9_street 122 = .ok (.aload_n 0, 1) := by decide +kernel
theorem dX9_street_123 : decode cX9_street 123 = .ok (.getfield 148, 3) := by decide +kernel
theorem dX9_street_126 : decode cX9_street 126 = .ok (.iload 4, 2) := by decide +kernel
theorem dX9_street_128 : decode cX9_street 128 = .ok (.iastore, 1) := by decide +kernel
theorem dX9_street_129 : decode cX9_street 129 = .ok (.aload_n 0, 1) := by decide +kernel
theorem dX9_street_130 : decode cX9_street 130 = .ok (.dup, 1) := by decide +kernel
theorem dX9_street_131 : decode cX9_street 131 = .ok (.getfield 148, 3) := by decide +kernel
theorem dX9_street_134 : decode cX9_street 134 = .ok (.iconst 1, 1) := by decide +kernel
theorem dX9_street_135 : decode cX9_street 135 = .ok (.iadd, 1) := by decide +kernel
theorem dX9_street_136 : decode cX9_street 136 = .ok (.putfield 148, 3) := by decide +kernel
theorem dX9_street_139 : decode cX9_street 139 = .ok (.aload_n 0, 1) := by decide +kernel
theorem dX9_street_140 : decode cX9_street 140 = .ok (.getfield 148, 3) := by decide +kernel
theorem dX9_street_143 : decode cX9_street 143 = .ok (.iconst 1, 1) := by decide +kernel
theorem dX9_street_144 : decode cX9_street 144 = .ok (.isub, 1) := by decide +kernel
theorem dX9_street_145 : decode cX9_street 145 = .ok (.ireturn, 1) := by decide +kernel
theorem dX9_openIn_0 : decode cX9_openIn 0 = .ok (.iconst 0, 1) := by decide +kernel
theorem dX9_openIn_1 : decode cX9_openIn 1 = .ok (.istore_n 2, 1) := by decide +kernel
theorem dX9_openIn_2 : decode cX9_openIn 2 = .ok (.bipush 40, 2) := by decide +kernel
theorem dX9_openIn_4 : decode cX9_openIn 4 = .ok (.iload_n 1, 1) := by decide +kernel
theorem dX9_openIn_5 : decode cX9_openIn 5 = .ok (.imul, 1) := by decide +kernel
theorem dX9_openIn_6 : decode cX9_openIn 6 = .ok (.istore_n 3, 1) := by decide +kernel
theorem dX9_openIn_7 : decode cX9_openIn 7 = .ok (.iload_n 3, 1) := by decide +kernel
theorem dX9_openIn_8 : decode cX9_openIn 8 = .ok (.bipush 40, 2) := by decide +kernel
theorem dX9_openIn_10 : decode cX9_openIn 10 = .ok (.iload_n 1, 1) := by decide +kernel
theorem dX9_openIn_11 : decode cX9_openIn 11 = .ok (.imul, 1) := by decide +kernel
theorem dX9_openIn_12 : decode cX9_openIn 12 = .ok (.bipush 40, 2) := by decide +kernel
theorem dX9_openIn_14 : decode cX9_openIn 14 = .ok (.iadd, 1) := by decide +kernel
theorem dX9_openIn_15 : decode cX9_openIn 15 = .ok (.if_icmp .ge 27, 3) := by decide +kernel
theorem dX9_openIn_18 : decode cX9_openIn 18 = .ok (.iload_n 2, 1) := by decide +kernel
theorem dX9_openIn_19 : decode cX9_openIn 19 = .ok (.aload_n 0, 1) := by decide +kernel
theorem dX9_openIn_20 : decode cX9_openIn 20 = .ok (.getfield 44, 3) := by decide +kernel
theorem dX9_openIn_23 : decode cX9_openIn 23 = .ok (.iload_n 3, 1) := by decide +kernel
theorem dX9_openIn_24 : decode cX9_openIn 24 = .ok (.iaload, 1) := by decide +kernel
theorem dX9_openIn_25 : decode cX9_openIn 25 = .ok (.iconst (-1), 1) := by decide +kernel
theorem dX9_openIn_26 : decode cX9_openIn 26 = .ok (.if_icmp .ne 7, 3) := by decide +kernel
theorem dX9_openIn_29 : decode cX9_openIn 29 = .ok (.iconst 0, 1) := by decide +kernel
theorem dX9_openIn_30 : decode cX9_openIn 30 = .ok (.goto 4, 3) := by decide +kernel
theorem dX9_openIn_33 : decode cX9_openIn 33 = .ok (.iconst 1, 1) := by decide +kernel
theorem dX9_openIn_34 : decode cX9_openIn 34 = .ok (.iadd, 1) := by decide +kernel
theorem dX9_openIn_35 : decode cX9_openIn 35 = .ok (.istore_n 2, 1) := by decide +kernel
theorem dX9_openIn_36 : decode cX9_openIn 36 = .ok (.iinc 3 1, 3) := by decide +kernel
theorem dX9_openIn_39 : decode cX9_openIn 39 = .ok (.goto (-32), 3) := by decide +kernel
theorem dX9_openIn_42 : decode cX9_openIn 42 = .ok (.iload_n 2, 1) := by decide +kernel
theorem dX9_openIn_43 : decode cX9_openIn 43 = .ok (.ireturn, 1) := by decide +kernel
theorem dX9_surface_0 : decode cX9_surface 0 = .ok (.aload_n 0, 1) := by decide +kernel
theorem dX9_surface_1 : decode cX9_surface 1 = .ok (.iload_n 1, 1) := by decide +kernel
theorem dX9_surface_2 : decode cX9_surface 2 = .ok (.invokevirtual 155, 3) := by decide +kernel
theorem dX9_surface_5 : decode cX9_surface 5 = .ok (.istore_n 2, 1) := by decide +kernel
theorem dX9_surface_6 : decode cX9_surface 6 = .ok (.aload_n 0, 1) := by decide +kernel
theorem dX9_surface_7 : decode cX9_surface 7 = .ok (.iload_n 2, 1) := by decide +kernel
theorem dX9_surface_8 : decode cX9_surface 8 = .ok (.ifCond .ne 7, 3) := by decide +kernel
theorem dX9_surface_11 : decode cX9_surface 11 = .ok (.iconst 1, 1) := by decide +kernel
theorem dX9_surface_12 : decode cX9_surface 12 = .ok (.goto 16, 3) := by decide +kernel
theorem dX9_surface_15 : decode cX9_surface 15 = .ok (.aload_n 0, 1) := by decide +kernel
theorem dX9_surface_16 : decode cX9_surface 16 = .ok (.iload_n 1, 1) := by decide +kernel
theorem dX9_surface_17 : decode cX9_surface 17 = .ok (.invokevirtual 171, 3) := by decide +kernel
theorem dX9_surface_20 : decode cX9_surface 20 = .ok (.ifCond .le 7, 3) := by decide +kernel
theorem dX9_surface_23 : decode cX9_surface 23 = .ok (.iconst 2, 1) := by decide +kernel
theorem dX9_surface_24 : decode cX9_surface 24 = .ok (.goto 4, 3) := by decide +kernel
theorem dX9_surface_27 : decode cX9_surface 27 = .ok (.iconst 0, 1) := by decide +kernel
theorem dX9_surface_28 : decode cX9_surface 28 = .ok (.invokevirtual 168, 3) := by decide +kernel
theorem dX9_surface_31 : decode cX9_surface 31 = .ok (.ifCond .ne 5, 3) := by decide +kernel
theorem dX9_surface_34 : decode cX9_surface 34 = .ok (.iconst 0, 1) := by decide +kernel
theorem dX9_surface_35 : decode cX9_surface 35 = .ok (.ireturn, 1) := by decide +kernel
theorem dX9_surface_36 : decode cX9_surface 36 = .ok (.aload_n 0, 1) := by decide +kernel
theorem dX9_surface_37 : decode cX9_surface 37 = .ok (.getfield 22, 3) := by decide +kernel
theorem dX9_surface_40 : decode cX9_surface 40 = .ok (.iload_n 1, 1) := by decide +kernel
theorem dX9_surface_41 : decode cX9_surface 41 = .ok (.aload_n 0, 1) := by decide +kernel
theorem dX9_surface_42 : decode cX9_surface 42 = .ok (.invokevirtual 175, 3) := by decide +kernel
theorem dX9_surface_45 : decode cX9_surface 45 = .ok (.iastore, 1) := by decide +kernel
theorem dX9_surface_46 : decode cX9_surface 46 = .ok (.aload_n 0, 1) := by decide +kernel
theorem dX9_surface_47 : decode cX9_surface 47 = .ok (.getfield 25, 3) := by decide +kernel
theorem dX9_surface_50 : decode cX9_surface 50 = .ok (.iload_n 1, 1) := by decide +kernel
theorem dX9_surface_51 : decode cX9_surface 51 = .ok (.aload_n 0, 1) := by decide +kernel
theorem dX9_surface_52 : decode cX9_surface 52 = .ok (.getfield 179, 3) := by decide +kernel
theorem dX9_surface_55 : decode cX9_surface 55 = .ok (.iastore, 1) := by decide +kernel
theorem dX9_surface_56 : decode cX9_surface 56 = .ok (.aload_n 0, 1) := by decide +kernel
theorem dX9_surface_57 : decode cX9_surface 57 = .ok (.invokevirtual 175, 3) := by decide +kernel
theorem dX9_surface_60 : decode cX9_surface 60 = .ok (.bipush 99, 2) := by decide +kernel
theorem dX9_surface_62 : decode cX9_surface 62 = .ok (.iadd, 1) := by decide +kernel
theorem dX9_surface_63 : decode cX9_surface 63 = .ok (.ireturn, 1) := by decide +kernel
theorem dX9_embargo_0 : decode cX9_embargo 0 = .ok (.iload_n 2, 1) := by decide +kernel
theorem dX9_embargo_1 : decode cX9_embargo 1 = .ok (.iconst 0, 1) := by decide +kernel
theorem dX9_embargo_2 : decode cX9_embargo 2 = .ok (.sipush 999, 3) := by decide +kernel
theorem dX9_embargo_5 : decode cX9_embargo 5 = .ok (.invokestatic 151, 3) := by decide +kernel
theorem dX9_embargo_8 : decode cX9_embargo 8 = .ok (.ifCond .eq 18, 3) := by decide +kernel
theorem dX9_embargo_11 : decode cX9_embargo 11 = .ok (.iload_n 3, 1) := by decide +kernel
theorem dX9_embargo_12 : decode cX9_embargo 12 = .ok (.iload_n 2, 1) := by decide +kernel
theorem dX9_embargo_13 : decode cX9_embargo 13 = .ok (.sipush 999, 3) := by decide +kernel
theorem dX9_embargo_16 : decode cX9_embargo 16 = .ok (.invokestatic 151, 3) := by decide +kernel
theorem dX9_embargo_19 : decode cX9_embargo 19 = .ok (.ifCond .eq 7, 3) := by decide +kernel
theorem dX9_embargo_22 : decode cX9_embargo 22 = .ok (.iconst 1, 1) := by decide +kernel
theorem dX9_embargo_23 : decode cX9_embargo 23 = .ok (.goto 4, 3) := by decide +kernel
theorem dX9_embargo_26 : decode cX9_embargo 26 = .ok (.iconst 0, 1) := by decide +kernel
theorem dX9_embargo_27 : decode cX9_embargo 27 = .ok (.istore 4, 2) := by decide +kernel
theorem dX9_embargo_29 : decode cX9_embargo 29 = .ok (.aload_n 0, 1) := by decide +kernel
theorem dX9_embargo_30 : decode cX9_embargo 30 = .ok (.aload_n 0, 1) := by decide +kernel
theorem dX9_embargo_31 : decode cX9_embargo 31 = .ok (.iload_n 1, 1) := by decide +kernel
theorem dX9_embargo_32 : decode cX9_embargo 32 = .ok (.invokevirtual 155, 3) := by decide +kernel
theorem dX9_embargo_35 : decode cX9_embargo 35 = .ok (.ifCond .ne 7, 3) := by decide +kernel
theorem dX9_embargo_38 : decode cX9_embargo 38 = .ok (.iconst 1, 1) := by decide +kernel
theorem dX9_embargo_39 : decode cX9_embargo 39 = .ok (.goto 13, 3) := by decide +kernel
theorem dX9_embargo_42 : decode cX9_embargo 42 = .ok (.iload 4, 2) := by decide +kernel
theorem dX9_embargo_44 : decode cX9_embargo 44 = .ok (.ifCond .eq 7, 3) := by decide +kernel
theorem dX9_embargo_47 : decode cX9_embargo 47 = .ok (.iconst 0, 1) := by decide +kernel
theorem dX9_embargo_48 : decode cX9_embargo 48 = .ok (.goto 4, 3) := by decide +kernel
theorem dX9_embargo_51 : decode cX9_embargo 51 = .ok (.iconst 2, 1) := by decide +kernel
theorem dX9_embargo_52 : decode cX9_embargo 52 = .ok (.invokevirtual 168, 3) := by decide +kernel
theorem dX9_embargo_55 : decode cX9_embargo 55 = .ok (.ifCond .ne 5, 3) := by decide +kernel
theorem dX9_embargo_58 : decode cX9_embargo 58 = .ok (.iconst 0, 1) := by decide +kernel
theorem dX9_embargo_59 : decode cX9_embargo 59 = .ok (.ireturn, 1) := by decide +kernel
theorem dX9_embargo_60 : decode cX9_embargo 60 = .ok (.aload_n 0, 1) := by decide +kernel
theorem dX9_embargo_61 : decode cX9_embargo 61 = .ok (.getfield 28, 3) := by decide +kernel
theorem dX9_embargo_64 : decode cX9_embargo 64 = .ok (.iload_n 1, 1) := by decide +kernel
theorem dX9_embargo_65 : decode cX9_embargo 65 = .ok (.iload_n 2, 1) := by decide +kernel
theorem dX9_embargo_66 : decode cX9_embargo 66 = .ok (.iastore, 1) := by decide +kernel
theorem dX9_embargo_67 : decode cX9_embargo 67 = .ok (.aload_n 0, 1) := by decide +kernel
theorem dX9_embargo_68 : decode cX9_embargo 68 = .ok (.getfield 31, 3) := by decide +kernel
theorem dX9_embargo_71 : decode cX9_embargo 71 = .ok (.iload_n 1, 1) := by decide +kernel
theorem dX9_embargo_72 : decode cX9_embargo 72 = .ok (.iload_n 3, 1) := by decide +kernel
theorem dX9_embargo_73 : decode cX9_embargo 73 = .ok (.iastore, 1) := by decide +kernel
theorem dX9_embargo_74 : decode cX9_embargo 74 = .ok (.iconst 0, 1) := by decide +kernel
theorem dX9_embargo_75 : decode cX9_embargo 75 = .ok (.istore 5, 2) := by decide +kernel
theorem dX9_embargo_77 : decode cX9_embargo 77 = .ok (.iconst 0, 1) := by decide +kernel
theorem dX9_embargo_78 : decode cX9_embargo 78 = .ok (.istore 6, 2) := by decide +kernel
theorem dX9_embargo_80 : decode cX9_embargo 80 = .ok (.iload 6, 2) := by decide +kernel
theorem dX9_embargo_82 : decode cX9_embargo 82 = .ok (.aload_n 0, 1) := by decide +kernel
theorem dX9_embargo_83 : decode cX9_embargo 83 = .ok (.getfield 162, 3) := by decide +kernel
theorem dX9_embargo_86 : decode cX9_embargo 86 = .ok (.if_icmp .ge 52, 3) := by decide +kernel
theorem dX9_embargo_89 : decode cX9_embargo 89 = .ok (.iload 5, 2) := by decide +kernel
theorem dX9_embargo_91 : decode cX9_embargo 91 = .ok (.aload_n 0, 1) := by decide +kernel
theorem dX9_embargo_92 : decode cX9_embargo 92 = .ok (.getfield 74, 3) := by decide +kernel
theorem dX9_embargo_95 : decode cX9_embargo 95 = .ok (.iload 6, 2) := by decide +kernel
theorem dX9_embargo_97 : decode cX9_embargo 97 = .ok (.iaload, 1) := by decide +kernel
theorem dX9_embargo_98 : decode cX9_embargo 98 = .ok (.iload_n 1, 1) := by decide +kernel
theorem dX9_embargo_99 : decode cX9_embargo 99 = .ok (.if_icmp .ne 29, 3) := by decide +kernel
theorem dX9_embargo_102 : decode cX9_embargo 102 = .ok (.aload_n 0, 1) := by decide +kernel
theorem dX9_embargo_103 : decode cX9_embargo 103 = .ok (.getfield 98, 3) := by decide +kernel
theorem dX9_embargo_106 : decode cX9_embargo 106 = .ok (.iload 6, 2) := by decide +kernel
theorem dX9_embargo_108 : decode cX9_embargo 108 = .ok (.iaload, 1) := by decide +kernel
theorem dX9_embargo_109 : decode cX9_embargo 109 = .ok (.iconst 1, 1) := by decide +kernel
theorem dX9_embargo_110 : decode cX9_embargo 110 = .ok (.if_icmp .ne 18, 3) := by decide +kernel
theorem dX9_embargo_113 : decode cX9_embargo 113 = .ok (.aload_n 0, 1) := by decide +kernel
theorem dX9_embargo_114 : decode cX9_embargo 114 = .ok (.iload 6, 2) := by decide +kernel
theorem dX9_embargo_116 : decode cX9_embargo 116 = .ok (.iload_n 2, 1) := by decide +kernel
theorem dX9_embargo_117 : decode cX9_embargo 117 = .ok (.iload_n 3, 1) := by decide +kernel
theorem dX9_embargo_118 : decode cX9_embargo 118 = .ok (.invokevirtual 182, 3) := by decide +kernel
theorem dX9_embargo_121 : decode cX9_embargo 121 = .ok (.ifCond .eq 7, 3) := by decide +kernel
theorem dX9_embargo_124 : decode cX9_embargo 124 = .ok (.iconst 1, 1) := by decide +kernel
theorem dX9_embargo_125 : decode cX9_embargo 125 = .ok (.goto 4, 3) := by decide +kernel
theorem dX9_embargo_128 : decode cX9_embargo 128 = .ok (.iconst 0, 1) := by decide +kernel
theorem dX9_embargo_129 : decode cX9_embargo 129 = .ok (.iadd, 1) := by decide +kernel
theorem dX9_embargo_130 : decode cX9_embargo 130 = .ok (.istore 5, 2) := by decide +kernel
theorem dX9_embargo_132 : decode cX9_embargo 132 = .ok (.iinc 6 1, 3) := by decide +kernel
theorem dX9_embargo_135 : decode cX9_embargo 135 = .ok (.goto (-55), 3) := by decide +kernel
theorem dX9_embargo_138 : decode cX9_embargo 138 = .ok (.iload 5, 2) := by decide +kernel
theorem dX9_embargo_140 : decode cX9_embargo 140 = .ok (.ireturn, 1) := by decide +kernel
theorem dX9_thing_0 : decode cX9_thing 0 = .ok (.iload_n 1, 1) := by decide +kernel
theorem dX9_thing_1 : decode cX9_thing 1 = .ok (.invokestatic 185, 3) := by decide +kernel
theorem dX9_thing_4 : decode cX9_thing 4 = .ok (.ifCond .eq 26, 3) := by decide +kernel
theorem dX9_thing_7 : decode cX9_thing 7 = .ok (.aload_n 0, 1) := by decide +kernel
theorem dX9_thing_8 : decode cX9_thing 8 = .ok (.iload_n 2, 1) := by decide +kernel
theorem dX9_thing_9 : decode cX9_thing 9 = .ok (.iload_n 3, 1) := by decide +kernel
theorem dX9_thing_10 : decode cX9_thing 10 = .ok (.invokevirtual 188, 3) := by decide +kernel
theorem dX9_thing_13 : decode cX9_thing 13 = .ok (.ifCond .eq 17, 3) := by decide +kernel
theorem dX9_thing_16 : decode cX9_thing 16 = .ok (.aload_n 0, 1) := by decide +kernel
theorem dX9_thing_17 : decode cX9_thing 17 = .ok (.iload_n 2, 1) := by decide +kernel
theorem dX9_thing_18 : decode cX9_thing 18 = .ok (.iload 4, 2) := by decide +kernel
theorem dX9_thing_20 : decode cX9_thing 20 = .ok (.invokevirtual 188, 3) := by decide +kernel
theorem dX9_thing_23 : decode cX9_thing 23 = .ok (.ifCond .eq 7, 3) := by decide +kernel
theorem dX9_thing_26 : decode cX9_thing 26 = .ok (.iconst 1, 1) := by decide +kernel
theorem dX9_thing_27 : decode cX9_thing 27 = .ok (.goto 4, 3) := by decide +kernel
theorem dX9_thing_30 : decode cX9_thing 30 = .ok (.iconst 0, 1) := by decide +kernel
theorem dX9_thing_31 : decode cX9_thing 31 = .ok (.istore 6, 2) := by decide +kernel
theorem dX9_thing_33 : decode cX9_thing 33 = .ok (.iload 4, 2) := by decide +kernel
theorem dX9_thing_35 : decode cX9_thing 35 = .ok (.iload_n 3, 1) := by decide +kernel
theorem dX9_thing_36 : decode cX9_thing 36 = .ok (.if_icmp .lt 20, 3) := by decide +kernel
theorem dX9_thing_39 : decode cX9_thing 39 = .ok (.iload 5, 2) := by decide +kernel
theorem dX9_thing_41 : decode cX9_thing 41 = .ok (.bipush 10, 2) := by decide +kernel
theorem dX9_thing_43 : decode cX9_thing 43 = .ok (.sipush 300, 3) := by decide +kernel
theorem dX9_thing_46 : decode cX9_thing 46 = .ok (.invokestatic 151, 3) := by decide +kernel
theorem dX9_thing_49 : decode cX9_thing 49 = .ok (.ifCond .eq 7, 3) := by decide +kernel
theorem dX9_thing_52 : decode cX9_thing 52 = .ok (.iconst 1, 1) := by decide +kernel
theorem dX9_thing_53 : decode cX9_thing 53 = .ok (.goto 4, 3) := by decide +kernel
theorem dX9_thing_56 : decode cX9_thing 56 = .ok (.iconst 0, 1) := by decide +kernel
theorem dX9_thing_57 : decode cX9_thing 57 = .ok (.istore 7, 2) := by decide +kernel
theorem dX9_thing_59 : decode cX9_thing 59 = .ok (.aload_n 0, 1) := by decide +kernel
theorem dX9_thing_60 : decode cX9_thing 60 = .ok (.iload 6, 2) := by decide +kernel
theorem dX9_thing_62 : decode cX9_thing 62 = .ok (.ifCond .ne 7, 3) := by decide +kernel
theorem dX9_thing_65 : decode cX9_thing 65 = .ok (.iconst 1, 1) := by decide +kernel
theorem dX9_thing_66 : decode cX9_thing 66 = .ok (.goto 26, 3) := by decide +kernel
theorem dX9_thing_69 : decode cX9_thing 69 = .ok (.iload 7, 2) := by decide +kernel
theorem dX9_thing_71 : decode cX9_thing 71 = .ok (.ifCond .ne 7, 3) := by decide +kernel
theorem dX9_thing_74 : decode cX9_thing 74 = .ok (.iconst 2, 1) := by decide +kernel
theorem dX9_thing_75 : decode cX9_thing 75 = .ok (.goto 17, 3) := by decide +kernel
theorem dX9_thing_78 : decode cX9_thing 78 = .ok (.aload_n 0, 1) := by decide +kernel
theorem dX9_thing_79 : decode cX9_thing 79 = .ok (.getfield 159, 3) := by decide +kernel
theorem dX9_thing_82 : decode cX9_thing 82 = .ok (.bipush 30, 2) := by decide +kernel
theorem dX9_thing_84 : decode cX9_thing 84 = .ok (.if_icmp .ne 7, 3) := by decide +kernel
theorem dX9_thing_87 : decode cX9_thing 87 = .ok (.iconst 3, 1) := by decide +kernel
theorem dX9_thing_88 : decode cX9_thing 88 = .ok (.goto 4, 3) := by decide +kernel
theorem dX9_thing_91 : decode cX9_thing 91 = .ok (.iconst 0, 1) := by decide +kernel
theorem dX9_thing_92 : decode cX9_thing 92 = .ok (.invokevirtual 168, 3) := by decide +kernel
theorem dX9_thing_95 : decode cX9_thing 95 = .ok (.ifCond .ne 5, 3) := by decide +kernel
theorem dX9_thing_98 : decode cX9_thing 98 = .ok (.iconst 0, 1) := by decide +kernel
theorem dX9_thing_99 : decode cX9_thing 99 = .ok (.ireturn, 1) := by decide +kernel
theorem dX9_thing_100 : decode cX9_thing 100 = .ok (.aload_n 0, 1) := by decide +kernel
theorem dX9_thing_101 : decode cX9_thing 101 = .ok (.getfield 47, 3) := by decide +kernel
theorem dX9_thing_104 : decode cX9_thing 104 = .ok (.aload_n 0, 1) := by decide +kernel
theorem dX9_thing_105 : decode cX9_thing 105 = .ok (.getfield 159, 3) := by decide +kernel
theorem dX9_thing_108 : decode cX9_thing 108 = .ok (.iload_n 1, 1) := by decide +kernel
theorem dX9_thing_109 : decode cX9_thing 109 = .ok (.iastore, 1) := by decide +kernel
theorem dX9_thing_110 : decode cX9_thing 110 = .ok (.aload_n 0, 1) := by decide +kernel
theorem dX9_thing_111 : decode cX9_thing 111 = .ok (.getfield 50, 3) := by decide +kernel
theorem dX9_thing_114 : decode cX9_thing 114 = .ok (.aload_n 0, 1) := by decide +kernel
theorem dX9_thing_115 : decode cX9_thing 115 = .ok (.getfield 159, 3) := by decide +kernel
theorem dX9_thing_118 : decode cX9_thing 118 = .ok (.iload_n 2, 1) := by decide +kernel
theorem dX9_thing_119 : decode cX9_thing 119 = .ok (.iastore, 1) := by decide +kernel
theorem dX9_thing_120 : decode cX9_thing 120 = .ok (.aload_n 0, 1) := by decide +kernel
theorem dX9_thing_121 : decode cX9_thing 121 = .ok (.getfield 53, 3) := by decide +kernel
theorem dX9_thing_124 : decode cX9_thing 124 = .ok (.aload_n 0, 1) := by decide +kernel
theorem dX9_thing_125 : decode cX9_thing 125 = .ok (.getfield 159, 3) := by decide +kernel
theorem dX9_thing_128 : decode cX9_thing 128 = .ok (.iload_n 3, 1) := by decide +kernel
theorem dX9_thing_129 : decode cX9_thing 129 = .ok (.iastore, 1) := by decide +kernel
theorem dX9_thing_130 : decode cX9_thing 130 = .ok (.aload_n 0, 1) := by decide +kernel
theorem dX9_thing_131 : decode cX9_thing 131 = .ok (.getfield 56, 3) := by decide +kernel
theorem dX9_thing_134 : decode cX9_thing 134 = .ok (.aload_n 0, 1) := by decide +kernel
theorem dX9_thing_135 : decode cX9_thing 135 = .ok (.getfield 159, 3) := by decide +kernel
theorem dX9_thing_138 : decode cX9_thing 138 = .ok (.iload 4, 2) := by decide +kernel
theorem dX9_thing_140 : decode cX9_thing 140 = .ok (.iastore, 1) := by decide +kernel
theorem dX9_thing_141 : decode cX9_thing 141 = .ok (.aload_n 0, 1) := by decide +kernel
theorem dX9_thing_142 : decode cX9_thing 142 = .ok (.getfield 59, 3) := by decide +kernel
theorem dX9_thing_145 : decode cX9_thing 145 = .ok (.aload_n 0, 1) := by decide +kernel
theorem dX9_thing_146 : decode cX9_thing 146 = .ok (.getfield 159, 3) := by decide +kernel
theorem dX9_thing_149 : decode cX9_thing 149 = .ok (.iload 5, 2) := by decide +kernel
theorem dX9_thing_151 : decode cX9_thing 151 = .ok (.iastore, 1) := by decide +kernel
theorem dX9_thing_152 : decode cX9_thing 152 = .ok (.iload_n 3, 1) := by decide +kernel
theorem dX9_thing_153 : decode cX9_thing 153 = .ok (.istore 8, 2) := by decide +kernel
theorem dX9_thing_155 : decode cX9_thing 155 = .ok (.iload 8, 2) := by decide +kernel
theorem dX9_thing_157 : decode cX9_thing 157 = .ok (.iload 4, 2) := by decide +kernel
theorem dX9_thing_159 : decode cX9_thing 159 = .ok (.if_icmp .gt 22, 3) := by decide +kernel
theorem dX9_thing_162 : decode cX9_thing 162 = .ok (.aload_n 0, 1) := by decide +kernel
theorem dX9_thing_163 : decode cX9_thing 163 = .ok (.getfield 40, 3) := by decide +kernel
theorem dX9_thing_166 : decode cX9_thing 166 = .ok (.bipush 40, 2) := by decide +kernel
theorem dX9_thing_168 : decode cX9_thing 168 = .ok (.iload_n 2, 1) := by decide +kernel
theorem dX9_thing_169 : decode cX9_thing 169 = .ok (.imul, 1) := by decide +kernel
theorem dX9_thing_170 : decode cX9_thing 170 = .ok (.iload 8, 2) := by decide +kernel
theorem dX9_thing_172 : decode cX9_thing 172 = .ok (.iadd, 1) := by decide +kernel
theorem dX9_thing_173 : decode cX9_thing 173 = .ok (.iconst 0, 1) := by decide +kernel
theorem dX9_thing_174 : decode cX9_thing 174 = .ok (.bastore, 1) := by decide +kernel
theorem dX9_thing_175 : decode cX9_thing 175 = .ok (.iinc 8 1, 3) := by decide +kernel
theorem dX9_thing_178 : decode cX9_thing 178 = .ok (.goto (-23), 3) := by decide +kernel
theorem dX9_thing_181 : decode cX9_thing 181 = .ok (.aload_n 0, 1) := by decide +kernel
theorem dX9_thing_182 : decode cX9_thing 182 = .ok (.dup, 1) := by decide +kernel
theorem dX9_thing_183 : decode cX9_thing 183 = .ok (.getfield 159, 3) := by decide +kernel
theorem dX9_thing_186 : decode cX9_thing 186 = .ok (.iconst 1, 1) := by decide +kernel
theorem dX9_thing_187 : decode cX9_thing 187 = .ok (.iadd, 1) := by decide +kernel
theorem dX9_thing_188 : decode cX9_thing 188 = .ok (.putfield 159, 3) := by decide +kernel
theorem dX9_thing_191 : decode cX9_thing 191 = .ok (.aload_n 0, 1) := by decide +kernel
theorem dX9_thing_192 : decode cX9_thing 192 = .ok (.getfield 159, 3) := by decide +kernel
theorem dX9_thing_195 : decode cX9_thing 195 = .ok (.iconst 1, 1) := by decide +kernel
theorem dX9_thing_196 : decode cX9_thing 196 = .ok (.isub, 1) := by decide +kernel
theorem dX9_thing_197 : decode cX9_thing 197 = .ok (.ireturn, 1) := by decide +kernel
theorem dX9_isSuspectBy_0 : decode cX9_isSuspectBy 0 = .ok (.aload_n 0, 1) := by decide +kernel
theorem dX9_isSuspectBy_1 : decode cX9_isSuspectBy 1 = .ok (.getfield 62, 3) := by decide +kernel
theorem dX9_isSuspectBy_4 : decode cX9_isSuspectBy 4 = .ok (.iload_n 1, 1) := by decide +kernel
theorem dX9_isSuspectBy_5 : decode cX9_isSuspectBy 5 = .ok (.baload, 1) := by decide +kernel
theorem dX9_isSuspectBy_6 : decode cX9_isSuspectBy 6 = .ok (.ifCond .eq 36, 3) := by decide +kernel
theorem dX9_isSuspectBy_9 : decode cX9_isSuspectBy 9 = .ok (.aload_n 0, 1) := by decide +kernel
theorem dX9_isSuspectBy_10 : decode cX9_isSuspectBy 10 = .ok (.getfield 50, 3) := by decide +kernel
theorem dX9_isSuspectBy_13 : decode cX9_isSuspectBy 13 = .ok (.iload_n 1, 1) := by decide +kernel
theorem dX9_isSuspectBy_14 : decode cX9_isSuspectBy 14 = .ok (.iaload, 1) := by decide +kernel
theorem dX9_isSuspectBy_15 : decode cX9_isSuspectBy 15 = .ok (.iload_n 2, 1) := by decide +kernel
theorem dX9_isSuspectBy_16 : decode cX9_isSuspectBy 16 = .ok (.if_icmp .ne 26, 3) := by decide +kernel
theorem dX9_isSuspectBy_19 : decode cX9_isSuspectBy 19 = .ok (.iload_n 3, 1) := by decide +kernel
theorem dX9_isSuspectBy_20 : decode cX9_isSuspectBy 20 = .ok (.aload_n 0, 1) := by decide +kernel
theorem dX9_isSuspectBy_21 : decode cX9_isSuspectBy 21 = .ok (.getfield 65, 3) := by decide +kernel
theorem dX9_isSuspectBy_24 : decode cX9_isSuspectBy 24 = .ok (.iload_n 1, 1) := by decide +kernel
theorem dX9_isSuspectBy_25 : decode cX9_isSuspectBy 25 = .ok (.iaload, 1) := by decide +kernel
theorem dX9_isSuspectBy_26 : decode cX9_isSuspectBy 26 = .ok (.aload_n 0, 1) := by decide +kernel
theorem dX9_isSuspectBy_27 : decode cX9_isSuspectBy 27 = .ok (.getfield 68, 3) := by decide +kernel
theorem dX9_isSuspectBy_30 : decode cX9_isSuspectBy 30 = .ok (.iload_n 1, 1) := by decide +kernel
theorem dX9_isSuspectBy_31 : decode cX9_isSuspectBy 31 = .ok (.iaload, 1) := by decide +kernel
theorem dX9_isSuspectBy_32 : decode cX9_isSuspectBy 32 = .ok (.invokestatic 151, 3) := by decide +kernel
theorem dX9_isSuspectBy_35 : decode cX9_isSuspectBy 35 = .ok (.ifCond .eq 7, 3) := by decide +kernel
theorem dX9_isSuspectBy_38 : decode cX9_isSuspectBy 38 = .ok (.iconst 1, 1) := by decide +kernel
theorem dX9_isSuspectBy_39 : decode cX9_isSuspectBy 39 = .ok (.goto 4, 3) := by decide +kernel
theorem dX9_isSuspectBy_42 : decode cX9_isSuspectBy 42 = .ok (.iconst 0, 1) := by decide +kernel
theorem dX9_isSuspectBy_43 : decode cX9_isSuspectBy 43 = .ok (.ireturn, 1) := by decide +kernel
theorem dX9_suspects_0 : decode cX9_suspects 0 = .ok (.iconst 0, 1) := by decide +kernel
theorem dX9_suspects_1 : decode cX9_suspects 1 = .ok (.istore_n 2, 1) := by decide +kernel
theorem dX9_suspects_2 : decode cX9_suspects 2 = .ok (.iconst 0, 1) := by decide +kernel
theorem dX9_suspects_3 : decode cX9_suspects 3 = .ok (.istore_n 3, 1) := by decide +kernel
theorem dX9_suspects_4 : decode cX9_suspects 4 = .ok (.iload_n 3, 1) := by decide +kernel
theorem dX9_suspects_5 : decode cX9_suspects 5 = .ok (.aload_n 0, 1) := by decide +kernel
theorem dX9_suspects_6 : decode cX9_suspects 6 = .ok (.getfield 7, 3) := by decide +kernel
theorem dX9_suspects_9 : decode cX9_suspects 9 = .ok (.aload_n 0, 1) := by decide +kernel
theorem dX9_suspects_10 : decode cX9_suspects 10 = .ok (.getfield 50, 3) := by decide +kernel
theorem dX9_suspects_13 : decode cX9_suspects 13 = .ok (.iload_n 1, 1) := by decide +kernel
theorem dX9_suspects_14 : decode cX9_suspects 14 = .ok (.iaload, 1) := by decide +kernel
theorem dX9_suspects_15 : decode cX9_suspects 15 = .ok (.iaload, 1) := by decide +kernel
theorem dX9_suspects_16 : decode cX9_suspects 16 = .ok (.if_icmp .ge 32, 3) := by decide +kernel
theorem dX9_suspects_19 : decode cX9_suspects 19 = .ok (.iload_n 2, 1) := by decide +kernel
theorem dX9_suspects_20 : decode cX9_suspects 20 = .ok (.aload_n 0, 1) := by decide +kernel
theorem dX9_suspects_21 : decode cX9_suspects 21 = .ok (.iload_n 1, 1) := by decide +kernel
theorem dX9_suspects_22 : decode cX9_suspects 22 = .ok (.aload_n 0, 1) := by decide +kernel
theorem dX9_suspects_23 : decode cX9_suspects 23 = .ok (.getfield 50, 3) := by decide +kernel
theorem dX9_suspects_26 : decode cX9_suspects 26 = .ok (.iload_n 1, 1) := by decide +kernel
theorem dX9_suspects_27 : decode cX9_suspects 27 = .ok (.iaload, 1) := by decide +kernel
theorem dX9_suspects_28 : decode cX9_suspects 28 = .ok (.iload_n 3, 1) := by decide +kernel
theorem dX9_suspects_29 : decode cX9_suspects 29 = .ok (.invokevirtual 192, 3) := by decide +kernel
theorem dX9_suspects_32 : decode cX9_suspects 32 = .ok (.ifCond .eq 7, 3) := by decide +kernel
theorem dX9_suspects_35 : decode cX9_suspects 35 = .ok (.iconst 1, 1) := by decide +kernel
theorem dX9_suspects_36 : decode cX9_suspects 36 = .ok (.goto 4, 3) := by decide +kernel
theorem dX9_suspects_39 : decode cX9_suspects 39 = .ok (.iconst 0, 1) := by decide +kernel
theorem dX9_suspects_40 : decode cX9_suspects 40 = .ok (.iadd, 1) := by decide +kernel
theorem dX9_suspects_41 : decode cX9_suspects 41 = .ok (.istore_n 2, 1) := by decide +kernel
theorem dX9_suspects_42 : decode cX9_suspects 42 = .ok (.iinc 3 1, 3) := by decide +kernel
theorem dX9_suspects_45 : decode cX9_suspects 45 = .ok (.goto (-41), 3) := by decide +kernel
theorem dX9_suspects_48 : decode cX9_suspects 48 = .ok (.iload_n 2, 1) := by decide +kernel
theorem dX9_suspects_49 : decode cX9_suspects 49 = .ok (.ireturn, 1) := by decide +kernel
theorem dX9_records_0 : decode cX9_records 0 = .ok (.aload_n 0, 1) := by decide +kernel
theorem dX9_records_1 : decode cX9_records 1 = .ok (.getfield 62, 3) := by decide +kernel
theorem dX9_records_4 : decode cX9_records 4 = .ok (.iload_n 1, 1) := by decide +kernel
theorem dX9_records_5 : decode cX9_records 5 = .ok (.iconst 1, 1) := by decide +kernel
theorem dX9_records_6 : decode cX9_records 6 = .ok (.bastore, 1) := by decide +kernel
theorem dX9_records_7 : decode cX9_records 7 = .ok (.aload_n 0, 1) := by decide +kernel
theorem dX9_records_8 : decode cX9_records 8 = .ok (.getfield 65, 3) := by decide +kernel
theorem dX9_records_11 : decode cX9_records 11 = .ok (.iload_n 1, 1) := by decide +kernel
theorem dX9_records_12 : decode cX9_records 12 = .ok (.iload_n 2, 1) := by decide +kernel
theorem dX9_records_13 : decode cX9_records 13 = .ok (.iload 4, 2) := by decide +kernel
theorem dX9_records_15 : decode cX9_records 15 = .ok (.isub, 1) := by decide +kernel
theorem dX9_records_16 : decode cX9_records 16 = .ok (.iastore, 1) := by decide +kernel
theorem dX9_records_17 : decode cX9_records 17 = .ok (.aload_n 0, 1) := by decide +kernel
theorem dX9_records_18 : decode cX9_records 18 = .ok (.getfield 68, 3) := by decide +kernel
theorem dX9_records_21 : decode cX9_records 21 = .ok (.iload_n 1, 1) := by decide +kernel
theorem dX9_records_22 : decode cX9_records 22 = .ok (.iload_n 3, 1) := by decide +kernel
theorem dX9_records_23 : decode cX9_records 23 = .ok (.iload 4, 2) := by decide +kernel
theorem dX9_records_25 : decode cX9_records 25 = .ok (.iadd, 1) := by decide +kernel
theorem dX9_records_26 : decode cX9_records 26 = .ok (.iastore, 1) := by decide +kernel
theorem dX9_records_27 : decode cX9_records 27 = .ok (.return_, 1) := by decide +kernel
theorem dX9_record_0 : decode cX9_record 0 = .ok (.aload_n 0, 1) := by decide +kernel
theorem dX9_record_1 : decode cX9_record 1 = .ok (.iload_n 1, 1) := by decide +kernel
theorem dX9_record_2 : decode cX9_record 2 = .ok (.invokevirtual 195, 3) := by decide +kernel
theorem dX9_record_5 : decode cX9_record 5 = .ok (.istore 5, 2) := by decide +kernel
theorem dX9_record_7 : decode cX9_record 7 = .ok (.iload 5, 2) := by decide +kernel
theorem dX9_record_9 : decode cX9_record 9 = .ok (.ifCond .eq 35, 3) := by decide +kernel
theorem dX9_record_12 : decode cX9_record 12 = .ok (.aload_n 0, 1) := by decide +kernel
theorem dX9_record_13 : decode cX9_record 13 = .ok (.aload_n 0, 1) := by decide +kernel
theorem dX9_record_14 : decode cX9_record 14 = .ok (.getfield 50, 3) := by decide +kernel
theorem dX9_record_17 : decode cX9_record 17 = .ok (.iload_n 1, 1) := by decide +kernel
theorem dX9_record_18 : decode cX9_record 18 = .ok (.iaload, 1) := by decide +kernel
theorem dX9_record_19 : decode cX9_record 19 = .ok (.iload_n 2, 1) := by decide +kernel
theorem dX9_record_20 : decode cX9_record 20 = .ok (.invokevirtual 188, 3) := by decide +kernel
theorem dX9_record_23 : decode cX9_record 23 = .ok (.ifCond .eq 21, 3) := by decide +kernel
theorem dX9_record_26 : decode cX9_record 26 = .ok (.aload_n 0, 1) := by decide +kernel
theorem dX9_record_27 : decode cX9_record 27 = .ok (.aload_n 0, 1) := by decide +kernel
theorem dX9_record_28 : decode cX9_record 28 = .ok (.getfield 50, 3) := by decide +kernel
theorem dX9_record_31 : decode cX9_record 31 = .ok (.iload_n 1, 1) := by decide +kernel
theorem dX9_record_32 : decode cX9_record 32 = .ok (.iaload, 1) := by decide +kernel
theorem dX9_record_33 : decode cX9_record 33 = .ok (.iload_n 3, 1) := by decide +kernel
theorem dX9_record_34 : decode cX9_record 34 = .ok (.invokevirtual 188, 3) := by decide +kernel
theorem dX9_record_37 : decode cX9_record 37 = .ok (.ifCond .eq 7, 3) := by decide +kernel
theorem dX9_record_40 : decode cX9_record 40 = .ok (.iconst 1, 1) := by decide +kernel
theorem dX9_record_41 : decode cX9_record 41 = .ok (.goto 4, 3) := by decide +kernel
theorem dX9_record_44 : decode cX9_record 44 = .ok (.iconst 0, 1) := by decide +kernel
theorem dX9_record_45 : decode cX9_record 45 = .ok (.istore 6, 2) := by decide +kernel
theorem dX9_record_47 : decode cX9_record 47 = .ok (.aload_n 0, 1) := by decide +kernel
theorem dX9_record_48 : decode cX9_record 48 = .ok (.iload 6, 2) := by decide +kernel
theorem dX9_record_50 : decode cX9_record 50 = .ok (.ifCond .ne 7, 3) := by decide +kernel
theorem dX9_record_53 : decode cX9_record 53 = .ok (.iconst 1, 1) := by decide +kernel
theorem dX9_record_54 : decode cX9_record 54 = .ok (.goto 23, 3) := by decide +kernel
theorem dX9_record_57 : decode cX9_record 57 = .ok (.iload_n 3, 1) := by decide +kernel
theorem dX9_record_58 : decode cX9_record 58 = .ok (.iload_n 2, 1) := by decide +kernel
theorem dX9_record_59 : decode cX9_record 59 = .ok (.if_icmp .lt 13, 3) := by decide +kernel
theorem dX9_record_62 : decode cX9_record 62 = .ok (.iload 4, 2) := by decide +kernel
theorem dX9_record_64 : decode cX9_record 64 = .ok (.iconst 0, 1) := by decide +kernel
theorem dX9_record_65 : decode cX9_record 65 = .ok (.iconst 3, 1) := by decide +kernel
theorem dX9_record_66 : decode cX9_record 66 = .ok (.invokestatic 151, 3) := by decide +kernel
theorem dX9_record_69 : decode cX9_record 69 = .ok (.ifCond .ne 7, 3) := by decide +kernel
theorem dX9_record_72 : decode cX9_record 72 = .ok (.iconst 2, 1) := by decide +kernel
theorem dX9_record_73 : decode cX9_record 73 = .ok (.goto 4, 3) := by decide +kernel
theorem dX9_record_76 : decode cX9_record 76 = .ok (.iconst 0, 1) := by decide +kernel
theorem dX9_record_77 : decode cX9_record 77 = .ok (.invokevirtual 168, 3) := by decide +kernel
theorem dX9_record_80 : decode cX9_record 80 = .ok (.ifCond .ne 5, 3) := by decide +kernel
theorem dX9_record_83 : decode cX9_record 83 = .ok (.iconst 0, 1) := by decide +kernel
theorem dX9_record_84 : decode cX9_record 84 = .ok (.ireturn, 1) := by decide +kernel
theorem dX9_record_85 : decode cX9_record 85 = .ok (.aload_n 0, 1) := by decide +kernel
theorem dX9_record_86 : decode cX9_record 86 = .ok (.iload_n 1, 1) := by decide +kernel
theorem dX9_record_87 : decode cX9_record 87 = .ok (.iload_n 2, 1) := by decide +kernel
theorem dX9_record_88 : decode cX9_record 88 = .ok (.iload_n 3, 1) := by decide +kernel
theorem dX9_record_89 : decode cX9_record 89 = .ok (.iload 4, 2) := by decide +kernel
theorem dX9_record_91 : decode cX9_record 91 = .ok (.invokevirtual 198, 3) := by decide +kernel
theorem dX9_record_94 : decode cX9_record 94 = .ok (.aload_n 0, 1) := by decide +kernel
theorem dX9_record_95 : decode cX9_record 95 = .ok (.iload_n 1, 1) := by decide +kernel
theorem dX9_record_96 : decode cX9_record 96 = .ok (.invokevirtual 202, 3) := by decide +kernel
theorem dX9_record_99 : decode cX9_record 99 = .ok (.ireturn, 1) := by decide +kernel
theorem dX9_lose_0 : decode cX9_lose 0 = .ok (.aload_n 0, 1) := by decide +kernel
theorem dX9_lose_1 : decode cX9_lose 1 = .ok (.aload_n 0, 1) := by decide +kernel
theorem dX9_lose_2 : decode cX9_lose 2 = .ok (.iload_n 1, 1) := by decide +kernel
theorem dX9_lose_3 : decode cX9_lose 3 = .ok (.invokevirtual 195, 3) := by decide +kernel
theorem dX9_lose_6 : decode cX9_lose 6 = .ok (.ifCond .eq 7, 3) := by decide +kernel
theorem dX9_lose_9 : decode cX9_lose 9 = .ok (.iconst 0, 1) := by decide +kernel
theorem dX9_lose_10 : decode cX9_lose 10 = .ok (.goto 4, 3) := by decide +kernel
theorem dX9_lose_13 : decode cX9_lose 13 = .ok (.iconst 1, 1) := by decide +kernel
theorem dX9_lose_14 : decode cX9_lose 14 = .ok (.invokevirtual 168, 3) := by decide +kernel
theorem dX9_lose_17 : decode cX9_lose 17 = .ok (.ifCond .ne 5, 3) := by decide +kernel
theorem dX9_lose_20 : decode cX9_lose 20 = .ok (.iconst 0, 1) := by decide +kernel
theorem dX9_lose_21 : decode cX9_lose 21 = .ok (.ireturn, 1) := by decide +kernel
theorem dX9_lose_22 : decode cX9_lose 22 = .ok (.aload_n 0, 1) := by decide +kernel
theorem dX9_lose_23 : decode cX9_lose 23 = .ok (.getfield 62, 3) := by decide +kernel
theorem dX9_lose_26 : decode cX9_lose 26 = .ok (.iload_n 1, 1) := by decide +kernel
theorem dX9_lose_27 : decode cX9_lose 27 = .ok (.baload, 1) := by decide +kernel
theorem dX9_lose_28 : decode cX9_lose 28 = .ok (.istore_n 2, 1) := by decide +kernel
theorem dX9_lose_29 : decode cX9_lose 29 = .ok (.aload_n 0, 1) := by decide +kernel
theorem dX9_lose_30 : decode cX9_lose 30 = .ok (.getfield 62, 3) := by decide +kernel
theorem dX9_lose_33 : decode cX9_lose 33 = .ok (.iload_n 1, 1) := by decide +kernel
theorem dX9_lose_34 : decode cX9_lose 34 = .ok (.iconst 0, 1) := by decide +kernel
theorem dX9_lose_35 : decode cX9_lose 35 = .ok (.bastore, 1) := by decide +kernel
theorem dX9_lose_36 : decode cX9_lose 36 = .ok (.iload_n 2, 1) := by decide +kernel
theorem dX9_lose_37 : decode cX9_lose 37 = .ok (.ireturn, 1) := by decide +kernel
theorem dX9_survey_0 : decode cX9_survey 0 = .ok (.aload_n 0, 1) := by decide +kernel
theorem dX9_survey_1 : decode cX9_survey 1 = .ok (.iload_n 1, 1) := by decide +kernel
theorem dX9_survey_2 : decode cX9_survey 2 = .ok (.invokevirtual 195, 3) := by decide +kernel
theorem dX9_survey_5 : decode cX9_survey 5 = .ok (.istore_n 2, 1) := by decide +kernel
theorem dX9_survey_6 : decode cX9_survey 6 = .ok (.iconst 0, 1) := by decide +kernel
theorem dX9_survey_7 : decode cX9_survey 7 = .ok (.istore_n 3, 1) := by decide +kernel
theorem dX9_survey_8 : decode cX9_survey 8 = .ok (.iconst 0, 1) := by decide +kernel
theorem dX9_survey_9 : decode cX9_survey 9 = .ok (.istore 4, 2) := by decide +kernel
theorem dX9_survey_11 : decode cX9_survey 11 = .ok (.iload 4, 2) := by decide +kernel
theorem dX9_survey_13 : decode cX9_survey 13 = .ok (.bipush 40, 2) := by decide +kernel
theorem dX9_survey_15 : decode cX9_survey 15 = .ok (.if_icmp .ge 63, 3) := by decide +kernel
theorem dX9_survey_18 : decode cX9_survey 18 = .ok (.iload_n 2, 1) := by decide +kernel
theorem dX9_survey_19 : decode cX9_survey 19 = .ok (.ifCond .eq 59, 3) := by decide +kernel
theorem dX9_survey_22 : decode cX9_survey 22 = .ok (.iload_n 3, 1) := by decide +kernel
theorem dX9_survey_23 : decode cX9_survey 23 = .ok (.ifCond .ne 43, 3) := by decide +kernel
theorem dX9_survey_26 : decode cX9_survey 26 = .ok (.iload 4, 2) := by decide +kernel
theorem dX9_survey_28 : decode cX9_survey 28 = .ok (.aload_n 0, 1) := by decide +kernel
theorem dX9_survey_29 : decode cX9_survey 29 = .ok (.getfield 53, 3) := by decide +kernel
theorem dX9_survey_32 : decode cX9_survey 32 = .ok (.iload_n 1, 1) := by decide +kernel
theorem dX9_survey_33 : decode cX9_survey 33 = .ok (.iaload, 1) := by decide +kernel
theorem dX9_survey_34 : decode cX9_survey 34 = .ok (.aload_n 0, 1) := by decide +kernel
theorem dX9_survey_35 : decode cX9_survey 35 = .ok (.getfield 56, 3) := by decide +kernel
theorem dX9_survey_38 : decode cX9_survey 38 = .ok (.iload_n 1, 1) := by decide +kernel
theorem dX9_survey_39 : decode cX9_survey 39 = .ok (.iaload, 1) := by decide +kernel
theorem dX9_survey_40 : decode cX9_survey 40 = .ok (.invokestatic 151, 3) := by decide +kernel
theorem dX9_survey_43 : decode cX9_survey 43 = .ok (.ifCond .eq 27, 3) := by decide +kernel
theorem dX9_survey_46 : decode cX9_survey 46 = .ok (.aload_n 0, 1) := by decide +kernel
theorem dX9_survey_47 : decode cX9_survey 47 = .ok (.getfield 40, 3) := by decide +kernel
theorem dX9_survey_50 : decode cX9_survey 50 = .ok (.bipush 40, 2) := by decide +kernel
theorem dX9_survey_52 : decode cX9_survey 52 = .ok (.aload_n 0, 1) := by decide +kernel
theorem dX9_survey_53 : decode cX9_survey 53 = .ok (.getfield 50, 3) := by decide +kernel
theorem dX9_survey_56 : decode cX9_survey 56 = .ok (.iload_n 1, 1) := by decide +kernel
theorem dX9_survey_57 : decode cX9_survey 57 = .ok (.iaload, 1) := by decide +kernel
theorem dX9_survey_58 : decode cX9_survey 58 = .ok (.imul, 1) := by decide +kernel
theorem dX9_survey_59 : decode cX9_survey 59 = .ok (.iload 4, 2) := by decide +kernel
theorem dX9_survey_61 : decode cX9_survey 61 = .ok (.iadd, 1) := by decide +kernel
theorem dX9_survey_62 : decode cX9_survey 62 = .ok (.baload, 1) := by decide +kernel
theorem dX9_survey_63 : decode cX9_survey 63 = .ok (.ifCond .eq 7, 3) := by decide +kernel
theorem dX9_survey_66 : decode cX9_survey 66 = .ok (.iconst 1, 1) := by decide +kernel
theorem dX9_survey_67 : decode cX9_survey 67 = .ok (.goto 4, 3) := by decide +kernel
theorem dX9_survey_70 : decode cX9_survey 70 = .ok (.iconst 0, 1) := by decide +kernel
theorem dX9_survey_71 : decode cX9_survey 71 = .ok (.istore_n 3, 1) := by decide +kernel
theorem dX9_survey_72 : decode cX9_survey 72 = .ok (.iinc 4 1, 3) := by decide +kernel
theorem dX9_survey_75 : decode cX9_survey 75 = .ok (.goto (-64), 3) := by decide +kernel
theorem dX9_survey_78 : decode cX9_survey 78 = .ok (.aload_n 0, 1) := by decide +kernel
theorem dX9_survey_79 : decode cX9_survey 79 = .ok (.iload_n 2, 1) := by decide +kernel
theorem dX9_survey_80 : decode cX9_survey 80 = .ok (.ifCond .ne 7, 3) := by decide +kernel
theorem dX9_survey_83 : decode cX9_survey 83 = .ok (.iconst 1, 1) := by decide +kernel
theorem dX9_survey_84 : decode cX9_survey 84 = .ok (.goto 12, 3) := by decide +kernel
theorem dX9_survey_87 : decode cX9_survey 87 = .ok (.iload_n 3, 1) := by decide +kernel
theorem dX9_survey_88 : decode cX9_survey 88 = .ok (.ifCond .eq 7, 3) := by decide +kernel
theorem dX9_survey_91 : decode cX9_survey 91 = .ok (.iconst 0, 1) := by decide +kernel
theorem dX9_survey_92 : decode cX9_survey 92 = .ok (.goto 4, 3) := by decide +kernel
theorem dX9_survey_95 : decode cX9_survey 95 = .ok (.iconst 2, 1) := by decide +kernel
theorem dX9_survey_96 : decode cX9_survey 96 = .ok (.invokevirtual 168, 3) := by decide +kernel
theorem dX9_survey_99 : decode cX9_survey 99 = .ok (.ifCond .ne 5, 3) := by decide +kernel
theorem dX9_survey_102 : decode cX9_survey 102 = .ok (.iconst 0, 1) := by decide +kernel
theorem dX9_survey_103 : decode cX9_survey 103 = .ok (.ireturn, 1) := by decide +kernel
theorem dX9_survey_104 : decode cX9_survey 104 = .ok (.aload_n 0, 1) := by decide +kernel
theorem dX9_survey_105 : decode cX9_survey 105 = .ok (.iload_n 1, 1) := by decide +kernel
theorem dX9_survey_106 : decode cX9_survey 106 = .ok (.invokevirtual 202, 3) := by decide +kernel
theorem dX9_survey_109 : decode cX9_survey 109 = .ok (.istore 4, 2) := by decide +kernel
theorem dX9_survey_111 : decode cX9_survey 111 = .ok (.aload_n 0, 1) := by decide +kernel
theorem dX9_survey_112 : decode cX9_survey 112 = .ok (.iload_n 1, 1) := by decide +kernel
theorem dX9_survey_113 : decode cX9_survey 113 = .ok (.aload_n 0, 1) := by decide +kernel
theorem dX9_survey_114 : decode cX9_survey 114 = .ok (.getfield 53, 3) := by decide +kernel
theorem dX9_survey_117 : decode cX9_survey 117 = .ok (.iload_n 1, 1) := by decide +kernel
theorem dX9_survey_118 : decode cX9_survey 118 = .ok (.iaload, 1) := by decide +kernel
theorem dX9_survey_119 : decode cX9_survey 119 = .ok (.aload_n 0, 1) := by decide +kernel
theorem dX9_survey_120 : decode cX9_survey 120 = .ok (.getfield 56, 3) := by decide +kernel
theorem dX9_survey_123 : decode cX9_survey 123 = .ok (.iload_n 1, 1) := by decide +kernel
theorem dX9_survey_124 : decode cX9_survey 124 = .ok (.iaload, 1) := by decide +kernel
theorem dX9_survey_125 : decode cX9_survey 125 = .ok (.iconst 0, 1) := by decide +kernel
theorem dX9_survey_126 : decode cX9_survey 126 = .ok (.invokevirtual 198, 3) := by decide +kernel
theorem dX9_survey_129 : decode cX9_survey 129 = .ok (.iload 4, 2) := by decide +kernel
theorem dX9_survey_131 : decode cX9_survey 131 = .ok (.ireturn, 1) := by decide +kernel
theorem dX9_lies_0 : decode cX9_lies 0 = .ok (.aload_n 0, 1) := by decide +kernel
theorem dX9_lies_1 : decode cX9_lies 1 = .ok (.getfield 50, 3) := by decide +kernel
theorem dX9_lies_4 : decode cX9_lies 4 = .ok (.iload_n 1, 1) := by decide +kernel
theorem dX9_lies_5 : decode cX9_lies 5 = .ok (.iaload, 1) := by decide +kernel
theorem dX9_lies_6 : decode cX9_lies 6 = .ok (.iload_n 2, 1) := by decide +kernel
theorem dX9_lies_7 : decode cX9_lies 7 = .ok (.if_icmp .ne 26, 3) := by decide +kernel
theorem dX9_lies_10 : decode cX9_lies 10 = .ok (.iload_n 3, 1) := by decide +kernel
theorem dX9_lies_11 : decode cX9_lies 11 = .ok (.aload_n 0, 1) := by decide +kernel
theorem dX9_lies_12 : decode cX9_lies 12 = .ok (.getfield 53, 3) := by decide +kernel
theorem dX9_lies_15 : decode cX9_lies 15 = .ok (.iload_n 1, 1) := by decide +kernel
theorem dX9_lies_16 : decode cX9_lies 16 = .ok (.iaload, 1) := by decide +kernel
theorem dX9_lies_17 : decode cX9_lies 17 = .ok (.aload_n 0, 1) := by decide +kernel
theorem dX9_lies_18 : decode cX9_lies 18 = .ok (.getfield 56, 3) := by decide +kernel
theorem dX9_lies_21 : decode cX9_lies 21 = .ok (.iload_n 1, 1) := by decide +kernel
theorem dX9_lies_22 : decode cX9_lies 22 = .ok (.iaload, 1) := by decide +kernel
theorem dX9_lies_23 : decode cX9_lies 23 = .ok (.invokestatic 151, 3) := by decide +kernel
theorem dX9_lies_26 : decode cX9_lies 26 = .ok (.ifCond .eq 7, 3) := by decide +kernel
theorem dX9_lies_29 : decode cX9_lies 29 = .ok (.iconst 1, 1) := by decide +kernel
theorem dX9_lies_30 : decode cX9_lies 30 = .ok (.goto 4, 3) := by decide +kernel
theorem dX9_lies_33 : decode cX9_lies 33 = .ok (.iconst 0, 1) := by decide +kernel
theorem dX9_lies_34 : decode cX9_lies 34 = .ok (.ireturn, 1) := by decide +kernel
theorem dX9_trial_0 : decode cX9_trial 0 = .ok (.aload_n 0, 1) := by decide +kernel
theorem dX9_trial_1 : decode cX9_trial 1 = .ok (.aload_n 0, 1) := by decide +kernel
theorem dX9_trial_2 : decode cX9_trial 2 = .ok (.iload_n 1, 1) := by decide +kernel
theorem dX9_trial_3 : decode cX9_trial 3 = .ok (.iload_n 2, 1) := by decide +kernel
theorem dX9_trial_4 : decode cX9_trial 4 = .ok (.invokevirtual 188, 3) := by decide +kernel
theorem dX9_trial_7 : decode cX9_trial 7 = .ok (.ifCond .eq 7, 3) := by decide +kernel
theorem dX9_trial_10 : decode cX9_trial 10 = .ok (.iconst 0, 1) := by decide +kernel
theorem dX9_trial_11 : decode cX9_trial 11 = .ok (.goto 4, 3) := by decide +kernel
theorem dX9_trial_14 : decode cX9_trial 14 = .ok (.iconst 1, 1) := by decide +kernel
theorem dX9_trial_15 : decode cX9_trial 15 = .ok (.invokevirtual 168, 3) := by decide +kernel
theorem dX9_trial_18 : decode cX9_trial 18 = .ok (.ifCond .ne 5, 3) := by decide +kernel
theorem dX9_trial_21 : decode cX9_trial 21 = .ok (.iconst 0, 1) := by decide +kernel
theorem dX9_trial_22 : decode cX9_trial 22 = .ok (.ireturn, 1) := by decide +kernel
theorem dX9_trial_23 : decode cX9_trial 23 = .ok (.aload_n 0, 1) := by decide +kernel
theorem dX9_trial_24 : decode cX9_trial 24 = .ok (.getfield 40, 3) := by decide +kernel
theorem dX9_trial_27 : decode cX9_trial 27 = .ok (.bipush 40, 2) := by decide +kernel
theorem dX9_trial_29 : decode cX9_trial 29 = .ok (.iload_n 1, 1) := by decide +kernel
theorem dX9_trial_30 : decode cX9_trial 30 = .ok (.imul, 1) := by decide +kernel
theorem dX9_trial_31 : decode cX9_trial 31 = .ok (.iload_n 2, 1) := by decide +kernel
theorem dX9_trial_32 : decode cX9_trial 32 = .ok (.iadd, 1) := by decide +kernel
theorem dX9_trial_33 : decode cX9_trial 33 = .ok (.iconst 1, 1) := by decide +kernel
theorem dX9_trial_34 : decode cX9_trial 34 = .ok (.bastore, 1) := by decide +kernel
theorem dX9_trial_35 : decode cX9_trial 35 = .ok (.iconst 0, 1) := by decide +kernel
theorem dX9_trial_36 : decode cX9_trial 36 = .ok (.istore_n 3, 1) := by decide +kernel
theorem dX9_trial_37 : decode cX9_trial 37 = .ok (.iconst 0, 1) := by decide +kernel
theorem dX9_trial_38 : decode cX9_trial 38 = .ok (.istore 4, 2) := by decide +kernel
theorem dX9_trial_40 : decode cX9_trial 40 = .ok (.iload 4, 2) := by decide +kernel
theorem dX9_trial_42 : decode cX9_trial 42 = .ok (.aload_n 0, 1) := by decide +kernel
theorem dX9_trial_43 : decode cX9_trial 43 = .ok (.getfield 159, 3) := by decide +kernel
theorem dX9_trial_46 : decode cX9_trial 46 = .ok (.if_icmp .ge 28, 3) := by decide +kernel
theorem dX9_trial_49 : decode cX9_trial 49 = .ok (.iload_n 3, 1) := by decide +kernel
theorem dX9_trial_50 : decode cX9_trial 50 = .ok (.aload_n 0, 1) := by decide +kernel
theorem dX9_trial_51 : decode cX9_trial 51 = .ok (.iload 4, 2) := by decide +kernel
theorem dX9_trial_53 : decode cX9_trial 53 = .ok (.iload_n 1, 1) := by decide +kernel
theorem dX9_trial_54 : decode cX9_trial 54 = .ok (.iload_n 2, 1) := by decide +kernel
theorem dX9_trial_55 : decode cX9_trial 55 = .ok (.invokevirtual 205, 3) := by decide +kernel
theorem dX9_trial_58 : decode cX9_trial 58 = .ok (.ifCond .eq 7, 3) := by decide +kernel
theorem dX9_trial_61 : decode cX9_trial 61 = .ok (.iconst 1, 1) := by decide +kernel
theorem dX9_trial_62 : decode cX9_trial 62 = .ok (.goto 4, 3) := by decide +kernel
theorem dX9_trial_65 : decode cX9_trial 65 = .ok (.iconst 0, 1) := by decide +kernel
theorem dX9_trial_66 : decode cX9_trial 66 = .ok (.iadd, 1) := by decide +kernel
theorem dX9_trial_67 : decode cX9_trial 67 = .ok (.istore_n 3, 1) := by decide +kernel
theorem dX9_trial_68 : decode cX9_trial 68 = .ok (.iinc 4 1, 3) := by decide +kernel
theorem dX9_trial_71 : decode cX9_trial 71 = .ok (.goto (-31), 3) := by decide +kernel
theorem dX9_trial_74 : decode cX9_trial 74 = .ok (.iload_n 3, 1) := by decide +kernel
theorem dX9_trial_75 : decode cX9_trial 75 = .ok (.ireturn, 1) := by decide +kernel
theorem dX9_lastDay_0 : decode cX9_lastDay 0 = .ok (.aload_n 0, 1) := by decide +kernel
theorem dX9_lastDay_1 : decode cX9_lastDay 1 = .ok (.getfield 89, 3) := by decide +kernel
theorem dX9_lastDay_4 : decode cX9_lastDay 4 = .ok (.iload_n 1, 1) := by decide +kernel
theorem dX9_lastDay_5 : decode cX9_lastDay 5 = .ok (.iaload, 1) := by decide +kernel
theorem dX9_lastDay_6 : decode cX9_lastDay 6 = .ok (.aload_n 0, 1) := by decide +kernel
theorem dX9_lastDay_7 : decode cX9_lastDay 7 = .ok (.getfield 92, 3) := by decide +kernel
theorem dX9_lastDay_10 : decode cX9_lastDay 10 = .ok (.iload_n 1, 1) := by decide +kernel
theorem dX9_lastDay_11 : decode cX9_lastDay 11 = .ok (.iaload, 1) := by decide +kernel
theorem dX9_lastDay_12 : decode cX9_lastDay 12 = .ok (.iadd, 1) := by decide +kernel
theorem dX9_lastDay_13 : decode cX9_lastDay 13 = .ok (.iconst 1, 1) := by decide +kernel
theorem dX9_lastDay_14 : decode cX9_lastDay 14 = .ok (.isub, 1) := by decide +kernel
theorem dX9_lastDay_15 : decode cX9_lastDay 15 = .ok (.ireturn, 1) := by decide +kernel
theorem dX9_lastOf_0 : decode cX9_lastOf 0 = .ok (.aload_n 0, 1) := by decide +kernel
theorem dX9_lastOf_1 : decode cX9_lastOf 1 = .ok (.getfield 98, 3) := by decide +kernel
theorem dX9_lastOf_4 : decode cX9_lastOf 4 = .ok (.iload_n 1, 1) := by decide +kernel
theorem dX9_lastOf_5 : decode cX9_lastOf 5 = .ok (.iaload, 1) := by decide +kernel
theorem dX9_lastOf_6 : decode cX9_lastOf 6 = .ok (.iconst 3, 1) := by decide +kernel
theorem dX9_lastOf_7 : decode cX9_lastOf 7 = .ok (.if_icmp .ne 19, 3) := by decide +kernel
theorem dX9_lastOf_10 : decode cX9_lastOf 10 = .ok (.aload_n 0, 1) := by decide +kernel
theorem dX9_lastOf_11 : decode cX9_lastOf 11 = .ok (.iload_n 1, 1) := by decide +kernel
theorem dX9_lastOf_12 : decode cX9_lastOf 12 = .ok (.invokevirtual 208, 3) := by decide +kernel
theorem dX9_lastOf_15 : decode cX9_lastOf 15 = .ok (.aload_n 0, 1) := by decide +kernel
theorem dX9_lastOf_16 : decode cX9_lastOf 16 = .ok (.invokevirtual 175, 3) := by decide +kernel
theorem dX9_lastOf_19 : decode cX9_lastOf 19 = .ok (.if_icmp .ge 7, 3) := by decide +kernel
theorem dX9_lastOf_22 : decode cX9_lastOf 22 = .ok (.iconst 1, 1) := by decide +kernel
theorem dX9_lastOf_23 : decode cX9_lastOf 23 = .ok (.goto 4, 3) := by decide +kernel
theorem dX9_lastOf_26 : decode cX9_lastOf 26 = .ok (.iconst 0, 1) := by decide +kernel
theorem dX9_lastOf_27 : decode cX9_lastOf 27 = .ok (.istore_n 2, 1) := by decide +kernel
theorem dX9_lastOf_28 : decode cX9_lastOf 28 = .ok (.iload_n 2, 1) := by decide +kernel
theorem dX9_lastOf_29 : decode cX9_lastOf 29 = .ok (.ifCond .eq 10, 3) := by decide +kernel
theorem dX9_lastOf_32 : decode cX9_lastOf 32 = .ok (.aload_n 0, 1) := by decide +kernel
theorem dX9_lastOf_33 : decode cX9_lastOf 33 = .ok (.invokevirtual 175, 3) := by decide +kernel
theorem dX9_lastOf_36 : decode cX9_lastOf 36 = .ok (.goto 8, 3) := by decide +kernel
theorem dX9_lastOf_39 : decode cX9_lastOf 39 = .ok (.aload_n 0, 1) := by decide +kernel
theorem dX9_lastOf_40 : decode cX9_lastOf 40 = .ok (.iload_n 1, 1) := by decide +kernel
theorem dX9_lastOf_41 : decode cX9_lastOf 41 = .ok (.invokevirtual 208, 3) := by decide +kernel
theorem dX9_lastOf_44 : decode cX9_lastOf 44 = .ok (.ireturn, 1) := by decide +kernel
theorem dX9_hasDay_0 : decode cX9_hasDay 0 = .ok (.aload_n 0, 1) := by decide +kernel
theorem dX9_hasDay_1 : decode cX9_hasDay 1 = .ok (.getfield 89, 3) := by decide +kernel
theorem dX9_hasDay_4 : decode cX9_hasDay 4 = .ok (.iload_n 1, 1) := by decide +kernel
theorem dX9_hasDay_5 : decode cX9_hasDay 5 = .ok (.iaload, 1) := by decide +kernel
theorem dX9_hasDay_6 : decode cX9_hasDay 6 = .ok (.iload_n 3, 1) := by decide +kernel
theorem dX9_hasDay_7 : decode cX9_hasDay 7 = .ok (.if_icmp .gt 16, 3) := by decide +kernel
theorem dX9_hasDay_10 : decode cX9_hasDay 10 = .ok (.iload_n 2, 1) := by decide +kernel
theorem dX9_hasDay_11 : decode cX9_hasDay 11 = .ok (.aload_n 0, 1) := by decide +kernel
theorem dX9_hasDay_12 : decode cX9_hasDay 12 = .ok (.iload_n 1, 1) := by decide +kernel
theorem dX9_hasDay_13 : decode cX9_hasDay 13 = .ok (.invokevirtual 211, 3) := by decide +kernel
theorem dX9_hasDay_16 : decode cX9_hasDay 16 = .ok (.if_icmp .gt 7, 3) := by decide +kernel
theorem dX9_hasDay_19 : decode cX9_hasDay 19 = .ok (.iconst 1, 1) := by decide +kernel
theorem dX9_hasDay_20 : decode cX9_hasDay 20 = .ok (.goto 4, 3) := by decide +kernel
theorem dX9_hasDay_23 : decode cX9_hasDay 23 = .ok (.iconst 0, 1) := by decide +kernel
theorem dX9_hasDay_24 : decode cX9_hasDay 24 = .ok (.ireturn, 1) := by decide +kernel
theorem dX9_isOn_0 : decode cX9_isOn 0 = .ok (.aload_n 0, 1) := by decide +kernel
theorem dX9_isOn_1 : decode cX9_isOn 1 = .ok (.getfield 98, 3) := by decide +kernel
theorem dX9_isOn_4 : decode cX9_isOn 4 = .ok (.iload_n 1, 1) := by decide +kernel
theorem dX9_isOn_5 : decode cX9_isOn 5 = .ok (.iaload, 1) := by decide +kernel
theorem dX9_isOn_6 : decode cX9_isOn 6 = .ok (.iconst 1, 1) := by decide +kernel
theorem dX9_isOn_7 : decode cX9_isOn 7 = .ok (.if_icmp .eq 13, 3) := by decide +kernel
theorem dX9_isOn_10 : decode cX9_isOn 10 = .ok (.aload_n 0, 1) := by decide +kernel
theorem dX9_isOn_11 : decode cX9_isOn 11 = .ok (.getfield 98, 3) := by decide +kernel
theorem dX9_isOn_14 : decode cX9_isOn 14 = .ok (.iload_n 1, 1) := by decide +kernel
theorem dX9_isOn_15 : decode cX9_isOn 15 = .ok (.iaload, 1) := by decide +kernel
theorem dX9_isOn_16 : decode cX9_isOn 16 = .ok (.iconst 3, 1) := by decide +kernel
theorem dX9_isOn_17 : decode cX9_isOn 17 = .ok (.if_icmp .ne 7, 3) := by decide +kernel
theorem dX9_isOn_20 : decode cX9_isOn 20 = .ok (.iconst 1, 1) := by decide +kernel
theorem dX9_isOn_21 : decode cX9_isOn 21 = .ok (.goto 4, 3) := by decide +kernel
theorem dX9_isOn_24 : decode cX9_isOn 24 = .ok (.iconst 0, 1) := by decide +kernel
theorem dX9_isOn_25 : decode cX9_isOn 25 = .ok (.ireturn, 1) := by decide +kernel
theorem dX9_areNear_0 : decode cX9_areNear 0 = .ok (.aload_n 0, 1) := by decide +kernel
theorem dX9_areNear_1 : decode cX9_areNear 1 = .ok (.getfield 74, 3) := by decide +kernel
theorem dX9_areNear_4 : decode cX9_areNear 4 = .ok (.iload_n 1, 1) := by decide +kernel
theorem dX9_areNear_5 : decode cX9_areNear 5 = .ok (.iaload, 1) := by decide +kernel
theorem dX9_areNear_6 : decode cX9_areNear 6 = .ok (.istore_n 3, 1) := by decide +kernel
theorem dX9_areNear_7 : decode cX9_areNear 7 = .ok (.aload_n 0, 1) := by decide +kernel
theorem dX9_areNear_8 : decode cX9_areNear 8 = .ok (.getfield 74, 3) := by decide +kernel
theorem dX9_areNear_11 : decode cX9_areNear 11 = .ok (.iload_n 2, 1) := by decide +kernel
theorem dX9_areNear_12 : decode cX9_areNear 12 = .ok (.iaload, 1) := by decide +kernel
theorem dX9_areNear_13 : decode cX9_areNear 13 = .ok (.istore 4, 2) := by decide +kernel
theorem dX9_areNear_15 : decode cX9_areNear 15 = .ok (.aload_n 0, 1) := by decide +kernel
theorem dX9_areNear_16 : decode cX9_areNear 16 = .ok (.getfield 77, 3) := by decide +kernel
theorem dX9_areNear_19 : decode cX9_areNear 19 = .ok (.iload_n 1, 1) := by decide +kernel
theorem dX9_areNear_20 : decode cX9_areNear 20 = .ok (.iaload, 1) := by decide +kernel
theorem dX9_areNear_21 : decode cX9_areNear 21 = .ok (.aload_n 0, 1) := by decide +kernel
theorem dX9_areNear_22 : decode cX9_areNear 22 = .ok (.getfield 80, 3) := by decide +kernel
theorem dX9_areNear_25 : decode cX9_areNear 25 = .ok (.iload_n 2, 1) := by decide +kernel
theorem dX9_areNear_26 : decode cX9_areNear 26 = .ok (.iaload, 1) := by decide +kernel
theorem dX9_areNear_27 : decode cX9_areNear 27 = .ok (.isub, 1) := by decide +kernel
theorem dX9_areNear_28 : decode cX9_areNear 28 = .ok (.iconst 3, 1) := by decide +kernel
theorem dX9_areNear_29 : decode cX9_areNear 29 = .ok (.if_icmp .gt 24, 3) := by decide +kernel
theorem dX9_areNear_32 : decode cX9_areNear 32 = .ok (.aload_n 0, 1) := by decide +kernel
theorem dX9_areNear_33 : decode cX9_areNear 33 = .ok (.getfield 77, 3) := by decide +kernel
theorem dX9_areNear_36 : decode cX9_areNear 36 = .ok (.iload_n 2, 1) := by decide +kernel
theorem dX9_areNear_37 : decode cX9_areNear 37 = .ok (.iaload, 1) := by decide +kernel
theorem dX9_areNear_38 : decode cX9_areNear 38 = .ok (.aload_n 0, 1) := by decide +kernel
theorem dX9_areNear_39 : decode cX9_areNear 39 = .ok (.getfield 80, 3) := by decide +kernel
theorem dX9_areNear_42 : decode cX9_areNear 42 = .ok (.iload_n 1, 1) := by decide +kernel
theorem dX9_areNear_43 : decode cX9_areNear 43 = .ok (.iaload, 1) := by decide +kernel
theorem dX9_areNear_44 : decode cX9_areNear 44 = .ok (.isub, 1) := by decide +kernel
theorem dX9_areNear_45 : decode cX9_areNear 45 = .ok (.iconst 3, 1) := by decide +kernel
theorem dX9_areNear_46 : decode cX9_areNear 46 = .ok (.if_icmp .gt 7, 3) := by decide +kernel
theorem dX9_areNear_49 : decode cX9_areNear 49 = .ok (.iconst 1, 1) := by decide +kernel
theorem dX9_areNear_50 : decode cX9_areNear 50 = .ok (.goto 4, 3) := by decide +kernel
theorem dX9_areNear_53 : decode cX9_areNear 53 = .ok (.iconst 0, 1) := by decide +kernel
theorem dX9_areNear_54 : decode cX9_areNear 54 = .ok (.istore 5, 2) := by decide +kernel
theorem dX9_areNear_56 : decode cX9_areNear 56 = .ok (.iload_n 3, 1) := by decide +kernel
theorem dX9_areNear_57 : decode cX9_areNear 57 = .ok (.iload 4, 2) := by decide +kernel
theorem dX9_areNear_59 : decode cX9_areNear 59 = .ok (.if_icmp .ne 8, 3) := by decide +kernel
theorem dX9_areNear_62 : decode cX9_areNear 62 = .ok (.iload 5, 2) := by decide +kernel
theorem dX9_areNear_64 : decode cX9_areNear 64 = .ok (.goto 30, 3) := by decide +kernel
theorem dX9_areNear_67 : decode cX9_areNear 67 = .ok (.aload_n 0, 1) := by decide +kernel
theorem dX9_areNear_68 : decode cX9_areNear 68 = .ok (.getfield 19, 3) := by decide +kernel
theorem dX9_areNear_71 : decode cX9_areNear 71 = .ok (.iload_n 3, 1) := by decide +kernel
theorem dX9_areNear_72 : decode cX9_areNear 72 = .ok (.iaload, 1) := by decide +kernel
theorem dX9_areNear_73 : decode cX9_areNear 73 = .ok (.iload 4, 2) := by decide +kernel
theorem dX9_areNear_75 : decode cX9_areNear 75 = .ok (.if_icmp .eq 14, 3) := by decide +kernel
theorem dX9_areNear_78 : decode cX9_areNear 78 = .ok (.aload_n 0, 1) := by decide +kernel
theorem dX9_areNear_79 : decode cX9_areNear 79 = .ok (.getfield 19, 3) := by decide +kernel
theorem dX9_areNear_82 : decode cX9_areNear 82 = .ok (.iload 4, 2) := by decide +kernel
theorem dX9_areNear_84 : decode cX9_areNear 84 = .ok (.iaload, 1) := by decide +kernel
theorem dX9_areNear_85 : decode cX9_areNear 85 = .ok (.iload_n 3, 1) := by decide +kernel
theorem dX9_areNear_86 : decode cX9_areNear 86 = .ok (.if_icmp .ne 7, 3) := by decide +kernel
theorem dX9_areNear_89 : decode cX9_areNear 89 = .ok (.iconst 1, 1) := by decide +kernel
theorem dX9_areNear_90 : decode cX9_areNear 90 = .ok (.goto 4, 3) := by decide +kernel
theorem dX9_areNear_93 : decode cX9_areNear 93 = .ok (.iconst 0, 1) := by decide +kernel
theorem dX9_areNear_94 : decode cX9_areNear 94 = .ok (.ireturn, 1) := by decide +kernel
theorem dX9_doMeet_0 : decode cX9_doMeet 0 = .ok (.aload_n 0, 1) := by decide +kernel
theorem dX9_doMeet_1 : decode cX9_doMeet 1 = .ok (.iload_n 1, 1) := by decide +kernel
theorem dX9_doMeet_2 : decode cX9_doMeet 2 = .ok (.invokevirtual 214, 3) := by decide +kernel
theorem dX9_doMeet_5 : decode cX9_doMeet 5 = .ok (.ifCond .eq 20, 3) := by decide +kernel
theorem dX9_doMeet_8 : decode cX9_doMeet 8 = .ok (.aload_n 0, 1) := by decide +kernel
theorem dX9_doMeet_9 : decode cX9_doMeet 9 = .ok (.iload_n 2, 1) := by decide +kernel
theorem dX9_doMeet_10 : decode cX9_doMeet 10 = .ok (.invokevirtual 214, 3) := by decide +kernel
theorem dX9_doMeet_13 : decode cX9_doMeet 13 = .ok (.ifCond .ne 29, 3) := by decide +kernel
theorem dX9_doMeet_16 : decode cX9_doMeet 16 = .ok (.aload_n 0, 1) := by decide +kernel
theorem dX9_doMeet_17 : decode cX9_doMeet 17 = .ok (.getfield 98, 3) := by decide +kernel
theorem dX9_doMeet_20 : decode cX9_doMeet 20 = .ok (.iload_n 2, 1) := by decide +kernel
theorem dX9_doMeet_21 : decode cX9_doMeet 21 = .ok (.iaload, 1) := by decide +kernel
theorem dX9_doMeet_22 : decode cX9_doMeet 22 = .ok (.ifCond .eq 20, 3) := by decide +kernel
theorem dX9_doMeet_25 : decode cX9_doMeet 25 = .ok (.aload_n 0, 1) := by decide +kernel
theorem dX9_doMeet_26 : decode cX9_doMeet 26 = .ok (.iload_n 2, 1) := by decide +kernel
theorem dX9_doMeet_27 : decode cX9_doMeet 27 = .ok (.invokevirtual 214, 3) := by decide +kernel
theorem dX9_doMeet_30 : decode cX9_doMeet 30 = .ok (.ifCond .eq 16, 3) := by decide +kernel
theorem dX9_doMeet_33 : decode cX9_doMeet 33 = .ok (.aload_n 0, 1) := by decide +kernel
theorem dX9_doMeet_34 : decode cX9_doMeet 34 = .ok (.getfield 98, 3) := by decide +kernel
theorem dX9_doMeet_37 : decode cX9_doMeet 37 = .ok (.iload_n 1, 1) := by decide +kernel
theorem dX9_doMeet_38 : decode cX9_doMeet 38 = .ok (.iaload, 1) := by decide +kernel
theorem dX9_doMeet_39 : decode cX9_doMeet 39 = .ok (.ifCond .ne 7, 3) := by decide +kernel
theorem dX9_doMeet_42 : decode cX9_doMeet 42 = .ok (.iconst 1, 1) := by decide +kernel
theorem dX9_doMeet_43 : decode cX9_doMeet 43 = .ok (.goto 4, 3) := by decide +kernel
theorem dX9_doMeet_46 : decode cX9_doMeet 46 = .ok (.iconst 0, 1) := by decide +kernel
theorem dX9_doMeet_47 : decode cX9_doMeet 47 = .ok (.istore_n 3, 1) := by decide +kernel
theorem dX9_doMeet_48 : decode cX9_doMeet 48 = .ok (.iload_n 1, 1) := by decide +kernel
theorem dX9_doMeet_49 : decode cX9_doMeet 49 = .ok (.iload_n 2, 1) := by decide +kernel
theorem dX9_doMeet_50 : decode cX9_doMeet 50 = .ok (.if_icmp .eq 53, 3) := by decide +kernel
theorem dX9_doMeet_53 : decode cX9_doMeet 53 = .ok (.iload_n 3, 1) := by decide +kernel
theorem dX9_doMeet_54 : decode cX9_doMeet 54 = .ok (.ifCond .eq 49, 3) := by decide +kernel
theorem dX9_doMeet_57 : decode cX9_doMeet 57 = .ok (.aload_n 0, 1) := by decide +kernel
theorem dX9_doMeet_58 : decode cX9_doMeet 58 = .ok (.iload_n 1, 1) := by decide +kernel
theorem dX9_doMeet_59 : decode cX9_doMeet 59 = .ok (.aload_n 0, 1) := by decide +kernel
theorem dX9_doMeet_60 : decode cX9_doMeet 60 = .ok (.getfield 89, 3) := by decide +kernel
theorem dX9_doMeet_63 : decode cX9_doMeet 63 = .ok (.iload_n 2, 1) := by decide +kernel
theorem dX9_doMeet_64 : decode cX9_doMeet 64 = .ok (.iaload, 1) := by decide +kernel
theorem dX9_doMeet_65 : decode cX9_doMeet 65 = .ok (.aload_n 0, 1) := by decide +kernel
theorem dX9_doMeet_66 : decode cX9_doMeet 66 = .ok (.iload_n 2, 1) := by decide +kernel
theorem dX9_doMeet_67 : decode cX9_doMeet 67 = .ok (.invokevirtual 211, 3) := by decide +kernel
theorem dX9_doMeet_70 : decode cX9_doMeet 70 = .ok (.invokevirtual 182, 3) := by decide +kernel
theorem dX9_doMeet_73 : decode cX9_doMeet 73 = .ok (.ifCond .eq 30, 3) := by decide +kernel
theorem dX9_doMeet_76 : decode cX9_doMeet 76 = .ok (.aload_n 0, 1) := by decide +kernel
theorem dX9_doMeet_77 : decode cX9_doMeet 77 = .ok (.getfield 116, 3) := by decide +kernel
theorem dX9_doMeet_80 : decode cX9_doMeet 80 = .ok (.bipush 24, 2) := by decide +kernel
theorem dX9_doMeet_82 : decode cX9_doMeet 82 = .ok (.iload_n 1, 1) := by decide +kernel
theorem dX9_doMeet_83 : decode cX9_doMeet 83 = .ok (.imul, 1) := by decide +kernel
theorem dX9_doMeet_84 : decode cX9_doMeet 84 = .ok (.iload_n 2, 1) := by decide +kernel
theorem dX9_doMeet_85 : decode cX9_doMeet 85 = .ok (.iadd, 1) := by decide +kernel
theorem dX9_doMeet_86 : decode cX9_doMeet 86 = .ok (.baload, 1) := by decide +kernel
theorem dX9_doMeet_87 : decode cX9_doMeet 87 = .ok (.ifCond .ne 16, 3) := by decide +kernel
theorem dX9_doMeet_90 : decode cX9_doMeet 90 = .ok (.aload_n 0, 1) := by decide +kernel
theorem dX9_doMeet_91 : decode cX9_doMeet 91 = .ok (.iload_n 1, 1) := by decide +kernel
theorem dX9_doMeet_92 : decode cX9_doMeet 92 = .ok (.iload_n 2, 1) := by decide +kernel
theorem dX9_doMeet_93 : decode cX9_doMeet 93 = .ok (.invokevirtual 217, 3) := by decide +kernel
theorem dX9_doMeet_96 : decode cX9_doMeet 96 = .ok (.ifCond .eq 7, 3) := by decide +kernel
theorem dX9_doMeet_99 : decode cX9_doMeet 99 = .ok (.iconst 1, 1) := by decide +kernel
theorem dX9_doMeet_100 : decode cX9_doMeet 100 = .ok (.goto 4, 3) := by decide +kernel
theorem dX9_doMeet_103 : decode cX9_doMeet 103 = .ok (.iconst 0, 1) := by decide +kernel
theorem dX9_doMeet_104 : decode cX9_doMeet 104 = .ok (.ireturn, 1) := by decide +kernel
theorem dX9_meetsOn_0 : decode cX9_meetsOn 0 = .ok (.iconst 0, 1) := by decide +kernel
theorem dX9_meetsOn_1 : decode cX9_meetsOn 1 = .ok (.istore_n 2, 1) := by decide +kernel
theorem dX9_meetsOn_2 : decode cX9_meetsOn 2 = .ok (.iconst 0, 1) := by decide +kernel
theorem dX9_meetsOn_3 : decode cX9_meetsOn 3 = .ok (.istore_n 3, 1) := by decide +kernel
theorem dX9_meetsOn_4 : decode cX9_meetsOn 4 = .ok (.iload_n 3, 1) := by decide +kernel
theorem dX9_meetsOn_5 : decode cX9_meetsOn 5 = .ok (.aload_n 0, 1) := by decide +kernel
theorem dX9_meetsOn_6 : decode cX9_meetsOn 6 = .ok (.getfield 162, 3) := by decide +kernel
theorem dX9_meetsOn_9 : decode cX9_meetsOn 9 = .ok (.if_icmp .ge 36, 3) := by decide +kernel
theorem dX9_meetsOn_12 : decode cX9_meetsOn 12 = .ok (.iload_n 2, 1) := by decide +kernel
theorem dX9_meetsOn_13 : decode cX9_meetsOn 13 = .ok (.ifCond .ne 20, 3) := by decide +kernel
theorem dX9_meetsOn_16 : decode cX9_meetsOn 16 = .ok (.aload_n 0, 1) := by decide +kernel
theorem dX9_meetsOn_17 : decode cX9_meetsOn 17 = .ok (.iload_n 3, 1) := by decide +kernel
theorem dX9_meetsOn_18 : decode cX9_meetsOn 18 = .ok (.invokevirtual 214, 3) := by decide +kernel
theorem dX9_meetsOn_21 : decode cX9_meetsOn 21 = .ok (.ifCond .eq 16, 3) := by decide +kernel
theorem dX9_meetsOn_24 : decode cX9_meetsOn 24 = .ok (.aload_n 0, 1) := by decide +kernel
theorem dX9_meetsOn_25 : decode cX9_meetsOn 25 = .ok (.iload_n 1, 1) := by decide +kernel
theorem dX9_meetsOn_26 : decode cX9_meetsOn 26 = .ok (.iload_n 3, 1) := by decide +kernel
theorem dX9_meetsOn_27 : decode cX9_meetsOn 27 = .ok (.invokevirtual 220, 3) := by decide +kernel
theorem dX9_meetsOn_30 : decode cX9_meetsOn 30 = .ok (.ifCond .eq 7, 3) := by decide +kernel
theorem dX9_meetsOn_33 : decode cX9_meetsOn 33 = .ok (.iconst 1, 1) := by decide +kernel
theorem dX9_meetsOn_34 : decode cX9_meetsOn 34 = .ok (.goto 4, 3) := by decide +kernel
theorem dX9_meetsOn_37 : decode cX9_meetsOn 37 = .ok (.iconst 0, 1) := by decide +kernel
theorem dX9_meetsOn_38 : decode cX9_meetsOn 38 = .ok (.istore_n 2, 1) := by decide +kernel
theorem dX9_meetsOn_39 : decode cX9_meetsOn 39 = .ok (.iinc 3 1, 3) := by decide +kernel
theorem dX9_meetsOn_42 : decode cX9_meetsOn 42 = .ok (.goto (-38), 3) := by decide +kernel
theorem dX9_meetsOn_45 : decode cX9_meetsOn 45 = .ok (.iload_n 2, 1) := by decide +kernel
theorem dX9_meetsOn_46 : decode cX9_meetsOn 46 = .ok (.ireturn, 1) := by decide +kernel
theorem dX9_barsOf_0 : decode cX9_barsOf 0 = .ok (.aload_n 0, 1) := by decide +kernel
theorem dX9_barsOf_1 : decode cX9_barsOf 1 = .ok (.getfield 74, 3) := by decide +kernel
theorem dX9_barsOf_4 : decode cX9_barsOf 4 = .ok (.iload_n 1, 1) := by decide +kernel
theorem dX9_barsOf_5 : decode cX9_barsOf 5 = .ok (.iaload, 1) := by decide +kernel
theorem dX9_barsOf_6 : decode cX9_barsOf 6 = .ok (.istore_n 2, 1) := by decide +kernel
theorem dX9_barsOf_7 : decode cX9_barsOf 7 = .ok (.aload_n 0, 1) := by decide +kernel
theorem dX9_barsOf_8 : decode cX9_barsOf 8 = .ok (.getfield 86, 3) := by decide +kernel
theorem dX9_barsOf_11 : decode cX9_barsOf 11 = .ok (.iload_n 1, 1) := by decide +kernel
theorem dX9_barsOf_12 : decode cX9_barsOf 12 = .ok (.iaload, 1) := by decide +kernel
theorem dX9_barsOf_13 : decode cX9_barsOf 13 = .ok (.iconst 3, 1) := by decide +kernel
theorem dX9_barsOf_14 : decode cX9_barsOf 14 = .ok (.if_icmp .ne 5, 3) := by decide +kernel
theorem dX9_barsOf_17 : decode cX9_barsOf 17 = .ok (.iconst 0, 1) := by decide +kernel
theorem dX9_barsOf_18 : decode cX9_barsOf 18 = .ok (.ireturn, 1) := by decide +kernel
theorem dX9_barsOf_19 : decode cX9_barsOf 19 = .ok (.aload_n 0, 1) := by decide +kernel
theorem dX9_barsOf_20 : decode cX9_barsOf 20 = .ok (.getfield 28, 3) := by decide +kernel
theorem dX9_barsOf_23 : decode cX9_barsOf 23 = .ok (.iload_n 2, 1) := by decide +kernel
theorem dX9_barsOf_24 : decode cX9_barsOf 24 = .ok (.iaload, 1) := by decide +kernel
theorem dX9_barsOf_25 : decode cX9_barsOf 25 = .ok (.iconst (-1), 1) := by decide +kernel
theorem dX9_barsOf_26 : decode cX9_barsOf 26 = .ok (.if_icmp .eq 27, 3) := by decide +kernel
theorem dX9_barsOf_29 : decode cX9_barsOf 29 = .ok (.aload_n 0, 1) := by decide +kernel
theorem dX9_barsOf_30 : decode cX9_barsOf 30 = .ok (.iload_n 1, 1) := by decide +kernel
theorem dX9_barsOf_31 : decode cX9_barsOf 31 = .ok (.aload_n 0, 1) := by decide +kernel
theorem dX9_barsOf_32 : decode cX9_barsOf 32 = .ok (.getfield 28, 3) := by decide +kernel
theorem dX9_barsOf_35 : decode cX9_barsOf 35 = .ok (.iload_n 2, 1) := by decide +kernel
theorem dX9_barsOf_36 : decode cX9_barsOf 36 = .ok (.iaload, 1) := by decide +kernel
theorem dX9_barsOf_37 : decode cX9_barsOf 37 = .ok (.aload_n 0, 1) := by decide +kernel
theorem dX9_barsOf_38 : decode cX9_barsOf 38 = .ok (.getfield 31, 3) := by decide +kernel
theorem dX9_barsOf_41 : decode cX9_barsOf 41 = .ok (.iload_n 2, 1) := by decide +kernel
theorem dX9_barsOf_42 : decode cX9_barsOf 42 = .ok (.iaload, 1) := by decide +kernel
theorem dX9_barsOf_43 : decode cX9_barsOf 43 = .ok (.invokevirtual 182, 3) := by decide +kernel
theorem dX9_barsOf_46 : decode cX9_barsOf 46 = .ok (.ifCond .eq 7, 3) := by decide +kernel
theorem dX9_barsOf_49 : decode cX9_barsOf 49 = .ok (.iconst 1, 1) := by decide +kernel
theorem dX9_barsOf_50 : decode cX9_barsOf 50 = .ok (.goto 4, 3) := by decide +kernel
theorem dX9_barsOf_53 : decode cX9_barsOf 53 = .ok (.iconst 0, 1) := by decide +kernel
theorem dX9_barsOf_54 : decode cX9_barsOf 54 = .ok (.istore_n 3, 1) := by decide +kernel
theorem dX9_barsOf_55 : decode cX9_barsOf 55 = .ok (.aload_n 0, 1) := by decide +kernel
theorem dX9_barsOf_56 : decode cX9_barsOf 56 = .ok (.getfield 22, 3) := by decide +kernel
theorem dX9_barsOf_59 : decode cX9_barsOf 59 = .ok (.iload_n 2, 1) := by decide +kernel
theorem dX9_barsOf_60 : decode cX9_barsOf 60 = .ok (.iaload, 1) := by decide +kernel
theorem dX9_barsOf_61 : decode cX9_barsOf 61 = .ok (.iconst (-1), 1) := by decide +kernel
theorem dX9_barsOf_62 : decode cX9_barsOf 62 = .ok (.if_icmp .eq 39, 3) := by decide +kernel
theorem dX9_barsOf_65 : decode cX9_barsOf 65 = .ok (.aload_n 0, 1) := by decide +kernel
theorem dX9_barsOf_66 : decode cX9_barsOf 66 = .ok (.getfield 113, 3) := by decide +kernel
theorem dX9_barsOf_69 : decode cX9_barsOf 69 = .ok (.iload_n 1, 1) := by decide +kernel
theorem dX9_barsOf_70 : decode cX9_barsOf 70 = .ok (.baload, 1) := by decide +kernel
theorem dX9_barsOf_71 : decode cX9_barsOf 71 = .ok (.ifCond .ne 30, 3) := by decide +kernel
theorem dX9_barsOf_74 : decode cX9_barsOf 74 = .ok (.aload_n 0, 1) := by decide +kernel
theorem dX9_barsOf_75 : decode cX9_barsOf 75 = .ok (.iload_n 1, 1) := by decide +kernel
theorem dX9_barsOf_76 : decode cX9_barsOf 76 = .ok (.aload_n 0, 1) := by decide +kernel
theorem dX9_barsOf_77 : decode cX9_barsOf 77 = .ok (.getfield 22, 3) := by decide +kernel
theorem dX9_barsOf_80 : decode cX9_barsOf 80 = .ok (.iload_n 2, 1) := by decide +kernel
theorem dX9_barsOf_81 : decode cX9_barsOf 81 = .ok (.iaload, 1) := by decide +kernel
theorem dX9_barsOf_82 : decode cX9_barsOf 82 = .ok (.aload_n 0, 1) := by decide +kernel
theorem dX9_barsOf_83 : decode cX9_barsOf 83 = .ok (.getfield 22, 3) := by decide +kernel
theorem dX9_barsOf_86 : decode cX9_barsOf 86 = .ok (.iload_n 2, 1) := by decide +kernel
theorem dX9_barsOf_87 : decode cX9_barsOf 87 = .ok (.iaload, 1) := by decide +kernel
theorem dX9_barsOf_88 : decode cX9_barsOf 88 = .ok (.bipush 99, 2) := by decide +kernel
theorem dX9_barsOf_90 : decode cX9_barsOf 90 = .ok (.iadd, 1) := by decide +kernel
theorem dX9_barsOf_91 : decode cX9_barsOf 91 = .ok (.invokevirtual 182, 3) := by decide +kernel
theorem dX9_barsOf_94 : decode cX9_barsOf 94 = .ok (.ifCond .eq 7, 3) := by decide +kernel
theorem dX9_barsOf_97 : decode cX9_barsOf 97 = .ok (.iconst 1, 1) := by decide +kernel
theorem dX9_barsOf_98 : decode cX9_barsOf 98 = .ok (.goto 4, 3) := by decide +kernel
theorem dX9_barsOf_101 : decode cX9_barsOf 101 = .ok (.iconst 0, 1) := by decide +kernel
theorem dX9_barsOf_102 : decode cX9_barsOf 102 = .ok (.istore 4, 2) := by decide +kernel
theorem dX9_barsOf_104 : decode cX9_barsOf 104 = .ok (.iload_n 3, 1) := by decide +kernel
theorem dX9_barsOf_105 : decode cX9_barsOf 105 = .ok (.ifCond .eq 7, 3) := by decide +kernel
theorem dX9_barsOf_108 : decode cX9_barsOf 108 = .ok (.iconst 1, 1) := by decide +kernel
theorem dX9_barsOf_109 : decode cX9_barsOf 109 = .ok (.goto 25, 3) := by decide +kernel
theorem dX9_barsOf_112 : decode cX9_barsOf 112 = .ok (.iload 4, 2) := by decide +kernel
theorem dX9_barsOf_114 : decode cX9_barsOf 114 = .ok (.ifCond .eq 7, 3) := by decide +kernel
theorem dX9_barsOf_117 : decode cX9_barsOf 117 = .ok (.iconst 2, 1) := by decide +kernel
theorem dX9_barsOf_118 : decode cX9_barsOf 118 = .ok (.goto 16, 3) := by decide +kernel
theorem dX9_barsOf_121 : decode cX9_barsOf 121 = .ok (.aload_n 0, 1) := by decide +kernel
theorem dX9_barsOf_122 : decode cX9_barsOf 122 = .ok (.iload_n 1, 1) := by decide +kernel
theorem dX9_barsOf_123 : decode cX9_barsOf 123 = .ok (.invokevirtual 223, 3) := by decide +kernel
theorem dX9_barsOf_126 : decode cX9_barsOf 126 = .ok (.ifCond .eq 7, 3) := by decide +kernel
theorem dX9_barsOf_129 : decode cX9_barsOf 129 = .ok (.iconst 3, 1) := by decide +kernel
theorem dX9_barsOf_130 : decode cX9_barsOf 130 = .ok (.goto 4, 3) := by decide +kernel
theorem dX9_barsOf_133 : decode cX9_barsOf 133 = .ok (.iconst 0, 1) := by decide +kernel
theorem dX9_barsOf_134 : decode cX9_barsOf 134 = .ok (.ireturn, 1) := by decide +kernel
theorem dX9_notice_0 : decode cX9_notice 0 = .ok (.iload_n 0, 1) := by decide +kernel
theorem dX9_notice_1 : decode cX9_notice 1 = .ok (.ifCond .ne 8, 3) := by decide +kernel
theorem dX9_notice_4 : decode cX9_notice 4 = .ok (.bipush 20, 2) := by decide +kernel
theorem dX9_notice_6 : decode cX9_notice 6 = .ok (.goto 23, 3) := by decide +kernel
theorem dX9_notice_9 : decode cX9_notice 9 = .ok (.iload_n 0, 1) := by decide +kernel
theorem dX9_notice_10 : decode cX9_notice 10 = .ok (.iconst 1, 1) := by decide +kernel
theorem dX9_notice_11 : decode cX9_notice 11 = .ok (.if_icmp .ne 8, 3) := by decide +kernel
theorem dX9_notice_14 : decode cX9_notice 14 = .ok (.bipush 8, 2) := by decide +kernel
theorem dX9_notice_16 : decode cX9_notice 16 = .ok (.goto 13, 3) := by decide +kernel
theorem dX9_notice_19 : decode cX9_notice 19 = .ok (.iload_n 0, 1) := by decide +kernel
theorem dX9_notice_20 : decode cX9_notice 20 = .ok (.iconst 2, 1) := by decide +kernel
theorem dX9_notice_21 : decode cX9_notice 21 = .ok (.if_icmp .ne 7, 3) := by decide +kernel
theorem dX9_notice_24 : decode cX9_notice 24 = .ok (.iconst 3, 1) := by decide +kernel
theorem dX9_notice_25 : decode cX9_notice 25 = .ok (.goto 4, 3) := by decide +kernel
theorem dX9_notice_28 : decode cX9_notice 28 = .ok (.iconst 0, 1) := by decide +kernel
theorem dX9_notice_29 : decode cX9_notice 29 = .ok (.istore_n 2, 1) := by decide +kernel
theorem dX9_notice_30 : decode cX9_notice 30 = .ok (.iload_n 1, 1) := by decide +kernel
theorem dX9_notice_31 : decode cX9_notice 31 = .ok (.iconst 2, 1) := by decide +kernel
theorem dX9_notice_32 : decode cX9_notice 32 = .ok (.if_icmp .ge 9, 3) := by decide +kernel
theorem dX9_notice_35 : decode cX9_notice 35 = .ok (.iconst 2, 1) := by decide +kernel
theorem dX9_notice_36 : decode cX9_notice 36 = .ok (.iload_n 2, 1) := by decide +kernel
theorem dX9_notice_37 : decode cX9_notice 37 = .ok (.imul, 1) := by decide +kernel
theorem dX9_notice_38 : decode cX9_notice 38 = .ok (.goto 4, 3) := by decide +kernel
theorem dX9_notice_41 : decode cX9_notice 41 = .ok (.iload_n 2, 1) := by decide +kernel
theorem dX9_notice_42 : decode cX9_notice 42 = .ok (.ireturn, 1) := by decide +kernel
theorem dX9_ask_0 : decode cX9_ask 0 = .ok (.iload_n 1, 1) := by decide +kernel
theorem dX9_ask_1 : decode cX9_ask 1 = .ok (.invokestatic 185, 3) := by decide +kernel
theorem dX9_ask_4 : decode cX9_ask 4 = .ok (.ifCond .eq 26, 3) := by decide +kernel
theorem dX9_ask_7 : decode cX9_ask 7 = .ok (.aload_n 0, 1) := by decide +kernel
theorem dX9_ask_8 : decode cX9_ask 8 = .ok (.iload_n 2, 1) := by decide +kernel
theorem dX9_ask_9 : decode cX9_ask 9 = .ok (.iload_n 3, 1) := by decide +kernel
theorem dX9_ask_10 : decode cX9_ask 10 = .ok (.invokevirtual 188, 3) := by decide +kernel
theorem dX9_ask_13 : decode cX9_ask 13 = .ok (.ifCond .eq 17, 3) := by decide +kernel
theorem dX9_ask_16 : decode cX9_ask 16 = .ok (.aload_n 0, 1) := by decide +kernel
theorem dX9_ask_17 : decode cX9_ask 17 = .ok (.iload_n 2, 1) := by decide +kernel
theorem dX9_ask_18 : decode cX9_ask 18 = .ok (.iload 4, 2) := by decide +kernel
theorem dX9_ask_20 : decode cX9_ask 20 = .ok (.invokevirtual 188, 3) := by decide +kernel
theorem dX9_ask_23 : decode cX9_ask 23 = .ok (.ifCond .eq 7, 3) := by decide +kernel
theorem dX9_ask_26 : decode cX9_ask 26 = .ok (.iconst 1, 1) := by decide +kernel
theorem dX9_ask_27 : decode cX9_ask 27 = .ok (.goto 4, 3) := by decide +kernel
theorem dX9_ask_30 : decode cX9_ask 30 = .ok (.iconst 0, 1) := by decide +kernel
theorem dX9_ask_31 : decode cX9_ask 31 = .ok (.istore 9, 2) := by decide +kernel
theorem dX9_ask_33 : decode cX9_ask 33 = .ok (.iload 4, 2) := by decide +kernel
theorem dX9_ask_35 : decode cX9_ask 35 = .ok (.iload_n 3, 1) := by decide +kernel
theorem dX9_ask_36 : decode cX9_ask 36 = .ok (.if_icmp .lt 41, 3) := by decide +kernel
theorem dX9_ask_39 : decode cX9_ask 39 = .ok (.iload 5, 2) := by decide +kernel
theorem dX9_ask_41 : decode cX9_ask 41 = .ok (.bipush 10, 2) := by decide +kernel
theorem dX9_ask_43 : decode cX9_ask 43 = .ok (.sipush 300, 3) := by decide +kernel
theorem dX9_ask_46 : decode cX9_ask 46 = .ok (.invokestatic 151, 3) := by decide +kernel
theorem dX9_ask_49 : decode cX9_ask 49 = .ok (.ifCond .eq 28, 3) := by decide +kernel
theorem dX9_ask_52 : decode cX9_ask 52 = .ok (.iload 6, 2) := by decide +kernel
theorem dX9_ask_54 : decode cX9_ask 54 = .ok (.iconst 0, 1) := by decide +kernel
theorem dX9_ask_55 : decode cX9_ask 55 = .ok (.iconst 3, 1) := by decide +kernel
theorem dX9_ask_56 : decode cX9_ask 56 = .ok (.invokestatic 151, 3) := by decide +kernel
theorem dX9_ask_59 : decode cX9_ask 59 = .ok (.ifCond .eq 18, 3) := by decide +kernel
theorem dX9_ask_62 : decode cX9_ask 62 = .ok (.iload 8, 2) := by decide +kernel
theorem dX9_ask_64 : decode cX9_ask 64 = .ok (.iconst 1, 1) := by decide +kernel
theorem dX9_ask_65 : decode cX9_ask 65 = .ok (.bipush 60, 2) := by decide +kernel
theorem dX9_ask_67 : decode cX9_ask 67 = .ok (.invokestatic 151, 3) := by decide +kernel
theorem dX9_ask_70 : decode cX9_ask 70 = .ok (.ifCond .eq 7, 3) := by decide +kernel
theorem dX9_ask_73 : decode cX9_ask 73 = .ok (.iconst 1, 1) := by decide +kernel
theorem dX9_ask_74 : decode cX9_ask 74 = .ok (.goto 4, 3) := by decide +kernel
theorem dX9_ask_77 : decode cX9_ask 77 = .ok (.iconst 0, 1) := by decide +kernel
theorem dX9_ask_78 : decode cX9_ask 78 = .ok (.istore 10, 2) := by decide +kernel
theorem dX9_ask_80 : decode cX9_ask 80 = .ok (.aload_n 0, 1) := by decide +kernel
theorem dX9_ask_81 : decode cX9_ask 81 = .ok (.iload 9, 2) := by decide +kernel
theorem dX9_ask_83 : decode cX9_ask 83 = .ok (.ifCond .ne 7, 3) := by decide +kernel
theorem dX9_ask_86 : decode cX9_ask 86 = .ok (.iconst 1, 1) := by decide +kernel
theorem dX9_ask_87 : decode cX9_ask 87 = .ok (.goto 53, 3) := by decide +kernel
theorem dX9_ask_90 : decode cX9_ask 90 = .ok (.iload 10, 2) := by decide +kernel
theorem dX9_ask_92 : decode cX9_ask 92 = .ok (.ifCond .eq 30, 3) := by decide +kernel
theorem dX9_ask_95 : decode cX9_ask 95 = .ok (.iload 7, 2) := by decide +kernel
theorem dX9_ask_97 : decode cX9_ask 97 = .ok (.aload_n 0, 1) := by decide +kernel
theorem dX9_ask_98 : decode cX9_ask 98 = .ok (.invokevirtual 175, 3) := by decide +kernel
theorem dX9_ask_101 : decode cX9_ask 101 = .ok (.iload 6, 2) := by decide +kernel
theorem dX9_ask_103 : decode cX9_ask 103 = .ok (.aload_n 0, 1) := by decide +kernel
theorem dX9_ask_104 : decode cX9_ask 104 = .ok (.getfield 13, 3) := by decide +kernel
theorem dX9_ask_107 : decode cX9_ask 107 = .ok (.iload_n 2, 1) := by decide +kernel
theorem dX9_ask_108 : decode cX9_ask 108 = .ok (.iaload, 1) := by decide +kernel
theorem dX9_ask_109 : decode cX9_ask 109 = .ok (.invokestatic 226, 3) := by decide +kernel
theorem dX9_ask_112 : decode cX9_ask 112 = .ok (.iadd, 1) := by decide +kernel
theorem dX9_ask_113 : decode cX9_ask 113 = .ok (.sipush 999, 3) := by decide +kernel
theorem dX9_ask_116 : decode cX9_ask 116 = .ok (.invokestatic 151, 3) := by decide +kernel
theorem dX9_ask_119 : decode cX9_ask 119 = .ok (.ifCond .ne 7, 3) := by decide +kernel
theorem dX9_ask_122 : decode cX9_ask 122 = .ok (.iconst 2, 1) := by decide +kernel
theorem dX9_ask_123 : decode cX9_ask 123 = .ok (.goto 17, 3) := by decide +kernel
theorem dX9_ask_126 : decode cX9_ask 126 = .ok (.aload_n 0, 1) := by decide +kernel
theorem dX9_ask_127 : decode cX9_ask 127 = .ok (.getfield 162, 3) := by decide +kernel
theorem dX9_ask_130 : decode cX9_ask 130 = .ok (.bipush 24, 2) := by decide +kernel
theorem dX9_ask_132 : decode cX9_ask 132 = .ok (.if_icmp .ne 7, 3) := by decide +kernel
theorem dX9_ask_135 : decode cX9_ask 135 = .ok (.iconst 3, 1) := by decide +kernel
theorem dX9_ask_136 : decode cX9_ask 136 = .ok (.goto 4, 3) := by decide +kernel
theorem dX9_ask_139 : decode cX9_ask 139 = .ok (.iconst 0, 1) := by decide +kernel
theorem dX9_ask_140 : decode cX9_ask 140 = .ok (.invokevirtual 168, 3) := by decide +kernel
theorem dX9_ask_143 : decode cX9_ask 143 = .ok (.ifCond .ne 5, 3) := by decide +kernel
theorem dX9_ask_146 : decode cX9_ask 146 = .ok (.iconst 0, 1) := by decide +kernel
theorem dX9_ask_147 : decode cX9_ask 147 = .ok (.ireturn, 1) := by decide +kernel
theorem dX9_ask_148 : decode cX9_ask 148 = .ok (.aload_n 0, 1) := by decide +kernel
theorem dX9_ask_149 : decode cX9_ask 149 = .ok (.getfield 71, 3) := by decide +kernel
theorem dX9_ask_152 : decode cX9_ask 152 = .ok (.aload_n 0, 1) := by decide +kernel
theorem dX9_ask_153 : decode cX9_ask 153 = .ok (.getfield 162, 3) := by decide +kernel
theorem dX9_ask_156 : decode cX9_ask 156 = .ok (.iload_n 1, 1) := by decide +kernel
theorem dX9_ask_157 : decode cX9_ask 157 = .ok (.iastore, 1) := by decide +kernel
