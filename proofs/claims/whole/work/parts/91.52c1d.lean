theorem dX9_isMetre_29 : decode cX9_isMetre 29 = .ok (.ireturn, 1) := by decide +kernel
theorem dX9_isThing_0 : decode cX9_isThing 0 = .ok (.iload_n 1, 1) := by decide +kernel
theorem dX9_isThing_1 : decode cX9_isThing 1 = .ok (.iconst 0, 1) := by decide +kernel
theorem dX9_isThing_2 : decode cX9_isThing 2 = .ok (.aload_n 0, 1) := by decide +kernel
theorem dX9_isThing_3 : decode cX9_isThing 3 = .ok (.getfield 159, 3) := by decide +kernel
theorem dX9_isThing_6 : decode cX9_isThing 6 = .ok (.iconst 1, 1) := by decide +kernel
theorem dX9_isThing_7 : decode cX9_isThing 7 = .ok (.isub, 1) := by decide +kernel
theorem dX9_isThing_8 : decode cX9_isThing 8 = .ok (.invokestatic 151, 3) := by decide +kernel
theorem dX9_isThing_11 : decode cX9_isThing 11 = .ok (.ireturn, 1) := by decide +kernel
theorem dX9_areWorks_0 : decode cX9_areWorks 0 = .ok (.iload_n 1, 1) := by decide +kernel
theorem dX9_areWorks_1 : decode cX9_areWorks 1 = .ok (.iconst 0, 1) := by decide +kernel
theorem dX9_areWorks_2 : decode cX9_areWorks 2 = .ok (.aload_n 0, 1) := by decide +kernel
theorem dX9_areWorks_3 : decode cX9_areWorks 3 = .ok (.getfield 162, 3) := by decide +kernel
theorem dX9_areWorks_6 : decode cX9_areWorks 6 = .ok (.iconst 1, 1) := by decide +kernel
theorem dX9_areWorks_7 : decode cX9_areWorks 7 = .ok (.isub, 1) := by decide +kernel
theorem dX9_areWorks_8 : decode cX9_areWorks 8 = .ok (.invokestatic 151, 3) := by decide +kernel
theorem dX9_areWorks_11 : decode cX9_areWorks 11 = .ok (.ireturn, 1) := by decide +kernel
theorem dX9_isPromoter_0 : decode cX9_isPromoter 0 = .ok (.iload_n 0, 1) := by decide +kernel
theorem dX9_isPromoter_1 : decode cX9_isPromoter 1 = .ok (.iconst 0, 1) := by decide +kernel
theorem dX9_isPromoter_2 : decode cX9_isPromoter 2 = .ok (.iconst 4, 1) := by decide +kernel
theorem dX9_isPromoter_3 : decode cX9_isPromoter 3 = .ok (.invokestatic 151, 3) := by decide +kernel
theorem dX9_isPromoter_6 : decode cX9_isPromoter 6 = .ok (.ireturn, 1) := by decide +kernel
theorem dX9_today_0 : decode cX9_today 0 = .ok (.aload_n 0, 1) := by decide +kernel
theorem dX9_today_1 : decode cX9_today 1 = .ok (.getfield 165, 3) := by decide +kernel
theorem dX9_today_4 : decode cX9_today 4 = .ok (.bipush 24, 2) := by decide +kernel
theorem dX9_today_6 : decode cX9_today 6 = .ok (.idiv, 1) := by decide +kernel
theorem dX9_today_7 : decode cX9_today 7 = .ok (.ireturn, 1) := by decide +kernel
theorem dX9_isBusy_0 : decode cX9_isBusy 0 = .ok (.aload_n 0, 1) := by decide +kernel
theorem dX9_isBusy_1 : decode cX9_isBusy 1 = .ok (.getfield 165, 3) := by decide +kernel
theorem dX9_isBusy_4 : decode cX9_isBusy 4 = .ok (.bipush 24, 2) := by decide +kernel
theorem dX9_isBusy_6 : decode cX9_isBusy 6 = .ok (.irem, 1) := by decide +kernel
theorem dX9_isBusy_7 : decode cX9_isBusy 7 = .ok (.bipush 7, 2) := by decide +kernel
theorem dX9_isBusy_9 : decode cX9_isBusy 9 = .ok (.bipush 9, 2) := by decide +kernel
theorem dX9_isBusy_11 : decode cX9_isBusy 11 = .ok (.invokestatic 151, 3) := by decide +kernel
theorem dX9_isBusy_14 : decode cX9_isBusy 14 = .ok (.ifCond .ne 20, 3) := by decide +kernel
theorem dX9_isBusy_17 : decode cX9_isBusy 17 = .ok (.aload_n 0, 1) := by decide +kernel
theorem dX9_isBusy_18 : decode cX9_isBusy 18 = .ok (.getfield 165, 3) := by decide +kernel
theorem dX9_isBusy_21 : decode cX9_isBusy 21 = .ok (.bipush 24, 2) := by decide +kernel
theorem dX9_isBusy_23 : decode cX9_isBusy 23 = .ok (.irem, 1) := by decide +kernel
theorem dX9_isBusy_24 : decode cX9_isBusy 24 = .ok (.bipush 16, 2) := by decide +kernel
theorem dX9_isBusy_26 : decode cX9_isBusy 26 = .ok (.bipush 18, 2) := by decide +kernel
theorem dX9_isBusy_28 : decode cX9_isBusy 28 = .ok (.invokestatic 151, 3) := by decide +kernel
theorem dX9_isBusy_31 : decode cX9_isBusy 31 = .ok (.ifCond .eq 7, 3) := by decide +kernel
theorem dX9_isBusy_34 : decode cX9_isBusy 34 = .ok (.iconst 1, 1) := by decide +kernel
theorem dX9_isBusy_35 : decode cX9_isBusy 35 = .ok (.goto 4, 3) := by decide +kernel
theorem dX9_isBusy_38 : decode cX9_isBusy 38 = .ok (.iconst 0, 1) := by decide +kernel
theorem dX9_isBusy_39 : decode cX9_isBusy 39 = .ok (.ireturn, 1) := by decide +kernel
theorem dX9_pays_0 : decode cX9_pays 0 = .ok (.aload_n 0, 1) := by decide +kernel
theorem dX9_pays_1 : decode cX9_pays 1 = .ok (.getfield 140, 3) := by decide +kernel
theorem dX9_pays_4 : decode cX9_pays 4 = .ok (.iload_n 1, 1) := by decide +kernel
theorem dX9_pays_5 : decode cX9_pays 5 = .ok (.dup2, 1) := by decide +kernel
theorem dX9_pays_6 : decode cX9_pays 6 = .ok (.laload, 1) := by decide +kernel
theorem dX9_pays_7 : decode cX9_pays 7 = .ok (.iload_n 3, 1) := by decide +kernel
theorem dX9_pays_8 : decode cX9_pays 8 = .ok (.i2l, 1) := by decide +kernel
theorem dX9_pays_9 : decode cX9_pays 9 = .ok (.lsub, 1) := by decide +kernel
theorem dX9_pays_10 : decode cX9_pays 10 = .ok (.lastore, 1) := by decide +kernel
theorem dX9_pays_11 : decode cX9_pays 11 = .ok (.aload_n 0, 1) := by decide +kernel
theorem dX9_pays_12 : decode cX9_pays 12 = .ok (.getfield 140, 3) := by decide +kernel
theorem dX9_pays_15 : decode cX9_pays 15 = .ok (.iload_n 2, 1) := by decide +kernel
theorem dX9_pays_16 : decode cX9_pays 16 = .ok (.dup2, 1) := by decide +kernel
theorem dX9_pays_17 : decode cX9_pays 17 = .ok (.laload, 1) := by decide +kernel
theorem dX9_pays_18 : decode cX9_pays 18 = .ok (.iload_n 3, 1) := by decide +kernel
theorem dX9_pays_19 : decode cX9_pays 19 = .ok (.i2l, 1) := by decide +kernel
theorem dX9_pays_20 : decode cX9_pays 20 = .ok (.ladd, 1) := by decide +kernel
theorem dX9_pays_21 : decode cX9_pays 21 = .ok (.lastore, 1) := by decide +kernel
theorem dX9_pays_22 : decode cX9_pays 22 = .ok (.return_, 1) := by decide +kernel
theorem dX9_street_0 : decode cX9_street 0 = .ok (.iload_n 1, 1) := by decide +kernel
theorem dX9_street_1 : decode cX9_street 1 = .ok (.iconst 1, 1) := by decide +kernel
theorem dX9_street_2 : decode cX9_street 2 = .ok (.bipush 40, 2) := by decide +kernel
theorem dX9_street_4 : decode cX9_street 4 = .ok (.invokestatic 151, 3) := by decide +kernel
theorem dX9_street_7 : decode cX9_street 7 = .ok (.ifCond .eq 27, 3) := by decide +kernel
theorem dX9_street_10 : decode cX9_street 10 = .ok (.iload_n 2, 1) := by decide +kernel
theorem dX9_street_11 : decode cX9_street 11 = .ok (.iconst 0, 1) := by decide +kernel
theorem dX9_street_12 : decode cX9_street 12 = .ok (.iconst 3, 1) := by decide +kernel
theorem dX9_street_13 : decode cX9_street 13 = .ok (.invokestatic 151, 3) := by decide +kernel
theorem dX9_street_16 : decode cX9_street 16 = .ok (.ifCond .eq 18, 3) := by decide +kernel
theorem dX9_street_19 : decode cX9_street 19 = .ok (.iload_n 3, 1) := by decide +kernel
theorem dX9_street_20 : decode cX9_street 20 = .ok (.iconst 0, 1) := by decide +kernel
theorem dX9_street_21 : decode cX9_street 21 = .ok (.sipush 999, 3) := by decide +kernel
theorem dX9_street_24 : decode cX9_street 24 = .ok (.invokestatic 151, 3) := by decide +kernel
theorem dX9_street_27 : decode cX9_street 27 = .ok (.ifCond .eq 7, 3) := by decide +kernel
theorem dX9_street_30 : decode cX9_street 30 = .ok (.iconst 1, 1) := by decide +kernel
theorem dX9_street_31 : decode cX9_street 31 = .ok (.goto 4, 3) := by decide +kernel
theorem dX9_street_34 : decode cX9_street 34 = .ok (.iconst 0, 1) := by decide +kernel
theorem dX9_street_35 : decode cX9_street 35 = .ok (.istore 5, 2) := by decide +kernel
theorem dX9_street_37 : decode cX9_street 37 = .ok (.aload_n 0, 1) := by decide +kernel
theorem dX9_street_38 : decode cX9_street 38 = .ok (.iload 4, 2) := by decide +kernel
theorem dX9_street_40 : decode cX9_street 40 = .ok (.iconst (-1), 1) := by decide +kernel
theorem dX9_street_41 : decode cX9_street 41 = .ok (.if_icmp .eq 16, 3) := by decide +kernel
theorem dX9_street_44 : decode cX9_street 44 = .ok (.aload_n 0, 1) := by decide +kernel
theorem dX9_street_45 : decode cX9_street 45 = .ok (.iload 4, 2) := by decide +kernel
theorem dX9_street_47 : decode cX9_street 47 = .ok (.invokevirtual 155, 3) := by decide +kernel
theorem dX9_street_50 : decode cX9_street 50 = .ok (.ifCond .ne 7, 3) := by decide +kernel
theorem dX9_street_53 : decode cX9_street 53 = .ok (.iconst 1, 1) := by decide +kernel
theorem dX9_street_54 : decode cX9_street 54 = .ok (.goto 26, 3) := by decide +kernel
theorem dX9_street_57 : decode cX9_street 57 = .ok (.iload 5, 2) := by decide +kernel
theorem dX9_street_59 : decode cX9_street 59 = .ok (.ifCond .ne 7, 3) := by decide +kernel
theorem dX9_street_62 : decode cX9_street 62 = .ok (.iconst 2, 1) := by decide +kernel
theorem dX9_street_63 : decode cX9_street 63 = .ok (.goto 17, 3) := by decide +kernel
theorem dX9_street_66 : decode cX9_street 66 = .ok (.aload_n 0, 1) := by decide +kernel
theorem dX9_street_67 : decode cX9_street 67 = .ok (.getfield 148, 3) := by decide +kernel
theorem dX9_street_70 : decode cX9_street 70 = .ok (.bipush 6, 2) := by decide +kernel
theorem dX9_street_72 : decode cX9_street 72 = .ok (.if_icmp .ne 7, 3) := by decide +kernel
theorem dX9_street_75 : decode cX9_street 75 = .ok (.iconst 3, 1) := by decide +kernel
theorem dX9_street_76 : decode cX9_street 76 = .ok (.goto 4, 3) := by decide +kernel
theorem dX9_street_79 : decode cX9_street 79 = .ok (.iconst 0, 1) := by decide +kernel
theorem dX9_street_80 : decode cX9_street 80 = .ok (.invokevirtual 168, 3) := by decide +kernel
theorem dX9_street_83 : decode cX9_street 83 = .ok (.ifCond .ne 5, 3) := by decide +kernel
theorem dX9_street_86 : decode cX9_street 86 = .ok (.iconst 0, 1) := by decide +kernel
theorem dX9_street_87 : decode cX9_street 87 = .ok (.ireturn, 1) := by decide +kernel
theorem dX9_street_88 : decode cX9_street 88 = .ok (.aload_n 0, 1) := by decide +kernel
theorem dX9_street_89 : decode cX9_street 89 = .ok (.getfield 7, 3) := by decide +kernel
theorem dX9_street_92 : decode cX9_street 92 = .ok (.aload_n 0, 1) := by decide +kernel
theorem dX9_street_93 : decode cX9_street 93 = .ok (.getfield 148, 3) := by decide +kernel
theorem dX9_street_96 : decode cX9_street 96 = .ok (.iload_n 1, 1) := by decide +kernel
theorem dX9_street_97 : decode cX9_street 97 = .ok (.iastore, 1) := by decide +kernel
theorem dX9_street_98 : decode cX9_street 98 = .ok (.aload_n 0, 1) := by decide +kernel
theorem dX9_street_99 : decode cX9_street 99 = .ok (.getfield 13, 3) := by decide +kernel
theorem dX9_street_102 : decode cX9_street 102 = .ok (.aload_n 0, 1) := by decide +kernel
theorem dX9_street_103 : decode cX9_street 103 = .ok (.getfield 148, 3) := by decide +kernel
theorem dX9_street_106 : decode cX9_street 106 = .ok (.iload_n 2, 1) := by decide +kernel
theorem dX9_street_107 : decode cX9_street 107 = .ok (.iastore, 1) := by decide +kernel
theorem dX9_street_108 : decode cX9_street 108 = .ok (.aload_n 0, 1) := by decide +kernel
theorem dX9_street_109 : decode cX9_street 109 = .ok (.getfield 16, 3) := by decide +kernel
theorem dX9_street_112 : decode cX9_street 112 = .ok (.aload_n 0, 1) := by decide +kernel
theorem dX9_street_113 : decode cX9_street 113 = .ok (.getfield 148, 3) := by decide +kernel
theorem dX9_street_116 : decode cX9_street 116 = .ok (.iload_n 3, 1) := by decide +kernel
theorem dX9_street_117 : decode cX9_street 117 = .ok (.iastore, 1) := by decide +kernel
theorem dX9_street_118 : decode cX9_street 118 = .ok (.aload_n 0, 1) := by decide +kernel
theorem dX9_street_119 : decode cX9_street 119 = .ok (.getfield 19, 3) := by decide +kernel
theorem dX9_street_122 : decode cX9_street 122 = .ok (.aload_n 0, 1) := by decide +kernel
theorem dX9_street_123 : decode cX9_street 123 = .ok (.getfield 148, 3) := by decide +kernel
theorem dX9_street_126 : decode cX9_street 126 = .ok (.iload 4, 2) := by decide +kernel
theorem dX9_street_128 : decode cX9_street 128 = .ok (.iastore, 1) := by decide +kernel
theorem dX9_street_129 : decode cX9_street 129 = .ok (.aload_n 0, 1) := by decide +kernel
theorem dX9_street_130 : decode cX9_street 130 = .ok (.dup, 1) := by decide +kernel
theorem dX9_street_131 : decode cX9_street 131 = .ok (.getfield 148, 3) := by decide +kernel
theorem dX9_street_134 : decode cX9_street 134 = .ok (.iconst 1, 1) := by decide +kernel
theorem dX9_street_135 : decode cX9_street 135 = .ok (.iadd, 1) := by decide +kernel
theorem dX9_street_136 : decode cX9_street 136 = .ok (.putfield 148, 3) := by decide +kernel
theorem dX9_street_139 : decode cX9_street 139 = .ok (.aload_n 0, 1) := by decide +kernel
theorem dX9_street_140 : decode cX9_street 140 = .ok (.getfield 148, 3) := by decide +kernel
theorem dX9_street_143 : decode cX9_street 143 = .ok (.iconst 1, 1) := by decide +kernel
theorem dX9_street_144 : decode cX9_street 144 = .ok (.isub, 1) := by decide +kernel
theorem dX9_street_145 : decode cX9_street 145 = .ok (.ireturn, 1) := by decide +kernel
theorem dX9_openIn_0 : decode cX9_openIn 0 = .ok (.iconst 0, 1) := by decide +kernel
theorem dX9_openIn_1 : decode cX9_openIn 1 = .ok (.istore_n 2, 1) := by decide +kernel
theorem dX9_openIn_2 : decode cX9_openIn 2 = .ok (.bipush 40, 2) := by decide +kernel
theorem dX9_openIn_4 : decode cX9_openIn 4 = .ok (.iload_n 1, 1) := by decide +kernel
theorem dX9_openIn_5 : decode cX9_openIn 5 = .ok (.imul, 1) := by decide +kernel
theorem dX9_openIn_6 : decode cX9_openIn 6 = .ok (.istore_n 3, 1) := by decide +kernel
theorem dX9_openIn_7 : decode cX9_openIn 7 = .ok (.iload_n 3, 1) := by decide +kernel
theorem dX9_openIn_8 : decode cX9_openIn 8 = .ok (.bipush 40, 2) := by decide +kernel
theorem dX9_openIn_10 : decode cX9_openIn 10 = .ok (.iload_n 1, 1) := by decide +kernel
theorem dX9_openIn_11 : decode cX9_openIn 11 = .ok (.imul, 1) := by decide +kernel
theorem dX9_openIn_12 : decode cX9_openIn 12 = .ok (.bipush 40, 2) := by decide +kernel
theorem dX9_openIn_14 : decode cX9_openIn 14 = .ok (.iadd, 1) := by decide +kernel
theorem dX9_openIn_15 : decode cX9_openIn 15 = .ok (.if_icmp .ge 27, 3) := by decide +kernel
theorem dX9_openIn_18 : decode cX9_openIn 18 = .ok (.iload_n 2, 1) := by decide +kernel
theorem dX9_openIn_19 : decode cX9_openIn 19 = .ok (.aload_n 0, 1) := by decide +kernel
theorem dX9_openIn_20 : decode cX9_openIn 20 = .ok (.getfield 44, 3) := by decide +kernel
theorem dX9_openIn_23 : decode cX9_openIn 23 = .ok (.iload_n 3, 1) := by decide +kernel
theorem dX9_openIn_24 : decode cX9_openIn 24 = .ok (.iaload, 1) := by decide +kernel
theorem dX9_openIn_25 : decode cX9_openIn 25 = .ok (.iconst (-1), 1) := by decide +kernel
theorem dX9_openIn_26 : decode cX9_openIn 26 = .ok (.if_icmp .ne 7, 3) := by decide +kernel
theorem dX9_openIn_29 : decode cX9_openIn 29 = .ok (.iconst 0, 1) := by decide +kernel
theorem dX9_openIn_30 : decode cX9_openIn 30 = .ok (.goto 4, 3) := by decide +kernel
theorem dX9_openIn_33 : decode cX9_openIn 33 = .ok (.iconst 1, 1) := by decide +kernel
theorem dX9_openIn_34 : decode cX9_openIn 34 = .ok (.iadd, 1) := by decide +kernel
theorem dX9_openIn_35 : decode cX9_openIn 35 = .ok (.istore_n 2, 1) := by decide +kernel
theorem dX9_openIn_36 : decode cX9_openIn 36 = .ok (.iinc 3 1, 3) := by decide +kernel
theorem dX9_openIn_39 : decode cX9_openIn 39 = .ok (.goto (-32), 3) := by decide +kernel
theorem dX9_openIn_42 : decode cX9_openIn 42 = .ok (.iload_n 2, 1) := by decide +kernel
theorem dX9_openIn_43 : decode cX9_openIn 43 = .ok (.ireturn, 1) := by decide +kernel
theorem dX9_surface_0 : decode cX9_surface 0 = .ok (.aload_n 0, 1) := by decide +kernel
theorem dX9_surface_1 : decode cX9_surface 1 = .ok (.iload_n 1, 1) := by decide +kernel
theorem dX9_surface_2 : decode cX9_surface 2 = .ok (.invokevirtual 155, 3) := by decide +kernel
theorem dX9_surface_5 : decode cX9_surface 5 = .ok (.istore_n 2, 1) := by decide +kernel
theorem dX9_surface_6 : decode cX9_surface 6 = .ok (.aload_n 0, 1) := by decide +kernel
theorem dX9_surface_7 : decode cX9_surface 7 = .ok (.iload_n 2, 1) := by decide +kernel
theorem dX9_surface_8 : decode cX9_surface 8 = .ok (.ifCond .ne 7, 3) := by decide +kernel
theorem dX9_surface_11 : decode cX9_surface 11 = .ok (.iconst 1, 1) := by decide +kernel
theorem dX9_surface_12 : decode cX9_surface 12 = .ok (.goto 16, 3) := by decide +kernel
theorem dX9_surface_15 : decode cX9_surface 15 = .ok (.aload_n 0, 1) := by decide +kernel
theorem dX9_surface_16 : decode cX9_surface 16 = .ok (.iload_n 1, 1) := by decide +kernel
theorem dX9_surface_17 : decode cX9_surface 17 = .ok (.invokevirtual 171, 3) := by decide +kernel
theorem dX9_surface_20 : decode cX9_surface 20 = .ok (.ifCond .le 7, 3) := by decide +kernel
theorem dX9_surface_23 : decode cX9_surface 23 = .ok (.iconst 2, 1) := by decide +kernel
theorem dX9_surface_24 : decode cX9_surface 24 = .ok (.goto 4, 3) := by decide +kernel
theorem dX9_surface_27 : decode cX9_surface 27 = .ok (.iconst 0, 1) := by decide +kernel
theorem dX9_surface_28 : decode cX9_surface 28 = .ok (.invokevirtual 168, 3) := by decide +kernel
theorem dX9_surface_31 : decode cX9_surface 31 = .ok (.ifCond .ne 5, 3) := by decide +kernel
theorem dX9_surface_34 : decode cX9_surface 34 = .ok (.iconst 0, 1) := by decide +kernel
theorem dX9_surface_35 : decode cX9_surface 35 = .ok (.ireturn, 1) := by decide +kernel
theorem dX9_surface_36 : decode cX9_surface 36 = .ok (.aload_n 0, 1) := by decide +kernel
theorem dX9_surface_37 : decode cX9_surface 37 = .ok (.getfield 22, 3) := by decide +kernel
theorem dX9_surface_40 : decode cX9_surface 40 = .ok (.iload_n 1, 1) := by decide +kernel
theorem dX9_surface_41 : decode cX9_surface 41 = .ok (.aload_n 0, 1) := by decide +kernel
theorem dX9_surface_42 : decode cX9_surface 42 = .ok (.invokevirtual 175, 3) := by decide +kernel
theorem dX9_surface_45 : decode cX9_surface 45 = .ok (.iastore, 1) := by decide +kernel
theorem dX9_surface_46 : decode cX9_surface 46 = .ok (.aload_n 0, 1) := by decide +kernel
theorem dX9_surface_47 : decode cX9_surface 47 = .ok (.getfield 25, 3) := by decide +kernel
theorem dX9_surface_50 : decode cX9_surface 50 = .ok (.iload_n 1, 1) := by decide +kernel
theorem dX9_surface_51 : decode cX9_surface 51 = .ok (.aload_n 0, 1) := by decide +kernel
theorem dX9_surface_52 : decode cX9_surface 52 = .ok (.getfield 179, 3) := by decide +kernel
theorem dX9_surface_55 : decode cX9_surface 55 = .ok (.iastore, 1) := by decide +kernel
theorem dX9_surface_56 : decode cX9_surface 56 = .ok (.aload_n 0, 1) := by decide +kernel
theorem dX9_surface_57 : decode cX9_surface 57 = .ok (.invokevirtual 175, 3) := by decide +kernel
theorem dX9_surface_60 : decode cX9_surface 60 = .ok (.bipush 99, 2) := by decide +kernel
theorem dX9_surface_62 : decode cX9_surface 62 = .ok (.iadd, 1) := by decide +kernel
theorem dX9_surface_63 : decode cX9_surface 63 = .ok (.ireturn, 1) := by decide +kernel
theorem dX9_embargo_0 : decode cX9_embargo 0 = .ok (.iload_n 2, 1) := by decide +kernel
theorem dX9_embargo_1 : decode cX9_embargo 1 = .ok (.iconst 0, 1) := by decide +kernel
theorem dX9_embargo_2 : decode cX9_embargo 2 = .ok (.sipush 999, 3) := by decide +kernel
theorem dX9_embargo_5 : decode cX9_embargo 5 = .ok (.invokestatic 151, 3) := by decide +kernel
theorem dX9_embargo_8 : decode cX9_embargo 8 = .ok (.ifCond .eq 18, 3) := by decide +kernel
theorem dX9_embargo_11 : decode cX9_embargo 11 = .ok (.iload_n 3, 1) := by decide +kernel
theorem dX9_embargo_12 : decode cX9_embargo 12 = .ok (.iload_n 2, 1) := by decide +kernel
theorem dX9_embargo_13 : decode cX9_embargo 13 = .ok (.sipush 999, 3) := by decide +kernel
theorem dX9_embargo_16 : decode cX9_embargo 16 = .ok (.invokestatic 151, 3) := by decide +kernel
theorem dX9_embargo_19 : decode cX9_embargo 19 = .ok (.ifCond .eq 7, 3) := by decide +kernel
theorem dX9_embargo_22 : decode cX9_embargo 22 = .ok (.iconst 1, 1) := by decide +kernel
theorem dX9_embargo_23 : decode cX9_embargo 23 = .ok (.goto 4, 3) := by decide +kernel
theorem dX9_embargo_26 : decode cX9_embargo 26 = .ok (.iconst 0, 1) := by decide +kernel
theorem dX9_embargo_27 : decode cX9_embargo 27 = .ok (.istore 4, 2) := by decide +kernel
theorem dX9_embargo_29 : decode cX9_embargo 29 = .ok (.aload_n 0, 1) := by decide +kernel
theorem dX9_embargo_30 : decode cX9_embargo 30 = .ok (.aload_n 0, 1) := by decide +kernel
theorem dX9_embargo_31 : decode cX9_embargo 31 = .ok (.iload_n 1, 1) := by decide +kernel
theorem dX9_embargo_32 : decode cX9_embargo 32 = .ok (.invokevirtual 155, 3) := by decide +kernel
theorem dX9_embargo_35 : decode cX9_embargo 35 = .ok (.ifCond .ne 7, 3) := by decide +kernel
theorem dX9_embargo_38 : decode cX9_embargo 38 = .ok (.iconst 1, 1) := by decide +kernel
theorem dX9_embargo_39 : decode cX9_embargo 39 = .ok (.goto 13, 3) := by decide +kernel
theorem dX9_embargo_42 : decode cX9_embargo 42 = .ok (.iload 4, 2) := by decide +kernel
theorem dX9_embargo_44 : decode cX9_embargo 44 = .ok (.ifCond .eq 7, 3) := by decide +kernel
theorem dX9_embargo_47 : decode cX9_embargo 47 = .ok (.iconst 0, 1) := by decide +kernel
theorem dX9_embargo_48 : decode cX9_embargo 48 = .ok (.goto 4, 3) := by decide +kernel
theorem dX9_embargo_51 : decode cX9_embargo 51 = .ok (.iconst 2, 1) := by decide +kernel
theorem dX9_embargo_52 : decode cX9_embargo 52 = .ok (.invokevirtual 168, 3) := by decide +kernel
theorem dX9_embargo_55 : decode cX9_embargo 55 = .ok (.ifCond .ne 5, 3) := by decide +kernel
theorem dX9_embargo_58 : decode cX9_embargo 58 = .ok (.iconst 0, 1) := by decide +kernel
theorem dX9_embargo_59 : decode cX9_embargo 59 = .ok (.ireturn, 1) := by decide +kernel
theorem dX9_embargo_60 : decode cX9_embargo 60 = .ok (.aload_n 0, 1) := by decide +kernel
theorem dX9_embargo_61 : decode cX9_embargo 61 = .ok (.getfield 28, 3) := by decide +kernel
theorem dX9_embargo_64 : decode cX9_embargo 64 = .ok (.iload_n 1, 1) := by decide +kernel
theorem dX9_embargo_65 : decode cX9_embargo 65 = .ok (.iload_n 2, 1) := by decide +kernel
theorem dX9_embargo_66 : decode cX9_embargo 66 = .ok (.iastore, 1) := by decide +kernel
theorem dX9_embargo_67 : decode cX9_embargo 67 = .ok (.aload_n 0, 1) := by decide +kernel
theorem dX9_embargo_68 : decode cX9_embargo 68 = .ok (.getfield 31, 3) := by decide +kernel
theorem dX9_embargo_71 : decode cX9_embargo 71 = .ok (.iload_n 1, 1) := by decide +kernel
theorem dX9_embargo_72 : decode cX9_embargo 72 = .ok (.iload_n 3, 1) := by decide +kernel
theorem dX9_embargo_73 : decode cX9_embargo 73 = .ok (.iastore, 1) := by decide +kernel
theorem dX9_embargo_74 : decode cX9_embargo 74 = .ok (.iconst 0, 1) := by decide +kernel
theorem dX9_embargo_75 : decode cX9_embargo 75 = .ok (.istore 5, 2) := by decide +kernel
theorem dX9_embargo_77 : decode cX9_embargo 77 = .ok (.iconst 0, 1) := by decide +kernel
theorem dX9_embargo_78 : decode cX9_embargo 78 = .ok (.istore 6, 2) := by decide +kernel
theorem dX9_embargo_80 : decode cX9_embargo 80 = .ok (.iload 6, 2) := by decide +kernel
theorem dX9_embargo_82 : decode cX9_embargo 82 = .ok (.aload_n 0, 1) := by decide +kernel
theorem dX9_embargo_83 : decode cX9_embargo 83 = .ok (.getfield 162, 3) := by decide +kernel
theorem dX9_embargo_86 : decode cX9_embargo 86 = .ok (.if_icmp .ge 52, 3) := by decide +kernel
theorem dX9_embargo_89 : decode cX9_embargo 89 = .ok (.iload 5, 2) := by decide +kernel
theorem dX9_embargo_91 : decode cX9_embargo 91 = .ok (.aload_n 0, 1) := by decide +kernel
theorem dX9_embargo_92 : decode cX9_embargo 92 = .ok (.getfield 74, 3) := by decide +kernel
theorem dX9_embargo_95 : decode cX9_embargo 95 = .ok (.iload 6, 2) := by decide +kernel
theorem dX9_embargo_97 : decode cX9_embargo 97 = .ok (.iaload, 1) := by decide +kernel
theorem dX9_embargo_98 : decode cX9_embargo 98 = .ok (.iload_n 1, 1) := by decide +kernel
theorem dX9_embargo_99 : decode cX9_embargo 99 = .ok (.if_icmp .ne 29, 3) := by decide +kernel
theorem dX9_embargo_102 : decode cX9_embargo 102 = .ok (.aload_n 0, 1) := by decide +kernel
theorem dX9_embargo_103 : decode cX9_embargo 103 = .ok (.getfield 98, 3) := by decide +kernel
theorem dX9_embargo_106 : decode cX9_embargo 106 = .ok (.iload 6, 2) := by decide +kernel
theorem dX9_embargo_108 : decode cX9_embargo 108 = .ok (.iaload, 1) := by decide +kernel
theorem dX9_embargo_109 : decode cX9_embargo 109 = .ok (.iconst 1, 1) := by decide +kernel
theorem dX9_embargo_110 : decode cX9_embargo 110 = .ok (.if_icmp .ne 18, 3) := by decide +kernel
theorem dX9_embargo_113 : decode cX9_embargo 113 = .ok (.aload_n 0, 1) := by decide +kernel
theorem dX9_embargo_114 : decode cX9_embargo 114 = .ok (.iload 6, 2) := by decide +kernel
theorem dX9_embargo_116 : decode cX9_embargo 116 = .ok (.iload_n 2, 1) := by decide +kernel
theorem dX9_embargo_117 : decode cX9_embargo 117 = .ok (.iload_n 3, 1) := by decide +kernel
theorem dX9_embargo_118 : decode cX9_embargo 118 = .ok (.invokevirtual 182, 3) := by decide +kernel
theorem dX9_embargo_121 : decode cX9_embargo 121 = .ok (.ifCond .eq 7, 3) := by decide +kernel
theorem dX9_embargo_124 : decode cX9_embargo 124 = .ok (.iconst 1, 1) := by decide +kernel
theorem dX9_embargo_125 : decode cX9_embargo 125 = .ok (.goto 4, 3) := by decide +kernel
theorem dX9_embargo_128 : decode cX9_embargo 128 = .ok (.iconst 0, 1) := by decide +kernel
theorem dX9_embargo_129 : decode cX9_embargo 129 = .ok (.iadd, 1) := by decide +kernel
theorem dX9_embargo_130 : decode cX9_embargo 130 = .ok (.istore 5, 2) := by decide +kernel
theorem dX9_embargo_132 : decode cX9_embargo 132 = .ok (.iinc 6 1, 3) := by decide +kernel
theorem dX9_embargo_135 : decode cX9_embargo 135 = .ok (.goto (-55), 3) := by decide +kernel
theorem dX9_embargo_138 : decode cX9_embargo 138 = .ok (.iload 5, 2) := by decide +kernel
theorem dX9_embargo_140 : decode cX9_embargo 140 = .ok (.ireturn, 1) := by decide +kernel
theorem dX9_thing_0 : decode cX9_thing 0 = .ok (.iload_n 1, 1) := by decide +kernel
theorem dX9_thing_1 : decode cX9_thing 1 = .ok (.invokestatic 185, 3) := by decide +kernel
theorem dX9_thing_4 : decode cX9_thing 4 = .ok (.ifCond .eq 26, 3) := by decide +kernel
theorem dX9_thing_7 : decode cX9_thing 7 = .ok (.aload_n 0, 1) := by decide +kernel
theorem dX9_thing_8 : decode cX9_thing 8 = .ok (.iload_n 2, 1) := by decide +kernel
theorem dX9_thing_9 : decode cX9_thing 9 = .ok (.iload_n 3, 1) := by decide +kernel
theorem dX9_thing_10 : decode cX9_thing 10 = .ok (.invokevirtual 188, 3) := by decide +kernel
theorem dX9_thing_13 : decode cX9_thing 13 = .ok (.ifCond .eq 17, 3) := by decide +kernel
theorem dX9_thing_16 : decode cX9_thing 16 = .ok (.aload_n 0, 1) := by decide +kernel
theorem dX9_thing_17 : decode cX9_thing 17 = .ok (.iload_n 2, 1) := by decide +kernel
theorem dX9_thing_18 : decode cX9_thing 18 = .ok (.iload 4, 2) := by decide +kernel
theorem dX9_thing_20 : decode cX9_thing 20 = .ok (.invokevirtual 188, 3) := by decide +kernel
theorem dX9_thing_23 : decode cX9_thing 23 = .ok (.ifCond .eq 7, 3) := by decide +kernel
theorem dX9_thing_26 : decode cX9_thing 26 = .ok (.iconst 1, 1) := by decide +kernel
theorem dX9_thing_27 : decode cX9_thing 27 = .ok (.goto 4, 3) := by decide +kernel
theorem dX9_thing_30 : decode cX9_thing 30 = .ok (.iconst 0, 1) := by decide +kernel
theorem dX9_thing_31 : decode cX9_thing 31 = .ok (.istore 6, 2) := by decide +kernel
theorem dX9_thing_33 : decode cX9_thing 33 = .ok (.iload 4, 2) := by decide +kernel
theorem dX9_thing_35 : decode cX9_thing 35 = .ok (.iload_n 3, 1) := by decide +kernel
theorem dX9_thing_36 : decode cX9_thing 36 = .ok (.if_icmp .lt 20, 3) := by decide +kernel
theorem dX9_thing_39 : decode cX9_thing 39 = .ok (.iload 5, 2) := by decide +kernel
theorem dX9_thing_41 : decode cX9_thing 41 = .ok (.bipush 10, 2) := by decide +kernel
theorem dX9_thing_43 : decode cX9_thing 43 = .ok (.sipush 300, 3) := by decide +kernel
theorem dX9_thing_46 : decode cX9_thing 46 = .ok (.invokestatic 151, 3) := by decide +kernel
theorem dX9_thing_49 : decode cX9_thing 49 = .ok (.ifCond .eq 7, 3) := by decide +kernel
theorem dX9_thing_52 : decode cX9_thing 52 = .ok (.iconst 1, 1) := by decide +kernel
theorem dX9_thing_53 : decode cX9_thing 53 = .ok (.goto 4, 3) := by decide +kernel
theorem dX9_thing_56 : decode cX9_thing 56 = .ok (.iconst 0, 1) := by decide +kernel
theorem dX9_thing_57 : decode cX9_thing 57 = .ok (.istore 7, 2) := by decide +kernel
theorem dX9_thing_59 : decode cX9_thing 59 = .ok (.aload_n 0, 1) := by decide +kernel
theorem dX9_thing_60 : decode cX9_thing 60 = .ok (.iload 6, 2) := by decide +kernel
theorem dX9_thing_62 : decode cX9_thing 62 = .ok (.ifCond .ne 7, 3) := by decide +kernel
theorem dX9_thing_65 : decode cX9_thing 65 = .ok (.iconst 1, 1) := by decide +kernel
theorem dX9_thing_66 : decode cX9_thing 66 = .ok (.goto 26, 3) := by decide +kernel
theorem dX9_thing_69 : decode cX9_thing 69 = .ok (.iload 7, 2) := by decide +kernel
theorem dX9_thing_71 : decode cX9_thing 71 = .ok (.ifCond .ne 7, 3) := by decide +kernel
theorem dX9_thing_74 : decode cX9_thing 74 = .ok (.iconst 2, 1) := by decide +kernel
theorem dX9_thing_75 : decode cX9_thing 75 = .ok (.goto 17, 3) := by decide +kernel
theorem dX9_thing_78 : decode cX9_thing 78 = .ok (.aload_n 0, 1) := by decide +kernel
theorem dX9_thing_79 : decode cX9_thing 79 = .ok (.getfield 159, 3) := by decide +kernel
theorem dX9_thing_82 : decode cX9_thing 82 = .ok (.bipush 30, 2) := by decide +kernel
theorem dX9_thing_84 : decode cX9_thing 84 = .ok (.if_icmp .ne 7, 3) := by decide +kernel
theorem dX9_thing_87 : decode cX9_thing 87 = .ok (.iconst 3, 1) := by decide +kernel
theorem dX9_thing_88 : decode cX9_thing 88 = .ok (.goto 4, 3) := by decide +kernel
theorem dX9_thing_91 : decode cX9_thing 91 = .ok (.iconst 0, 1) := by decide +kernel
theorem dX9_thing_92 : decode cX9_thing 92 = .ok (.invokevirtual 168, 3) := by decide +kernel
theorem dX9_thing_95 : decode cX9_thing 95 = .ok (.ifCond .ne 5, 3) := by decide +kernel
theorem dX9_thing_98 : decode cX9_thing 98 = .ok (.iconst 0, 1) := by decide +kernel
theorem dX9_thing_99 : decode cX9_thing 99 = .ok (.ireturn, 1) := by decide +kernel
theorem dX9_thing_100 : decode cX9_thing 100 = .ok (.aload_n 0, 1) := by decide +kernel
theorem dX9_thing_101 : decode cX9_thing 101 = .ok (.getfield 47, 3) := by decide +kernel
theorem dX9_thing_104 : decode cX9_thing 104 = .ok (.aload_n 0, 1) := by decide +kernel
theorem dX9_thing_105 : decode cX9_thing 105 = .ok (.getfield 159, 3) := by decide +kernel
theorem dX9_thing_108 : decode cX9_thing 108 = .ok (.iload_n 1, 1) := by decide +kernel
theorem dX9_thing_109 : decode cX9_thing 109 = .ok (.iastore, 1) := by decide +kernel
theorem dX9_thing_110 : decode cX9_thing 110 = .ok (.aload_n 0, 1) := by decide +kernel
theorem dX9_thing_111 : decode cX9_thing 111 = .ok (.getfield 50, 3) := by decide +kernel
theorem dX9_thing_114 : decode cX9_thing 114 = .ok (.aload_n 0, 1) := by decide +kernel
theorem dX9_thing_115 : decode cX9_thing 115 = .ok (.getfield 159, 3) := by decide +kernel
theorem dX9_thing_118 : decode cX9_thing 118 = .ok (.iload_n 2, 1) := by decide +kernel
theorem dX9_thing_119 : decode cX9_thing 119 = .ok (.iastore, 1) := by decide +kernel
theorem dX9_thing_120 : decode cX9_thing 120 = .ok (.aload_n 0, 1) := by decide +kernel
theorem dX9_thing_121 : decode cX9_thing 121 = .ok (.getfield 53, 3) := by decide +kernel
theorem dX9_thing_124 : decode cX9_thing 124 = .ok (.aload_n 0, 1) := by decide +kernel
theorem dX9_thing_125 : decode cX9_thing 125 = .ok (.getfield 159, 3) := by decide +kernel
theorem dX9_thing_128 : decode cX9_thing 128 = .ok (.iload_n 3, 1) := by decide +kernel
theorem dX9_thing_129 : decode cX9_thing 129 = .ok (.iastore, 1) := by decide +kernel
theorem dX9_thing_130 : decode cX9_thing 130 = .ok (.aload_n 0, 1) := by decide +kernel
theorem dX9_thing_131 : decode cX9_thing 131 = .ok (.getfield 56, 3) := by decide +kernel
theorem dX9_thing_134 : decode cX9_thing 134 = .ok (.aload_n 0, 1) := by decide +kernel
theorem dX9_thing_135 : decode cX9_thing 135 = .ok (.getfield 159, 3) := by decide +kernel
theorem dX9_thing_138 : decode cX9_thing 138 = .ok (.iload 4, 2) := by decide +kernel
theorem dX9_thing_140 : decode cX9_thing 140 = .ok (.iastore, 1) := by decide +kernel
theorem dX9_thing_141 : decode cX9_thing 141 = .ok (.aload_n 0, 1) := by decide +kernel
theorem dX9_thing_142 : decode cX9_thing 142 = .ok (.getfield 59, 3) := by decide +kernel
theorem dX9_thing_145 : decode cX9_thing 145 = .ok (.aload_n 0, 1) := by decide +kernel
theorem dX9_thing_146 : decode cX9_thing 146 = .ok (.getfield 159, 3) := by decide +kernel
