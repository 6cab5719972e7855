theorem dX8_suspects_8 : decode cX8_suspects 8 = .ok (.aload_n 0, 1) := by decide +kernel
theorem dX8_suspects_9 : decode cX8_suspects 9 = .ok (.getfield 17, 3) := by decide +kernel
theorem dX8_suspects_12 : decode cX8_suspects 12 = .ok (.arraylength, 1) := by decide +kernel
theorem dX8_suspects_13 : decode cX8_suspects 13 = .ok (.if_icmp .ge 67, 3) := by decide +kernel
theorem dX8_suspects_16 : decode cX8_suspects 16 = .ok (.aload_n 0, 1) := by decide +kernel
theorem dX8_suspects_17 : decode cX8_suspects 17 = .ok (.getfield 17, 3) := by decide +kernel
theorem dX8_suspects_20 : decode cX8_suspects 20 = .ok (.iload 5, 2) := by decide +kernel
theorem dX8_suspects_22 : decode cX8_suspects 22 = .ok (.aaload, 1) := by decide +kernel
theorem dX8_suspects_23 : decode cX8_suspects 23 = .ok (.astore 6, 2) := by decide +kernel
theorem dX8_suspects_25 : decode cX8_suspects 25 = .ok (.aload 6, 2) := by decide +kernel
theorem dX8_suspects_27 : decode cX8_suspects 27 = .ok (.ifnull 47, 3) := by decide +kernel
theorem dX8_suspects_30 : decode cX8_suspects 30 = .ok (.aload 6, 2) := by decide +kernel
theorem dX8_suspects_32 : decode cX8_suspects 32 = .ok (.getfield 161, 3) := by decide +kernel
theorem dX8_suspects_35 : decode cX8_suspects 35 = .ok (.aload_n 1, 1) := by decide +kernel
theorem dX8_suspects_36 : decode cX8_suspects 36 = .ok (.if_acmp .ne 38, 3) := by decide +kernel
theorem dX8_suspects_39 : decode cX8_suspects 39 = .ok (.aload 6, 2) := by decide +kernel
theorem dX8_suspects_41 : decode cX8_suspects 41 = .ok (.getfield 175, 3) := by decide +kernel
theorem dX8_suspects_44 : decode cX8_suspects 44 = .ok (.ifCond .eq 30, 3) := by decide +kernel
theorem dX8_suspects_47 : decode cX8_suspects 47 = .ok (.iload_n 2, 1) := by decide +kernel
theorem dX8_suspects_48 : decode cX8_suspects 48 = .ok (.iload_n 3, 1) := by decide +kernel
theorem dX8_suspects_49 : decode cX8_suspects 49 = .ok (.aload 6, 2) := by decide +kernel
theorem dX8_suspects_51 : decode cX8_suspects 51 = .ok (.getfield 457, 3) := by decide +kernel
theorem dX8_suspects_54 : decode cX8_suspects 54 = .ok (.aload 6, 2) := by decide +kernel
theorem dX8_suspects_56 : decode cX8_suspects 56 = .ok (.getfield 460, 3) := by decide +kernel
theorem dX8_suspects_59 : decode cX8_suspects 59 = .ok (.invokestatic 463, 3) := by decide +kernel
theorem dX8_suspects_62 : decode cX8_suspects 62 = .ok (.ifCond .eq 12, 3) := by decide +kernel
theorem dX8_suspects_65 : decode cX8_suspects 65 = .ok (.iload 4, 2) := by decide +kernel
theorem dX8_suspects_67 : decode cX8_suspects 67 = .ok (.iconst 1, 1) := by decide +kernel
theorem dX8_suspects_68 : decode cX8_suspects 68 = .ok (.iload 5, 2) := by decide +kernel
theorem dX8_suspects_70 : decode cX8_suspects 70 = .ok (.ishl, 1) := by decide +kernel
theorem dX8_suspects_71 : decode cX8_suspects 71 = .ok (.ior, 1) := by decide +kernel
theorem dX8_suspects_72 : decode cX8_suspects 72 = .ok (.istore 4, 2) := by decide +kernel
theorem dX8_suspects_74 : decode cX8_suspects 74 = .ok (.iinc 5 1, 3) := by decide +kernel
theorem dX8_suspects_77 : decode cX8_suspects 77 = .ok (.goto (-71), 3) := by decide +kernel
theorem dX8_suspects_80 : decode cX8_suspects 80 = .ok (.iload 4, 2) := by decide +kernel
theorem dX8_suspects_82 : decode cX8_suspects 82 = .ok (.ireturn, 1) := by decide +kernel
theorem dX8_isSuspect_0 : decode cX8_isSuspect 0 = .ok (.aload_n 0, 1) := by decide +kernel
theorem dX8_isSuspect_1 : decode cX8_isSuspect 1 = .ok (.aload_n 1, 1) := by decide +kernel
theorem dX8_isSuspect_2 : decode cX8_isSuspect 2 = .ok (.iload_n 2, 1) := by decide +kernel
theorem dX8_isSuspect_3 : decode cX8_isSuspect 3 = .ok (.iload_n 2, 1) := by decide +kernel
theorem dX8_isSuspect_4 : decode cX8_isSuspect 4 = .ok (.invokevirtual 417, 3) := by decide +kernel
theorem dX8_isSuspect_7 : decode cX8_isSuspect 7 = .ok (.ifCond .eq 7, 3) := by decide +kernel
theorem dX8_isSuspect_10 : decode cX8_isSuspect 10 = .ok (.iconst 1, 1) := by decide +kernel
theorem dX8_isSuspect_11 : decode cX8_isSuspect 11 = .ok (.goto 4, 3) := by decide +kernel
theorem dX8_isSuspect_14 : decode cX8_isSuspect 14 = .ok (.iconst 0, 1) := by decide +kernel
theorem dX8_isSuspect_15 : decode cX8_isSuspect 15 = .ok (.ireturn, 1) := by decide +kernel
theorem dX8_strikeThings_0 : decode cX8_strikeThings 0 = .ok (.iconst 0, 1) := by decide +kernel
theorem dX8_strikeThings_1 : decode cX8_strikeThings 1 = .ok (.istore_n 3, 1) := by decide +kernel
theorem dX8_strikeThings_2 : decode cX8_strikeThings 2 = .ok (.iconst 0, 1) := by decide +kernel
theorem dX8_strikeThings_3 : decode cX8_strikeThings 3 = .ok (.istore 4, 2) := by decide +kernel
theorem dX8_strikeThings_5 : decode cX8_strikeThings 5 = .ok (.iload 4, 2) := by decide +kernel
theorem dX8_strikeThings_7 : decode cX8_strikeThings 7 = .ok (.aload_n 0, 1) := by decide +kernel
theorem dX8_strikeThings_8 : decode cX8_strikeThings 8 = .ok (.getfield 17, 3) := by decide +kernel
theorem dX8_strikeThings_11 : decode cX8_strikeThings 11 = .ok (.arraylength, 1) := by decide +kernel
theorem dX8_strikeThings_12 : decode cX8_strikeThings 12 = .ok (.if_icmp .ge 67, 3) := by decide +kernel
theorem dX8_strikeThings_15 : decode cX8_strikeThings 15 = .ok (.aload_n 0, 1) := by decide +kernel
theorem dX8_strikeThings_16 : decode cX8_strikeThings 16 = .ok (.getfield 17, 3) := by decide +kernel
theorem dX8_strikeThings_19 : decode cX8_strikeThings 19 = .ok (.iload 4, 2) := by decide +kernel
theorem dX8_strikeThings_21 : decode cX8_strikeThings 21 = .ok (.aaload, 1) := by decide +kernel
theorem dX8_strikeThings_22 : decode cX8_strikeThings 22 = .ok (.astore 5, 2) := by decide +kernel
theorem dX8_strikeThings_24 : decode cX8_strikeThings 24 = .ok (.aload 5, 2) := by decide +kernel
theorem dX8_strikeThings_26 : decode cX8_strikeThings 26 = .ok (.ifnull 47, 3) := by decide +kernel
theorem dX8_strikeThings_29 : decode cX8_strikeThings 29 = .ok (.aload 5, 2) := by decide +kernel
theorem dX8_strikeThings_31 : decode cX8_strikeThings 31 = .ok (.aload_n 1, 1) := by decide +kernel
theorem dX8_strikeThings_32 : decode cX8_strikeThings 32 = .ok (.getfield 114, 3) := by decide +kernel
theorem dX8_strikeThings_35 : decode cX8_strikeThings 35 = .ok (.iload_n 2, 1) := by decide +kernel
theorem dX8_strikeThings_36 : decode cX8_strikeThings 36 = .ok (.invokevirtual 191, 3) := by decide +kernel
theorem dX8_strikeThings_39 : decode cX8_strikeThings 39 = .ok (.ifCond .eq 34, 3) := by decide +kernel
theorem dX8_strikeThings_42 : decode cX8_strikeThings 42 = .ok (.aload 5, 2) := by decide +kernel
theorem dX8_strikeThings_44 : decode cX8_strikeThings 44 = .ok (.getfield 467, 3) := by decide +kernel
theorem dX8_strikeThings_47 : decode cX8_strikeThings 47 = .ok (.aload_n 1, 1) := by decide +kernel
theorem dX8_strikeThings_48 : decode cX8_strikeThings 48 = .ok (.getfield 398, 3) := by decide +kernel
theorem dX8_strikeThings_51 : decode cX8_strikeThings 51 = .ok (.if_icmp .gt 22, 3) := by decide +kernel
theorem dX8_strikeThings_54 : decode cX8_strikeThings 54 = .ok (.aload_n 0, 1) := by decide +kernel
theorem dX8_strikeThings_55 : decode cX8_strikeThings 55 = .ok (.aload_n 1, 1) := by decide +kernel
theorem dX8_strikeThings_56 : decode cX8_strikeThings 56 = .ok (.getfield 319, 3) := by decide +kernel
theorem dX8_strikeThings_59 : decode cX8_strikeThings 59 = .ok (.aload 5, 2) := by decide +kernel
theorem dX8_strikeThings_61 : decode cX8_strikeThings 61 = .ok (.getfield 468, 3) := by decide +kernel
theorem dX8_strikeThings_64 : decode cX8_strikeThings 64 = .ok (.sipush 1000, 3) := by decide +kernel
theorem dX8_strikeThings_67 : decode cX8_strikeThings 67 = .ok (.invokevirtual 366, 3) := by decide +kernel
theorem dX8_strikeThings_70 : decode cX8_strikeThings 70 = .ok (.iinc 3 1, 3) := by decide +kernel
theorem dX8_strikeThings_73 : decode cX8_strikeThings 73 = .ok (.iinc 4 1, 3) := by decide +kernel
theorem dX8_strikeThings_76 : decode cX8_strikeThings 76 = .ok (.goto (-71), 3) := by decide +kernel
theorem dX8_strikeThings_79 : decode cX8_strikeThings 79 = .ok (.aload_n 1, 1) := by decide +kernel
theorem dX8_strikeThings_80 : decode cX8_strikeThings 80 = .ok (.dup, 1) := by decide +kernel
theorem dX8_strikeThings_81 : decode cX8_strikeThings 81 = .ok (.getfield 328, 3) := by decide +kernel
theorem dX8_strikeThings_84 : decode cX8_strikeThings 84 = .ok (.iload_n 3, 1) := by decide +kernel
theorem dX8_strikeThings_85 : decode cX8_strikeThings 85 = .ok (.iadd, 1) := by decide +kernel
theorem dX8_strikeThings_86 : decode cX8_strikeThings 86 = .ok (.putfield 328, 3) := by decide +kernel
theorem dX8_strikeThings_89 : decode cX8_strikeThings 89 = .ok (.iload_n 3, 1) := by decide +kernel
theorem dX8_strikeThings_90 : decode cX8_strikeThings 90 = .ok (.ireturn, 1) := by decide +kernel
theorem dX8_permit_0 : decode cX8_permit 0 = .ok (.aload_n 1, 1) := by decide +kernel
theorem dX8_permit_1 : decode cX8_permit 1 = .ok (.iconst 1, 1) := by decide +kernel
theorem dX8_permit_2 : decode cX8_permit 2 = .ok (.putfield 118, 3) := by decide +kernel
theorem dX8_permit_5 : decode cX8_permit 5 = .ok (.aload_n 1, 1) := by decide +kernel
theorem dX8_permit_6 : decode cX8_permit 6 = .ok (.iload_n 2, 1) := by decide +kernel
theorem dX8_permit_7 : decode cX8_permit 7 = .ok (.putfield 249, 3) := by decide +kernel
theorem dX8_permit_10 : decode cX8_permit 10 = .ok (.aload_n 0, 1) := by decide +kernel
theorem dX8_permit_11 : decode cX8_permit 11 = .ok (.aload_n 1, 1) := by decide +kernel
theorem dX8_permit_12 : decode cX8_permit 12 = .ok (.getfield 319, 3) := by decide +kernel
theorem dX8_permit_15 : decode cX8_permit 15 = .ok (.iconst 5, 1) := by decide +kernel
theorem dX8_permit_16 : decode cX8_permit 16 = .ok (.aload_n 1, 1) := by decide +kernel
theorem dX8_permit_17 : decode cX8_permit 17 = .ok (.invokevirtual 239, 3) := by decide +kernel
theorem dX8_permit_20 : decode cX8_permit 20 = .ok (.invokevirtual 366, 3) := by decide +kernel
theorem dX8_permit_23 : decode cX8_permit 23 = .ok (.return_, 1) := by decide +kernel
theorem dX8_whatBars_0 : decode cX8_whatBars 0 = .ok (.aload_n 1, 1) := by decide +kernel
theorem dX8_whatBars_1 : decode cX8_whatBars 1 = .ok (.getfield 471, 3) := by decide +kernel
theorem dX8_whatBars_4 : decode cX8_whatBars 4 = .ok (.iconst 3, 1) := by decide +kernel
theorem dX8_whatBars_5 : decode cX8_whatBars 5 = .ok (.if_icmp .ne 5, 3) := by decide +kernel
theorem dX8_whatBars_8 : decode cX8_whatBars 8 = .ok (.iconst 0, 1) := by decide +kernel
theorem dX8_whatBars_9 : decode cX8_whatBars 9 = .ok (.ireturn, 1) := by decide +kernel
theorem dX8_whatBars_10 : decode cX8_whatBars 10 = .ok (.aload_n 1, 1) := by decide +kernel
theorem dX8_whatBars_11 : decode cX8_whatBars 11 = .ok (.aload_n 0, 1) := by decide +kernel
theorem dX8_whatBars_12 : decode cX8_whatBars 12 = .ok (.invokevirtual 84, 3) := by decide +kernel
theorem dX8_whatBars_15 : decode cX8_whatBars 15 = .ok (.invokevirtual 347, 3) := by decide +kernel
theorem dX8_whatBars_18 : decode cX8_whatBars 18 = .ok (.istore_n 2, 1) := by decide +kernel
theorem dX8_whatBars_19 : decode cX8_whatBars 19 = .ok (.aload_n 1, 1) := by decide +kernel
theorem dX8_whatBars_20 : decode cX8_whatBars 20 = .ok (.getfield 114, 3) := by decide +kernel
theorem dX8_whatBars_23 : decode cX8_whatBars 23 = .ok (.aload_n 1, 1) := by decide +kernel
theorem dX8_whatBars_24 : decode cX8_whatBars 24 = .ok (.getfield 121, 3) := by decide +kernel
theorem dX8_whatBars_27 : decode cX8_whatBars 27 = .ok (.iload_n 2, 1) := by decide +kernel
theorem dX8_whatBars_28 : decode cX8_whatBars 28 = .ok (.invokevirtual 127, 3) := by decide +kernel
theorem dX8_whatBars_31 : decode cX8_whatBars 31 = .ok (.ifCond .eq 5, 3) := by decide +kernel
theorem dX8_whatBars_34 : decode cX8_whatBars 34 = .ok (.iconst 1, 1) := by decide +kernel
theorem dX8_whatBars_35 : decode cX8_whatBars 35 = .ok (.ireturn, 1) := by decide +kernel
theorem dX8_whatBars_36 : decode cX8_whatBars 36 = .ok (.aload_n 1, 1) := by decide +kernel
theorem dX8_whatBars_37 : decode cX8_whatBars 37 = .ok (.getfield 255, 3) := by decide +kernel
theorem dX8_whatBars_40 : decode cX8_whatBars 40 = .ok (.ifCond .ne 20, 3) := by decide +kernel
theorem dX8_whatBars_43 : decode cX8_whatBars 43 = .ok (.aload_n 1, 1) := by decide +kernel
theorem dX8_whatBars_44 : decode cX8_whatBars 44 = .ok (.getfield 114, 3) := by decide +kernel
theorem dX8_whatBars_47 : decode cX8_whatBars 47 = .ok (.aload_n 1, 1) := by decide +kernel
theorem dX8_whatBars_48 : decode cX8_whatBars 48 = .ok (.getfield 121, 3) := by decide +kernel
theorem dX8_whatBars_51 : decode cX8_whatBars 51 = .ok (.iload_n 2, 1) := by decide +kernel
theorem dX8_whatBars_52 : decode cX8_whatBars 52 = .ok (.invokevirtual 474, 3) := by decide +kernel
theorem dX8_whatBars_55 : decode cX8_whatBars 55 = .ok (.ifCond .eq 5, 3) := by decide +kernel
theorem dX8_whatBars_58 : decode cX8_whatBars 58 = .ok (.iconst 2, 1) := by decide +kernel
theorem dX8_whatBars_59 : decode cX8_whatBars 59 = .ok (.ireturn, 1) := by decide +kernel
theorem dX8_whatBars_60 : decode cX8_whatBars 60 = .ok (.aload_n 0, 1) := by decide +kernel
theorem dX8_whatBars_61 : decode cX8_whatBars 61 = .ok (.aload_n 1, 1) := by decide +kernel
theorem dX8_whatBars_62 : decode cX8_whatBars 62 = .ok (.iload_n 2, 1) := by decide +kernel
theorem dX8_whatBars_63 : decode cX8_whatBars 63 = .ok (.iconst 0, 1) := by decide +kernel
theorem dX8_whatBars_64 : decode cX8_whatBars 64 = .ok (.iconst 1, 1) := by decide +kernel
theorem dX8_whatBars_65 : decode cX8_whatBars 65 = .ok (.invokevirtual 339, 3) := by decide +kernel
theorem dX8_whatBars_68 : decode cX8_whatBars 68 = .ok (.iconst (-1), 1) := by decide +kernel
theorem dX8_whatBars_69 : decode cX8_whatBars 69 = .ok (.if_icmp .ne 7, 3) := by decide +kernel
theorem dX8_whatBars_72 : decode cX8_whatBars 72 = .ok (.iconst 0, 1) := by decide +kernel
theorem dX8_whatBars_73 : decode cX8_whatBars 73 = .ok (.goto 4, 3) := by decide +kernel
theorem dX8_whatBars_76 : decode cX8_whatBars 76 = .ok (.iconst 3, 1) := by decide +kernel
theorem dX8_whatBars_77 : decode cX8_whatBars 77 = .ok (.ireturn, 1) := by decide +kernel
theorem dX8_firstMet_0 : decode cX8_firstMet 0 = .ok (.iload_n 3, 1) := by decide +kernel
theorem dX8_firstMet_1 : decode cX8_firstMet 1 = .ok (.istore 5, 2) := by decide +kernel
theorem dX8_firstMet_3 : decode cX8_firstMet 3 = .ok (.iload 5, 2) := by decide +kernel
theorem dX8_firstMet_5 : decode cX8_firstMet 5 = .ok (.aload_n 0, 1) := by decide +kernel
theorem dX8_firstMet_6 : decode cX8_firstMet 6 = .ok (.getfield 23, 3) := by decide +kernel
theorem dX8_firstMet_9 : decode cX8_firstMet 9 = .ok (.arraylength, 1) := by decide +kernel
theorem dX8_firstMet_10 : decode cX8_firstMet 10 = .ok (.if_icmp .ge 99, 3) := by decide +kernel
theorem dX8_firstMet_13 : decode cX8_firstMet 13 = .ok (.aload_n 0, 1) := by decide +kernel
theorem dX8_firstMet_14 : decode cX8_firstMet 14 = .ok (.iload 5, 2) := by decide +kernel
theorem dX8_firstMet_16 : decode cX8_firstMet 16 = .ok (.invokevirtual 221, 3) := by decide +kernel
theorem dX8_firstMet_19 : decode cX8_firstMet 19 = .ok (.astore 6, 2) := by decide +kernel
theorem dX8_firstMet_21 : decode cX8_firstMet 21 = .ok (.aload 6, 2) := by decide +kernel
theorem dX8_firstMet_23 : decode cX8_firstMet 23 = .ok (.ifnull 80, 3) := by decide +kernel
theorem dX8_firstMet_26 : decode cX8_firstMet 26 = .ok (.aload 6, 2) := by decide +kernel
theorem dX8_firstMet_28 : decode cX8_firstMet 28 = .ok (.aload_n 1, 1) := by decide +kernel
theorem dX8_firstMet_29 : decode cX8_firstMet 29 = .ok (.if_acmp .eq 74, 3) := by decide +kernel
theorem dX8_firstMet_32 : decode cX8_firstMet 32 = .ok (.iload 4, 2) := by decide +kernel
theorem dX8_firstMet_34 : decode cX8_firstMet 34 = .ok (.ifCond .eq 14, 3) := by decide +kernel
theorem dX8_firstMet_37 : decode cX8_firstMet 37 = .ok (.aload 6, 2) := by decide +kernel
theorem dX8_firstMet_39 : decode cX8_firstMet 39 = .ok (.invokevirtual 244, 3) := by decide +kernel
theorem dX8_firstMet_42 : decode cX8_firstMet 42 = .ok (.ifCond .ne 6, 3) := by decide +kernel
theorem dX8_firstMet_45 : decode cX8_firstMet 45 = .ok (.goto 58, 3) := by decide +kernel
theorem dX8_firstMet_48 : decode cX8_firstMet 48 = .ok (.aload_n 1, 1) := by decide +kernel
theorem dX8_firstMet_49 : decode cX8_firstMet 49 = .ok (.aload 6, 2) := by decide +kernel
theorem dX8_firstMet_51 : decode cX8_firstMet 51 = .ok (.invokestatic 477, 3) := by decide +kernel
theorem dX8_firstMet_54 : decode cX8_firstMet 54 = .ok (.ifCond .eq 49, 3) := by decide +kernel
theorem dX8_firstMet_57 : decode cX8_firstMet 57 = .ok (.aload_n 1, 1) := by decide +kernel
theorem dX8_firstMet_58 : decode cX8_firstMet 58 = .ok (.getfield 121, 3) := by decide +kernel
theorem dX8_firstMet_61 : decode cX8_firstMet 61 = .ok (.iload_n 2, 1) := by decide +kernel
theorem dX8_firstMet_62 : decode cX8_firstMet 62 = .ok (.aload 6, 2) := by decide +kernel
theorem dX8_firstMet_64 : decode cX8_firstMet 64 = .ok (.getfield 121, 3) := by decide +kernel
theorem dX8_firstMet_67 : decode cX8_firstMet 67 = .ok (.aload 6, 2) := by decide +kernel
theorem dX8_firstMet_69 : decode cX8_firstMet 69 = .ok (.aload_n 0, 1) := by decide +kernel
theorem dX8_firstMet_70 : decode cX8_firstMet 70 = .ok (.invokevirtual 84, 3) := by decide +kernel
theorem dX8_firstMet_73 : decode cX8_firstMet 73 = .ok (.invokevirtual 347, 3) := by decide +kernel
theorem dX8_firstMet_76 : decode cX8_firstMet 76 = .ok (.invokestatic 463, 3) := by decide +kernel
theorem dX8_firstMet_79 : decode cX8_firstMet 79 = .ok (.ifCond .eq 24, 3) := by decide +kernel
theorem dX8_firstMet_82 : decode cX8_firstMet 82 = .ok (.aload_n 1, 1) := by decide +kernel
theorem dX8_firstMet_83 : decode cX8_firstMet 83 = .ok (.aload 6, 2) := by decide +kernel
theorem dX8_firstMet_85 : decode cX8_firstMet 85 = .ok (.invokevirtual 266, 3) := by decide +kernel
theorem dX8_firstMet_88 : decode cX8_firstMet 88 = .ok (.ifCond .ne 15, 3) := by decide +kernel
theorem dX8_firstMet_91 : decode cX8_firstMet 91 = .ok (.aload_n 1, 1) := by decide +kernel
theorem dX8_firstMet_92 : decode cX8_firstMet 92 = .ok (.aload 6, 2) := by decide +kernel
theorem dX8_firstMet_94 : decode cX8_firstMet 94 = .ok (.invokestatic 481, 3) := by decide +kernel
theorem dX8_firstMet_97 : decode cX8_firstMet 97 = .ok (.ifCond .eq 6, 3) := by decide +kernel
theorem dX8_firstMet_100 : decode cX8_firstMet 100 = .ok (.iload 5, 2) := by decide +kernel
theorem dX8_firstMet_102 : decode cX8_firstMet 102 = .ok (.ireturn, 1) := by decide +kernel
theorem dX8_firstMet_103 : decode cX8_firstMet 103 = .ok (.iinc 5 1, 3) := by decide +kernel
theorem dX8_firstMet_106 : decode cX8_firstMet 106 = .ok (.goto (-103), 3) := by decide +kernel
theorem dX8_firstMet_109 : decode cX8_firstMet 109 = .ok (.iconst (-1), 1) := by decide +kernel
theorem dX8_firstMet_110 : decode cX8_firstMet 110 = .ok (.ireturn, 1) := by decide +kernel
theorem dX8_goOneHour_0 : decode cX8_goOneHour 0 = .ok (.aload_n 0, 1) := by decide +kernel
theorem dX8_goOneHour_1 : decode cX8_goOneHour 1 = .ok (.dup, 1) := by decide +kernel
theorem dX8_goOneHour_2 : decode cX8_goOneHour 2 = .ok (.getfield 352, 3) := by decide +kernel
theorem dX8_goOneHour_5 : decode cX8_goOneHour 5 = .ok (.iconst 1, 1) := by decide +kernel
theorem dX8_goOneHour_6 : decode cX8_goOneHour 6 = .ok (.iadd, 1) := by decide +kernel
theorem dX8_goOneHour_7 : decode cX8_goOneHour 7 = .ok (.putfield 352, 3) := by decide +kernel
theorem dX8_goOneHour_10 : decode cX8_goOneHour 10 = .ok (.aload_n 0, 1) := by decide +kernel
theorem dX8_goOneHour_11 : decode cX8_goOneHour 11 = .ok (.getfield 352, 3) := by decide +kernel
theorem dX8_goOneHour_14 : decode cX8_goOneHour 14 = .ok (.bipush 24, 2) := by decide +kernel
theorem dX8_goOneHour_16 : decode cX8_goOneHour 16 = .ok (.irem, 1) := by decide +kernel
theorem dX8_goOneHour_17 : decode cX8_goOneHour 17 = .ok (.ifCond .ne 11, 3) := by decide +kernel
theorem dX8_goOneHour_20 : decode cX8_goOneHour 20 = .ok (.aload_n 0, 1) := by decide +kernel
theorem dX8_goOneHour_21 : decode cX8_goOneHour 21 = .ok (.invokevirtual 484, 3) := by decide +kernel
theorem dX8_goOneHour_24 : decode cX8_goOneHour 24 = .ok (.aload_n 0, 1) := by decide +kernel
theorem dX8_goOneHour_25 : decode cX8_goOneHour 25 = .ok (.invokevirtual 487, 3) := by decide +kernel
theorem dX8_goOneHour_28 : decode cX8_goOneHour 28 = .ok (.aload_n 0, 1) := by decide +kernel
theorem dX8_goOneHour_29 : decode cX8_goOneHour 29 = .ok (.invokevirtual 490, 3) := by decide +kernel
theorem dX8_goOneHour_32 : decode cX8_goOneHour 32 = .ok (.aload_n 0, 1) := by decide +kernel
theorem dX8_goOneHour_33 : decode cX8_goOneHour 33 = .ok (.invokevirtual 283, 3) := by decide +kernel
theorem dX8_goOneHour_36 : decode cX8_goOneHour 36 = .ok (.ifCond .eq 7, 3) := by decide +kernel
theorem dX8_goOneHour_39 : decode cX8_goOneHour 39 = .ok (.aload_n 0, 1) := by decide +kernel
theorem dX8_goOneHour_40 : decode cX8_goOneHour 40 = .ok (.invokevirtual 493, 3) := by decide +kernel
theorem dX8_goOneHour_43 : decode cX8_goOneHour 43 = .ok (.aload_n 0, 1) := by decide +kernel
theorem dX8_goOneHour_44 : decode cX8_goOneHour 44 = .ok (.invokevirtual 496, 3) := by decide +kernel
theorem dX8_goOneHour_47 : decode cX8_goOneHour 47 = .ok (.return_, 1) := by decide +kernel
theorem dX8_settleAsked_0 : decode cX8_settleAsked 0 = .ok (.iconst 0, 1) := by decide +kernel
theorem dX8_settleAsked_1 : decode cX8_settleAsked 1 = .ok (.istore_n 1, 1) := by decide +kernel
theorem dX8_settleAsked_2 : decode cX8_settleAsked 2 = .ok (.iload_n 1, 1) := by decide +kernel
theorem dX8_settleAsked_3 : decode cX8_settleAsked 3 = .ok (.aload_n 0, 1) := by decide +kernel
theorem dX8_settleAsked_4 : decode cX8_settleAsked 4 = .ok (.getfield 23, 3) := by decide +kernel
theorem dX8_settleAsked_7 : decode cX8_settleAsked 7 = .ok (.arraylength, 1) := by decide +kernel
theorem dX8_settleAsked_8 : decode cX8_settleAsked 8 = .ok (.if_icmp .ge 60, 3) := by decide +kernel
theorem dX8_settleAsked_11 : decode cX8_settleAsked 11 = .ok (.aload_n 0, 1) := by decide +kernel
theorem dX8_settleAsked_12 : decode cX8_settleAsked 12 = .ok (.getfield 23, 3) := by decide +kernel
theorem dX8_settleAsked_15 : decode cX8_settleAsked 15 = .ok (.iload_n 1, 1) := by decide +kernel
theorem dX8_settleAsked_16 : decode cX8_settleAsked 16 = .ok (.aaload, 1) := by decide +kernel
theorem dX8_settleAsked_17 : decode cX8_settleAsked 17 = .ok (.astore_n 2, 1) := by decide +kernel
theorem dX8_settleAsked_18 : decode cX8_settleAsked 18 = .ok (.aload_n 2, 1) := by decide +kernel
theorem dX8_settleAsked_19 : decode cX8_settleAsked 19 = .ok (.ifnull 43, 3) := by decide +kernel
theorem dX8_settleAsked_22 : decode cX8_settleAsked 22 = .ok (.aload_n 2, 1) := by decide +kernel
theorem dX8_settleAsked_23 : decode cX8_settleAsked 23 = .ok (.getfield 118, 3) := by decide +kernel
theorem dX8_settleAsked_26 : decode cX8_settleAsked 26 = .ok (.ifCond .ne 36, 3) := by decide +kernel
theorem dX8_settleAsked_29 : decode cX8_settleAsked 29 = .ok (.aload_n 2, 1) := by decide +kernel
theorem dX8_settleAsked_30 : decode cX8_settleAsked 30 = .ok (.invokevirtual 499, 3) := by decide +kernel
theorem dX8_settleAsked_33 : decode cX8_settleAsked 33 = .ok (.aload_n 0, 1) := by decide +kernel
theorem dX8_settleAsked_34 : decode cX8_settleAsked 34 = .ok (.invokevirtual 84, 3) := by decide +kernel
theorem dX8_settleAsked_37 : decode cX8_settleAsked 37 = .ok (.if_icmp .ne 25, 3) := by decide +kernel
theorem dX8_settleAsked_40 : decode cX8_settleAsked 40 = .ok (.aload_n 0, 1) := by decide +kernel
theorem dX8_settleAsked_41 : decode cX8_settleAsked 41 = .ok (.aload_n 2, 1) := by decide +kernel
theorem dX8_settleAsked_42 : decode cX8_settleAsked 42 = .ok (.invokevirtual 229, 3) := by decide +kernel
theorem dX8_settleAsked_45 : decode cX8_settleAsked 45 = .ok (.ifCond .ne 12, 3) := by decide +kernel
theorem dX8_settleAsked_48 : decode cX8_settleAsked 48 = .ok (.aload_n 0, 1) := by decide +kernel
theorem dX8_settleAsked_49 : decode cX8_settleAsked 49 = .ok (.aload_n 2, 1) := by decide +kernel
theorem dX8_settleAsked_50 : decode cX8_settleAsked 50 = .ok (.iconst 0, 1) := by decide +kernel
theorem dX8_settleAsked_51 : decode cX8_settleAsked 51 = .ok (.invokevirtual 235, 3) := by decide +kernel
theorem dX8_settleAsked_54 : decode cX8_settleAsked 54 = .ok (.goto 8, 3) := by decide +kernel
theorem dX8_settleAsked_57 : decode cX8_settleAsked 57 = .ok (.aload_n 2, 1) := by decide +kernel
theorem dX8_settleAsked_58 : decode cX8_settleAsked 58 = .ok (.iconst 2, 1) := by decide +kernel
theorem dX8_settleAsked_59 : decode cX8_settleAsked 59 = .ok (.putfield 118, 3) := by decide +kernel
theorem dX8_settleAsked_62 : decode cX8_settleAsked 62 = .ok (.iinc 1 1, 3) := by decide +kernel
theorem dX8_settleAsked_65 : decode cX8_settleAsked 65 = .ok (.goto (-63), 3) := by decide +kernel
theorem dX8_settleAsked_68 : decode cX8_settleAsked 68 = .ok (.return_, 1) := by decide +kernel
theorem dX8_fineLate_0 : decode cX8_fineLate 0 = .ok (.iconst 0, 1) := by decide +kernel
theorem dX8_fineLate_1 : decode cX8_fineLate 1 = .ok (.istore_n 1, 1) := by decide +kernel
theorem dX8_fineLate_2 : decode cX8_fineLate 2 = .ok (.iload_n 1, 1) := by decide +kernel
theorem dX8_fineLate_3 : decode cX8_fineLate 3 = .ok (.aload_n 0, 1) := by decide +kernel
theorem dX8_fineLate_4 : decode cX8_fineLate 4 = .ok (.getfield 23, 3) := by decide +kernel
theorem dX8_fineLate_7 : decode cX8_fineLate 7 = .ok (.arraylength, 1) := by decide +kernel
theorem dX8_fineLate_8 : decode cX8_fineLate 8 = .ok (.if_icmp .ge 59, 3) := by decide +kernel
theorem dX8_fineLate_11 : decode cX8_fineLate 11 = .ok (.aload_n 0, 1) := by decide +kernel
theorem dX8_fineLate_12 : decode cX8_fineLate 12 = .ok (.getfield 23, 3) := by decide +kernel
theorem dX8_fineLate_15 : decode cX8_fineLate 15 = .ok (.iload_n 1, 1) := by decide +kernel
theorem dX8_fineLate_16 : decode cX8_fineLate 16 = .ok (.aaload, 1) := by decide +kernel
theorem dX8_fineLate_17 : decode cX8_fineLate 17 = .ok (.astore_n 2, 1) := by decide +kernel
theorem dX8_fineLate_18 : decode cX8_fineLate 18 = .ok (.aload_n 2, 1) := by decide +kernel
theorem dX8_fineLate_19 : decode cX8_fineLate 19 = .ok (.ifnull 42, 3) := by decide +kernel
theorem dX8_fineLate_22 : decode cX8_fineLate 22 = .ok (.aload_n 2, 1) := by decide +kernel
theorem dX8_fineLate_23 : decode cX8_fineLate 23 = .ok (.getfield 118, 3) := by decide +kernel
theorem dX8_fineLate_26 : decode cX8_fineLate 26 = .ok (.iconst 3, 1) := by decide +kernel
theorem dX8_fineLate_27 : decode cX8_fineLate 27 = .ok (.if_icmp .ne 34, 3) := by decide +kernel
theorem dX8_fineLate_30 : decode cX8_fineLate 30 = .ok (.aload_n 2, 1) := by decide +kernel
theorem dX8_fineLate_31 : decode cX8_fineLate 31 = .ok (.getfield 124, 3) := by decide +kernel
theorem dX8_fineLate_34 : decode cX8_fineLate 34 = .ok (.aload_n 0, 1) := by decide +kernel
