theorem dX9_lastOf_40 : decode cX9_lastOf 40 = .ok (.iload_n 1, 1) := by decide +kernel
theorem dX9_lastOf_41 : decode cX9_lastOf 41 = .ok (.invokevirtual 208, 3) := by decide +kernel
theorem dX9_lastOf_44 : decode cX9_lastOf 44 = .ok (.ireturn, 1) := by decide +kernel
theorem dX9_hasDay_0 : decode cX9_hasDay 0 = .ok (.aload_n 0, 1) := by decide +kernel
theorem dX9_hasDay_1 : decode cX9_hasDay 1 = .ok (.getfield 89, 3) := by decide +kernel
theorem dX9_hasDay_4 : decode cX9_hasDay 4 = .ok (.iload_n 1, 1) := by decide +kernel
theorem dX9_hasDay_5 : decode cX9_hasDay 5 = .ok (.iaload, 1) := by decide +kernel
theorem dX9_hasDay_6 : decode cX9_hasDay 6 = .ok (.iload_n 3, 1) := by decide +kernel
theorem dX9_hasDay_7 : decode cX9_hasDay 7 = .ok (.if_icmp .gt 16, 3) := by decide +kernel
theorem dX9_hasDay_10 : decode cX9_hasDay 10 = .ok (.iload_n 2, 1) := by decide +kernel
theorem dX9_hasDay_11 : decode cX9_hasDay 11 = .ok (.aload_n 0, 1) := by decide +kernel
theorem dX9_hasDay_12 : decode cX9_hasDay 12 = .ok (.iload_n 1, 1) := by decide +kernel
theorem dX9_hasDay_13 : decode cX9_hasDay 13 = .ok (.invokevirtual 211, 3) := by decide +kernel
theorem dX9_hasDay_16 : decode cX9_hasDay 16 = .ok (.if_icmp .gt 7, 3) := by decide +kernel
theorem dX9_hasDay_19 : decode cX9_hasDay 19 = .ok (.iconst 1, 1) := by decide +kernel
theorem dX9_hasDay_20 : decode cX9_hasDay 20 = .ok (.goto 4, 3) := by decide +kernel
theorem dX9_hasDay_23 : decode cX9_hasDay 23 = .ok (.iconst 0, 1) := by decide +kernel
theorem dX9_hasDay_24 : decode cX9_hasDay 24 = .ok (.ireturn, 1) := by decide +kernel
theorem dX9_isOn_0 : decode cX9_isOn 0 = .ok (.aload_n 0, 1) := by decide +kernel
theorem dX9_isOn_1 : decode cX9_isOn 1 = .ok (.getfield 98, 3) := by decide +kernel
theorem dX9_isOn_4 : decode cX9_isOn 4 = .ok (.iload_n 1, 1) := by decide +kernel
theorem dX9_isOn_5 : decode cX9_isOn 5 = .ok (.iaload, 1) := by decide +kernel
theorem dX9_isOn_6 : decode cX9_isOn 6 = .ok (.iconst 1, 1) := by decide +kernel
theorem dX9_isOn_7 : decode cX9_isOn 7 = .ok (.if_icmp .eq 13, 3) := by decide +kernel
theorem dX9_isOn_10 : decode cX9_isOn 10 = .ok (.aload_n 0, 1) := by decide +kernel
theorem dX9_isOn_11 : decode cX9_isOn 11 = .ok (.getfield 98, 3) := by decide +kernel
theorem dX9_isOn_14 : decode cX9_isOn 14 = .ok (.iload_n 1, 1) := by decide +kernel
theorem dX9_isOn_15 : decode cX9_isOn 15 = .ok (.iaload, 1) := by decide +kernel
theorem dX9_isOn_16 : decode cX9_isOn 16 = .ok (.iconst 3, 1) := by decide +kernel
theorem dX9_isOn_17 : decode cX9_isOn 17 = .ok (.if_icmp .ne 7, 3) := by decide +kernel
theorem dX9_isOn_20 : decode cX9_isOn 20 = .ok (.iconst 1, 1) := by decide +kernel
theorem dX9_isOn_21 : decode cX9_isOn 21 = .ok (.goto 4, 3) := by decide +kernel
theorem dX9_isOn_24 : decode cX9_isOn 24 = .ok (.iconst 0, 1) := by decide +kernel
theorem dX9_isOn_25 : decode cX9_isOn 25 = .ok (.ireturn, 1) := by decide +kernel
theorem dX9_areNear_0 : decode cX9_areNear 0 = .ok (.aload_n 0, 1) := by decide +kernel
theorem dX9_areNear_1 : decode cX9_areNear 1 = .ok (.getfield 74, 3) := by decide +kernel
theorem dX9_areNear_4 : decode cX9_areNear 4 = .ok (.iload_n 1, 1) := by decide +kernel
theorem dX9_areNear_5 : decode cX9_areNear 5 = .ok (.iaload, 1) := by decide +kernel
theorem dX9_areNear_6 : decode cX9_areNear 6 = .ok (.istore_n 3, 1) := by decide +kernel
theorem dX9_areNear_7 : decode cX9_areNear 7 = .ok (.aload_n 0, 1) := by decide +kernel
theorem dX9_areNear_8 : decode cX9_areNear 8 = .ok (.getfield 74, 3) := by decide +kernel
theorem dX9_areNear_11 : decode cX9_areNear 11 = .ok (.iload_n 2, 1) := by decide +kernel
theorem dX9_areNear_12 : decode cX9_areNear 12 = .ok (.iaload, 1) := by decide +kernel
theorem dX9_areNear_13 : decode cX9_areNear 13 = .ok (.istore 4, 2) := by decide +kernel
theorem dX9_areNear_15 : decode cX9_areNear 15 = .ok (.aload_n 0, 1) := by decide +kernel
theorem dX9_areNear_16 : decode cX9_areNear 16 = .ok (.getfield 77, 3) := by decide +kernel
theorem dX9_areNear_19 : decode cX9_areNear 19 = .ok (.iload_n 1, 1) := by decide +kernel
theorem dX9_areNear_20 : decode cX9_areNear 20 = .ok (.iaload, 1) := by decide +kernel
theorem dX9_areNear_21 : decode cX9_areNear 21 = .ok (.aload_n 0, 1) := by decide +kernel
theorem dX9_areNear_22 : decode cX9_areNear 22 = .ok (.getfield 80, 3) := by decide +kernel
theorem dX9_areNear_25 : decode cX9_areNear 25 = .ok (.iload_n 2, 1) := by decide +kernel
theorem dX9_areNear_26 : decode cX9_areNear 26 = .ok (.iaload, 1) := by decide +kernel
theorem dX9_areNear_27 : decode cX9_areNear 27 = .ok (.isub, 1) := by decide +kernel
theorem dX9_areNear_28 : decode cX9_areNear 28 = .ok (.iconst 3, 1) := by decide +kernel
theorem dX9_areNear_29 : decode cX9_areNear 29 = .ok (.if_icmp .gt 24, 3) := by decide +kernel
theorem dX9_areNear_32 : decode cX9_areNear 32 = .ok (.aload_n 0, 1) := by decide +kernel
theorem dX9_areNear_33 : decode cX9_areNear 33 = .ok (.getfield 77, 3) := by decide +kernel
theorem dX9_areNear_36 : decode cX9_areNear 36 = .ok (.iload_n 2, 1) := by decide +kernel
theorem dX9_areNear_37 : decode cX9_areNear 37 = .ok (.iaload, 1) := by decide +kernel
theorem dX9_areNear_38 : decode cX9_areNear 38 = .ok (.aload_n 0, 1) := by decide +kernel
theorem dX9_areNear_39 : decode cX9_areNear 39 = .ok (.getfield 80, 3) := by decide +kernel
theorem dX9_areNear_42 : decode cX9_areNear 42 = .ok (.iload_n 1, 1) := by decide +kernel
theorem dX9_areNear_43 : decode cX9_areNear 43 = .ok (.iaload, 1) := by decide +kernel
theorem dX9_areNear_44 : decode cX9_areNear 44 = .ok (.isub, 1) := by decide +kernel
theorem dX9_areNear_45 : decode cX9_areNear 45 = .ok (.iconst 3, 1) := by decide +kernel
theorem dX9_areNear_46 : decode cX9_areNear 46 = .ok (.if_icmp .gt 7, 3) := by decide +kernel
theorem dX9_areNear_49 : decode cX9_areNear 49 = .ok (.iconst 1, 1) := by decide +kernel
theorem dX9_areNear_50 : decode cX9_areNear 50 = .ok (.goto 4, 3) := by decide +kernel
theorem dX9_areNear_53 : decode cX9_areNear 53 = .ok (.iconst 0, 1) := by decide +kernel
theorem dX9_areNear_54 : decode cX9_areNear 54 = .ok (.istore 5, 2) := by decide +kernel
theorem dX9_areNear_56 : decode cX9_areNear 56 = .ok (.iload_n 3, 1) := by decide +kernel
theorem dX9_areNear_57 : decode cX9_areNear 57 = .ok (.iload 4, 2) := by decide +kernel
theorem dX9_areNear_59 : decode cX9_areNear 59 = .ok (.if_icmp .ne 8, 3) := by decide +kernel
theorem dX9_areNear_62 : decode cX9_areNear 62 = .ok (.iload 5, 2) := by decide +kernel
theorem dX9_areNear_64 : decode cX9_areNear 64 = .ok (.goto 30, 3) := by decide +kernel
theorem dX9_areNear_67 : decode cX9_areNear 67 = .ok (.aload_n 0, 1) := by decide +kernel
theorem dX9_areNear_68 : decode cX9_areNear 68 = .ok (.getfield 19, 3) := by decide +kernel
theorem dX9_areNear_71 : decode cX9_areNear 71 = .ok (.iload_n 3, 1) := by decide +kernel
theorem dX9_areNear_72 : decode cX9_areNear 72 = .ok (.iaload, 1) := by decide +kernel
theorem dX9_areNear_73 : decode cX9_areNear 73 = .ok (.iload 4, 2) := by decide +kernel
theorem dX9_areNear_75 : decode cX9_areNear 75 = .ok (.if_icmp .eq 14, 3) := by decide +kernel
theorem dX9_areNear_78 : decode cX9_areNear 78 = .ok (.aload_n 0, 1) := by decide +kernel
theorem dX9_areNear_79 : decode cX9_areNear 79 = .ok (.getfield 19, 3) := by decide +kernel
theorem dX9_areNear_82 : decode cX9_areNear 82 = .ok (.iload 4, 2) := by decide +kernel
theorem dX9_areNear_84 : decode cX9_areNear 84 = .ok (.iaload, 1) := by decide +kernel
theorem dX9_areNear_85 : decode cX9_areNear 85 = .ok (.iload_n 3, 1) := by decide +kernel
theorem dX9_areNear_86 : decode cX9_areNear 86 = .ok (.if_icmp .ne 7, 3) := by decide +kernel
theorem dX9_areNear_89 : decode cX9_areNear 89 = .ok (.iconst 1, 1) := by decide +kernel
theorem dX9_areNear_90 : decode cX9_areNear 90 = .ok (.goto 4, 3) := by decide +kernel
theorem dX9_areNear_93 : decode cX9_areNear 93 = .ok (.iconst 0, 1) := by decide +kernel
theorem dX9_areNear_94 : decode cX9_areNear 94 = .ok (.ireturn, 1) := by decide +kernel
theorem dX9_doMeet_0 : decode cX9_doMeet 0 = .ok (.aload_n 0, 1) := by decide +kernel
theorem dX9_doMeet_1 : decode cX9_doMeet 1 = .ok (.iload_n 1, 1) := by decide +kernel
theorem dX9_doMeet_2 : decode cX9_doMeet 2 = .ok (.invokevirtual 214, 3) := by decide +kernel
theorem dX9_doMeet_5 : decode cX9_doMeet 5 = .ok (.ifCond .eq 20, 3) := by decide +kernel
theorem dX9_doMeet_8 : decode cX9_doMeet 8 = .ok (.aload_n 0, 1) := by decide +kernel
theorem dX9_doMeet_9 : decode cX9_doMeet 9 = .ok (.iload_n 2, 1) := by decide +kernel
theorem dX9_doMeet_10 : decode cX9_doMeet 10 = .ok (.invokevirtual 214, 3) := by decide +kernel
theorem dX9_doMeet_13 : decode cX9_doMeet 13 = .ok (.ifCond .ne 29, 3) := by decide +kernel
theorem dX9_doMeet_16 : decode cX9_doMeet 16 = .ok (.aload_n 0, 1) := by decide +kernel
theorem dX9_doMeet_17 : decode cX9_doMeet 17 = .ok (.getfield 98, 3) := by decide +kernel
theorem dX9_doMeet_20 : decode cX9_doMeet 20 = .ok (.iload_n 2, 1) := by decide +kernel
theorem dX9_doMeet_21 : decode cX9_doMeet 21 = .ok (.iaload, 1) := by decide +kernel
theorem dX9_doMeet_22 : decode cX9_doMeet 22 = .ok (.ifCond .eq 20, 3) := by decide +kernel
theorem dX9_doMeet_25 : decode cX9_doMeet 25 = .ok (.aload_n 0, 1) := by decide +kernel
theorem dX9_doMeet_26 : decode cX9_doMeet 26 = .ok (.iload_n 2, 1) := by decide +kernel
theorem dX9_doMeet_27 : decode cX9_doMeet 27 = .ok (.invokevirtual 214, 3) := by decide +kernel
theorem dX9_doMeet_30 : decode cX9_doMeet 30 = .ok (.ifCond .eq 16, 3) := by decide +kernel
theorem dX9_doMeet_33 : decode cX9_doMeet 33 = .ok (.aload_n 0, 1) := by decide +kernel
theorem dX9_doMeet_34 : decode cX9_doMeet 34 = .ok (.getfield 98, 3) := by decide +kernel
theorem dX9_doMeet_37 : decode cX9_doMeet 37 = .ok (.iload_n 1, 1) := by decide +kernel
theorem dX9_doMeet_38 : decode cX9_doMeet 38 = .ok (.iaload, 1) := by decide +kernel
theorem dX9_doMeet_39 : decode cX9_doMeet 39 = .ok (.ifCond .ne 7, 3) := by decide +kernel
theorem dX9_doMeet_42 : decode cX9_doMeet 42 = .ok (.iconst 1, 1) := by decide +kernel
theorem dX9_doMeet_43 : decode cX9_doMeet 43 = .ok (.goto 4, 3) := by decide +kernel
theorem dX9_doMeet_46 : decode cX9_doMeet 46 = .ok (.iconst 0, 1) := by decide +kernel
theorem dX9_doMeet_47 : decode cX9_doMeet 47 = .ok (.istore_n 3, 1) := by decide +kernel
theorem dX9_doMeet_48 : decode cX9_doMeet 48 = .ok (.iload_n 1, 1) := by decide +kernel
theorem dX9_doMeet_49 : decode cX9_doMeet 49 = .ok (.iload_n 2, 1) := by decide +kernel
theorem dX9_doMeet_50 : decode cX9_doMeet 50 = .ok (.if_icmp .eq 53, 3) := by decide +kernel
theorem dX9_doMeet_53 : decode cX9_doMeet 53 = .ok (.iload_n 3, 1) := by decide +kernel
theorem dX9_doMeet_54 : decode cX9_doMeet 54 = .ok (.ifCond .eq 49, 3) := by decide +kernel
theorem dX9_doMeet_57 : decode cX9_doMeet 57 = .ok (.aload_n 0, 1) := by decide +kernel
theorem dX9_doMeet_58 : decode cX9_doMeet 58 = .ok (.iload_n 1, 1) := by decide +kernel
theorem dX9_doMeet_59 : decode cX9_doMeet 59 = .ok (.aload_n 0, 1) := by decide +kernel
theorem dX9_doMeet_60 : decode cX9_doMeet 60 = .ok (.getfield 89, 3) := by decide +kernel
theorem dX9_doMeet_63 : decode cX9_doMeet 63 = .ok (.iload_n 2, 1) := by decide +kernel
theorem dX9_doMeet_64 : decode cX9_doMeet 64 = .ok (.iaload, 1) := by decide +kernel
theorem dX9_doMeet_65 : decode cX9_doMeet 65 = .ok (.aload_n 0, 1) := by decide +kernel
theorem dX9_doMeet_66 : decode cX9_doMeet 66 = .ok (.iload_n 2, 1) := by decide +kernel
theorem dX9_doMeet_67 : decode cX9_doMeet 67 = .ok (.invokevirtual 211, 3) := by decide +kernel
theorem dX9_doMeet_70 : decode cX9_doMeet 70 = .ok (.invokevirtual 182, 3) := by decide +kernel
theorem dX9_doMeet_73 : decode cX9_doMeet 73 = .ok (.ifCond .eq 30, 3) := by decide +kernel
theorem dX9_doMeet_76 : decode cX9_doMeet 76 = .ok (.aload_n 0, 1) := by decide +kernel
theorem dX9_doMeet_77 : decode cX9_doMeet 77 = .ok (.getfield 116, 3) := by decide +kernel
theorem dX9_doMeet_80 : decode cX9_doMeet 80 = .ok (.bipush 24, 2) := by decide +kernel
theorem dX9_doMeet_82 : decode cX9_doMeet 82 = .ok (.iload_n 1, 1) := by decide +kernel
theorem dX9_doMeet_83 : decode cX9_doMeet 83 = .ok (.imul, 1) := by decide +kernel
theorem dX9_doMeet_84 : decode cX9_doMeet 84 = .ok (.iload_n 2, 1) := by decide +kernel
theorem dX9_doMeet_85 : decode cX9_doMeet 85 = .ok (.iadd, 1) := by decide +kernel
theorem dX9_doMeet_86 : decode cX9_doMeet 86 = .ok (.baload, 1) := by decide +kernel
theorem dX9_doMeet_87 : decode cX9_doMeet 87 = .ok (.ifCond .ne 16, 3) := by decide +kernel
theorem dX9_doMeet_90 : decode cX9_doMeet 90 = .ok (.aload_n 0, 1) := by decide +kernel
theorem dX9_doMeet_91 : decode cX9_doMeet 91 = .ok (.iload_n 1, 1) := by decide +kernel
theorem dX9_doMeet_92 : decode cX9_doMeet 92 = .ok (.iload_n 2, 1) := by decide +kernel
theorem dX9_doMeet_93 : decode cX9_doMeet 93 = .ok (.invokevirtual 217, 3) := by decide +kernel
theorem dX9_doMeet_96 : decode cX9_doMeet 96 = .ok (.ifCond .eq 7, 3) := by decide +kernel
theorem dX9_doMeet_99 : decode cX9_doMeet 99 = .ok (.iconst 1, 1) := by decide +kernel
theorem dX9_doMeet_100 : decode cX9_doMeet 100 = .ok (.goto 4, 3) := by decide +kernel
theorem dX9_doMeet_103 : decode cX9_doMeet 103 = .ok (.iconst 0, 1) := by decide +kernel
theorem dX9_doMeet_104 : decode cX9_doMeet 104 = .ok (.ireturn, 1) := by decide +kernel
theorem dX9_meetsOn_0 : decode cX9_meetsOn 0 = .ok (.iconst 0, 1) := by decide +kernel
theorem dX9_meetsOn_1 : decode cX9_meetsOn 1 = .ok (.istore_n 2, 1) := by decide +kernel
theorem dX9_meetsOn_2 : decode cX9_meetsOn 2 = .ok (.iconst 0, 1) := by decide +kernel
theorem dX9_meetsOn_3 : decode cX9_meetsOn 3 = .ok (.istore_n 3, 1) := by decide +kernel
theorem dX9_meetsOn_4 : decode cX9_meetsOn 4 = .ok (.iload_n 3, 1) := by decide +kernel
theorem dX9_meetsOn_5 : decode cX9_meetsOn 5 = .ok (.aload_n 0, 1) := by decide +kernel
theorem dX9_meetsOn_6 : decode cX9_meetsOn 6 = .ok (.getfield 162, 3) := by decide +kernel
theorem dX9_meetsOn_9 : decode cX9_meetsOn 9 = .ok (.if_icmp .ge 36, 3) := by decide +kernel
theorem dX9_meetsOn_12 : decode cX9_meetsOn 12 = .ok (.iload_n 2, 1) := by decide +kernel
theorem dX9_meetsOn_13 : decode cX9_meetsOn 13 = .ok (.ifCond .ne 20, 3) := by decide +kernel
theorem dX9_meetsOn_16 : decode cX9_meetsOn 16 = .ok (.aload_n 0, 1) := by decide +kernel
theorem dX9_meetsOn_17 : decode cX9_meetsOn 17 = .ok (.iload_n 3, 1) := by decide +kernel
theorem dX9_meetsOn_18 : decode cX9_meetsOn 18 = .ok (.invokevirtual 214, 3) := by decide +kernel
theorem dX9_meetsOn_21 : decode cX9_meetsOn 21 = .ok (.ifCond .eq 16, 3) := by decide +kernel
theorem dX9_meetsOn_24 : decode cX9_meetsOn 24 = .ok (.aload_n 0, 1) := by decide +kernel
theorem dX9_meetsOn_25 : decode cX9_meetsOn 25 = .ok (.iload_n 1, 1) := by decide +kernel
theorem dX9_meetsOn_26 : decode cX9_meetsOn 26 = .ok (.iload_n 3, 1) := by decide +kernel
theorem dX9_meetsOn_27 : decode cX9_meetsOn 27 = .ok (.invokevirtual 220, 3) := by decide +kernel
theorem dX9_meetsOn_30 : decode cX9_meetsOn 30 = .ok (.ifCond .eq 7, 3) := by decide +kernel
theorem dX9_meetsOn_33 : decode cX9_meetsOn 33 = .ok (.iconst 1, 1) := by decide +kernel
theorem dX9_meetsOn_34 : decode cX9_meetsOn 34 = .ok (.goto 4, 3) := by decide +kernel
theorem dX9_meetsOn_37 : decode cX9_meetsOn 37 = .ok (.iconst 0, 1) := by decide +kernel
theorem dX9_meetsOn_38 : decode cX9_meetsOn 38 = .ok (.istore_n 2, 1) := by decide +kernel
theorem dX9_meetsOn_39 : decode cX9_meetsOn 39 = .ok (.iinc 3 1, 3) := by decide +kernel
theorem dX9_meetsOn_42 : decode cX9_meetsOn 42 = .ok (.goto (-38), 3) := by decide +kernel
theorem dX9_meetsOn_45 : decode cX9_meetsOn 45 = .ok (.iload_n 2, 1) := by decide +kernel
theorem dX9_meetsOn_46 : decode cX9_meetsOn 46 = .ok (.ireturn, 1) := by decide +kernel
theorem dX9_barsOf_0 : decode cX9_barsOf 0 = .ok (.aload_n 0, 1) := by decide +kernel
theorem dX9_barsOf_1 : decode cX9_barsOf 1 = .ok (.getfield 74, 3) := by decide +kernel
theorem dX9_barsOf_4 : decode cX9_barsOf 4 = .ok (.iload_n 1, 1) := by decide +kernel
theorem dX9_barsOf_5 : decode cX9_barsOf 5 = .ok (.iaload, 1) := by decide +kernel
theorem dX9_barsOf_6 : decode cX9_barsOf 6 = .ok (.istore_n 2, 1) := by decide +kernel
theorem dX9_barsOf_7 : decode cX9_barsOf 7 = .ok (.aload_n 0, 1) := by decide +kernel
theorem dX9_barsOf_8 : decode cX9_barsOf 8 = .ok (.getfield 86, 3) := by decide +kernel
theorem dX9_barsOf_11 : decode cX9_barsOf 11 = .ok (.iload_n 1, 1) := by decide +kernel
theorem dX9_barsOf_12 : decode cX9_barsOf 12 = .ok (.iaload, 1) := by decide +kernel
theorem dX9_barsOf_13 : decode cX9_barsOf 13 = .ok (.iconst 3, 1) := by decide +kernel
theorem dX9_barsOf_14 : decode cX9_barsOf 14 = .ok (.if_icmp .ne 5, 3) := by decide +kernel
theorem dX9_barsOf_17 : decode cX9_barsOf 17 = .ok (.iconst 0, 1) := by decide +kernel
theorem dX9_barsOf_18 : decode cX9_barsOf 18 = .ok (.ireturn, 1) := by decide +kernel
theorem dX9_barsOf_19 : decode cX9_barsOf 19 = .ok (.aload_n 0, 1) := by decide +kernel
theorem dX9_barsOf_20 : decode cX9_barsOf 20 = .ok (.getfield 28, 3) := by decide +kernel
theorem dX9_barsOf_23 : decode cX9_barsOf 23 = .ok (.iload_n 2, 1) := by decide +kernel
theorem dX9_barsOf_24 : decode cX9_barsOf 24 = .ok (.iaload, 1) := by decide +kernel
theorem dX9_barsOf_25 : decode cX9_barsOf 25 = .ok (.iconst (-1), 1) := by decide +kernel
theorem dX9_barsOf_26 : decode cX9_barsOf 26 = .ok (.if_icmp .eq 27, 3) := by decide +kernel
theorem dX9_barsOf_29 : decode cX9_barsOf 29 = .ok (.aload_n 0, 1) := by decide +kernel
theorem dX9_barsOf_30 : decode cX9_barsOf 30 = .ok (.iload_n 1, 1) := by decide +kernel
theorem dX9_barsOf_31 : decode cX9_barsOf 31 = .ok (.aload_n 0, 1) := by decide +kernel
theorem dX9_barsOf_32 : decode cX9_barsOf 32 = .ok (.getfield 28, 3) := by decide +kernel
theorem dX9_barsOf_35 : decode cX9_barsOf 35 = .ok (.iload_n 2, 1) := by decide +kernel
theorem dX9_barsOf_36 : decode cX9_barsOf 36 = .ok (.iaload, 1) := by decide +kernel
theorem dX9_barsOf_37 : decode cX9_barsOf 37 = .ok (.aload_n 0, 1) := by decide +kernel
theorem dX9_barsOf_38 : decode cX9_barsOf 38 = .ok (.getfield 31, 3) := by decide +kernel
theorem dX9_barsOf_41 : decode cX9_barsOf 41 = .ok (.iload_n 2, 1) := by decide +kernel
theorem dX9_barsOf_42 : decode cX9_barsOf 42 = .ok (.iaload, 1) := by decide +kernel
theorem dX9_barsOf_43 : decode cX9_barsOf 43 = .ok (.invokevirtual 182, 3) := by decide +kernel
theorem dX9_barsOf_46 : decode cX9_barsOf 46 = .ok (.ifCond .eq 7, 3) := by decide +kernel
theorem dX9_barsOf_49 : decode cX9_barsOf 49 = .ok (.iconst 1, 1) := by decide +kernel
theorem dX9_barsOf_50 : decode cX9_barsOf 50 = .ok (.goto 4, 3) := by decide +kernel
theorem dX9_barsOf_53 : decode cX9_barsOf 53 = .ok (.iconst 0, 1) := by decide +kernel
theorem dX9_barsOf_54 : decode cX9_barsOf 54 = .ok (.istore_n 3, 1) := by decide +kernel
theorem dX9_barsOf_55 : decode cX9_barsOf 55 = .ok (.aload_n 0, 1) := by decide +kernel
theorem dX9_barsOf_56 : decode cX9_barsOf 56 = .ok (.getfield 22, 3) := by decide +kernel
theorem dX9_barsOf_59 : decode cX9_barsOf 59 = .ok (.iload_n 2, 1) := by decide +kernel
theorem dX9_barsOf_60 : decode cX9_barsOf 60 = .ok (.iaload, 1) := by decide +kernel
theorem dX9_barsOf_61 : decode cX9_barsOf 61 = .ok (.iconst (-1), 1) := by decide +kernel
theorem dX9_barsOf_62 : decode cX9_barsOf 62 = .ok (.if_icmp .eq 39, 3) := by decide +kernel
theorem dX9_barsOf_65 : decode cX9_barsOf 65 = .ok (.aload_n 0, 1) := by decide +kernel
theorem dX9_barsOf_66 : decode cX9_barsOf 66 = .ok (.getfield 113, 3) := by decide +kernel
theorem dX9_barsOf_69 : decode cX9_barsOf 69 = .ok (.iload_n 1, 1) := by decide +kernel
theorem dX9_barsOf_70 : decode cX9_barsOf 70 = .ok (.baload, 1) := by decide +kernel
theorem dX9_barsOf_71 : decode cX9_barsOf 71 = .ok (.ifCond .ne 30, 3) := by decide +kernel
theorem dX9_barsOf_74 : decode cX9_barsOf 74 = .ok (.aload_n 0, 1) := by decide +kernel
theorem dX9_barsOf_75 : decode cX9_barsOf 75 = .ok (.iload_n 1, 1) := by decide +kernel
theorem dX9_barsOf_76 : decode cX9_barsOf 76 = .ok (.aload_n 0, 1) := by decide +kernel
theorem dX9_barsOf_77 : decode cX9_barsOf 77 = .ok (.getfield 22, 3) := by decide +kernel
theorem dX9_barsOf_80 : decode cX9_barsOf 80 = .ok (.iload_n 2, 1) := by decide +kernel
theorem dX9_barsOf_81 : decode cX9_barsOf 81 = .ok (.iaload, 1) := by decide +kernel
theorem dX9_barsOf_82 : decode cX9_barsOf 82 = .ok (.aload_n 0, 1) := by decide +kernel
theorem dX9_barsOf_83 : decode cX9_barsOf 83 = .ok (.getfield 22, 3) := by decide +kernel
theorem dX9_barsOf_86 : decode cX9_barsOf 86 = .ok (.iload_n 2, 1) := by decide +kernel
theorem dX9_barsOf_87 : decode cX9_barsOf 87 = .ok (.iaload, 1) := by decide +kernel
theorem dX9_barsOf_88 : decode cX9_barsOf 88 = .ok (.bipush 99, 2) := by decide +kernel
theorem dX9_barsOf_90 : decode cX9_barsOf 90 = .ok (.iadd, 1) := by decide +kernel
theorem dX9_barsOf_91 : decode cX9_barsOf 91 = .ok (.invokevirtual 182, 3) := by decide +kernel
theorem dX9_barsOf_94 : decode cX9_barsOf 94 = .ok (.ifCond .eq 7, 3) := by decide +kernel
theorem dX9_barsOf_97 : decode cX9_barsOf 97 = .ok (.iconst 1, 1) := by decide +kernel
theorem dX9_barsOf_98 : decode cX9_barsOf 98 = .ok (.goto 4, 3) := by decide +kernel
theorem dX9_barsOf_101 : decode cX9_barsOf 101 = .ok (.iconst 0, 1) := by decide +kernel
theorem dX9_barsOf_102 : decode cX9_barsOf 102 = .ok (.istore 4, 2) := by decide +kernel
theorem dX9_barsOf_104 : decode cX9_barsOf 104 = .ok (.iload_n 3, 1) := by decide +kernel
theorem dX9_barsOf_105 : decode cX9_barsOf 105 = .ok (.ifCond .eq 7, 3) := by decide +kernel
theorem dX9_barsOf_108 : decode cX9_barsOf 108 = .ok (.iconst 1, 1) := by decide +kernel
theorem dX9_barsOf_109 : decode cX9_barsOf 109 = .ok (.goto 25, 3) := by decide +kernel
theorem dX9_barsOf_112 : decode cX9_barsOf 112 = .ok (.iload 4, 2) := by decide +kernel
theorem dX9_barsOf_114 : decode cX9_barsOf 114 = .ok (.ifCond .eq 7, 3) := by decide +kernel
theorem dX9_barsOf_117 : decode cX9_barsOf 117 = .ok (.iconst 2, 1) := by decide +kernel
theorem dX9_barsOf_118 : decode cX9_barsOf 118 = .ok (.goto 16, 3) := by decide +kernel
theorem dX9_barsOf_121 : decode cX9_barsOf 121 = .ok (.aload_n 0, 1) := by decide +kernel
theorem dX9_barsOf_122 : decode cX9_barsOf 122 = .ok (.iload_n 1, 1) := by decide +kernel
theorem dX9_barsOf_123 : decode cX9_barsOf 123 = .ok (.invokevirtual 223, 3) := by decide +kernel
theorem dX9_barsOf_126 : decode cX9_barsOf 126 = .ok (.ifCond .eq 7, 3) := by decide +kernel
theorem dX9_barsOf_129 : decode cX9_barsOf 129 = .ok (.iconst 3, 1) := by decide +kernel
theorem dX9_barsOf_130 : decode cX9_barsOf 130 = .ok (.goto 4, 3) := by decide +kernel
theorem dX9_barsOf_133 : decode cX9_barsOf 133 = .ok (.iconst 0, 1) := by decide +kernel
theorem dX9_barsOf_134 : decode cX9_barsOf 134 = .ok (.ireturn, 1) := by decide +kernel
theorem dX9_notice_0 : decode cX9_notice 0 = .ok (.iload_n 0, 1) := by decide +kernel
theorem dX9_notice_1 : decode cX9_notice 1 = .ok (.ifCond .ne 8, 3) := by decide +kernel
theorem dX9_notice_4 : decode cX9_notice 4 = .ok (.bipush 20, 2) := by decide +kernel
theorem dX9_notice_6 : decode cX9_notice 6 = .ok (.goto 23, 3) := by decide +kernel
theorem dX9_notice_9 : decode cX9_notice 9 = .ok (.iload_n 0, 1) := by decide +kernel
theorem dX9_notice_10 : decode cX9_notice 10 = .ok (.iconst 1, 1) := by decide +kernel
theorem dX9_notice_11 : decode cX9_notice 11 = .ok (.if_icmp .ne 8, 3) := by decide +kernel
theorem dX9_notice_14 : decode cX9_notice 14 = .ok (.bipush 8, 2) := by decide +kernel
theorem dX9_notice_16 : decode cX9_notice 16 = .ok (.goto 13, 3) := by decide +kernel
theorem dX9_notice_19 : decode cX9_notice 19 = .ok (.iload_n 0, 1) := by decide +kernel
theorem dX9_notice_20 : decode cX9_notice 20 = .ok (.iconst 2, 1) := by decide +kernel
theorem dX9_notice_21 : decode cX9_notice 21 = .ok (.if_icmp .ne 7, 3) := by decide +kernel
theorem dX9_notice_24 : decode cX9_notice 24 = .ok (.iconst 3, 1) := by decide +kernel
theorem dX9_notice_25 : decode cX9_notice 25 = .ok (.goto 4, 3) := by decide +kernel
theorem dX9_notice_28 : decode cX9_notice 28 = .ok (.iconst 0, 1) := by decide +kernel
theorem dX9_notice_29 : decode cX9_notice 29 = .ok (.istore_n 2, 1) := by decide +kernel
theorem dX9_notice_30 : decode cX9_notice 30 = .ok (.iload_n 1, 1) := by decide +kernel
theorem dX9_notice_31 : decode cX9_notice 31 = .ok (.iconst 2, 1) := by decide +kernel
theorem dX9_notice_32 : decode cX9_notice 32 = .ok (.if_icmp .ge 9, 3) := by decide +kernel
theorem dX9_notice_35 : decode cX9_notice 35 = .ok (.iconst 2, 1) := by decide +kernel
theorem dX9_notice_36 : decode cX9_notice 36 = .ok (.iload_n 2, 1) := by decide +kernel
theorem dX9_notice_37 : decode cX9_notice 37 = .ok (.imul, 1) := by decide +kernel
theorem dX9_notice_38 : decode cX9_notice 38 = .ok (.goto 4, 3) := by decide +kernel
theorem dX9_notice_41 : decode cX9_notice 41 = .ok (.iload_n 2, 1) := by decide +kernel
theorem dX9_notice_42 : decode cX9_notice 42 = .ok (.ireturn, 1) := by decide +kernel
theorem dX9_ask_0 : decode cX9_ask 0 = .ok (.iload_n 1, 1) := by decide +kernel
theorem dX9_ask_1 : decode cX9_ask 1 = .ok (.invokestatic 185, 3) := by decide +kernel
theorem dX9_ask_4 : decode cX9_ask 4 = .ok (.ifCond .eq 26, 3) := by decide +kernel
theorem dX9_ask_7 : decode cX9_ask 7 = .ok (.aload_n 0, 1) := by decide +kernel
theorem dX9_ask_8 : decode cX9_ask 8 = .ok (.iload_n 2, 1) := by decide +kernel
theorem dX9_ask_9 : decode cX9_ask 9 = .ok (.iload_n 3, 1) := by decide +kernel
theorem dX9_ask_10 : decode cX9_ask 10 = .ok (.invokevirtual 188, 3) := by decide +kernel
theorem dX9_ask_13 : decode cX9_ask 13 = .ok (.ifCond .eq 17, 3) := by decide +kernel
theorem dX9_ask_16 : decode cX9_ask 16 = .ok (.aload_n 0, 1) := by decide +kernel
theorem dX9_ask_17 : decode cX9_ask 17 = .ok (.iload_n 2, 1) := by decide +kernel
theorem dX9_ask_18 : decode cX9_ask 18 = .ok (.iload 4, 2) := by decide +kernel
theorem dX9_ask_20 : decode cX9_ask 20 = .ok (.invokevirtual 188, 3) := by decide +kernel
theorem dX9_ask_23 : decode cX9_ask 23 = .ok (.ifCond .eq 7, 3) := by decide +kernel
theorem dX9_ask_26 : decode cX9_ask 26 = .ok (.iconst 1, 1) := by decide +kernel
theorem dX9_ask_27 : decode cX9_ask 27 = .ok (.goto 4, 3) := by decide +kernel
theorem dX9_ask_30 : decode cX9_ask 30 = .ok (.iconst 0, 1) := by decide +kernel
theorem dX9_ask_31 : decode cX9_ask 31 = .ok (.istore 9, 2) := by decide +kernel
theorem dX9_ask_33 : decode cX9_ask 33 = .ok (.iload 4, 2) := by decide +kernel
theorem dX9_ask_35 : decode cX9_ask 35 = .ok (.iload_n 3, 1) := by decide +kernel
theorem dX9_ask_36 : decode cX9_ask 36 = .ok (.if_icmp .lt 41, 3) := by decide +kernel
theorem dX9_ask_39 : decode cX9_ask 39 = .ok (.iload 5, 2) := by decide +kernel
theorem dX9_ask_41 : decode cX9_ask 41 = .ok (.bipush 10, 2) := by decide +kernel
theorem dX9_ask_43 : decode cX9_ask 43 = .ok (.sipush 300, 3) := by decide +kernel
theorem dX9_ask_46 : decode cX9_ask 46 = .ok (.invokestatic 151, 3) := by decide +kernel
theorem dX9_ask_49 : decode cX9_ask 49 = .ok (.ifCond .eq 28, 3) := by decide +kernel
theorem dX9_ask_52 : decode cX9_ask 52 = .ok (.iload 6, 2) := by decide +kernel
theorem dX9_ask_54 : decode cX9_ask 54 = .ok (.iconst 0, 1) := by decide +kernel
theorem dX9_ask_55 : decode cX9_ask 55 = .ok (.iconst 3, 1) := by decide +kernel
theorem dX9_ask_56 : decode cX9_ask 56 = .ok (.invokestatic 151, 3) := by decide +kernel
theorem dX9_ask_59 : decode cX9_ask 59 = .ok (.ifCond .eq 18, 3) := by decide +kernel
theorem dX9_ask_62 : decode cX9_ask 62 = .ok (.iload 8, 2) := by decide +kernel
theorem dX9_ask_64 : decode cX9_ask 64 = .ok (.iconst 1, 1) := by decide +kernel
theorem dX9_ask_65 : decode cX9_ask 65 = .ok (.bipush 60, 2) := by decide +kernel
theorem dX9_ask_67 : decode cX9_ask 67 = .ok (.invokestatic 151, 3) := by decide +kernel
theorem dX9_ask_70 : decode cX9_ask 70 = .ok (.ifCond .eq 7, 3) := by decide +kernel
theorem dX9_ask_73 : decode cX9_ask 73 = .ok (.iconst 1, 1) := by decide +kernel
theorem dX9_ask_74 : decode cX9_ask 74 = .ok (.goto 4, 3) := by decide +kernel
theorem dX9_ask_77 : decode cX9_ask 77 = .ok (.iconst 0, 1) := by decide +kernel
theorem dX9_ask_78 : decode cX9_ask 78 = .ok (.istore 10, 2) := by decide +kernel
theorem dX9_ask_80 : decode cX9_ask 80 = .ok (.aload_n 0, 1) := by decide +kernel
theorem dX9_ask_81 : decode cX9_ask 81 = .ok (.iload 9, 2) := by decide +kernel
theorem dX9_ask_83 : decode cX9_ask 83 = .ok (.ifCond .ne 7, 3) := by decide +kernel
theorem dX9_ask_86 : decode cX9_ask 86 = .ok (.iconst 1, 1) := by decide +kernel
theorem dX9_ask_87 : decode cX9_ask 87 = .ok (.goto 53, 3) := by decide +kernel
theorem dX9_ask_90 : decode cX9_ask 90 = .ok (.iload 10, 2) := by decide +kernel
theorem dX9_ask_92 : decode cX9_ask 92 = .ok (.ifCond .eq 30, 3) := by decide +kernel
theorem dX9_ask_95 : decode cX9_ask 95 = .ok (.iload 7, 2) := by decide +kernel
theorem dX9_ask_97 : decode cX9_ask 97 = .ok (.aload_n 0, 1) := by decide +kernel
theorem dX9_ask_98 : decode cX9_ask 98 = .ok (.invokevirtual 175, 3) := by decide +kernel
theorem dX9_ask_101 : decode cX9_ask 101 = .ok (.iload 6, 2) := by decide +kernel
theorem dX9_ask_103 : decode cX9_ask 103 = .ok (.aload_n 0, 1) := by decide +kernel
theorem dX9_ask_104 : decode cX9_ask 104 = .ok (.getfield 13, 3) := by decide +kernel
theorem dX9_ask_107 : decode cX9_ask 107 = .ok (.iload_n 2, 1) := by decide +kernel
theorem dX9_ask_108 : decode cX9_ask 108 = .ok (.iaload, 1) := by decide +kernel
theorem dX9_ask_109 : decode cX9_ask 109 = .ok (.invokestatic 226, 3) := by decide +kernel
theorem dX9_ask_112 : decode cX9_ask 112 = .ok (.iadd, 1) := by decide +kernel
theorem dX9_ask_113 : decode cX9_ask 113 = .ok (.sipush 999, 3) := by decide +kernel
theorem dX9_ask_116 : decode cX9_ask 116 = .ok (.invokestatic 151, 3) := by decide +kernel
theorem dX9_ask_119 : decode cX9_ask 119 = .ok (.ifCond .ne 7, 3) := by decide +kernel
theorem dX9_ask_122 : decode cX9_ask 122 = .ok (.iconst 2, 1) := by decide +kernel
theorem dX9_ask_123 : decode cX9_ask 123 = .ok (.goto 17, 3) := by decide +kernel
theorem dX9_ask_126 : decode cX9_ask 126 = .ok (.aload_n 0, 1) := by decide +kernel
theorem dX9_ask_127 : decode cX9_ask 127 = .ok (.getfield 162, 3) := by decide +kernel
theorem dX9_ask_130 : decode cX9_ask 130 = .ok (.bipush 24, 2) := by decide +kernel
theorem dX9_ask_132 : decode cX9_ask 132 = .ok (.if_icmp .ne 7, 3) := by decide +kernel
theorem dX9_ask_135 : decode cX9_ask 135 = .ok (.iconst 3, 1) := by decide +kernel
theorem dX9_ask_136 : decode cX9_ask 136 = .ok (.goto 4, 3) := by decide +kernel
theorem dX9_ask_139 : decode cX9_ask 139 = .ok (.iconst 0, 1) := by decide +kernel
theorem dX9_ask_140 : decode cX9_ask 140 = .ok (.invokevirtual 168, 3) := by decide +kernel
theorem dX9_ask_143 : decode cX9_ask 143 = .ok (.ifCond .ne 5, 3) := by decide +kernel
theorem dX9_ask_146 : decode cX9_ask 146 = .ok (.iconst 0, 1) := by decide +kernel
theorem dX9_ask_147 : decode cX9_ask 147 = .ok (.ireturn, 1) := by decide +kernel
theorem dX9_ask_148 : decode cX9_ask 148 = .ok (.aload_n 0, 1) := by decide +kernel
theorem dX9_ask_149 : decode cX9_ask 149 = .ok (.getfield 71, 3) := by decide +kernel
theorem dX9_ask_152 : decode cX9_ask 152 = .ok (.aload_n 0, 1) := by decide +kernel
theorem dX9_ask_153 : decode cX9_ask 153 = .ok (.getfield 162, 3) := by decide +kernel
theorem dX9_ask_156 : decode cX9_ask 156 = .ok (.iload_n 1, 1) := by decide +kernel
theorem dX9_ask_157 : decode cX9_ask 157 = .ok (.iastore, 1) := by decide +kernel
