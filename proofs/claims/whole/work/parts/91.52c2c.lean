theorem dX9_extend_16 : decode cX9_extend 16 = .ok (.iconst 3, 1) := by decide +kernel
theorem dX9_extend_17 : decode cX9_extend 17 = .ok (.if_icmp .ne 16, 3) := by decide +kernel
theorem dX9_extend_20 : decode cX9_extend 20 = .ok (.aload_n 0, 1) := by decide +kernel
theorem dX9_extend_21 : decode cX9_extend 21 = .ok (.getfield 107, 3) := by decide +kernel
theorem dX9_extend_24 : decode cX9_extend 24 = .ok (.iload_n 1, 1) := by decide +kernel
theorem dX9_extend_25 : decode cX9_extend 25 = .ok (.iaload, 1) := by decide +kernel
theorem dX9_extend_26 : decode cX9_extend 26 = .ok (.ifCond .le 7, 3) := by decide +kernel
theorem dX9_extend_29 : decode cX9_extend 29 = .ok (.iconst 1, 1) := by decide +kernel
theorem dX9_extend_30 : decode cX9_extend 30 = .ok (.goto 4, 3) := by decide +kernel
theorem dX9_extend_33 : decode cX9_extend 33 = .ok (.iconst 0, 1) := by decide +kernel
theorem dX9_extend_34 : decode cX9_extend 34 = .ok (.istore_n 3, 1) := by decide +kernel
theorem dX9_extend_35 : decode cX9_extend 35 = .ok (.iload_n 3, 1) := by decide +kernel
theorem dX9_extend_36 : decode cX9_extend 36 = .ok (.ifCond .eq 13, 3) := by decide +kernel
theorem dX9_extend_39 : decode cX9_extend 39 = .ok (.aload_n 0, 1) := by decide +kernel
theorem dX9_extend_40 : decode cX9_extend 40 = .ok (.getfield 92, 3) := by decide +kernel
theorem dX9_extend_43 : decode cX9_extend 43 = .ok (.iload_n 1, 1) := by decide +kernel
theorem dX9_extend_44 : decode cX9_extend 44 = .ok (.dup2, 1) := by decide +kernel
theorem dX9_extend_45 : decode cX9_extend 45 = .ok (.iaload, 1) := by decide +kernel
theorem dX9_extend_46 : decode cX9_extend 46 = .ok (.iconst 2, 1) := by decide +kernel
theorem dX9_extend_47 : decode cX9_extend 47 = .ok (.iadd, 1) := by decide +kernel
theorem dX9_extend_48 : decode cX9_extend 48 = .ok (.iastore, 1) := by decide +kernel
theorem dX9_extend_49 : decode cX9_extend 49 = .ok (.iload_n 3, 1) := by decide +kernel
theorem dX9_extend_50 : decode cX9_extend 50 = .ok (.ifCond .eq 15, 3) := by decide +kernel
theorem dX9_extend_53 : decode cX9_extend 53 = .ok (.aload_n 0, 1) := by decide +kernel
theorem dX9_extend_54 : decode cX9_extend 54 = .ok (.iload_n 1, 1) := by decide +kernel
theorem dX9_extend_55 : decode cX9_extend 55 = .ok (.invokevirtual 223, 3) := by decide +kernel
theorem dX9_extend_58 : decode cX9_extend 58 = .ok (.ifCond .eq 7, 3) := by decide +kernel
theorem dX9_extend_61 : decode cX9_extend 61 = .ok (.iconst 1, 1) := by decide +kernel
theorem dX9_extend_62 : decode cX9_extend 62 = .ok (.goto 4, 3) := by decide +kernel
theorem dX9_extend_65 : decode cX9_extend 65 = .ok (.iconst 0, 1) := by decide +kernel
theorem dX9_extend_66 : decode cX9_extend 66 = .ok (.istore 4, 2) := by decide +kernel
theorem dX9_extend_68 : decode cX9_extend 68 = .ok (.iload 4, 2) := by decide +kernel
theorem dX9_extend_70 : decode cX9_extend 70 = .ok (.ifCond .eq 13, 3) := by decide +kernel
theorem dX9_extend_73 : decode cX9_extend 73 = .ok (.aload_n 0, 1) := by decide +kernel
theorem dX9_extend_74 : decode cX9_extend 74 = .ok (.getfield 92, 3) := by decide +kernel
theorem dX9_extend_77 : decode cX9_extend 77 = .ok (.iload_n 1, 1) := by decide +kernel
theorem dX9_extend_78 : decode cX9_extend 78 = .ok (.dup2, 1) := by decide +kernel
theorem dX9_extend_79 : decode cX9_extend 79 = .ok (.iaload, 1) := by decide +kernel
theorem dX9_extend_80 : decode cX9_extend 80 = .ok (.iconst 2, 1) := by decide +kernel
theorem dX9_extend_81 : decode cX9_extend 81 = .ok (.isub, 1) := by decide +kernel
theorem dX9_extend_82 : decode cX9_extend 82 = .ok (.iastore, 1) := by decide +kernel
theorem dX9_extend_83 : decode cX9_extend 83 = .ok (.aload_n 0, 1) := by decide +kernel
theorem dX9_extend_84 : decode cX9_extend 84 = .ok (.iload_n 2, 1) := by decide +kernel
theorem dX9_extend_85 : decode cX9_extend 85 = .ok (.ifCond .ne 7, 3) := by decide +kernel
theorem dX9_extend_88 : decode cX9_extend 88 = .ok (.iconst 1, 1) := by decide +kernel
theorem dX9_extend_89 : decode cX9_extend 89 = .ok (.goto 17, 3) := by decide +kernel
theorem dX9_extend_92 : decode cX9_extend 92 = .ok (.iload_n 3, 1) := by decide +kernel
theorem dX9_extend_93 : decode cX9_extend 93 = .ok (.ifCond .eq 8, 3) := by decide +kernel
theorem dX9_extend_96 : decode cX9_extend 96 = .ok (.iload 4, 2) := by decide +kernel
theorem dX9_extend_98 : decode cX9_extend 98 = .ok (.ifCond .eq 7, 3) := by decide +kernel
theorem dX9_extend_101 : decode cX9_extend 101 = .ok (.iconst 2, 1) := by decide +kernel
theorem dX9_extend_102 : decode cX9_extend 102 = .ok (.goto 4, 3) := by decide +kernel
theorem dX9_extend_105 : decode cX9_extend 105 = .ok (.iconst 0, 1) := by decide +kernel
theorem dX9_extend_106 : decode cX9_extend 106 = .ok (.invokevirtual 168, 3) := by decide +kernel
theorem dX9_extend_109 : decode cX9_extend 109 = .ok (.ifCond .ne 5, 3) := by decide +kernel
theorem dX9_extend_112 : decode cX9_extend 112 = .ok (.iconst 0, 1) := by decide +kernel
theorem dX9_extend_113 : decode cX9_extend 113 = .ok (.ireturn, 1) := by decide +kernel
theorem dX9_extend_114 : decode cX9_extend 114 = .ok (.aload_n 0, 1) := by decide +kernel
theorem dX9_extend_115 : decode cX9_extend 115 = .ok (.getfield 107, 3) := by decide +kernel
theorem dX9_extend_118 : decode cX9_extend 118 = .ok (.iload_n 1, 1) := by decide +kernel
theorem dX9_extend_119 : decode cX9_extend 119 = .ok (.dup2, 1) := by decide +kernel
theorem dX9_extend_120 : decode cX9_extend 120 = .ok (.iaload, 1) := by decide +kernel
theorem dX9_extend_121 : decode cX9_extend 121 = .ok (.iconst 1, 1) := by decide +kernel
theorem dX9_extend_122 : decode cX9_extend 122 = .ok (.isub, 1) := by decide +kernel
theorem dX9_extend_123 : decode cX9_extend 123 = .ok (.iastore, 1) := by decide +kernel
theorem dX9_extend_124 : decode cX9_extend 124 = .ok (.aload_n 0, 1) := by decide +kernel
theorem dX9_extend_125 : decode cX9_extend 125 = .ok (.iload_n 1, 1) := by decide +kernel
theorem dX9_extend_126 : decode cX9_extend 126 = .ok (.invokevirtual 208, 3) := by decide +kernel
theorem dX9_extend_129 : decode cX9_extend 129 = .ok (.ireturn, 1) := by decide +kernel
theorem dX9_openOf_0 : decode cX9_openOf 0 = .ok (.iconst 0, 1) := by decide +kernel
theorem dX9_openOf_1 : decode cX9_openOf 1 = .ok (.istore_n 2, 1) := by decide +kernel
theorem dX9_openOf_2 : decode cX9_openOf 2 = .ok (.iconst 0, 1) := by decide +kernel
theorem dX9_openOf_3 : decode cX9_openOf 3 = .ok (.istore_n 3, 1) := by decide +kernel
theorem dX9_openOf_4 : decode cX9_openOf 4 = .ok (.iload_n 3, 1) := by decide +kernel
theorem dX9_openOf_5 : decode cX9_openOf 5 = .ok (.sipush 240, 3) := by decide +kernel
theorem dX9_openOf_8 : decode cX9_openOf 8 = .ok (.if_icmp .ge 27, 3) := by decide +kernel
theorem dX9_openOf_11 : decode cX9_openOf 11 = .ok (.iload_n 2, 1) := by decide +kernel
theorem dX9_openOf_12 : decode cX9_openOf 12 = .ok (.aload_n 0, 1) := by decide +kernel
theorem dX9_openOf_13 : decode cX9_openOf 13 = .ok (.getfield 44, 3) := by decide +kernel
theorem dX9_openOf_16 : decode cX9_openOf 16 = .ok (.iload_n 3, 1) := by decide +kernel
theorem dX9_openOf_17 : decode cX9_openOf 17 = .ok (.iaload, 1) := by decide +kernel
theorem dX9_openOf_18 : decode cX9_openOf 18 = .ok (.iload_n 1, 1) := by decide +kernel
theorem dX9_openOf_19 : decode cX9_openOf 19 = .ok (.if_icmp .ne 7, 3) := by decide +kernel
theorem dX9_openOf_22 : decode cX9_openOf 22 = .ok (.iconst 1, 1) := by decide +kernel
theorem dX9_openOf_23 : decode cX9_openOf 23 = .ok (.goto 4, 3) := by decide +kernel
theorem dX9_openOf_26 : decode cX9_openOf 26 = .ok (.iconst 0, 1) := by decide +kernel
theorem dX9_openOf_27 : decode cX9_openOf 27 = .ok (.iadd, 1) := by decide +kernel
theorem dX9_openOf_28 : decode cX9_openOf 28 = .ok (.istore_n 2, 1) := by decide +kernel
theorem dX9_openOf_29 : decode cX9_openOf 29 = .ok (.iinc 3 1, 3) := by decide +kernel
theorem dX9_openOf_32 : decode cX9_openOf 32 = .ok (.goto (-28), 3) := by decide +kernel
theorem dX9_openOf_35 : decode cX9_openOf 35 = .ok (.iload_n 2, 1) := by decide +kernel
theorem dX9_openOf_36 : decode cX9_openOf 36 = .ok (.ireturn, 1) := by decide +kernel
theorem dX9_stop_0 : decode cX9_stop 0 = .ok (.aload_n 0, 1) := by decide +kernel
theorem dX9_stop_1 : decode cX9_stop 1 = .ok (.iload_n 1, 1) := by decide +kernel
theorem dX9_stop_2 : decode cX9_stop 2 = .ok (.invokevirtual 234, 3) := by decide +kernel
theorem dX9_stop_5 : decode cX9_stop 5 = .ok (.istore_n 2, 1) := by decide +kernel
theorem dX9_stop_6 : decode cX9_stop 6 = .ok (.aload_n 0, 1) := by decide +kernel
theorem dX9_stop_7 : decode cX9_stop 7 = .ok (.iload_n 2, 1) := by decide +kernel
theorem dX9_stop_8 : decode cX9_stop 8 = .ok (.ifCond .ne 7, 3) := by decide +kernel
theorem dX9_stop_11 : decode cX9_stop 11 = .ok (.iconst 1, 1) := by decide +kernel
theorem dX9_stop_12 : decode cX9_stop 12 = .ok (.goto 26, 3) := by decide +kernel
theorem dX9_stop_15 : decode cX9_stop 15 = .ok (.aload_n 0, 1) := by decide +kernel
theorem dX9_stop_16 : decode cX9_stop 16 = .ok (.getfield 98, 3) := by decide +kernel
theorem dX9_stop_19 : decode cX9_stop 19 = .ok (.iload_n 1, 1) := by decide +kernel
theorem dX9_stop_20 : decode cX9_stop 20 = .ok (.iaload, 1) := by decide +kernel
theorem dX9_stop_21 : decode cX9_stop 21 = .ok (.iconst 3, 1) := by decide +kernel
theorem dX9_stop_22 : decode cX9_stop 22 = .ok (.if_icmp .ne 11, 3) := by decide +kernel
theorem dX9_stop_25 : decode cX9_stop 25 = .ok (.aload_n 0, 1) := by decide +kernel
theorem dX9_stop_26 : decode cX9_stop 26 = .ok (.iload_n 1, 1) := by decide +kernel
theorem dX9_stop_27 : decode cX9_stop 27 = .ok (.invokevirtual 259, 3) := by decide +kernel
theorem dX9_stop_30 : decode cX9_stop 30 = .ok (.ifCond .le 7, 3) := by decide +kernel
theorem dX9_stop_33 : decode cX9_stop 33 = .ok (.iconst 2, 1) := by decide +kernel
theorem dX9_stop_34 : decode cX9_stop 34 = .ok (.goto 4, 3) := by decide +kernel
theorem dX9_stop_37 : decode cX9_stop 37 = .ok (.iconst 0, 1) := by decide +kernel
theorem dX9_stop_38 : decode cX9_stop 38 = .ok (.invokevirtual 168, 3) := by decide +kernel
theorem dX9_stop_41 : decode cX9_stop 41 = .ok (.ifCond .ne 5, 3) := by decide +kernel
theorem dX9_stop_44 : decode cX9_stop 44 = .ok (.iconst 0, 1) := by decide +kernel
theorem dX9_stop_45 : decode cX9_stop 45 = .ok (.ireturn, 1) := by decide +kernel
theorem dX9_stop_46 : decode cX9_stop 46 = .ok (.aload_n 0, 1) := by decide +kernel
theorem dX9_stop_47 : decode cX9_stop 47 = .ok (.iload_n 1, 1) := by decide +kernel
theorem dX9_stop_48 : decode cX9_stop 48 = .ok (.invokevirtual 211, 3) := by decide +kernel
theorem dX9_stop_51 : decode cX9_stop 51 = .ok (.aload_n 0, 1) := by decide +kernel
theorem dX9_stop_52 : decode cX9_stop 52 = .ok (.iload_n 1, 1) := by decide +kernel
theorem dX9_stop_53 : decode cX9_stop 53 = .ok (.invokevirtual 208, 3) := by decide +kernel
theorem dX9_stop_56 : decode cX9_stop 56 = .ok (.isub, 1) := by decide +kernel
theorem dX9_stop_57 : decode cX9_stop 57 = .ok (.istore_n 3, 1) := by decide +kernel
theorem dX9_stop_58 : decode cX9_stop 58 = .ok (.aload_n 0, 1) := by decide +kernel
theorem dX9_stop_59 : decode cX9_stop 59 = .ok (.getfield 98, 3) := by decide +kernel
theorem dX9_stop_62 : decode cX9_stop 62 = .ok (.iload_n 1, 1) := by decide +kernel
theorem dX9_stop_63 : decode cX9_stop 63 = .ok (.iconst 4, 1) := by decide +kernel
theorem dX9_stop_64 : decode cX9_stop 64 = .ok (.iastore, 1) := by decide +kernel
theorem dX9_stop_65 : decode cX9_stop 65 = .ok (.aload_n 0, 1) := by decide +kernel
theorem dX9_stop_66 : decode cX9_stop 66 = .ok (.getfield 110, 3) := by decide +kernel
theorem dX9_stop_69 : decode cX9_stop 69 = .ok (.iload_n 1, 1) := by decide +kernel
theorem dX9_stop_70 : decode cX9_stop 70 = .ok (.iconst 0, 1) := by decide +kernel
theorem dX9_stop_71 : decode cX9_stop 71 = .ok (.bastore, 1) := by decide +kernel
theorem dX9_stop_72 : decode cX9_stop 72 = .ok (.iload_n 3, 1) := by decide +kernel
theorem dX9_stop_73 : decode cX9_stop 73 = .ok (.ireturn, 1) := by decide +kernel
theorem dX9_settles_0 : decode cX9_settles 0 = .ok (.iconst 0, 1) := by decide +kernel
theorem dX9_settles_1 : decode cX9_settles 1 = .ok (.istore_n 1, 1) := by decide +kernel
theorem dX9_settles_2 : decode cX9_settles 2 = .ok (.iload_n 1, 1) := by decide +kernel
theorem dX9_settles_3 : decode cX9_settles 3 = .ok (.aload_n 0, 1) := by decide +kernel
theorem dX9_settles_4 : decode cX9_settles 4 = .ok (.getfield 162, 3) := by decide +kernel
theorem dX9_settles_7 : decode cX9_settles 7 = .ok (.if_icmp .ge 72, 3) := by decide +kernel
theorem dX9_settles_10 : decode cX9_settles 10 = .ok (.aload_n 0, 1) := by decide +kernel
theorem dX9_settles_11 : decode cX9_settles 11 = .ok (.getfield 98, 3) := by decide +kernel
theorem dX9_settles_14 : decode cX9_settles 14 = .ok (.iload_n 1, 1) := by decide +kernel
theorem dX9_settles_15 : decode cX9_settles 15 = .ok (.iaload, 1) := by decide +kernel
theorem dX9_settles_16 : decode cX9_settles 16 = .ok (.ifCond .ne 57, 3) := by decide +kernel
theorem dX9_settles_19 : decode cX9_settles 19 = .ok (.aload_n 0, 1) := by decide +kernel
theorem dX9_settles_20 : decode cX9_settles 20 = .ok (.invokevirtual 175, 3) := by decide +kernel
theorem dX9_settles_23 : decode cX9_settles 23 = .ok (.aload_n 0, 1) := by decide +kernel
theorem dX9_settles_24 : decode cX9_settles 24 = .ok (.getfield 95, 3) := by decide +kernel
theorem dX9_settles_27 : decode cX9_settles 27 = .ok (.iload_n 1, 1) := by decide +kernel
theorem dX9_settles_28 : decode cX9_settles 28 = .ok (.iaload, 1) := by decide +kernel
theorem dX9_settles_29 : decode cX9_settles 29 = .ok (.aload_n 0, 1) := by decide +kernel
theorem dX9_settles_30 : decode cX9_settles 30 = .ok (.getfield 86, 3) := by decide +kernel
theorem dX9_settles_33 : decode cX9_settles 33 = .ok (.iload_n 1, 1) := by decide +kernel
theorem dX9_settles_34 : decode cX9_settles 34 = .ok (.iaload, 1) := by decide +kernel
theorem dX9_settles_35 : decode cX9_settles 35 = .ok (.iconst 2, 1) := by decide +kernel
theorem dX9_settles_36 : decode cX9_settles 36 = .ok (.if_icmp .ne 7, 3) := by decide +kernel
theorem dX9_settles_39 : decode cX9_settles 39 = .ok (.iconst 2, 1) := by decide +kernel
theorem dX9_settles_40 : decode cX9_settles 40 = .ok (.goto 4, 3) := by decide +kernel
theorem dX9_settles_43 : decode cX9_settles 43 = .ok (.iconst 5, 1) := by decide +kernel
theorem dX9_settles_44 : decode cX9_settles 44 = .ok (.iadd, 1) := by decide +kernel
theorem dX9_settles_45 : decode cX9_settles 45 = .ok (.if_icmp .ne 28, 3) := by decide +kernel
theorem dX9_settles_48 : decode cX9_settles 48 = .ok (.aload_n 0, 1) := by decide +kernel
theorem dX9_settles_49 : decode cX9_settles 49 = .ok (.iload_n 1, 1) := by decide +kernel
theorem dX9_settles_50 : decode cX9_settles 50 = .ok (.invokevirtual 237, 3) := by decide +kernel
theorem dX9_settles_53 : decode cX9_settles 53 = .ok (.ifCond .le 13, 3) := by decide +kernel
theorem dX9_settles_56 : decode cX9_settles 56 = .ok (.aload_n 0, 1) := by decide +kernel
theorem dX9_settles_57 : decode cX9_settles 57 = .ok (.getfield 98, 3) := by decide +kernel
theorem dX9_settles_60 : decode cX9_settles 60 = .ok (.iload_n 1, 1) := by decide +kernel
theorem dX9_settles_61 : decode cX9_settles 61 = .ok (.iconst 2, 1) := by decide +kernel
theorem dX9_settles_62 : decode cX9_settles 62 = .ok (.iastore, 1) := by decide +kernel
theorem dX9_settles_63 : decode cX9_settles 63 = .ok (.goto 10, 3) := by decide +kernel
theorem dX9_settles_66 : decode cX9_settles 66 = .ok (.aload_n 0, 1) := by decide +kernel
theorem dX9_settles_67 : decode cX9_settles 67 = .ok (.iload_n 1, 1) := by decide +kernel
theorem dX9_settles_68 : decode cX9_settles 68 = .ok (.iconst 0, 1) := by decide +kernel
theorem dX9_settles_69 : decode cX9_settles 69 = .ok (.invokevirtual 240, 3) := by decide +kernel
theorem dX9_settles_72 : decode cX9_settles 72 = .ok (.istore_n 2, 1) := by decide +kernel
theorem dX9_settles_73 : decode cX9_settles 73 = .ok (.iinc 1 1, 3) := by decide +kernel
theorem dX9_settles_76 : decode cX9_settles 76 = .ok (.goto (-74), 3) := by decide +kernel
theorem dX9_settles_79 : decode cX9_settles 79 = .ok (.return_, 1) := by decide +kernel
theorem dX9_grade_0 : decode cX9_grade 0 = .ok (.iconst 4, 1) := by decide +kernel
theorem dX9_grade_1 : decode cX9_grade 1 = .ok (.aload_n 0, 1) := by decide +kernel
theorem dX9_grade_2 : decode cX9_grade 2 = .ok (.getfield 13, 3) := by decide +kernel
theorem dX9_grade_5 : decode cX9_grade 5 = .ok (.aload_n 0, 1) := by decide +kernel
theorem dX9_grade_6 : decode cX9_grade 6 = .ok (.getfield 74, 3) := by decide +kernel
theorem dX9_grade_9 : decode cX9_grade 9 = .ok (.iload_n 1, 1) := by decide +kernel
theorem dX9_grade_10 : decode cX9_grade 10 = .ok (.iaload, 1) := by decide +kernel
theorem dX9_grade_11 : decode cX9_grade 11 = .ok (.iaload, 1) := by decide +kernel
theorem dX9_grade_12 : decode cX9_grade 12 = .ok (.isub, 1) := by decide +kernel
theorem dX9_grade_13 : decode cX9_grade 13 = .ok (.ireturn, 1) := by decide +kernel
theorem dX9_takes_0 : decode cX9_takes 0 = .ok (.aload_n 0, 1) := by decide +kernel
theorem dX9_takes_1 : decode cX9_takes 1 = .ok (.getfield 98, 3) := by decide +kernel
theorem dX9_takes_4 : decode cX9_takes 4 = .ok (.iload_n 1, 1) := by decide +kernel
theorem dX9_takes_5 : decode cX9_takes 5 = .ok (.iaload, 1) := by decide +kernel
theorem dX9_takes_6 : decode cX9_takes 6 = .ok (.iconst 3, 1) := by decide +kernel
theorem dX9_takes_7 : decode cX9_takes 7 = .ok (.if_icmp .ne 24, 3) := by decide +kernel
theorem dX9_takes_10 : decode cX9_takes 10 = .ok (.aload_n 0, 1) := by decide +kernel
theorem dX9_takes_11 : decode cX9_takes 11 = .ok (.getfield 110, 3) := by decide +kernel
theorem dX9_takes_14 : decode cX9_takes 14 = .ok (.iload_n 1, 1) := by decide +kernel
theorem dX9_takes_15 : decode cX9_takes 15 = .ok (.baload, 1) := by decide +kernel
theorem dX9_takes_16 : decode cX9_takes 16 = .ok (.ifCond .ne 15, 3) := by decide +kernel
theorem dX9_takes_19 : decode cX9_takes 19 = .ok (.aload_n 0, 1) := by decide +kernel
theorem dX9_takes_20 : decode cX9_takes 20 = .ok (.iload_n 1, 1) := by decide +kernel
theorem dX9_takes_21 : decode cX9_takes 21 = .ok (.invokevirtual 259, 3) := by decide +kernel
theorem dX9_takes_24 : decode cX9_takes 24 = .ok (.ifCond .le 7, 3) := by decide +kernel
theorem dX9_takes_27 : decode cX9_takes 27 = .ok (.iconst 1, 1) := by decide +kernel
theorem dX9_takes_28 : decode cX9_takes 28 = .ok (.goto 4, 3) := by decide +kernel
theorem dX9_takes_31 : decode cX9_takes 31 = .ok (.iconst 0, 1) := by decide +kernel
theorem dX9_takes_32 : decode cX9_takes 32 = .ok (.ireturn, 1) := by decide +kernel
theorem dX9_isTaken_0 : decode cX9_isTaken 0 = .ok (.iconst 0, 1) := by decide +kernel
theorem dX9_isTaken_1 : decode cX9_isTaken 1 = .ok (.istore_n 2, 1) := by decide +kernel
theorem dX9_isTaken_2 : decode cX9_isTaken 2 = .ok (.iconst 0, 1) := by decide +kernel
theorem dX9_isTaken_3 : decode cX9_isTaken 3 = .ok (.istore_n 3, 1) := by decide +kernel
theorem dX9_isTaken_4 : decode cX9_isTaken 4 = .ok (.iload_n 3, 1) := by decide +kernel
theorem dX9_isTaken_5 : decode cX9_isTaken 5 = .ok (.aload_n 0, 1) := by decide +kernel
theorem dX9_isTaken_6 : decode cX9_isTaken 6 = .ok (.getfield 162, 3) := by decide +kernel
theorem dX9_isTaken_9 : decode cX9_isTaken 9 = .ok (.if_icmp .ge 37, 3) := by decide +kernel
theorem dX9_isTaken_12 : decode cX9_isTaken 12 = .ok (.iload_n 2, 1) := by decide +kernel
theorem dX9_isTaken_13 : decode cX9_isTaken 13 = .ok (.ifCond .ne 21, 3) := by decide +kernel
theorem dX9_isTaken_16 : decode cX9_isTaken 16 = .ok (.aload_n 0, 1) := by decide +kernel
theorem dX9_isTaken_17 : decode cX9_isTaken 17 = .ok (.getfield 74, 3) := by decide +kernel
theorem dX9_isTaken_20 : decode cX9_isTaken 20 = .ok (.iload_n 3, 1) := by decide +kernel
theorem dX9_isTaken_21 : decode cX9_isTaken 21 = .ok (.iaload, 1) := by decide +kernel
theorem dX9_isTaken_22 : decode cX9_isTaken 22 = .ok (.iload_n 1, 1) := by decide +kernel
theorem dX9_isTaken_23 : decode cX9_isTaken 23 = .ok (.if_icmp .ne 15, 3) := by decide +kernel
theorem dX9_isTaken_26 : decode cX9_isTaken 26 = .ok (.aload_n 0, 1) := by decide +kernel
theorem dX9_isTaken_27 : decode cX9_isTaken 27 = .ok (.iload_n 3, 1) := by decide +kernel
theorem dX9_isTaken_28 : decode cX9_isTaken 28 = .ok (.invokevirtual 262, 3) := by decide +kernel
theorem dX9_isTaken_31 : decode cX9_isTaken 31 = .ok (.ifCond .eq 7, 3) := by decide +kernel
theorem dX9_isTaken_34 : decode cX9_isTaken 34 = .ok (.iconst 1, 1) := by decide +kernel
theorem dX9_isTaken_35 : decode cX9_isTaken 35 = .ok (.goto 4, 3) := by decide +kernel
theorem dX9_isTaken_38 : decode cX9_isTaken 38 = .ok (.iconst 0, 1) := by decide +kernel
theorem dX9_isTaken_39 : decode cX9_isTaken 39 = .ok (.istore_n 2, 1) := by decide +kernel
theorem dX9_isTaken_40 : decode cX9_isTaken 40 = .ok (.iinc 3 1, 3) := by decide +kernel
theorem dX9_isTaken_43 : decode cX9_isTaken 43 = .ok (.goto (-39), 3) := by decide +kernel
theorem dX9_isTaken_46 : decode cX9_isTaken 46 = .ok (.iload_n 2, 1) := by decide +kernel
theorem dX9_isTaken_47 : decode cX9_isTaken 47 = .ok (.ireturn, 1) := by decide +kernel
theorem dX9_shares_0 : decode cX9_shares 0 = .ok (.iconst 0, 1) := by decide +kernel
theorem dX9_shares_1 : decode cX9_shares 1 = .ok (.istore_n 2, 1) := by decide +kernel
theorem dX9_shares_2 : decode cX9_shares 2 = .ok (.iconst 0, 1) := by decide +kernel
theorem dX9_shares_3 : decode cX9_shares 3 = .ok (.istore_n 3, 1) := by decide +kernel
theorem dX9_shares_4 : decode cX9_shares 4 = .ok (.iload_n 3, 1) := by decide +kernel
theorem dX9_shares_5 : decode cX9_shares 5 = .ok (.aload_n 0, 1) := by decide +kernel
theorem dX9_shares_6 : decode cX9_shares 6 = .ok (.getfield 162, 3) := by decide +kernel
theorem dX9_shares_9 : decode cX9_shares 9 = .ok (.if_icmp .ge 56, 3) := by decide +kernel
theorem dX9_shares_12 : decode cX9_shares 12 = .ok (.iload_n 2, 1) := by decide +kernel
theorem dX9_shares_13 : decode cX9_shares 13 = .ok (.ifCond .ne 40, 3) := by decide +kernel
theorem dX9_shares_16 : decode cX9_shares 16 = .ok (.aload_n 0, 1) := by decide +kernel
theorem dX9_shares_17 : decode cX9_shares 17 = .ok (.getfield 116, 3) := by decide +kernel
theorem dX9_shares_20 : decode cX9_shares 20 = .ok (.bipush 24, 2) := by decide +kernel
theorem dX9_shares_22 : decode cX9_shares 22 = .ok (.iload_n 1, 1) := by decide +kernel
theorem dX9_shares_23 : decode cX9_shares 23 = .ok (.imul, 1) := by decide +kernel
theorem dX9_shares_24 : decode cX9_shares 24 = .ok (.iload_n 3, 1) := by decide +kernel
theorem dX9_shares_25 : decode cX9_shares 25 = .ok (.iadd, 1) := by decide +kernel
theorem dX9_shares_26 : decode cX9_shares 26 = .ok (.baload, 1) := by decide +kernel
theorem dX9_shares_27 : decode cX9_shares 27 = .ok (.ifCond .eq 30, 3) := by decide +kernel
theorem dX9_shares_30 : decode cX9_shares 30 = .ok (.aload_n 0, 1) := by decide +kernel
theorem dX9_shares_31 : decode cX9_shares 31 = .ok (.getfield 74, 3) := by decide +kernel
theorem dX9_shares_34 : decode cX9_shares 34 = .ok (.iload_n 3, 1) := by decide +kernel
theorem dX9_shares_35 : decode cX9_shares 35 = .ok (.iaload, 1) := by decide +kernel
theorem dX9_shares_36 : decode cX9_shares 36 = .ok (.aload_n 0, 1) := by decide +kernel
theorem dX9_shares_37 : decode cX9_shares 37 = .ok (.getfield 74, 3) := by decide +kernel
theorem dX9_shares_40 : decode cX9_shares 40 = .ok (.iload_n 1, 1) := by decide +kernel
theorem dX9_shares_41 : decode cX9_shares 41 = .ok (.iaload, 1) := by decide +kernel
theorem dX9_shares_42 : decode cX9_shares 42 = .ok (.if_icmp .ne 15, 3) := by decide +kernel
theorem dX9_shares_45 : decode cX9_shares 45 = .ok (.aload_n 0, 1) := by decide +kernel
theorem dX9_shares_46 : decode cX9_shares 46 = .ok (.iload_n 3, 1) := by decide +kernel
theorem dX9_shares_47 : decode cX9_shares 47 = .ok (.invokevirtual 262, 3) := by decide +kernel
theorem dX9_shares_50 : decode cX9_shares 50 = .ok (.ifCond .eq 7, 3) := by decide +kernel
theorem dX9_shares_53 : decode cX9_shares 53 = .ok (.iconst 1, 1) := by decide +kernel
theorem dX9_shares_54 : decode cX9_shares 54 = .ok (.goto 4, 3) := by decide +kernel
theorem dX9_shares_57 : decode cX9_shares 57 = .ok (.iconst 0, 1) := by decide +kernel
theorem dX9_shares_58 : decode cX9_shares 58 = .ok (.istore_n 2, 1) := by decide +kernel
theorem dX9_shares_59 : decode cX9_shares 59 = .ok (.iinc 3 1, 3) := by decide +kernel
theorem dX9_shares_62 : decode cX9_shares 62 = .ok (.goto (-58), 3) := by decide +kernel
theorem dX9_shares_65 : decode cX9_shares 65 = .ok (.iload_n 2, 1) := by decide +kernel
theorem dX9_shares_66 : decode cX9_shares 66 = .ok (.ireturn, 1) := by decide +kernel
theorem dX9_rents_0 : decode cX9_rents 0 = .ok (.iconst 0, 1) := by decide +kernel
theorem dX9_rents_1 : decode cX9_rents 1 = .ok (.istore_n 1, 1) := by decide +kernel
theorem dX9_rents_2 : decode cX9_rents 2 = .ok (.iload_n 1, 1) := by decide +kernel
theorem dX9_rents_3 : decode cX9_rents 3 = .ok (.aload_n 0, 1) := by decide +kernel
theorem dX9_rents_4 : decode cX9_rents 4 = .ok (.getfield 162, 3) := by decide +kernel
theorem dX9_rents_7 : decode cX9_rents 7 = .ok (.if_icmp .ge 81, 3) := by decide +kernel
theorem dX9_rents_10 : decode cX9_rents 10 = .ok (.aload_n 0, 1) := by decide +kernel
theorem dX9_rents_11 : decode cX9_rents 11 = .ok (.iload_n 1, 1) := by decide +kernel
theorem dX9_rents_12 : decode cX9_rents 12 = .ok (.invokevirtual 262, 3) := by decide +kernel
theorem dX9_rents_15 : decode cX9_rents 15 = .ok (.ifCond .eq 67, 3) := by decide +kernel
theorem dX9_rents_18 : decode cX9_rents 18 = .ok (.bipush 50, 2) := by decide +kernel
theorem dX9_rents_20 : decode cX9_rents 20 = .ok (.aload_n 0, 1) := by decide +kernel
theorem dX9_rents_21 : decode cX9_rents 21 = .ok (.iload_n 1, 1) := by decide +kernel
theorem dX9_rents_22 : decode cX9_rents 22 = .ok (.invokevirtual 265, 3) := by decide +kernel
theorem dX9_rents_25 : decode cX9_rents 25 = .ok (.imul, 1) := by decide +kernel
theorem dX9_rents_26 : decode cX9_rents 26 = .ok (.istore_n 2, 1) := by decide +kernel
theorem dX9_rents_27 : decode cX9_rents 27 = .ok (.aload_n 0, 1) := by decide +kernel
theorem dX9_rents_28 : decode cX9_rents 28 = .ok (.aload_n 0, 1) := by decide +kernel
theorem dX9_rents_29 : decode cX9_rents 29 = .ok (.getfield 71, 3) := by decide +kernel
theorem dX9_rents_32 : decode cX9_rents 32 = .ok (.iload_n 1, 1) := by decide +kernel
theorem dX9_rents_33 : decode cX9_rents 33 = .ok (.iaload, 1) := by decide +kernel
theorem dX9_rents_34 : decode cX9_rents 34 = .ok (.iconst 5, 1) := by decide +kernel
theorem dX9_rents_35 : decode cX9_rents 35 = .ok (.aload_n 0, 1) := by decide +kernel
theorem dX9_rents_36 : decode cX9_rents 36 = .ok (.iload_n 1, 1) := by decide +kernel
theorem dX9_rents_37 : decode cX9_rents 37 = .ok (.invokevirtual 268, 3) := by decide +kernel
theorem dX9_rents_40 : decode cX9_rents 40 = .ok (.ifCond .eq 9, 3) := by decide +kernel
theorem dX9_rents_43 : decode cX9_rents 43 = .ok (.iload_n 2, 1) := by decide +kernel
theorem dX9_rents_44 : decode cX9_rents 44 = .ok (.iconst 2, 1) := by decide +kernel
theorem dX9_rents_45 : decode cX9_rents 45 = .ok (.idiv, 1) := by decide +kernel
theorem dX9_rents_46 : decode cX9_rents 46 = .ok (.goto 4, 3) := by decide +kernel
theorem dX9_rents_49 : decode cX9_rents 49 = .ok (.iload_n 2, 1) := by decide +kernel
theorem dX9_rents_50 : decode cX9_rents 50 = .ok (.invokevirtual 230, 3) := by decide +kernel
theorem dX9_rents_53 : decode cX9_rents 53 = .ok (.aload_n 0, 1) := by decide +kernel
theorem dX9_rents_54 : decode cX9_rents 54 = .ok (.aload_n 0, 1) := by decide +kernel
theorem dX9_rents_55 : decode cX9_rents 55 = .ok (.getfield 71, 3) := by decide +kernel
theorem dX9_rents_58 : decode cX9_rents 58 = .ok (.iload_n 1, 1) := by decide +kernel
theorem dX9_rents_59 : decode cX9_rents 59 = .ok (.iaload, 1) := by decide +kernel
theorem dX9_rents_60 : decode cX9_rents 60 = .ok (.iconst 5, 1) := by decide +kernel
theorem dX9_rents_61 : decode cX9_rents 61 = .ok (.aload_n 0, 1) := by decide +kernel
theorem dX9_rents_62 : decode cX9_rents 62 = .ok (.getfield 101, 3) := by decide +kernel
theorem dX9_rents_65 : decode cX9_rents 65 = .ok (.iload_n 1, 1) := by decide +kernel
theorem dX9_rents_66 : decode cX9_rents 66 = .ok (.iaload, 1) := by decide +kernel
theorem dX9_rents_67 : decode cX9_rents 67 = .ok (.iconst 2, 1) := by decide +kernel
theorem dX9_rents_68 : decode cX9_rents 68 = .ok (.iand, 1) := by decide +kernel
theorem dX9_rents_69 : decode cX9_rents 69 = .ok (.ifCond .eq 9, 3) := by decide +kernel
theorem dX9_rents_72 : decode cX9_rents 72 = .ok (.sipush 200, 3) := by decide +kernel
theorem dX9_rents_75 : decode cX9_rents 75 = .ok (.goto 4, 3) := by decide +kernel
theorem dX9_rents_78 : decode cX9_rents 78 = .ok (.iconst 0, 1) := by decide +kernel
theorem dX9_rents_79 : decode cX9_rents 79 = .ok (.invokevirtual 230, 3) := by decide +kernel
theorem dX9_rents_82 : decode cX9_rents 82 = .ok (.iinc 1 1, 3) := by decide +kernel
theorem dX9_rents_85 : decode cX9_rents 85 = .ok (.goto (-83), 3) := by decide +kernel
theorem dX9_rents_88 : decode cX9_rents 88 = .ok (.return_, 1) := by decide +kernel
theorem dX9_waits_0 : decode cX9_waits 0 = .ok (.iconst 0, 1) := by decide +kernel
theorem dX9_waits_1 : decode cX9_waits 1 = .ok (.istore_n 1, 1) := by decide +kernel
theorem dX9_waits_2 : decode cX9_waits 2 = .ok (.iload_n 1, 1) := by decide +kernel
theorem dX9_waits_3 : decode cX9_waits 3 = .ok (.aload_n 0, 1) := by decide +kernel
theorem dX9_waits_4 : decode cX9_waits 4 = .ok (.getfield 148, 3) := by decide +kernel
theorem dX9_waits_7 : decode cX9_waits 7 = .ok (.if_icmp .ge 16, 3) := by decide +kernel
theorem dX9_waits_10 : decode cX9_waits 10 = .ok (.aload_n 0, 1) := by decide +kernel
theorem dX9_waits_11 : decode cX9_waits 11 = .ok (.getfield 37, 3) := by decide +kernel
theorem dX9_waits_14 : decode cX9_waits 14 = .ok (.iload_n 1, 1) := by decide +kernel
theorem dX9_waits_15 : decode cX9_waits 15 = .ok (.iconst 0, 1) := by decide +kernel
theorem dX9_waits_16 : decode cX9_waits 16 = .ok (.iastore, 1) := by decide +kernel
theorem dX9_waits_17 : decode cX9_waits 17 = .ok (.iinc 1 1, 3) := by decide +kernel
theorem dX9_waits_20 : decode cX9_waits 20 = .ok (.goto (-18), 3) := by decide +kernel
theorem dX9_waits_23 : decode cX9_waits 23 = .ok (.iconst 0, 1) := by decide +kernel
theorem dX9_waits_24 : decode cX9_waits 24 = .ok (.istore_n 1, 1) := by decide +kernel
theorem dX9_waits_25 : decode cX9_waits 25 = .ok (.iload_n 1, 1) := by decide +kernel
theorem dX9_waits_26 : decode cX9_waits 26 = .ok (.aload_n 0, 1) := by decide +kernel
theorem dX9_waits_27 : decode cX9_waits 27 = .ok (.getfield 148, 3) := by decide +kernel
theorem dX9_waits_30 : decode cX9_waits 30 = .ok (.if_icmp .ge 76, 3) := by decide +kernel
theorem dX9_waits_33 : decode cX9_waits 33 = .ok (.aload_n 0, 1) := by decide +kernel
theorem dX9_waits_34 : decode cX9_waits 34 = .ok (.iload_n 1, 1) := by decide +kernel
theorem dX9_waits_35 : decode cX9_waits 35 = .ok (.invokevirtual 271, 3) := by decide +kernel
theorem dX9_waits_38 : decode cX9_waits 38 = .ok (.ifCond .eq 24, 3) := by decide +kernel
theorem dX9_waits_41 : decode cX9_waits 41 = .ok (.aload_n 0, 1) := by decide +kernel
theorem dX9_waits_42 : decode cX9_waits 42 = .ok (.getfield 19, 3) := by decide +kernel
theorem dX9_waits_45 : decode cX9_waits 45 = .ok (.iload_n 1, 1) := by decide +kernel
theorem dX9_waits_46 : decode cX9_waits 46 = .ok (.iaload, 1) := by decide +kernel
theorem dX9_waits_47 : decode cX9_waits 47 = .ok (.iconst (-1), 1) := by decide +kernel
theorem dX9_waits_48 : decode cX9_waits 48 = .ok (.if_icmp .eq 14, 3) := by decide +kernel
theorem dX9_waits_51 : decode cX9_waits 51 = .ok (.aload_n 0, 1) := by decide +kernel
theorem dX9_waits_52 : decode cX9_waits 52 = .ok (.getfield 16, 3) := by decide +kernel
