theorem dX8_fineLate_35 : decode cX8_fineLate 35 = .ok (.invokevirtual 84, 3) := by decide +kernel
theorem dX8_fineLate_38 : decode cX8_fineLate 38 = .ok (.if_icmp .ge 23, 3) := by decide +kernel
theorem dX8_fineLate_41 : decode cX8_fineLate 41 = .ok (.aload_n 0, 1) := by decide +kernel
theorem dX8_fineLate_42 : decode cX8_fineLate 42 = .ok (.aload_n 2, 1) := by decide +kernel
theorem dX8_fineLate_43 : decode cX8_fineLate 43 = .ok (.getfield 319, 3) := by decide +kernel
theorem dX8_fineLate_46 : decode cX8_fineLate 46 = .ok (.iconst 5, 1) := by decide +kernel
theorem dX8_fineLate_47 : decode cX8_fineLate 47 = .ok (.sipush 500, 3) := by decide +kernel
theorem dX8_fineLate_50 : decode cX8_fineLate 50 = .ok (.aload_n 2, 1) := by decide +kernel
theorem dX8_fineLate_51 : decode cX8_fineLate 51 = .ok (.getfield 114, 3) := by decide +kernel
theorem dX8_fineLate_54 : decode cX8_fineLate 54 = .ok (.invokevirtual 502, 3) := by decide +kernel
theorem dX8_fineLate_57 : decode cX8_fineLate 57 = .ok (.imul, 1) := by decide +kernel
theorem dX8_fineLate_58 : decode cX8_fineLate 58 = .ok (.invokevirtual 366, 3) := by decide +kernel
theorem dX8_fineLate_61 : decode cX8_fineLate 61 = .ok (.iinc 1 1, 3) := by decide +kernel
theorem dX8_fineLate_64 : decode cX8_fineLate 64 = .ok (.goto (-62), 3) := by decide +kernel
theorem dX8_fineLate_67 : decode cX8_fineLate 67 = .ok (.return_, 1) := by decide +kernel
theorem dX8_takeStreets_0 : decode cX8_takeStreets 0 = .ok (.iconst 0, 1) := by decide +kernel
theorem dX8_takeStreets_1 : decode cX8_takeStreets 1 = .ok (.istore_n 1, 1) := by decide +kernel
theorem dX8_takeStreets_2 : decode cX8_takeStreets 2 = .ok (.iload_n 1, 1) := by decide +kernel
theorem dX8_takeStreets_3 : decode cX8_takeStreets 3 = .ok (.aload_n 0, 1) := by decide +kernel
theorem dX8_takeStreets_4 : decode cX8_takeStreets 4 = .ok (.getfield 11, 3) := by decide +kernel
theorem dX8_takeStreets_7 : decode cX8_takeStreets 7 = .ok (.arraylength, 1) := by decide +kernel
theorem dX8_takeStreets_8 : decode cX8_takeStreets 8 = .ok (.if_icmp .ge 25, 3) := by decide +kernel
theorem dX8_takeStreets_11 : decode cX8_takeStreets 11 = .ok (.aload_n 0, 1) := by decide +kernel
theorem dX8_takeStreets_12 : decode cX8_takeStreets 12 = .ok (.getfield 11, 3) := by decide +kernel
theorem dX8_takeStreets_15 : decode cX8_takeStreets 15 = .ok (.iload_n 1, 1) := by decide +kernel
theorem dX8_takeStreets_16 : decode cX8_takeStreets 16 = .ok (.aaload, 1) := by decide +kernel
theorem dX8_takeStreets_17 : decode cX8_takeStreets 17 = .ok (.astore_n 2, 1) := by decide +kernel
theorem dX8_takeStreets_18 : decode cX8_takeStreets 18 = .ok (.aload_n 2, 1) := by decide +kernel
theorem dX8_takeStreets_19 : decode cX8_takeStreets 19 = .ok (.ifnull 8, 3) := by decide +kernel
theorem dX8_takeStreets_22 : decode cX8_takeStreets 22 = .ok (.aload_n 2, 1) := by decide +kernel
theorem dX8_takeStreets_23 : decode cX8_takeStreets 23 = .ok (.iconst 0, 1) := by decide +kernel
theorem dX8_takeStreets_24 : decode cX8_takeStreets 24 = .ok (.putfield 505, 3) := by decide +kernel
theorem dX8_takeStreets_27 : decode cX8_takeStreets 27 = .ok (.iinc 1 1, 3) := by decide +kernel
theorem dX8_takeStreets_30 : decode cX8_takeStreets 30 = .ok (.goto (-28), 3) := by decide +kernel
theorem dX8_takeStreets_33 : decode cX8_takeStreets 33 = .ok (.iconst 0, 1) := by decide +kernel
theorem dX8_takeStreets_34 : decode cX8_takeStreets 34 = .ok (.istore_n 1, 1) := by decide +kernel
theorem dX8_takeStreets_35 : decode cX8_takeStreets 35 = .ok (.iload_n 1, 1) := by decide +kernel
theorem dX8_takeStreets_36 : decode cX8_takeStreets 36 = .ok (.aload_n 0, 1) := by decide +kernel
theorem dX8_takeStreets_37 : decode cX8_takeStreets 37 = .ok (.getfield 23, 3) := by decide +kernel
theorem dX8_takeStreets_40 : decode cX8_takeStreets 40 = .ok (.arraylength, 1) := by decide +kernel
theorem dX8_takeStreets_41 : decode cX8_takeStreets 41 = .ok (.if_icmp .ge 43, 3) := by decide +kernel
theorem dX8_takeStreets_44 : decode cX8_takeStreets 44 = .ok (.aload_n 0, 1) := by decide +kernel
theorem dX8_takeStreets_45 : decode cX8_takeStreets 45 = .ok (.getfield 23, 3) := by decide +kernel
theorem dX8_takeStreets_48 : decode cX8_takeStreets 48 = .ok (.iload_n 1, 1) := by decide +kernel
theorem dX8_takeStreets_49 : decode cX8_takeStreets 49 = .ok (.aaload, 1) := by decide +kernel
theorem dX8_takeStreets_50 : decode cX8_takeStreets 50 = .ok (.astore_n 2, 1) := by decide +kernel
theorem dX8_takeStreets_51 : decode cX8_takeStreets 51 = .ok (.aload_n 2, 1) := by decide +kernel
theorem dX8_takeStreets_52 : decode cX8_takeStreets 52 = .ok (.ifnull 26, 3) := by decide +kernel
theorem dX8_takeStreets_55 : decode cX8_takeStreets 55 = .ok (.aload_n 2, 1) := by decide +kernel
theorem dX8_takeStreets_56 : decode cX8_takeStreets 56 = .ok (.invokevirtual 508, 3) := by decide +kernel
theorem dX8_takeStreets_59 : decode cX8_takeStreets 59 = .ok (.ifCond .eq 19, 3) := by decide +kernel
theorem dX8_takeStreets_62 : decode cX8_takeStreets 62 = .ok (.aload_n 2, 1) := by decide +kernel
theorem dX8_takeStreets_63 : decode cX8_takeStreets 63 = .ok (.getfield 114, 3) := by decide +kernel
theorem dX8_takeStreets_66 : decode cX8_takeStreets 66 = .ok (.dup, 1) := by decide +kernel
theorem dX8_takeStreets_67 : decode cX8_takeStreets 67 = .ok (.getfield 505, 3) := by decide +kernel
theorem dX8_takeStreets_70 : decode cX8_takeStreets 70 = .ok (.aload_n 2, 1) := by decide +kernel
theorem dX8_takeStreets_71 : decode cX8_takeStreets 71 = .ok (.invokevirtual 263, 3) := by decide +kernel
theorem dX8_takeStreets_74 : decode cX8_takeStreets 74 = .ok (.ior, 1) := by decide +kernel
theorem dX8_takeStreets_75 : decode cX8_takeStreets 75 = .ok (.putfield 505, 3) := by decide +kernel
theorem dX8_takeStreets_78 : decode cX8_takeStreets 78 = .ok (.iinc 1 1, 3) := by decide +kernel
theorem dX8_takeStreets_81 : decode cX8_takeStreets 81 = .ok (.goto (-46), 3) := by decide +kernel
theorem dX8_takeStreets_84 : decode cX8_takeStreets 84 = .ok (.return_, 1) := by decide +kernel
theorem dX8_chargeTakers_0 : decode cX8_chargeTakers 0 = .ok (.iconst 0, 1) := by decide +kernel
theorem dX8_chargeTakers_1 : decode cX8_chargeTakers 1 = .ok (.istore_n 1, 1) := by decide +kernel
theorem dX8_chargeTakers_2 : decode cX8_chargeTakers 2 = .ok (.iload_n 1, 1) := by decide +kernel
theorem dX8_chargeTakers_3 : decode cX8_chargeTakers 3 = .ok (.aload_n 0, 1) := by decide +kernel
theorem dX8_chargeTakers_4 : decode cX8_chargeTakers 4 = .ok (.getfield 23, 3) := by decide +kernel
theorem dX8_chargeTakers_7 : decode cX8_chargeTakers 7 = .ok (.arraylength, 1) := by decide +kernel
theorem dX8_chargeTakers_8 : decode cX8_chargeTakers 8 = .ok (.if_icmp .ge 101, 3) := by decide +kernel
theorem dX8_chargeTakers_11 : decode cX8_chargeTakers 11 = .ok (.aload_n 0, 1) := by decide +kernel
theorem dX8_chargeTakers_12 : decode cX8_chargeTakers 12 = .ok (.getfield 23, 3) := by decide +kernel
theorem dX8_chargeTakers_15 : decode cX8_chargeTakers 15 = .ok (.iload_n 1, 1) := by decide +kernel
theorem dX8_chargeTakers_16 : decode cX8_chargeTakers 16 = .ok (.aaload, 1) := by decide +kernel
theorem dX8_chargeTakers_17 : decode cX8_chargeTakers 17 = .ok (.astore_n 2, 1) := by decide +kernel
theorem dX8_chargeTakers_18 : decode cX8_chargeTakers 18 = .ok (.aload_n 2, 1) := by decide +kernel
theorem dX8_chargeTakers_19 : decode cX8_chargeTakers 19 = .ok (.ifnull 84, 3) := by decide +kernel
theorem dX8_chargeTakers_22 : decode cX8_chargeTakers 22 = .ok (.aload_n 2, 1) := by decide +kernel
theorem dX8_chargeTakers_23 : decode cX8_chargeTakers 23 = .ok (.invokevirtual 508, 3) := by decide +kernel
theorem dX8_chargeTakers_26 : decode cX8_chargeTakers 26 = .ok (.ifCond .eq 77, 3) := by decide +kernel
theorem dX8_chargeTakers_29 : decode cX8_chargeTakers 29 = .ok (.bipush 50, 2) := by decide +kernel
theorem dX8_chargeTakers_31 : decode cX8_chargeTakers 31 = .ok (.aload_n 2, 1) := by decide +kernel
theorem dX8_chargeTakers_32 : decode cX8_chargeTakers 32 = .ok (.getfield 114, 3) := by decide +kernel
theorem dX8_chargeTakers_35 : decode cX8_chargeTakers 35 = .ok (.invokevirtual 502, 3) := by decide +kernel
theorem dX8_chargeTakers_38 : decode cX8_chargeTakers 38 = .ok (.imul, 1) := by decide +kernel
theorem dX8_chargeTakers_39 : decode cX8_chargeTakers 39 = .ok (.istore_n 3, 1) := by decide +kernel
theorem dX8_chargeTakers_40 : decode cX8_chargeTakers 40 = .ok (.aload_n 2, 1) := by decide +kernel
theorem dX8_chargeTakers_41 : decode cX8_chargeTakers 41 = .ok (.getfield 114, 3) := by decide +kernel
theorem dX8_chargeTakers_44 : decode cX8_chargeTakers 44 = .ok (.getfield 505, 3) := by decide +kernel
theorem dX8_chargeTakers_47 : decode cX8_chargeTakers 47 = .ok (.aload_n 2, 1) := by decide +kernel
theorem dX8_chargeTakers_48 : decode cX8_chargeTakers 48 = .ok (.getfield 260, 3) := by decide +kernel
theorem dX8_chargeTakers_51 : decode cX8_chargeTakers 51 = .ok (.iand, 1) := by decide +kernel
theorem dX8_chargeTakers_52 : decode cX8_chargeTakers 52 = .ok (.ifCond .eq 7, 3) := by decide +kernel
theorem dX8_chargeTakers_55 : decode cX8_chargeTakers 55 = .ok (.iconst 1, 1) := by decide +kernel
theorem dX8_chargeTakers_56 : decode cX8_chargeTakers 56 = .ok (.goto 4, 3) := by decide +kernel
theorem dX8_chargeTakers_59 : decode cX8_chargeTakers 59 = .ok (.iconst 0, 1) := by decide +kernel
theorem dX8_chargeTakers_60 : decode cX8_chargeTakers 60 = .ok (.istore 4, 2) := by decide +kernel
theorem dX8_chargeTakers_62 : decode cX8_chargeTakers 62 = .ok (.aload_n 0, 1) := by decide +kernel
theorem dX8_chargeTakers_63 : decode cX8_chargeTakers 63 = .ok (.aload_n 2, 1) := by decide +kernel
theorem dX8_chargeTakers_64 : decode cX8_chargeTakers 64 = .ok (.getfield 319, 3) := by decide +kernel
theorem dX8_chargeTakers_67 : decode cX8_chargeTakers 67 = .ok (.iconst 5, 1) := by decide +kernel
theorem dX8_chargeTakers_68 : decode cX8_chargeTakers 68 = .ok (.iload 4, 2) := by decide +kernel
theorem dX8_chargeTakers_70 : decode cX8_chargeTakers 70 = .ok (.ifCond .eq 9, 3) := by decide +kernel
theorem dX8_chargeTakers_73 : decode cX8_chargeTakers 73 = .ok (.iload_n 3, 1) := by decide +kernel
theorem dX8_chargeTakers_74 : decode cX8_chargeTakers 74 = .ok (.iconst 2, 1) := by decide +kernel
theorem dX8_chargeTakers_75 : decode cX8_chargeTakers 75 = .ok (.idiv, 1) := by decide +kernel
theorem dX8_chargeTakers_76 : decode cX8_chargeTakers 76 = .ok (.goto 4, 3) := by decide +kernel
theorem dX8_chargeTakers_79 : decode cX8_chargeTakers 79 = .ok (.iload_n 3, 1) := by decide +kernel
theorem dX8_chargeTakers_80 : decode cX8_chargeTakers 80 = .ok (.invokevirtual 366, 3) := by decide +kernel
theorem dX8_chargeTakers_83 : decode cX8_chargeTakers 83 = .ok (.aload_n 2, 1) := by decide +kernel
theorem dX8_chargeTakers_84 : decode cX8_chargeTakers 84 = .ok (.iconst 2, 1) := by decide +kernel
theorem dX8_chargeTakers_85 : decode cX8_chargeTakers 85 = .ok (.invokevirtual 280, 3) := by decide +kernel
theorem dX8_chargeTakers_88 : decode cX8_chargeTakers 88 = .ok (.ifCond .eq 15, 3) := by decide +kernel
theorem dX8_chargeTakers_91 : decode cX8_chargeTakers 91 = .ok (.aload_n 0, 1) := by decide +kernel
theorem dX8_chargeTakers_92 : decode cX8_chargeTakers 92 = .ok (.aload_n 2, 1) := by decide +kernel
theorem dX8_chargeTakers_93 : decode cX8_chargeTakers 93 = .ok (.getfield 319, 3) := by decide +kernel
theorem dX8_chargeTakers_96 : decode cX8_chargeTakers 96 = .ok (.iconst 5, 1) := by decide +kernel
theorem dX8_chargeTakers_97 : decode cX8_chargeTakers 97 = .ok (.sipush 200, 3) := by decide +kernel
theorem dX8_chargeTakers_100 : decode cX8_chargeTakers 100 = .ok (.invokevirtual 366, 3) := by decide +kernel
theorem dX8_chargeTakers_103 : decode cX8_chargeTakers 103 = .ok (.iinc 1 1, 3) := by decide +kernel
theorem dX8_chargeTakers_106 : decode cX8_chargeTakers 106 = .ok (.goto (-104), 3) := by decide +kernel
theorem dX8_chargeTakers_109 : decode cX8_chargeTakers 109 = .ok (.return_, 1) := by decide +kernel
theorem dX8_moveQueues_0 : decode cX8_moveQueues 0 = .ok (.iconst 0, 1) := by decide +kernel
theorem dX8_moveQueues_1 : decode cX8_moveQueues 1 = .ok (.istore_n 1, 1) := by decide +kernel
theorem dX8_moveQueues_2 : decode cX8_moveQueues 2 = .ok (.iload_n 1, 1) := by decide +kernel
theorem dX8_moveQueues_3 : decode cX8_moveQueues 3 = .ok (.aload_n 0, 1) := by decide +kernel
theorem dX8_moveQueues_4 : decode cX8_moveQueues 4 = .ok (.getfield 11, 3) := by decide +kernel
theorem dX8_moveQueues_7 : decode cX8_moveQueues 7 = .ok (.arraylength, 1) := by decide +kernel
theorem dX8_moveQueues_8 : decode cX8_moveQueues 8 = .ok (.if_icmp .ge 24, 3) := by decide +kernel
theorem dX8_moveQueues_11 : decode cX8_moveQueues 11 = .ok (.aload_n 0, 1) := by decide +kernel
theorem dX8_moveQueues_12 : decode cX8_moveQueues 12 = .ok (.getfield 11, 3) := by decide +kernel
theorem dX8_moveQueues_15 : decode cX8_moveQueues 15 = .ok (.iload_n 1, 1) := by decide +kernel
theorem dX8_moveQueues_16 : decode cX8_moveQueues 16 = .ok (.aaload, 1) := by decide +kernel
theorem dX8_moveQueues_17 : decode cX8_moveQueues 17 = .ok (.astore_n 2, 1) := by decide +kernel
theorem dX8_moveQueues_18 : decode cX8_moveQueues 18 = .ok (.aload_n 2, 1) := by decide +kernel
theorem dX8_moveQueues_19 : decode cX8_moveQueues 19 = .ok (.ifnull 7, 3) := by decide +kernel
theorem dX8_moveQueues_22 : decode cX8_moveQueues 22 = .ok (.aload_n 2, 1) := by decide +kernel
theorem dX8_moveQueues_23 : decode cX8_moveQueues 23 = .ok (.invokevirtual 511, 3) := by decide +kernel
theorem dX8_moveQueues_26 : decode cX8_moveQueues 26 = .ok (.iinc 1 1, 3) := by decide +kernel
theorem dX8_moveQueues_29 : decode cX8_moveQueues 29 = .ok (.goto (-27), 3) := by decide +kernel
theorem dX8_moveQueues_32 : decode cX8_moveQueues 32 = .ok (.iconst 0, 1) := by decide +kernel
theorem dX8_moveQueues_33 : decode cX8_moveQueues 33 = .ok (.istore_n 1, 1) := by decide +kernel
theorem dX8_moveQueues_34 : decode cX8_moveQueues 34 = .ok (.iload_n 1, 1) := by decide +kernel
theorem dX8_moveQueues_35 : decode cX8_moveQueues 35 = .ok (.aload_n 0, 1) := by decide +kernel
theorem dX8_moveQueues_36 : decode cX8_moveQueues 36 = .ok (.getfield 11, 3) := by decide +kernel
theorem dX8_moveQueues_39 : decode cX8_moveQueues 39 = .ok (.arraylength, 1) := by decide +kernel
theorem dX8_moveQueues_40 : decode cX8_moveQueues 40 = .ok (.if_icmp .ge 24, 3) := by decide +kernel
theorem dX8_moveQueues_43 : decode cX8_moveQueues 43 = .ok (.aload_n 0, 1) := by decide +kernel
theorem dX8_moveQueues_44 : decode cX8_moveQueues 44 = .ok (.getfield 11, 3) := by decide +kernel
theorem dX8_moveQueues_47 : decode cX8_moveQueues 47 = .ok (.iload_n 1, 1) := by decide +kernel
theorem dX8_moveQueues_48 : decode cX8_moveQueues 48 = .ok (.aaload, 1) := by decide +kernel
theorem dX8_moveQueues_49 : decode cX8_moveQueues 49 = .ok (.astore_n 2, 1) := by decide +kernel
theorem dX8_moveQueues_50 : decode cX8_moveQueues 50 = .ok (.aload_n 2, 1) := by decide +kernel
theorem dX8_moveQueues_51 : decode cX8_moveQueues 51 = .ok (.ifnull 7, 3) := by decide +kernel
theorem dX8_moveQueues_54 : decode cX8_moveQueues 54 = .ok (.aload_n 2, 1) := by decide +kernel
theorem dX8_moveQueues_55 : decode cX8_moveQueues 55 = .ok (.invokevirtual 514, 3) := by decide +kernel
theorem dX8_moveQueues_58 : decode cX8_moveQueues 58 = .ok (.iinc 1 1, 3) := by decide +kernel
theorem dX8_moveQueues_61 : decode cX8_moveQueues 61 = .ok (.goto (-27), 3) := by decide +kernel
theorem dX8_moveQueues_64 : decode cX8_moveQueues 64 = .ok (.return_, 1) := by decide +kernel
theorem dX8_whoIsLiable_0 : decode cX8_whoIsLiable 0 = .ok (.aload_n 2, 1) := by decide +kernel
theorem dX8_whoIsLiable_1 : decode cX8_whoIsLiable 1 = .ok (.iload_n 3, 1) := by decide +kernel
theorem dX8_whoIsLiable_2 : decode cX8_whoIsLiable 2 = .ok (.invokevirtual 517, 3) := by decide +kernel
theorem dX8_whoIsLiable_5 : decode cX8_whoIsLiable 5 = .ok (.astore 4, 2) := by decide +kernel
theorem dX8_whoIsLiable_7 : decode cX8_whoIsLiable 7 = .ok (.aload 4, 2) := by decide +kernel
theorem dX8_whoIsLiable_9 : decode cX8_whoIsLiable 9 = .ok (.ifnull 24, 3) := by decide +kernel
theorem dX8_whoIsLiable_12 : decode cX8_whoIsLiable 12 = .ok (.aload_n 0, 1) := by decide +kernel
theorem dX8_whoIsLiable_13 : decode cX8_whoIsLiable 13 = .ok (.invokevirtual 84, 3) := by decide +kernel
theorem dX8_whoIsLiable_16 : decode cX8_whoIsLiable 16 = .ok (.aload 4, 2) := by decide +kernel
theorem dX8_whoIsLiable_18 : decode cX8_whoIsLiable 18 = .ok (.getfield 521, 3) := by decide +kernel
theorem dX8_whoIsLiable_21 : decode cX8_whoIsLiable 21 = .ok (.isub, 1) := by decide +kernel
theorem dX8_whoIsLiable_22 : decode cX8_whoIsLiable 22 = .ok (.aload 4, 2) := by decide +kernel
theorem dX8_whoIsLiable_24 : decode cX8_whoIsLiable 24 = .ok (.getfield 377, 3) := by decide +kernel
theorem dX8_whoIsLiable_27 : decode cX8_whoIsLiable 27 = .ok (.invokevirtual 408, 3) := by decide +kernel
theorem dX8_whoIsLiable_30 : decode cX8_whoIsLiable 30 = .ok (.if_icmp .le 5, 3) := by decide +kernel
theorem dX8_whoIsLiable_33 : decode cX8_whoIsLiable 33 = .ok (.aconst_null, 1) := by decide +kernel
theorem dX8_whoIsLiable_34 : decode cX8_whoIsLiable 34 = .ok (.areturn, 1) := by decide +kernel
theorem dX8_whoIsLiable_35 : decode cX8_whoIsLiable 35 = .ok (.iload_n 3, 1) := by decide +kernel
theorem dX8_whoIsLiable_36 : decode cX8_whoIsLiable 36 = .ok (.bipush 10, 2) := by decide +kernel
theorem dX8_whoIsLiable_38 : decode cX8_whoIsLiable 38 = .ok (.if_icmp .ge 17, 3) := by decide +kernel
theorem dX8_whoIsLiable_41 : decode cX8_whoIsLiable 41 = .ok (.aload_n 1, 1) := by decide +kernel
theorem dX8_whoIsLiable_42 : decode cX8_whoIsLiable 42 = .ok (.getfield 94, 3) := by decide +kernel
theorem dX8_whoIsLiable_45 : decode cX8_whoIsLiable 45 = .ok (.aload 4, 2) := by decide +kernel
theorem dX8_whoIsLiable_47 : decode cX8_whoIsLiable 47 = .ok (.getfield 522, 3) := by decide +kernel
theorem dX8_whoIsLiable_50 : decode cX8_whoIsLiable 50 = .ok (.if_icmp .le 5, 3) := by decide +kernel
theorem dX8_whoIsLiable_53 : decode cX8_whoIsLiable 53 = .ok (.aconst_null, 1) := by decide +kernel
theorem dX8_whoIsLiable_54 : decode cX8_whoIsLiable 54 = .ok (.areturn, 1) := by decide +kernel
theorem dX8_whoIsLiable_55 : decode cX8_whoIsLiable 55 = .ok (.aload 4, 2) := by decide +kernel
theorem dX8_whoIsLiable_57 : decode cX8_whoIsLiable 57 = .ok (.getfield 377, 3) := by decide +kernel
theorem dX8_whoIsLiable_60 : decode cX8_whoIsLiable 60 = .ok (.areturn, 1) := by decide +kernel
theorem dJ9_max_7cf53_0 : decode cJ9_max_7cf53 0 = .ok (.iload_n 0, 1) := by decide +kernel
theorem dJ9_max_7cf53_1 : decode cJ9_max_7cf53 1 = .ok (.iload_n 1, 1) := by decide +kernel
theorem dJ9_max_7cf53_2 : decode cJ9_max_7cf53 2 = .ok (.if_icmp .lt 7, 3) := by decide +kernel
theorem dJ9_max_7cf53_5 : decode cJ9_max_7cf53 5 = .ok (.iload_n 0, 1) := by decide +kernel
theorem dJ9_max_7cf53_6 : decode cJ9_max_7cf53 6 = .ok (.goto 4, 3) := by decide +kernel
theorem dJ9_max_7cf53_9 : decode cJ9_max_7cf53 9 = .ok (.iload_n 1, 1) := by decide +kernel
theorem dJ9_max_7cf53_10 : decode cJ9_max_7cf53 10 = .ok (.ireturn, 1) := by decide +kernel
theorem dJ9_min_7cf53_0 : decode cJ9_min_7cf53 0 = .ok (.iload_n 0, 1) := by decide +kernel
theorem dJ9_min_7cf53_1 : decode cJ9_min_7cf53 1 = .ok (.iload_n 1, 1) := by decide +kernel
theorem dJ9_min_7cf53_2 : decode cJ9_min_7cf53 2 = .ok (.if_icmp .gt 7, 3) := by decide +kernel
theorem dJ9_min_7cf53_5 : decode cJ9_min_7cf53 5 = .ok (.iload_n 0, 1) := by decide +kernel
theorem dJ9_min_7cf53_6 : decode cJ9_min_7cf53 6 = .ok (.goto 4, 3) := by decide +kernel
theorem dJ9_min_7cf53_9 : decode cJ9_min_7cf53 9 = .ok (.iload_n 1, 1) := by decide +kernel
theorem dJ9_min_7cf53_10 : decode cJ9_min_7cf53 10 = .ok (.ireturn, 1) := by decide +kernel
theorem dJxa1e45_init_da8c8_0 : decode cJxa1e45_init_da8c8 0 = .ok (.aload_n 0, 1) := by decide +kernel
theorem dJxa1e45_init_da8c8_1 : decode cJxa1e45_init_da8c8 1 = .ok (.invokespecial 1, 3) := by decide +kernel
theorem dJxa1e45_init_da8c8_4 : decode cJxa1e45_init_da8c8 4 = .ok (.return_, 1) := by decide +kernel
theorem dJxc12de_init_da8c8_0 : decode cJxc12de_init_da8c8 0 = .ok (.aload_n 0, 1) := by decide +kernel
theorem dJxc12de_init_da8c8_1 : decode cJxc12de_init_da8c8 1 = .ok (.invokespecial 1, 3) := by decide +kernel
theorem dJxc12de_init_da8c8_4 : decode cJxc12de_init_da8c8 4 = .ok (.aload_n 0, 1) := by decide +kernel
theorem dJxc12de_init_da8c8_5 : decode cJxc12de_init_da8c8 5 = .ok (.iconst 0, 1) := by decide +kernel
theorem dJxc12de_init_da8c8_6 : decode cJxc12de_init_da8c8 6 = .ok (.putfield 7, 3) := by decide +kernel
theorem dJxc12de_init_da8c8_9 : decode cJxc12de_init_da8c8 9 = .ok (.return_, 1) := by decide +kernel
theorem dJx4a65c_init_da8c8_0 : decode cJx4a65c_init_da8c8 0 = .ok (.aload_n 0, 1) := by decide +kernel
theorem dJx4a65c_init_da8c8_1 : decode cJx4a65c_init_da8c8 1 = .ok (.invokespecial 1, 3) := by decide +kernel
theorem dJx4a65c_init_da8c8_4 : decode cJx4a65c_init_da8c8 4 = .ok (.aload_n 0, 1) := by decide +kernel
theorem dJx4a65c_init_da8c8_5 : decode cJx4a65c_init_da8c8 5 = .ok (.getstatic 39, 3) := by decide +kernel
theorem dJx4a65c_init_da8c8_8 : decode cJx4a65c_init_da8c8 8 = .ok (.putfield 9, 3) := by decide +kernel
theorem dJx4a65c_init_da8c8_11 : decode cJx4a65c_init_da8c8 11 = .ok (.return_, 1) := by decide +kernel
theorem dJx4a65c_grow_92f84_0 : decode cJx4a65c_grow_92f84 0 = .ok (.aload_n 0, 1) := by decide +kernel
theorem dJx4a65c_grow_92f84_1 : decode cJx4a65c_grow_92f84 1 = .ok (.getfield 9, 3) := by decide +kernel
theorem dJx4a65c_grow_92f84_4 : decode cJx4a65c_grow_92f84 4 = .ok (.arraylength, 1) := by decide +kernel
theorem dJx4a65c_grow_92f84_5 : decode cJx4a65c_grow_92f84 5 = .ok (.istore_n 2, 1) := by decide +kernel
theorem dJx4a65c_grow_92f84_6 : decode cJx4a65c_grow_92f84 6 = .ok (.iload_n 2, 1) := by decide +kernel
theorem dJx4a65c_grow_92f84_7 : decode cJx4a65c_grow_92f84 7 = .ok (.ifCond .gt 13, 3) := by decide +kernel
theorem dJx4a65c_grow_92f84_10 : decode cJx4a65c_grow_92f84 10 = .ok (.aload_n 0, 1) := by decide +kernel
theorem dJx4a65c_grow_92f84_11 : decode cJx4a65c_grow_92f84 11 = .ok (.getfield 9, 3) := by decide +kernel
theorem dJx4a65c_grow_92f84_14 : decode cJx4a65c_grow_92f84 14 = .ok (.getstatic 39, 3) := by decide +kernel
theorem dJx4a65c_grow_92f84_17 : decode cJx4a65c_grow_92f84 17 = .ok (.if_acmp .eq 28, 3) := by decide +kernel
theorem dJx4a65c_grow_92f84_20 : decode cJx4a65c_grow_92f84 20 = .ok (.iload_n 2, 1) := by decide +kernel
theorem dJx4a65c_grow_92f84_21 : decode cJx4a65c_grow_92f84 21 = .ok (.iload_n 1, 1) := by decide +kernel
theorem dJx4a65c_grow_92f84_22 : decode cJx4a65c_grow_92f84 22 = .ok (.iload_n 2, 1) := by decide +kernel
theorem dJx4a65c_grow_92f84_23 : decode cJx4a65c_grow_92f84 23 = .ok (.isub, 1) := by decide +kernel
theorem dJx4a65c_grow_92f84_24 : decode cJx4a65c_grow_92f84 24 = .ok (.iload_n 2, 1) := by decide +kernel
theorem dJx4a65c_grow_92f84_25 : decode cJx4a65c_grow_92f84 25 = .ok (.iconst 1, 1) := by decide +kernel
theorem dJx4a65c_grow_92f84_26 : decode cJx4a65c_grow_92f84 26 = .ok (.ishr, 1) := by decide +kernel
theorem dJx4a65c_grow_92f84_27 : decode cJx4a65c_grow_92f84 27 = .ok (.invokestatic 73, 3) := by decide +kernel
theorem dJx4a65c_grow_92f84_30 : decode cJx4a65c_grow_92f84 30 = .ok (.istore_n 3, 1) := by decide +kernel
theorem dJx4a65c_grow_92f84_31 : decode cJx4a65c_grow_92f84 31 = .ok (.aload_n 0, 1) := by decide +kernel
theorem dJx4a65c_grow_92f84_32 : decode cJx4a65c_grow_92f84 32 = .ok (.aload_n 0, 1) := by decide +kernel
theorem dJx4a65c_grow_92f84_33 : decode cJx4a65c_grow_92f84 33 = .ok (.getfield 9, 3) := by decide +kernel
theorem dJx4a65c_grow_92f84_36 : decode cJx4a65c_grow_92f84 36 = .ok (.iload_n 3, 1) := by decide +kernel
theorem dJx4a65c_grow_92f84_37 : decode cJx4a65c_grow_92f84 37 = .ok (.invokestatic 66, 3) := by decide +kernel
theorem dJx4a65c_grow_92f84_40 : decode cJx4a65c_grow_92f84 40 = .ok (.dup_x1, 1) := by decide +kernel
theorem dJx4a65c_grow_92f84_41 : decode cJx4a65c_grow_92f84 41 = .ok (.putfield 9, 3) := by decide +kernel
theorem dJx4a65c_grow_92f84_44 : decode cJx4a65c_grow_92f84 44 = .ok (.areturn, 1) := by decide +kernel
theorem dJx4a65c_grow_92f84_45 : decode cJx4a65c_grow_92f84 45 = .ok (.aload_n 0, 1) := by decide +kernel
theorem dJx4a65c_grow_92f84_46 : decode cJx4a65c_grow_92f84 46 = .ok (.bipush 10, 2) := by decide +kernel
theorem dJx4a65c_grow_92f84_48 : decode cJx4a65c_grow_92f84 48 = .ok (.iload_n 1, 1) := by decide +kernel
theorem dJx4a65c_grow_92f84_49 : decode cJx4a65c_grow_92f84 49 = .ok (.invokestatic 79, 3) := by decide +kernel
theorem dJx4a65c_grow_92f84_52 : decode cJx4a65c_grow_92f84 52 = .ok (.anewarray 7, 3) := by decide +kernel
theorem dJx4a65c_grow_92f84_55 : decode cJx4a65c_grow_92f84 55 = .ok (.dup_x1, 1) := by decide +kernel
theorem dJx4a65c_grow_92f84_56 : decode cJx4a65c_grow_92f84 56 = .ok (.putfield 9, 3) := by decide +kernel
theorem dJx4a65c_grow_92f84_59 : decode cJx4a65c_grow_92f84 59 = .ok (.areturn, 1) := by decide +kernel
theorem dJx4a65c_grow_d5877_0 : decode cJx4a65c_grow_d5877 0 = .ok (.aload_n 0, 1) := by decide +kernel
theorem dJx4a65c_grow_d5877_1 : decode cJx4a65c_grow_d5877 1 = .ok (.aload_n 0, 1) := by decide +kernel
theorem dJx4a65c_grow_d5877_2 : decode cJx4a65c_grow_d5877 2 = .ok (.getfield 48, 3) := by decide +kernel
theorem dJx4a65c_grow_d5877_5 : decode cJx4a65c_grow_d5877 5 = .ok (.iconst 1, 1) := by decide +kernel
theorem dJx4a65c_grow_d5877_6 : decode cJx4a65c_grow_d5877 6 = .ok (.iadd, 1) := by decide +kernel
theorem dJx4a65c_grow_d5877_7 : decode cJx4a65c_grow_d5877 7 = .ok (.invokevirtual 69, 3) := by decide +kernel
theorem dJx4a65c_grow_d5877_10 : decode cJx4a65c_grow_d5877 10 = .ok (.areturn, 1) := by decide +kernel
theorem dJx4a65c_size_8abf5_0 : decode cJx4a65c_size_8abf5 0 = .ok (.aload_n 0, 1) := by decide +kernel
theorem dJx4a65c_size_8abf5_1 : decode cJx4a65c_size_8abf5 1 = .ok (.getfield 48, 3) := by decide +kernel
theorem dJx4a65c_size_8abf5_4 : decode cJx4a65c_size_8abf5 4 = .ok (.ireturn, 1) := by decide +kernel
theorem dJx4a65c_elementData_915e3_0 : decode cJx4a65c_elementData_915e3 0 = .ok (.aload_n 0, 1) := by decide +kernel
theorem dJx4a65c_elementData_915e3_1 : decode cJx4a65c_elementData_915e3 1 = .ok (.getfield 9, 3) := by decide +kernel
theorem dJx4a65c_elementData_915e3_4 : decode cJx4a65c_elementData_915e3 4 = .ok (.iload_n 1, 1) := by decide +kernel
theorem dJx4a65c_elementData_915e3_5 : decode cJx4a65c_elementData_915e3 5 = .ok (.aaload, 1) := by decide +kernel
theorem dJx4a65c_elementData_915e3_6 : decode cJx4a65c_elementData_915e3 6 = .ok (.areturn, 1) := by decide +kernel
theorem dJx4a65c_get_915e3_0 : decode cJx4a65c_get_915e3 0 = .ok (.iload_n 1, 1) := by decide +kernel
theorem dJx4a65c_get_915e3_1 : decode cJx4a65c_get_915e3 1 = .ok (.aload_n 0, 1) := by decide +kernel
theorem dJx4a65c_get_915e3_2 : decode cJx4a65c_get_915e3 2 = .ok (.getfield 48, 3) := by decide +kernel
theorem dJx4a65c_get_915e3_5 : decode cJx4a65c_get_915e3 5 = .ok (.invokestatic 118, 3) := by decide +kernel
theorem dJx4a65c_get_915e3_8 : decode cJx4a65c_get_915e3 8 = .ok (.pop, 1) := by decide +kernel
theorem dJx4a65c_get_915e3_9 : decode cJx4a65c_get_915e3 9 = .ok (.aload_n 0, 1) := by decide +kernel
theorem dJx4a65c_get_915e3_10 : decode cJx4a65c_get_915e3 10 = .ok (.iload_n 1, 1) := by decide +kernel
theorem dJx4a65c_get_915e3_11 : decode cJx4a65c_get_915e3 11 = .ok (.invokevirtual 123, 3) := by decide +kernel
theorem dJx4a65c_get_915e3_14 : decode cJx4a65c_get_915e3 14 = .ok (.areturn, 1) := by decide +kernel
theorem dJx4a65c_add_72be8_0 : decode cJx4a65c_add_72be8 0 = .ok (.iload_n 3, 1) := by decide +kernel
theorem dJx4a65c_add_72be8_1 : decode cJx4a65c_add_72be8 1 = .ok (.aload_n 2, 1) := by decide +kernel
theorem dJx4a65c_add_72be8_2 : decode cJx4a65c_add_72be8 2 = .ok (.arraylength, 1) := by decide +kernel
theorem dJx4a65c_add_72be8_3 : decode cJx4a65c_add_72be8 3 = .ok (.if_icmp .ne 8, 3) := by decide +kernel
theorem dJx4a65c_add_72be8_6 : decode cJx4a65c_add_72be8 6 = .ok (.aload_n 0, 1) := by decide +kernel
theorem dJx4a65c_add_72be8_7 : decode cJx4a65c_add_72be8 7 = .ok (.invokevirtual 129, 3) := by decide +kernel
theorem dJx4a65c_add_72be8_10 : decode cJx4a65c_add_72be8 10 = .ok (.astore_n 2, 1) := by decide +kernel
