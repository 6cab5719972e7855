theorem dX7_isStanding_13 : decode cX7_isStanding 13 = .ok (.if_icmp .ne 7, 3) := by decide +kernel
theorem dX7_isStanding_16 : decode cX7_isStanding 16 = .ok (.iconst 1, 1) := by decide +kernel
theorem dX7_isStanding_17 : decode cX7_isStanding 17 = .ok (.goto 4, 3) := by decide +kernel
theorem dX7_isStanding_20 : decode cX7_isStanding 20 = .ok (.iconst 0, 1) := by decide +kernel
theorem dX7_isStanding_21 : decode cX7_isStanding 21 = .ok (.ireturn, 1) := by decide +kernel
theorem dX7_isOver_0 : decode cX7_isOver 0 = .ok (.aload_n 0, 1) := by decide +kernel
theorem dX7_isOver_1 : decode cX7_isOver 1 = .ok (.getfield 28, 3) := by decide +kernel
theorem dX7_isOver_4 : decode cX7_isOver 4 = .ok (.iconst 2, 1) := by decide +kernel
theorem dX7_isOver_5 : decode cX7_isOver 5 = .ok (.if_icmp .eq 11, 3) := by decide +kernel
theorem dX7_isOver_8 : decode cX7_isOver 8 = .ok (.aload_n 0, 1) := by decide +kernel
theorem dX7_isOver_9 : decode cX7_isOver 9 = .ok (.getfield 28, 3) := by decide +kernel
theorem dX7_isOver_12 : decode cX7_isOver 12 = .ok (.iconst 4, 1) := by decide +kernel
theorem dX7_isOver_13 : decode cX7_isOver 13 = .ok (.if_icmp .ne 7, 3) := by decide +kernel
theorem dX7_isOver_16 : decode cX7_isOver 16 = .ok (.iconst 1, 1) := by decide +kernel
theorem dX7_isOver_17 : decode cX7_isOver 17 = .ok (.goto 4, 3) := by decide +kernel
theorem dX7_isOver_20 : decode cX7_isOver 20 = .ok (.iconst 0, 1) := by decide +kernel
theorem dX7_isOver_21 : decode cX7_isOver 21 = .ok (.ireturn, 1) := by decide +kernel
theorem dX7_hasCondition_0 : decode cX7_hasCondition 0 = .ok (.aload_n 0, 1) := by decide +kernel
theorem dX7_hasCondition_1 : decode cX7_hasCondition 1 = .ok (.getfield 53, 3) := by decide +kernel
theorem dX7_hasCondition_4 : decode cX7_hasCondition 4 = .ok (.iload_n 1, 1) := by decide +kernel
theorem dX7_hasCondition_5 : decode cX7_hasCondition 5 = .ok (.iand, 1) := by decide +kernel
theorem dX7_hasCondition_6 : decode cX7_hasCondition 6 = .ok (.ifCond .eq 7, 3) := by decide +kernel
theorem dX7_hasCondition_9 : decode cX7_hasCondition 9 = .ok (.iconst 1, 1) := by decide +kernel
theorem dX7_hasCondition_10 : decode cX7_hasCondition 10 = .ok (.goto 4, 3) := by decide +kernel
theorem dX7_hasCondition_13 : decode cX7_hasCondition 13 = .ok (.iconst 0, 1) := by decide +kernel
theorem dX7_hasCondition_14 : decode cX7_hasCondition 14 = .ok (.ireturn, 1) := by decide +kernel
theorem dX7_takesStreet_0 : decode cX7_takesStreet 0 = .ok (.aload_n 0, 1) := by decide +kernel
theorem dX7_takesStreet_1 : decode cX7_takesStreet 1 = .ok (.getfield 28, 3) := by decide +kernel
theorem dX7_takesStreet_4 : decode cX7_takesStreet 4 = .ok (.iconst 3, 1) := by decide +kernel
theorem dX7_takesStreet_5 : decode cX7_takesStreet 5 = .ok (.if_icmp .ne 21, 3) := by decide +kernel
theorem dX7_takesStreet_8 : decode cX7_takesStreet 8 = .ok (.aload_n 0, 1) := by decide +kernel
theorem dX7_takesStreet_9 : decode cX7_takesStreet 9 = .ok (.getfield 56, 3) := by decide +kernel
theorem dX7_takesStreet_12 : decode cX7_takesStreet 12 = .ok (.ifCond .le 14, 3) := by decide +kernel
theorem dX7_takesStreet_15 : decode cX7_takesStreet 15 = .ok (.aload_n 0, 1) := by decide +kernel
theorem dX7_takesStreet_16 : decode cX7_takesStreet 16 = .ok (.getfield 59, 3) := by decide +kernel
theorem dX7_takesStreet_19 : decode cX7_takesStreet 19 = .ok (.ifCond .ne 7, 3) := by decide +kernel
theorem dX7_takesStreet_22 : decode cX7_takesStreet 22 = .ok (.iconst 1, 1) := by decide +kernel
theorem dX7_takesStreet_23 : decode cX7_takesStreet 23 = .ok (.goto 4, 3) := by decide +kernel
theorem dX7_takesStreet_26 : decode cX7_takesStreet 26 = .ok (.iconst 0, 1) := by decide +kernel
theorem dX7_takesStreet_27 : decode cX7_takesStreet 27 = .ok (.ireturn, 1) := by decide +kernel
theorem dX7_endOn_0 : decode cX7_endOn 0 = .ok (.aload_n 0, 1) := by decide +kernel
theorem dX7_endOn_1 : decode cX7_endOn 1 = .ok (.getfield 28, 3) := by decide +kernel
theorem dX7_endOn_4 : decode cX7_endOn 4 = .ok (.iconst 3, 1) := by decide +kernel
theorem dX7_endOn_5 : decode cX7_endOn 5 = .ok (.if_icmp .ne 14, 3) := by decide +kernel
theorem dX7_endOn_8 : decode cX7_endOn 8 = .ok (.aload_n 0, 1) := by decide +kernel
theorem dX7_endOn_9 : decode cX7_endOn 9 = .ok (.getfield 43, 3) := by decide +kernel
theorem dX7_endOn_12 : decode cX7_endOn 12 = .ok (.iload_n 1, 1) := by decide +kernel
theorem dX7_endOn_13 : decode cX7_endOn 13 = .ok (.invokestatic 63, 3) := by decide +kernel
theorem dX7_endOn_16 : decode cX7_endOn 16 = .ok (.goto 7, 3) := by decide +kernel
theorem dX7_endOn_19 : decode cX7_endOn 19 = .ok (.aload_n 0, 1) := by decide +kernel
theorem dX7_endOn_20 : decode cX7_endOn 20 = .ok (.getfield 43, 3) := by decide +kernel
theorem dX7_endOn_23 : decode cX7_endOn 23 = .ok (.ireturn, 1) := by decide +kernel
theorem dX7_settledOn_0 : decode cX7_settledOn 0 = .ok (.aload_n 0, 1) := by decide +kernel
theorem dX7_settledOn_1 : decode cX7_settledOn 1 = .ok (.getfield 25, 3) := by decide +kernel
theorem dX7_settledOn_4 : decode cX7_settledOn 4 = .ok (.aload_n 0, 1) := by decide +kernel
theorem dX7_settledOn_5 : decode cX7_settledOn 5 = .ok (.getfield 22, 3) := by decide +kernel
theorem dX7_settledOn_8 : decode cX7_settledOn 8 = .ok (.iconst 2, 1) := by decide +kernel
theorem dX7_settledOn_9 : decode cX7_settledOn 9 = .ok (.if_icmp .ne 7, 3) := by decide +kernel
theorem dX7_settledOn_12 : decode cX7_settledOn 12 = .ok (.iconst 2, 1) := by decide +kernel
theorem dX7_settledOn_13 : decode cX7_settledOn 13 = .ok (.goto 4, 3) := by decide +kernel
theorem dX7_settledOn_16 : decode cX7_settledOn 16 = .ok (.iconst 5, 1) := by decide +kernel
theorem dX7_settledOn_17 : decode cX7_settledOn 17 = .ok (.iadd, 1) := by decide +kernel
theorem dX7_settledOn_18 : decode cX7_settledOn 18 = .ok (.ireturn, 1) := by decide +kernel
theorem dX7_permitCost_0 : decode cX7_permitCost 0 = .ok (.aload_n 0, 1) := by decide +kernel
theorem dX7_permitCost_1 : decode cX7_permitCost 1 = .ok (.getfield 22, 3) := by decide +kernel
theorem dX7_permitCost_4 : decode cX7_permitCost 4 = .ok (.ifCond .ne 8, 3) := by decide +kernel
theorem dX7_permitCost_7 : decode cX7_permitCost 7 = .ok (.bipush 60, 2) := by decide +kernel
theorem dX7_permitCost_9 : decode cX7_permitCost 9 = .ok (.goto 30, 3) := by decide +kernel
theorem dX7_permitCost_12 : decode cX7_permitCost 12 = .ok (.aload_n 0, 1) := by decide +kernel
theorem dX7_permitCost_13 : decode cX7_permitCost 13 = .ok (.getfield 22, 3) := by decide +kernel
theorem dX7_permitCost_16 : decode cX7_permitCost 16 = .ok (.iconst 1, 1) := by decide +kernel
theorem dX7_permitCost_17 : decode cX7_permitCost 17 = .ok (.if_icmp .ne 8, 3) := by decide +kernel
theorem dX7_permitCost_20 : decode cX7_permitCost 20 = .ok (.bipush 40, 2) := by decide +kernel
theorem dX7_permitCost_22 : decode cX7_permitCost 22 = .ok (.goto 17, 3) := by decide +kernel
theorem dX7_permitCost_25 : decode cX7_permitCost 25 = .ok (.aload_n 0, 1) := by decide +kernel
theorem dX7_permitCost_26 : decode cX7_permitCost 26 = .ok (.getfield 22, 3) := by decide +kernel
theorem dX7_permitCost_29 : decode cX7_permitCost 29 = .ok (.iconst 2, 1) := by decide +kernel
theorem dX7_permitCost_30 : decode cX7_permitCost 30 = .ok (.if_icmp .ne 8, 3) := by decide +kernel
theorem dX7_permitCost_33 : decode cX7_permitCost 33 = .ok (.bipush 20, 2) := by decide +kernel
theorem dX7_permitCost_35 : decode cX7_permitCost 35 = .ok (.goto 4, 3) := by decide +kernel
theorem dX7_permitCost_38 : decode cX7_permitCost 38 = .ok (.iconst 0, 1) := by decide +kernel
theorem dX7_permitCost_39 : decode cX7_permitCost 39 = .ok (.istore_n 1, 1) := by decide +kernel
theorem dX7_permitCost_40 : decode cX7_permitCost 40 = .ok (.iload_n 1, 1) := by decide +kernel
theorem dX7_permitCost_41 : decode cX7_permitCost 41 = .ok (.aload_n 0, 1) := by decide +kernel
theorem dX7_permitCost_42 : decode cX7_permitCost 42 = .ok (.getfield 18, 3) := by decide +kernel
theorem dX7_permitCost_45 : decode cX7_permitCost 45 = .ok (.invokevirtual 69, 3) := by decide +kernel
theorem dX7_permitCost_48 : decode cX7_permitCost 48 = .ok (.imul, 1) := by decide +kernel
theorem dX7_permitCost_49 : decode cX7_permitCost 49 = .ok (.ireturn, 1) := by decide +kernel
theorem dX7_daysLiable_0 : decode cX7_daysLiable 0 = .ok (.aload_n 0, 1) := by decide +kernel
theorem dX7_daysLiable_1 : decode cX7_daysLiable 1 = .ok (.getfield 37, 3) := by decide +kernel
theorem dX7_daysLiable_4 : decode cX7_daysLiable 4 = .ok (.bipush 120, 2) := by decide +kernel
theorem dX7_daysLiable_6 : decode cX7_daysLiable 6 = .ok (.if_icmp .lt 9, 3) := by decide +kernel
theorem dX7_daysLiable_9 : decode cX7_daysLiable 9 = .ok (.sipush 300, 3) := by decide +kernel
theorem dX7_daysLiable_12 : decode cX7_daysLiable 12 = .ok (.goto 6, 3) := by decide +kernel
theorem dX7_daysLiable_15 : decode cX7_daysLiable 15 = .ok (.sipush 200, 3) := by decide +kernel
theorem dX7_daysLiable_18 : decode cX7_daysLiable 18 = .ok (.ireturn, 1) := by decide +kernel
theorem dX7_ownMetreAt_0 : decode cX7_ownMetreAt 0 = .ok (.iload_n 1, 1) := by decide +kernel
theorem dX7_ownMetreAt_1 : decode cX7_ownMetreAt 1 = .ok (.aload_n 0, 1) := by decide +kernel
theorem dX7_ownMetreAt_2 : decode cX7_ownMetreAt 2 = .ok (.getfield 31, 3) := by decide +kernel
theorem dX7_ownMetreAt_5 : decode cX7_ownMetreAt 5 = .ok (.if_icmp .lt 22, 3) := by decide +kernel
theorem dX7_ownMetreAt_8 : decode cX7_ownMetreAt 8 = .ok (.iload_n 1, 1) := by decide +kernel
theorem dX7_ownMetreAt_9 : decode cX7_ownMetreAt 9 = .ok (.aload_n 0, 1) := by decide +kernel
theorem dX7_ownMetreAt_10 : decode cX7_ownMetreAt 10 = .ok (.getfield 34, 3) := by decide +kernel
theorem dX7_ownMetreAt_13 : decode cX7_ownMetreAt 13 = .ok (.if_icmp .gt 14, 3) := by decide +kernel
theorem dX7_ownMetreAt_16 : decode cX7_ownMetreAt 16 = .ok (.aload_n 0, 1) := by decide +kernel
theorem dX7_ownMetreAt_17 : decode cX7_ownMetreAt 17 = .ok (.getfield 18, 3) := by decide +kernel
theorem dX7_ownMetreAt_20 : decode cX7_ownMetreAt 20 = .ok (.iload_n 1, 1) := by decide +kernel
theorem dX7_ownMetreAt_21 : decode cX7_ownMetreAt 21 = .ok (.invokevirtual 74, 3) := by decide +kernel
theorem dX7_ownMetreAt_24 : decode cX7_ownMetreAt 24 = .ok (.goto 4, 3) := by decide +kernel
theorem dX7_ownMetreAt_27 : decode cX7_ownMetreAt 27 = .ok (.aconst_null, 1) := by decide +kernel
theorem dX7_ownMetreAt_28 : decode cX7_ownMetreAt 28 = .ok (.areturn, 1) := by decide +kernel
theorem dX7_mayMeet_0 : decode cX7_mayMeet 0 = .ok (.aload_n 0, 1) := by decide +kernel
theorem dX7_mayMeet_1 : decode cX7_mayMeet 1 = .ok (.invokevirtual 78, 3) := by decide +kernel
theorem dX7_mayMeet_4 : decode cX7_mayMeet 4 = .ok (.ifCond .eq 10, 3) := by decide +kernel
theorem dX7_mayMeet_7 : decode cX7_mayMeet 7 = .ok (.aload_n 1, 1) := by decide +kernel
theorem dX7_mayMeet_8 : decode cX7_mayMeet 8 = .ok (.invokevirtual 82, 3) := by decide +kernel
theorem dX7_mayMeet_11 : decode cX7_mayMeet 11 = .ok (.ifCond .eq 17, 3) := by decide +kernel
theorem dX7_mayMeet_14 : decode cX7_mayMeet 14 = .ok (.aload_n 1, 1) := by decide +kernel
theorem dX7_mayMeet_15 : decode cX7_mayMeet 15 = .ok (.invokevirtual 78, 3) := by decide +kernel
theorem dX7_mayMeet_18 : decode cX7_mayMeet 18 = .ok (.ifCond .eq 14, 3) := by decide +kernel
theorem dX7_mayMeet_21 : decode cX7_mayMeet 21 = .ok (.aload_n 0, 1) := by decide +kernel
theorem dX7_mayMeet_22 : decode cX7_mayMeet 22 = .ok (.invokevirtual 82, 3) := by decide +kernel
theorem dX7_mayMeet_25 : decode cX7_mayMeet 25 = .ok (.ifCond .ne 7, 3) := by decide +kernel
theorem dX7_mayMeet_28 : decode cX7_mayMeet 28 = .ok (.iconst 1, 1) := by decide +kernel
theorem dX7_mayMeet_29 : decode cX7_mayMeet 29 = .ok (.goto 4, 3) := by decide +kernel
theorem dX7_mayMeet_32 : decode cX7_mayMeet 32 = .ok (.iconst 0, 1) := by decide +kernel
theorem dX7_mayMeet_33 : decode cX7_mayMeet 33 = .ok (.ireturn, 1) := by decide +kernel
theorem dX7_areNear_0 : decode cX7_areNear 0 = .ok (.aload_n 0, 1) := by decide +kernel
theorem dX7_areNear_1 : decode cX7_areNear 1 = .ok (.getfield 18, 3) := by decide +kernel
theorem dX7_areNear_4 : decode cX7_areNear 4 = .ok (.aload_n 1, 1) := by decide +kernel
theorem dX7_areNear_5 : decode cX7_areNear 5 = .ok (.getfield 18, 3) := by decide +kernel
theorem dX7_areNear_8 : decode cX7_areNear 8 = .ok (.if_acmp .ne 40, 3) := by decide +kernel
theorem dX7_areNear_11 : decode cX7_areNear 11 = .ok (.aload_n 0, 1) := by decide +kernel
theorem dX7_areNear_12 : decode cX7_areNear 12 = .ok (.getfield 31, 3) := by decide +kernel
theorem dX7_areNear_15 : decode cX7_areNear 15 = .ok (.aload_n 1, 1) := by decide +kernel
theorem dX7_areNear_16 : decode cX7_areNear 16 = .ok (.getfield 31, 3) := by decide +kernel
theorem dX7_areNear_19 : decode cX7_areNear 19 = .ok (.invokestatic 63, 3) := by decide +kernel
theorem dX7_areNear_22 : decode cX7_areNear 22 = .ok (.aload_n 0, 1) := by decide +kernel
theorem dX7_areNear_23 : decode cX7_areNear 23 = .ok (.getfield 34, 3) := by decide +kernel
theorem dX7_areNear_26 : decode cX7_areNear 26 = .ok (.aload_n 1, 1) := by decide +kernel
theorem dX7_areNear_27 : decode cX7_areNear 27 = .ok (.getfield 34, 3) := by decide +kernel
theorem dX7_areNear_30 : decode cX7_areNear 30 = .ok (.invokestatic 85, 3) := by decide +kernel
theorem dX7_areNear_33 : decode cX7_areNear 33 = .ok (.isub, 1) := by decide +kernel
theorem dX7_areNear_34 : decode cX7_areNear 34 = .ok (.iconst 1, 1) := by decide +kernel
theorem dX7_areNear_35 : decode cX7_areNear 35 = .ok (.isub, 1) := by decide +kernel
theorem dX7_areNear_36 : decode cX7_areNear 36 = .ok (.istore_n 2, 1) := by decide +kernel
theorem dX7_areNear_37 : decode cX7_areNear 37 = .ok (.iload_n 2, 1) := by decide +kernel
theorem dX7_areNear_38 : decode cX7_areNear 38 = .ok (.iconst 3, 1) := by decide +kernel
theorem dX7_areNear_39 : decode cX7_areNear 39 = .ok (.if_icmp .ge 7, 3) := by decide +kernel
theorem dX7_areNear_42 : decode cX7_areNear 42 = .ok (.iconst 1, 1) := by decide +kernel
theorem dX7_areNear_43 : decode cX7_areNear 43 = .ok (.goto 4, 3) := by decide +kernel
theorem dX7_areNear_46 : decode cX7_areNear 46 = .ok (.iconst 0, 1) := by decide +kernel
theorem dX7_areNear_47 : decode cX7_areNear 47 = .ok (.ireturn, 1) := by decide +kernel
theorem dX7_areNear_48 : decode cX7_areNear 48 = .ok (.aload_n 0, 1) := by decide +kernel
theorem dX7_areNear_49 : decode cX7_areNear 49 = .ok (.getfield 18, 3) := by decide +kernel
theorem dX7_areNear_52 : decode cX7_areNear 52 = .ok (.getfield 88, 3) := by decide +kernel
theorem dX7_areNear_55 : decode cX7_areNear 55 = .ok (.aload_n 1, 1) := by decide +kernel
theorem dX7_areNear_56 : decode cX7_areNear 56 = .ok (.getfield 18, 3) := by decide +kernel
theorem dX7_areNear_59 : decode cX7_areNear 59 = .ok (.if_acmp .eq 17, 3) := by decide +kernel
theorem dX7_areNear_62 : decode cX7_areNear 62 = .ok (.aload_n 1, 1) := by decide +kernel
theorem dX7_areNear_63 : decode cX7_areNear 63 = .ok (.getfield 18, 3) := by decide +kernel
theorem dX7_areNear_66 : decode cX7_areNear 66 = .ok (.getfield 88, 3) := by decide +kernel
theorem dX7_areNear_69 : decode cX7_areNear 69 = .ok (.aload_n 0, 1) := by decide +kernel
theorem dX7_areNear_70 : decode cX7_areNear 70 = .ok (.getfield 18, 3) := by decide +kernel
theorem dX7_areNear_73 : decode cX7_areNear 73 = .ok (.if_acmp .ne 7, 3) := by decide +kernel
theorem dX7_areNear_76 : decode cX7_areNear 76 = .ok (.iconst 1, 1) := by decide +kernel
theorem dX7_areNear_77 : decode cX7_areNear 77 = .ok (.goto 4, 3) := by decide +kernel
theorem dX7_areNear_80 : decode cX7_areNear 80 = .ok (.iconst 0, 1) := by decide +kernel
theorem dX7_areNear_81 : decode cX7_areNear 81 = .ok (.ireturn, 1) := by decide +kernel
theorem dX8_init_0 : decode cX8_init 0 = .ok (.aload_n 0, 1) := by decide +kernel
theorem dX8_init_1 : decode cX8_init 1 = .ok (.invokespecial 1, 3) := by decide +kernel
theorem dX8_init_4 : decode cX8_init 4 = .ok (.aload_n 0, 1) := by decide +kernel
theorem dX8_init_5 : decode cX8_init 5 = .ok (.bipush 6, 2) := by decide +kernel
theorem dX8_init_7 : decode cX8_init 7 = .ok (.anewarray 9, 3) := by decide +kernel
theorem dX8_init_10 : decode cX8_init 10 = .ok (.putfield 11, 3) := by decide +kernel
theorem dX8_init_13 : decode cX8_init 13 = .ok (.aload_n 0, 1) := by decide +kernel
theorem dX8_init_14 : decode cX8_init 14 = .ok (.bipush 30, 2) := by decide +kernel
theorem dX8_init_16 : decode cX8_init 16 = .ok (.anewarray 15, 3) := by decide +kernel
theorem dX8_init_19 : decode cX8_init 19 = .ok (.putfield 17, 3) := by decide +kernel
theorem dX8_init_22 : decode cX8_init 22 = .ok (.aload_n 0, 1) := by decide +kernel
theorem dX8_init_23 : decode cX8_init 23 = .ok (.bipush 24, 2) := by decide +kernel
theorem dX8_init_25 : decode cX8_init 25 = .ok (.anewarray 21, 3) := by decide +kernel
theorem dX8_init_28 : decode cX8_init 28 = .ok (.putfield 23, 3) := by decide +kernel
theorem dX8_init_31 : decode cX8_init 31 = .ok (.aload_n 0, 1) := by decide +kernel
theorem dX8_init_32 : decode cX8_init 32 = .ok (.bipush 6, 2) := by decide +kernel
theorem dX8_init_34 : decode cX8_init 34 = .ok (.anewarray 27, 3) := by decide +kernel
theorem dX8_init_37 : decode cX8_init 37 = .ok (.putfield 29, 3) := by decide +kernel
theorem dX8_init_40 : decode cX8_init 40 = .ok (.aload_n 0, 1) := by decide +kernel
theorem dX8_init_41 : decode cX8_init 41 = .ok (.new 33, 3) := by decide +kernel
theorem dX8_init_44 : decode cX8_init 44 = .ok (.dup, 1) := by decide +kernel
theorem dX8_init_45 : decode cX8_init 45 = .ok (.invokespecial 35, 3) := by decide +kernel
theorem dX8_init_48 : decode cX8_init 48 = .ok (.putfield 36, 3) := by decide +kernel
theorem dX8_init_51 : decode cX8_init 51 = .ok (.aload_n 0, 1) := by decide +kernel
theorem dX8_init_52 : decode cX8_init 52 = .ok (.new 40, 3) := by decide +kernel
theorem dX8_init_55 : decode cX8_init 55 = .ok (.dup, 1) := by decide +kernel
theorem dX8_init_56 : decode cX8_init 56 = .ok (.invokespecial 42, 3) := by decide +kernel
theorem dX8_init_59 : decode cX8_init 59 = .ok (.putfield 43, 3) := by decide +kernel
theorem dX8_init_62 : decode cX8_init 62 = .ok (.iconst 0, 1) := by decide +kernel
theorem dX8_init_63 : decode cX8_init 63 = .ok (.istore_n 1, 1) := by decide +kernel
theorem dX8_init_64 : decode cX8_init 64 = .ok (.iload_n 1, 1) := by decide +kernel
theorem dX8_init_65 : decode cX8_init 65 = .ok (.aload_n 0, 1) := by decide +kernel
theorem dX8_init_66 : decode cX8_init 66 = .ok (.getfield 29, 3) := by decide +kernel
theorem dX8_init_69 : decode cX8_init 69 = .ok (.arraylength, 1) := by decide +kernel
theorem dX8_init_70 : decode cX8_init 70 = .ok (.if_icmp .ge 22, 3) := by decide +kernel
theorem dX8_init_73 : decode cX8_init 73 = .ok (.aload_n 0, 1) := by decide +kernel
theorem dX8_init_74 : decode cX8_init 74 = .ok (.getfield 29, 3) := by decide +kernel
theorem dX8_init_77 : decode cX8_init 77 = .ok (.iload_n 1, 1) := by decide +kernel
theorem dX8_init_78 : decode cX8_init 78 = .ok (.new 27, 3) := by decide +kernel
theorem dX8_init_81 : decode cX8_init 81 = .ok (.dup, 1) := by decide +kernel
theorem dX8_init_82 : decode cX8_init 82 = .ok (.invokespecial 47, 3) := by decide +kernel
theorem dX8_init_85 : decode cX8_init 85 = .ok (.aastore, 1) := by decide +kernel
theorem dX8_init_86 : decode cX8_init 86 = .ok (.iinc 1 1, 3) := by decide +kernel
theorem dX8_init_89 : decode cX8_init 89 = .ok (.goto (-25), 3) := by decide +kernel
theorem dX8_init_92 : decode cX8_init 92 = .ok (.return_, 1) := by decide +kernel
theorem dX8_street_0 : decode cX8_street 0 = .ok (.aload_n 0, 1) := by decide +kernel
theorem dX8_street_1 : decode cX8_street 1 = .ok (.iload 4, 2) := by decide +kernel
theorem dX8_street_3 : decode cX8_street 3 = .ok (.invokevirtual 48, 3) := by decide +kernel
theorem dX8_street_6 : decode cX8_street 6 = .ok (.astore 5, 2) := by decide +kernel
theorem dX8_street_8 : decode cX8_street 8 = .ok (.aload 5, 2) := by decide +kernel
theorem dX8_street_10 : decode cX8_street 10 = .ok (.ifnonnull 19, 3) := by decide +kernel
theorem dX8_street_13 : decode cX8_street 13 = .ok (.iload 4, 2) := by decide +kernel
theorem dX8_street_15 : decode cX8_street 15 = .ok (.iconst (-1), 1) := by decide +kernel
theorem dX8_street_16 : decode cX8_street 16 = .ok (.if_icmp .eq 13, 3) := by decide +kernel
theorem dX8_street_19 : decode cX8_street 19 = .ok (.new 52, 3) := by decide +kernel
theorem dX8_street_22 : decode cX8_street 22 = .ok (.dup, 1) := by decide +kernel
theorem dX8_street_23 : decode cX8_street 23 = .ok (.ldc 54, 2) := by decide +kernel
theorem dX8_street_25 : decode cX8_street 25 = .ok (.invokespecial 56, 3) := by decide +kernel
theorem dX8_street_28 : decode cX8_street 28 = .ok (.athrow, 1) := by decide +kernel
theorem dX8_street_29 : decode cX8_street 29 = .ok (.iload_n 1, 1) := by decide +kernel
theorem dX8_street_30 : decode cX8_street 30 = .ok (.iconst 1, 1) := by decide +kernel
theorem dX8_street_31 : decode cX8_street 31 = .ok (.if_icmp .lt 29, 3) := by decide +kernel
theorem dX8_street_34 : decode cX8_street 34 = .ok (.iload_n 1, 1) := by decide +kernel
theorem dX8_street_35 : decode cX8_street 35 = .ok (.bipush 40, 2) := by decide +kernel
theorem dX8_street_37 : decode cX8_street 37 = .ok (.if_icmp .gt 23, 3) := by decide +kernel
theorem dX8_street_40 : decode cX8_street 40 = .ok (.iload_n 2, 1) := by decide +kernel
theorem dX8_street_41 : decode cX8_street 41 = .ok (.ifCond .lt 19, 3) := by decide +kernel
theorem dX8_street_44 : decode cX8_street 44 = .ok (.iload_n 2, 1) := by decide +kernel
theorem dX8_street_45 : decode cX8_street 45 = .ok (.iconst 3, 1) := by decide +kernel
theorem dX8_street_46 : decode cX8_street 46 = .ok (.if_icmp .gt 14, 3) := by decide +kernel
theorem dX8_street_49 : decode cX8_street 49 = .ok (.iload_n 3, 1) := by decide +kernel
theorem dX8_street_50 : decode cX8_street 50 = .ok (.ifCond .lt 10, 3) := by decide +kernel
theorem dX8_street_53 : decode cX8_street 53 = .ok (.iload_n 3, 1) := by decide +kernel
theorem dX8_street_54 : decode cX8_street 54 = .ok (.sipush 999, 3) := by decide +kernel
theorem dX8_street_57 : decode cX8_street 57 = .ok (.if_icmp .le 13, 3) := by decide +kernel
theorem dX8_street_60 : decode cX8_street 60 = .ok (.new 59, 3) := by decide +kernel
theorem dX8_street_63 : decode cX8_street 63 = .ok (.dup, 1) := by decide +kernel
theorem dX8_street_64 : decode cX8_street 64 = .ok (.ldc 61, 2) := by decide +kernel
theorem dX8_street_66 : decode cX8_street 66 = .ok (.invokespecial 63, 3) := by decide +kernel
theorem dX8_street_69 : decode cX8_street 69 = .ok (.athrow, 1) := by decide +kernel
theorem dX8_street_70 : decode cX8_street 70 = .ok (.aload_n 0, 1) := by decide +kernel
theorem dX8_street_71 : decode cX8_street 71 = .ok (.getfield 64, 3) := by decide +kernel
theorem dX8_street_74 : decode cX8_street 74 = .ok (.aload_n 0, 1) := by decide +kernel
theorem dX8_street_75 : decode cX8_street 75 = .ok (.getfield 11, 3) := by decide +kernel
theorem dX8_street_78 : decode cX8_street 78 = .ok (.arraylength, 1) := by decide +kernel
theorem dX8_street_79 : decode cX8_street 79 = .ok (.if_icmp .lt 13, 3) := by decide +kernel
theorem dX8_street_82 : decode cX8_street 82 = .ok (.new 68, 3) := by decide +kernel
theorem dX8_street_85 : decode cX8_street 85 = .ok (.dup, 1) := by decide +kernel
theorem dX8_street_86 : decode cX8_street 86 = .ok (.ldc 70, 2) := by decide +kernel
theorem dX8_street_88 : decode cX8_street 88 = .ok (.invokespecial 72, 3) := by decide +kernel
theorem dX8_street_91 : decode cX8_street 91 = .ok (.athrow, 1) := by decide +kernel
theorem dX8_street_92 : decode cX8_street 92 = .ok (.aload_n 0, 1) := by decide +kernel
theorem dX8_street_93 : decode cX8_street 93 = .ok (.getfield 11, 3) := by decide +kernel
theorem dX8_street_96 : decode cX8_street 96 = .ok (.aload_n 0, 1) := by decide +kernel
theorem dX8_street_97 : decode cX8_street 97 = .ok (.getfield 64, 3) := by decide +kernel
theorem dX8_street_100 : decode cX8_street 100 = .ok (.new 9, 3) := by decide +kernel
theorem dX8_street_103 : decode cX8_street 103 = .ok (.dup, 1) := by decide +kernel
theorem dX8_street_104 : decode cX8_street 104 = .ok (.aload_n 0, 1) := by decide +kernel
theorem dX8_street_105 : decode cX8_street 105 = .ok (.getfield 64, 3) := by decide +kernel
theorem dX8_street_108 : decode cX8_street 108 = .ok (.iload_n 1, 1) := by decide +kernel
theorem dX8_street_109 : decode cX8_street 109 = .ok (.iload_n 2, 1) := by decide +kernel
theorem dX8_street_110 : decode cX8_street 110 = .ok (.iload_n 3, 1) := by decide +kernel
theorem dX8_street_111 : decode cX8_street 111 = .ok (.aload 5, 2) := by decide +kernel
theorem dX8_street_113 : decode cX8_street 113 = .ok (.invokespecial 73, 3) := by decide +kernel
theorem dX8_street_116 : decode cX8_street 116 = .ok (.aastore, 1) := by decide +kernel
theorem dX8_street_117 : decode cX8_street 117 = .ok (.aload_n 0, 1) := by decide +kernel
theorem dX8_street_118 : decode cX8_street 118 = .ok (.dup, 1) := by decide +kernel
theorem dX8_street_119 : decode cX8_street 119 = .ok (.getfield 64, 3) := by decide +kernel
theorem dX8_street_122 : decode cX8_street 122 = .ok (.iconst 1, 1) := by decide +kernel
theorem dX8_street_123 : decode cX8_street 123 = .ok (.iadd, 1) := by decide +kernel
theorem dX8_street_124 : decode cX8_street 124 = .ok (.putfield 64, 3) := by decide +kernel
theorem dX8_street_127 : decode cX8_street 127 = .ok (.aload_n 0, 1) := by decide +kernel
theorem dX8_street_128 : decode cX8_street 128 = .ok (.getfield 64, 3) := by decide +kernel
theorem dX8_street_131 : decode cX8_street 131 = .ok (.iconst 1, 1) := by decide +kernel
