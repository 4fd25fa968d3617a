theorem dX5_formOf_0 : decode cX5_formOf 0 = .ok (.iload_n 1, 1) := by decide +kernel
theorem dX5_formOf_1 : decode cX5_formOf 1 = .ok (.ifCond .lt 25, 3) := by decide +kernel
theorem dX5_formOf_26 : decode cX5_formOf 26 = .ok (.bipush 14, 2) := by decide +kernel
theorem dX5_formOf_28 : decode cX5_formOf 28 = .ok (.ireturn, 1) := by decide +kernel
theorem dX5_through_0 : decode cX5_through 0 = .ok (.iload_n 1, 1) := by decide +kernel
theorem dX5_through_1 : decode cX5_through 1 = .ok (.istore_n 2, 1) := by decide +kernel
theorem dX5_through_2 : decode cX5_through 2 = .ok (.iconst 0, 1) := by decide +kernel
theorem dX5_through_3 : decode cX5_through 3 = .ok (.istore_n 3, 1) := by decide +kernel
theorem dX5_through_4 : decode cX5_through 4 = .ok (.iload_n 3, 1) := by decide +kernel
theorem dX5_through_5 : decode cX5_through 5 = .ok (.bipush 64, 2) := by decide +kernel
theorem dX5_through_7 : decode cX5_through 7 = .ok (.if_icmp .ge 54, 3) := by decide +kernel
theorem dX5_through_10 : decode cX5_through 10 = .ok (.iload_n 2, 1) := by decide +kernel
theorem dX5_through_11 : decode cX5_through 11 = .ok (.ifCond .lt 50, 3) := by decide +kernel
theorem dX5_through_61 : decode cX5_through 61 = .ok (.iload_n 2, 1) := by decide +kernel
theorem dX5_through_62 : decode cX5_through 62 = .ok (.ireturn, 1) := by decide +kernel
theorem dX5_formOf_4 : decode cX5_formOf 4 = .ok (.iload_n 1, 1) := by decide +kernel
theorem dX5_formOf_5 : decode cX5_formOf 5 = .ok (.aload_n 0, 1) := by decide +kernel
theorem dX5_formOf_6 : decode cX5_formOf 6 = .ok (.getfield 28, 3) := by decide +kernel
theorem dX5_formOf_9 : decode cX5_formOf 9 = .ok (.arraylength, 1) := by decide +kernel
theorem dX5_formOf_10 : decode cX5_formOf 10 = .ok (.if_icmp .ge 16, 3) := by decide +kernel
theorem dX5_formOf_13 : decode cX5_formOf 13 = .ok (.aload_n 0, 1) := by decide +kernel
theorem dX5_formOf_14 : decode cX5_formOf 14 = .ok (.getfield 28, 3) := by decide +kernel
theorem dX5_formOf_17 : decode cX5_formOf 17 = .ok (.iload_n 1, 1) := by decide +kernel
theorem dX5_formOf_18 : decode cX5_formOf 18 = .ok (.laload, 1) := by decide +kernel
theorem dX5_formOf_19 : decode cX5_formOf 19 = .ok (.bipush 60, 2) := by decide +kernel
theorem dX5_formOf_21 : decode cX5_formOf 21 = .ok (.lushr, 1) := by decide +kernel
theorem dX5_formOf_22 : decode cX5_formOf 22 = .ok (.l2i, 1) := by decide +kernel
theorem dX5_formOf_23 : decode cX5_formOf 23 = .ok (.goto 5, 3) := by decide +kernel
theorem dX5_through_14 : decode cX5_through 14 = .ok (.iload_n 2, 1) := by decide +kernel
theorem dX5_through_15 : decode cX5_through 15 = .ok (.aload_n 0, 1) := by decide +kernel
theorem dX5_through_16 : decode cX5_through 16 = .ok (.getfield 28, 3) := by decide +kernel
theorem dX5_through_19 : decode cX5_through 19 = .ok (.arraylength, 1) := by decide +kernel
theorem dX5_through_20 : decode cX5_through 20 = .ok (.if_icmp .ge 41, 3) := by decide +kernel
theorem dX5_through_23 : decode cX5_through 23 = .ok (.aload_n 0, 1) := by decide +kernel
theorem dX5_through_24 : decode cX5_through 24 = .ok (.getfield 28, 3) := by decide +kernel
theorem dX5_through_27 : decode cX5_through 27 = .ok (.iload_n 2, 1) := by decide +kernel
theorem dX5_through_28 : decode cX5_through 28 = .ok (.laload, 1) := by decide +kernel
theorem dX5_through_29 : decode cX5_through 29 = .ok (.bipush 60, 2) := by decide +kernel
theorem dX5_through_31 : decode cX5_through 31 = .ok (.lushr, 1) := by decide +kernel
theorem dX5_through_32 : decode cX5_through 32 = .ok (.l2i, 1) := by decide +kernel
theorem dX5_through_33 : decode cX5_through 33 = .ok (.bipush 13, 2) := by decide +kernel
theorem dX5_through_35 : decode cX5_through 35 = .ok (.if_icmp .eq 6, 3) := by decide +kernel
theorem dX5_through_38 : decode cX5_through 38 = .ok (.goto 23, 3) := by decide +kernel
theorem dX5_openOf_0 : decode cX5_openOf 0 = .ok (.iload_n 1, 1) := by decide +kernel
theorem dX5_openOf_1 : decode cX5_openOf 1 = .ok (.ifCond .lt 23, 3) := by decide +kernel
theorem dX5_openOf_4 : decode cX5_openOf 4 = .ok (.iload_n 1, 1) := by decide +kernel
theorem dX5_openOf_5 : decode cX5_openOf 5 = .ok (.aload_n 0, 1) := by decide +kernel
theorem dX5_openOf_6 : decode cX5_openOf 6 = .ok (.getfield 28, 3) := by decide +kernel
theorem dX5_openOf_9 : decode cX5_openOf 9 = .ok (.arraylength, 1) := by decide +kernel
theorem dX5_openOf_10 : decode cX5_openOf 10 = .ok (.if_icmp .ge 14, 3) := by decide +kernel
theorem dX5_openOf_13 : decode cX5_openOf 13 = .ok (.aload_n 0, 1) := by decide +kernel
theorem dX5_openOf_14 : decode cX5_openOf 14 = .ok (.getfield 24, 3) := by decide +kernel
theorem dX5_openOf_17 : decode cX5_openOf 17 = .ok (.iload_n 1, 1) := by decide +kernel
theorem dX5_openOf_18 : decode cX5_openOf 18 = .ok (.laload, 1) := by decide +kernel
theorem dX5_openOf_19 : decode cX5_openOf 19 = .ok (.lconst 0, 1) := by decide +kernel
theorem dX5_openOf_20 : decode cX5_openOf 20 = .ok (.lcmp, 1) := by decide +kernel
theorem dX5_openOf_21 : decode cX5_openOf 21 = .ok (.ifCond .ge 7, 3) := by decide +kernel
theorem dX5_openOf_28 : decode cX5_openOf 28 = .ok (.aload_n 0, 1) := by decide +kernel
theorem dX5_openOf_29 : decode cX5_openOf 29 = .ok (.getfield 24, 3) := by decide +kernel
theorem dX5_openOf_32 : decode cX5_openOf 32 = .ok (.iload_n 1, 1) := by decide +kernel
theorem dX5_openOf_33 : decode cX5_openOf 33 = .ok (.laload, 1) := by decide +kernel
theorem dX5_openOf_34 : decode cX5_openOf 34 = .ok (.bipush 42, 2) := by decide +kernel
theorem dX5_openOf_36 : decode cX5_openOf 36 = .ok (.lushr, 1) := by decide +kernel
theorem dX5_openOf_37 : decode cX5_openOf 37 = .ok (.l2i, 1) := by decide +kernel
theorem dX5_openOf_38 : decode cX5_openOf 38 = .ok (.bipush 7, 2) := by decide +kernel
theorem dX5_openOf_40 : decode cX5_openOf 40 = .ok (.iand, 1) := by decide +kernel
theorem dX5_openOf_41 : decode cX5_openOf 41 = .ok (.ireturn, 1) := by decide +kernel
theorem dX5_depthOf_0 : decode cX5_depthOf 0 = .ok (.iload_n 1, 1) := by decide +kernel
theorem dX5_depthOf_1 : decode cX5_depthOf 1 = .ok (.ifCond .lt 29, 3) := by decide +kernel
theorem dX5_depthOf_4 : decode cX5_depthOf 4 = .ok (.iload_n 1, 1) := by decide +kernel
theorem dX5_depthOf_5 : decode cX5_depthOf 5 = .ok (.aload_n 0, 1) := by decide +kernel
theorem dX5_depthOf_6 : decode cX5_depthOf 6 = .ok (.getfield 28, 3) := by decide +kernel
theorem dX5_depthOf_9 : decode cX5_depthOf 9 = .ok (.arraylength, 1) := by decide +kernel
theorem dX5_depthOf_10 : decode cX5_depthOf 10 = .ok (.if_icmp .ge 20, 3) := by decide +kernel
theorem dX5_depthOf_13 : decode cX5_depthOf 13 = .ok (.aload_n 0, 1) := by decide +kernel
theorem dX5_depthOf_14 : decode cX5_depthOf 14 = .ok (.getfield 28, 3) := by decide +kernel
theorem dX5_depthOf_17 : decode cX5_depthOf 17 = .ok (.iload_n 1, 1) := by decide +kernel
theorem dX5_depthOf_18 : decode cX5_depthOf 18 = .ok (.laload, 1) := by decide +kernel
theorem dX5_depthOf_19 : decode cX5_depthOf 19 = .ok (.bipush 9, 2) := by decide +kernel
theorem dX5_depthOf_21 : decode cX5_depthOf 21 = .ok (.lushr, 1) := by decide +kernel
theorem dX5_depthOf_22 : decode cX5_depthOf 22 = .ok (.l2i, 1) := by decide +kernel
theorem dX5_depthOf_23 : decode cX5_depthOf 23 = .ok (.sipush 511, 3) := by decide +kernel
theorem dX5_depthOf_26 : decode cX5_depthOf 26 = .ok (.iand, 1) := by decide +kernel
theorem dX5_depthOf_27 : decode cX5_depthOf 27 = .ok (.goto 4, 3) := by decide +kernel
theorem dX5_depthOf_31 : decode cX5_depthOf 31 = .ok (.ireturn, 1) := by decide +kernel
theorem dX5_isJoin_0 : decode cX5_isJoin 0 = .ok (.iload_n 1, 1) := by decide +kernel
theorem dX5_isJoin_1 : decode cX5_isJoin 1 = .ok (.ifCond .lt 27, 3) := by decide +kernel
theorem dX5_isJoin_4 : decode cX5_isJoin 4 = .ok (.iload_n 1, 1) := by decide +kernel
theorem dX5_isJoin_5 : decode cX5_isJoin 5 = .ok (.aload_n 0, 1) := by decide +kernel
theorem dX5_isJoin_6 : decode cX5_isJoin 6 = .ok (.getfield 28, 3) := by decide +kernel
theorem dX5_isJoin_9 : decode cX5_isJoin 9 = .ok (.arraylength, 1) := by decide +kernel
theorem dX5_isJoin_10 : decode cX5_isJoin 10 = .ok (.if_icmp .ge 18, 3) := by decide +kernel
theorem dX5_isJoin_13 : decode cX5_isJoin 13 = .ok (.aload_n 0, 1) := by decide +kernel
theorem dX5_isJoin_14 : decode cX5_isJoin 14 = .ok (.getfield 24, 3) := by decide +kernel
theorem dX5_isJoin_17 : decode cX5_isJoin 17 = .ok (.iload_n 1, 1) := by decide +kernel
theorem dX5_isJoin_18 : decode cX5_isJoin 18 = .ok (.laload, 1) := by decide +kernel
theorem dX5_isJoin_19 : decode cX5_isJoin 19 = .ok (.lconst 0, 1) := by decide +kernel
theorem dX5_isJoin_20 : decode cX5_isJoin 20 = .ok (.lcmp, 1) := by decide +kernel
theorem dX5_isJoin_21 : decode cX5_isJoin 21 = .ok (.ifCond .ge 7, 3) := by decide +kernel
theorem dX5_isJoin_28 : decode cX5_isJoin 28 = .ok (.iconst 0, 1) := by decide +kernel
theorem dX5_isJoin_29 : decode cX5_isJoin 29 = .ok (.ireturn, 1) := by decide +kernel
theorem dX5_isShut_0 : decode cX5_isShut 0 = .ok (.iload_n 1, 1) := by decide +kernel
theorem dX5_isShut_1 : decode cX5_isShut 1 = .ok (.ifCond .lt 31, 3) := by decide +kernel
theorem dX5_isShut_4 : decode cX5_isShut 4 = .ok (.iload_n 1, 1) := by decide +kernel
theorem dX5_isShut_5 : decode cX5_isShut 5 = .ok (.aload_n 0, 1) := by decide +kernel
theorem dX5_isShut_6 : decode cX5_isShut 6 = .ok (.getfield 28, 3) := by decide +kernel
theorem dX5_isShut_9 : decode cX5_isShut 9 = .ok (.arraylength, 1) := by decide +kernel
theorem dX5_isShut_10 : decode cX5_isShut 10 = .ok (.if_icmp .ge 22, 3) := by decide +kernel
theorem dX5_isShut_13 : decode cX5_isShut 13 = .ok (.aload_n 0, 1) := by decide +kernel
theorem dX5_isShut_14 : decode cX5_isShut 14 = .ok (.getfield 28, 3) := by decide +kernel
theorem dX5_isShut_17 : decode cX5_isShut 17 = .ok (.iload_n 1, 1) := by decide +kernel
theorem dX5_isShut_18 : decode cX5_isShut 18 = .ok (.laload, 1) := by decide +kernel
theorem dX5_isShut_19 : decode cX5_isShut 19 = .ok (.bipush 60, 2) := by decide +kernel
theorem dX5_isShut_21 : decode cX5_isShut 21 = .ok (.lushr, 1) := by decide +kernel
theorem dX5_isShut_22 : decode cX5_isShut 22 = .ok (.l2i, 1) := by decide +kernel
theorem dX5_isShut_23 : decode cX5_isShut 23 = .ok (.bipush 12, 2) := by decide +kernel
theorem dX5_isShut_25 : decode cX5_isShut 25 = .ok (.if_icmp .ne 7, 3) := by decide +kernel
theorem dX5_isShut_32 : decode cX5_isShut 32 = .ok (.iconst 0, 1) := by decide +kernel
theorem dX5_isShut_33 : decode cX5_isShut 33 = .ok (.ireturn, 1) := by decide +kernel
theorem dX5_isFull_0 : decode cX5_isFull 0 = .ok (.aload_n 0, 1) := by decide +kernel
theorem dX5_isFull_1 : decode cX5_isFull 1 = .ok (.getfield 47, 3) := by decide +kernel
theorem dX5_isFull_4 : decode cX5_isFull 4 = .ok (.sipush 512, 3) := by decide +kernel
theorem dX5_isFull_7 : decode cX5_isFull 7 = .ok (.iadd, 1) := by decide +kernel
theorem dX5_isFull_8 : decode cX5_isFull 8 = .ok (.aload_n 0, 1) := by decide +kernel
theorem dX5_isFull_9 : decode cX5_isFull 9 = .ok (.getfield 28, 3) := by decide +kernel
theorem dX5_isFull_12 : decode cX5_isFull 12 = .ok (.arraylength, 1) := by decide +kernel
theorem dX5_isFull_13 : decode cX5_isFull 13 = .ok (.if_icmp .lt 7, 3) := by decide +kernel
theorem dX5_isFull_20 : decode cX5_isFull 20 = .ok (.iconst 0, 1) := by decide +kernel
theorem dX5_isFull_21 : decode cX5_isFull 21 = .ok (.ireturn, 1) := by decide +kernel
theorem dX6_isCrowded_0 : decode cX6_isCrowded 0 = .ok (.aload_n 0, 1) := by decide +kernel
theorem dX6_isCrowded_1 : decode cX6_isCrowded 1 = .ok (.getfield 15, 3) := by decide +kernel
theorem dX6_isCrowded_4 : decode cX6_isCrowded 4 = .ok (.iconst 2, 1) := by decide +kernel
theorem dX6_isCrowded_5 : decode cX6_isCrowded 5 = .ok (.imul, 1) := by decide +kernel
theorem dX6_isCrowded_6 : decode cX6_isCrowded 6 = .ok (.aload_n 0, 1) := by decide +kernel
theorem dX6_isCrowded_7 : decode cX6_isCrowded 7 = .ok (.getfield 9, 3) := by decide +kernel
theorem dX6_isCrowded_10 : decode cX6_isCrowded 10 = .ok (.arraylength, 1) := by decide +kernel
theorem dX6_isCrowded_11 : decode cX6_isCrowded 11 = .ok (.if_icmp .lt 17, 3) := by decide +kernel
theorem dX6_isCrowded_28 : decode cX6_isCrowded 28 = .ok (.iconst 0, 1) := by decide +kernel
theorem dX6_isCrowded_29 : decode cX6_isCrowded 29 = .ok (.ireturn, 1) := by decide +kernel
theorem dX5_liftOf_0 : decode cX5_liftOf 0 = .ok (.aload_n 0, 1) := by decide +kernel
theorem dX5_liftOf_1 : decode cX5_liftOf 1 = .ok (.iload_n 1, 1) := by decide +kernel
theorem dX5_liftOf_2 : decode cX5_liftOf 2 = .ok (.invokevirtual 100, 3) := by decide +kernel
theorem dX5_liftOf_5 : decode cX5_liftOf 5 = .ok (.istore 4, 2) := by decide +kernel
theorem dX5_liftOf_7 : decode cX5_liftOf 7 = .ok (.iload 4, 2) := by decide +kernel
theorem dX5_liftOf_9 : decode cX5_liftOf 9 = .ok (.aload_n 0, 1) := by decide +kernel
theorem dX5_liftOf_10 : decode cX5_liftOf 10 = .ok (.getfield 9, 3) := by decide +kernel
theorem dX5_liftOf_13 : decode cX5_liftOf 13 = .ok (.arraylength, 1) := by decide +kernel
theorem dX5_liftOf_14 : decode cX5_liftOf 14 = .ok (.if_icmp .ge 9, 3) := by decide +kernel
theorem dX5_liftOf_23 : decode cX5_liftOf 23 = .ok (.iload_n 1, 1) := by decide +kernel
theorem dX5_liftOf_24 : decode cX5_liftOf 24 = .ok (.iload_n 2, 1) := by decide +kernel
theorem dX5_liftOf_25 : decode cX5_liftOf 25 = .ok (.if_icmp .eq 13, 3) := by decide +kernel
theorem dX5_liftOf_38 : decode cX5_liftOf 38 = .ok (.iconst 0, 1) := by decide +kernel
theorem dX5_liftOf_39 : decode cX5_liftOf 39 = .ok (.goto 5, 3) := by decide +kernel
theorem dX5_liftOf_44 : decode cX5_liftOf 44 = .ok (.ireturn, 1) := by decide +kernel
theorem dX5_liftOf_28 : decode cX5_liftOf 28 = .ok (.iload_n 1, 1) := by decide +kernel
theorem dX5_liftOf_29 : decode cX5_liftOf 29 = .ok (.iconst 3, 1) := by decide +kernel
theorem dX5_liftOf_30 : decode cX5_liftOf 30 = .ok (.if_icmp .ge 12, 3) := by decide +kernel
theorem dX5_liftOf_33 : decode cX5_liftOf 33 = .ok (.iload_n 2, 1) := by decide +kernel
theorem dX5_liftOf_34 : decode cX5_liftOf 34 = .ok (.iconst (-1), 1) := by decide +kernel
theorem dX5_liftOf_35 : decode cX5_liftOf 35 = .ok (.if_icmp .ne 7, 3) := by decide +kernel
theorem dX5_liftOf_42 : decode cX5_liftOf 42 = .ok (.ldc 104, 2) := by decide +kernel
theorem dX5_lift_0 : decode cX5_lift 0 = .ok (.iload_n 1, 1) := by decide +kernel
theorem dX5_lift_1 : decode cX5_lift 1 = .ok (.ifCond .lt 12, 3) := by decide +kernel
theorem dX5_lift_4 : decode cX5_lift 4 = .ok (.iload_n 1, 1) := by decide +kernel
theorem dX5_lift_5 : decode cX5_lift 5 = .ok (.aload_n 0, 1) := by decide +kernel
theorem dX5_lift_6 : decode cX5_lift 6 = .ok (.getfield 9, 3) := by decide +kernel
theorem dX5_lift_9 : decode cX5_lift 9 = .ok (.arraylength, 1) := by decide +kernel
theorem dX5_lift_10 : decode cX5_lift 10 = .ok (.if_icmp .lt 4, 3) := by decide +kernel
theorem dX5_lift_14 : decode cX5_lift 14 = .ok (.aload_n 0, 1) := by decide +kernel
theorem dX5_lift_15 : decode cX5_lift 15 = .ok (.getfield 15, 3) := by decide +kernel
theorem dX5_lift_18 : decode cX5_lift 18 = .ok (.iload_n 1, 1) := by decide +kernel
theorem dX5_lift_19 : decode cX5_lift 19 = .ok (.iconst 0, 1) := by decide +kernel
theorem dX5_lift_20 : decode cX5_lift 20 = .ok (.aload_n 0, 1) := by decide +kernel
theorem dX5_lift_21 : decode cX5_lift 21 = .ok (.iload_n 2, 1) := by decide +kernel
theorem dX5_lift_22 : decode cX5_lift 22 = .ok (.iconst (-1), 1) := by decide +kernel
theorem dX5_lift_23 : decode cX5_lift 23 = .ok (.iconst 0, 1) := by decide +kernel
theorem dX5_lift_24 : decode cX5_lift 24 = .ok (.invokevirtual 96, 3) := by decide +kernel
theorem dX5_lift_27 : decode cX5_lift 27 = .ok (.aload_n 0, 1) := by decide +kernel
theorem dX5_lift_28 : decode cX5_lift 28 = .ok (.iload_n 3, 1) := by decide +kernel
theorem dX5_lift_29 : decode cX5_lift 29 = .ok (.iconst (-1), 1) := by decide +kernel
theorem dX5_lift_30 : decode cX5_lift 30 = .ok (.iconst 0, 1) := by decide +kernel
theorem dX5_lift_31 : decode cX5_lift 31 = .ok (.invokevirtual 96, 3) := by decide +kernel
theorem dX5_lift_34 : decode cX5_lift 34 = .ok (.invokestatic 78, 3) := by decide +kernel
theorem dX5_lift_37 : decode cX5_lift 37 = .ok (.invokestatic 78, 3) := by decide +kernel
theorem dX5_lift_40 : decode cX5_lift 40 = .ok (.iastore, 1) := by decide +kernel
theorem dX5_lift_41 : decode cX5_lift 41 = .ok (.iconst 0, 1) := by decide +kernel
theorem dX5_lift_42 : decode cX5_lift 42 = .ok (.istore 4, 2) := by decide +kernel
theorem dX5_lift_44 : decode cX5_lift 44 = .ok (.iload 4, 2) := by decide +kernel
theorem dX5_lift_46 : decode cX5_lift 46 = .ok (.aload_n 0, 1) := by decide +kernel
theorem dX5_lift_47 : decode cX5_lift 47 = .ok (.getfield 9, 3) := by decide +kernel
theorem dX5_lift_50 : decode cX5_lift 50 = .ok (.iload_n 1, 1) := by decide +kernel
theorem dX5_lift_51 : decode cX5_lift 51 = .ok (.iaload, 1) := by decide +kernel
theorem dX5_lift_52 : decode cX5_lift 52 = .ok (.if_icmp .ge 66, 3) := by decide +kernel
theorem dX5_lift_118 : decode cX5_lift 118 = .ok (.return_, 1) := by decide +kernel
theorem dX5_lift_55 : decode cX5_lift 55 = .ok (.aload_n 0, 1) := by decide +kernel
theorem dX5_lift_56 : decode cX5_lift 56 = .ok (.iload_n 2, 1) := by decide +kernel
theorem dX5_lift_57 : decode cX5_lift 57 = .ok (.iconst 3, 1) := by decide +kernel
theorem dX5_lift_58 : decode cX5_lift 58 = .ok (.iload 4, 2) := by decide +kernel
theorem dX5_lift_60 : decode cX5_lift 60 = .ok (.iadd, 1) := by decide +kernel
theorem dX5_lift_61 : decode cX5_lift 61 = .ok (.iconst 0, 1) := by decide +kernel
theorem dX5_lift_62 : decode cX5_lift 62 = .ok (.invokevirtual 96, 3) := by decide +kernel
theorem dX5_lift_65 : decode cX5_lift 65 = .ok (.aload_n 0, 1) := by decide +kernel
theorem dX5_lift_66 : decode cX5_lift 66 = .ok (.iload_n 3, 1) := by decide +kernel
theorem dX5_lift_67 : decode cX5_lift 67 = .ok (.iconst 3, 1) := by decide +kernel
theorem dX5_lift_68 : decode cX5_lift 68 = .ok (.iload 4, 2) := by decide +kernel
theorem dX5_lift_70 : decode cX5_lift 70 = .ok (.iadd, 1) := by decide +kernel
theorem dX5_lift_71 : decode cX5_lift 71 = .ok (.iconst 0, 1) := by decide +kernel
theorem dX5_lift_72 : decode cX5_lift 72 = .ok (.invokevirtual 96, 3) := by decide +kernel
theorem dX5_lift_75 : decode cX5_lift 75 = .ok (.invokestatic 78, 3) := by decide +kernel
theorem dX5_lift_78 : decode cX5_lift 78 = .ok (.istore 5, 2) := by decide +kernel
theorem dX5_lift_80 : decode cX5_lift 80 = .ok (.iload 4, 2) := by decide +kernel
theorem dX5_lift_82 : decode cX5_lift 82 = .ok (.ifCond .ne 18, 3) := by decide +kernel
theorem dX5_lift_85 : decode cX5_lift 85 = .ok (.aload_n 0, 1) := by decide +kernel
theorem dX5_lift_86 : decode cX5_lift 86 = .ok (.getfield 18, 3) := by decide +kernel
theorem dX5_lift_89 : decode cX5_lift 89 = .ok (.iload_n 1, 1) := by decide +kernel
theorem dX5_lift_90 : decode cX5_lift 90 = .ok (.iconst 1, 1) := by decide +kernel
theorem dX5_lift_91 : decode cX5_lift 91 = .ok (.iload 5, 2) := by decide +kernel
theorem dX5_lift_93 : decode cX5_lift 93 = .ok (.invokestatic 78, 3) := by decide +kernel
theorem dX5_lift_96 : decode cX5_lift 96 = .ok (.iastore, 1) := by decide +kernel
theorem dX5_lift_97 : decode cX5_lift 97 = .ok (.goto 15, 3) := by decide +kernel
theorem dX5_lift_112 : decode cX5_lift 112 = .ok (.iinc 4 1, 3) := by decide +kernel
theorem dX5_lift_115 : decode cX5_lift 115 = .ok (.goto (-71), 3) := by decide +kernel
theorem dX5_lift_100 : decode cX5_lift 100 = .ok (.aload_n 0, 1) := by decide +kernel
theorem dX5_lift_101 : decode cX5_lift 101 = .ok (.getfield 21, 3) := by decide +kernel
theorem dX5_lift_104 : decode cX5_lift 104 = .ok (.iload_n 1, 1) := by decide +kernel
theorem dX5_lift_105 : decode cX5_lift 105 = .ok (.iconst 1, 1) := by decide +kernel
theorem dX5_lift_106 : decode cX5_lift 106 = .ok (.iload 5, 2) := by decide +kernel
theorem dX5_lift_108 : decode cX5_lift 108 = .ok (.invokestatic 78, 3) := by decide +kernel
theorem dX5_lift_111 : decode cX5_lift 111 = .ok (.iastore, 1) := by decide +kernel
theorem dX7_toldAt_0 : decode cX7_toldAt 0 = .ok (.iload_n 1, 1) := by decide +kernel
theorem dX7_toldAt_1 : decode cX7_toldAt 1 = .ok (.ifCond .lt 20, 3) := by decide +kernel
theorem dX7_toldAt_21 : decode cX7_toldAt 21 = .ok (.iconst (-1), 1) := by decide +kernel
theorem dX7_toldAt_22 : decode cX7_toldAt 22 = .ok (.goto 9, 3) := by decide +kernel
theorem dX7_toldAt_31 : decode cX7_toldAt 31 = .ok (.ireturn, 1) := by decide +kernel
theorem dX7_toldAt_4 : decode cX7_toldAt 4 = .ok (.iload_n 1, 1) := by decide +kernel
theorem dX7_toldAt_5 : decode cX7_toldAt 5 = .ok (.aload_n 0, 1) := by decide +kernel
theorem dX7_toldAt_6 : decode cX7_toldAt 6 = .ok (.getfield 29, 3) := by decide +kernel
theorem dX7_toldAt_9 : decode cX7_toldAt 9 = .ok (.if_icmp .ge 12, 3) := by decide +kernel
theorem dX7_toldAt_12 : decode cX7_toldAt 12 = .ok (.iload_n 1, 1) := by decide +kernel
theorem dX7_toldAt_13 : decode cX7_toldAt 13 = .ok (.aload_n 0, 1) := by decide +kernel
theorem dX7_toldAt_14 : decode cX7_toldAt 14 = .ok (.getfield 25, 3) := by decide +kernel
theorem dX7_toldAt_17 : decode cX7_toldAt 17 = .ok (.arraylength, 1) := by decide +kernel
theorem dX7_toldAt_18 : decode cX7_toldAt 18 = .ok (.if_icmp .lt 7, 3) := by decide +kernel
theorem dX7_toldAt_25 : decode cX7_toldAt 25 = .ok (.aload_n 0, 1) := by decide +kernel
theorem dX7_toldAt_26 : decode cX7_toldAt 26 = .ok (.getfield 25, 3) := by decide +kernel
theorem dX7_toldAt_29 : decode cX7_toldAt 29 = .ok (.iload_n 1, 1) := by decide +kernel
theorem dX7_toldAt_30 : decode cX7_toldAt 30 = .ok (.iaload, 1) := by decide +kernel
theorem dX7_tidy_0 : decode cX7_tidy 0 = .ok (.aload_n 0, 1) := by decide +kernel
theorem dX7_tidy_1 : decode cX7_tidy 1 = .ok (.iconst 0, 1) := by decide +kernel
theorem dX7_tidy_2 : decode cX7_tidy 2 = .ok (.putfield 52, 3) := by decide +kernel
theorem dX7_tidy_5 : decode cX7_tidy 5 = .ok (.aload_n 0, 1) := by decide +kernel
theorem dX7_tidy_6 : decode cX7_tidy 6 = .ok (.getfield 21, 3) := by decide +kernel
theorem dX7_tidy_9 : decode cX7_tidy 9 = .ok (.invokevirtual 87, 3) := by decide +kernel
theorem dX7_tidy_12 : decode cX7_tidy 12 = .ok (.ifCond .eq 7, 3) := by decide +kernel
theorem dX7_tidy_19 : decode cX7_tidy 19 = .ok (.return_, 1) := by decide +kernel
theorem dX7_joinOf_0 : decode cX7_joinOf 0 = .ok (.aload_n 0, 1) := by decide +kernel
theorem dX7_joinOf_1 : decode cX7_joinOf 1 = .ok (.getfield 21, 3) := by decide +kernel
theorem dX7_joinOf_4 : decode cX7_joinOf 4 = .ok (.iload_n 1, 1) := by decide +kernel
theorem dX7_joinOf_5 : decode cX7_joinOf 5 = .ok (.invokevirtual 194, 3) := by decide +kernel
theorem dX7_joinOf_8 : decode cX7_joinOf 8 = .ok (.istore_n 3, 1) := by decide +kernel
theorem dX7_joinOf_9 : decode cX7_joinOf 9 = .ok (.aload_n 0, 1) := by decide +kernel
theorem dX7_joinOf_10 : decode cX7_joinOf 10 = .ok (.getfield 21, 3) := by decide +kernel
theorem dX7_joinOf_13 : decode cX7_joinOf 13 = .ok (.iload_n 2, 1) := by decide +kernel
theorem dX7_joinOf_14 : decode cX7_joinOf 14 = .ok (.invokevirtual 194, 3) := by decide +kernel
theorem dX7_joinOf_17 : decode cX7_joinOf 17 = .ok (.istore 4, 2) := by decide +kernel
theorem dX7_joinOf_19 : decode cX7_joinOf 19 = .ok (.iload_n 3, 1) := by decide +kernel
theorem dX7_joinOf_20 : decode cX7_joinOf 20 = .ok (.iload 4, 2) := by decide +kernel
theorem dX7_joinOf_22 : decode cX7_joinOf 22 = .ok (.if_icmp .ne 5, 3) := by decide +kernel
theorem dX7_joinOf_25 : decode cX7_joinOf 25 = .ok (.iload_n 3, 1) := by decide +kernel
theorem dX7_joinOf_26 : decode cX7_joinOf 26 = .ok (.ireturn, 1) := by decide +kernel
theorem dX7_joinOf_27 : decode cX7_joinOf 27 = .ok (.iload_n 3, 1) := by decide +kernel
theorem dX7_joinOf_28 : decode cX7_joinOf 28 = .ok (.ifCond .eq 8, 3) := by decide +kernel
theorem dX7_joinOf_36 : decode cX7_joinOf 36 = .ok (.iconst 0, 1) := by decide +kernel
theorem dX7_joinOf_37 : decode cX7_joinOf 37 = .ok (.ireturn, 1) := by decide +kernel
theorem dX7_joinOf_31 : decode cX7_joinOf 31 = .ok (.iload 4, 2) := by decide +kernel
theorem dX7_joinOf_33 : decode cX7_joinOf 33 = .ok (.ifCond .ne 5, 3) := by decide +kernel
theorem dX7_joinOf_38 : decode cX7_joinOf 38 = .ok (.iload_n 3, 1) := by decide +kernel
theorem dX7_joinOf_39 : decode cX7_joinOf 39 = .ok (.iconst 1, 1) := by decide +kernel
theorem dX7_joinOf_40 : decode cX7_joinOf 40 = .ok (.if_icmp .ne 6, 3) := by decide +kernel
theorem dX7_joinOf_43 : decode cX7_joinOf 43 = .ok (.iload 4, 2) := by decide +kernel
theorem dX7_joinOf_45 : decode cX7_joinOf 45 = .ok (.ireturn, 1) := by decide +kernel
def wb_c_N_form_n : List Cond := []
def w_c_N_form_n : List Cond := .code yX5_formOf cX5_formOf 2 (some .int) :: wb_c_N_form_n
set_option maxHeartbeats 4000000 in
set_option maxRecDepth 100000 in
theorem c_N_form_n (l : Launch) (eD eI : Nat) (ad : Nat → Nat) (dC : Nat → ClassId) (dI : Nat → Nat → Nat) (sz : Nat) (anod : Nat) (nm : Nat) (nl : Nat) (n1 : Nat) (n2 : Nat) (nf : Nat) (ns : Nat) (nh : Nat) (nk : Nat) (np : Nat) : Met l yX5_formOf w_c_N_form_n ({ frames := 0, cells := 0, slots := 0, locals := 0 }) (va_Pc [.ref anod, .int (-1)] (zPre eD eI ad (dC, dI) [(anod, .inr (7, [.ref nm, .ref nl, .ref n1, .ref n2, .ref nf, .ref ns, .ref nh, .ref nk, .ref np, .int 16, .int 0, .int 16, .int 0, .int 0]))] [] sz)) (va_Qi (fun (r : Int32) (_ : Unit) => r = 14) (fun (_ : Unit) => zEnd (dC, dI) (va_A [(anod, .inr (7, [.ref nm, .ref nl, .ref n1, .ref n2, .ref nf, .ref ns, .ref nh, .ref nk, .ref np, .int 16, .int 0, .int 16, .int 0, .int 0]))] sz) [(anod, .inr (7, [.ref nm, .ref nl, .ref n1, .ref n2, .ref nf, .ref ns, .ref nh, .ref nk, .ref np, .int 16, .int 0, .int 16, .int 0, .int 0]))] []) (va_A [(anod, .inr (7, [.ref nm, .ref nl, .ref n1, .ref n2, .ref nf, .ref ns, .ref nh, .ref nk, .ref np, .int 16, .int 0, .int 16, .int 0, .int 0]))] sz)) 0 0 (va_A [(anod, .inr (7, [.ref nm, .ref nl, .ref n1, .ref n2, .ref nf, .ref ns, .ref nh, .ref nk, .ref np, .int 16, .int 0, .int 16, .int 0, .int 0]))] sz) := by
  refine Met.ofW (cc := cX5_formOf) (maxL := 2) (ret := (some .int)) (by decide) rfl ?_
  intro p e s m args below meth c s₁ B hml hv
  obtain ⟨rfl, hsz, hP, hK, hD0, hE⟩ := hv
  have hx := B.exec
  have hb := B.bytes
  have hr := B.returns
  have hts := atoms_spec (ws := w_c_N_form_n) B.pre
  have hown : s.vm.findClass RX5 = some m.cls := findClass_of_methodNamed B.named
  have hlocks := B.notSynchronized
  subst hsz
  have hD := hD0.self (sz := s.heap.size)
  generalize hAe : va_A [(anod, .inr (7, [.ref nm, .ref nl, .ref n1, .ref n2, .ref nf, .ref ns, .ref nh, .ref nk, .ref np, .int 16, .int 0, .int 16, .int 0, .int 0]))] s.heap.size = A at hD hE ⊢
  have hA : ∀ q : Nat, s.heap.size ≤ q → A q := fun q h => by rw [← hAe]; exact Or.inr h
  have hS : va_S A s.heap s.heap [] := va_S.rf
  have hP : va_P (dC, dI) vwCl [(anod, .inr (7, [.ref nm, .ref nl, .ref n1, .ref n2, .ref nf, .ref ns, .ref nh, .ref nk, .ref np, .int 16, .int 0, .int 16, .int 0, .int 0]))] s.heap := hP
  have hl := lv_entry ([.ref anod, .int (-1)]) (n := 2) (Nat.le_of_ble_eq_true rfl)
  rw [lg_entry_eq]
  generalize (lg_sl ([.ref anod, .int (-1)]) ++ List.replicate (2 - (lg_sl ([.ref anod, .int (-1)])).length) Slot.unset).toArray = ls at hl ⊢
  have hl : lv_has ls 2 [(0, .ref anod), (1, .int (-1))] := hl
  refine lv_iload_n hx hb dX5_formOf_0 rfl (lv_at hl 1 rfl) ?_
  refine lv_if_lt (tgt := 26) hx hb dX5_formOf_1 (by decide) (fun c_1 => ?_) (fun c_1 => ?_)
  rotate_left
  · exact absurd (by decide) c_1
  refine lv_bipush (v := 14) hx hb dX5_formOf_26 (by decide) ?_
  have hP9 := hP.sub (ws' := [(anod, .inr (7, [.ref nm, .ref nl, .ref n1, .ref n2, .ref nf, .ref ns, .ref nh, .ref nk, .ref np, .int 16, .int 0, .int 16, .int 0, .int 0]))]) [0] rfl
  have hD9 := hD.sub (ws' := [(anod, .inr (7, [.ref nm, .ref nl, .ref n1, .ref n2, .ref nf, .ref ns, .ref nh, .ref nk, .ref np, .int 16, .int 0, .int 16, .int 0, .int 0]))]) [0] (by decide) rfl
  have hK9 := hK.sub (tys' := []) [] rfl
  refine W.widen (k := 0) (n := 0) (Nat.le_of_ble_eq_true rfl) (Nat.le_of_ble_eq_true rfl) ?_
  exact W.iret (v := 14) hx hb hr (fun t ht hW => ⟨⟨14, (), rfl, rfl, ⟨by rw [ht]; exact hP9, va_K.moved hW.alike hK9, hD9⟩⟩, hS.F ht⟩) hS.2.2 dX5_formOf_28

def wb_c_N_through_n : List Cond := []
def w_c_N_through_n : List Cond := .code yX5_through cX5_through 4 (some .int) :: wb_c_N_through_n
set_option maxHeartbeats 4000000 in
set_option maxRecDepth 100000 in
theorem c_N_through_n (l : Launch) (eD eI : Nat) (ad : Nat → Nat) (dC : Nat → ClassId) (dI : Nat → Nat → Nat) (sz : Nat) (anod : Nat) (nm : Nat) (nl : Nat) (n1 : Nat) (n2 : Nat) (nf : Nat) (ns : Nat) (nh : Nat) (nk : Nat) (np : Nat) : Met l yX5_through w_c_N_through_n ({ frames := 0, cells := 0, slots := 0, locals := 0 }) (va_Pc [.ref anod, .int (-1)] (zPre eD eI ad (dC, dI) [(anod, .inr (7, [.ref nm, .ref nl, .ref n1, .ref n2, .ref nf, .ref ns, .ref nh, .ref nk, .ref np, .int 16, .int 0, .int 16, .int 0, .int 0]))] [] sz)) (va_Qi (fun (r : Int32) (_ : Unit) => r = (-1)) (fun (_ : Unit) => zEnd (dC, dI) (va_A [(anod, .inr (7, [.ref nm, .ref nl, .ref n1, .ref n2, .ref nf, .ref ns, .ref nh, .ref nk, .ref np, .int 16, .int 0, .int 16, .int 0, .int 0]))] sz) [(anod, .inr (7, [.ref nm, .ref nl, .ref n1, .ref n2, .ref nf, .ref ns, .ref nh, .ref nk, .ref np, .int 16, .int 0, .int 16, .int 0, .int 0]))] []) (va_A [(anod, .inr (7, [.ref nm, .ref nl, .ref n1, .ref n2, .ref nf, .ref ns, .ref nh, .ref nk, .ref np, .int 16, .int 0, .int 16, .int 0, .int 0]))] sz)) 0 0 (va_A [(anod, .inr (7, [.ref nm, .ref nl, .ref n1, .ref n2, .ref nf, .ref ns, .ref nh, .ref nk, .ref np, .int 16, .int 0, .int 16, .int 0, .int 0]))] sz) := by
  refine Met.ofW (cc := cX5_through) (maxL := 4) (ret := (some .int)) (by decide) rfl ?_
  intro p e s m args below meth c s₁ B hml hv
  obtain ⟨rfl, hsz, hP, hK, hD0, hE⟩ := hv
  have hx := B.exec
  have hb := B.bytes
  have hr := B.returns
  have hts := atoms_spec (ws := w_c_N_through_n) B.pre
  have hown : s.vm.findClass RX5 = some m.cls := findClass_of_methodNamed B.named
  have hlocks := B.notSynchronized
  subst hsz
  have hD := hD0.self (sz := s.heap.size)
  generalize hAe : va_A [(anod, .inr (7, [.ref nm, .ref nl, .ref n1, .ref n2, .ref nf, .ref ns, .ref nh, .ref nk, .ref np, .int 16, .int 0, .int 16, .int 0, .int 0]))] s.heap.size = A at hD hE ⊢
  have hA : ∀ q : Nat, s.heap.size ≤ q → A q := fun q h => by rw [← hAe]; exact Or.inr h
  have hS : va_S A s.heap s.heap [] := va_S.rf
  have hP : va_P (dC, dI) vwCl [(anod, .inr (7, [.ref nm, .ref nl, .ref n1, .ref n2, .ref nf, .ref ns, .ref nh, .ref nk, .ref np, .int 16, .int 0, .int 16, .int 0, .int 0]))] s.heap := hP
  have hl := lv_entry ([.ref anod, .int (-1)]) (n := 4) (Nat.le_of_ble_eq_true rfl)
  rw [lg_entry_eq]
  generalize (lg_sl ([.ref anod, .int (-1)]) ++ List.replicate (4 - (lg_sl ([.ref anod, .int (-1)])).length) Slot.unset).toArray = ls at hl ⊢
  have hl : lv_has ls 4 [(0, .ref anod), (1, .int (-1))] := hl
  refine lv_iload_n hx hb dX5_through_0 rfl (lv_at hl 1 rfl) ?_
  refine lv_istore_n (lv' := [(2, .int (-1)), (0, .ref anod), (1, .int (-1))]) hx hb dX5_through_1 rfl hl (by decide) rfl (fun ls hl => ?_)
  refine lv_iconst (v := 0) hx hb dX5_through_2 (by decide) ?_
  refine lv_istore_n (lv' := [(3, .int 0), (2, .int (-1)), (0, .ref anod), (1, .int (-1))]) hx hb dX5_through_3 rfl hl (by decide) rfl (fun ls hl => ?_)
  refine lv_iload_n hx hb dX5_through_4 rfl (lv_at hl 0 rfl) ?_
  refine lv_bipush (v := 64) hx hb dX5_through_5 (by decide) ?_
  refine lv_icmp_ge (tgt := 61) hx hb dX5_through_7 (by decide) (fun c_1 => ?_) (fun c_1 => ?_)
  · exact absurd c_1 (by decide)
  refine lv_iload_n hx hb dX5_through_10 rfl (lv_at hl 1 rfl) ?_
  refine lv_if_lt (tgt := 61) hx hb dX5_through_11 (by decide) (fun c_2 => ?_) (fun c_2 => ?_)
  rotate_left
  · exact absurd (by decide) c_2
  refine lv_iload_n hx hb dX5_through_61 rfl (lv_at hl 1 rfl) ?_
  have hP9 := hP.sub (ws' := [(anod, .inr (7, [.ref nm, .ref nl, .ref n1, .ref n2, .ref nf, .ref ns, .ref nh, .ref nk, .ref np, .int 16, .int 0, .int 16, .int 0, .int 0]))]) [0] rfl
  have hD9 := hD.sub (ws' := [(anod, .inr (7, [.ref nm, .ref nl, .ref n1, .ref n2, .ref nf, .ref ns, .ref nh, .ref nk, .ref np, .int 16, .int 0, .int 16, .int 0, .int 0]))]) [0] (by decide) rfl
  have hK9 := hK.sub (tys' := []) [] rfl
  refine W.widen (k := 0) (n := 0) (Nat.le_of_ble_eq_true rfl) (Nat.le_of_ble_eq_true rfl) ?_
  exact W.iret (v := (-1)) hx hb hr (fun t ht hW => ⟨⟨(-1), (), rfl, rfl, ⟨by rw [ht]; exact hP9, va_K.moved hW.alike hK9, hD9⟩⟩, hS.F ht⟩) hS.2.2 dX5_through_62

def wb_c_N_form_0 : List Cond := [.fieldLink RX5 28 "Hornbook$Nodes" "second" "[J"] ++ u_ws RX5 TX5 14
def w_c_N_form_0 : List Cond := .code yX5_formOf cX5_formOf 2 (some .int) :: wb_c_N_form_0
set_option maxHeartbeats 4000000 in
set_option maxRecDepth 100000 in
theorem c_N_form_0 (l : Launch) (eD eI : Nat) (ad : Nat → Nat) (dC : Nat → ClassId) (dI : Nat → Nat → Nat) (sz : Nat) (anod : Nat) (nm : Nat) (nl : Nat) (n1 : Nat) (n2 : Nat) (nf : Nat) (ns : Nat) (nh : Nat) (nk : Nat) (np : Nat) (kL : ClassId) : Met l yX5_formOf w_c_N_form_0 ({ frames := 0, cells := 0, slots := 0, locals := 0 }) (va_Pc [.ref anod, .int 0] (zPre eD eI ad (dC, dI) [(anod, .inr (7, [.ref nm, .ref nl, .ref n1, .ref n2, .ref nf, .ref ns, .ref nh, .ref nk, .ref np, .int 16, .int 0, .int 16, .int 0, .int 0])), (ns, .inl (kL, 1024, .inr (.inl zSec)))] [(kL, .long)] sz)) (va_Qi (fun (r : Int32) (_ : Unit) => r = 14) (fun (_ : Unit) => zEnd (dC, dI) (va_A [(anod, .inr (7, [.ref nm, .ref nl, .ref n1, .ref n2, .ref nf, .ref ns, .ref nh, .ref nk, .ref np, .int 16, .int 0, .int 16, .int 0, .int 0])), (ns, .inl (kL, 1024, .inr (.inl zSec)))] sz) [(anod, .inr (7, [.ref nm, .ref nl, .ref n1, .ref n2, .ref nf, .ref ns, .ref nh, .ref nk, .ref np, .int 16, .int 0, .int 16, .int 0, .int 0])), (ns, .inl (kL, 1024, .inr (.inl zSec)))] [(kL, .long)]) (va_A [(anod, .inr (7, [.ref nm, .ref nl, .ref n1, .ref n2, .ref nf, .ref ns, .ref nh, .ref nk, .ref np, .int 16, .int 0, .int 16, .int 0, .int 0])), (ns, .inl (kL, 1024, .inr (.inl zSec)))] sz)) 0 0 (va_A [(anod, .inr (7, [.ref nm, .ref nl, .ref n1, .ref n2, .ref nf, .ref ns, .ref nh, .ref nk, .ref np, .int 16, .int 0, .int 16, .int 0, .int 0])), (ns, .inl (kL, 1024, .inr (.inl zSec)))] sz) := by
  refine Met.ofW (cc := cX5_formOf) (maxL := 2) (ret := (some .int)) (by decide) rfl ?_
  intro p e s m args below meth c s₁ B hml hv
  obtain ⟨rfl, hsz, hP, hK, hD0, hE⟩ := hv
  have hx := B.exec
  have hb := B.bytes
  have hr := B.returns
  have hts := atoms_spec (ws := w_c_N_form_0) B.pre
  have hown : s.vm.findClass RX5 = some m.cls := findClass_of_methodNamed B.named
  have hlocks := B.notSynchronized
  subst hsz
  have hD := hD0.self (sz := s.heap.size)
  generalize hAe : va_A [(anod, .inr (7, [.ref nm, .ref nl, .ref n1, .ref n2, .ref nf, .ref ns, .ref nh, .ref nk, .ref np, .int 16, .int 0, .int 16, .int 0, .int 0])), (ns, .inl (kL, 1024, .inr (.inl zSec)))] s.heap.size = A at hD hE ⊢
  have hA : ∀ q : Nat, s.heap.size ≤ q → A q := fun q h => by rw [← hAe]; exact Or.inr h
  have hS : va_S A s.heap s.heap [] := va_S.rf
  have hP : va_P (dC, dI) vwCl [(anod, .inr (7, [.ref nm, .ref nl, .ref n1, .ref n2, .ref nf, .ref ns, .ref nh, .ref nk, .ref np, .int 16, .int 0, .int 16, .int 0, .int 0])), (ns, .inl (kL, 1024, .inr (.inl zSec)))] s.heap := hP
  have hl := lv_entry ([.ref anod, .int 0]) (n := 2) (Nat.le_of_ble_eq_true rfl)
  rw [lg_entry_eq]
  generalize (lg_sl ([.ref anod, .int 0]) ++ List.replicate (2 - (lg_sl ([.ref anod, .int 0])).length) Slot.unset).toArray = ls at hl ⊢
  have hl : lv_has ls 2 [(0, .ref anod), (1, .int 0)] := hl
  have in_RX5 : ∀ w ∈ u_ws RX5 TX5 14, w ∈ w_c_N_form_0 := by decide +kernel
  refine lv_iload_n hx hb dX5_formOf_0 rfl (lv_at hl 1 rfl) ?_
  refine lv_if_lt (tgt := 26) hx hb dX5_formOf_1 (by decide) (fun c_1 => ?_) (fun c_1 => ?_)
  · exact absurd c_1 (by decide)
  refine lv_iload_n hx hb dX5_formOf_4 rfl (lv_at hl 1 rfl) ?_
  refine lv_aload_n hx hb dX5_formOf_5 rfl (lv_at hl 0 rfl) ?_
  refine va_get (D := (dC, dI)) (ci := 7) (v := .ref ns) (C := RX5) (T := TX5) (N := 14) hx hb hts in_RX5 hown hK hP 0 rfl rfl 5 (by decide) (hts (.fieldLink RX5 28 "Hornbook$Nodes" "second" "[J") (by decide +kernel)) (fun _ h9 => h9) rfl dX5_formOf_6 ?_
  refine va_alen (D := (dC, dI)) (v := 1024) hx hb hK hP 1 0 rfl rfl rfl dX5_formOf_9 ?_
  refine lv_icmp_ge (tgt := 26) hx hb dX5_formOf_10 (by decide) (fun c_2 => ?_) (fun c_2 => ?_)
  · exact absurd c_2 (by decide)
  refine lv_aload_n hx hb dX5_formOf_13 rfl (lv_at hl 0 rfl) ?_
  refine va_get (D := (dC, dI)) (ci := 7) (v := .ref ns) (C := RX5) (T := TX5) (N := 14) hx hb hts in_RX5 hown hK hP 0 rfl rfl 5 (by decide) (hts (.fieldLink RX5 28 "Hornbook$Nodes" "second" "[J") (by decide +kernel)) (fun _ h9 => h9) rfl dX5_formOf_14 ?_
  refine lv_iload_n hx hb dX5_formOf_17 rfl (lv_at hl 1 rfl) ?_
  refine va_lald (D := (dC, dI)) hx hb hK hP 1 0 rfl rfl (by unfold vp_in; decide) dX5_formOf_18 ?_
  refine z_top (v' := .long (-2305843009213693952)) (congrArg Value.long (by first | rfl | decide)) ?_
  refine lv_bipush (v := 60) hx hb dX5_formOf_19 (by decide) ?_
  refine lv_lushr (v := 14) hx hb dX5_formOf_21 (by first | rfl | decide | decide +kernel) ?_
  refine lv_l2i (v := 14) hx hb dX5_formOf_22 (by first | rfl | decide | decide +kernel) ?_
  refine lv_goto (tgt := 28) hx hb dX5_formOf_23 (by decide) ?_
  have hP9 := hP.sub (ws' := [(anod, .inr (7, [.ref nm, .ref nl, .ref n1, .ref n2, .ref nf, .ref ns, .ref nh, .ref nk, .ref np, .int 16, .int 0, .int 16, .int 0, .int 0])), (ns, .inl (kL, 1024, .inr (.inl zSec)))]) [0, 1] rfl
  have hD9 := hD.sub (ws' := [(anod, .inr (7, [.ref nm, .ref nl, .ref n1, .ref n2, .ref nf, .ref ns, .ref nh, .ref nk, .ref np, .int 16, .int 0, .int 16, .int 0, .int 0])), (ns, .inl (kL, 1024, .inr (.inl zSec)))]) [0, 1] (by decide) rfl
  have hK9 := hK.sub (tys' := [(kL, .long)]) [0] rfl
  refine W.widen (k := 0) (n := 0) (Nat.le_of_ble_eq_true rfl) (Nat.le_of_ble_eq_true rfl) ?_
  exact W.iret (v := 14) hx hb hr (fun t ht hW => ⟨⟨14, (), rfl, rfl, ⟨by rw [ht]; exact hP9, va_K.moved hW.alike hK9, hD9⟩⟩, hS.F ht⟩) hS.2.2 dX5_formOf_28

def wb_c_N_through_0 : List Cond := [.fieldLink RX5 28 "Hornbook$Nodes" "second" "[J"] ++ u_ws RX5 TX5 14
def w_c_N_through_0 : List Cond := .code yX5_through cX5_through 4 (some .int) :: wb_c_N_through_0
set_option maxHeartbeats 4000000 in
set_option maxRecDepth 100000 in
theorem c_N_through_0 (l : Launch) (eD eI : Nat) (ad : Nat → Nat) (dC : Nat → ClassId) (dI : Nat → Nat → Nat) (sz : Nat) (anod : Nat) (nm : Nat) (nl : Nat) (n1 : Nat) (n2 : Nat) (nf : Nat) (ns : Nat) (nh : Nat) (nk : Nat) (np : Nat) (kL : ClassId) : Met l yX5_through w_c_N_through_0 ({ frames := 0, cells := 0, slots := 0, locals := 0 }) (va_Pc [.ref anod, .int 0] (zPre eD eI ad (dC, dI) [(anod, .inr (7, [.ref nm, .ref nl, .ref n1, .ref n2, .ref nf, .ref ns, .ref nh, .ref nk, .ref np, .int 16, .int 0, .int 16, .int 0, .int 0])), (ns, .inl (kL, 1024, .inr (.inl zSec)))] [(kL, .long)] sz)) (va_Qi (fun (r : Int32) (_ : Unit) => r = 0) (fun (_ : Unit) => zEnd (dC, dI) (va_A [(anod, .inr (7, [.ref nm, .ref nl, .ref n1, .ref n2, .ref nf, .ref ns, .ref nh, .ref nk, .ref np, .int 16, .int 0, .int 16, .int 0, .int 0])), (ns, .inl (kL, 1024, .inr (.inl zSec)))] sz) [(anod, .inr (7, [.ref nm, .ref nl, .ref n1, .ref n2, .ref nf, .ref ns, .ref nh, .ref nk, .ref np, .int 16, .int 0, .int 16, .int 0, .int 0])), (ns, .inl (kL, 1024, .inr (.inl zSec)))] [(kL, .long)]) (va_A [(anod, .inr (7, [.ref nm, .ref nl, .ref n1, .ref n2, .ref nf, .ref ns, .ref nh, .ref nk, .ref np, .int 16, .int 0, .int 16, .int 0, .int 0])), (ns, .inl (kL, 1024, .inr (.inl zSec)))] sz)) 0 0 (va_A [(anod, .inr (7, [.ref nm, .ref nl, .ref n1, .ref n2, .ref nf, .ref ns, .ref nh, .ref nk, .ref np, .int 16, .int 0, .int 16, .int 0, .int 0])), (ns, .inl (kL, 1024, .inr (.inl zSec)))] sz) := by
  refine Met.ofW (cc := cX5_through) (maxL := 4) (ret := (some .int)) (by decide) rfl ?_
  intro p e s m args below meth c s₁ B hml hv
  obtain ⟨rfl, hsz, hP, hK, hD0, hE⟩ := hv
  have hx := B.exec
  have hb := B.bytes
  have hr := B.returns
  have hts := atoms_spec (ws := w_c_N_through_0) B.pre
  have hown : s.vm.findClass RX5 = some m.cls := findClass_of_methodNamed B.named
  have hlocks := B.notSynchronized
  subst hsz
  have hD := hD0.self (sz := s.heap.size)
  generalize hAe : va_A [(anod, .inr (7, [.ref nm, .ref nl, .ref n1, .ref n2, .ref nf, .ref ns, .ref nh, .ref nk, .ref np, .int 16, .int 0, .int 16, .int 0, .int 0])), (ns, .inl (kL, 1024, .inr (.inl zSec)))] s.heap.size = A at hD hE ⊢
  have hA : ∀ q : Nat, s.heap.size ≤ q → A q := fun q h => by rw [← hAe]; exact Or.inr h
  have hS : va_S A s.heap s.heap [] := va_S.rf
  have hP : va_P (dC, dI) vwCl [(anod, .inr (7, [.ref nm, .ref nl, .ref n1, .ref n2, .ref nf, .ref ns, .ref nh, .ref nk, .ref np, .int 16, .int 0, .int 16, .int 0, .int 0])), (ns, .inl (kL, 1024, .inr (.inl zSec)))] s.heap := hP
  have hl := lv_entry ([.ref anod, .int 0]) (n := 4) (Nat.le_of_ble_eq_true rfl)
  rw [lg_entry_eq]
  generalize (lg_sl ([.ref anod, .int 0]) ++ List.replicate (4 - (lg_sl ([.ref anod, .int 0])).length) Slot.unset).toArray = ls at hl ⊢
  have hl : lv_has ls 4 [(0, .ref anod), (1, .int 0)] := hl
  have in_RX5 : ∀ w ∈ u_ws RX5 TX5 14, w ∈ w_c_N_through_0 := by decide +kernel
  refine lv_iload_n hx hb dX5_through_0 rfl (lv_at hl 1 rfl) ?_
  refine lv_istore_n (lv' := [(2, .int 0), (0, .ref anod), (1, .int 0)]) hx hb dX5_through_1 rfl hl (by decide) rfl (fun ls hl => ?_)
  refine lv_iconst (v := 0) hx hb dX5_through_2 (by decide) ?_
  refine lv_istore_n (lv' := [(3, .int 0), (2, .int 0), (0, .ref anod), (1, .int 0)]) hx hb dX5_through_3 rfl hl (by decide) rfl (fun ls hl => ?_)
  refine lv_iload_n hx hb dX5_through_4 rfl (lv_at hl 0 rfl) ?_
  refine lv_bipush (v := 64) hx hb dX5_through_5 (by decide) ?_
  refine lv_icmp_ge (tgt := 61) hx hb dX5_through_7 (by decide) (fun c_1 => ?_) (fun c_1 => ?_)
  · exact absurd c_1 (by decide)
  refine lv_iload_n hx hb dX5_through_10 rfl (lv_at hl 1 rfl) ?_
  refine lv_if_lt (tgt := 61) hx hb dX5_through_11 (by decide) (fun c_2 => ?_) (fun c_2 => ?_)
  · exact absurd c_2 (by decide)
  refine lv_iload_n hx hb dX5_through_14 rfl (lv_at hl 1 rfl) ?_
  refine lv_aload_n hx hb dX5_through_15 rfl (lv_at hl 2 rfl) ?_
  refine va_get (D := (dC, dI)) (ci := 7) (v := .ref ns) (C := RX5) (T := TX5) (N := 14) hx hb hts in_RX5 hown hK hP 0 rfl rfl 5 (by decide) (hts (.fieldLink RX5 28 "Hornbook$Nodes" "second" "[J") (by decide +kernel)) (fun _ h9 => h9) rfl dX5_through_16 ?_
  refine va_alen (D := (dC, dI)) (v := 1024) hx hb hK hP 1 0 rfl rfl rfl dX5_through_19 ?_
  refine lv_icmp_ge (tgt := 61) hx hb dX5_through_20 (by decide) (fun c_3 => ?_) (fun c_3 => ?_)
  · exact absurd c_3 (by decide)
  refine lv_aload_n hx hb dX5_through_23 rfl (lv_at hl 2 rfl) ?_
  refine va_get (D := (dC, dI)) (ci := 7) (v := .ref ns) (C := RX5) (T := TX5) (N := 14) hx hb hts in_RX5 hown hK hP 0 rfl rfl 5 (by decide) (hts (.fieldLink RX5 28 "Hornbook$Nodes" "second" "[J") (by decide +kernel)) (fun _ h9 => h9) rfl dX5_through_24 ?_
  refine lv_iload_n hx hb dX5_through_27 rfl (lv_at hl 1 rfl) ?_
  refine va_lald (D := (dC, dI)) hx hb hK hP 1 0 rfl rfl (by unfold vp_in; decide) dX5_through_28 ?_
  refine z_top (v' := .long (-2305843009213693952)) (congrArg Value.long (by first | rfl | decide)) ?_
  refine lv_bipush (v := 60) hx hb dX5_through_29 (by decide) ?_
  refine lv_lushr (v := 14) hx hb dX5_through_31 (by first | rfl | decide | decide +kernel) ?_
  refine lv_l2i (v := 14) hx hb dX5_through_32 (by first | rfl | decide | decide +kernel) ?_
  refine lv_bipush (v := 13) hx hb dX5_through_33 (by decide) ?_
  refine lv_icmp_eq (tgt := 41) hx hb dX5_through_35 (by decide) (fun c_4 => ?_) (fun c_4 => ?_)
  · exact absurd c_4 (by decide)
  refine lv_goto (tgt := 61) hx hb dX5_through_38 (by decide) ?_
  refine lv_iload_n hx hb dX5_through_61 rfl (lv_at hl 1 rfl) ?_
  have hP9 := hP.sub (ws' := [(anod, .inr (7, [.ref nm, .ref nl, .ref n1, .ref n2, .ref nf, .ref ns, .ref nh, .ref nk, .ref np, .int 16, .int 0, .int 16, .int 0, .int 0])), (ns, .inl (kL, 1024, .inr (.inl zSec)))]) [0, 1] rfl
  have hD9 := hD.sub (ws' := [(anod, .inr (7, [.ref nm, .ref nl, .ref n1, .ref n2, .ref nf, .ref ns, .ref nh, .ref nk, .ref np, .int 16, .int 0, .int 16, .int 0, .int 0])), (ns, .inl (kL, 1024, .inr (.inl zSec)))]) [0, 1] (by decide) rfl
  have hK9 := hK.sub (tys' := [(kL, .long)]) [0] rfl
  refine W.widen (k := 0) (n := 0) (Nat.le_of_ble_eq_true rfl) (Nat.le_of_ble_eq_true rfl) ?_
  exact W.iret (v := 0) hx hb hr (fun t ht hW => ⟨⟨0, (), rfl, rfl, ⟨by rw [ht]; exact hP9, va_K.moved hW.alike hK9, hD9⟩⟩, hS.F ht⟩) hS.2.2 dX5_through_62

def wb_c_N_form_1 : List Cond := [.fieldLink RX5 28 "Hornbook$Nodes" "second" "[J"] ++ u_ws RX5 TX5 14
def w_c_N_form_1 : List Cond := .code yX5_formOf cX5_formOf 2 (some .int) :: wb_c_N_form_1
set_option maxHeartbeats 4000000 in
set_option maxRecDepth 100000 in
theorem c_N_form_1 (l : Launch) (eD eI : Nat) (ad : Nat → Nat) (dC : Nat → ClassId) (dI : Nat → Nat → Nat) (sz : Nat) (anod : Nat) (nm : Nat) (nl : Nat) (n1 : Nat) (n2 : Nat) (nf : Nat) (ns : Nat) (nh : Nat) (nk : Nat) (np : Nat) (kL : ClassId) : Met l yX5_formOf w_c_N_form_1 ({ frames := 0, cells := 0, slots := 0, locals := 0 }) (va_Pc [.ref anod, .int 1] (zPre eD eI ad (dC, dI) [(anod, .inr (7, [.ref nm, .ref nl, .ref n1, .ref n2, .ref nf, .ref ns, .ref nh, .ref nk, .ref np, .int 16, .int 0, .int 16, .int 0, .int 0])), (ns, .inl (kL, 1024, .inr (.inl zSec)))] [(kL, .long)] sz)) (va_Qi (fun (r : Int32) (_ : Unit) => r = 14) (fun (_ : Unit) => zEnd (dC, dI) (va_A [(anod, .inr (7, [.ref nm, .ref nl, .ref n1, .ref n2, .ref nf, .ref ns, .ref nh, .ref nk, .ref np, .int 16, .int 0, .int 16, .int 0, .int 0])), (ns, .inl (kL, 1024, .inr (.inl zSec)))] sz) [(anod, .inr (7, [.ref nm, .ref nl, .ref n1, .ref n2, .ref nf, .ref ns, .ref nh, .ref nk, .ref np, .int 16, .int 0, .int 16, .int 0, .int 0])), (ns, .inl (kL, 1024, .inr (.inl zSec)))] [(kL, .long)]) (va_A [(anod, .inr (7, [.ref nm, .ref nl, .ref n1, .ref n2, .ref nf, .ref ns, .ref nh, .ref nk, .ref np, .int 16, .int 0, .int 16, .int 0, .int 0])), (ns, .inl (kL, 1024, .inr (.inl zSec)))] sz)) 0 0 (va_A [(anod, .inr (7, [.ref nm, .ref nl, .ref n1, .ref n2, .ref nf, .ref ns, .ref nh, .ref nk, .ref np, .int 16, .int 0, .int 16, .int 0, .int 0])), (ns, .inl (kL, 1024, .inr (.inl zSec)))] sz) := by
  refine Met.ofW (cc := cX5_formOf) (maxL := 2) (ret := (some .int)) (by decide) rfl ?_
  intro p e s m args below meth c s₁ B hml hv
  obtain ⟨rfl, hsz, hP, hK, hD0, hE⟩ := hv
  have hx := B.exec
  have hb := B.bytes
  have hr := B.returns
  have hts := atoms_spec (ws := w_c_N_form_1) B.pre
  have hown : s.vm.findClass RX5 = some m.cls := findClass_of_methodNamed B.named
  have hlocks := B.notSynchronized
  subst hsz
  have hD := hD0.self (sz := s.heap.size)
  generalize hAe : va_A [(anod, .inr (7, [.ref nm, .ref nl, .ref n1, .ref n2, .ref nf, .ref ns, .ref nh, .ref nk, .ref np, .int 16, .int 0, .int 16, .int 0, .int 0])), (ns, .inl (kL, 1024, .inr (.inl zSec)))] s.heap.size = A at hD hE ⊢
  have hA : ∀ q : Nat, s.heap.size ≤ q → A q := fun q h => by rw [← hAe]; exact Or.inr h
  have hS : va_S A s.heap s.heap [] := va_S.rf
  have hP : va_P (dC, dI) vwCl [(anod, .inr (7, [.ref nm, .ref nl, .ref n1, .ref n2, .ref nf, .ref ns, .ref nh, .ref nk, .ref np, .int 16, .int 0, .int 16, .int 0, .int 0])), (ns, .inl (kL, 1024, .inr (.inl zSec)))] s.heap := hP
  have hl := lv_entry ([.ref anod, .int 1]) (n := 2) (Nat.le_of_ble_eq_true rfl)
  rw [lg_entry_eq]
  generalize (lg_sl ([.ref anod, .int 1]) ++ List.replicate (2 - (lg_sl ([.ref anod, .int 1])).length) Slot.unset).toArray = ls at hl ⊢
  have hl : lv_has ls 2 [(0, .ref anod), (1, .int 1)] := hl
  have in_RX5 : ∀ w ∈ u_ws RX5 TX5 14, w ∈ w_c_N_form_1 := by decide +kernel
  refine lv_iload_n hx hb dX5_formOf_0 rfl (lv_at hl 1 rfl) ?_
  refine lv_if_lt (tgt := 26) hx hb dX5_formOf_1 (by decide) (fun c_1 => ?_) (fun c_1 => ?_)
  · exact absurd c_1 (by decide)
  refine lv_iload_n hx hb dX5_formOf_4 rfl (lv_at hl 1 rfl) ?_
  refine lv_aload_n hx hb dX5_formOf_5 rfl (lv_at hl 0 rfl) ?_
  refine va_get (D := (dC, dI)) (ci := 7) (v := .ref ns) (C := RX5) (T := TX5) (N := 14) hx hb hts in_RX5 hown hK hP 0 rfl rfl 5 (by decide) (hts (.fieldLink RX5 28 "Hornbook$Nodes" "second" "[J") (by decide +kernel)) (fun _ h9 => h9) rfl dX5_formOf_6 ?_
  refine va_alen (D := (dC, dI)) (v := 1024) hx hb hK hP 1 0 rfl rfl rfl dX5_formOf_9 ?_
  refine lv_icmp_ge (tgt := 26) hx hb dX5_formOf_10 (by decide) (fun c_2 => ?_) (fun c_2 => ?_)
  · exact absurd c_2 (by decide)
  refine lv_aload_n hx hb dX5_formOf_13 rfl (lv_at hl 0 rfl) ?_
  refine va_get (D := (dC, dI)) (ci := 7) (v := .ref ns) (C := RX5) (T := TX5) (N := 14) hx hb hts in_RX5 hown hK hP 0 rfl rfl 5 (by decide) (hts (.fieldLink RX5 28 "Hornbook$Nodes" "second" "[J") (by decide +kernel)) (fun _ h9 => h9) rfl dX5_formOf_14 ?_
  refine lv_iload_n hx hb dX5_formOf_17 rfl (lv_at hl 1 rfl) ?_
  refine va_lald (D := (dC, dI)) hx hb hK hP 1 0 rfl rfl (by unfold vp_in; decide) dX5_formOf_18 ?_
  refine z_top (v' := .long (-2305843009213693952)) (congrArg Value.long (by first | rfl | decide)) ?_
  refine lv_bipush (v := 60) hx hb dX5_formOf_19 (by decide) ?_
  refine lv_lushr (v := 14) hx hb dX5_formOf_21 (by first | rfl | decide | decide +kernel) ?_
  refine lv_l2i (v := 14) hx hb dX5_formOf_22 (by first | rfl | decide | decide +kernel) ?_
  refine lv_goto (tgt := 28) hx hb dX5_formOf_23 (by decide) ?_
  have hP9 := hP.sub (ws' := [(anod, .inr (7, [.ref nm, .ref nl, .ref n1, .ref n2, .ref nf, .ref ns, .ref nh, .ref nk, .ref np, .int 16, .int 0, .int 16, .int 0, .int 0])), (ns, .inl (kL, 1024, .inr (.inl zSec)))]) [0, 1] rfl
  have hD9 := hD.sub (ws' := [(anod, .inr (7, [.ref nm, .ref nl, .ref n1, .ref n2, .ref nf, .ref ns, .ref nh, .ref nk, .ref np, .int 16, .int 0, .int 16, .int 0, .int 0])), (ns, .inl (kL, 1024, .inr (.inl zSec)))]) [0, 1] (by decide) rfl
  have hK9 := hK.sub (tys' := [(kL, .long)]) [0] rfl
  refine W.widen (k := 0) (n := 0) (Nat.le_of_ble_eq_true rfl) (Nat.le_of_ble_eq_true rfl) ?_
  exact W.iret (v := 14) hx hb hr (fun t ht hW => ⟨⟨14, (), rfl, rfl, ⟨by rw [ht]; exact hP9, va_K.moved hW.alike hK9, hD9⟩⟩, hS.F ht⟩) hS.2.2 dX5_formOf_28

def wb_c_N_through_1 : List Cond := [.fieldLink RX5 28 "Hornbook$Nodes" "second" "[J"] ++ u_ws RX5 TX5 14
def w_c_N_through_1 : List Cond := .code yX5_through cX5_through 4 (some .int) :: wb_c_N_through_1
set_option maxHeartbeats 4000000 in
set_option maxRecDepth 100000 in
theorem c_N_through_1 (l : Launch) (eD eI : Nat) (ad : Nat → Nat) (dC : Nat → ClassId) (dI : Nat → Nat → Nat) (sz : Nat) (anod : Nat) (nm : Nat) (nl : Nat) (n1 : Nat) (n2 : Nat) (nf : Nat) (ns : Nat) (nh : Nat) (nk : Nat) (np : Nat) (kL : ClassId) : Met l yX5_through w_c_N_through_1 ({ frames := 0, cells := 0, slots := 0, locals := 0 }) (va_Pc [.ref anod, .int 1] (zPre eD eI ad (dC, dI) [(anod, .inr (7, [.ref nm, .ref nl, .ref n1, .ref n2, .ref nf, .ref ns, .ref nh, .ref nk, .ref np, .int 16, .int 0, .int 16, .int 0, .int 0])), (ns, .inl (kL, 1024, .inr (.inl zSec)))] [(kL, .long)] sz)) (va_Qi (fun (r : Int32) (_ : Unit) => r = 1) (fun (_ : Unit) => zEnd (dC, dI) (va_A [(anod, .inr (7, [.ref nm, .ref nl, .ref n1, .ref n2, .ref nf, .ref ns, .ref nh, .ref nk, .ref np, .int 16, .int 0, .int 16, .int 0, .int 0])), (ns, .inl (kL, 1024, .inr (.inl zSec)))] sz) [(anod, .inr (7, [.ref nm, .ref nl, .ref n1, .ref n2, .ref nf, .ref ns, .ref nh, .ref nk, .ref np, .int 16, .int 0, .int 16, .int 0, .int 0])), (ns, .inl (kL, 1024, .inr (.inl zSec)))] [(kL, .long)]) (va_A [(anod, .inr (7, [.ref nm, .ref nl, .ref n1, .ref n2, .ref nf, .ref ns, .ref nh, .ref nk, .ref np, .int 16, .int 0, .int 16, .int 0, .int 0])), (ns, .inl (kL, 1024, .inr (.inl zSec)))] sz)) 0 0 (va_A [(anod, .inr (7, [.ref nm, .ref nl, .ref n1, .ref n2, .ref nf, .ref ns, .ref nh, .ref nk, .ref np, .int 16, .int 0, .int 16, .int 0, .int 0])), (ns, .inl (kL, 1024, .inr (.inl zSec)))] sz) := by
  refine Met.ofW (cc := cX5_through) (maxL := 4) (ret := (some .int)) (by decide) rfl ?_
  intro p e s m args below meth c s₁ B hml hv
  obtain ⟨rfl, hsz, hP, hK, hD0, hE⟩ := hv
  have hx := B.exec
  have hb := B.bytes
  have hr := B.returns
  have hts := atoms_spec (ws := w_c_N_through_1) B.pre
  have hown : s.vm.findClass RX5 = some m.cls := findClass_of_methodNamed B.named
  have hlocks := B.notSynchronized
  subst hsz
  have hD := hD0.self (sz := s.heap.size)
  generalize hAe : va_A [(anod, .inr (7, [.ref nm, .ref nl, .ref n1, .ref n2, .ref nf, .ref ns, .ref nh, .ref nk, .ref np, .int 16, .int 0, .int 16, .int 0, .int 0])), (ns, .inl (kL, 1024, .inr (.inl zSec)))] s.heap.size = A at hD hE ⊢
  have hA : ∀ q : Nat, s.heap.size ≤ q → A q := fun q h => by rw [← hAe]; exact Or.inr h
  have hS : va_S A s.heap s.heap [] := va_S.rf
  have hP : va_P (dC, dI) vwCl [(anod, .inr (7, [.ref nm, .ref nl, .ref n1, .ref n2, .ref nf, .ref ns, .ref nh, .ref nk, .ref np, .int 16, .int 0, .int 16, .int 0, .int 0])), (ns, .inl (kL, 1024, .inr (.inl zSec)))] s.heap := hP
  have hl := lv_entry ([.ref anod, .int 1]) (n := 4) (Nat.le_of_ble_eq_true rfl)
  rw [lg_entry_eq]
  generalize (lg_sl ([.ref anod, .int 1]) ++ List.replicate (4 - (lg_sl ([.ref anod, .int 1])).length) Slot.unset).toArray = ls at hl ⊢
  have hl : lv_has ls 4 [(0, .ref anod), (1, .int 1)] := hl
  have in_RX5 : ∀ w ∈ u_ws RX5 TX5 14, w ∈ w_c_N_through_1 := by decide +kernel
  refine lv_iload_n hx hb dX5_through_0 rfl (lv_at hl 1 rfl) ?_
  refine lv_istore_n (lv' := [(2, .int 1), (0, .ref anod), (1, .int 1)]) hx hb dX5_through_1 rfl hl (by decide) rfl (fun ls hl => ?_)
  refine lv_iconst (v := 0) hx hb dX5_through_2 (by decide) ?_
  refine lv_istore_n (lv' := [(3, .int 0), (2, .int 1), (0, .ref anod), (1, .int 1)]) hx hb dX5_through_3 rfl hl (by decide) rfl (fun ls hl => ?_)
  refine lv_iload_n hx hb dX5_through_4 rfl (lv_at hl 0 rfl) ?_
  refine lv_bipush (v := 64) hx hb dX5_through_5 (by decide) ?_
  refine lv_icmp_ge (tgt := 61) hx hb dX5_through_7 (by decide) (fun c_1 => ?_) (fun c_1 => ?_)
  · exact absurd c_1 (by decide)
  refine lv_iload_n hx hb dX5_through_10 rfl (lv_at hl 1 rfl) ?_
  refine lv_if_lt (tgt := 61) hx hb dX5_through_11 (by decide) (fun c_2 => ?_) (fun c_2 => ?_)
  · exact absurd c_2 (by decide)
  refine lv_iload_n hx hb dX5_through_14 rfl (lv_at hl 1 rfl) ?_
  refine lv_aload_n hx hb dX5_through_15 rfl (lv_at hl 2 rfl) ?_
  refine va_get (D := (dC, dI)) (ci := 7) (v := .ref ns) (C := RX5) (T := TX5) (N := 14) hx hb hts in_RX5 hown hK hP 0 rfl rfl 5 (by decide) (hts (.fieldLink RX5 28 "Hornbook$Nodes" "second" "[J") (by decide +kernel)) (fun _ h9 => h9) rfl dX5_through_16 ?_
  refine va_alen (D := (dC, dI)) (v := 1024) hx hb hK hP 1 0 rfl rfl rfl dX5_through_19 ?_
  refine lv_icmp_ge (tgt := 61) hx hb dX5_through_20 (by decide) (fun c_3 => ?_) (fun c_3 => ?_)
  · exact absurd c_3 (by decide)
  refine lv_aload_n hx hb dX5_through_23 rfl (lv_at hl 2 rfl) ?_
  refine va_get (D := (dC, dI)) (ci := 7) (v := .ref ns) (C := RX5) (T := TX5) (N := 14) hx hb hts in_RX5 hown hK hP 0 rfl rfl 5 (by decide) (hts (.fieldLink RX5 28 "Hornbook$Nodes" "second" "[J") (by decide +kernel)) (fun _ h9 => h9) rfl dX5_through_24 ?_
  refine lv_iload_n hx hb dX5_through_27 rfl (lv_at hl 1 rfl) ?_
  refine va_lald (D := (dC, dI)) hx hb hK hP 1 0 rfl rfl (by unfold vp_in; decide) dX5_through_28 ?_
  refine z_top (v' := .long (-2305843009213693952)) (congrArg Value.long (by first | rfl | decide)) ?_
  refine lv_bipush (v := 60) hx hb dX5_through_29 (by decide) ?_
  refine lv_lushr (v := 14) hx hb dX5_through_31 (by first | rfl | decide | decide +kernel) ?_
  refine lv_l2i (v := 14) hx hb dX5_through_32 (by first | rfl | decide | decide +kernel) ?_
  refine lv_bipush (v := 13) hx hb dX5_through_33 (by decide) ?_
  refine lv_icmp_eq (tgt := 41) hx hb dX5_through_35 (by decide) (fun c_4 => ?_) (fun c_4 => ?_)
  · exact absurd c_4 (by decide)
  refine lv_goto (tgt := 61) hx hb dX5_through_38 (by decide) ?_
  refine lv_iload_n hx hb dX5_through_61 rfl (lv_at hl 1 rfl) ?_
  have hP9 := hP.sub (ws' := [(anod, .inr (7, [.ref nm, .ref nl, .ref n1, .ref n2, .ref nf, .ref ns, .ref nh, .ref nk, .ref np, .int 16, .int 0, .int 16, .int 0, .int 0])), (ns, .inl (kL, 1024, .inr (.inl zSec)))]) [0, 1] rfl
  have hD9 := hD.sub (ws' := [(anod, .inr (7, [.ref nm, .ref nl, .ref n1, .ref n2, .ref nf, .ref ns, .ref nh, .ref nk, .ref np, .int 16, .int 0, .int 16, .int 0, .int 0])), (ns, .inl (kL, 1024, .inr (.inl zSec)))]) [0, 1] (by decide) rfl
  have hK9 := hK.sub (tys' := [(kL, .long)]) [0] rfl
  refine W.widen (k := 0) (n := 0) (Nat.le_of_ble_eq_true rfl) (Nat.le_of_ble_eq_true rfl) ?_
  exact W.iret (v := 1) hx hb hr (fun t ht hW => ⟨⟨1, (), rfl, rfl, ⟨by rw [ht]; exact hP9, va_K.moved hW.alike hK9, hD9⟩⟩, hS.F ht⟩) hS.2.2 dX5_through_62

def wb_c_N_form_2 : List Cond := [.fieldLink RX5 28 "Hornbook$Nodes" "second" "[J"] ++ u_ws RX5 TX5 14
def w_c_N_form_2 : List Cond := .code yX5_formOf cX5_formOf 2 (some .int) :: wb_c_N_form_2
set_option maxHeartbeats 4000000 in
set_option maxRecDepth 100000 in
theorem c_N_form_2 (l : Launch) (eD eI : Nat) (ad : Nat → Nat) (dC : Nat → ClassId) (dI : Nat → Nat → Nat) (sz : Nat) (anod : Nat) (nm : Nat) (nl : Nat) (n1 : Nat) (n2 : Nat) (nf : Nat) (ns : Nat) (nh : Nat) (nk : Nat) (np : Nat) (kL : ClassId) : Met l yX5_formOf w_c_N_form_2 ({ frames := 0, cells := 0, slots := 0, locals := 0 }) (va_Pc [.ref anod, .int 2] (zPre eD eI ad (dC, dI) [(anod, .inr (7, [.ref nm, .ref nl, .ref n1, .ref n2, .ref nf, .ref ns, .ref nh, .ref nk, .ref np, .int 16, .int 0, .int 16, .int 0, .int 0])), (ns, .inl (kL, 1024, .inr (.inl zSec)))] [(kL, .long)] sz)) (va_Qi (fun (r : Int32) (_ : Unit) => r = 14) (fun (_ : Unit) => zEnd (dC, dI) (va_A [(anod, .inr (7, [.ref nm, .ref nl, .ref n1, .ref n2, .ref nf, .ref ns, .ref nh, .ref nk, .ref np, .int 16, .int 0, .int 16, .int 0, .int 0])), (ns, .inl (kL, 1024, .inr (.inl zSec)))] sz) [(anod, .inr (7, [.ref nm, .ref nl, .ref n1, .ref n2, .ref nf, .ref ns, .ref nh, .ref nk, .ref np, .int 16, .int 0, .int 16, .int 0, .int 0])), (ns, .inl (kL, 1024, .inr (.inl zSec)))] [(kL, .long)]) (va_A [(anod, .inr (7, [.ref nm, .ref nl, .ref n1, .ref n2, .ref nf, .ref ns, .ref nh, .ref nk, .ref np, .int 16, .int 0, .int 16, .int 0, .int 0])), (ns, .inl (kL, 1024, .inr (.inl zSec)))] sz)) 0 0 (va_A [(anod, .inr (7, [.ref nm, .ref nl, .ref n1, .ref n2, .ref nf, .ref ns, .ref nh, .ref nk, .ref np, .int 16, .int 0, .int 16, .int 0, .int 0])), (ns, .inl (kL, 1024, .inr (.inl zSec)))] sz) := by
  refine Met.ofW (cc := cX5_formOf) (maxL := 2) (ret := (some .int)) (by decide) rfl ?_
  intro p e s m args below meth c s₁ B hml hv
  obtain ⟨rfl, hsz, hP, hK, hD0, hE⟩ := hv
  have hx := B.exec
  have hb := B.bytes
  have hr := B.returns
  have hts := atoms_spec (ws := w_c_N_form_2) B.pre
  have hown : s.vm.findClass RX5 = some m.cls := findClass_of_methodNamed B.named
  have hlocks := B.notSynchronized
  subst hsz
  have hD := hD0.self (sz := s.heap.size)
  generalize hAe : va_A [(anod, .inr (7, [.ref nm, .ref nl, .ref n1, .ref n2, .ref nf, .ref ns, .ref nh, .ref nk, .ref np, .int 16, .int 0, .int 16, .int 0, .int 0])), (ns, .inl (kL, 1024, .inr (.inl zSec)))] s.heap.size = A at hD hE ⊢
  have hA : ∀ q : Nat, s.heap.size ≤ q → A q := fun q h => by rw [← hAe]; exact Or.inr h
  have hS : va_S A s.heap s.heap [] := va_S.rf
  have hP : va_P (dC, dI) vwCl [(anod, .inr (7, [.ref nm, .ref nl, .ref n1, .ref n2, .ref nf, .ref ns, .ref nh, .ref nk, .ref np, .int 16, .int 0, .int 16, .int 0, .int 0])), (ns, .inl (kL, 1024, .inr (.inl zSec)))] s.heap := hP
  have hl := lv_entry ([.ref anod, .int 2]) (n := 2) (Nat.le_of_ble_eq_true rfl)
  rw [lg_entry_eq]
  generalize (lg_sl ([.ref anod, .int 2]) ++ List.replicate (2 - (lg_sl ([.ref anod, .int 2])).length) Slot.unset).toArray = ls at hl ⊢
  have hl : lv_has ls 2 [(0, .ref anod), (1, .int 2)] := hl
  have in_RX5 : ∀ w ∈ u_ws RX5 TX5 14, w ∈ w_c_N_form_2 := by decide +kernel
  refine lv_iload_n hx hb dX5_formOf_0 rfl (lv_at hl 1 rfl) ?_
  refine lv_if_lt (tgt := 26) hx hb dX5_formOf_1 (by decide) (fun c_1 => ?_) (fun c_1 => ?_)
  · exact absurd c_1 (by decide)
  refine lv_iload_n hx hb dX5_formOf_4 rfl (lv_at hl 1 rfl) ?_
  refine lv_aload_n hx hb dX5_formOf_5 rfl (lv_at hl 0 rfl) ?_
  refine va_get (D := (dC, dI)) (ci := 7) (v := .ref ns) (C := RX5) (T := TX5) (N := 14) hx hb hts in_RX5 hown hK hP 0 rfl rfl 5 (by decide) (hts (.fieldLink RX5 28 "Hornbook$Nodes" "second" "[J") (by decide +kernel)) (fun _ h9 => h9) rfl dX5_formOf_6 ?_
  refine va_alen (D := (dC, dI)) (v := 1024) hx hb hK hP 1 0 rfl rfl rfl dX5_formOf_9 ?_
  refine lv_icmp_ge (tgt := 26) hx hb dX5_formOf_10 (by decide) (fun c_2 => ?_) (fun c_2 => ?_)
  · exact absurd c_2 (by decide)
  refine lv_aload_n hx hb dX5_formOf_13 rfl (lv_at hl 0 rfl) ?_
  refine va_get (D := (dC, dI)) (ci := 7) (v := .ref ns) (C := RX5) (T := TX5) (N := 14) hx hb hts in_RX5 hown hK hP 0 rfl rfl 5 (by decide) (hts (.fieldLink RX5 28 "Hornbook$Nodes" "second" "[J") (by decide +kernel)) (fun _ h9 => h9) rfl dX5_formOf_14 ?_
  refine lv_iload_n hx hb dX5_formOf_17 rfl (lv_at hl 1 rfl) ?_
  refine va_lald (D := (dC, dI)) hx hb hK hP 1 0 rfl rfl (by unfold vp_in; decide) dX5_formOf_18 ?_
  refine z_top (v' := .long (-2305843009213693952)) (congrArg Value.long (by first | rfl | decide)) ?_
  refine lv_bipush (v := 60) hx hb dX5_formOf_19 (by decide) ?_
  refine lv_lushr (v := 14) hx hb dX5_formOf_21 (by first | rfl | decide | decide +kernel) ?_
  refine lv_l2i (v := 14) hx hb dX5_formOf_22 (by first | rfl | decide | decide +kernel) ?_
  refine lv_goto (tgt := 28) hx hb dX5_formOf_23 (by decide) ?_
  have hP9 := hP.sub (ws' := [(anod, .inr (7, [.ref nm, .ref nl, .ref n1, .ref n2, .ref nf, .ref ns, .ref nh, .ref nk, .ref np, .int 16, .int 0, .int 16, .int 0, .int 0])), (ns, .inl (kL, 1024, .inr (.inl zSec)))]) [0, 1] rfl
  have hD9 := hD.sub (ws' := [(anod, .inr (7, [.ref nm, .ref nl, .ref n1, .ref n2, .ref nf, .ref ns, .ref nh, .ref nk, .ref np, .int 16, .int 0, .int 16, .int 0, .int 0])), (ns, .inl (kL, 1024, .inr (.inl zSec)))]) [0, 1] (by decide) rfl
  have hK9 := hK.sub (tys' := [(kL, .long)]) [0] rfl
  refine W.widen (k := 0) (n := 0) (Nat.le_of_ble_eq_true rfl) (Nat.le_of_ble_eq_true rfl) ?_
  exact W.iret (v := 14) hx hb hr (fun t ht hW => ⟨⟨14, (), rfl, rfl, ⟨by rw [ht]; exact hP9, va_K.moved hW.alike hK9, hD9⟩⟩, hS.F ht⟩) hS.2.2 dX5_formOf_28

def wb_c_N_through_2 : List Cond := [.fieldLink RX5 28 "Hornbook$Nodes" "second" "[J"] ++ u_ws RX5 TX5 14
def w_c_N_through_2 : List Cond := .code yX5_through cX5_through 4 (some .int) :: wb_c_N_through_2
set_option maxHeartbeats 4000000 in
set_option maxRecDepth 100000 in
theorem c_N_through_2 (l : Launch) (eD eI : Nat) (ad : Nat → Nat) (dC : Nat → ClassId) (dI : Nat → Nat → Nat) (sz : Nat) (anod : Nat) (nm : Nat) (nl : Nat) (n1 : Nat) (n2 : Nat) (nf : Nat) (ns : Nat) (nh : Nat) (nk : Nat) (np : Nat) (kL : ClassId) : Met l yX5_through w_c_N_through_2 ({ frames := 0, cells := 0, slots := 0, locals := 0 }) (va_Pc [.ref anod, .int 2] (zPre eD eI ad (dC, dI) [(anod, .inr (7, [.ref nm, .ref nl, .ref n1, .ref n2, .ref nf, .ref ns, .ref nh, .ref nk, .ref np, .int 16, .int 0, .int 16, .int 0, .int 0])), (ns, .inl (kL, 1024, .inr (.inl zSec)))] [(kL, .long)] sz)) (va_Qi (fun (r : Int32) (_ : Unit) => r = 2) (fun (_ : Unit) => zEnd (dC, dI) (va_A [(anod, .inr (7, [.ref nm, .ref nl, .ref n1, .ref n2, .ref nf, .ref ns, .ref nh, .ref nk, .ref np, .int 16, .int 0, .int 16, .int 0, .int 0])), (ns, .inl (kL, 1024, .inr (.inl zSec)))] sz) [(anod, .inr (7, [.ref nm, .ref nl, .ref n1, .ref n2, .ref nf, .ref ns, .ref nh, .ref nk, .ref np, .int 16, .int 0, .int 16, .int 0, .int 0])), (ns, .inl (kL, 1024, .inr (.inl zSec)))] [(kL, .long)]) (va_A [(anod, .inr (7, [.ref nm, .ref nl, .ref n1, .ref n2, .ref nf, .ref ns, .ref nh, .ref nk, .ref np, .int 16, .int 0, .int 16, .int 0, .int 0])), (ns, .inl (kL, 1024, .inr (.inl zSec)))] sz)) 0 0 (va_A [(anod, .inr (7, [.ref nm, .ref nl, .ref n1, .ref n2, .ref nf, .ref ns, .ref nh, .ref nk, .ref np, .int 16, .int 0, .int 16, .int 0, .int 0])), (ns, .inl (kL, 1024, .inr (.inl zSec)))] sz) := by
  refine Met.ofW (cc := cX5_through) (maxL := 4) (ret := (some .int)) (by decide) rfl ?_
  intro p e s m args below meth c s₁ B hml hv
  obtain ⟨rfl, hsz, hP, hK, hD0, hE⟩ := hv
  have hx := B.exec
  have hb := B.bytes
  have hr := B.returns
  have hts := atoms_spec (ws := w_c_N_through_2) B.pre
  have hown : s.vm.findClass RX5 = some m.cls := findClass_of_methodNamed B.named
  have hlocks := B.notSynchronized
  subst hsz
  have hD := hD0.self (sz := s.heap.size)
  generalize hAe : va_A [(anod, .inr (7, [.ref nm, .ref nl, .ref n1, .ref n2, .ref nf, .ref ns, .ref nh, .ref nk, .ref np, .int 16, .int 0, .int 16, .int 0, .int 0])), (ns, .inl (kL, 1024, .inr (.inl zSec)))] s.heap.size = A at hD hE ⊢
  have hA : ∀ q : Nat, s.heap.size ≤ q → A q := fun q h => by rw [← hAe]; exact Or.inr h
  have hS : va_S A s.heap s.heap [] := va_S.rf
  have hP : va_P (dC, dI) vwCl [(anod, .inr (7, [.ref nm, .ref nl, .ref n1, .ref n2, .ref nf, .ref ns, .ref nh, .ref nk, .ref np, .int 16, .int 0, .int 16, .int 0, .int 0])), (ns, .inl (kL, 1024, .inr (.inl zSec)))] s.heap := hP
  have hl := lv_entry ([.ref anod, .int 2]) (n := 4) (Nat.le_of_ble_eq_true rfl)
  rw [lg_entry_eq]
  generalize (lg_sl ([.ref anod, .int 2]) ++ List.replicate (4 - (lg_sl ([.ref anod, .int 2])).length) Slot.unset).toArray = ls at hl ⊢
  have hl : lv_has ls 4 [(0, .ref anod), (1, .int 2)] := hl
  have in_RX5 : ∀ w ∈ u_ws RX5 TX5 14, w ∈ w_c_N_through_2 := by decide +kernel
  refine lv_iload_n hx hb dX5_through_0 rfl (lv_at hl 1 rfl) ?_
  refine lv_istore_n (lv' := [(2, .int 2), (0, .ref anod), (1, .int 2)]) hx hb dX5_through_1 rfl hl (by decide) rfl (fun ls hl => ?_)
  refine lv_iconst (v := 0) hx hb dX5_through_2 (by decide) ?_
  refine lv_istore_n (lv' := [(3, .int 0), (2, .int 2), (0, .ref anod), (1, .int 2)]) hx hb dX5_through_3 rfl hl (by decide) rfl (fun ls hl => ?_)
  refine lv_iload_n hx hb dX5_through_4 rfl (lv_at hl 0 rfl) ?_
  refine lv_bipush (v := 64) hx hb dX5_through_5 (by decide) ?_
  refine lv_icmp_ge (tgt := 61) hx hb dX5_through_7 (by decide) (fun c_1 => ?_) (fun c_1 => ?_)
  · exact absurd c_1 (by decide)
  refine lv_iload_n hx hb dX5_through_10 rfl (lv_at hl 1 rfl) ?_
  refine lv_if_lt (tgt := 61) hx hb dX5_through_11 (by decide) (fun c_2 => ?_) (fun c_2 => ?_)
  · exact absurd c_2 (by decide)
  refine lv_iload_n hx hb dX5_through_14 rfl (lv_at hl 1 rfl) ?_
  refine lv_aload_n hx hb dX5_through_15 rfl (lv_at hl 2 rfl) ?_
  refine va_get (D := (dC, dI)) (ci := 7) (v := .ref ns) (C := RX5) (T := TX5) (N := 14) hx hb hts in_RX5 hown hK hP 0 rfl rfl 5 (by decide) (hts (.fieldLink RX5 28 "Hornbook$Nodes" "second" "[J") (by decide +kernel)) (fun _ h9 => h9) rfl dX5_through_16 ?_
  refine va_alen (D := (dC, dI)) (v := 1024) hx hb hK hP 1 0 rfl rfl rfl dX5_through_19 ?_
  refine lv_icmp_ge (tgt := 61) hx hb dX5_through_20 (by decide) (fun c_3 => ?_) (fun c_3 => ?_)
  · exact absurd c_3 (by decide)
  refine lv_aload_n hx hb dX5_through_23 rfl (lv_at hl 2 rfl) ?_
  refine va_get (D := (dC, dI)) (ci := 7) (v := .ref ns) (C := RX5) (T := TX5) (N := 14) hx hb hts in_RX5 hown hK hP 0 rfl rfl 5 (by decide) (hts (.fieldLink RX5 28 "Hornbook$Nodes" "second" "[J") (by decide +kernel)) (fun _ h9 => h9) rfl dX5_through_24 ?_
  refine lv_iload_n hx hb dX5_through_27 rfl (lv_at hl 1 rfl) ?_
  refine va_lald (D := (dC, dI)) hx hb hK hP 1 0 rfl rfl (by unfold vp_in; decide) dX5_through_28 ?_
  refine z_top (v' := .long (-2305843009213693952)) (congrArg Value.long (by first | rfl | decide)) ?_
  refine lv_bipush (v := 60) hx hb dX5_through_29 (by decide) ?_
  refine lv_lushr (v := 14) hx hb dX5_through_31 (by first | rfl | decide | decide +kernel) ?_
  refine lv_l2i (v := 14) hx hb dX5_through_32 (by first | rfl | decide | decide +kernel) ?_
  refine lv_bipush (v := 13) hx hb dX5_through_33 (by decide) ?_
  refine lv_icmp_eq (tgt := 41) hx hb dX5_through_35 (by decide) (fun c_4 => ?_) (fun c_4 => ?_)
  · exact absurd c_4 (by decide)
  refine lv_goto (tgt := 61) hx hb dX5_through_38 (by decide) ?_
  refine lv_iload_n hx hb dX5_through_61 rfl (lv_at hl 1 rfl) ?_
  have hP9 := hP.sub (ws' := [(anod, .inr (7, [.ref nm, .ref nl, .ref n1, .ref n2, .ref nf, .ref ns, .ref nh, .ref nk, .ref np, .int 16, .int 0, .int 16, .int 0, .int 0])), (ns, .inl (kL, 1024, .inr (.inl zSec)))]) [0, 1] rfl
  have hD9 := hD.sub (ws' := [(anod, .inr (7, [.ref nm, .ref nl, .ref n1, .ref n2, .ref nf, .ref ns, .ref nh, .ref nk, .ref np, .int 16, .int 0, .int 16, .int 0, .int 0])), (ns, .inl (kL, 1024, .inr (.inl zSec)))]) [0, 1] (by decide) rfl
  have hK9 := hK.sub (tys' := [(kL, .long)]) [0] rfl
  refine W.widen (k := 0) (n := 0) (Nat.le_of_ble_eq_true rfl) (Nat.le_of_ble_eq_true rfl) ?_
  exact W.iret (v := 2) hx hb hr (fun t ht hW => ⟨⟨2, (), rfl, rfl, ⟨by rw [ht]; exact hP9, va_K.moved hW.alike hK9, hD9⟩⟩, hS.F ht⟩) hS.2.2 dX5_through_62

def wb_c_N_open_0 : List Cond := [.fieldLink RX5 28 "Hornbook$Nodes" "second" "[J", .fieldLink RX5 24 "Hornbook$Nodes" "first" "[J"] ++ u_ws RX5 TX5 14
def w_c_N_open_0 : List Cond := .code yX5_openOf cX5_openOf 2 (some .int) :: wb_c_N_open_0
set_option maxHeartbeats 4000000 in
set_option maxRecDepth 100000 in
theorem c_N_open_0 (l : Launch) (eD eI : Nat) (ad : Nat → Nat) (dC : Nat → ClassId) (dI : Nat → Nat → Nat) (sz : Nat) (anod : Nat) (nm : Nat) (nl : Nat) (n1 : Nat) (n2 : Nat) (nf : Nat) (ns : Nat) (nh : Nat) (nk : Nat) (np : Nat) (kL : ClassId) : Met l yX5_openOf w_c_N_open_0 ({ frames := 0, cells := 0, slots := 0, locals := 0 }) (va_Pc [.ref anod, .int 0] (zPre eD eI ad (dC, dI) [(anod, .inr (7, [.ref nm, .ref nl, .ref n1, .ref n2, .ref nf, .ref ns, .ref nh, .ref nk, .ref np, .int 16, .int 0, .int 16, .int 0, .int 0])), (ns, .inl (kL, 1024, .inr (.inl zSec))), (nf, .inl (kL, 1024, .inr (.inl zFir)))] [(kL, .long)] sz)) (va_Qi (fun (r : Int32) (_ : Unit) => r = 0) (fun (_ : Unit) => zEnd (dC, dI) (va_A [(anod, .inr (7, [.ref nm, .ref nl, .ref n1, .ref n2, .ref nf, .ref ns, .ref nh, .ref nk, .ref np, .int 16, .int 0, .int 16, .int 0, .int 0])), (ns, .inl (kL, 1024, .inr (.inl zSec))), (nf, .inl (kL, 1024, .inr (.inl zFir)))] sz) [(anod, .inr (7, [.ref nm, .ref nl, .ref n1, .ref n2, .ref nf, .ref ns, .ref nh, .ref nk, .ref np, .int 16, .int 0, .int 16, .int 0, .int 0])), (ns, .inl (kL, 1024, .inr (.inl zSec))), (nf, .inl (kL, 1024, .inr (.inl zFir)))] [(kL, .long)]) (va_A [(anod, .inr (7, [.ref nm, .ref nl, .ref n1, .ref n2, .ref nf, .ref ns, .ref nh, .ref nk, .ref np, .int 16, .int 0, .int 16, .int 0, .int 0])), (ns, .inl (kL, 1024, .inr (.inl zSec))), (nf, .inl (kL, 1024, .inr (.inl zFir)))] sz)) 0 0 (va_A [(anod, .inr (7, [.ref nm, .ref nl, .ref n1, .ref n2, .ref nf, .ref ns, .ref nh, .ref nk, .ref np, .int 16, .int 0, .int 16, .int 0, .int 0])), (ns, .inl (kL, 1024, .inr (.inl zSec))), (nf, .inl (kL, 1024, .inr (.inl zFir)))] sz) := by
  refine Met.ofW (cc := cX5_openOf) (maxL := 2) (ret := (some .int)) (by decide) rfl ?_
  intro p e s m args below meth c s₁ B hml hv
  obtain ⟨rfl, hsz, hP, hK, hD0, hE⟩ := hv
  have hx := B.exec
  have hb := B.bytes
  have hr := B.returns
  have hts := atoms_spec (ws := w_c_N_open_0) B.pre
  have hown : s.vm.findClass RX5 = some m.cls := findClass_of_methodNamed B.named
  have hlocks := B.notSynchronized
  subst hsz
  have hD := hD0.self (sz := s.heap.size)
  generalize hAe : va_A [(anod, .inr (7, [.ref nm, .ref nl, .ref n1, .ref n2, .ref nf, .ref ns, .ref nh, .ref nk, .ref np, .int 16, .int 0, .int 16, .int 0, .int 0])), (ns, .inl (kL, 1024, .inr (.inl zSec))), (nf, .inl (kL, 1024, .inr (.inl zFir)))] s.heap.size = A at hD hE ⊢
  have hA : ∀ q : Nat, s.heap.size ≤ q → A q := fun q h => by rw [← hAe]; exact Or.inr h
  have hS : va_S A s.heap s.heap [] := va_S.rf
  have hP : va_P (dC, dI) vwCl [(anod, .inr (7, [.ref nm, .ref nl, .ref n1, .ref n2, .ref nf, .ref ns, .ref nh, .ref nk, .ref np, .int 16, .int 0, .int 16, .int 0, .int 0])), (ns, .inl (kL, 1024, .inr (.inl zSec))), (nf, .inl (kL, 1024, .inr (.inl zFir)))] s.heap := hP
  have hl := lv_entry ([.ref anod, .int 0]) (n := 2) (Nat.le_of_ble_eq_true rfl)
  rw [lg_entry_eq]
  generalize (lg_sl ([.ref anod, .int 0]) ++ List.replicate (2 - (lg_sl ([.ref anod, .int 0])).length) Slot.unset).toArray = ls at hl ⊢
  have hl : lv_has ls 2 [(0, .ref anod), (1, .int 0)] := hl
  have in_RX5 : ∀ w ∈ u_ws RX5 TX5 14, w ∈ w_c_N_open_0 := by decide +kernel
  refine lv_iload_n hx hb dX5_openOf_0 rfl (lv_at hl 1 rfl) ?_
  refine lv_if_lt (tgt := 24) hx hb dX5_openOf_1 (by decide) (fun c_1 => ?_) (fun c_1 => ?_)
  · exact absurd c_1 (by decide)
  refine lv_iload_n hx hb dX5_openOf_4 rfl (lv_at hl 1 rfl) ?_
  refine lv_aload_n hx hb dX5_openOf_5 rfl (lv_at hl 0 rfl) ?_
  refine va_get (D := (dC, dI)) (ci := 7) (v := .ref ns) (C := RX5) (T := TX5) (N := 14) hx hb hts in_RX5 hown hK hP 0 rfl rfl 5 (by decide) (hts (.fieldLink RX5 28 "Hornbook$Nodes" "second" "[J") (by decide +kernel)) (fun _ h9 => h9) rfl dX5_openOf_6 ?_
  refine va_alen (D := (dC, dI)) (v := 1024) hx hb hK hP 1 0 rfl rfl rfl dX5_openOf_9 ?_
  refine lv_icmp_ge (tgt := 24) hx hb dX5_openOf_10 (by decide) (fun c_2 => ?_) (fun c_2 => ?_)
  · exact absurd c_2 (by decide)
  refine lv_aload_n hx hb dX5_openOf_13 rfl (lv_at hl 0 rfl) ?_
  refine va_get (D := (dC, dI)) (ci := 7) (v := .ref nf) (C := RX5) (T := TX5) (N := 14) hx hb hts in_RX5 hown hK hP 0 rfl rfl 4 (by decide) (hts (.fieldLink RX5 24 "Hornbook$Nodes" "first" "[J") (by decide +kernel)) (fun _ h9 => h9) rfl dX5_openOf_14 ?_
  refine lv_iload_n hx hb dX5_openOf_17 rfl (lv_at hl 1 rfl) ?_
  refine va_lald (D := (dC, dI)) hx hb hK hP 2 0 rfl rfl (by unfold vp_in; decide) dX5_openOf_18 ?_
  refine z_top (v' := .long 0) (congrArg Value.long (by first | rfl | decide)) ?_
  refine lv_lconst (v := 0) hx hb dX5_openOf_19 (by decide) ?_
  refine W.lcmp hx hb dX5_openOf_20 ?_
  refine z_top (v' := .int 0) (congrArg Value.int (by first | decide | decide +kernel)) ?_
  refine lv_if_ge (tgt := 28) hx hb dX5_openOf_21 (by decide) (fun c_3 => ?_) (fun c_3 => ?_)
  rotate_left
  · exact absurd (by decide) c_3
  refine lv_aload_n hx hb dX5_openOf_28 rfl (lv_at hl 0 rfl) ?_
  refine va_get (D := (dC, dI)) (ci := 7) (v := .ref nf) (C := RX5) (T := TX5) (N := 14) hx hb hts in_RX5 hown hK hP 0 rfl rfl 4 (by decide) (hts (.fieldLink RX5 24 "Hornbook$Nodes" "first" "[J") (by decide +kernel)) (fun _ h9 => h9) rfl dX5_openOf_29 ?_
  refine lv_iload_n hx hb dX5_openOf_32 rfl (lv_at hl 1 rfl) ?_
  refine va_lald (D := (dC, dI)) hx hb hK hP 2 0 rfl rfl (by unfold vp_in; decide) dX5_openOf_33 ?_
  refine z_top (v' := .long 0) (congrArg Value.long (by first | rfl | decide)) ?_
  refine lv_bipush (v := 42) hx hb dX5_openOf_34 (by decide) ?_
  refine lv_lushr (v := 0) hx hb dX5_openOf_36 (by first | rfl | decide | decide +kernel) ?_
  refine lv_l2i (v := 0) hx hb dX5_openOf_37 (by first | rfl | decide | decide +kernel) ?_
  refine lv_bipush (v := 7) hx hb dX5_openOf_38 (by decide) ?_
  refine lv_iand hx hb dX5_openOf_40 ?_
  refine z_top (v' := .int 0) (congrArg Value.int (by decide)) ?_
  have hP9 := hP.sub (ws' := [(anod, .inr (7, [.ref nm, .ref nl, .ref n1, .ref n2, .ref nf, .ref ns, .ref nh, .ref nk, .ref np, .int 16, .int 0, .int 16, .int 0, .int 0])), (ns, .inl (kL, 1024, .inr (.inl zSec))), (nf, .inl (kL, 1024, .inr (.inl zFir)))]) [0, 1, 2] rfl
  have hD9 := hD.sub (ws' := [(anod, .inr (7, [.ref nm, .ref nl, .ref n1, .ref n2, .ref nf, .ref ns, .ref nh, .ref nk, .ref np, .int 16, .int 0, .int 16, .int 0, .int 0])), (ns, .inl (kL, 1024, .inr (.inl zSec))), (nf, .inl (kL, 1024, .inr (.inl zFir)))]) [0, 1, 2] (by decide) rfl
  have hK9 := hK.sub (tys' := [(kL, .long)]) [0] rfl
  refine W.widen (k := 0) (n := 0) (Nat.le_of_ble_eq_true rfl) (Nat.le_of_ble_eq_true rfl) ?_
  exact W.iret (v := 0) hx hb hr (fun t ht hW => ⟨⟨0, (), rfl, rfl, ⟨by rw [ht]; exact hP9, va_K.moved hW.alike hK9, hD9⟩⟩, hS.F ht⟩) hS.2.2 dX5_openOf_41

def wb_c_N_depth_0 : List Cond := [.fieldLink RX5 28 "Hornbook$Nodes" "second" "[J"] ++ u_ws RX5 TX5 14
def w_c_N_depth_0 : List Cond := .code yX5_depthOf cX5_depthOf 2 (some .int) :: wb_c_N_depth_0
set_option maxHeartbeats 4000000 in
set_option maxRecDepth 100000 in
theorem c_N_depth_0 (l : Launch) (eD eI : Nat) (ad : Nat → Nat) (dC : Nat → ClassId) (dI : Nat → Nat → Nat) (sz : Nat) (anod : Nat) (nm : Nat) (nl : Nat) (n1 : Nat) (n2 : Nat) (nf : Nat) (ns : Nat) (nh : Nat) (nk : Nat) (np : Nat) (kL : ClassId) : Met l yX5_depthOf w_c_N_depth_0 ({ frames := 0, cells := 0, slots := 0, locals := 0 }) (va_Pc [.ref anod, .int 0] (zPre eD eI ad (dC, dI) [(anod, .inr (7, [.ref nm, .ref nl, .ref n1, .ref n2, .ref nf, .ref ns, .ref nh, .ref nk, .ref np, .int 16, .int 0, .int 16, .int 0, .int 0])), (ns, .inl (kL, 1024, .inr (.inl zSec)))] [(kL, .long)] sz)) (va_Qi (fun (r : Int32) (_ : Unit) => r = 0) (fun (_ : Unit) => zEnd (dC, dI) (va_A [(anod, .inr (7, [.ref nm, .ref nl, .ref n1, .ref n2, .ref nf, .ref ns, .ref nh, .ref nk, .ref np, .int 16, .int 0, .int 16, .int 0, .int 0])), (ns, .inl (kL, 1024, .inr (.inl zSec)))] sz) [(anod, .inr (7, [.ref nm, .ref nl, .ref n1, .ref n2, .ref nf, .ref ns, .ref nh, .ref nk, .ref np, .int 16, .int 0, .int 16, .int 0, .int 0])), (ns, .inl (kL, 1024, .inr (.inl zSec)))] [(kL, .long)]) (va_A [(anod, .inr (7, [.ref nm, .ref nl, .ref n1, .ref n2, .ref nf, .ref ns, .ref nh, .ref nk, .ref np, .int 16, .int 0, .int 16, .int 0, .int 0])), (ns, .inl (kL, 1024, .inr (.inl zSec)))] sz)) 0 0 (va_A [(anod, .inr (7, [.ref nm, .ref nl, .ref n1, .ref n2, .ref nf, .ref ns, .ref nh, .ref nk, .ref np, .int 16, .int 0, .int 16, .int 0, .int 0])), (ns, .inl (kL, 1024, .inr (.inl zSec)))] sz) := by
  refine Met.ofW (cc := cX5_depthOf) (maxL := 2) (ret := (some .int)) (by decide) rfl ?_
  intro p e s m args below meth c s₁ B hml hv
  obtain ⟨rfl, hsz, hP, hK, hD0, hE⟩ := hv
  have hx := B.exec
  have hb := B.bytes
  have hr := B.returns
  have hts := atoms_spec (ws := w_c_N_depth_0) B.pre
  have hown : s.vm.findClass RX5 = some m.cls := findClass_of_methodNamed B.named
  have hlocks := B.notSynchronized
  subst hsz
  have hD := hD0.self (sz := s.heap.size)
  generalize hAe : va_A [(anod, .inr (7, [.ref nm, .ref nl, .ref n1, .ref n2, .ref nf, .ref ns, .ref nh, .ref nk, .ref np, .int 16, .int 0, .int 16, .int 0, .int 0])), (ns, .inl (kL, 1024, .inr (.inl zSec)))] s.heap.size = A at hD hE ⊢
  have hA : ∀ q : Nat, s.heap.size ≤ q → A q := fun q h => by rw [← hAe]; exact Or.inr h
  have hS : va_S A s.heap s.heap [] := va_S.rf
  have hP : va_P (dC, dI) vwCl [(anod, .inr (7, [.ref nm, .ref nl, .ref n1, .ref n2, .ref nf, .ref ns, .ref nh, .ref nk, .ref np, .int 16, .int 0, .int 16, .int 0, .int 0])), (ns, .inl (kL, 1024, .inr (.inl zSec)))] s.heap := hP
  have hl := lv_entry ([.ref anod, .int 0]) (n := 2) (Nat.le_of_ble_eq_true rfl)
  rw [lg_entry_eq]
  generalize (lg_sl ([.ref anod, .int 0]) ++ List.replicate (2 - (lg_sl ([.ref anod, .int 0])).length) Slot.unset).toArray = ls at hl ⊢
  have hl : lv_has ls 2 [(0, .ref anod), (1, .int 0)] := hl
  have in_RX5 : ∀ w ∈ u_ws RX5 TX5 14, w ∈ w_c_N_depth_0 := by decide +kernel
  refine lv_iload_n hx hb dX5_depthOf_0 rfl (lv_at hl 1 rfl) ?_
  refine lv_if_lt (tgt := 30) hx hb dX5_depthOf_1 (by decide) (fun c_1 => ?_) (fun c_1 => ?_)
  · exact absurd c_1 (by decide)
  refine lv_iload_n hx hb dX5_depthOf_4 rfl (lv_at hl 1 rfl) ?_
  refine lv_aload_n hx hb dX5_depthOf_5 rfl (lv_at hl 0 rfl) ?_
  refine va_get (D := (dC, dI)) (ci := 7) (v := .ref ns) (C := RX5) (T := TX5) (N := 14) hx hb hts in_RX5 hown hK hP 0 rfl rfl 5 (by decide) (hts (.fieldLink RX5 28 "Hornbook$Nodes" "second" "[J") (by decide +kernel)) (fun _ h9 => h9) rfl dX5_depthOf_6 ?_
  refine va_alen (D := (dC, dI)) (v := 1024) hx hb hK hP 1 0 rfl rfl rfl dX5_depthOf_9 ?_
  refine lv_icmp_ge (tgt := 30) hx hb dX5_depthOf_10 (by decide) (fun c_2 => ?_) (fun c_2 => ?_)
  · exact absurd c_2 (by decide)
  refine lv_aload_n hx hb dX5_depthOf_13 rfl (lv_at hl 0 rfl) ?_
  refine va_get (D := (dC, dI)) (ci := 7) (v := .ref ns) (C := RX5) (T := TX5) (N := 14) hx hb hts in_RX5 hown hK hP 0 rfl rfl 5 (by decide) (hts (.fieldLink RX5 28 "Hornbook$Nodes" "second" "[J") (by decide +kernel)) (fun _ h9 => h9) rfl dX5_depthOf_14 ?_
  refine lv_iload_n hx hb dX5_depthOf_17 rfl (lv_at hl 1 rfl) ?_
  refine va_lald (D := (dC, dI)) hx hb hK hP 1 0 rfl rfl (by unfold vp_in; decide) dX5_depthOf_18 ?_
  refine z_top (v' := .long (-2305843009213693952)) (congrArg Value.long (by first | rfl | decide)) ?_
  refine lv_bipush (v := 9) hx hb dX5_depthOf_19 (by decide) ?_
  refine lv_lushr (v := 31525197391593472) hx hb dX5_depthOf_21 (by first | rfl | decide | decide +kernel) ?_
  refine lv_l2i (v := 0) hx hb dX5_depthOf_22 (by first | rfl | decide | decide +kernel) ?_
  refine lv_sipush (v := 511) hx hb dX5_depthOf_23 (by decide) ?_
  refine lv_iand hx hb dX5_depthOf_26 ?_
  refine z_top (v' := .int 0) (congrArg Value.int (by decide)) ?_
  refine lv_goto (tgt := 31) hx hb dX5_depthOf_27 (by decide) ?_
  have hP9 := hP.sub (ws' := [(anod, .inr (7, [.ref nm, .ref nl, .ref n1, .ref n2, .ref nf, .ref ns, .ref nh, .ref nk, .ref np, .int 16, .int 0, .int 16, .int 0, .int 0])), (ns, .inl (kL, 1024, .inr (.inl zSec)))]) [0, 1] rfl
  have hD9 := hD.sub (ws' := [(anod, .inr (7, [.ref nm, .ref nl, .ref n1, .ref n2, .ref nf, .ref ns, .ref nh, .ref nk, .ref np, .int 16, .int 0, .int 16, .int 0, .int 0])), (ns, .inl (kL, 1024, .inr (.inl zSec)))]) [0, 1] (by decide) rfl
  have hK9 := hK.sub (tys' := [(kL, .long)]) [0] rfl
  refine W.widen (k := 0) (n := 0) (Nat.le_of_ble_eq_true rfl) (Nat.le_of_ble_eq_true rfl) ?_
  exact W.iret (v := 0) hx hb hr (fun t ht hW => ⟨⟨0, (), rfl, rfl, ⟨by rw [ht]; exact hP9, va_K.moved hW.alike hK9, hD9⟩⟩, hS.F ht⟩) hS.2.2 dX5_depthOf_31

def wb_c_N_isJoin_0 : List Cond := [.fieldLink RX5 28 "Hornbook$Nodes" "second" "[J", .fieldLink RX5 24 "Hornbook$Nodes" "first" "[J"] ++ u_ws RX5 TX5 14
def w_c_N_isJoin_0 : List Cond := .code yX5_isJoin cX5_isJoin 2 (some .boolean) :: wb_c_N_isJoin_0
set_option maxHeartbeats 4000000 in
set_option maxRecDepth 100000 in
theorem c_N_isJoin_0 (l : Launch) (eD eI : Nat) (ad : Nat → Nat) (dC : Nat → ClassId) (dI : Nat → Nat → Nat) (sz : Nat) (anod : Nat) (nm : Nat) (nl : Nat) (n1 : Nat) (n2 : Nat) (nf : Nat) (ns : Nat) (nh : Nat) (nk : Nat) (np : Nat) (kL : ClassId) : Met l yX5_isJoin w_c_N_isJoin_0 ({ frames := 0, cells := 0, slots := 0, locals := 0 }) (va_Pc [.ref anod, .int 0] (zPre eD eI ad (dC, dI) [(anod, .inr (7, [.ref nm, .ref nl, .ref n1, .ref n2, .ref nf, .ref ns, .ref nh, .ref nk, .ref np, .int 16, .int 0, .int 16, .int 0, .int 0])), (ns, .inl (kL, 1024, .inr (.inl zSec))), (nf, .inl (kL, 1024, .inr (.inl zFir)))] [(kL, .long)] sz)) (va_Qi (fun (r : Int32) (_ : Unit) => r = 0) (fun (_ : Unit) => zEnd (dC, dI) (va_A [(anod, .inr (7, [.ref nm, .ref nl, .ref n1, .ref n2, .ref nf, .ref ns, .ref nh, .ref nk, .ref np, .int 16, .int 0, .int 16, .int 0, .int 0])), (ns, .inl (kL, 1024, .inr (.inl zSec))), (nf, .inl (kL, 1024, .inr (.inl zFir)))] sz) [(anod, .inr (7, [.ref nm, .ref nl, .ref n1, .ref n2, .ref nf, .ref ns, .ref nh, .ref nk, .ref np, .int 16, .int 0, .int 16, .int 0, .int 0])), (ns, .inl (kL, 1024, .inr (.inl zSec))), (nf, .inl (kL, 1024, .inr (.inl zFir)))] [(kL, .long)]) (va_A [(anod, .inr (7, [.ref nm, .ref nl, .ref n1, .ref n2, .ref nf, .ref ns, .ref nh, .ref nk, .ref np, .int 16, .int 0, .int 16, .int 0, .int 0])), (ns, .inl (kL, 1024, .inr (.inl zSec))), (nf, .inl (kL, 1024, .inr (.inl zFir)))] sz)) 0 0 (va_A [(anod, .inr (7, [.ref nm, .ref nl, .ref n1, .ref n2, .ref nf, .ref ns, .ref nh, .ref nk, .ref np, .int 16, .int 0, .int 16, .int 0, .int 0])), (ns, .inl (kL, 1024, .inr (.inl zSec))), (nf, .inl (kL, 1024, .inr (.inl zFir)))] sz) := by
  refine Met.ofW (cc := cX5_isJoin) (maxL := 2) (ret := (some .boolean)) (by decide) rfl ?_
  intro p e s m args below meth c s₁ B hml hv
  obtain ⟨rfl, hsz, hP, hK, hD0, hE⟩ := hv
  have hx := B.exec
  have hb := B.bytes
  have hr := B.returns
  have hts := atoms_spec (ws := w_c_N_isJoin_0) B.pre
  have hown : s.vm.findClass RX5 = some m.cls := findClass_of_methodNamed B.named
  have hlocks := B.notSynchronized
  subst hsz
  have hD := hD0.self (sz := s.heap.size)
  generalize hAe : va_A [(anod, .inr (7, [.ref nm, .ref nl, .ref n1, .ref n2, .ref nf, .ref ns, .ref nh, .ref nk, .ref np, .int 16, .int 0, .int 16, .int 0, .int 0])), (ns, .inl (kL, 1024, .inr (.inl zSec))), (nf, .inl (kL, 1024, .inr (.inl zFir)))] s.heap.size = A at hD hE ⊢
  have hA : ∀ q : Nat, s.heap.size ≤ q → A q := fun q h => by rw [← hAe]; exact Or.inr h
  have hS : va_S A s.heap s.heap [] := va_S.rf
  have hP : va_P (dC, dI) vwCl [(anod, .inr (7, [.ref nm, .ref nl, .ref n1, .ref n2, .ref nf, .ref ns, .ref nh, .ref nk, .ref np, .int 16, .int 0, .int 16, .int 0, .int 0])), (ns, .inl (kL, 1024, .inr (.inl zSec))), (nf, .inl (kL, 1024, .inr (.inl zFir)))] s.heap := hP
  have hl := lv_entry ([.ref anod, .int 0]) (n := 2) (Nat.le_of_ble_eq_true rfl)
  rw [lg_entry_eq]
  generalize (lg_sl ([.ref anod, .int 0]) ++ List.replicate (2 - (lg_sl ([.ref anod, .int 0])).length) Slot.unset).toArray = ls at hl ⊢
  have hl : lv_has ls 2 [(0, .ref anod), (1, .int 0)] := hl
  have in_RX5 : ∀ w ∈ u_ws RX5 TX5 14, w ∈ w_c_N_isJoin_0 := by decide +kernel
  refine lv_iload_n hx hb dX5_isJoin_0 rfl (lv_at hl 1 rfl) ?_
  refine lv_if_lt (tgt := 28) hx hb dX5_isJoin_1 (by decide) (fun c_1 => ?_) (fun c_1 => ?_)
  · exact absurd c_1 (by decide)
  refine lv_iload_n hx hb dX5_isJoin_4 rfl (lv_at hl 1 rfl) ?_
  refine lv_aload_n hx hb dX5_isJoin_5 rfl (lv_at hl 0 rfl) ?_
  refine va_get (D := (dC, dI)) (ci := 7) (v := .ref ns) (C := RX5) (T := TX5) (N := 14) hx hb hts in_RX5 hown hK hP 0 rfl rfl 5 (by decide) (hts (.fieldLink RX5 28 "Hornbook$Nodes" "second" "[J") (by decide +kernel)) (fun _ h9 => h9) rfl dX5_isJoin_6 ?_
  refine va_alen (D := (dC, dI)) (v := 1024) hx hb hK hP 1 0 rfl rfl rfl dX5_isJoin_9 ?_
  refine lv_icmp_ge (tgt := 28) hx hb dX5_isJoin_10 (by decide) (fun c_2 => ?_) (fun c_2 => ?_)
  · exact absurd c_2 (by decide)
  refine lv_aload_n hx hb dX5_isJoin_13 rfl (lv_at hl 0 rfl) ?_
  refine va_get (D := (dC, dI)) (ci := 7) (v := .ref nf) (C := RX5) (T := TX5) (N := 14) hx hb hts in_RX5 hown hK hP 0 rfl rfl 4 (by decide) (hts (.fieldLink RX5 24 "Hornbook$Nodes" "first" "[J") (by decide +kernel)) (fun _ h9 => h9) rfl dX5_isJoin_14 ?_
  refine lv_iload_n hx hb dX5_isJoin_17 rfl (lv_at hl 1 rfl) ?_
  refine va_lald (D := (dC, dI)) hx hb hK hP 2 0 rfl rfl (by unfold vp_in; decide) dX5_isJoin_18 ?_
  refine z_top (v' := .long 0) (congrArg Value.long (by first | rfl | decide)) ?_
  refine lv_lconst (v := 0) hx hb dX5_isJoin_19 (by decide) ?_
  refine W.lcmp hx hb dX5_isJoin_20 ?_
  refine z_top (v' := .int 0) (congrArg Value.int (by first | decide | decide +kernel)) ?_
  refine lv_if_ge (tgt := 28) hx hb dX5_isJoin_21 (by decide) (fun c_3 => ?_) (fun c_3 => ?_)
  rotate_left
  · exact absurd (by decide) c_3
  refine lv_iconst (v := 0) hx hb dX5_isJoin_28 (by decide) ?_
  have hP9 := hP.sub (ws' := [(anod, .inr (7, [.ref nm, .ref nl, .ref n1, .ref n2, .ref nf, .ref ns, .ref nh, .ref nk, .ref np, .int 16, .int 0, .int 16, .int 0, .int 0])), (ns, .inl (kL, 1024, .inr (.inl zSec))), (nf, .inl (kL, 1024, .inr (.inl zFir)))]) [0, 1, 2] rfl
  have hD9 := hD.sub (ws' := [(anod, .inr (7, [.ref nm, .ref nl, .ref n1, .ref n2, .ref nf, .ref ns, .ref nh, .ref nk, .ref np, .int 16, .int 0, .int 16, .int 0, .int 0])), (ns, .inl (kL, 1024, .inr (.inl zSec))), (nf, .inl (kL, 1024, .inr (.inl zFir)))]) [0, 1, 2] (by decide) rfl
  have hK9 := hK.sub (tys' := [(kL, .long)]) [0] rfl
  refine W.widen (k := 0) (n := 0) (Nat.le_of_ble_eq_true rfl) (Nat.le_of_ble_eq_true rfl) ?_
  exact W.zret (v := 0) hx hb hr (by first | rfl | decide) (fun t ht hW => ⟨⟨0, (), rfl, rfl, ⟨by rw [ht]; exact hP9, va_K.moved hW.alike hK9, hD9⟩⟩, hS.F ht⟩) hS.2.2 dX5_isJoin_29

def wb_c_N_isShut_0 : List Cond := [.fieldLink RX5 28 "Hornbook$Nodes" "second" "[J"] ++ u_ws RX5 TX5 14
def w_c_N_isShut_0 : List Cond := .code yX5_isShut cX5_isShut 2 (some .boolean) :: wb_c_N_isShut_0
set_option maxHeartbeats 4000000 in
set_option maxRecDepth 100000 in
theorem c_N_isShut_0 (l : Launch) (eD eI : Nat) (ad : Nat → Nat) (dC : Nat → ClassId) (dI : Nat → Nat → Nat) (sz : Nat) (anod : Nat) (nm : Nat) (nl : Nat) (n1 : Nat) (n2 : Nat) (nf : Nat) (ns : Nat) (nh : Nat) (nk : Nat) (np : Nat) (kL : ClassId) : Met l yX5_isShut w_c_N_isShut_0 ({ frames := 0, cells := 0, slots := 0, locals := 0 }) (va_Pc [.ref anod, .int 0] (zPre eD eI ad (dC, dI) [(anod, .inr (7, [.ref nm, .ref nl, .ref n1, .ref n2, .ref nf, .ref ns, .ref nh, .ref nk, .ref np, .int 16, .int 0, .int 16, .int 0, .int 0])), (ns, .inl (kL, 1024, .inr (.inl zSec)))] [(kL, .long)] sz)) (va_Qi (fun (r : Int32) (_ : Unit) => r = 0) (fun (_ : Unit) => zEnd (dC, dI) (va_A [(anod, .inr (7, [.ref nm, .ref nl, .ref n1, .ref n2, .ref nf, .ref ns, .ref nh, .ref nk, .ref np, .int 16, .int 0, .int 16, .int 0, .int 0])), (ns, .inl (kL, 1024, .inr (.inl zSec)))] sz) [(anod, .inr (7, [.ref nm, .ref nl, .ref n1, .ref n2, .ref nf, .ref ns, .ref nh, .ref nk, .ref np, .int 16, .int 0, .int 16, .int 0, .int 0])), (ns, .inl (kL, 1024, .inr (.inl zSec)))] [(kL, .long)]) (va_A [(anod, .inr (7, [.ref nm, .ref nl, .ref n1, .ref n2, .ref nf, .ref ns, .ref nh, .ref nk, .ref np, .int 16, .int 0, .int 16, .int 0, .int 0])), (ns, .inl (kL, 1024, .inr (.inl zSec)))] sz)) 0 0 (va_A [(anod, .inr (7, [.ref nm, .ref nl, .ref n1, .ref n2, .ref nf, .ref ns, .ref nh, .ref nk, .ref np, .int 16, .int 0, .int 16, .int 0, .int 0])), (ns, .inl (kL, 1024, .inr (.inl zSec)))] sz) := by
  refine Met.ofW (cc := cX5_isShut) (maxL := 2) (ret := (some .boolean)) (by decide) rfl ?_
  intro p e s m args below meth c s₁ B hml hv
  obtain ⟨rfl, hsz, hP, hK, hD0, hE⟩ := hv
  have hx := B.exec
  have hb := B.bytes
  have hr := B.returns
  have hts := atoms_spec (ws := w_c_N_isShut_0) B.pre
  have hown : s.vm.findClass RX5 = some m.cls := findClass_of_methodNamed B.named
  have hlocks := B.notSynchronized
  subst hsz
  have hD := hD0.self (sz := s.heap.size)
  generalize hAe : va_A [(anod, .inr (7, [.ref nm, .ref nl, .ref n1, .ref n2, .ref nf, .ref ns, .ref nh, .ref nk, .ref np, .int 16, .int 0, .int 16, .int 0, .int 0])), (ns, .inl (kL, 1024, .inr (.inl zSec)))] s.heap.size = A at hD hE ⊢
  have hA : ∀ q : Nat, s.heap.size ≤ q → A q := fun q h => by rw [← hAe]; exact Or.inr h
  have hS : va_S A s.heap s.heap [] := va_S.rf
  have hP : va_P (dC, dI) vwCl [(anod, .inr (7, [.ref nm, .ref nl, .ref n1, .ref n2, .ref nf, .ref ns, .ref nh, .ref nk, .ref np, .int 16, .int 0, .int 16, .int 0, .int 0])), (ns, .inl (kL, 1024, .inr (.inl zSec)))] s.heap := hP
  have hl := lv_entry ([.ref anod, .int 0]) (n := 2) (Nat.le_of_ble_eq_true rfl)
  rw [lg_entry_eq]
  generalize (lg_sl ([.ref anod, .int 0]) ++ List.replicate (2 - (lg_sl ([.ref anod, .int 0])).length) Slot.unset).toArray = ls at hl ⊢
  have hl : lv_has ls 2 [(0, .ref anod), (1, .int 0)] := hl
  have in_RX5 : ∀ w ∈ u_ws RX5 TX5 14, w ∈ w_c_N_isShut_0 := by decide +kernel
  refine lv_iload_n hx hb dX5_isShut_0 rfl (lv_at hl 1 rfl) ?_
  refine lv_if_lt (tgt := 32) hx hb dX5_isShut_1 (by decide) (fun c_1 => ?_) (fun c_1 => ?_)
  · exact absurd c_1 (by decide)
  refine lv_iload_n hx hb dX5_isShut_4 rfl (lv_at hl 1 rfl) ?_
  refine lv_aload_n hx hb dX5_isShut_5 rfl (lv_at hl 0 rfl) ?_
  refine va_get (D := (dC, dI)) (ci := 7) (v := .ref ns) (C := RX5) (T := TX5) (N := 14) hx hb hts in_RX5 hown hK hP 0 rfl rfl 5 (by decide) (hts (.fieldLink RX5 28 "Hornbook$Nodes" "second" "[J") (by decide +kernel)) (fun _ h9 => h9) rfl dX5_isShut_6 ?_
  refine va_alen (D := (dC, dI)) (v := 1024) hx hb hK hP 1 0 rfl rfl rfl dX5_isShut_9 ?_
  refine lv_icmp_ge (tgt := 32) hx hb dX5_isShut_10 (by decide) (fun c_2 => ?_) (fun c_2 => ?_)
  · exact absurd c_2 (by decide)
  refine lv_aload_n hx hb dX5_isShut_13 rfl (lv_at hl 0 rfl) ?_
  refine va_get (D := (dC, dI)) (ci := 7) (v := .ref ns) (C := RX5) (T := TX5) (N := 14) hx hb hts in_RX5 hown hK hP 0 rfl rfl 5 (by decide) (hts (.fieldLink RX5 28 "Hornbook$Nodes" "second" "[J") (by decide +kernel)) (fun _ h9 => h9) rfl dX5_isShut_14 ?_
  refine lv_iload_n hx hb dX5_isShut_17 rfl (lv_at hl 1 rfl) ?_
  refine va_lald (D := (dC, dI)) hx hb hK hP 1 0 rfl rfl (by unfold vp_in; decide) dX5_isShut_18 ?_
  refine z_top (v' := .long (-2305843009213693952)) (congrArg Value.long (by first | rfl | decide)) ?_
  refine lv_bipush (v := 60) hx hb dX5_isShut_19 (by decide) ?_
  refine lv_lushr (v := 14) hx hb dX5_isShut_21 (by first | rfl | decide | decide +kernel) ?_
  refine lv_l2i (v := 14) hx hb dX5_isShut_22 (by first | rfl | decide | decide +kernel) ?_
  refine lv_bipush (v := 12) hx hb dX5_isShut_23 (by decide) ?_
  refine lv_icmp_ne (tgt := 32) hx hb dX5_isShut_25 (by decide) (fun c_3 => ?_) (fun c_3 => ?_)
  rotate_left
  · exact absurd c_3 (by decide)
  refine lv_iconst (v := 0) hx hb dX5_isShut_32 (by decide) ?_
  have hP9 := hP.sub (ws' := [(anod, .inr (7, [.ref nm, .ref nl, .ref n1, .ref n2, .ref nf, .ref ns, .ref nh, .ref nk, .ref np, .int 16, .int 0, .int 16, .int 0, .int 0])), (ns, .inl (kL, 1024, .inr (.inl zSec)))]) [0, 1] rfl
  have hD9 := hD.sub (ws' := [(anod, .inr (7, [.ref nm, .ref nl, .ref n1, .ref n2, .ref nf, .ref ns, .ref nh, .ref nk, .ref np, .int 16, .int 0, .int 16, .int 0, .int 0])), (ns, .inl (kL, 1024, .inr (.inl zSec)))]) [0, 1] (by decide) rfl
  have hK9 := hK.sub (tys' := [(kL, .long)]) [0] rfl
  refine W.widen (k := 0) (n := 0) (Nat.le_of_ble_eq_true rfl) (Nat.le_of_ble_eq_true rfl) ?_
  exact W.zret (v := 0) hx hb hr (by first | rfl | decide) (fun t ht hW => ⟨⟨0, (), rfl, rfl, ⟨by rw [ht]; exact hP9, va_K.moved hW.alike hK9, hD9⟩⟩, hS.F ht⟩) hS.2.2 dX5_isShut_33

def wb_c_N_open_1 : List Cond := [.fieldLink RX5 28 "Hornbook$Nodes" "second" "[J", .fieldLink RX5 24 "Hornbook$Nodes" "first" "[J"] ++ u_ws RX5 TX5 14
def w_c_N_open_1 : List Cond := .code yX5_openOf cX5_openOf 2 (some .int) :: wb_c_N_open_1
set_option maxHeartbeats 4000000 in
set_option maxRecDepth 100000 in
theorem c_N_open_1 (l : Launch) (eD eI : Nat) (ad : Nat → Nat) (dC : Nat → ClassId) (dI : Nat → Nat → Nat) (sz : Nat) (anod : Nat) (nm : Nat) (nl : Nat) (n1 : Nat) (n2 : Nat) (nf : Nat) (ns : Nat) (nh : Nat) (nk : Nat) (np : Nat) (kL : ClassId) : Met l yX5_openOf w_c_N_open_1 ({ frames := 0, cells := 0, slots := 0, locals := 0 }) (va_Pc [.ref anod, .int 1] (zPre eD eI ad (dC, dI) [(anod, .inr (7, [.ref nm, .ref nl, .ref n1, .ref n2, .ref nf, .ref ns, .ref nh, .ref nk, .ref np, .int 16, .int 0, .int 16, .int 0, .int 0])), (ns, .inl (kL, 1024, .inr (.inl zSec))), (nf, .inl (kL, 1024, .inr (.inl zFir)))] [(kL, .long)] sz)) (va_Qi (fun (r : Int32) (_ : Unit) => r = 0) (fun (_ : Unit) => zEnd (dC, dI) (va_A [(anod, .inr (7, [.ref nm, .ref nl, .ref n1, .ref n2, .ref nf, .ref ns, .ref nh, .ref nk, .ref np, .int 16, .int 0, .int 16, .int 0, .int 0])), (ns, .inl (kL, 1024, .inr (.inl zSec))), (nf, .inl (kL, 1024, .inr (.inl zFir)))] sz) [(anod, .inr (7, [.ref nm, .ref nl, .ref n1, .ref n2, .ref nf, .ref ns, .ref nh, .ref nk, .ref np, .int 16, .int 0, .int 16, .int 0, .int 0])), (ns, .inl (kL, 1024, .inr (.inl zSec))), (nf, .inl (kL, 1024, .inr (.inl zFir)))] [(kL, .long)]) (va_A [(anod, .inr (7, [.ref nm, .ref nl, .ref n1, .ref n2, .ref nf, .ref ns, .ref nh, .ref nk, .ref np, .int 16, .int 0, .int 16, .int 0, .int 0])), (ns, .inl (kL, 1024, .inr (.inl zSec))), (nf, .inl (kL, 1024, .inr (.inl zFir)))] sz)) 0 0 (va_A [(anod, .inr (7, [.ref nm, .ref nl, .ref n1, .ref n2, .ref nf, .ref ns, .ref nh, .ref nk, .ref np, .int 16, .int 0, .int 16, .int 0, .int 0])), (ns, .inl (kL, 1024, .inr (.inl zSec))), (nf, .inl (kL, 1024, .inr (.inl zFir)))] sz) := by
  refine Met.ofW (cc := cX5_openOf) (maxL := 2) (ret := (some .int)) (by decide) rfl ?_
  intro p e s m args below meth c s₁ B hml hv
  obtain ⟨rfl, hsz, hP, hK, hD0, hE⟩ := hv
  have hx := B.exec
  have hb := B.bytes
  have hr := B.returns
  have hts := atoms_spec (ws := w_c_N_open_1) B.pre
  have hown : s.vm.findClass RX5 = some m.cls := findClass_of_methodNamed B.named
  have hlocks := B.notSynchronized
  subst hsz
  have hD := hD0.self (sz := s.heap.size)
  generalize hAe : va_A [(anod, .inr (7, [.ref nm, .ref nl, .ref n1, .ref n2, .ref nf, .ref ns, .ref nh, .ref nk, .ref np, .int 16, .int 0, .int 16, .int 0, .int 0])), (ns, .inl (kL, 1024, .inr (.inl zSec))), (nf, .inl (kL, 1024, .inr (.inl zFir)))] s.heap.size = A at hD hE ⊢
  have hA : ∀ q : Nat, s.heap.size ≤ q → A q := fun q h => by rw [← hAe]; exact Or.inr h
  have hS : va_S A s.heap s.heap [] := va_S.rf
  have hP : va_P (dC, dI) vwCl [(anod, .inr (7, [.ref nm, .ref nl, .ref n1, .ref n2, .ref nf, .ref ns, .ref nh, .ref nk, .ref np, .int 16, .int 0, .int 16, .int 0, .int 0])), (ns, .inl (kL, 1024, .inr (.inl zSec))), (nf, .inl (kL, 1024, .inr (.inl zFir)))] s.heap := hP
  have hl := lv_entry ([.ref anod, .int 1]) (n := 2) (Nat.le_of_ble_eq_true rfl)
  rw [lg_entry_eq]
  generalize (lg_sl ([.ref anod, .int 1]) ++ List.replicate (2 - (lg_sl ([.ref anod, .int 1])).length) Slot.unset).toArray = ls at hl ⊢
  have hl : lv_has ls 2 [(0, .ref anod), (1, .int 1)] := hl
  have in_RX5 : ∀ w ∈ u_ws RX5 TX5 14, w ∈ w_c_N_open_1 := by decide +kernel
  refine lv_iload_n hx hb dX5_openOf_0 rfl (lv_at hl 1 rfl) ?_
  refine lv_if_lt (tgt := 24) hx hb dX5_openOf_1 (by decide) (fun c_1 => ?_) (fun c_1 => ?_)
  · exact absurd c_1 (by decide)
  refine lv_iload_n hx hb dX5_openOf_4 rfl (lv_at hl 1 rfl) ?_
  refine lv_aload_n hx hb dX5_openOf_5 rfl (lv_at hl 0 rfl) ?_
  refine va_get (D := (dC, dI)) (ci := 7) (v := .ref ns) (C := RX5) (T := TX5) (N := 14) hx hb hts in_RX5 hown hK hP 0 rfl rfl 5 (by decide) (hts (.fieldLink RX5 28 "Hornbook$Nodes" "second" "[J") (by decide +kernel)) (fun _ h9 => h9) rfl dX5_openOf_6 ?_
  refine va_alen (D := (dC, dI)) (v := 1024) hx hb hK hP 1 0 rfl rfl rfl dX5_openOf_9 ?_
  refine lv_icmp_ge (tgt := 24) hx hb dX5_openOf_10 (by decide) (fun c_2 => ?_) (fun c_2 => ?_)
  · exact absurd c_2 (by decide)
  refine lv_aload_n hx hb dX5_openOf_13 rfl (lv_at hl 0 rfl) ?_
  refine va_get (D := (dC, dI)) (ci := 7) (v := .ref nf) (C := RX5) (T := TX5) (N := 14) hx hb hts in_RX5 hown hK hP 0 rfl rfl 4 (by decide) (hts (.fieldLink RX5 24 "Hornbook$Nodes" "first" "[J") (by decide +kernel)) (fun _ h9 => h9) rfl dX5_openOf_14 ?_
  refine lv_iload_n hx hb dX5_openOf_17 rfl (lv_at hl 1 rfl) ?_
  refine va_lald (D := (dC, dI)) hx hb hK hP 2 0 rfl rfl (by unfold vp_in; decide) dX5_openOf_18 ?_
  refine z_top (v' := .long 0) (congrArg Value.long (by first | rfl | decide)) ?_
  refine lv_lconst (v := 0) hx hb dX5_openOf_19 (by decide) ?_
  refine W.lcmp hx hb dX5_openOf_20 ?_
  refine z_top (v' := .int 0) (congrArg Value.int (by first | decide | decide +kernel)) ?_
  refine lv_if_ge (tgt := 28) hx hb dX5_openOf_21 (by decide) (fun c_3 => ?_) (fun c_3 => ?_)
  rotate_left
  · exact absurd (by decide) c_3
  refine lv_aload_n hx hb dX5_openOf_28 rfl (lv_at hl 0 rfl) ?_
  refine va_get (D := (dC, dI)) (ci := 7) (v := .ref nf) (C := RX5) (T := TX5) (N := 14) hx hb hts in_RX5 hown hK hP 0 rfl rfl 4 (by decide) (hts (.fieldLink RX5 24 "Hornbook$Nodes" "first" "[J") (by decide +kernel)) (fun _ h9 => h9) rfl dX5_openOf_29 ?_
  refine lv_iload_n hx hb dX5_openOf_32 rfl (lv_at hl 1 rfl) ?_
  refine va_lald (D := (dC, dI)) hx hb hK hP 2 0 rfl rfl (by unfold vp_in; decide) dX5_openOf_33 ?_
  refine z_top (v' := .long 0) (congrArg Value.long (by first | rfl | decide)) ?_
  refine lv_bipush (v := 42) hx hb dX5_openOf_34 (by decide) ?_
  refine lv_lushr (v := 0) hx hb dX5_openOf_36 (by first | rfl | decide | decide +kernel) ?_
  refine lv_l2i (v := 0) hx hb dX5_openOf_37 (by first | rfl | decide | decide +kernel) ?_
  refine lv_bipush (v := 7) hx hb dX5_openOf_38 (by decide) ?_
  refine lv_iand hx hb dX5_openOf_40 ?_
  refine z_top (v' := .int 0) (congrArg Value.int (by decide)) ?_
  have hP9 := hP.sub (ws' := [(anod, .inr (7, [.ref nm, .ref nl, .ref n1, .ref n2, .ref nf, .ref ns, .ref nh, .ref nk, .ref np, .int 16, .int 0, .int 16, .int 0, .int 0])), (ns, .inl (kL, 1024, .inr (.inl zSec))), (nf, .inl (kL, 1024, .inr (.inl zFir)))]) [0, 1, 2] rfl
  have hD9 := hD.sub (ws' := [(anod, .inr (7, [.ref nm, .ref nl, .ref n1, .ref n2, .ref nf, .ref ns, .ref nh, .ref nk, .ref np, .int 16, .int 0, .int 16, .int 0, .int 0])), (ns, .inl (kL, 1024, .inr (.inl zSec))), (nf, .inl (kL, 1024, .inr (.inl zFir)))]) [0, 1, 2] (by decide) rfl
  have hK9 := hK.sub (tys' := [(kL, .long)]) [0] rfl
  refine W.widen (k := 0) (n := 0) (Nat.le_of_ble_eq_true rfl) (Nat.le_of_ble_eq_true rfl) ?_
  exact W.iret (v := 0) hx hb hr (fun t ht hW => ⟨⟨0, (), rfl, rfl, ⟨by rw [ht]; exact hP9, va_K.moved hW.alike hK9, hD9⟩⟩, hS.F ht⟩) hS.2.2 dX5_openOf_41

def wb_c_N_depth_1 : List Cond := [.fieldLink RX5 28 "Hornbook$Nodes" "second" "[J"] ++ u_ws RX5 TX5 14
def w_c_N_depth_1 : List Cond := .code yX5_depthOf cX5_depthOf 2 (some .int) :: wb_c_N_depth_1
set_option maxHeartbeats 4000000 in
set_option maxRecDepth 100000 in
theorem c_N_depth_1 (l : Launch) (eD eI : Nat) (ad : Nat → Nat) (dC : Nat → ClassId) (dI : Nat → Nat → Nat) (sz : Nat) (anod : Nat) (nm : Nat) (nl : Nat) (n1 : Nat) (n2 : Nat) (nf : Nat) (ns : Nat) (nh : Nat) (nk : Nat) (np : Nat) (kL : ClassId) : Met l yX5_depthOf w_c_N_depth_1 ({ frames := 0, cells := 0, slots := 0, locals := 0 }) (va_Pc [.ref anod, .int 1] (zPre eD eI ad (dC, dI) [(anod, .inr (7, [.ref nm, .ref nl, .ref n1, .ref n2, .ref nf, .ref ns, .ref nh, .ref nk, .ref np, .int 16, .int 0, .int 16, .int 0, .int 0])), (ns, .inl (kL, 1024, .inr (.inl zSec)))] [(kL, .long)] sz)) (va_Qi (fun (r : Int32) (_ : Unit) => r = 0) (fun (_ : Unit) => zEnd (dC, dI) (va_A [(anod, .inr (7, [.ref nm, .ref nl, .ref n1, .ref n2, .ref nf, .ref ns, .ref nh, .ref nk, .ref np, .int 16, .int 0, .int 16, .int 0, .int 0])), (ns, .inl (kL, 1024, .inr (.inl zSec)))] sz) [(anod, .inr (7, [.ref nm, .ref nl, .ref n1, .ref n2, .ref nf, .ref ns, .ref nh, .ref nk, .ref np, .int 16, .int 0, .int 16, .int 0, .int 0])), (ns, .inl (kL, 1024, .inr (.inl zSec)))] [(kL, .long)]) (va_A [(anod, .inr (7, [.ref nm, .ref nl, .ref n1, .ref n2, .ref nf, .ref ns, .ref nh, .ref nk, .ref np, .int 16, .int 0, .int 16, .int 0, .int 0])), (ns, .inl (kL, 1024, .inr (.inl zSec)))] sz)) 0 0 (va_A [(anod, .inr (7, [.ref nm, .ref nl, .ref n1, .ref n2, .ref nf, .ref ns, .ref nh, .ref nk, .ref np, .int 16, .int 0, .int 16, .int 0, .int 0])), (ns, .inl (kL, 1024, .inr (.inl zSec)))] sz) := by
  refine Met.ofW (cc := cX5_depthOf) (maxL := 2) (ret := (some .int)) (by decide) rfl ?_
  intro p e s m args below meth c s₁ B hml hv
  obtain ⟨rfl, hsz, hP, hK, hD0, hE⟩ := hv
  have hx := B.exec
  have hb := B.bytes
  have hr := B.returns
  have hts := atoms_spec (ws := w_c_N_depth_1) B.pre
  have hown : s.vm.findClass RX5 = some m.cls := findClass_of_methodNamed B.named
  have hlocks := B.notSynchronized
  subst hsz
  have hD := hD0.self (sz := s.heap.size)
  generalize hAe : va_A [(anod, .inr (7, [.ref nm, .ref nl, .ref n1, .ref n2, .ref nf, .ref ns, .ref nh, .ref nk, .ref np, .int 16, .int 0, .int 16, .int 0, .int 0])), (ns, .inl (kL, 1024, .inr (.inl zSec)))] s.heap.size = A at hD hE ⊢
  have hA : ∀ q : Nat, s.heap.size ≤ q → A q := fun q h => by rw [← hAe]; exact Or.inr h
  have hS : va_S A s.heap s.heap [] := va_S.rf
  have hP : va_P (dC, dI) vwCl [(anod, .inr (7, [.ref nm, .ref nl, .ref n1, .ref n2, .ref nf, .ref ns, .ref nh, .ref nk, .ref np, .int 16, .int 0, .int 16, .int 0, .int 0])), (ns, .inl (kL, 1024, .inr (.inl zSec)))] s.heap := hP
  have hl := lv_entry ([.ref anod, .int 1]) (n := 2) (Nat.le_of_ble_eq_true rfl)
  rw [lg_entry_eq]
  generalize (lg_sl ([.ref anod, .int 1]) ++ List.replicate (2 - (lg_sl ([.ref anod, .int 1])).length) Slot.unset).toArray = ls at hl ⊢
  have hl : lv_has ls 2 [(0, .ref anod), (1, .int 1)] := hl
  have in_RX5 : ∀ w ∈ u_ws RX5 TX5 14, w ∈ w_c_N_depth_1 := by decide +kernel
  refine lv_iload_n hx hb dX5_depthOf_0 rfl (lv_at hl 1 rfl) ?_
  refine lv_if_lt (tgt := 30) hx hb dX5_depthOf_1 (by decide) (fun c_1 => ?_) (fun c_1 => ?_)
  · exact absurd c_1 (by decide)
  refine lv_iload_n hx hb dX5_depthOf_4 rfl (lv_at hl 1 rfl) ?_
  refine lv_aload_n hx hb dX5_depthOf_5 rfl (lv_at hl 0 rfl) ?_
  refine va_get (D := (dC, dI)) (ci := 7) (v := .ref ns) (C := RX5) (T := TX5) (N := 14) hx hb hts in_RX5 hown hK hP 0 rfl rfl 5 (by decide) (hts (.fieldLink RX5 28 "Hornbook$Nodes" "second" "[J") (by decide +kernel)) (fun _ h9 => h9) rfl dX5_depthOf_6 ?_
  refine va_alen (D := (dC, dI)) (v := 1024) hx hb hK hP 1 0 rfl rfl rfl dX5_depthOf_9 ?_
  refine lv_icmp_ge (tgt := 30) hx hb dX5_depthOf_10 (by decide) (fun c_2 => ?_) (fun c_2 => ?_)
  · exact absurd c_2 (by decide)
  refine lv_aload_n hx hb dX5_depthOf_13 rfl (lv_at hl 0 rfl) ?_
  refine va_get (D := (dC, dI)) (ci := 7) (v := .ref ns) (C := RX5) (T := TX5) (N := 14) hx hb hts in_RX5 hown hK hP 0 rfl rfl 5 (by decide) (hts (.fieldLink RX5 28 "Hornbook$Nodes" "second" "[J") (by decide +kernel)) (fun _ h9 => h9) rfl dX5_depthOf_14 ?_
  refine lv_iload_n hx hb dX5_depthOf_17 rfl (lv_at hl 1 rfl) ?_
  refine va_lald (D := (dC, dI)) hx hb hK hP 1 0 rfl rfl (by unfold vp_in; decide) dX5_depthOf_18 ?_
  refine z_top (v' := .long (-2305843009213693952)) (congrArg Value.long (by first | rfl | decide)) ?_
  refine lv_bipush (v := 9) hx hb dX5_depthOf_19 (by decide) ?_
  refine lv_lushr (v := 31525197391593472) hx hb dX5_depthOf_21 (by first | rfl | decide | decide +kernel) ?_
  refine lv_l2i (v := 0) hx hb dX5_depthOf_22 (by first | rfl | decide | decide +kernel) ?_
  refine lv_sipush (v := 511) hx hb dX5_depthOf_23 (by decide) ?_
  refine lv_iand hx hb dX5_depthOf_26 ?_
  refine z_top (v' := .int 0) (congrArg Value.int (by decide)) ?_
  refine lv_goto (tgt := 31) hx hb dX5_depthOf_27 (by decide) ?_
  have hP9 := hP.sub (ws' := [(anod, .inr (7, [.ref nm, .ref nl, .ref n1, .ref n2, .ref nf, .ref ns, .ref nh, .ref nk, .ref np, .int 16, .int 0, .int 16, .int 0, .int 0])), (ns, .inl (kL, 1024, .inr (.inl zSec)))]) [0, 1] rfl
  have hD9 := hD.sub (ws' := [(anod, .inr (7, [.ref nm, .ref nl, .ref n1, .ref n2, .ref nf, .ref ns, .ref nh, .ref nk, .ref np, .int 16, .int 0, .int 16, .int 0, .int 0])), (ns, .inl (kL, 1024, .inr (.inl zSec)))]) [0, 1] (by decide) rfl
  have hK9 := hK.sub (tys' := [(kL, .long)]) [0] rfl
  refine W.widen (k := 0) (n := 0) (Nat.le_of_ble_eq_true rfl) (Nat.le_of_ble_eq_true rfl) ?_
  exact W.iret (v := 0) hx hb hr (fun t ht hW => ⟨⟨0, (), rfl, rfl, ⟨by rw [ht]; exact hP9, va_K.moved hW.alike hK9, hD9⟩⟩, hS.F ht⟩) hS.2.2 dX5_depthOf_31

def wb_c_N_isJoin_1 : List Cond := [.fieldLink RX5 28 "Hornbook$Nodes" "second" "[J", .fieldLink RX5 24 "Hornbook$Nodes" "first" "[J"] ++ u_ws RX5 TX5 14
def w_c_N_isJoin_1 : List Cond := .code yX5_isJoin cX5_isJoin 2 (some .boolean) :: wb_c_N_isJoin_1
set_option maxHeartbeats 4000000 in
set_option maxRecDepth 100000 in
theorem c_N_isJoin_1 (l : Launch) (eD eI : Nat) (ad : Nat → Nat) (dC : Nat → ClassId) (dI : Nat → Nat → Nat) (sz : Nat) (anod : Nat) (nm : Nat) (nl : Nat) (n1 : Nat) (n2 : Nat) (nf : Nat) (ns : Nat) (nh : Nat) (nk : Nat) (np : Nat) (kL : ClassId) : Met l yX5_isJoin w_c_N_isJoin_1 ({ frames := 0, cells := 0, slots := 0, locals := 0 }) (va_Pc [.ref anod, .int 1] (zPre eD eI ad (dC, dI) [(anod, .inr (7, [.ref nm, .ref nl, .ref n1, .ref n2, .ref nf, .ref ns, .ref nh, .ref nk, .ref np, .int 16, .int 0, .int 16, .int 0, .int 0])), (ns, .inl (kL, 1024, .inr (.inl zSec))), (nf, .inl (kL, 1024, .inr (.inl zFir)))] [(kL, .long)] sz)) (va_Qi (fun (r : Int32) (_ : Unit) => r = 0) (fun (_ : Unit) => zEnd (dC, dI) (va_A [(anod, .inr (7, [.ref nm, .ref nl, .ref n1, .ref n2, .ref nf, .ref ns, .ref nh, .ref nk, .ref np, .int 16, .int 0, .int 16, .int 0, .int 0])), (ns, .inl (kL, 1024, .inr (.inl zSec))), (nf, .inl (kL, 1024, .inr (.inl zFir)))] sz) [(anod, .inr (7, [.ref nm, .ref nl, .ref n1, .ref n2, .ref nf, .ref ns, .ref nh, .ref nk, .ref np, .int 16, .int 0, .int 16, .int 0, .int 0])), (ns, .inl (kL, 1024, .inr (.inl zSec))), (nf, .inl (kL, 1024, .inr (.inl zFir)))] [(kL, .long)]) (va_A [(anod, .inr (7, [.ref nm, .ref nl, .ref n1, .ref n2, .ref nf, .ref ns, .ref nh, .ref nk, .ref np, .int 16, .int 0, .int 16, .int 0, .int 0])), (ns, .inl (kL, 1024, .inr (.inl zSec))), (nf, .inl (kL, 1024, .inr (.inl zFir)))] sz)) 0 0 (va_A [(anod, .inr (7, [.ref nm, .ref nl, .ref n1, .ref n2, .ref nf, .ref ns, .ref nh, .ref nk, .ref np, .int 16, .int 0, .int 16, .int 0, .int 0])), (ns, .inl (kL, 1024, .inr (.inl zSec))), (nf, .inl (kL, 1024, .inr (.inl zFir)))] sz) := by
  refine Met.ofW (cc := cX5_isJoin) (maxL := 2) (ret := (some .boolean)) (by decide) rfl ?_
  intro p e s m args below meth c s₁ B hml hv
  obtain ⟨rfl, hsz, hP, hK, hD0, hE⟩ := hv
  have hx := B.exec
  have hb := B.bytes
  have hr := B.returns
  have hts := atoms_spec (ws := w_c_N_isJoin_1) B.pre
  have hown : s.vm.findClass RX5 = some m.cls := findClass_of_methodNamed B.named
  have hlocks := B.notSynchronized
  subst hsz
  have hD := hD0.self (sz := s.heap.size)
  generalize hAe : va_A [(anod, .inr (7, [.ref nm, .ref nl, .ref n1, .ref n2, .ref nf, .ref ns, .ref nh, .ref nk, .ref np, .int 16, .int 0, .int 16, .int 0, .int 0])), (ns, .inl (kL, 1024, .inr (.inl zSec))), (nf, .inl (kL, 1024, .inr (.inl zFir)))] s.heap.size = A at hD hE ⊢
  have hA : ∀ q : Nat, s.heap.size ≤ q → A q := fun q h => by rw [← hAe]; exact Or.inr h
  have hS : va_S A s.heap s.heap [] := va_S.rf
  have hP : va_P (dC, dI) vwCl [(anod, .inr (7, [.ref nm, .ref nl, .ref n1, .ref n2, .ref nf, .ref ns, .ref nh, .ref nk, .ref np, .int 16, .int 0, .int 16, .int 0, .int 0])), (ns, .inl (kL, 1024, .inr (.inl zSec))), (nf, .inl (kL, 1024, .inr (.inl zFir)))] s.heap := hP
  have hl := lv_entry ([.ref anod, .int 1]) (n := 2) (Nat.le_of_ble_eq_true rfl)
  rw [lg_entry_eq]
  generalize (lg_sl ([.ref anod, .int 1]) ++ List.replicate (2 - (lg_sl ([.ref anod, .int 1])).length) Slot.unset).toArray = ls at hl ⊢
  have hl : lv_has ls 2 [(0, .ref anod), (1, .int 1)] := hl
  have in_RX5 : ∀ w ∈ u_ws RX5 TX5 14, w ∈ w_c_N_isJoin_1 := by decide +kernel
  refine lv_iload_n hx hb dX5_isJoin_0 rfl (lv_at hl 1 rfl) ?_
  refine lv_if_lt (tgt := 28) hx hb dX5_isJoin_1 (by decide) (fun c_1 => ?_) (fun c_1 => ?_)
  · exact absurd c_1 (by decide)
  refine lv_iload_n hx hb dX5_isJoin_4 rfl (lv_at hl 1 rfl) ?_
  refine lv_aload_n hx hb dX5_isJoin_5 rfl (lv_at hl 0 rfl) ?_
  refine va_get (D := (dC, dI)) (ci := 7) (v := .ref ns) (C := RX5) (T := TX5) (N := 14) hx hb hts in_RX5 hown hK hP 0 rfl rfl 5 (by decide) (hts (.fieldLink RX5 28 "Hornbook$Nodes" "second" "[J") (by decide +kernel)) (fun _ h9 => h9) rfl dX5_isJoin_6 ?_
  refine va_alen (D := (dC, dI)) (v := 1024) hx hb hK hP 1 0 rfl rfl rfl dX5_isJoin_9 ?_
  refine lv_icmp_ge (tgt := 28) hx hb dX5_isJoin_10 (by decide) (fun c_2 => ?_) (fun c_2 => ?_)
  · exact absurd c_2 (by decide)
  refine lv_aload_n hx hb dX5_isJoin_13 rfl (lv_at hl 0 rfl) ?_
  refine va_get (D := (dC, dI)) (ci := 7) (v := .ref nf) (C := RX5) (T := TX5) (N := 14) hx hb hts in_RX5 hown hK hP 0 rfl rfl 4 (by decide) (hts (.fieldLink RX5 24 "Hornbook$Nodes" "first" "[J") (by decide +kernel)) (fun _ h9 => h9) rfl dX5_isJoin_14 ?_
  refine lv_iload_n hx hb dX5_isJoin_17 rfl (lv_at hl 1 rfl) ?_
  refine va_lald (D := (dC, dI)) hx hb hK hP 2 0 rfl rfl (by unfold vp_in; decide) dX5_isJoin_18 ?_
  refine z_top (v' := .long 0) (congrArg Value.long (by first | rfl | decide)) ?_
  refine lv_lconst (v := 0) hx hb dX5_isJoin_19 (by decide) ?_
  refine W.lcmp hx hb dX5_isJoin_20 ?_
  refine z_top (v' := .int 0) (congrArg Value.int (by first | decide | decide +kernel)) ?_
  refine lv_if_ge (tgt := 28) hx hb dX5_isJoin_21 (by decide) (fun c_3 => ?_) (fun c_3 => ?_)
  rotate_left
  · exact absurd (by decide) c_3
  refine lv_iconst (v := 0) hx hb dX5_isJoin_28 (by decide) ?_
  have hP9 := hP.sub (ws' := [(anod, .inr (7, [.ref nm, .ref nl, .ref n1, .ref n2, .ref nf, .ref ns, .ref nh, .ref nk, .ref np, .int 16, .int 0, .int 16, .int 0, .int 0])), (ns, .inl (kL, 1024, .inr (.inl zSec))), (nf, .inl (kL, 1024, .inr (.inl zFir)))]) [0, 1, 2] rfl
  have hD9 := hD.sub (ws' := [(anod, .inr (7, [.ref nm, .ref nl, .ref n1, .ref n2, .ref nf, .ref ns, .ref nh, .ref nk, .ref np, .int 16, .int 0, .int 16, .int 0, .int 0])), (ns, .inl (kL, 1024, .inr (.inl zSec))), (nf, .inl (kL, 1024, .inr (.inl zFir)))]) [0, 1, 2] (by decide) rfl
  have hK9 := hK.sub (tys' := [(kL, .long)]) [0] rfl
  refine W.widen (k := 0) (n := 0) (Nat.le_of_ble_eq_true rfl) (Nat.le_of_ble_eq_true rfl) ?_
  exact W.zret (v := 0) hx hb hr (by first | rfl | decide) (fun t ht hW => ⟨⟨0, (), rfl, rfl, ⟨by rw [ht]; exact hP9, va_K.moved hW.alike hK9, hD9⟩⟩, hS.F ht⟩) hS.2.2 dX5_isJoin_29

def wb_c_N_isShut_1 : List Cond := [.fieldLink RX5 28 "Hornbook$Nodes" "second" "[J"] ++ u_ws RX5 TX5 14
def w_c_N_isShut_1 : List Cond := .code yX5_isShut cX5_isShut 2 (some .boolean) :: wb_c_N_isShut_1
set_option maxHeartbeats 4000000 in
set_option maxRecDepth 100000 in
theorem c_N_isShut_1 (l : Launch) (eD eI : Nat) (ad : Nat → Nat) (dC : Nat → ClassId) (dI : Nat → Nat → Nat) (sz : Nat) (anod : Nat) (nm : Nat) (nl : Nat) (n1 : Nat) (n2 : Nat) (nf : Nat) (ns : Nat) (nh : Nat) (nk : Nat) (np : Nat) (kL : ClassId) : Met l yX5_isShut w_c_N_isShut_1 ({ frames := 0, cells := 0, slots := 0, locals := 0 }) (va_Pc [.ref anod, .int 1] (zPre eD eI ad (dC, dI) [(anod, .inr (7, [.ref nm, .ref nl, .ref n1, .ref n2, .ref nf, .ref ns, .ref nh, .ref nk, .ref np, .int 16, .int 0, .int 16, .int 0, .int 0])), (ns, .inl (kL, 1024, .inr (.inl zSec)))] [(kL, .long)] sz)) (va_Qi (fun (r : Int32) (_ : Unit) => r = 0) (fun (_ : Unit) => zEnd (dC, dI) (va_A [(anod, .inr (7, [.ref nm, .ref nl, .ref n1, .ref n2, .ref nf, .ref ns, .ref nh, .ref nk, .ref np, .int 16, .int 0, .int 16, .int 0, .int 0])), (ns, .inl (kL, 1024, .inr (.inl zSec)))] sz) [(anod, .inr (7, [.ref nm, .ref nl, .ref n1, .ref n2, .ref nf, .ref ns, .ref nh, .ref nk, .ref np, .int 16, .int 0, .int 16, .int 0, .int 0])), (ns, .inl (kL, 1024, .inr (.inl zSec)))] [(kL, .long)]) (va_A [(anod, .inr (7, [.ref nm, .ref nl, .ref n1, .ref n2, .ref nf, .ref ns, .ref nh, .ref nk, .ref np, .int 16, .int 0, .int 16, .int 0, .int 0])), (ns, .inl (kL, 1024, .inr (.inl zSec)))] sz)) 0 0 (va_A [(anod, .inr (7, [.ref nm, .ref nl, .ref n1, .ref n2, .ref nf, .ref ns, .ref nh, .ref nk, .ref np, .int 16, .int 0, .int 16, .int 0, .int 0])), (ns, .inl (kL, 1024, .inr (.inl zSec)))] sz) := by
  refine Met.ofW (cc := cX5_isShut) (maxL := 2) (ret := (some .boolean)) (by decide) rfl ?_
  intro p e s m args below meth c s₁ B hml hv
  obtain ⟨rfl, hsz, hP, hK, hD0, hE⟩ := hv
  have hx := B.exec
  have hb := B.bytes
  have hr := B.returns
  have hts := atoms_spec (ws := w_c_N_isShut_1) B.pre
  have hown : s.vm.findClass RX5 = some m.cls := findClass_of_methodNamed B.named
  have hlocks := B.notSynchronized
  subst hsz
  have hD := hD0.self (sz := s.heap.size)
  generalize hAe : va_A [(anod, .inr (7, [.ref nm, .ref nl, .ref n1, .ref n2, .ref nf, .ref ns, .ref nh, .ref nk, .ref np, .int 16, .int 0, .int 16, .int 0, .int 0])), (ns, .inl (kL, 1024, .inr (.inl zSec)))] s.heap.size = A at hD hE ⊢
  have hA : ∀ q : Nat, s.heap.size ≤ q → A q := fun q h => by rw [← hAe]; exact Or.inr h
  have hS : va_S A s.heap s.heap [] := va_S.rf
  have hP : va_P (dC, dI) vwCl [(anod, .inr (7, [.ref nm, .ref nl, .ref n1, .ref n2, .ref nf, .ref ns, .ref nh, .ref nk, .ref np, .int 16, .int 0, .int 16, .int 0, .int 0])), (ns, .inl (kL, 1024, .inr (.inl zSec)))] s.heap := hP
  have hl := lv_entry ([.ref anod, .int 1]) (n := 2) (Nat.le_of_ble_eq_true rfl)
  rw [lg_entry_eq]
  generalize (lg_sl ([.ref anod, .int 1]) ++ List.replicate (2 - (lg_sl ([.ref anod, .int 1])).length) Slot.unset).toArray = ls at hl ⊢
  have hl : lv_has ls 2 [(0, .ref anod), (1, .int 1)] := hl
  have in_RX5 : ∀ w ∈ u_ws RX5 TX5 14, w ∈ w_c_N_isShut_1 := by decide +kernel
  refine lv_iload_n hx hb dX5_isShut_0 rfl (lv_at hl 1 rfl) ?_
  refine lv_if_lt (tgt := 32) hx hb dX5_isShut_1 (by decide) (fun c_1 => ?_) (fun c_1 => ?_)
  · exact absurd c_1 (by decide)
  refine lv_iload_n hx hb dX5_isShut_4 rfl (lv_at hl 1 rfl) ?_
  refine lv_aload_n hx hb dX5_isShut_5 rfl (lv_at hl 0 rfl) ?_
  refine va_get (D := (dC, dI)) (ci := 7) (v := .ref ns) (C := RX5) (T := TX5) (N := 14) hx hb hts in_RX5 hown hK hP 0 rfl rfl 5 (by decide) (hts (.fieldLink RX5 28 "Hornbook$Nodes" "second" "[J") (by decide +kernel)) (fun _ h9 => h9) rfl dX5_isShut_6 ?_
  refine va_alen (D := (dC, dI)) (v := 1024) hx hb hK hP 1 0 rfl rfl rfl dX5_isShut_9 ?_
  refine lv_icmp_ge (tgt := 32) hx hb dX5_isShut_10 (by decide) (fun c_2 => ?_) (fun c_2 => ?_)
  · exact absurd c_2 (by decide)
  refine lv_aload_n hx hb dX5_isShut_13 rfl (lv_at hl 0 rfl) ?_
  refine va_get (D := (dC, dI)) (ci := 7) (v := .ref ns) (C := RX5) (T := TX5) (N := 14) hx hb hts in_RX5 hown hK hP 0 rfl rfl 5 (by decide) (hts (.fieldLink RX5 28 "Hornbook$Nodes" "second" "[J") (by decide +kernel)) (fun _ h9 => h9) rfl dX5_isShut_14 ?_
  refine lv_iload_n hx hb dX5_isShut_17 rfl (lv_at hl 1 rfl) ?_
  refine va_lald (D := (dC, dI)) hx hb hK hP 1 0 rfl rfl (by unfold vp_in; decide) dX5_isShut_18 ?_
  refine z_top (v' := .long (-2305843009213693952)) (congrArg Value.long (by first | rfl | decide)) ?_
  refine lv_bipush (v := 60) hx hb dX5_isShut_19 (by decide) ?_
  refine lv_lushr (v := 14) hx hb dX5_isShut_21 (by first | rfl | decide | decide +kernel) ?_
  refine lv_l2i (v := 14) hx hb dX5_isShut_22 (by first | rfl | decide | decide +kernel) ?_
  refine lv_bipush (v := 12) hx hb dX5_isShut_23 (by decide) ?_
  refine lv_icmp_ne (tgt := 32) hx hb dX5_isShut_25 (by decide) (fun c_3 => ?_) (fun c_3 => ?_)
  rotate_left
  · exact absurd c_3 (by decide)
  refine lv_iconst (v := 0) hx hb dX5_isShut_32 (by decide) ?_
  have hP9 := hP.sub (ws' := [(anod, .inr (7, [.ref nm, .ref nl, .ref n1, .ref n2, .ref nf, .ref ns, .ref nh, .ref nk, .ref np, .int 16, .int 0, .int 16, .int 0, .int 0])), (ns, .inl (kL, 1024, .inr (.inl zSec)))]) [0, 1] rfl
  have hD9 := hD.sub (ws' := [(anod, .inr (7, [.ref nm, .ref nl, .ref n1, .ref n2, .ref nf, .ref ns, .ref nh, .ref nk, .ref np, .int 16, .int 0, .int 16, .int 0, .int 0])), (ns, .inl (kL, 1024, .inr (.inl zSec)))]) [0, 1] (by decide) rfl
  have hK9 := hK.sub (tys' := [(kL, .long)]) [0] rfl
  refine W.widen (k := 0) (n := 0) (Nat.le_of_ble_eq_true rfl) (Nat.le_of_ble_eq_true rfl) ?_
  exact W.zret (v := 0) hx hb hr (by first | rfl | decide) (fun t ht hW => ⟨⟨0, (), rfl, rfl, ⟨by rw [ht]; exact hP9, va_K.moved hW.alike hK9, hD9⟩⟩, hS.F ht⟩) hS.2.2 dX5_isShut_33

def wb_c_N_open_2 : List Cond := [.fieldLink RX5 28 "Hornbook$Nodes" "second" "[J", .fieldLink RX5 24 "Hornbook$Nodes" "first" "[J"] ++ u_ws RX5 TX5 14
def w_c_N_open_2 : List Cond := .code yX5_openOf cX5_openOf 2 (some .int) :: wb_c_N_open_2
set_option maxHeartbeats 4000000 in
set_option maxRecDepth 100000 in
theorem c_N_open_2 (l : Launch) (eD eI : Nat) (ad : Nat → Nat) (dC : Nat → ClassId) (dI : Nat → Nat → Nat) (sz : Nat) (anod : Nat) (nm : Nat) (nl : Nat) (n1 : Nat) (n2 : Nat) (nf : Nat) (ns : Nat) (nh : Nat) (nk : Nat) (np : Nat) (kL : ClassId) : Met l yX5_openOf w_c_N_open_2 ({ frames := 0, cells := 0, slots := 0, locals := 0 }) (va_Pc [.ref anod, .int 2] (zPre eD eI ad (dC, dI) [(anod, .inr (7, [.ref nm, .ref nl, .ref n1, .ref n2, .ref nf, .ref ns, .ref nh, .ref nk, .ref np, .int 16, .int 0, .int 16, .int 0, .int 0])), (ns, .inl (kL, 1024, .inr (.inl zSec))), (nf, .inl (kL, 1024, .inr (.inl zFir)))] [(kL, .long)] sz)) (va_Qi (fun (r : Int32) (_ : Unit) => r = 4) (fun (_ : Unit) => zEnd (dC, dI) (va_A [(anod, .inr (7, [.ref nm, .ref nl, .ref n1, .ref n2, .ref nf, .ref ns, .ref nh, .ref nk, .ref np, .int 16, .int 0, .int 16, .int 0, .int 0])), (ns, .inl (kL, 1024, .inr (.inl zSec))), (nf, .inl (kL, 1024, .inr (.inl zFir)))] sz) [(anod, .inr (7, [.ref nm, .ref nl, .ref n1, .ref n2, .ref nf, .ref ns, .ref nh, .ref nk, .ref np, .int 16, .int 0, .int 16, .int 0, .int 0])), (ns, .inl (kL, 1024, .inr (.inl zSec))), (nf, .inl (kL, 1024, .inr (.inl zFir)))] [(kL, .long)]) (va_A [(anod, .inr (7, [.ref nm, .ref nl, .ref n1, .ref n2, .ref nf, .ref ns, .ref nh, .ref nk, .ref np, .int 16, .int 0, .int 16, .int 0, .int 0])), (ns, .inl (kL, 1024, .inr (.inl zSec))), (nf, .inl (kL, 1024, .inr (.inl zFir)))] sz)) 0 0 (va_A [(anod, .inr (7, [.ref nm, .ref nl, .ref n1, .ref n2, .ref nf, .ref ns, .ref nh, .ref nk, .ref np, .int 16, .int 0, .int 16, .int 0, .int 0])), (ns, .inl (kL, 1024, .inr (.inl zSec))), (nf, .inl (kL, 1024, .inr (.inl zFir)))] sz) := by
  refine Met.ofW (cc := cX5_openOf) (maxL := 2) (ret := (some .int)) (by decide) rfl ?_
  intro p e s m args below meth c s₁ B hml hv
  obtain ⟨rfl, hsz, hP, hK, hD0, hE⟩ := hv
  have hx := B.exec
  have hb := B.bytes
  have hr := B.returns
  have hts := atoms_spec (ws := w_c_N_open_2) B.pre
  have hown : s.vm.findClass RX5 = some m.cls := findClass_of_methodNamed B.named
  have hlocks := B.notSynchronized
  subst hsz
  have hD := hD0.self (sz := s.heap.size)
  generalize hAe : va_A [(anod, .inr (7, [.ref nm, .ref nl, .ref n1, .ref n2, .ref nf, .ref ns, .ref nh, .ref nk, .ref np, .int 16, .int 0, .int 16, .int 0, .int 0])), (ns, .inl (kL, 1024, .inr (.inl zSec))), (nf, .inl (kL, 1024, .inr (.inl zFir)))] s.heap.size = A at hD hE ⊢
  have hA : ∀ q : Nat, s.heap.size ≤ q → A q := fun q h => by rw [← hAe]; exact Or.inr h
  have hS : va_S A s.heap s.heap [] := va_S.rf
  have hP : va_P (dC, dI) vwCl [(anod, .inr (7, [.ref nm, .ref nl, .ref n1, .ref n2, .ref nf, .ref ns, .ref nh, .ref nk, .ref np, .int 16, .int 0, .int 16, .int 0, .int 0])), (ns, .inl (kL, 1024, .inr (.inl zSec))), (nf, .inl (kL, 1024, .inr (.inl zFir)))] s.heap := hP
  have hl := lv_entry ([.ref anod, .int 2]) (n := 2) (Nat.le_of_ble_eq_true rfl)
  rw [lg_entry_eq]
  generalize (lg_sl ([.ref anod, .int 2]) ++ List.replicate (2 - (lg_sl ([.ref anod, .int 2])).length) Slot.unset).toArray = ls at hl ⊢
  have hl : lv_has ls 2 [(0, .ref anod), (1, .int 2)] := hl
  have in_RX5 : ∀ w ∈ u_ws RX5 TX5 14, w ∈ w_c_N_open_2 := by decide +kernel
  refine lv_iload_n hx hb dX5_openOf_0 rfl (lv_at hl 1 rfl) ?_
  refine lv_if_lt (tgt := 24) hx hb dX5_openOf_1 (by decide) (fun c_1 => ?_) (fun c_1 => ?_)
  · exact absurd c_1 (by decide)
  refine lv_iload_n hx hb dX5_openOf_4 rfl (lv_at hl 1 rfl) ?_
  refine lv_aload_n hx hb dX5_openOf_5 rfl (lv_at hl 0 rfl) ?_
  refine va_get (D := (dC, dI)) (ci := 7) (v := .ref ns) (C := RX5) (T := TX5) (N := 14) hx hb hts in_RX5 hown hK hP 0 rfl rfl 5 (by decide) (hts (.fieldLink RX5 28 "Hornbook$Nodes" "second" "[J") (by decide +kernel)) (fun _ h9 => h9) rfl dX5_openOf_6 ?_
  refine va_alen (D := (dC, dI)) (v := 1024) hx hb hK hP 1 0 rfl rfl rfl dX5_openOf_9 ?_
  refine lv_icmp_ge (tgt := 24) hx hb dX5_openOf_10 (by decide) (fun c_2 => ?_) (fun c_2 => ?_)
  · exact absurd c_2 (by decide)
  refine lv_aload_n hx hb dX5_openOf_13 rfl (lv_at hl 0 rfl) ?_
  refine va_get (D := (dC, dI)) (ci := 7) (v := .ref nf) (C := RX5) (T := TX5) (N := 14) hx hb hts in_RX5 hown hK hP 0 rfl rfl 4 (by decide) (hts (.fieldLink RX5 24 "Hornbook$Nodes" "first" "[J") (by decide +kernel)) (fun _ h9 => h9) rfl dX5_openOf_14 ?_
  refine lv_iload_n hx hb dX5_openOf_17 rfl (lv_at hl 1 rfl) ?_
  refine va_lald (D := (dC, dI)) hx hb hK hP 2 0 rfl rfl (by unfold vp_in; decide) dX5_openOf_18 ?_
  refine z_top (v' := .long 17592186044416) (congrArg Value.long (by first | rfl | decide)) ?_
  refine lv_lconst (v := 0) hx hb dX5_openOf_19 (by decide) ?_
  refine W.lcmp hx hb dX5_openOf_20 ?_
  refine z_top (v' := .int 1) (congrArg Value.int (by first | decide | decide +kernel)) ?_
  refine lv_if_ge (tgt := 28) hx hb dX5_openOf_21 (by decide) (fun c_3 => ?_) (fun c_3 => ?_)
  rotate_left
  · exact absurd (by decide) c_3
  refine lv_aload_n hx hb dX5_openOf_28 rfl (lv_at hl 0 rfl) ?_
  refine va_get (D := (dC, dI)) (ci := 7) (v := .ref nf) (C := RX5) (T := TX5) (N := 14) hx hb hts in_RX5 hown hK hP 0 rfl rfl 4 (by decide) (hts (.fieldLink RX5 24 "Hornbook$Nodes" "first" "[J") (by decide +kernel)) (fun _ h9 => h9) rfl dX5_openOf_29 ?_
  refine lv_iload_n hx hb dX5_openOf_32 rfl (lv_at hl 1 rfl) ?_
  refine va_lald (D := (dC, dI)) hx hb hK hP 2 0 rfl rfl (by unfold vp_in; decide) dX5_openOf_33 ?_
  refine z_top (v' := .long 17592186044416) (congrArg Value.long (by first | rfl | decide)) ?_
  refine lv_bipush (v := 42) hx hb dX5_openOf_34 (by decide) ?_
  refine lv_lushr (v := 4) hx hb dX5_openOf_36 (by first | rfl | decide | decide +kernel) ?_
  refine lv_l2i (v := 4) hx hb dX5_openOf_37 (by first | rfl | decide | decide +kernel) ?_
  refine lv_bipush (v := 7) hx hb dX5_openOf_38 (by decide) ?_
  refine lv_iand hx hb dX5_openOf_40 ?_
  refine z_top (v' := .int 4) (congrArg Value.int (by decide)) ?_
  have hP9 := hP.sub (ws' := [(anod, .inr (7, [.ref nm, .ref nl, .ref n1, .ref n2, .ref nf, .ref ns, .ref nh, .ref nk, .ref np, .int 16, .int 0, .int 16, .int 0, .int 0])), (ns, .inl (kL, 1024, .inr (.inl zSec))), (nf, .inl (kL, 1024, .inr (.inl zFir)))]) [0, 1, 2] rfl
  have hD9 := hD.sub (ws' := [(anod, .inr (7, [.ref nm, .ref nl, .ref n1, .ref n2, .ref nf, .ref ns, .ref nh, .ref nk, .ref np, .int 16, .int 0, .int 16, .int 0, .int 0])), (ns, .inl (kL, 1024, .inr (.inl zSec))), (nf, .inl (kL, 1024, .inr (.inl zFir)))]) [0, 1, 2] (by decide) rfl
  have hK9 := hK.sub (tys' := [(kL, .long)]) [0] rfl
  refine W.widen (k := 0) (n := 0) (Nat.le_of_ble_eq_true rfl) (Nat.le_of_ble_eq_true rfl) ?_
  exact W.iret (v := 4) hx hb hr (fun t ht hW => ⟨⟨4, (), rfl, rfl, ⟨by rw [ht]; exact hP9, va_K.moved hW.alike hK9, hD9⟩⟩, hS.F ht⟩) hS.2.2 dX5_openOf_41

def wb_c_N_depth_2 : List Cond := [.fieldLink RX5 28 "Hornbook$Nodes" "second" "[J"] ++ u_ws RX5 TX5 14
def w_c_N_depth_2 : List Cond := .code yX5_depthOf cX5_depthOf 2 (some .int) :: wb_c_N_depth_2
set_option maxHeartbeats 4000000 in
set_option maxRecDepth 100000 in
theorem c_N_depth_2 (l : Launch) (eD eI : Nat) (ad : Nat → Nat) (dC : Nat → ClassId) (dI : Nat → Nat → Nat) (sz : Nat) (anod : Nat) (nm : Nat) (nl : Nat) (n1 : Nat) (n2 : Nat) (nf : Nat) (ns : Nat) (nh : Nat) (nk : Nat) (np : Nat) (kL : ClassId) : Met l yX5_depthOf w_c_N_depth_2 ({ frames := 0, cells := 0, slots := 0, locals := 0 }) (va_Pc [.ref anod, .int 2] (zPre eD eI ad (dC, dI) [(anod, .inr (7, [.ref nm, .ref nl, .ref n1, .ref n2, .ref nf, .ref ns, .ref nh, .ref nk, .ref np, .int 16, .int 0, .int 16, .int 0, .int 0])), (ns, .inl (kL, 1024, .inr (.inl zSec)))] [(kL, .long)] sz)) (va_Qi (fun (r : Int32) (_ : Unit) => r = 0) (fun (_ : Unit) => zEnd (dC, dI) (va_A [(anod, .inr (7, [.ref nm, .ref nl, .ref n1, .ref n2, .ref nf, .ref ns, .ref nh, .ref nk, .ref np, .int 16, .int 0, .int 16, .int 0, .int 0])), (ns, .inl (kL, 1024, .inr (.inl zSec)))] sz) [(anod, .inr (7, [.ref nm, .ref nl, .ref n1, .ref n2, .ref nf, .ref ns, .ref nh, .ref nk, .ref np, .int 16, .int 0, .int 16, .int 0, .int 0])), (ns, .inl (kL, 1024, .inr (.inl zSec)))] [(kL, .long)]) (va_A [(anod, .inr (7, [.ref nm, .ref nl, .ref n1, .ref n2, .ref nf, .ref ns, .ref nh, .ref nk, .ref np, .int 16, .int 0, .int 16, .int 0, .int 0])), (ns, .inl (kL, 1024, .inr (.inl zSec)))] sz)) 0 0 (va_A [(anod, .inr (7, [.ref nm, .ref nl, .ref n1, .ref n2, .ref nf, .ref ns, .ref nh, .ref nk, .ref np, .int 16, .int 0, .int 16, .int 0, .int 0])), (ns, .inl (kL, 1024, .inr (.inl zSec)))] sz) := by
  refine Met.ofW (cc := cX5_depthOf) (maxL := 2) (ret := (some .int)) (by decide) rfl ?_
  intro p e s m args below meth c s₁ B hml hv
  obtain ⟨rfl, hsz, hP, hK, hD0, hE⟩ := hv
  have hx := B.exec
  have hb := B.bytes
  have hr := B.returns
  have hts := atoms_spec (ws := w_c_N_depth_2) B.pre
  have hown : s.vm.findClass RX5 = some m.cls := findClass_of_methodNamed B.named
  have hlocks := B.notSynchronized
  subst hsz
  have hD := hD0.self (sz := s.heap.size)
  generalize hAe : va_A [(anod, .inr (7, [.ref nm, .ref nl, .ref n1, .ref n2, .ref nf, .ref ns, .ref nh, .ref nk, .ref np, .int 16, .int 0, .int 16, .int 0, .int 0])), (ns, .inl (kL, 1024, .inr (.inl zSec)))] s.heap.size = A at hD hE ⊢
  have hA : ∀ q : Nat, s.heap.size ≤ q → A q := fun q h => by rw [← hAe]; exact Or.inr h
  have hS : va_S A s.heap s.heap [] := va_S.rf
  have hP : va_P (dC, dI) vwCl [(anod, .inr (7, [.ref nm, .ref nl, .ref n1, .ref n2, .ref nf, .ref ns, .ref nh, .ref nk, .ref np, .int 16, .int 0, .int 16, .int 0, .int 0])), (ns, .inl (kL, 1024, .inr (.inl zSec)))] s.heap := hP
  have hl := lv_entry ([.ref anod, .int 2]) (n := 2) (Nat.le_of_ble_eq_true rfl)
  rw [lg_entry_eq]
  generalize (lg_sl ([.ref anod, .int 2]) ++ List.replicate (2 - (lg_sl ([.ref anod, .int 2])).length) Slot.unset).toArray = ls at hl ⊢
  have hl : lv_has ls 2 [(0, .ref anod), (1, .int 2)] := hl
  have in_RX5 : ∀ w ∈ u_ws RX5 TX5 14, w ∈ w_c_N_depth_2 := by decide +kernel
  refine lv_iload_n hx hb dX5_depthOf_0 rfl (lv_at hl 1 rfl) ?_
  refine lv_if_lt (tgt := 30) hx hb dX5_depthOf_1 (by decide) (fun c_1 => ?_) (fun c_1 => ?_)
  · exact absurd c_1 (by decide)
  refine lv_iload_n hx hb dX5_depthOf_4 rfl (lv_at hl 1 rfl) ?_
  refine lv_aload_n hx hb dX5_depthOf_5 rfl (lv_at hl 0 rfl) ?_
  refine va_get (D := (dC, dI)) (ci := 7) (v := .ref ns) (C := RX5) (T := TX5) (N := 14) hx hb hts in_RX5 hown hK hP 0 rfl rfl 5 (by decide) (hts (.fieldLink RX5 28 "Hornbook$Nodes" "second" "[J") (by decide +kernel)) (fun _ h9 => h9) rfl dX5_depthOf_6 ?_
  refine va_alen (D := (dC, dI)) (v := 1024) hx hb hK hP 1 0 rfl rfl rfl dX5_depthOf_9 ?_
  refine lv_icmp_ge (tgt := 30) hx hb dX5_depthOf_10 (by decide) (fun c_2 => ?_) (fun c_2 => ?_)
  · exact absurd c_2 (by decide)
  refine lv_aload_n hx hb dX5_depthOf_13 rfl (lv_at hl 0 rfl) ?_
  refine va_get (D := (dC, dI)) (ci := 7) (v := .ref ns) (C := RX5) (T := TX5) (N := 14) hx hb hts in_RX5 hown hK hP 0 rfl rfl 5 (by decide) (hts (.fieldLink RX5 28 "Hornbook$Nodes" "second" "[J") (by decide +kernel)) (fun _ h9 => h9) rfl dX5_depthOf_14 ?_
  refine lv_iload_n hx hb dX5_depthOf_17 rfl (lv_at hl 1 rfl) ?_
  refine va_lald (D := (dC, dI)) hx hb hK hP 1 0 rfl rfl (by unfold vp_in; decide) dX5_depthOf_18 ?_
  refine z_top (v' := .long (-2305843009213693952)) (congrArg Value.long (by first | rfl | decide)) ?_
  refine lv_bipush (v := 9) hx hb dX5_depthOf_19 (by decide) ?_
  refine lv_lushr (v := 31525197391593472) hx hb dX5_depthOf_21 (by first | rfl | decide | decide +kernel) ?_
  refine lv_l2i (v := 0) hx hb dX5_depthOf_22 (by first | rfl | decide | decide +kernel) ?_
  refine lv_sipush (v := 511) hx hb dX5_depthOf_23 (by decide) ?_
  refine lv_iand hx hb dX5_depthOf_26 ?_
  refine z_top (v' := .int 0) (congrArg Value.int (by decide)) ?_
  refine lv_goto (tgt := 31) hx hb dX5_depthOf_27 (by decide) ?_
  have hP9 := hP.sub (ws' := [(anod, .inr (7, [.ref nm, .ref nl, .ref n1, .ref n2, .ref nf, .ref ns, .ref nh, .ref nk, .ref np, .int 16, .int 0, .int 16, .int 0, .int 0])), (ns, .inl (kL, 1024, .inr (.inl zSec)))]) [0, 1] rfl
  have hD9 := hD.sub (ws' := [(anod, .inr (7, [.ref nm, .ref nl, .ref n1, .ref n2, .ref nf, .ref ns, .ref nh, .ref nk, .ref np, .int 16, .int 0, .int 16, .int 0, .int 0])), (ns, .inl (kL, 1024, .inr (.inl zSec)))]) [0, 1] (by decide) rfl
  have hK9 := hK.sub (tys' := [(kL, .long)]) [0] rfl
  refine W.widen (k := 0) (n := 0) (Nat.le_of_ble_eq_true rfl) (Nat.le_of_ble_eq_true rfl) ?_
  exact W.iret (v := 0) hx hb hr (fun t ht hW => ⟨⟨0, (), rfl, rfl, ⟨by rw [ht]; exact hP9, va_K.moved hW.alike hK9, hD9⟩⟩, hS.F ht⟩) hS.2.2 dX5_depthOf_31

def wb_c_N_isJoin_2 : List Cond := [.fieldLink RX5 28 "Hornbook$Nodes" "second" "[J", .fieldLink RX5 24 "Hornbook$Nodes" "first" "[J"] ++ u_ws RX5 TX5 14
def w_c_N_isJoin_2 : List Cond := .code yX5_isJoin cX5_isJoin 2 (some .boolean) :: wb_c_N_isJoin_2
set_option maxHeartbeats 4000000 in
set_option maxRecDepth 100000 in
theorem c_N_isJoin_2 (l : Launch) (eD eI : Nat) (ad : Nat → Nat) (dC : Nat → ClassId) (dI : Nat → Nat → Nat) (sz : Nat) (anod : Nat) (nm : Nat) (nl : Nat) (n1 : Nat) (n2 : Nat) (nf : Nat) (ns : Nat) (nh : Nat) (nk : Nat) (np : Nat) (kL : ClassId) : Met l yX5_isJoin w_c_N_isJoin_2 ({ frames := 0, cells := 0, slots := 0, locals := 0 }) (va_Pc [.ref anod, .int 2] (zPre eD eI ad (dC, dI) [(anod, .inr (7, [.ref nm, .ref nl, .ref n1, .ref n2, .ref nf, .ref ns, .ref nh, .ref nk, .ref np, .int 16, .int 0, .int 16, .int 0, .int 0])), (ns, .inl (kL, 1024, .inr (.inl zSec))), (nf, .inl (kL, 1024, .inr (.inl zFir)))] [(kL, .long)] sz)) (va_Qi (fun (r : Int32) (_ : Unit) => r = 0) (fun (_ : Unit) => zEnd (dC, dI) (va_A [(anod, .inr (7, [.ref nm, .ref nl, .ref n1, .ref n2, .ref nf, .ref ns, .ref nh, .ref nk, .ref np, .int 16, .int 0, .int 16, .int 0, .int 0])), (ns, .inl (kL, 1024, .inr (.inl zSec))), (nf, .inl (kL, 1024, .inr (.inl zFir)))] sz) [(anod, .inr (7, [.ref nm, .ref nl, .ref n1, .ref n2, .ref nf, .ref ns, .ref nh, .ref nk, .ref np, .int 16, .int 0, .int 16, .int 0, .int 0])), (ns, .inl (kL, 1024, .inr (.inl zSec))), (nf, .inl (kL, 1024, .inr (.inl zFir)))] [(kL, .long)]) (va_A [(anod, .inr (7, [.ref nm, .ref nl, .ref n1, .ref n2, .ref nf, .ref ns, .ref nh, .ref nk, .ref np, .int 16, .int 0, .int 16, .int 0, .int 0])), (ns, .inl (kL, 1024, .inr (.inl zSec))), (nf, .inl (kL, 1024, .inr (.inl zFir)))] sz)) 0 0 (va_A [(anod, .inr (7, [.ref nm, .ref nl, .ref n1, .ref n2, .ref nf, .ref ns, .ref nh, .ref nk, .ref np, .int 16, .int 0, .int 16, .int 0, .int 0])), (ns, .inl (kL, 1024, .inr (.inl zSec))), (nf, .inl (kL, 1024, .inr (.inl zFir)))] sz) := by
  refine Met.ofW (cc := cX5_isJoin) (maxL := 2) (ret := (some .boolean)) (by decide) rfl ?_
  intro p e s m args below meth c s₁ B hml hv
  obtain ⟨rfl, hsz, hP, hK, hD0, hE⟩ := hv
  have hx := B.exec
  have hb := B.bytes
  have hr := B.returns
  have hts := atoms_spec (ws := w_c_N_isJoin_2) B.pre
  have hown : s.vm.findClass RX5 = some m.cls := findClass_of_methodNamed B.named
  have hlocks := B.notSynchronized
  subst hsz
  have hD := hD0.self (sz := s.heap.size)
  generalize hAe : va_A [(anod, .inr (7, [.ref nm, .ref nl, .ref n1, .ref n2, .ref nf, .ref ns, .ref nh, .ref nk, .ref np, .int 16, .int 0, .int 16, .int 0, .int 0])), (ns, .inl (kL, 1024, .inr (.inl zSec))), (nf, .inl (kL, 1024, .inr (.inl zFir)))] s.heap.size = A at hD hE ⊢
  have hA : ∀ q : Nat, s.heap.size ≤ q → A q := fun q h => by rw [← hAe]; exact Or.inr h
  have hS : va_S A s.heap s.heap [] := va_S.rf
  have hP : va_P (dC, dI) vwCl [(anod, .inr (7, [.ref nm, .ref nl, .ref n1, .ref n2, .ref nf, .ref ns, .ref nh, .ref nk, .ref np, .int 16, .int 0, .int 16, .int 0, .int 0])), (ns, .inl (kL, 1024, .inr (.inl zSec))), (nf, .inl (kL, 1024, .inr (.inl zFir)))] s.heap := hP
  have hl := lv_entry ([.ref anod, .int 2]) (n := 2) (Nat.le_of_ble_eq_true rfl)
  rw [lg_entry_eq]
  generalize (lg_sl ([.ref anod, .int 2]) ++ List.replicate (2 - (lg_sl ([.ref anod, .int 2])).length) Slot.unset).toArray = ls at hl ⊢
  have hl : lv_has ls 2 [(0, .ref anod), (1, .int 2)] := hl
  have in_RX5 : ∀ w ∈ u_ws RX5 TX5 14, w ∈ w_c_N_isJoin_2 := by decide +kernel
  refine lv_iload_n hx hb dX5_isJoin_0 rfl (lv_at hl 1 rfl) ?_
  refine lv_if_lt (tgt := 28) hx hb dX5_isJoin_1 (by decide) (fun c_1 => ?_) (fun c_1 => ?_)
  · exact absurd c_1 (by decide)
  refine lv_iload_n hx hb dX5_isJoin_4 rfl (lv_at hl 1 rfl) ?_
  refine lv_aload_n hx hb dX5_isJoin_5 rfl (lv_at hl 0 rfl) ?_
  refine va_get (D := (dC, dI)) (ci := 7) (v := .ref ns) (C := RX5) (T := TX5) (N := 14) hx hb hts in_RX5 hown hK hP 0 rfl rfl 5 (by decide) (hts (.fieldLink RX5 28 "Hornbook$Nodes" "second" "[J") (by decide +kernel)) (fun _ h9 => h9) rfl dX5_isJoin_6 ?_
  refine va_alen (D := (dC, dI)) (v := 1024) hx hb hK hP 1 0 rfl rfl rfl dX5_isJoin_9 ?_
  refine lv_icmp_ge (tgt := 28) hx hb dX5_isJoin_10 (by decide) (fun c_2 => ?_) (fun c_2 => ?_)
  · exact absurd c_2 (by decide)
  refine lv_aload_n hx hb dX5_isJoin_13 rfl (lv_at hl 0 rfl) ?_
  refine va_get (D := (dC, dI)) (ci := 7) (v := .ref nf) (C := RX5) (T := TX5) (N := 14) hx hb hts in_RX5 hown hK hP 0 rfl rfl 4 (by decide) (hts (.fieldLink RX5 24 "Hornbook$Nodes" "first" "[J") (by decide +kernel)) (fun _ h9 => h9) rfl dX5_isJoin_14 ?_
  refine lv_iload_n hx hb dX5_isJoin_17 rfl (lv_at hl 1 rfl) ?_
  refine va_lald (D := (dC, dI)) hx hb hK hP 2 0 rfl rfl (by unfold vp_in; decide) dX5_isJoin_18 ?_
  refine z_top (v' := .long 17592186044416) (congrArg Value.long (by first | rfl | decide)) ?_
  refine lv_lconst (v := 0) hx hb dX5_isJoin_19 (by decide) ?_
  refine W.lcmp hx hb dX5_isJoin_20 ?_
  refine z_top (v' := .int 1) (congrArg Value.int (by first | decide | decide +kernel)) ?_
  refine lv_if_ge (tgt := 28) hx hb dX5_isJoin_21 (by decide) (fun c_3 => ?_) (fun c_3 => ?_)
  rotate_left
  · exact absurd (by decide) c_3
  refine lv_iconst (v := 0) hx hb dX5_isJoin_28 (by decide) ?_
  have hP9 := hP.sub (ws' := [(anod, .inr (7, [.ref nm, .ref nl, .ref n1, .ref n2, .ref nf, .ref ns, .ref nh, .ref nk, .ref np, .int 16, .int 0, .int 16, .int 0, .int 0])), (ns, .inl (kL, 1024, .inr (.inl zSec))), (nf, .inl (kL, 1024, .inr (.inl zFir)))]) [0, 1, 2] rfl
  have hD9 := hD.sub (ws' := [(anod, .inr (7, [.ref nm, .ref nl, .ref n1, .ref n2, .ref nf, .ref ns, .ref nh, .ref nk, .ref np, .int 16, .int 0, .int 16, .int 0, .int 0])), (ns, .inl (kL, 1024, .inr (.inl zSec))), (nf, .inl (kL, 1024, .inr (.inl zFir)))]) [0, 1, 2] (by decide) rfl
  have hK9 := hK.sub (tys' := [(kL, .long)]) [0] rfl
  refine W.widen (k := 0) (n := 0) (Nat.le_of_ble_eq_true rfl) (Nat.le_of_ble_eq_true rfl) ?_
  exact W.zret (v := 0) hx hb hr (by first | rfl | decide) (fun t ht hW => ⟨⟨0, (), rfl, rfl, ⟨by rw [ht]; exact hP9, va_K.moved hW.alike hK9, hD9⟩⟩, hS.F ht⟩) hS.2.2 dX5_isJoin_29

def wb_c_N_isShut_2 : List Cond := [.fieldLink RX5 28 "Hornbook$Nodes" "second" "[J"] ++ u_ws RX5 TX5 14
def w_c_N_isShut_2 : List Cond := .code yX5_isShut cX5_isShut 2 (some .boolean) :: wb_c_N_isShut_2
set_option maxHeartbeats 4000000 in
set_option maxRecDepth 100000 in
theorem c_N_isShut_2 (l : Launch) (eD eI : Nat) (ad : Nat → Nat) (dC : Nat → ClassId) (dI : Nat → Nat → Nat) (sz : Nat) (anod : Nat) (nm : Nat) (nl : Nat) (n1 : Nat) (n2 : Nat) (nf : Nat) (ns : Nat) (nh : Nat) (nk : Nat) (np : Nat) (kL : ClassId) : Met l yX5_isShut w_c_N_isShut_2 ({ frames := 0, cells := 0, slots := 0, locals := 0 }) (va_Pc [.ref anod, .int 2] (zPre eD eI ad (dC, dI) [(anod, .inr (7, [.ref nm, .ref nl, .ref n1, .ref n2, .ref nf, .ref ns, .ref nh, .ref nk, .ref np, .int 16, .int 0, .int 16, .int 0, .int 0])), (ns, .inl (kL, 1024, .inr (.inl zSec)))] [(kL, .long)] sz)) (va_Qi (fun (r : Int32) (_ : Unit) => r = 0) (fun (_ : Unit) => zEnd (dC, dI) (va_A [(anod, .inr (7, [.ref nm, .ref nl, .ref n1, .ref n2, .ref nf, .ref ns, .ref nh, .ref nk, .ref np, .int 16, .int 0, .int 16, .int 0, .int 0])), (ns, .inl (kL, 1024, .inr (.inl zSec)))] sz) [(anod, .inr (7, [.ref nm, .ref nl, .ref n1, .ref n2, .ref nf, .ref ns, .ref nh, .ref nk, .ref np, .int 16, .int 0, .int 16, .int 0, .int 0])), (ns, .inl (kL, 1024, .inr (.inl zSec)))] [(kL, .long)]) (va_A [(anod, .inr (7, [.ref nm, .ref nl, .ref n1, .ref n2, .ref nf, .ref ns, .ref nh, .ref nk, .ref np, .int 16, .int 0, .int 16, .int 0, .int 0])), (ns, .inl (kL, 1024, .inr (.inl zSec)))] sz)) 0 0 (va_A [(anod, .inr (7, [.ref nm, .ref nl, .ref n1, .ref n2, .ref nf, .ref ns, .ref nh, .ref nk, .ref np, .int 16, .int 0, .int 16, .int 0, .int 0])), (ns, .inl (kL, 1024, .inr (.inl zSec)))] sz) := by
  refine Met.ofW (cc := cX5_isShut) (maxL := 2) (ret := (some .boolean)) (by decide) rfl ?_
  intro p e s m args below meth c s₁ B hml hv
  obtain ⟨rfl, hsz, hP, hK, hD0, hE⟩ := hv
  have hx := B.exec
  have hb := B.bytes
  have hr := B.returns
  have hts := atoms_spec (ws := w_c_N_isShut_2) B.pre
  have hown : s.vm.findClass RX5 = some m.cls := findClass_of_methodNamed B.named
  have hlocks := B.notSynchronized
  subst hsz
  have hD := hD0.self (sz := s.heap.size)
  generalize hAe : va_A [(anod, .inr (7, [.ref nm, .ref nl, .ref n1, .ref n2, .ref nf, .ref ns, .ref nh, .ref nk, .ref np, .int 16, .int 0, .int 16, .int 0, .int 0])), (ns, .inl (kL, 1024, .inr (.inl zSec)))] s.heap.size = A at hD hE ⊢
  have hA : ∀ q : Nat, s.heap.size ≤ q → A q := fun q h => by rw [← hAe]; exact Or.inr h
  have hS : va_S A s.heap s.heap [] := va_S.rf
  have hP : va_P (dC, dI) vwCl [(anod, .inr (7, [.ref nm, .ref nl, .ref n1, .ref n2, .ref nf, .ref ns, .ref nh, .ref nk, .ref np, .int 16, .int 0, .int 16, .int 0, .int 0])), (ns, .inl (kL, 1024, .inr (.inl zSec)))] s.heap := hP
  have hl := lv_entry ([.ref anod, .int 2]) (n := 2) (Nat.le_of_ble_eq_true rfl)
  rw [lg_entry_eq]
  generalize (lg_sl ([.ref anod, .int 2]) ++ List.replicate (2 - (lg_sl ([.ref anod, .int 2])).length) Slot.unset).toArray = ls at hl ⊢
  have hl : lv_has ls 2 [(0, .ref anod), (1, .int 2)] := hl
  have in_RX5 : ∀ w ∈ u_ws RX5 TX5 14, w ∈ w_c_N_isShut_2 := by decide +kernel
  refine lv_iload_n hx hb dX5_isShut_0 rfl (lv_at hl 1 rfl) ?_
  refine lv_if_lt (tgt := 32) hx hb dX5_isShut_1 (by decide) (fun c_1 => ?_) (fun c_1 => ?_)
  · exact absurd c_1 (by decide)
  refine lv_iload_n hx hb dX5_isShut_4 rfl (lv_at hl 1 rfl) ?_
  refine lv_aload_n hx hb dX5_isShut_5 rfl (lv_at hl 0 rfl) ?_
  refine va_get (D := (dC, dI)) (ci := 7) (v := .ref ns) (C := RX5) (T := TX5) (N := 14) hx hb hts in_RX5 hown hK hP 0 rfl rfl 5 (by decide) (hts (.fieldLink RX5 28 "Hornbook$Nodes" "second" "[J") (by decide +kernel)) (fun _ h9 => h9) rfl dX5_isShut_6 ?_
  refine va_alen (D := (dC, dI)) (v := 1024) hx hb hK hP 1 0 rfl rfl rfl dX5_isShut_9 ?_
  refine lv_icmp_ge (tgt := 32) hx hb dX5_isShut_10 (by decide) (fun c_2 => ?_) (fun c_2 => ?_)
  · exact absurd c_2 (by decide)
  refine lv_aload_n hx hb dX5_isShut_13 rfl (lv_at hl 0 rfl) ?_
  refine va_get (D := (dC, dI)) (ci := 7) (v := .ref ns) (C := RX5) (T := TX5) (N := 14) hx hb hts in_RX5 hown hK hP 0 rfl rfl 5 (by decide) (hts (.fieldLink RX5 28 "Hornbook$Nodes" "second" "[J") (by decide +kernel)) (fun _ h9 => h9) rfl dX5_isShut_14 ?_
  refine lv_iload_n hx hb dX5_isShut_17 rfl (lv_at hl 1 rfl) ?_
  refine va_lald (D := (dC, dI)) hx hb hK hP 1 0 rfl rfl (by unfold vp_in; decide) dX5_isShut_18 ?_
  refine z_top (v' := .long (-2305843009213693952)) (congrArg Value.long (by first | rfl | decide)) ?_
  refine lv_bipush (v := 60) hx hb dX5_isShut_19 (by decide) ?_
  refine lv_lushr (v := 14) hx hb dX5_isShut_21 (by first | rfl | decide | decide +kernel) ?_
  refine lv_l2i (v := 14) hx hb dX5_isShut_22 (by first | rfl | decide | decide +kernel) ?_
  refine lv_bipush (v := 12) hx hb dX5_isShut_23 (by decide) ?_
  refine lv_icmp_ne (tgt := 32) hx hb dX5_isShut_25 (by decide) (fun c_3 => ?_) (fun c_3 => ?_)
  rotate_left
  · exact absurd c_3 (by decide)
  refine lv_iconst (v := 0) hx hb dX5_isShut_32 (by decide) ?_
  have hP9 := hP.sub (ws' := [(anod, .inr (7, [.ref nm, .ref nl, .ref n1, .ref n2, .ref nf, .ref ns, .ref nh, .ref nk, .ref np, .int 16, .int 0, .int 16, .int 0, .int 0])), (ns, .inl (kL, 1024, .inr (.inl zSec)))]) [0, 1] rfl
  have hD9 := hD.sub (ws' := [(anod, .inr (7, [.ref nm, .ref nl, .ref n1, .ref n2, .ref nf, .ref ns, .ref nh, .ref nk, .ref np, .int 16, .int 0, .int 16, .int 0, .int 0])), (ns, .inl (kL, 1024, .inr (.inl zSec)))]) [0, 1] (by decide) rfl
  have hK9 := hK.sub (tys' := [(kL, .long)]) [0] rfl
  refine W.widen (k := 0) (n := 0) (Nat.le_of_ble_eq_true rfl) (Nat.le_of_ble_eq_true rfl) ?_
  exact W.zret (v := 0) hx hb hr (by first | rfl | decide) (fun t ht hW => ⟨⟨0, (), rfl, rfl, ⟨by rw [ht]; exact hP9, va_K.moved hW.alike hK9, hD9⟩⟩, hS.F ht⟩) hS.2.2 dX5_isShut_33

def wb_c_N_isFull : List Cond := [.fieldLink RX5 47 "Hornbook$Nodes" "count" "I", .fieldLink RX5 28 "Hornbook$Nodes" "second" "[J"] ++ u_ws RX5 TX5 14
def w_c_N_isFull : List Cond := .code yX5_isFull cX5_isFull 1 (some .boolean) :: wb_c_N_isFull
set_option maxHeartbeats 4000000 in
set_option maxRecDepth 100000 in
theorem c_N_isFull (l : Launch) (eD eI : Nat) (ad : Nat → Nat) (dC : Nat → ClassId) (dI : Nat → Nat → Nat) (sz : Nat) (anod : Nat) (nm : Nat) (nl : Nat) (n1 : Nat) (n2 : Nat) (nf : Nat) (ns : Nat) (nh : Nat) (nk : Nat) (np : Nat) (kL : ClassId) : Met l yX5_isFull w_c_N_isFull ({ frames := 0, cells := 0, slots := 0, locals := 0 }) (va_Pc [.ref anod] (zPre eD eI ad (dC, dI) [(anod, .inr (7, [.ref nm, .ref nl, .ref n1, .ref n2, .ref nf, .ref ns, .ref nh, .ref nk, .ref np, .int 16, .int 0, .int 16, .int 0, .int 0])), (ns, .inl (kL, 1024, .inr (.inl zSec)))] [(kL, .long)] sz)) (va_Qi (fun (r : Int32) (_ : Unit) => r = 0) (fun (_ : Unit) => zEnd (dC, dI) (va_A [(anod, .inr (7, [.ref nm, .ref nl, .ref n1, .ref n2, .ref nf, .ref ns, .ref nh, .ref nk, .ref np, .int 16, .int 0, .int 16, .int 0, .int 0])), (ns, .inl (kL, 1024, .inr (.inl zSec)))] sz) [(anod, .inr (7, [.ref nm, .ref nl, .ref n1, .ref n2, .ref nf, .ref ns, .ref nh, .ref nk, .ref np, .int 16, .int 0, .int 16, .int 0, .int 0])), (ns, .inl (kL, 1024, .inr (.inl zSec)))] [(kL, .long)]) (va_A [(anod, .inr (7, [.ref nm, .ref nl, .ref n1, .ref n2, .ref nf, .ref ns, .ref nh, .ref nk, .ref np, .int 16, .int 0, .int 16, .int 0, .int 0])), (ns, .inl (kL, 1024, .inr (.inl zSec)))] sz)) 0 0 (va_A [(anod, .inr (7, [.ref nm, .ref nl, .ref n1, .ref n2, .ref nf, .ref ns, .ref nh, .ref nk, .ref np, .int 16, .int 0, .int 16, .int 0, .int 0])), (ns, .inl (kL, 1024, .inr (.inl zSec)))] sz) := by
  refine Met.ofW (cc := cX5_isFull) (maxL := 1) (ret := (some .boolean)) (by decide) rfl ?_
  intro p e s m args below meth c s₁ B hml hv
  obtain ⟨rfl, hsz, hP, hK, hD0, hE⟩ := hv
  have hx := B.exec
  have hb := B.bytes
  have hr := B.returns
  have hts := atoms_spec (ws := w_c_N_isFull) B.pre
  have hown : s.vm.findClass RX5 = some m.cls := findClass_of_methodNamed B.named
  have hlocks := B.notSynchronized
  subst hsz
  have hD := hD0.self (sz := s.heap.size)
  generalize hAe : va_A [(anod, .inr (7, [.ref nm, .ref nl, .ref n1, .ref n2, .ref nf, .ref ns, .ref nh, .ref nk, .ref np, .int 16, .int 0, .int 16, .int 0, .int 0])), (ns, .inl (kL, 1024, .inr (.inl zSec)))] s.heap.size = A at hD hE ⊢
  have hA : ∀ q : Nat, s.heap.size ≤ q → A q := fun q h => by rw [← hAe]; exact Or.inr h
  have hS : va_S A s.heap s.heap [] := va_S.rf
  have hP : va_P (dC, dI) vwCl [(anod, .inr (7, [.ref nm, .ref nl, .ref n1, .ref n2, .ref nf, .ref ns, .ref nh, .ref nk, .ref np, .int 16, .int 0, .int 16, .int 0, .int 0])), (ns, .inl (kL, 1024, .inr (.inl zSec)))] s.heap := hP
  have hl := lv_entry ([.ref anod]) (n := 1) (Nat.le_of_ble_eq_true rfl)
  rw [lg_entry_eq]
  generalize (lg_sl ([.ref anod]) ++ List.replicate (1 - (lg_sl ([.ref anod])).length) Slot.unset).toArray = ls at hl ⊢
  have hl : lv_has ls 1 [(0, .ref anod)] := hl
  have in_RX5 : ∀ w ∈ u_ws RX5 TX5 14, w ∈ w_c_N_isFull := by decide +kernel
  refine lv_aload_n hx hb dX5_isFull_0 rfl (lv_at hl 0 rfl) ?_
  refine va_get (D := (dC, dI)) (ci := 7) (v := .int 16) (C := RX5) (T := TX5) (N := 14) hx hb hts in_RX5 hown hK hP 0 rfl rfl 11 (by decide) (hts (.fieldLink RX5 47 "Hornbook$Nodes" "count" "I") (by decide +kernel)) (fun _ h9 => h9) rfl dX5_isFull_1 ?_
  refine lv_sipush (v := 512) hx hb dX5_isFull_4 (by decide) ?_
  refine lv_iadd hx hb dX5_isFull_7 ?_
  refine z_top (v' := .int 528) (congrArg Value.int (by decide)) ?_
  refine lv_aload_n hx hb dX5_isFull_8 rfl (lv_at hl 0 rfl) ?_
  refine va_get (D := (dC, dI)) (ci := 7) (v := .ref ns) (C := RX5) (T := TX5) (N := 14) hx hb hts in_RX5 hown hK hP 0 rfl rfl 5 (by decide) (hts (.fieldLink RX5 28 "Hornbook$Nodes" "second" "[J") (by decide +kernel)) (fun _ h9 => h9) rfl dX5_isFull_9 ?_
  refine va_alen (D := (dC, dI)) (v := 1024) hx hb hK hP 1 0 rfl rfl rfl dX5_isFull_12 ?_
  refine lv_icmp_lt (tgt := 20) hx hb dX5_isFull_13 (by decide) (fun c_1 => ?_) (fun c_1 => ?_)
  rotate_left
  · exact absurd (by decide) c_1
  refine lv_iconst (v := 0) hx hb dX5_isFull_20 (by decide) ?_
  have hP9 := hP.sub (ws' := [(anod, .inr (7, [.ref nm, .ref nl, .ref n1, .ref n2, .ref nf, .ref ns, .ref nh, .ref nk, .ref np, .int 16, .int 0, .int 16, .int 0, .int 0])), (ns, .inl (kL, 1024, .inr (.inl zSec)))]) [0, 1] rfl
  have hD9 := hD.sub (ws' := [(anod, .inr (7, [.ref nm, .ref nl, .ref n1, .ref n2, .ref nf, .ref ns, .ref nh, .ref nk, .ref np, .int 16, .int 0, .int 16, .int 0, .int 0])), (ns, .inl (kL, 1024, .inr (.inl zSec)))]) [0, 1] (by decide) rfl
  have hK9 := hK.sub (tys' := [(kL, .long)]) [0] rfl
  refine W.widen (k := 0) (n := 0) (Nat.le_of_ble_eq_true rfl) (Nat.le_of_ble_eq_true rfl) ?_
  exact W.zret (v := 0) hx hb hr (by first | rfl | decide) (fun t ht hW => ⟨⟨0, (), rfl, rfl, ⟨by rw [ht]; exact hP9, va_K.moved hW.alike hK9, hD9⟩⟩, hS.F ht⟩) hS.2.2 dX5_isFull_21

def wb_c_P_isCrowded : List Cond := [.fieldLink RX6 15 "Hornbook$Pairs" "count" "I", .fieldLink RX6 9 "Hornbook$Pairs" "slots" "[J"] ++ u_ws RX6 TX6 3
def w_c_P_isCrowded : List Cond := .code yX6_isCrowded cX6_isCrowded 1 (some .boolean) :: wb_c_P_isCrowded
set_option maxHeartbeats 4000000 in
set_option maxRecDepth 100000 in
theorem c_P_isCrowded (l : Launch) (eD eI : Nat) (ad : Nat → Nat) (dC : Nat → ClassId) (dI : Nat → Nat → Nat) (sz : Nat) (apair : Nat) (apsl : Nat) (kL : ClassId) : Met l yX6_isCrowded w_c_P_isCrowded ({ frames := 0, cells := 0, slots := 0, locals := 0 }) (va_Pc [.ref apair] (zPre eD eI ad (dC, dI) [(apair, .inr (8, [.ref apsl, .int 0, .int 0])), (apsl, .inl (kL, 512, .inr (.inl (fun _ => 0))))] [(kL, .long)] sz)) (va_Qi (fun (r : Int32) (_ : Unit) => r = 0) (fun (_ : Unit) => zEnd (dC, dI) (va_A [(apair, .inr (8, [.ref apsl, .int 0, .int 0])), (apsl, .inl (kL, 512, .inr (.inl (fun _ => 0))))] sz) [(apair, .inr (8, [.ref apsl, .int 0, .int 0])), (apsl, .inl (kL, 512, .inr (.inl (fun _ => 0))))] [(kL, .long)]) (va_A [(apair, .inr (8, [.ref apsl, .int 0, .int 0])), (apsl, .inl (kL, 512, .inr (.inl (fun _ => 0))))] sz)) 0 0 (va_A [(apair, .inr (8, [.ref apsl, .int 0, .int 0])), (apsl, .inl (kL, 512, .inr (.inl (fun _ => 0))))] sz) := by
  refine Met.ofW (cc := cX6_isCrowded) (maxL := 1) (ret := (some .boolean)) (by decide) rfl ?_
  intro p e s m args below meth c s₁ B hml hv
  obtain ⟨rfl, hsz, hP, hK, hD0, hE⟩ := hv
  have hx := B.exec
  have hb := B.bytes
  have hr := B.returns
  have hts := atoms_spec (ws := w_c_P_isCrowded) B.pre
  have hown : s.vm.findClass RX6 = some m.cls := findClass_of_methodNamed B.named
  have hlocks := B.notSynchronized
  subst hsz
  have hD := hD0.self (sz := s.heap.size)
  generalize hAe : va_A [(apair, .inr (8, [.ref apsl, .int 0, .int 0])), (apsl, .inl (kL, 512, .inr (.inl (fun _ => 0))))] s.heap.size = A at hD hE ⊢
  have hA : ∀ q : Nat, s.heap.size ≤ q → A q := fun q h => by rw [← hAe]; exact Or.inr h
  have hS : va_S A s.heap s.heap [] := va_S.rf
  have hP : va_P (dC, dI) vwCl [(apair, .inr (8, [.ref apsl, .int 0, .int 0])), (apsl, .inl (kL, 512, .inr (.inl (fun _ => 0))))] s.heap := hP
  have hl := lv_entry ([.ref apair]) (n := 1) (Nat.le_of_ble_eq_true rfl)
  rw [lg_entry_eq]
  generalize (lg_sl ([.ref apair]) ++ List.replicate (1 - (lg_sl ([.ref apair])).length) Slot.unset).toArray = ls at hl ⊢
  have hl : lv_has ls 1 [(0, .ref apair)] := hl
  have in_RX6 : ∀ w ∈ u_ws RX6 TX6 3, w ∈ w_c_P_isCrowded := by decide +kernel
  refine lv_aload_n hx hb dX6_isCrowded_0 rfl (lv_at hl 0 rfl) ?_
  refine va_get (D := (dC, dI)) (ci := 8) (v := .int 0) (C := RX6) (T := TX6) (N := 3) hx hb hts in_RX6 hown hK hP 0 rfl rfl 1 (by decide) (hts (.fieldLink RX6 15 "Hornbook$Pairs" "count" "I") (by decide +kernel)) (fun _ h9 => h9) rfl dX6_isCrowded_1 ?_
  refine lv_iconst (v := 2) hx hb dX6_isCrowded_4 (by decide) ?_
  refine lv_imul hx hb dX6_isCrowded_5 ?_
  refine z_top (v' := .int 0) (congrArg Value.int (by decide)) ?_
  refine lv_aload_n hx hb dX6_isCrowded_6 rfl (lv_at hl 0 rfl) ?_
  refine va_get (D := (dC, dI)) (ci := 8) (v := .ref apsl) (C := RX6) (T := TX6) (N := 3) hx hb hts in_RX6 hown hK hP 0 rfl rfl 0 (by decide) (hts (.fieldLink RX6 9 "Hornbook$Pairs" "slots" "[J") (by decide +kernel)) (fun _ h9 => h9) rfl dX6_isCrowded_7 ?_
  refine va_alen (D := (dC, dI)) (v := 512) hx hb hK hP 1 0 rfl rfl rfl dX6_isCrowded_10 ?_
  refine lv_icmp_lt (tgt := 28) hx hb dX6_isCrowded_11 (by decide) (fun c_1 => ?_) (fun c_1 => ?_)
  rotate_left
  · exact absurd (by decide) c_1
  refine lv_iconst (v := 0) hx hb dX6_isCrowded_28 (by decide) ?_
  have hP9 := hP.sub (ws' := [(apair, .inr (8, [.ref apsl, .int 0, .int 0])), (apsl, .inl (kL, 512, .inr (.inl (fun _ => 0))))]) [0, 1] rfl
  have hD9 := hD.sub (ws' := [(apair, .inr (8, [.ref apsl, .int 0, .int 0])), (apsl, .inl (kL, 512, .inr (.inl (fun _ => 0))))]) [0, 1] (by decide) rfl
  have hK9 := hK.sub (tys' := [(kL, .long)]) [0] rfl
  refine W.widen (k := 0) (n := 0) (Nat.le_of_ble_eq_true rfl) (Nat.le_of_ble_eq_true rfl) ?_
  exact W.zret (v := 0) hx hb hr (by first | rfl | decide) (fun t ht hW => ⟨⟨0, (), rfl, rfl, ⟨by rw [ht]; exact hP9, va_K.moved hW.alike hK9, hD9⟩⟩, hS.F ht⟩) hS.2.2 dX6_isCrowded_29

def wb_c_N_liftOf_n : List Cond := [.code yX5_formOf cX5_formOf 2 (some .int), .methodLink RX5 100 yX5_formOf, .instanceMethod yX5_formOf, .selects RX5 yX5_formOf yX5_formOf, .initialized RX5, .fieldLink RX5 9 "Hornbook$Nodes" "many" "[I"] ++ u_ws RX5 TX5 14
def w_c_N_liftOf_n : List Cond := .code yX5_liftOf cX5_liftOf 6 (some .int) :: wb_c_N_liftOf_n
set_option maxRecDepth 100000 in
theorem g_c_N_liftOf_n_0 : GoodIn w_c_N_liftOf_n (wsV RX5 100 RX5 yX5_formOf w_c_N_form_n) := goodIn_app (goodIn_of _ (by decide +kernel)) (goodIn_p (big := w_c_N_liftOf_n) (.code yX5_formOf cX5_formOf 2 (some .int) :: wb_c_N_form_n) [1] rfl (by decide +kernel))
set_option maxHeartbeats 4000000 in
set_option maxRecDepth 100000 in
theorem c_N_liftOf_n (l : Launch) (eD eI : Nat) (ad : Nat → Nat) (dC : Nat → ClassId) (dI : Nat → Nat → Nat) (sz : Nat) (anod : Nat) (nm : Nat) (nl : Nat) (n1 : Nat) (n2 : Nat) (nf : Nat) (ns : Nat) (nh : Nat) (nk : Nat) (np : Nat) (kI : ClassId) (g : Nat → Int32) : Met l yX5_liftOf w_c_N_liftOf_n ({ frames := 1, cells := 0, slots := 0, locals := 21 }) (va_Pc [.ref anod, .int (-1), .int (-1), .int 0] (zPre eD eI ad (dC, dI) [(anod, .inr (7, [.ref nm, .ref nl, .ref n1, .ref n2, .ref nf, .ref ns, .ref nh, .ref nk, .ref np, .int 16, .int 0, .int 16, .int 0, .int 0])), (nm, .inl (kI, 12, .inl g))] [(kI, .int)] sz)) (va_Qi (fun (r : Int32) (_ : Unit) => r = 0) (fun (_ : Unit) => zEnd (dC, dI) (va_A [(anod, .inr (7, [.ref nm, .ref nl, .ref n1, .ref n2, .ref nf, .ref ns, .ref nh, .ref nk, .ref np, .int 16, .int 0, .int 16, .int 0, .int 0])), (nm, .inl (kI, 12, .inl g))] sz) [(anod, .inr (7, [.ref nm, .ref nl, .ref n1, .ref n2, .ref nf, .ref ns, .ref nh, .ref nk, .ref np, .int 16, .int 0, .int 16, .int 0, .int 0])), (nm, .inl (kI, 12, .inl g))] [(kI, .int)]) (va_A [(anod, .inr (7, [.ref nm, .ref nl, .ref n1, .ref n2, .ref nf, .ref ns, .ref nh, .ref nk, .ref np, .int 16, .int 0, .int 16, .int 0, .int 0])), (nm, .inl (kI, 12, .inl g))] sz)) 0 0 (va_A [(anod, .inr (7, [.ref nm, .ref nl, .ref n1, .ref n2, .ref nf, .ref ns, .ref nh, .ref nk, .ref np, .int 16, .int 0, .int 16, .int 0, .int 0])), (nm, .inl (kI, 12, .inl g))] sz) := by
  refine Met.ofW (cc := cX5_liftOf) (maxL := 6) (ret := (some .int)) (by decide) rfl ?_
  intro p e s m args below meth c s₁ B hml hv
  obtain ⟨rfl, hsz, hP, hK, hD0, hE⟩ := hv
  have hx := B.exec
  have hb := B.bytes
  have hr := B.returns
  have hts := atoms_spec (ws := w_c_N_liftOf_n) B.pre
  have hown : s.vm.findClass RX5 = some m.cls := findClass_of_methodNamed B.named
  have hlocks := B.notSynchronized
  subst hsz
  have hD := hD0.self (sz := s.heap.size)
  generalize hAe : va_A [(anod, .inr (7, [.ref nm, .ref nl, .ref n1, .ref n2, .ref nf, .ref ns, .ref nh, .ref nk, .ref np, .int 16, .int 0, .int 16, .int 0, .int 0])), (nm, .inl (kI, 12, .inl g))] s.heap.size = A at hD hE ⊢
  have hA : ∀ q : Nat, s.heap.size ≤ q → A q := fun q h => by rw [← hAe]; exact Or.inr h
  have hS : va_S A s.heap s.heap [] := va_S.rf
  have hP : va_P (dC, dI) vwCl [(anod, .inr (7, [.ref nm, .ref nl, .ref n1, .ref n2, .ref nf, .ref ns, .ref nh, .ref nk, .ref np, .int 16, .int 0, .int 16, .int 0, .int 0])), (nm, .inl (kI, 12, .inl g))] s.heap := hP
  have hl := lv_entry ([.ref anod, .int (-1), .int (-1), .int 0]) (n := 6) (Nat.le_of_ble_eq_true rfl)
  rw [lg_entry_eq]
  generalize (lg_sl ([.ref anod, .int (-1), .int (-1), .int 0]) ++ List.replicate (6 - (lg_sl ([.ref anod, .int (-1), .int (-1), .int 0])).length) Slot.unset).toArray = ls at hl ⊢
  have hl : lv_has ls 6 [(0, .ref anod), (1, .int (-1)), (2, .int (-1)), (3, .int 0)] := hl
  have in_RX5 : ∀ w ∈ u_ws RX5 TX5 14, w ∈ w_c_N_liftOf_n := by decide +kernel
  refine lv_aload_n hx hb dX5_liftOf_0 rfl (lv_at hl 0 rfl) ?_
  refine lv_iload_n hx hb dX5_liftOf_1 rfl (lv_at hl 1 rfl) ?_
  refine z_i (wr := [(nm, .inl (kI, 12, .inl g))]) (va_runV (As := [.int (-1)]) (rest := []) ⟨hx, hb, hml, hown, hts⟩ (c_N_form_n l eD eI ad dC dI s.heap.size anod nm nl n1 n2 nf ns nh nk np) (cwV 1 hts g_c_N_liftOf_n_0 rfl rfl rfl (by decide +kernel) ⟨Nat.le_of_ble_eq_true rfl, Nat.le_of_ble_eq_true rfl⟩) (z_preV (wc := [(anod, .inr (7, [.ref nm, .ref nl, .ref n1, .ref n2, .ref nf, .ref ns, .ref nh, .ref nk, .ref np, .int 16, .int 0, .int 16, .int 0, .int 0]))]) hP hD hK hS hA hE [0] [] rfl (by decide) rfl (ci := 7) (q0 := 0) rfl rfl) rfl rfl hl.1 rfl (lv_room (Nat.le_of_ble_eq_true rfl)) dX5_liftOf_2 ⟨Nat.le_of_ble_eq_true rfl, Nat.le_of_ble_eq_true rfl⟩) hP hD hK hS hA [0] [1] rfl rfl (by decide) (by decide) (fun r_1 u H locs hw_2 hP hD hK hS => ?_)
  obtain ⟨⟩ := u
  have hP : va_P (dC, dI) vwCl [(nm, .inl (kI, 12, .inl g)), (anod, .inr (7, [.ref nm, .ref nl, .ref n1, .ref n2, .ref nf, .ref ns, .ref nh, .ref nk, .ref np, .int 16, .int 0, .int 16, .int 0, .int 0]))] H := hP
  have hD : va_D A [(nm, .inl (kI, 12, .inl g)), (anod, .inr (7, [.ref nm, .ref nl, .ref n1, .ref n2, .ref nf, .ref ns, .ref nh, .ref nk, .ref np, .int 16, .int 0, .int 16, .int 0, .int 0]))] := hD
  have hK : va_K (dC, dI) vwCl [(kI, .int)] s := by simpa using hK
  have hw_2 : r_1 = 14 := hw_2
  have hw_2 := hw_2.symm
  subst hw_2
  refine lv_istore (lv' := [(4, .int 14), (0, .ref anod), (1, .int (-1)), (2, .int (-1)), (3, .int 0)]) hx hb dX5_liftOf_5 hl (by decide) rfl (fun ls hl => ?_)
  refine lv_iload hx hb dX5_liftOf_7 (lv_at hl 0 rfl) ?_
  refine lv_aload_n hx hb dX5_liftOf_9 rfl (lv_at hl 1 rfl) ?_
  refine va_get (D := (dC, dI)) (ci := 7) (v := .ref nm) (C := RX5) (T := TX5) (N := 14) hx hb hts in_RX5 hown hK hP 1 rfl rfl 0 (by decide) (hts (.fieldLink RX5 9 "Hornbook$Nodes" "many" "[I") (by decide +kernel)) (fun _ h9 => h9) rfl dX5_liftOf_10 ?_
  refine va_alen (D := (dC, dI)) (v := 12) hx hb hK hP 0 0 rfl rfl rfl dX5_liftOf_13 ?_
  refine lv_icmp_ge (tgt := 23) hx hb dX5_liftOf_14 (by decide) (fun c_3 => ?_) (fun c_3 => ?_)
  rotate_left
  · exact absurd (by decide) c_3
  refine lv_iload_n hx hb dX5_liftOf_23 rfl (lv_at hl 2 rfl) ?_
  refine lv_iload_n hx hb dX5_liftOf_24 rfl (lv_at hl 3 rfl) ?_
  refine lv_icmp_eq (tgt := 38) hx hb dX5_liftOf_25 (by decide) (fun c_4 => ?_) (fun c_4 => ?_)
  rotate_left
  · exact absurd (by decide) c_4
  refine lv_iconst (v := 0) hx hb dX5_liftOf_38 (by decide) ?_
  refine lv_goto (tgt := 44) hx hb dX5_liftOf_39 (by decide) ?_
  have hP9 := hP.sub (ws' := [(anod, .inr (7, [.ref nm, .ref nl, .ref n1, .ref n2, .ref nf, .ref ns, .ref nh, .ref nk, .ref np, .int 16, .int 0, .int 16, .int 0, .int 0])), (nm, .inl (kI, 12, .inl g))]) [1, 0] rfl
  have hD9 := hD.sub (ws' := [(anod, .inr (7, [.ref nm, .ref nl, .ref n1, .ref n2, .ref nf, .ref ns, .ref nh, .ref nk, .ref np, .int 16, .int 0, .int 16, .int 0, .int 0])), (nm, .inl (kI, 12, .inl g))]) [1, 0] (by decide) rfl
  have hK9 := hK.sub (tys' := [(kI, .int)]) [0] rfl
  refine W.widen (k := 0) (n := 0) (Nat.le_of_ble_eq_true rfl) (Nat.le_of_ble_eq_true rfl) ?_
  exact W.iret (v := 0) hx hb hr (fun t ht hW => ⟨⟨0, (), rfl, rfl, ⟨by rw [ht]; exact hP9, va_K.moved hW.alike hK9, hD9⟩⟩, hS.F ht⟩) hS.2.2 dX5_liftOf_44

def wb_c_N_liftOf_3 : List Cond := [.code yX5_formOf cX5_formOf 2 (some .int), .methodLink RX5 100 yX5_formOf, .instanceMethod yX5_formOf, .selects RX5 yX5_formOf yX5_formOf, .initialized RX5, .fieldLink RX5 9 "Hornbook$Nodes" "many" "[I", .constant RX5 104 (-1048576)] ++ u_ws RX5 TX5 14
def w_c_N_liftOf_3 : List Cond := .code yX5_liftOf cX5_liftOf 6 (some .int) :: wb_c_N_liftOf_3
set_option maxRecDepth 100000 in
theorem g_c_N_liftOf_3_0 : GoodIn w_c_N_liftOf_3 (wsV RX5 100 RX5 yX5_formOf w_c_N_form_n) := goodIn_app (goodIn_of _ (by decide +kernel)) (goodIn_p (big := w_c_N_liftOf_3) (.code yX5_formOf cX5_formOf 2 (some .int) :: wb_c_N_form_n) [1] rfl (by decide +kernel))
set_option maxHeartbeats 4000000 in
set_option maxRecDepth 100000 in
theorem c_N_liftOf_3 (l : Launch) (eD eI : Nat) (ad : Nat → Nat) (dC : Nat → ClassId) (dI : Nat → Nat → Nat) (sz : Nat) (anod : Nat) (nm : Nat) (nl : Nat) (n1 : Nat) (n2 : Nat) (nf : Nat) (ns : Nat) (nh : Nat) (nk : Nat) (np : Nat) (kI : ClassId) (g : Nat → Int32) : Met l yX5_liftOf w_c_N_liftOf_3 ({ frames := 1, cells := 0, slots := 0, locals := 21 }) (va_Pc [.ref anod, .int (-1), .int 3, .int 0] (zPre eD eI ad (dC, dI) [(anod, .inr (7, [.ref nm, .ref nl, .ref n1, .ref n2, .ref nf, .ref ns, .ref nh, .ref nk, .ref np, .int 16, .int 0, .int 16, .int 0, .int 0])), (nm, .inl (kI, 12, .inl g))] [(kI, .int)] sz)) (va_Qi (fun (r : Int32) (_ : Unit) => r = (-1048576)) (fun (_ : Unit) => zEnd (dC, dI) (va_A [(anod, .inr (7, [.ref nm, .ref nl, .ref n1, .ref n2, .ref nf, .ref ns, .ref nh, .ref nk, .ref np, .int 16, .int 0, .int 16, .int 0, .int 0])), (nm, .inl (kI, 12, .inl g))] sz) [(anod, .inr (7, [.ref nm, .ref nl, .ref n1, .ref n2, .ref nf, .ref ns, .ref nh, .ref nk, .ref np, .int 16, .int 0, .int 16, .int 0, .int 0])), (nm, .inl (kI, 12, .inl g))] [(kI, .int)]) (va_A [(anod, .inr (7, [.ref nm, .ref nl, .ref n1, .ref n2, .ref nf, .ref ns, .ref nh, .ref nk, .ref np, .int 16, .int 0, .int 16, .int 0, .int 0])), (nm, .inl (kI, 12, .inl g))] sz)) 0 0 (va_A [(anod, .inr (7, [.ref nm, .ref nl, .ref n1, .ref n2, .ref nf, .ref ns, .ref nh, .ref nk, .ref np, .int 16, .int 0, .int 16, .int 0, .int 0])), (nm, .inl (kI, 12, .inl g))] sz) := by
  refine Met.ofW (cc := cX5_liftOf) (maxL := 6) (ret := (some .int)) (by decide) rfl ?_
  intro p e s m args below meth c s₁ B hml hv
  obtain ⟨rfl, hsz, hP, hK, hD0, hE⟩ := hv
  have hx := B.exec
  have hb := B.bytes
  have hr := B.returns
  have hts := atoms_spec (ws := w_c_N_liftOf_3) B.pre
  have hown : s.vm.findClass RX5 = some m.cls := findClass_of_methodNamed B.named
  have hlocks := B.notSynchronized
  subst hsz
  have hD := hD0.self (sz := s.heap.size)
  generalize hAe : va_A [(anod, .inr (7, [.ref nm, .ref nl, .ref n1, .ref n2, .ref nf, .ref ns, .ref nh, .ref nk, .ref np, .int 16, .int 0, .int 16, .int 0, .int 0])), (nm, .inl (kI, 12, .inl g))] s.heap.size = A at hD hE ⊢
  have hA : ∀ q : Nat, s.heap.size ≤ q → A q := fun q h => by rw [← hAe]; exact Or.inr h
  have hS : va_S A s.heap s.heap [] := va_S.rf
  have hP : va_P (dC, dI) vwCl [(anod, .inr (7, [.ref nm, .ref nl, .ref n1, .ref n2, .ref nf, .ref ns, .ref nh, .ref nk, .ref np, .int 16, .int 0, .int 16, .int 0, .int 0])), (nm, .inl (kI, 12, .inl g))] s.heap := hP
  have hl := lv_entry ([.ref anod, .int (-1), .int 3, .int 0]) (n := 6) (Nat.le_of_ble_eq_true rfl)
  rw [lg_entry_eq]
  generalize (lg_sl ([.ref anod, .int (-1), .int 3, .int 0]) ++ List.replicate (6 - (lg_sl ([.ref anod, .int (-1), .int 3, .int 0])).length) Slot.unset).toArray = ls at hl ⊢
  have hl : lv_has ls 6 [(0, .ref anod), (1, .int (-1)), (2, .int 3), (3, .int 0)] := hl
  have in_RX5 : ∀ w ∈ u_ws RX5 TX5 14, w ∈ w_c_N_liftOf_3 := by decide +kernel
  refine lv_aload_n hx hb dX5_liftOf_0 rfl (lv_at hl 0 rfl) ?_
  refine lv_iload_n hx hb dX5_liftOf_1 rfl (lv_at hl 1 rfl) ?_
  refine z_i (wr := [(nm, .inl (kI, 12, .inl g))]) (va_runV (As := [.int (-1)]) (rest := []) ⟨hx, hb, hml, hown, hts⟩ (c_N_form_n l eD eI ad dC dI s.heap.size anod nm nl n1 n2 nf ns nh nk np) (cwV 1 hts g_c_N_liftOf_3_0 rfl rfl rfl (by decide +kernel) ⟨Nat.le_of_ble_eq_true rfl, Nat.le_of_ble_eq_true rfl⟩) (z_preV (wc := [(anod, .inr (7, [.ref nm, .ref nl, .ref n1, .ref n2, .ref nf, .ref ns, .ref nh, .ref nk, .ref np, .int 16, .int 0, .int 16, .int 0, .int 0]))]) hP hD hK hS hA hE [0] [] rfl (by decide) rfl (ci := 7) (q0 := 0) rfl rfl) rfl rfl hl.1 rfl (lv_room (Nat.le_of_ble_eq_true rfl)) dX5_liftOf_2 ⟨Nat.le_of_ble_eq_true rfl, Nat.le_of_ble_eq_true rfl⟩) hP hD hK hS hA [0] [1] rfl rfl (by decide) (by decide) (fun r_1 u H locs hw_2 hP hD hK hS => ?_)
  obtain ⟨⟩ := u
  have hP : va_P (dC, dI) vwCl [(nm, .inl (kI, 12, .inl g)), (anod, .inr (7, [.ref nm, .ref nl, .ref n1, .ref n2, .ref nf, .ref ns, .ref nh, .ref nk, .ref np, .int 16, .int 0, .int 16, .int 0, .int 0]))] H := hP
  have hD : va_D A [(nm, .inl (kI, 12, .inl g)), (anod, .inr (7, [.ref nm, .ref nl, .ref n1, .ref n2, .ref nf, .ref ns, .ref nh, .ref nk, .ref np, .int 16, .int 0, .int 16, .int 0, .int 0]))] := hD
  have hK : va_K (dC, dI) vwCl [(kI, .int)] s := by simpa using hK
  have hw_2 : r_1 = 14 := hw_2
  have hw_2 := hw_2.symm
  subst hw_2
  refine lv_istore (lv' := [(4, .int 14), (0, .ref anod), (1, .int (-1)), (2, .int 3), (3, .int 0)]) hx hb dX5_liftOf_5 hl (by decide) rfl (fun ls hl => ?_)
  refine lv_iload hx hb dX5_liftOf_7 (lv_at hl 0 rfl) ?_
  refine lv_aload_n hx hb dX5_liftOf_9 rfl (lv_at hl 1 rfl) ?_
  refine va_get (D := (dC, dI)) (ci := 7) (v := .ref nm) (C := RX5) (T := TX5) (N := 14) hx hb hts in_RX5 hown hK hP 1 rfl rfl 0 (by decide) (hts (.fieldLink RX5 9 "Hornbook$Nodes" "many" "[I") (by decide +kernel)) (fun _ h9 => h9) rfl dX5_liftOf_10 ?_
  refine va_alen (D := (dC, dI)) (v := 12) hx hb hK hP 0 0 rfl rfl rfl dX5_liftOf_13 ?_
  refine lv_icmp_ge (tgt := 23) hx hb dX5_liftOf_14 (by decide) (fun c_3 => ?_) (fun c_3 => ?_)
  rotate_left
  · exact absurd (by decide) c_3
  refine lv_iload_n hx hb dX5_liftOf_23 rfl (lv_at hl 2 rfl) ?_
  refine lv_iload_n hx hb dX5_liftOf_24 rfl (lv_at hl 3 rfl) ?_
  refine lv_icmp_eq (tgt := 38) hx hb dX5_liftOf_25 (by decide) (fun c_4 => ?_) (fun c_4 => ?_)
  · exact absurd c_4 (by decide)
  refine lv_iload_n hx hb dX5_liftOf_28 rfl (lv_at hl 2 rfl) ?_
  refine lv_iconst (v := 3) hx hb dX5_liftOf_29 (by decide) ?_
  refine lv_icmp_ge (tgt := 42) hx hb dX5_liftOf_30 (by decide) (fun c_5 => ?_) (fun c_5 => ?_)
  · exact absurd c_5 (by decide)
  refine lv_iload_n hx hb dX5_liftOf_33 rfl (lv_at hl 3 rfl) ?_
  refine lv_iconst (v := (-1)) hx hb dX5_liftOf_34 (by decide) ?_
  refine lv_icmp_ne (tgt := 42) hx hb dX5_liftOf_35 (by decide) (fun c_6 => ?_) (fun c_6 => ?_)
  rotate_left
  · exact absurd c_6 (by decide)
  refine lv_ldc (v := (-1048576)) hx hb hown (hts (.constant RX5 104 (-1048576)) (by decide +kernel)) dX5_liftOf_42 ?_
  have hP9 := hP.sub (ws' := [(anod, .inr (7, [.ref nm, .ref nl, .ref n1, .ref n2, .ref nf, .ref ns, .ref nh, .ref nk, .ref np, .int 16, .int 0, .int 16, .int 0, .int 0])), (nm, .inl (kI, 12, .inl g))]) [1, 0] rfl
  have hD9 := hD.sub (ws' := [(anod, .inr (7, [.ref nm, .ref nl, .ref n1, .ref n2, .ref nf, .ref ns, .ref nh, .ref nk, .ref np, .int 16, .int 0, .int 16, .int 0, .int 0])), (nm, .inl (kI, 12, .inl g))]) [1, 0] (by decide) rfl
  have hK9 := hK.sub (tys' := [(kI, .int)]) [0] rfl
  refine W.widen (k := 0) (n := 0) (Nat.le_of_ble_eq_true rfl) (Nat.le_of_ble_eq_true rfl) ?_
  exact W.iret (v := (-1048576)) hx hb hr (fun t ht hW => ⟨⟨(-1048576), (), rfl, rfl, ⟨by rw [ht]; exact hP9, va_K.moved hW.alike hK9, hD9⟩⟩, hS.F ht⟩) hS.2.2 dX5_liftOf_44

def wb_c_N_liftOf_4 : List Cond := [.code yX5_formOf cX5_formOf 2 (some .int), .methodLink RX5 100 yX5_formOf, .instanceMethod yX5_formOf, .selects RX5 yX5_formOf yX5_formOf, .initialized RX5, .fieldLink RX5 9 "Hornbook$Nodes" "many" "[I", .constant RX5 104 (-1048576)] ++ u_ws RX5 TX5 14
def w_c_N_liftOf_4 : List Cond := .code yX5_liftOf cX5_liftOf 6 (some .int) :: wb_c_N_liftOf_4
set_option maxRecDepth 100000 in
theorem g_c_N_liftOf_4_0 : GoodIn w_c_N_liftOf_4 (wsV RX5 100 RX5 yX5_formOf w_c_N_form_n) := goodIn_app (goodIn_of _ (by decide +kernel)) (goodIn_p (big := w_c_N_liftOf_4) (.code yX5_formOf cX5_formOf 2 (some .int) :: wb_c_N_form_n) [1] rfl (by decide +kernel))
set_option maxHeartbeats 4000000 in
set_option maxRecDepth 100000 in
theorem c_N_liftOf_4 (l : Launch) (eD eI : Nat) (ad : Nat → Nat) (dC : Nat → ClassId) (dI : Nat → Nat → Nat) (sz : Nat) (anod : Nat) (nm : Nat) (nl : Nat) (n1 : Nat) (n2 : Nat) (nf : Nat) (ns : Nat) (nh : Nat) (nk : Nat) (np : Nat) (kI : ClassId) (g : Nat → Int32) : Met l yX5_liftOf w_c_N_liftOf_4 ({ frames := 1, cells := 0, slots := 0, locals := 21 }) (va_Pc [.ref anod, .int (-1), .int 4, .int 0] (zPre eD eI ad (dC, dI) [(anod, .inr (7, [.ref nm, .ref nl, .ref n1, .ref n2, .ref nf, .ref ns, .ref nh, .ref nk, .ref np, .int 16, .int 0, .int 16, .int 0, .int 0])), (nm, .inl (kI, 12, .inl g))] [(kI, .int)] sz)) (va_Qi (fun (r : Int32) (_ : Unit) => r = (-1048576)) (fun (_ : Unit) => zEnd (dC, dI) (va_A [(anod, .inr (7, [.ref nm, .ref nl, .ref n1, .ref n2, .ref nf, .ref ns, .ref nh, .ref nk, .ref np, .int 16, .int 0, .int 16, .int 0, .int 0])), (nm, .inl (kI, 12, .inl g))] sz) [(anod, .inr (7, [.ref nm, .ref nl, .ref n1, .ref n2, .ref nf, .ref ns, .ref nh, .ref nk, .ref np, .int 16, .int 0, .int 16, .int 0, .int 0])), (nm, .inl (kI, 12, .inl g))] [(kI, .int)]) (va_A [(anod, .inr (7, [.ref nm, .ref nl, .ref n1, .ref n2, .ref nf, .ref ns, .ref nh, .ref nk, .ref np, .int 16, .int 0, .int 16, .int 0, .int 0])), (nm, .inl (kI, 12, .inl g))] sz)) 0 0 (va_A [(anod, .inr (7, [.ref nm, .ref nl, .ref n1, .ref n2, .ref nf, .ref ns, .ref nh, .ref nk, .ref np, .int 16, .int 0, .int 16, .int 0, .int 0])), (nm, .inl (kI, 12, .inl g))] sz) := by
  refine Met.ofW (cc := cX5_liftOf) (maxL := 6) (ret := (some .int)) (by decide) rfl ?_
  intro p e s m args below meth c s₁ B hml hv
  obtain ⟨rfl, hsz, hP, hK, hD0, hE⟩ := hv
  have hx := B.exec
  have hb := B.bytes
  have hr := B.returns
  have hts := atoms_spec (ws := w_c_N_liftOf_4) B.pre
  have hown : s.vm.findClass RX5 = some m.cls := findClass_of_methodNamed B.named
  have hlocks := B.notSynchronized
  subst hsz
  have hD := hD0.self (sz := s.heap.size)
  generalize hAe : va_A [(anod, .inr (7, [.ref nm, .ref nl, .ref n1, .ref n2, .ref nf, .ref ns, .ref nh, .ref nk, .ref np, .int 16, .int 0, .int 16, .int 0, .int 0])), (nm, .inl (kI, 12, .inl g))] s.heap.size = A at hD hE ⊢
  have hA : ∀ q : Nat, s.heap.size ≤ q → A q := fun q h => by rw [← hAe]; exact Or.inr h
  have hS : va_S A s.heap s.heap [] := va_S.rf
  have hP : va_P (dC, dI) vwCl [(anod, .inr (7, [.ref nm, .ref nl, .ref n1, .ref n2, .ref nf, .ref ns, .ref nh, .ref nk, .ref np, .int 16, .int 0, .int 16, .int 0, .int 0])), (nm, .inl (kI, 12, .inl g))] s.heap := hP
  have hl := lv_entry ([.ref anod, .int (-1), .int 4, .int 0]) (n := 6) (Nat.le_of_ble_eq_true rfl)
  rw [lg_entry_eq]
  generalize (lg_sl ([.ref anod, .int (-1), .int 4, .int 0]) ++ List.replicate (6 - (lg_sl ([.ref anod, .int (-1), .int 4, .int 0])).length) Slot.unset).toArray = ls at hl ⊢
  have hl : lv_has ls 6 [(0, .ref anod), (1, .int (-1)), (2, .int 4), (3, .int 0)] := hl
  have in_RX5 : ∀ w ∈ u_ws RX5 TX5 14, w ∈ w_c_N_liftOf_4 := by decide +kernel
  refine lv_aload_n hx hb dX5_liftOf_0 rfl (lv_at hl 0 rfl) ?_
  refine lv_iload_n hx hb dX5_liftOf_1 rfl (lv_at hl 1 rfl) ?_
  refine z_i (wr := [(nm, .inl (kI, 12, .inl g))]) (va_runV (As := [.int (-1)]) (rest := []) ⟨hx, hb, hml, hown, hts⟩ (c_N_form_n l eD eI ad dC dI s.heap.size anod nm nl n1 n2 nf ns nh nk np) (cwV 1 hts g_c_N_liftOf_4_0 rfl rfl rfl (by decide +kernel) ⟨Nat.le_of_ble_eq_true rfl, Nat.le_of_ble_eq_true rfl⟩) (z_preV (wc := [(anod, .inr (7, [.ref nm, .ref nl, .ref n1, .ref n2, .ref nf, .ref ns, .ref nh, .ref nk, .ref np, .int 16, .int 0, .int 16, .int 0, .int 0]))]) hP hD hK hS hA hE [0] [] rfl (by decide) rfl (ci := 7) (q0 := 0) rfl rfl) rfl rfl hl.1 rfl (lv_room (Nat.le_of_ble_eq_true rfl)) dX5_liftOf_2 ⟨Nat.le_of_ble_eq_true rfl, Nat.le_of_ble_eq_true rfl⟩) hP hD hK hS hA [0] [1] rfl rfl (by decide) (by decide) (fun r_1 u H locs hw_2 hP hD hK hS => ?_)
  obtain ⟨⟩ := u
  have hP : va_P (dC, dI) vwCl [(nm, .inl (kI, 12, .inl g)), (anod, .inr (7, [.ref nm, .ref nl, .ref n1, .ref n2, .ref nf, .ref ns, .ref nh, .ref nk, .ref np, .int 16, .int 0, .int 16, .int 0, .int 0]))] H := hP
  have hD : va_D A [(nm, .inl (kI, 12, .inl g)), (anod, .inr (7, [.ref nm, .ref nl, .ref n1, .ref n2, .ref nf, .ref ns, .ref nh, .ref nk, .ref np, .int 16, .int 0, .int 16, .int 0, .int 0]))] := hD
  have hK : va_K (dC, dI) vwCl [(kI, .int)] s := by simpa using hK
  have hw_2 : r_1 = 14 := hw_2
  have hw_2 := hw_2.symm
  subst hw_2
  refine lv_istore (lv' := [(4, .int 14), (0, .ref anod), (1, .int (-1)), (2, .int 4), (3, .int 0)]) hx hb dX5_liftOf_5 hl (by decide) rfl (fun ls hl => ?_)
  refine lv_iload hx hb dX5_liftOf_7 (lv_at hl 0 rfl) ?_
  refine lv_aload_n hx hb dX5_liftOf_9 rfl (lv_at hl 1 rfl) ?_
  refine va_get (D := (dC, dI)) (ci := 7) (v := .ref nm) (C := RX5) (T := TX5) (N := 14) hx hb hts in_RX5 hown hK hP 1 rfl rfl 0 (by decide) (hts (.fieldLink RX5 9 "Hornbook$Nodes" "many" "[I") (by decide +kernel)) (fun _ h9 => h9) rfl dX5_liftOf_10 ?_
  refine va_alen (D := (dC, dI)) (v := 12) hx hb hK hP 0 0 rfl rfl rfl dX5_liftOf_13 ?_
  refine lv_icmp_ge (tgt := 23) hx hb dX5_liftOf_14 (by decide) (fun c_3 => ?_) (fun c_3 => ?_)
  rotate_left
  · exact absurd (by decide) c_3
  refine lv_iload_n hx hb dX5_liftOf_23 rfl (lv_at hl 2 rfl) ?_
  refine lv_iload_n hx hb dX5_liftOf_24 rfl (lv_at hl 3 rfl) ?_
  refine lv_icmp_eq (tgt := 38) hx hb dX5_liftOf_25 (by decide) (fun c_4 => ?_) (fun c_4 => ?_)
  · exact absurd c_4 (by decide)
  refine lv_iload_n hx hb dX5_liftOf_28 rfl (lv_at hl 2 rfl) ?_
  refine lv_iconst (v := 3) hx hb dX5_liftOf_29 (by decide) ?_
  refine lv_icmp_ge (tgt := 42) hx hb dX5_liftOf_30 (by decide) (fun c_5 => ?_) (fun c_5 => ?_)
  · exact absurd c_5 (by decide)
  refine lv_iload_n hx hb dX5_liftOf_33 rfl (lv_at hl 3 rfl) ?_
  refine lv_iconst (v := (-1)) hx hb dX5_liftOf_34 (by decide) ?_
  refine lv_icmp_ne (tgt := 42) hx hb dX5_liftOf_35 (by decide) (fun c_6 => ?_) (fun c_6 => ?_)
  rotate_left
  · exact absurd c_6 (by decide)
  refine lv_ldc (v := (-1048576)) hx hb hown (hts (.constant RX5 104 (-1048576)) (by decide +kernel)) dX5_liftOf_42 ?_
  have hP9 := hP.sub (ws' := [(anod, .inr (7, [.ref nm, .ref nl, .ref n1, .ref n2, .ref nf, .ref ns, .ref nh, .ref nk, .ref np, .int 16, .int 0, .int 16, .int 0, .int 0])), (nm, .inl (kI, 12, .inl g))]) [1, 0] rfl
  have hD9 := hD.sub (ws' := [(anod, .inr (7, [.ref nm, .ref nl, .ref n1, .ref n2, .ref nf, .ref ns, .ref nh, .ref nk, .ref np, .int 16, .int 0, .int 16, .int 0, .int 0])), (nm, .inl (kI, 12, .inl g))]) [1, 0] (by decide) rfl
  have hK9 := hK.sub (tys' := [(kI, .int)]) [0] rfl
  refine W.widen (k := 0) (n := 0) (Nat.le_of_ble_eq_true rfl) (Nat.le_of_ble_eq_true rfl) ?_
  exact W.iret (v := (-1048576)) hx hb hr (fun t ht hW => ⟨⟨(-1048576), (), rfl, rfl, ⟨by rw [ht]; exact hP9, va_K.moved hW.alike hK9, hD9⟩⟩, hS.F ht⟩) hS.2.2 dX5_liftOf_44

def wb_c_N_lift_0 : List Cond := [.fieldLink RX5 9 "Hornbook$Nodes" "many" "[I", .fieldLink RX5 15 "Hornbook$Nodes" "alone" "[I", .code yX5_liftOf cX5_liftOf 6 (some .int), .code yX5_formOf cX5_formOf 2 (some .int), .methodLink RX5 100 yX5_formOf, .instanceMethod yX5_formOf, .selects RX5 yX5_formOf yX5_formOf, .initialized RX5, .methodLink RX5 96 yX5_liftOf, .instanceMethod yX5_liftOf, .selects RX5 yX5_liftOf yX5_liftOf, .methodLink RX5 78 Lib.Math.max.name, .static Lib.Math.max.name, .initialized "java/lang/Math", .code Lib.Math.max.name Lib.Math.max.code 2 (some .int)] ++ u_ws RX5 TX5 14
def w_c_N_lift_0 : List Cond := .code yX5_lift cX5_lift 6 none :: wb_c_N_lift_0
set_option maxRecDepth 100000 in
theorem g_c_N_lift_0_0 : GoodIn w_c_N_lift_0 (wsV RX5 96 RX5 yX5_liftOf w_c_N_liftOf_n) := goodIn_app (goodIn_of _ (by decide +kernel)) (goodIn_p (big := w_c_N_lift_0) (.code yX5_liftOf cX5_liftOf 6 (some .int) :: wb_c_N_liftOf_n) [3, 4] rfl (by decide +kernel))
set_option maxHeartbeats 4000000 in
set_option maxRecDepth 100000 in
theorem c_N_lift_0 (l : Launch) (eD eI : Nat) (ad : Nat → Nat) (dC : Nat → ClassId) (dI : Nat → Nat → Nat) (sz : Nat) (anod : Nat) (nm : Nat) (nl : Nat) (n1 : Nat) (n2 : Nat) (nf : Nat) (ns : Nat) (nh : Nat) (nk : Nat) (np : Nat) (kI : ClassId) (kL : ClassId) : Met l yX5_lift w_c_N_lift_0 ({ frames := 2, cells := 0, slots := 0, locals := 46 }) (va_Pc [.ref anod, .int 0, .int (-1), .int (-1)] (zPre eD eI ad (dC, dI) [(anod, .inr (7, [.ref nm, .ref nl, .ref n1, .ref n2, .ref nf, .ref ns, .ref nh, .ref nk, .ref np, .int 16, .int 0, .int 16, .int 0, .int 0])), (nm, .inl (kI, 12, .inl (upd (fun _ => 0) (0 : Int32).toNatClampNeg 0))), (nl, .inl (kI, 12, .inl (fun _ => 0))), (n1, .inl (kI, 12, .inl (fun _ => 0))), (n2, .inl (kI, 12, .inl (fun _ => 0))), (ns, .inl (kL, 1024, .inr (.inl zSec)))] [(kI, .int), (kL, .long)] sz)) (va_Qv (fun (_ : Unit) => True) (fun (_ : Unit) => zEnd (dC, dI) (va_A [(anod, .inr (7, [.ref nm, .ref nl, .ref n1, .ref n2, .ref nf, .ref ns, .ref nh, .ref nk, .ref np, .int 16, .int 0, .int 16, .int 0, .int 0])), (nm, .inl (kI, 12, .inl (upd (fun _ => 0) (0 : Int32).toNatClampNeg 0))), (nl, .inl (kI, 12, .inl (fun _ => 0))), (n1, .inl (kI, 12, .inl (fun _ => 0))), (n2, .inl (kI, 12, .inl (fun _ => 0))), (ns, .inl (kL, 1024, .inr (.inl zSec)))] sz) [(anod, .inr (7, [.ref nm, .ref nl, .ref n1, .ref n2, .ref nf, .ref ns, .ref nh, .ref nk, .ref np, .int 16, .int 0, .int 16, .int 0, .int 0]))] []) (va_A [(anod, .inr (7, [.ref nm, .ref nl, .ref n1, .ref n2, .ref nf, .ref ns, .ref nh, .ref nk, .ref np, .int 16, .int 0, .int 16, .int 0, .int 0])), (nm, .inl (kI, 12, .inl (upd (fun _ => 0) (0 : Int32).toNatClampNeg 0))), (nl, .inl (kI, 12, .inl (fun _ => 0))), (n1, .inl (kI, 12, .inl (fun _ => 0))), (n2, .inl (kI, 12, .inl (fun _ => 0))), (ns, .inl (kL, 1024, .inr (.inl zSec)))] sz)) 0 0 (va_A [(anod, .inr (7, [.ref nm, .ref nl, .ref n1, .ref n2, .ref nf, .ref ns, .ref nh, .ref nk, .ref np, .int 16, .int 0, .int 16, .int 0, .int 0])), (nm, .inl (kI, 12, .inl (upd (fun _ => 0) (0 : Int32).toNatClampNeg 0))), (nl, .inl (kI, 12, .inl (fun _ => 0))), (n1, .inl (kI, 12, .inl (fun _ => 0))), (n2, .inl (kI, 12, .inl (fun _ => 0))), (ns, .inl (kL, 1024, .inr (.inl zSec)))] sz) := by
  refine Met.ofW (cc := cX5_lift) (maxL := 6) (ret := none) (by decide) rfl ?_
  intro p e s m args below meth c s₁ B hml hv
  obtain ⟨rfl, hsz, hP, hK, hD0, hE⟩ := hv
  have hx := B.exec
  have hb := B.bytes
  have hr := B.returns
  have hts := atoms_spec (ws := w_c_N_lift_0) B.pre
  have hown : s.vm.findClass RX5 = some m.cls := findClass_of_methodNamed B.named
  have hlocks := B.notSynchronized
  subst hsz
  have hD := hD0.self (sz := s.heap.size)
  generalize hAe : va_A [(anod, .inr (7, [.ref nm, .ref nl, .ref n1, .ref n2, .ref nf, .ref ns, .ref nh, .ref nk, .ref np, .int 16, .int 0, .int 16, .int 0, .int 0])), (nm, .inl (kI, 12, .inl (upd (fun _ => 0) (0 : Int32).toNatClampNeg 0))), (nl, .inl (kI, 12, .inl (fun _ => 0))), (n1, .inl (kI, 12, .inl (fun _ => 0))), (n2, .inl (kI, 12, .inl (fun _ => 0))), (ns, .inl (kL, 1024, .inr (.inl zSec)))] s.heap.size = A at hD hE ⊢
  have hA : ∀ q : Nat, s.heap.size ≤ q → A q := fun q h => by rw [← hAe]; exact Or.inr h
  have hS : va_S A s.heap s.heap [] := va_S.rf
  have hP : va_P (dC, dI) vwCl [(anod, .inr (7, [.ref nm, .ref nl, .ref n1, .ref n2, .ref nf, .ref ns, .ref nh, .ref nk, .ref np, .int 16, .int 0, .int 16, .int 0, .int 0])), (nm, .inl (kI, 12, .inl (upd (fun _ => 0) (0 : Int32).toNatClampNeg 0))), (nl, .inl (kI, 12, .inl (fun _ => 0))), (n1, .inl (kI, 12, .inl (fun _ => 0))), (n2, .inl (kI, 12, .inl (fun _ => 0))), (ns, .inl (kL, 1024, .inr (.inl zSec)))] s.heap := hP
  have hl := lv_entry ([.ref anod, .int 0, .int (-1), .int (-1)]) (n := 6) (Nat.le_of_ble_eq_true rfl)
  rw [lg_entry_eq]
  generalize (lg_sl ([.ref anod, .int 0, .int (-1), .int (-1)]) ++ List.replicate (6 - (lg_sl ([.ref anod, .int 0, .int (-1), .int (-1)])).length) Slot.unset).toArray = ls at hl ⊢
  have hl : lv_has ls 6 [(0, .ref anod), (1, .int 0), (2, .int (-1)), (3, .int (-1))] := hl
  have in_RX5 : ∀ w ∈ u_ws RX5 TX5 14, w ∈ w_c_N_lift_0 := by decide +kernel
  refine lv_iload_n hx hb dX5_lift_0 rfl (lv_at hl 1 rfl) ?_
  refine lv_if_lt (tgt := 13) hx hb dX5_lift_1 (by decide) (fun c_1 => ?_) (fun c_1 => ?_)
  · exact absurd c_1 (by decide)
  refine lv_iload_n hx hb dX5_lift_4 rfl (lv_at hl 1 rfl) ?_
  refine lv_aload_n hx hb dX5_lift_5 rfl (lv_at hl 0 rfl) ?_
  refine va_get (D := (dC, dI)) (ci := 7) (v := .ref nm) (C := RX5) (T := TX5) (N := 14) hx hb hts in_RX5 hown hK hP 0 rfl rfl 0 (by decide) (hts (.fieldLink RX5 9 "Hornbook$Nodes" "many" "[I") (by decide +kernel)) (fun _ h9 => h9) rfl dX5_lift_6 ?_
  refine va_alen (D := (dC, dI)) (v := 12) hx hb hK hP 1 0 rfl rfl rfl dX5_lift_9 ?_
  refine lv_icmp_lt (tgt := 14) hx hb dX5_lift_10 (by decide) (fun c_2 => ?_) (fun c_2 => ?_)
  rotate_left
  · exact absurd (by decide) c_2
  refine lv_aload_n hx hb dX5_lift_14 rfl (lv_at hl 0 rfl) ?_
  refine va_get (D := (dC, dI)) (ci := 7) (v := .ref nl) (C := RX5) (T := TX5) (N := 14) hx hb hts in_RX5 hown hK hP 0 rfl rfl 1 (by decide) (hts (.fieldLink RX5 15 "Hornbook$Nodes" "alone" "[I") (by decide +kernel)) (fun _ h9 => h9) rfl dX5_lift_15 ?_
  refine lv_iload_n hx hb dX5_lift_18 rfl (lv_at hl 1 rfl) ?_
  refine lv_iconst (v := 0) hx hb dX5_lift_19 (by decide) ?_
  refine lv_aload_n hx hb dX5_lift_20 rfl (lv_at hl 0 rfl) ?_
  refine lv_iload_n hx hb dX5_lift_21 rfl (lv_at hl 2 rfl) ?_
  refine lv_iconst (v := (-1)) hx hb dX5_lift_22 (by decide) ?_
  refine lv_iconst (v := 0) hx hb dX5_lift_23 (by decide) ?_
  refine z_i (wr := [(nl, .inl (kI, 12, .inl (fun _ => 0))), (n1, .inl (kI, 12, .inl (fun _ => 0))), (n2, .inl (kI, 12, .inl (fun _ => 0))), (ns, .inl (kL, 1024, .inr (.inl zSec)))]) (va_runV (As := [.int (-1), .int (-1), .int 0]) (rest := [.int 0, .int 0, .ref nl]) ⟨hx, hb, hml, hown, hts⟩ (c_N_liftOf_n l eD eI ad dC dI s.heap.size anod nm nl n1 n2 nf ns nh nk np kI ((upd (fun _ => 0) (0 : Int32).toNatClampNeg 0))) (cwV 3 hts g_c_N_lift_0_0 rfl rfl rfl (by decide +kernel) ⟨Nat.le_of_ble_eq_true rfl, Nat.le_of_ble_eq_true rfl⟩) (z_preV (wc := [(anod, .inr (7, [.ref nm, .ref nl, .ref n1, .ref n2, .ref nf, .ref ns, .ref nh, .ref nk, .ref np, .int 16, .int 0, .int 16, .int 0, .int 0])), (nm, .inl (kI, 12, .inl (upd (fun _ => 0) (0 : Int32).toNatClampNeg 0)))]) hP hD hK hS hA hE [0, 1] [0] rfl (by decide) rfl (ci := 7) (q0 := 0) rfl rfl) rfl rfl hl.1 rfl (lv_room (Nat.le_of_ble_eq_true rfl)) dX5_lift_24 ⟨Nat.le_of_ble_eq_true rfl, Nat.le_of_ble_eq_true rfl⟩) hP hD hK hS hA [0, 1] [2, 3, 4, 5] rfl rfl (by decide) (by decide) (fun r_3 u H locs hw_4 hP hD hK hS => ?_)
  obtain ⟨⟩ := u
  have hP : va_P (dC, dI) vwCl [(nl, .inl (kI, 12, .inl (fun _ => 0))), (n1, .inl (kI, 12, .inl (fun _ => 0))), (n2, .inl (kI, 12, .inl (fun _ => 0))), (ns, .inl (kL, 1024, .inr (.inl zSec))), (anod, .inr (7, [.ref nm, .ref nl, .ref n1, .ref n2, .ref nf, .ref ns, .ref nh, .ref nk, .ref np, .int 16, .int 0, .int 16, .int 0, .int 0])), (nm, .inl (kI, 12, .inl (upd (fun _ => 0) (0 : Int32).toNatClampNeg 0)))] H := hP
  have hD : va_D A [(nl, .inl (kI, 12, .inl (fun _ => 0))), (n1, .inl (kI, 12, .inl (fun _ => 0))), (n2, .inl (kI, 12, .inl (fun _ => 0))), (ns, .inl (kL, 1024, .inr (.inl zSec))), (anod, .inr (7, [.ref nm, .ref nl, .ref n1, .ref n2, .ref nf, .ref ns, .ref nh, .ref nk, .ref np, .int 16, .int 0, .int 16, .int 0, .int 0])), (nm, .inl (kI, 12, .inl (upd (fun _ => 0) (0 : Int32).toNatClampNeg 0)))] := hD
  have hK : va_K (dC, dI) vwCl [(kI, .int), (kL, .long), (kI, .int)] s := hK
  have hw_4 : r_3 = 0 := hw_4
  have hw_4 := hw_4.symm
  subst hw_4
  refine lv_aload_n hx hb dX5_lift_27 rfl (lv_at hl 0 rfl) ?_
  refine lv_iload_n hx hb dX5_lift_28 rfl (lv_at hl 3 rfl) ?_
  refine lv_iconst (v := (-1)) hx hb dX5_lift_29 (by decide) ?_
  refine lv_iconst (v := 0) hx hb dX5_lift_30 (by decide) ?_
  refine z_i (wr := [(nl, .inl (kI, 12, .inl (fun _ => 0))), (n1, .inl (kI, 12, .inl (fun _ => 0))), (n2, .inl (kI, 12, .inl (fun _ => 0))), (ns, .inl (kL, 1024, .inr (.inl zSec)))]) (va_runV (As := [.int (-1), .int (-1), .int 0]) (rest := [.int 0, .int 0, .int 0, .ref nl]) ⟨hx, hb, hml, hown, hts⟩ (c_N_liftOf_n l eD eI ad dC dI H.size anod nm nl n1 n2 nf ns nh nk np kI ((upd (fun _ => 0) (0 : Int32).toNatClampNeg 0))) (cwV 3 hts g_c_N_lift_0_0 rfl rfl rfl (by decide +kernel) ⟨Nat.le_of_ble_eq_true rfl, Nat.le_of_ble_eq_true rfl⟩) (z_preV (wc := [(anod, .inr (7, [.ref nm, .ref nl, .ref n1, .ref n2, .ref nf, .ref ns, .ref nh, .ref nk, .ref np, .int 16, .int 0, .int 16, .int 0, .int 0])), (nm, .inl (kI, 12, .inl (upd (fun _ => 0) (0 : Int32).toNatClampNeg 0)))]) hP hD hK hS hA hE [4, 5] [0] rfl (by decide) rfl (ci := 7) (q0 := 0) rfl rfl) rfl rfl hl.1 rfl (lv_room (Nat.le_of_ble_eq_true rfl)) dX5_lift_31 ⟨Nat.le_of_ble_eq_true rfl, Nat.le_of_ble_eq_true rfl⟩) hP hD hK hS hA [4, 5] [0, 1, 2, 3] rfl rfl (by decide) (by decide) (fun r_5 u H locs hw_6 hP hD hK hS => ?_)
  obtain ⟨⟩ := u
  have hP : va_P (dC, dI) vwCl [(nl, .inl (kI, 12, .inl (fun _ => 0))), (n1, .inl (kI, 12, .inl (fun _ => 0))), (n2, .inl (kI, 12, .inl (fun _ => 0))), (ns, .inl (kL, 1024, .inr (.inl zSec))), (anod, .inr (7, [.ref nm, .ref nl, .ref n1, .ref n2, .ref nf, .ref ns, .ref nh, .ref nk, .ref np, .int 16, .int 0, .int 16, .int 0, .int 0])), (nm, .inl (kI, 12, .inl (upd (fun _ => 0) (0 : Int32).toNatClampNeg 0)))] H := hP
  have hD : va_D A [(nl, .inl (kI, 12, .inl (fun _ => 0))), (n1, .inl (kI, 12, .inl (fun _ => 0))), (n2, .inl (kI, 12, .inl (fun _ => 0))), (ns, .inl (kL, 1024, .inr (.inl zSec))), (anod, .inr (7, [.ref nm, .ref nl, .ref n1, .ref n2, .ref nf, .ref ns, .ref nh, .ref nk, .ref np, .int 16, .int 0, .int 16, .int 0, .int 0])), (nm, .inl (kI, 12, .inl (upd (fun _ => 0) (0 : Int32).toNatClampNeg 0)))] := hD
  have hK : va_K (dC, dI) vwCl [(kI, .int), (kL, .long), (kI, .int), (kI, .int)] s := hK
  have hw_6 : r_5 = 0 := hw_6
  have hw_6 := hw_6.symm
  subst hw_6
  refine va_mmax hx hb (hml.trans hl.1.symm) hown (hts (.methodLink RX5 78 Lib.Math.max.name) (by decide +kernel)) (hts (.static Lib.Math.max.name) (by decide +kernel)) (hts (.initialized "java/lang/Math") (by decide +kernel)) (hts (.code Lib.Math.max.name Lib.Math.max.code 2 (some .int)) (by decide +kernel)) (Nat.le_of_ble_eq_true rfl) (Nat.le_of_ble_eq_true rfl) (Nat.le_of_ble_eq_true rfl) (Nat.le_of_ble_eq_true rfl) dX5_lift_34 ?_
  refine z_top (v' := .int 0) (congrArg Value.int (by decide)) ?_
  refine va_mmax hx hb (hml.trans hl.1.symm) hown (hts (.methodLink RX5 78 Lib.Math.max.name) (by decide +kernel)) (hts (.static Lib.Math.max.name) (by decide +kernel)) (hts (.initialized "java/lang/Math") (by decide +kernel)) (hts (.code Lib.Math.max.name Lib.Math.max.code 2 (some .int)) (by decide +kernel)) (Nat.le_of_ble_eq_true rfl) (Nat.le_of_ble_eq_true rfl) (Nat.le_of_ble_eq_true rfl) (Nat.le_of_ble_eq_true rfl) dX5_lift_37 ?_
  refine z_top (v' := .int 0) (congrArg Value.int (by decide)) ?_
  refine va_iast (D := (dC, dI)) hx hb hK hP hD hS 0 0 rfl rfl (by unfold vp_in; decide) dX5_lift_40 (fun H locs hP hD hS => ?_)
  have hP : va_P (dC, dI) vwCl [(nl, .inl (kI, 12, .inl (upd (fun _ => 0) (0 : Int32).toNatClampNeg 0))), (n1, .inl (kI, 12, .inl (fun _ => 0))), (n2, .inl (kI, 12, .inl (fun _ => 0))), (ns, .inl (kL, 1024, .inr (.inl zSec))), (anod, .inr (7, [.ref nm, .ref nl, .ref n1, .ref n2, .ref nf, .ref ns, .ref nh, .ref nk, .ref np, .int 16, .int 0, .int 16, .int 0, .int 0])), (nm, .inl (kI, 12, .inl (upd (fun _ => 0) (0 : Int32).toNatClampNeg 0)))] H := hP
  have hD : va_D A [(nl, .inl (kI, 12, .inl (upd (fun _ => 0) (0 : Int32).toNatClampNeg 0))), (n1, .inl (kI, 12, .inl (fun _ => 0))), (n2, .inl (kI, 12, .inl (fun _ => 0))), (ns, .inl (kL, 1024, .inr (.inl zSec))), (anod, .inr (7, [.ref nm, .ref nl, .ref n1, .ref n2, .ref nf, .ref ns, .ref nh, .ref nk, .ref np, .int 16, .int 0, .int 16, .int 0, .int 0])), (nm, .inl (kI, 12, .inl (upd (fun _ => 0) (0 : Int32).toNatClampNeg 0)))] := hD
  refine lv_iconst (v := 0) hx hb dX5_lift_41 (by decide) ?_
  refine lv_istore (lv' := [(4, .int 0), (0, .ref anod), (1, .int 0), (2, .int (-1)), (3, .int (-1))]) hx hb dX5_lift_42 hl (by decide) rfl (fun ls hl => ?_)
  refine lv_iload hx hb dX5_lift_44 (lv_at hl 0 rfl) ?_
  refine lv_aload_n hx hb dX5_lift_46 rfl (lv_at hl 1 rfl) ?_
  refine va_get (D := (dC, dI)) (ci := 7) (v := .ref nm) (C := RX5) (T := TX5) (N := 14) hx hb hts in_RX5 hown hK hP 4 rfl rfl 0 (by decide) (hts (.fieldLink RX5 9 "Hornbook$Nodes" "many" "[I") (by decide +kernel)) (fun _ h9 => h9) rfl dX5_lift_47 ?_
  refine lv_iload_n hx hb dX5_lift_50 rfl (lv_at hl 2 rfl) ?_
  refine va_iald (D := (dC, dI)) hx hb hK hP 5 0 rfl rfl (by unfold vp_in; decide) dX5_lift_51 ?_
  refine z_top (v' := .int 0) (congrArg Value.int (by first | rfl | decide)) ?_
  refine lv_icmp_ge (tgt := 118) hx hb dX5_lift_52 (by decide) (fun c_7 => ?_) (fun c_7 => ?_)
  rotate_left
  · exact absurd (by decide) c_7
  have hP9 := hP.sub (ws' := [(anod, .inr (7, [.ref nm, .ref nl, .ref n1, .ref n2, .ref nf, .ref ns, .ref nh, .ref nk, .ref np, .int 16, .int 0, .int 16, .int 0, .int 0]))]) [4] rfl
  have hD9 := hD.sub (ws' := [(anod, .inr (7, [.ref nm, .ref nl, .ref n1, .ref n2, .ref nf, .ref ns, .ref nh, .ref nk, .ref np, .int 16, .int 0, .int 16, .int 0, .int 0]))]) [4] (by decide) rfl
  have hK9 := hK.sub (tys' := []) [] rfl
  refine W.widen (k := 0) (n := 0) (Nat.le_of_ble_eq_true rfl) (Nat.le_of_ble_eq_true rfl) ?_
  exact W.vret hx hb hr (fun t ht hW => ⟨⟨(), rfl, trivial, ⟨by rw [ht]; exact hP9, va_K.moved hW.alike hK9, hD9⟩⟩, hS.F ht⟩) hS.2.2 dX5_lift_118

def wb_c_N_lift_1 : List Cond := [.fieldLink RX5 9 "Hornbook$Nodes" "many" "[I", .fieldLink RX5 15 "Hornbook$Nodes" "alone" "[I", .code yX5_liftOf cX5_liftOf 6 (some .int), .code yX5_formOf cX5_formOf 2 (some .int), .methodLink RX5 100 yX5_formOf, .instanceMethod yX5_formOf, .selects RX5 yX5_formOf yX5_formOf, .initialized RX5, .methodLink RX5 96 yX5_liftOf, .instanceMethod yX5_liftOf, .selects RX5 yX5_liftOf yX5_liftOf, .methodLink RX5 78 Lib.Math.max.name, .static Lib.Math.max.name, .initialized "java/lang/Math", .code Lib.Math.max.name Lib.Math.max.code 2 (some .int), .constant RX5 104 (-1048576), .fieldLink RX5 18 "Hornbook$Nodes" "overOne" "[I"] ++ u_ws RX5 TX5 14
def w_c_N_lift_1 : List Cond := .code yX5_lift cX5_lift 6 none :: wb_c_N_lift_1
set_option maxRecDepth 100000 in
theorem g_c_N_lift_1_0 : GoodIn w_c_N_lift_1 (wsV RX5 96 RX5 yX5_liftOf w_c_N_liftOf_n) := goodIn_app (goodIn_of _ (by decide +kernel)) (goodIn_p (big := w_c_N_lift_1) (.code yX5_liftOf cX5_liftOf 6 (some .int) :: wb_c_N_liftOf_n) [3, 4] rfl (by decide +kernel))
set_option maxRecDepth 100000 in
theorem g_c_N_lift_1_1 : GoodIn w_c_N_lift_1 (wsV RX5 96 RX5 yX5_liftOf w_c_N_liftOf_3) := goodIn_app (goodIn_of _ (by decide +kernel)) (goodIn_p (big := w_c_N_lift_1) (.code yX5_liftOf cX5_liftOf 6 (some .int) :: wb_c_N_liftOf_3) [3, 4] rfl (by decide +kernel))
set_option maxHeartbeats 4000000 in
set_option maxRecDepth 100000 in
theorem c_N_lift_1 (l : Launch) (eD eI : Nat) (ad : Nat → Nat) (dC : Nat → ClassId) (dI : Nat → Nat → Nat) (sz : Nat) (anod : Nat) (nm : Nat) (nl : Nat) (n1 : Nat) (n2 : Nat) (nf : Nat) (ns : Nat) (nh : Nat) (nk : Nat) (np : Nat) (kI : ClassId) (kL : ClassId) : Met l yX5_lift w_c_N_lift_1 ({ frames := 2, cells := 0, slots := 0, locals := 46 }) (va_Pc [.ref anod, .int 0, .int (-1), .int (-1)] (zPre eD eI ad (dC, dI) [(anod, .inr (7, [.ref nm, .ref nl, .ref n1, .ref n2, .ref nf, .ref ns, .ref nh, .ref nk, .ref np, .int 16, .int 0, .int 16, .int 0, .int 0])), (nm, .inl (kI, 12, .inl (upd (fun _ => 0) (0 : Int32).toNatClampNeg 1))), (nl, .inl (kI, 12, .inl (fun _ => 0))), (n1, .inl (kI, 12, .inl (fun _ => 0))), (n2, .inl (kI, 12, .inl (fun _ => 0))), (ns, .inl (kL, 1024, .inr (.inl zSec)))] [(kI, .int), (kL, .long)] sz)) (va_Qv (fun (_ : Unit) => True) (fun (_ : Unit) => zEnd (dC, dI) (va_A [(anod, .inr (7, [.ref nm, .ref nl, .ref n1, .ref n2, .ref nf, .ref ns, .ref nh, .ref nk, .ref np, .int 16, .int 0, .int 16, .int 0, .int 0])), (nm, .inl (kI, 12, .inl (upd (fun _ => 0) (0 : Int32).toNatClampNeg 1))), (nl, .inl (kI, 12, .inl (fun _ => 0))), (n1, .inl (kI, 12, .inl (fun _ => 0))), (n2, .inl (kI, 12, .inl (fun _ => 0))), (ns, .inl (kL, 1024, .inr (.inl zSec)))] sz) [(anod, .inr (7, [.ref nm, .ref nl, .ref n1, .ref n2, .ref nf, .ref ns, .ref nh, .ref nk, .ref np, .int 16, .int 0, .int 16, .int 0, .int 0]))] []) (va_A [(anod, .inr (7, [.ref nm, .ref nl, .ref n1, .ref n2, .ref nf, .ref ns, .ref nh, .ref nk, .ref np, .int 16, .int 0, .int 16, .int 0, .int 0])), (nm, .inl (kI, 12, .inl (upd (fun _ => 0) (0 : Int32).toNatClampNeg 1))), (nl, .inl (kI, 12, .inl (fun _ => 0))), (n1, .inl (kI, 12, .inl (fun _ => 0))), (n2, .inl (kI, 12, .inl (fun _ => 0))), (ns, .inl (kL, 1024, .inr (.inl zSec)))] sz)) 0 0 (va_A [(anod, .inr (7, [.ref nm, .ref nl, .ref n1, .ref n2, .ref nf, .ref ns, .ref nh, .ref nk, .ref np, .int 16, .int 0, .int 16, .int 0, .int 0])), (nm, .inl (kI, 12, .inl (upd (fun _ => 0) (0 : Int32).toNatClampNeg 1))), (nl, .inl (kI, 12, .inl (fun _ => 0))), (n1, .inl (kI, 12, .inl (fun _ => 0))), (n2, .inl (kI, 12, .inl (fun _ => 0))), (ns, .inl (kL, 1024, .inr (.inl zSec)))] sz) := by
  refine Met.ofW (cc := cX5_lift) (maxL := 6) (ret := none) (by decide) rfl ?_
  intro p e s m args below meth c s₁ B hml hv
  obtain ⟨rfl, hsz, hP, hK, hD0, hE⟩ := hv
  have hx := B.exec
  have hb := B.bytes
  have hr := B.returns
  have hts := atoms_spec (ws := w_c_N_lift_1) B.pre
  have hown : s.vm.findClass RX5 = some m.cls := findClass_of_methodNamed B.named
  have hlocks := B.notSynchronized
  subst hsz
  have hD := hD0.self (sz := s.heap.size)
  generalize hAe : va_A [(anod, .inr (7, [.ref nm, .ref nl, .ref n1, .ref n2, .ref nf, .ref ns, .ref nh, .ref nk, .ref np, .int 16, .int 0, .int 16, .int 0, .int 0])), (nm, .inl (kI, 12, .inl (upd (fun _ => 0) (0 : Int32).toNatClampNeg 1))), (nl, .inl (kI, 12, .inl (fun _ => 0))), (n1, .inl (kI, 12, .inl (fun _ => 0))), (n2, .inl (kI, 12, .inl (fun _ => 0))), (ns, .inl (kL, 1024, .inr (.inl zSec)))] s.heap.size = A at hD hE ⊢
  have hA : ∀ q : Nat, s.heap.size ≤ q → A q := fun q h => by rw [← hAe]; exact Or.inr h
  have hS : va_S A s.heap s.heap [] := va_S.rf
  have hP : va_P (dC, dI) vwCl [(anod, .inr (7, [.ref nm, .ref nl, .ref n1, .ref n2, .ref nf, .ref ns, .ref nh, .ref nk, .ref np, .int 16, .int 0, .int 16, .int 0, .int 0])), (nm, .inl (kI, 12, .inl (upd (fun _ => 0) (0 : Int32).toNatClampNeg 1))), (nl, .inl (kI, 12, .inl (fun _ => 0))), (n1, .inl (kI, 12, .inl (fun _ => 0))), (n2, .inl (kI, 12, .inl (fun _ => 0))), (ns, .inl (kL, 1024, .inr (.inl zSec)))] s.heap := hP
  have hl := lv_entry ([.ref anod, .int 0, .int (-1), .int (-1)]) (n := 6) (Nat.le_of_ble_eq_true rfl)
  rw [lg_entry_eq]
  generalize (lg_sl ([.ref anod, .int 0, .int (-1), .int (-1)]) ++ List.replicate (6 - (lg_sl ([.ref anod, .int 0, .int (-1), .int (-1)])).length) Slot.unset).toArray = ls at hl ⊢
  have hl : lv_has ls 6 [(0, .ref anod), (1, .int 0), (2, .int (-1)), (3, .int (-1))] := hl
  have in_RX5 : ∀ w ∈ u_ws RX5 TX5 14, w ∈ w_c_N_lift_1 := by decide +kernel
  refine lv_iload_n hx hb dX5_lift_0 rfl (lv_at hl 1 rfl) ?_
  refine lv_if_lt (tgt := 13) hx hb dX5_lift_1 (by decide) (fun c_1 => ?_) (fun c_1 => ?_)
  · exact absurd c_1 (by decide)
  refine lv_iload_n hx hb dX5_lift_4 rfl (lv_at hl 1 rfl) ?_
  refine lv_aload_n hx hb dX5_lift_5 rfl (lv_at hl 0 rfl) ?_
  refine va_get (D := (dC, dI)) (ci := 7) (v := .ref nm) (C := RX5) (T := TX5) (N := 14) hx hb hts in_RX5 hown hK hP 0 rfl rfl 0 (by decide) (hts (.fieldLink RX5 9 "Hornbook$Nodes" "many" "[I") (by decide +kernel)) (fun _ h9 => h9) rfl dX5_lift_6 ?_
  refine va_alen (D := (dC, dI)) (v := 12) hx hb hK hP 1 0 rfl rfl rfl dX5_lift_9 ?_
  refine lv_icmp_lt (tgt := 14) hx hb dX5_lift_10 (by decide) (fun c_2 => ?_) (fun c_2 => ?_)
  rotate_left
  · exact absurd (by decide) c_2
  refine lv_aload_n hx hb dX5_lift_14 rfl (lv_at hl 0 rfl) ?_
  refine va_get (D := (dC, dI)) (ci := 7) (v := .ref nl) (C := RX5) (T := TX5) (N := 14) hx hb hts in_RX5 hown hK hP 0 rfl rfl 1 (by decide) (hts (.fieldLink RX5 15 "Hornbook$Nodes" "alone" "[I") (by decide +kernel)) (fun _ h9 => h9) rfl dX5_lift_15 ?_
  refine lv_iload_n hx hb dX5_lift_18 rfl (lv_at hl 1 rfl) ?_
  refine lv_iconst (v := 0) hx hb dX5_lift_19 (by decide) ?_
  refine lv_aload_n hx hb dX5_lift_20 rfl (lv_at hl 0 rfl) ?_
  refine lv_iload_n hx hb dX5_lift_21 rfl (lv_at hl 2 rfl) ?_
  refine lv_iconst (v := (-1)) hx hb dX5_lift_22 (by decide) ?_
  refine lv_iconst (v := 0) hx hb dX5_lift_23 (by decide) ?_
  refine z_i (wr := [(nl, .inl (kI, 12, .inl (fun _ => 0))), (n1, .inl (kI, 12, .inl (fun _ => 0))), (n2, .inl (kI, 12, .inl (fun _ => 0))), (ns, .inl (kL, 1024, .inr (.inl zSec)))]) (va_runV (As := [.int (-1), .int (-1), .int 0]) (rest := [.int 0, .int 0, .ref nl]) ⟨hx, hb, hml, hown, hts⟩ (c_N_liftOf_n l eD eI ad dC dI s.heap.size anod nm nl n1 n2 nf ns nh nk np kI ((upd (fun _ => 0) (0 : Int32).toNatClampNeg 1))) (cwV 3 hts g_c_N_lift_1_0 rfl rfl rfl (by decide +kernel) ⟨Nat.le_of_ble_eq_true rfl, Nat.le_of_ble_eq_true rfl⟩) (z_preV (wc := [(anod, .inr (7, [.ref nm, .ref nl, .ref n1, .ref n2, .ref nf, .ref ns, .ref nh, .ref nk, .ref np, .int 16, .int 0, .int 16, .int 0, .int 0])), (nm, .inl (kI, 12, .inl (upd (fun _ => 0) (0 : Int32).toNatClampNeg 1)))]) hP hD hK hS hA hE [0, 1] [0] rfl (by decide) rfl (ci := 7) (q0 := 0) rfl rfl) rfl rfl hl.1 rfl (lv_room (Nat.le_of_ble_eq_true rfl)) dX5_lift_24 ⟨Nat.le_of_ble_eq_true rfl, Nat.le_of_ble_eq_true rfl⟩) hP hD hK hS hA [0, 1] [2, 3, 4, 5] rfl rfl (by decide) (by decide) (fun r_3 u H locs hw_4 hP hD hK hS => ?_)
  obtain ⟨⟩ := u
  have hP : va_P (dC, dI) vwCl [(nl, .inl (kI, 12, .inl (fun _ => 0))), (n1, .inl (kI, 12, .inl (fun _ => 0))), (n2, .inl (kI, 12, .inl (fun _ => 0))), (ns, .inl (kL, 1024, .inr (.inl zSec))), (anod, .inr (7, [.ref nm, .ref nl, .ref n1, .ref n2, .ref nf, .ref ns, .ref nh, .ref nk, .ref np, .int 16, .int 0, .int 16, .int 0, .int 0])), (nm, .inl (kI, 12, .inl (upd (fun _ => 0) (0 : Int32).toNatClampNeg 1)))] H := hP
  have hD : va_D A [(nl, .inl (kI, 12, .inl (fun _ => 0))), (n1, .inl (kI, 12, .inl (fun _ => 0))), (n2, .inl (kI, 12, .inl (fun _ => 0))), (ns, .inl (kL, 1024, .inr (.inl zSec))), (anod, .inr (7, [.ref nm, .ref nl, .ref n1, .ref n2, .ref nf, .ref ns, .ref nh, .ref nk, .ref np, .int 16, .int 0, .int 16, .int 0, .int 0])), (nm, .inl (kI, 12, .inl (upd (fun _ => 0) (0 : Int32).toNatClampNeg 1)))] := hD
  have hK : va_K (dC, dI) vwCl [(kI, .int), (kL, .long), (kI, .int)] s := hK
  have hw_4 : r_3 = 0 := hw_4
  have hw_4 := hw_4.symm
  subst hw_4
  refine lv_aload_n hx hb dX5_lift_27 rfl (lv_at hl 0 rfl) ?_
  refine lv_iload_n hx hb dX5_lift_28 rfl (lv_at hl 3 rfl) ?_
  refine lv_iconst (v := (-1)) hx hb dX5_lift_29 (by decide) ?_
  refine lv_iconst (v := 0) hx hb dX5_lift_30 (by decide) ?_
  refine z_i (wr := [(nl, .inl (kI, 12, .inl (fun _ => 0))), (n1, .inl (kI, 12, .inl (fun _ => 0))), (n2, .inl (kI, 12, .inl (fun _ => 0))), (ns, .inl (kL, 1024, .inr (.inl zSec)))]) (va_runV (As := [.int (-1), .int (-1), .int 0]) (rest := [.int 0, .int 0, .int 0, .ref nl]) ⟨hx, hb, hml, hown, hts⟩ (c_N_liftOf_n l eD eI ad dC dI H.size anod nm nl n1 n2 nf ns nh nk np kI ((upd (fun _ => 0) (0 : Int32).toNatClampNeg 1))) (cwV 3 hts g_c_N_lift_1_0 rfl rfl rfl (by decide +kernel) ⟨Nat.le_of_ble_eq_true rfl, Nat.le_of_ble_eq_true rfl⟩) (z_preV (wc := [(anod, .inr (7, [.ref nm, .ref nl, .ref n1, .ref n2, .ref nf, .ref ns, .ref nh, .ref nk, .ref np, .int 16, .int 0, .int 16, .int 0, .int 0])), (nm, .inl (kI, 12, .inl (upd (fun _ => 0) (0 : Int32).toNatClampNeg 1)))]) hP hD hK hS hA hE [4, 5] [0] rfl (by decide) rfl (ci := 7) (q0 := 0) rfl rfl) rfl rfl hl.1 rfl (lv_room (Nat.le_of_ble_eq_true rfl)) dX5_lift_31 ⟨Nat.le_of_ble_eq_true rfl, Nat.le_of_ble_eq_true rfl⟩) hP hD hK hS hA [4, 5] [0, 1, 2, 3] rfl rfl (by decide) (by decide) (fun r_5 u H locs hw_6 hP hD hK hS => ?_)
  obtain ⟨⟩ := u
  have hP : va_P (dC, dI) vwCl [(nl, .inl (kI, 12, .inl (fun _ => 0))), (n1, .inl (kI, 12, .inl (fun _ => 0))), (n2, .inl (kI, 12, .inl (fun _ => 0))), (ns, .inl (kL, 1024, .inr (.inl zSec))), (anod, .inr (7, [.ref nm, .ref nl, .ref n1, .ref n2, .ref nf, .ref ns, .ref nh, .ref nk, .ref np, .int 16, .int 0, .int 16, .int 0, .int 0])), (nm, .inl (kI, 12, .inl (upd (fun _ => 0) (0 : Int32).toNatClampNeg 1)))] H := hP
  have hD : va_D A [(nl, .inl (kI, 12, .inl (fun _ => 0))), (n1, .inl (kI, 12, .inl (fun _ => 0))), (n2, .inl (kI, 12, .inl (fun _ => 0))), (ns, .inl (kL, 1024, .inr (.inl zSec))), (anod, .inr (7, [.ref nm, .ref nl, .ref n1, .ref n2, .ref nf, .ref ns, .ref nh, .ref nk, .ref np, .int 16, .int 0, .int 16, .int 0, .int 0])), (nm, .inl (kI, 12, .inl (upd (fun _ => 0) (0 : Int32).toNatClampNeg 1)))] := hD
  have hK : va_K (dC, dI) vwCl [(kI, .int), (kL, .long), (kI, .int), (kI, .int)] s := hK
  have hw_6 : r_5 = 0 := hw_6
  have hw_6 := hw_6.symm
  subst hw_6
  refine va_mmax hx hb (hml.trans hl.1.symm) hown (hts (.methodLink RX5 78 Lib.Math.max.name) (by decide +kernel)) (hts (.static Lib.Math.max.name) (by decide +kernel)) (hts (.initialized "java/lang/Math") (by decide +kernel)) (hts (.code Lib.Math.max.name Lib.Math.max.code 2 (some .int)) (by decide +kernel)) (Nat.le_of_ble_eq_true rfl) (Nat.le_of_ble_eq_true rfl) (Nat.le_of_ble_eq_true rfl) (Nat.le_of_ble_eq_true rfl) dX5_lift_34 ?_
  refine z_top (v' := .int 0) (congrArg Value.int (by decide)) ?_
  refine va_mmax hx hb (hml.trans hl.1.symm) hown (hts (.methodLink RX5 78 Lib.Math.max.name) (by decide +kernel)) (hts (.static Lib.Math.max.name) (by decide +kernel)) (hts (.initialized "java/lang/Math") (by decide +kernel)) (hts (.code Lib.Math.max.name Lib.Math.max.code 2 (some .int)) (by decide +kernel)) (Nat.le_of_ble_eq_true rfl) (Nat.le_of_ble_eq_true rfl) (Nat.le_of_ble_eq_true rfl) (Nat.le_of_ble_eq_true rfl) dX5_lift_37 ?_
  refine z_top (v' := .int 0) (congrArg Value.int (by decide)) ?_
  refine va_iast (D := (dC, dI)) hx hb hK hP hD hS 0 0 rfl rfl (by unfold vp_in; decide) dX5_lift_40 (fun H locs hP hD hS => ?_)
  have hP : va_P (dC, dI) vwCl [(nl, .inl (kI, 12, .inl (upd (fun _ => 0) (0 : Int32).toNatClampNeg 0))), (n1, .inl (kI, 12, .inl (fun _ => 0))), (n2, .inl (kI, 12, .inl (fun _ => 0))), (ns, .inl (kL, 1024, .inr (.inl zSec))), (anod, .inr (7, [.ref nm, .ref nl, .ref n1, .ref n2, .ref nf, .ref ns, .ref nh, .ref nk, .ref np, .int 16, .int 0, .int 16, .int 0, .int 0])), (nm, .inl (kI, 12, .inl (upd (fun _ => 0) (0 : Int32).toNatClampNeg 1)))] H := hP
  have hD : va_D A [(nl, .inl (kI, 12, .inl (upd (fun _ => 0) (0 : Int32).toNatClampNeg 0))), (n1, .inl (kI, 12, .inl (fun _ => 0))), (n2, .inl (kI, 12, .inl (fun _ => 0))), (ns, .inl (kL, 1024, .inr (.inl zSec))), (anod, .inr (7, [.ref nm, .ref nl, .ref n1, .ref n2, .ref nf, .ref ns, .ref nh, .ref nk, .ref np, .int 16, .int 0, .int 16, .int 0, .int 0])), (nm, .inl (kI, 12, .inl (upd (fun _ => 0) (0 : Int32).toNatClampNeg 1)))] := hD
  refine lv_iconst (v := 0) hx hb dX5_lift_41 (by decide) ?_
  refine lv_istore (lv' := [(4, .int 0), (0, .ref anod), (1, .int 0), (2, .int (-1)), (3, .int (-1))]) hx hb dX5_lift_42 hl (by decide) rfl (fun ls hl => ?_)
  refine lv_iload hx hb dX5_lift_44 (lv_at hl 0 rfl) ?_
  refine lv_aload_n hx hb dX5_lift_46 rfl (lv_at hl 1 rfl) ?_
  refine va_get (D := (dC, dI)) (ci := 7) (v := .ref nm) (C := RX5) (T := TX5) (N := 14) hx hb hts in_RX5 hown hK hP 4 rfl rfl 0 (by decide) (hts (.fieldLink RX5 9 "Hornbook$Nodes" "many" "[I") (by decide +kernel)) (fun _ h9 => h9) rfl dX5_lift_47 ?_
  refine lv_iload_n hx hb dX5_lift_50 rfl (lv_at hl 2 rfl) ?_
  refine va_iald (D := (dC, dI)) hx hb hK hP 5 0 rfl rfl (by unfold vp_in; decide) dX5_lift_51 ?_
  refine z_top (v' := .int 1) (congrArg Value.int (by first | rfl | decide)) ?_
  refine lv_icmp_ge (tgt := 118) hx hb dX5_lift_52 (by decide) (fun c_7 => ?_) (fun c_7 => ?_)
  · exact absurd c_7 (by decide)
  refine lv_aload_n hx hb dX5_lift_55 rfl (lv_at hl 1 rfl) ?_
  refine lv_iload_n hx hb dX5_lift_56 rfl (lv_at hl 3 rfl) ?_
  refine lv_iconst (v := 3) hx hb dX5_lift_57 (by decide) ?_
  refine lv_iload hx hb dX5_lift_58 (lv_at hl 0 rfl) ?_
  refine lv_iadd hx hb dX5_lift_60 ?_
  refine z_top (v' := .int 3) (congrArg Value.int (by decide)) ?_
  refine lv_iconst (v := 0) hx hb dX5_lift_61 (by decide) ?_
  refine z_i (wr := [(nl, .inl (kI, 12, .inl (upd (fun _ => 0) (0 : Int32).toNatClampNeg 0))), (n1, .inl (kI, 12, .inl (fun _ => 0))), (n2, .inl (kI, 12, .inl (fun _ => 0))), (ns, .inl (kL, 1024, .inr (.inl zSec)))]) (va_runV (As := [.int (-1), .int 3, .int 0]) (rest := []) ⟨hx, hb, hml, hown, hts⟩ (c_N_liftOf_3 l eD eI ad dC dI H.size anod nm nl n1 n2 nf ns nh nk np kI ((upd (fun _ => 0) (0 : Int32).toNatClampNeg 1))) (cwV 3 hts g_c_N_lift_1_1 rfl rfl rfl (by decide +kernel) ⟨Nat.le_of_ble_eq_true rfl, Nat.le_of_ble_eq_true rfl⟩) (z_preV (wc := [(anod, .inr (7, [.ref nm, .ref nl, .ref n1, .ref n2, .ref nf, .ref ns, .ref nh, .ref nk, .ref np, .int 16, .int 0, .int 16, .int 0, .int 0])), (nm, .inl (kI, 12, .inl (upd (fun _ => 0) (0 : Int32).toNatClampNeg 1)))]) hP hD hK hS hA hE [4, 5] [0] rfl (by decide) rfl (ci := 7) (q0 := 0) rfl rfl) rfl rfl hl.1 rfl (lv_room (Nat.le_of_ble_eq_true rfl)) dX5_lift_62 ⟨Nat.le_of_ble_eq_true rfl, Nat.le_of_ble_eq_true rfl⟩) hP hD hK hS hA [4, 5] [0, 1, 2, 3] rfl rfl (by decide) (by decide) (fun r_8 u H locs hw_9 hP hD hK hS => ?_)
  obtain ⟨⟩ := u
  have hP : va_P (dC, dI) vwCl [(nl, .inl (kI, 12, .inl (upd (fun _ => 0) (0 : Int32).toNatClampNeg 0))), (n1, .inl (kI, 12, .inl (fun _ => 0))), (n2, .inl (kI, 12, .inl (fun _ => 0))), (ns, .inl (kL, 1024, .inr (.inl zSec))), (anod, .inr (7, [.ref nm, .ref nl, .ref n1, .ref n2, .ref nf, .ref ns, .ref nh, .ref nk, .ref np, .int 16, .int 0, .int 16, .int 0, .int 0])), (nm, .inl (kI, 12, .inl (upd (fun _ => 0) (0 : Int32).toNatClampNeg 1)))] H := hP
  have hD : va_D A [(nl, .inl (kI, 12, .inl (upd (fun _ => 0) (0 : Int32).toNatClampNeg 0))), (n1, .inl (kI, 12, .inl (fun _ => 0))), (n2, .inl (kI, 12, .inl (fun _ => 0))), (ns, .inl (kL, 1024, .inr (.inl zSec))), (anod, .inr (7, [.ref nm, .ref nl, .ref n1, .ref n2, .ref nf, .ref ns, .ref nh, .ref nk, .ref np, .int 16, .int 0, .int 16, .int 0, .int 0])), (nm, .inl (kI, 12, .inl (upd (fun _ => 0) (0 : Int32).toNatClampNeg 1)))] := hD
  have hK : va_K (dC, dI) vwCl [(kI, .int), (kL, .long), (kI, .int), (kI, .int), (kI, .int)] s := hK
  have hw_9 : r_8 = (-1048576) := hw_9
  have hw_9 := hw_9.symm
  subst hw_9
  refine lv_aload_n hx hb dX5_lift_65 rfl (lv_at hl 1 rfl) ?_
  refine lv_iload_n hx hb dX5_lift_66 rfl (lv_at hl 4 rfl) ?_
  refine lv_iconst (v := 3) hx hb dX5_lift_67 (by decide) ?_
  refine lv_iload hx hb dX5_lift_68 (lv_at hl 0 rfl) ?_
  refine lv_iadd hx hb dX5_lift_70 ?_
  refine z_top (v' := .int 3) (congrArg Value.int (by decide)) ?_
  refine lv_iconst (v := 0) hx hb dX5_lift_71 (by decide) ?_
  refine z_i (wr := [(nl, .inl (kI, 12, .inl (upd (fun _ => 0) (0 : Int32).toNatClampNeg 0))), (n1, .inl (kI, 12, .inl (fun _ => 0))), (n2, .inl (kI, 12, .inl (fun _ => 0))), (ns, .inl (kL, 1024, .inr (.inl zSec)))]) (va_runV (As := [.int (-1), .int 3, .int 0]) (rest := [.int (-1048576)]) ⟨hx, hb, hml, hown, hts⟩ (c_N_liftOf_3 l eD eI ad dC dI H.size anod nm nl n1 n2 nf ns nh nk np kI ((upd (fun _ => 0) (0 : Int32).toNatClampNeg 1))) (cwV 3 hts g_c_N_lift_1_1 rfl rfl rfl (by decide +kernel) ⟨Nat.le_of_ble_eq_true rfl, Nat.le_of_ble_eq_true rfl⟩) (z_preV (wc := [(anod, .inr (7, [.ref nm, .ref nl, .ref n1, .ref n2, .ref nf, .ref ns, .ref nh, .ref nk, .ref np, .int 16, .int 0, .int 16, .int 0, .int 0])), (nm, .inl (kI, 12, .inl (upd (fun _ => 0) (0 : Int32).toNatClampNeg 1)))]) hP hD hK hS hA hE [4, 5] [0] rfl (by decide) rfl (ci := 7) (q0 := 0) rfl rfl) rfl rfl hl.1 rfl (lv_room (Nat.le_of_ble_eq_true rfl)) dX5_lift_72 ⟨Nat.le_of_ble_eq_true rfl, Nat.le_of_ble_eq_true rfl⟩) hP hD hK hS hA [4, 5] [0, 1, 2, 3] rfl rfl (by decide) (by decide) (fun r_10 u H locs hw_11 hP hD hK hS => ?_)
  obtain ⟨⟩ := u
  have hP : va_P (dC, dI) vwCl [(nl, .inl (kI, 12, .inl (upd (fun _ => 0) (0 : Int32).toNatClampNeg 0))), (n1, .inl (kI, 12, .inl (fun _ => 0))), (n2, .inl (kI, 12, .inl (fun _ => 0))), (ns, .inl (kL, 1024, .inr (.inl zSec))), (anod, .inr (7, [.ref nm, .ref nl, .ref n1, .ref n2, .ref nf, .ref ns, .ref nh, .ref nk, .ref np, .int 16, .int 0, .int 16, .int 0, .int 0])), (nm, .inl (kI, 12, .inl (upd (fun _ => 0) (0 : Int32).toNatClampNeg 1)))] H := hP
  have hD : va_D A [(nl, .inl (kI, 12, .inl (upd (fun _ => 0) (0 : Int32).toNatClampNeg 0))), (n1, .inl (kI, 12, .inl (fun _ => 0))), (n2, .inl (kI, 12, .inl (fun _ => 0))), (ns, .inl (kL, 1024, .inr (.inl zSec))), (anod, .inr (7, [.ref nm, .ref nl, .ref n1, .ref n2, .ref nf, .ref ns, .ref nh, .ref nk, .ref np, .int 16, .int 0, .int 16, .int 0, .int 0])), (nm, .inl (kI, 12, .inl (upd (fun _ => 0) (0 : Int32).toNatClampNeg 1)))] := hD
  have hK : va_K (dC, dI) vwCl [(kI, .int), (kL, .long), (kI, .int), (kI, .int), (kI, .int), (kI, .int)] s := hK
  have hw_11 : r_10 = (-1048576) := hw_11
  have hw_11 := hw_11.symm
  subst hw_11
  refine va_mmax hx hb (hml.trans hl.1.symm) hown (hts (.methodLink RX5 78 Lib.Math.max.name) (by decide +kernel)) (hts (.static Lib.Math.max.name) (by decide +kernel)) (hts (.initialized "java/lang/Math") (by decide +kernel)) (hts (.code Lib.Math.max.name Lib.Math.max.code 2 (some .int)) (by decide +kernel)) (Nat.le_of_ble_eq_true rfl) (Nat.le_of_ble_eq_true rfl) (Nat.le_of_ble_eq_true rfl) (Nat.le_of_ble_eq_true rfl) dX5_lift_75 ?_
  refine z_top (v' := .int (-1048576)) (congrArg Value.int (by decide)) ?_
  refine lv_istore (lv' := [(5, .int (-1048576)), (4, .int 0), (0, .ref anod), (1, .int 0), (2, .int (-1)), (3, .int (-1))]) hx hb dX5_lift_78 hl (by decide) rfl (fun ls hl => ?_)
  refine lv_iload hx hb dX5_lift_80 (lv_at hl 1 rfl) ?_
  refine lv_if_ne (tgt := 100) hx hb dX5_lift_82 (by decide) (fun c_12 => ?_) (fun c_12 => ?_)
  · exact absurd (by decide) c_12
  refine lv_aload_n hx hb dX5_lift_85 rfl (lv_at hl 2 rfl) ?_
  refine va_get (D := (dC, dI)) (ci := 7) (v := .ref n1) (C := RX5) (T := TX5) (N := 14) hx hb hts in_RX5 hown hK hP 4 rfl rfl 2 (by decide) (hts (.fieldLink RX5 18 "Hornbook$Nodes" "overOne" "[I") (by decide +kernel)) (fun _ h9 => h9) rfl dX5_lift_86 ?_
  refine lv_iload_n hx hb dX5_lift_89 rfl (lv_at hl 3 rfl) ?_
  refine lv_iconst (v := 1) hx hb dX5_lift_90 (by decide) ?_
  refine lv_iload hx hb dX5_lift_91 (lv_at hl 0 rfl) ?_
  refine va_mmax hx hb (hml.trans hl.1.symm) hown (hts (.methodLink RX5 78 Lib.Math.max.name) (by decide +kernel)) (hts (.static Lib.Math.max.name) (by decide +kernel)) (hts (.initialized "java/lang/Math") (by decide +kernel)) (hts (.code Lib.Math.max.name Lib.Math.max.code 2 (some .int)) (by decide +kernel)) (Nat.le_of_ble_eq_true rfl) (Nat.le_of_ble_eq_true rfl) (Nat.le_of_ble_eq_true rfl) (Nat.le_of_ble_eq_true rfl) dX5_lift_93 ?_
  refine z_top (v' := .int 1) (congrArg Value.int (by decide)) ?_
  refine va_iast (D := (dC, dI)) hx hb hK hP hD hS 1 0 rfl rfl (by unfold vp_in; decide) dX5_lift_96 (fun H locs hP hD hS => ?_)
  have hP : va_P (dC, dI) vwCl [(nl, .inl (kI, 12, .inl (upd (fun _ => 0) (0 : Int32).toNatClampNeg 0))), (n1, .inl (kI, 12, .inl (upd (fun _ => 0) (0 : Int32).toNatClampNeg 1))), (n2, .inl (kI, 12, .inl (fun _ => 0))), (ns, .inl (kL, 1024, .inr (.inl zSec))), (anod, .inr (7, [.ref nm, .ref nl, .ref n1, .ref n2, .ref nf, .ref ns, .ref nh, .ref nk, .ref np, .int 16, .int 0, .int 16, .int 0, .int 0])), (nm, .inl (kI, 12, .inl (upd (fun _ => 0) (0 : Int32).toNatClampNeg 1)))] H := hP
  have hD : va_D A [(nl, .inl (kI, 12, .inl (upd (fun _ => 0) (0 : Int32).toNatClampNeg 0))), (n1, .inl (kI, 12, .inl (upd (fun _ => 0) (0 : Int32).toNatClampNeg 1))), (n2, .inl (kI, 12, .inl (fun _ => 0))), (ns, .inl (kL, 1024, .inr (.inl zSec))), (anod, .inr (7, [.ref nm, .ref nl, .ref n1, .ref n2, .ref nf, .ref ns, .ref nh, .ref nk, .ref np, .int 16, .int 0, .int 16, .int 0, .int 0])), (nm, .inl (kI, 12, .inl (upd (fun _ => 0) (0 : Int32).toNatClampNeg 1)))] := hD
  refine lv_goto (tgt := 112) hx hb dX5_lift_97 (by decide) ?_
  refine lv_iinc (v := 1) (lv' := [(4, .int 1), (5, .int (-1048576)), (0, .ref anod), (1, .int 0), (2, .int (-1)), (3, .int (-1))]) hx hb dX5_lift_112 hl (k := 1) rfl (by decide) (by decide) rfl (fun ls hl => ?_)
  refine lv_goto (tgt := 44) hx hb dX5_lift_115 (by decide) ?_
  refine lv_iload hx hb dX5_lift_44 (lv_at hl 0 rfl) ?_
  refine lv_aload_n hx hb dX5_lift_46 rfl (lv_at hl 2 rfl) ?_
  refine va_get (D := (dC, dI)) (ci := 7) (v := .ref nm) (C := RX5) (T := TX5) (N := 14) hx hb hts in_RX5 hown hK hP 4 rfl rfl 0 (by decide) (hts (.fieldLink RX5 9 "Hornbook$Nodes" "many" "[I") (by decide +kernel)) (fun _ h9 => h9) rfl dX5_lift_47 ?_
  refine lv_iload_n hx hb dX5_lift_50 rfl (lv_at hl 3 rfl) ?_
  refine va_iald (D := (dC, dI)) hx hb hK hP 5 0 rfl rfl (by unfold vp_in; decide) dX5_lift_51 ?_
  refine z_top (v' := .int 1) (congrArg Value.int (by first | rfl | decide)) ?_
  refine lv_icmp_ge (tgt := 118) hx hb dX5_lift_52 (by decide) (fun c_13 => ?_) (fun c_13 => ?_)
  rotate_left
  · exact absurd (by decide) c_13
  have hP9 := hP.sub (ws' := [(anod, .inr (7, [.ref nm, .ref nl, .ref n1, .ref n2, .ref nf, .ref ns, .ref nh, .ref nk, .ref np, .int 16, .int 0, .int 16, .int 0, .int 0]))]) [4] rfl
  have hD9 := hD.sub (ws' := [(anod, .inr (7, [.ref nm, .ref nl, .ref n1, .ref n2, .ref nf, .ref ns, .ref nh, .ref nk, .ref np, .int 16, .int 0, .int 16, .int 0, .int 0]))]) [4] (by decide) rfl
  have hK9 := hK.sub (tys' := []) [] rfl
  refine W.widen (k := 0) (n := 0) (Nat.le_of_ble_eq_true rfl) (Nat.le_of_ble_eq_true rfl) ?_
  exact W.vret hx hb hr (fun t ht hW => ⟨⟨(), rfl, trivial, ⟨by rw [ht]; exact hP9, va_K.moved hW.alike hK9, hD9⟩⟩, hS.F ht⟩) hS.2.2 dX5_lift_118

def wb_c_N_lift_2 : List Cond := [.fieldLink RX5 9 "Hornbook$Nodes" "many" "[I", .fieldLink RX5 15 "Hornbook$Nodes" "alone" "[I", .code yX5_liftOf cX5_liftOf 6 (some .int), .code yX5_formOf cX5_formOf 2 (some .int), .methodLink RX5 100 yX5_formOf, .instanceMethod yX5_formOf, .selects RX5 yX5_formOf yX5_formOf, .initialized RX5, .methodLink RX5 96 yX5_liftOf, .instanceMethod yX5_liftOf, .selects RX5 yX5_liftOf yX5_liftOf, .methodLink RX5 78 Lib.Math.max.name, .static Lib.Math.max.name, .initialized "java/lang/Math", .code Lib.Math.max.name Lib.Math.max.code 2 (some .int), .constant RX5 104 (-1048576), .fieldLink RX5 18 "Hornbook$Nodes" "overOne" "[I", .fieldLink RX5 21 "Hornbook$Nodes" "overOther" "[I"] ++ u_ws RX5 TX5 14
def w_c_N_lift_2 : List Cond := .code yX5_lift cX5_lift 6 none :: wb_c_N_lift_2
set_option maxRecDepth 100000 in
theorem g_c_N_lift_2_0 : GoodIn w_c_N_lift_2 (wsV RX5 96 RX5 yX5_liftOf w_c_N_liftOf_n) := goodIn_app (goodIn_of _ (by decide +kernel)) (goodIn_p (big := w_c_N_lift_2) (.code yX5_liftOf cX5_liftOf 6 (some .int) :: wb_c_N_liftOf_n) [3, 4] rfl (by decide +kernel))
set_option maxRecDepth 100000 in
theorem g_c_N_lift_2_1 : GoodIn w_c_N_lift_2 (wsV RX5 96 RX5 yX5_liftOf w_c_N_liftOf_3) := goodIn_app (goodIn_of _ (by decide +kernel)) (goodIn_p (big := w_c_N_lift_2) (.code yX5_liftOf cX5_liftOf 6 (some .int) :: wb_c_N_liftOf_3) [3, 4] rfl (by decide +kernel))
set_option maxRecDepth 100000 in
theorem g_c_N_lift_2_2 : GoodIn w_c_N_lift_2 (wsV RX5 96 RX5 yX5_liftOf w_c_N_liftOf_4) := goodIn_app (goodIn_of _ (by decide +kernel)) (goodIn_p (big := w_c_N_lift_2) (.code yX5_liftOf cX5_liftOf 6 (some .int) :: wb_c_N_liftOf_4) [3, 4] rfl (by decide +kernel))
set_option maxHeartbeats 4000000 in
set_option maxRecDepth 100000 in
theorem c_N_lift_2 (l : Launch) (eD eI : Nat) (ad : Nat → Nat) (dC : Nat → ClassId) (dI : Nat → Nat → Nat) (sz : Nat) (anod : Nat) (nm : Nat) (nl : Nat) (n1 : Nat) (n2 : Nat) (nf : Nat) (ns : Nat) (nh : Nat) (nk : Nat) (np : Nat) (kI : ClassId) (kL : ClassId) : Met l yX5_lift w_c_N_lift_2 ({ frames := 2, cells := 0, slots := 0, locals := 46 }) (va_Pc [.ref anod, .int 0, .int (-1), .int (-1)] (zPre eD eI ad (dC, dI) [(anod, .inr (7, [.ref nm, .ref nl, .ref n1, .ref n2, .ref nf, .ref ns, .ref nh, .ref nk, .ref np, .int 16, .int 0, .int 16, .int 0, .int 0])), (nm, .inl (kI, 12, .inl (upd (fun _ => 0) (0 : Int32).toNatClampNeg 2))), (nl, .inl (kI, 12, .inl (fun _ => 0))), (n1, .inl (kI, 12, .inl (fun _ => 0))), (n2, .inl (kI, 12, .inl (fun _ => 0))), (ns, .inl (kL, 1024, .inr (.inl zSec)))] [(kI, .int), (kL, .long)] sz)) (va_Qv (fun (_ : Unit) => True) (fun (_ : Unit) => zEnd (dC, dI) (va_A [(anod, .inr (7, [.ref nm, .ref nl, .ref n1, .ref n2, .ref nf, .ref ns, .ref nh, .ref nk, .ref np, .int 16, .int 0, .int 16, .int 0, .int 0])), (nm, .inl (kI, 12, .inl (upd (fun _ => 0) (0 : Int32).toNatClampNeg 2))), (nl, .inl (kI, 12, .inl (fun _ => 0))), (n1, .inl (kI, 12, .inl (fun _ => 0))), (n2, .inl (kI, 12, .inl (fun _ => 0))), (ns, .inl (kL, 1024, .inr (.inl zSec)))] sz) [(anod, .inr (7, [.ref nm, .ref nl, .ref n1, .ref n2, .ref nf, .ref ns, .ref nh, .ref nk, .ref np, .int 16, .int 0, .int 16, .int 0, .int 0]))] []) (va_A [(anod, .inr (7, [.ref nm, .ref nl, .ref n1, .ref n2, .ref nf, .ref ns, .ref nh, .ref nk, .ref np, .int 16, .int 0, .int 16, .int 0, .int 0])), (nm, .inl (kI, 12, .inl (upd (fun _ => 0) (0 : Int32).toNatClampNeg 2))), (nl, .inl (kI, 12, .inl (fun _ => 0))), (n1, .inl (kI, 12, .inl (fun _ => 0))), (n2, .inl (kI, 12, .inl (fun _ => 0))), (ns, .inl (kL, 1024, .inr (.inl zSec)))] sz)) 0 0 (va_A [(anod, .inr (7, [.ref nm, .ref nl, .ref n1, .ref n2, .ref nf, .ref ns, .ref nh, .ref nk, .ref np, .int 16, .int 0, .int 16, .int 0, .int 0])), (nm, .inl (kI, 12, .inl (upd (fun _ => 0) (0 : Int32).toNatClampNeg 2))), (nl, .inl (kI, 12, .inl (fun _ => 0))), (n1, .inl (kI, 12, .inl (fun _ => 0))), (n2, .inl (kI, 12, .inl (fun _ => 0))), (ns, .inl (kL, 1024, .inr (.inl zSec)))] sz) := by
  refine Met.ofW (cc := cX5_lift) (maxL := 6) (ret := none) (by decide) rfl ?_
  intro p e s m args below meth c s₁ B hml hv
  obtain ⟨rfl, hsz, hP, hK, hD0, hE⟩ := hv
  have hx := B.exec
  have hb := B.bytes
  have hr := B.returns
  have hts := atoms_spec (ws := w_c_N_lift_2) B.pre
  have hown : s.vm.findClass RX5 = some m.cls := findClass_of_methodNamed B.named
  have hlocks := B.notSynchronized
  subst hsz
  have hD := hD0.self (sz := s.heap.size)
  generalize hAe : va_A [(anod, .inr (7, [.ref nm, .ref nl, .ref n1, .ref n2, .ref nf, .ref ns, .ref nh, .ref nk, .ref np, .int 16, .int 0, .int 16, .int 0, .int 0])), (nm, .inl (kI, 12, .inl (upd (fun _ => 0) (0 : Int32).toNatClampNeg 2))), (nl, .inl (kI, 12, .inl (fun _ => 0))), (n1, .inl (kI, 12, .inl (fun _ => 0))), (n2, .inl (kI, 12, .inl (fun _ => 0))), (ns, .inl (kL, 1024, .inr (.inl zSec)))] s.heap.size = A at hD hE ⊢
  have hA : ∀ q : Nat, s.heap.size ≤ q → A q := fun q h => by rw [← hAe]; exact Or.inr h
  have hS : va_S A s.heap s.heap [] := va_S.rf
  have hP : va_P (dC, dI) vwCl [(anod, .inr (7, [.ref nm, .ref nl, .ref n1, .ref n2, .ref nf, .ref ns, .ref nh, .ref nk, .ref np, .int 16, .int 0, .int 16, .int 0, .int 0])), (nm, .inl (kI, 12, .inl (upd (fun _ => 0) (0 : Int32).toNatClampNeg 2))), (nl, .inl (kI, 12, .inl (fun _ => 0))), (n1, .inl (kI, 12, .inl (fun _ => 0))), (n2, .inl (kI, 12, .inl (fun _ => 0))), (ns, .inl (kL, 1024, .inr (.inl zSec)))] s.heap := hP
  have hl := lv_entry ([.ref anod, .int 0, .int (-1), .int (-1)]) (n := 6) (Nat.le_of_ble_eq_true rfl)
  rw [lg_entry_eq]
  generalize (lg_sl ([.ref anod, .int 0, .int (-1), .int (-1)]) ++ List.replicate (6 - (lg_sl ([.ref anod, .int 0, .int (-1), .int (-1)])).length) Slot.unset).toArray = ls at hl ⊢
  have hl : lv_has ls 6 [(0, .ref anod), (1, .int 0), (2, .int (-1)), (3, .int (-1))] := hl
  have in_RX5 : ∀ w ∈ u_ws RX5 TX5 14, w ∈ w_c_N_lift_2 := by decide +kernel
  refine lv_iload_n hx hb dX5_lift_0 rfl (lv_at hl 1 rfl) ?_
  refine lv_if_lt (tgt := 13) hx hb dX5_lift_1 (by decide) (fun c_1 => ?_) (fun c_1 => ?_)
  · exact absurd c_1 (by decide)
  refine lv_iload_n hx hb dX5_lift_4 rfl (lv_at hl 1 rfl) ?_
  refine lv_aload_n hx hb dX5_lift_5 rfl (lv_at hl 0 rfl) ?_
  refine va_get (D := (dC, dI)) (ci := 7) (v := .ref nm) (C := RX5) (T := TX5) (N := 14) hx hb hts in_RX5 hown hK hP 0 rfl rfl 0 (by decide) (hts (.fieldLink RX5 9 "Hornbook$Nodes" "many" "[I") (by decide +kernel)) (fun _ h9 => h9) rfl dX5_lift_6 ?_
  refine va_alen (D := (dC, dI)) (v := 12) hx hb hK hP 1 0 rfl rfl rfl dX5_lift_9 ?_
  refine lv_icmp_lt (tgt := 14) hx hb dX5_lift_10 (by decide) (fun c_2 => ?_) (fun c_2 => ?_)
  rotate_left
  · exact absurd (by decide) c_2
  refine lv_aload_n hx hb dX5_lift_14 rfl (lv_at hl 0 rfl) ?_
  refine va_get (D := (dC, dI)) (ci := 7) (v := .ref nl) (C := RX5) (T := TX5) (N := 14) hx hb hts in_RX5 hown hK hP 0 rfl rfl 1 (by decide) (hts (.fieldLink RX5 15 "Hornbook$Nodes" "alone" "[I") (by decide +kernel)) (fun _ h9 => h9) rfl dX5_lift_15 ?_
  refine lv_iload_n hx hb dX5_lift_18 rfl (lv_at hl 1 rfl) ?_
  refine lv_iconst (v := 0) hx hb dX5_lift_19 (by decide) ?_
  refine lv_aload_n hx hb dX5_lift_20 rfl (lv_at hl 0 rfl) ?_
  refine lv_iload_n hx hb dX5_lift_21 rfl (lv_at hl 2 rfl) ?_
  refine lv_iconst (v := (-1)) hx hb dX5_lift_22 (by decide) ?_
  refine lv_iconst (v := 0) hx hb dX5_lift_23 (by decide) ?_
  refine z_i (wr := [(nl, .inl (kI, 12, .inl (fun _ => 0))), (n1, .inl (kI, 12, .inl (fun _ => 0))), (n2, .inl (kI, 12, .inl (fun _ => 0))), (ns, .inl (kL, 1024, .inr (.inl zSec)))]) (va_runV (As := [.int (-1), .int (-1), .int 0]) (rest := [.int 0, .int 0, .ref nl]) ⟨hx, hb, hml, hown, hts⟩ (c_N_liftOf_n l eD eI ad dC dI s.heap.size anod nm nl n1 n2 nf ns nh nk np kI ((upd (fun _ => 0) (0 : Int32).toNatClampNeg 2))) (cwV 3 hts g_c_N_lift_2_0 rfl rfl rfl (by decide +kernel) ⟨Nat.le_of_ble_eq_true rfl, Nat.le_of_ble_eq_true rfl⟩) (z_preV (wc := [(anod, .inr (7, [.ref nm, .ref nl, .ref n1, .ref n2, .ref nf, .ref ns, .ref nh, .ref nk, .ref np, .int 16, .int 0, .int 16, .int 0, .int 0])), (nm, .inl (kI, 12, .inl (upd (fun _ => 0) (0 : Int32).toNatClampNeg 2)))]) hP hD hK hS hA hE [0, 1] [0] rfl (by decide) rfl (ci := 7) (q0 := 0) rfl rfl) rfl rfl hl.1 rfl (lv_room (Nat.le_of_ble_eq_true rfl)) dX5_lift_24 ⟨Nat.le_of_ble_eq_true rfl, Nat.le_of_ble_eq_true rfl⟩) hP hD hK hS hA [0, 1] [2, 3, 4, 5] rfl rfl (by decide) (by decide) (fun r_3 u H locs hw_4 hP hD hK hS => ?_)
  obtain ⟨⟩ := u
  have hP : va_P (dC, dI) vwCl [(nl, .inl (kI, 12, .inl (fun _ => 0))), (n1, .inl (kI, 12, .inl (fun _ => 0))), (n2, .inl (kI, 12, .inl (fun _ => 0))), (ns, .inl (kL, 1024, .inr (.inl zSec))), (anod, .inr (7, [.ref nm, .ref nl, .ref n1, .ref n2, .ref nf, .ref ns, .ref nh, .ref nk, .ref np, .int 16, .int 0, .int 16, .int 0, .int 0])), (nm, .inl (kI, 12, .inl (upd (fun _ => 0) (0 : Int32).toNatClampNeg 2)))] H := hP
  have hD : va_D A [(nl, .inl (kI, 12, .inl (fun _ => 0))), (n1, .inl (kI, 12, .inl (fun _ => 0))), (n2, .inl (kI, 12, .inl (fun _ => 0))), (ns, .inl (kL, 1024, .inr (.inl zSec))), (anod, .inr (7, [.ref nm, .ref nl, .ref n1, .ref n2, .ref nf, .ref ns, .ref nh, .ref nk, .ref np, .int 16, .int 0, .int 16, .int 0, .int 0])), (nm, .inl (kI, 12, .inl (upd (fun _ => 0) (0 : Int32).toNatClampNeg 2)))] := hD
  have hK : va_K (dC, dI) vwCl [(kI, .int), (kL, .long), (kI, .int)] s := hK
  have hw_4 : r_3 = 0 := hw_4
  have hw_4 := hw_4.symm
  subst hw_4
  refine lv_aload_n hx hb dX5_lift_27 rfl (lv_at hl 0 rfl) ?_
  refine lv_iload_n hx hb dX5_lift_28 rfl (lv_at hl 3 rfl) ?_
  refine lv_iconst (v := (-1)) hx hb dX5_lift_29 (by decide) ?_
  refine lv_iconst (v := 0) hx hb dX5_lift_30 (by decide) ?_
  refine z_i (wr := [(nl, .inl (kI, 12, .inl (fun _ => 0))), (n1, .inl (kI, 12, .inl (fun _ => 0))), (n2, .inl (kI, 12, .inl (fun _ => 0))), (ns, .inl (kL, 1024, .inr (.inl zSec)))]) (va_runV (As := [.int (-1), .int (-1), .int 0]) (rest := [.int 0, .int 0, .int 0, .ref nl]) ⟨hx, hb, hml, hown, hts⟩ (c_N_liftOf_n l eD eI ad dC dI H.size anod nm nl n1 n2 nf ns nh nk np kI ((upd (fun _ => 0) (0 : Int32).toNatClampNeg 2))) (cwV 3 hts g_c_N_lift_2_0 rfl rfl rfl (by decide +kernel) ⟨Nat.le_of_ble_eq_true rfl, Nat.le_of_ble_eq_true rfl⟩) (z_preV (wc := [(anod, .inr (7, [.ref nm, .ref nl, .ref n1, .ref n2, .ref nf, .ref ns, .ref nh, .ref nk, .ref np, .int 16, .int 0, .int 16, .int 0, .int 0])), (nm, .inl (kI, 12, .inl (upd (fun _ => 0) (0 : Int32).toNatClampNeg 2)))]) hP hD hK hS hA hE [4, 5] [0] rfl (by decide) rfl (ci := 7) (q0 := 0) rfl rfl) rfl rfl hl.1 rfl (lv_room (Nat.le_of_ble_eq_true rfl)) dX5_lift_31 ⟨Nat.le_of_ble_eq_true rfl, Nat.le_of_ble_eq_true rfl⟩) hP hD hK hS hA [4, 5] [0, 1, 2, 3] rfl rfl (by decide) (by decide) (fun r_5 u H locs hw_6 hP hD hK hS => ?_)
  obtain ⟨⟩ := u
  have hP : va_P (dC, dI) vwCl [(nl, .inl (kI, 12, .inl (fun _ => 0))), (n1, .inl (kI, 12, .inl (fun _ => 0))), (n2, .inl (kI, 12, .inl (fun _ => 0))), (ns, .inl (kL, 1024, .inr (.inl zSec))), (anod, .inr (7, [.ref nm, .ref nl, .ref n1, .ref n2, .ref nf, .ref ns, .ref nh, .ref nk, .ref np, .int 16, .int 0, .int 16, .int 0, .int 0])), (nm, .inl (kI, 12, .inl (upd (fun _ => 0) (0 : Int32).toNatClampNeg 2)))] H := hP
  have hD : va_D A [(nl, .inl (kI, 12, .inl (fun _ => 0))), (n1, .inl (kI, 12, .inl (fun _ => 0))), (n2, .inl (kI, 12, .inl (fun _ => 0))), (ns, .inl (kL, 1024, .inr (.inl zSec))), (anod, .inr (7, [.ref nm, .ref nl, .ref n1, .ref n2, .ref nf, .ref ns, .ref nh, .ref nk, .ref np, .int 16, .int 0, .int 16, .int 0, .int 0])), (nm, .inl (kI, 12, .inl (upd (fun _ => 0) (0 : Int32).toNatClampNeg 2)))] := hD
  have hK : va_K (dC, dI) vwCl [(kI, .int), (kL, .long), (kI, .int), (kI, .int)] s := hK
  have hw_6 : r_5 = 0 := hw_6
  have hw_6 := hw_6.symm
  subst hw_6
  refine va_mmax hx hb (hml.trans hl.1.symm) hown (hts (.methodLink RX5 78 Lib.Math.max.name) (by decide +kernel)) (hts (.static Lib.Math.max.name) (by decide +kernel)) (hts (.initialized "java/lang/Math") (by decide +kernel)) (hts (.code Lib.Math.max.name Lib.Math.max.code 2 (some .int)) (by decide +kernel)) (Nat.le_of_ble_eq_true rfl) (Nat.le_of_ble_eq_true rfl) (Nat.le_of_ble_eq_true rfl) (Nat.le_of_ble_eq_true rfl) dX5_lift_34 ?_
  refine z_top (v' := .int 0) (congrArg Value.int (by decide)) ?_
  refine va_mmax hx hb (hml.trans hl.1.symm) hown (hts (.methodLink RX5 78 Lib.Math.max.name) (by decide +kernel)) (hts (.static Lib.Math.max.name) (by decide +kernel)) (hts (.initialized "java/lang/Math") (by decide +kernel)) (hts (.code Lib.Math.max.name Lib.Math.max.code 2 (some .int)) (by decide +kernel)) (Nat.le_of_ble_eq_true rfl) (Nat.le_of_ble_eq_true rfl) (Nat.le_of_ble_eq_true rfl) (Nat.le_of_ble_eq_true rfl) dX5_lift_37 ?_
  refine z_top (v' := .int 0) (congrArg Value.int (by decide)) ?_
  refine va_iast (D := (dC, dI)) hx hb hK hP hD hS 0 0 rfl rfl (by unfold vp_in; decide) dX5_lift_40 (fun H locs hP hD hS => ?_)
  have hP : va_P (dC, dI) vwCl [(nl, .inl (kI, 12, .inl (upd (fun _ => 0) (0 : Int32).toNatClampNeg 0))), (n1, .inl (kI, 12, .inl (fun _ => 0))), (n2, .inl (kI, 12, .inl (fun _ => 0))), (ns, .inl (kL, 1024, .inr (.inl zSec))), (anod, .inr (7, [.ref nm, .ref nl, .ref n1, .ref n2, .ref nf, .ref ns, .ref nh, .ref nk, .ref np, .int 16, .int 0, .int 16, .int 0, .int 0])), (nm, .inl (kI, 12, .inl (upd (fun _ => 0) (0 : Int32).toNatClampNeg 2)))] H := hP
  have hD : va_D A [(nl, .inl (kI, 12, .inl (upd (fun _ => 0) (0 : Int32).toNatClampNeg 0))), (n1, .inl (kI, 12, .inl (fun _ => 0))), (n2, .inl (kI, 12, .inl (fun _ => 0))), (ns, .inl (kL, 1024, .inr (.inl zSec))), (anod, .inr (7, [.ref nm, .ref nl, .ref n1, .ref n2, .ref nf, .ref ns, .ref nh, .ref nk, .ref np, .int 16, .int 0, .int 16, .int 0, .int 0])), (nm, .inl (kI, 12, .inl (upd (fun _ => 0) (0 : Int32).toNatClampNeg 2)))] := hD
  refine lv_iconst (v := 0) hx hb dX5_lift_41 (by decide) ?_
  refine lv_istore (lv' := [(4, .int 0), (0, .ref anod), (1, .int 0), (2, .int (-1)), (3, .int (-1))]) hx hb dX5_lift_42 hl (by decide) rfl (fun ls hl => ?_)
  refine lv_iload hx hb dX5_lift_44 (lv_at hl 0 rfl) ?_
  refine lv_aload_n hx hb dX5_lift_46 rfl (lv_at hl 1 rfl) ?_
  refine va_get (D := (dC, dI)) (ci := 7) (v := .ref nm) (C := RX5) (T := TX5) (N := 14) hx hb hts in_RX5 hown hK hP 4 rfl rfl 0 (by decide) (hts (.fieldLink RX5 9 "Hornbook$Nodes" "many" "[I") (by decide +kernel)) (fun _ h9 => h9) rfl dX5_lift_47 ?_
  refine lv_iload_n hx hb dX5_lift_50 rfl (lv_at hl 2 rfl) ?_
  refine va_iald (D := (dC, dI)) hx hb hK hP 5 0 rfl rfl (by unfold vp_in; decide) dX5_lift_51 ?_
  refine z_top (v' := .int 2) (congrArg Value.int (by first | rfl | decide)) ?_
  refine lv_icmp_ge (tgt := 118) hx hb dX5_lift_52 (by decide) (fun c_7 => ?_) (fun c_7 => ?_)
  · exact absurd c_7 (by decide)
  refine lv_aload_n hx hb dX5_lift_55 rfl (lv_at hl 1 rfl) ?_
  refine lv_iload_n hx hb dX5_lift_56 rfl (lv_at hl 3 rfl) ?_
  refine lv_iconst (v := 3) hx hb dX5_lift_57 (by decide) ?_
  refine lv_iload hx hb dX5_lift_58 (lv_at hl 0 rfl) ?_
  refine lv_iadd hx hb dX5_lift_60 ?_
  refine z_top (v' := .int 3) (congrArg Value.int (by decide)) ?_
  refine lv_iconst (v := 0) hx hb dX5_lift_61 (by decide) ?_
  refine z_i (wr := [(nl, .inl (kI, 12, .inl (upd (fun _ => 0) (0 : Int32).toNatClampNeg 0))), (n1, .inl (kI, 12, .inl (fun _ => 0))), (n2, .inl (kI, 12, .inl (fun _ => 0))), (ns, .inl (kL, 1024, .inr (.inl zSec)))]) (va_runV (As := [.int (-1), .int 3, .int 0]) (rest := []) ⟨hx, hb, hml, hown, hts⟩ (c_N_liftOf_3 l eD eI ad dC dI H.size anod nm nl n1 n2 nf ns nh nk np kI ((upd (fun _ => 0) (0 : Int32).toNatClampNeg 2))) (cwV 3 hts g_c_N_lift_2_1 rfl rfl rfl (by decide +kernel) ⟨Nat.le_of_ble_eq_true rfl, Nat.le_of_ble_eq_true rfl⟩) (z_preV (wc := [(anod, .inr (7, [.ref nm, .ref nl, .ref n1, .ref n2, .ref nf, .ref ns, .ref nh, .ref nk, .ref np, .int 16, .int 0, .int 16, .int 0, .int 0])), (nm, .inl (kI, 12, .inl (upd (fun _ => 0) (0 : Int32).toNatClampNeg 2)))]) hP hD hK hS hA hE [4, 5] [0] rfl (by decide) rfl (ci := 7) (q0 := 0) rfl rfl) rfl rfl hl.1 rfl (lv_room (Nat.le_of_ble_eq_true rfl)) dX5_lift_62 ⟨Nat.le_of_ble_eq_true rfl, Nat.le_of_ble_eq_true rfl⟩) hP hD hK hS hA [4, 5] [0, 1, 2, 3] rfl rfl (by decide) (by decide) (fun r_8 u H locs hw_9 hP hD hK hS => ?_)
  obtain ⟨⟩ := u
  have hP : va_P (dC, dI) vwCl [(nl, .inl (kI, 12, .inl (upd (fun _ => 0) (0 : Int32).toNatClampNeg 0))), (n1, .inl (kI, 12, .inl (fun _ => 0))), (n2, .inl (kI, 12, .inl (fun _ => 0))), (ns, .inl (kL, 1024, .inr (.inl zSec))), (anod, .inr (7, [.ref nm, .ref nl, .ref n1, .ref n2, .ref nf, .ref ns, .ref nh, .ref nk, .ref np, .int 16, .int 0, .int 16, .int 0, .int 0])), (nm, .inl (kI, 12, .inl (upd (fun _ => 0) (0 : Int32).toNatClampNeg 2)))] H := hP
  have hD : va_D A [(nl, .inl (kI, 12, .inl (upd (fun _ => 0) (0 : Int32).toNatClampNeg 0))), (n1, .inl (kI, 12, .inl (fun _ => 0))), (n2, .inl (kI, 12, .inl (fun _ => 0))), (ns, .inl (kL, 1024, .inr (.inl zSec))), (anod, .inr (7, [.ref nm, .ref nl, .ref n1, .ref n2, .ref nf, .ref ns, .ref nh, .ref nk, .ref np, .int 16, .int 0, .int 16, .int 0, .int 0])), (nm, .inl (kI, 12, .inl (upd (fun _ => 0) (0 : Int32).toNatClampNeg 2)))] := hD
  have hK : va_K (dC, dI) vwCl [(kI, .int), (kL, .long), (kI, .int), (kI, .int), (kI, .int)] s := hK
  have hw_9 : r_8 = (-1048576) := hw_9
  have hw_9 := hw_9.symm
  subst hw_9
  refine lv_aload_n hx hb dX5_lift_65 rfl (lv_at hl 1 rfl) ?_
  refine lv_iload_n hx hb dX5_lift_66 rfl (lv_at hl 4 rfl) ?_
  refine lv_iconst (v := 3) hx hb dX5_lift_67 (by decide) ?_
  refine lv_iload hx hb dX5_lift_68 (lv_at hl 0 rfl) ?_
  refine lv_iadd hx hb dX5_lift_70 ?_
  refine z_top (v' := .int 3) (congrArg Value.int (by decide)) ?_
  refine lv_iconst (v := 0) hx hb dX5_lift_71 (by decide) ?_
  refine z_i (wr := [(nl, .inl (kI, 12, .inl (upd (fun _ => 0) (0 : Int32).toNatClampNeg 0))), (n1, .inl (kI, 12, .inl (fun _ => 0))), (n2, .inl (kI, 12, .inl (fun _ => 0))), (ns, .inl (kL, 1024, .inr (.inl zSec)))]) (va_runV (As := [.int (-1), .int 3, .int 0]) (rest := [.int (-1048576)]) ⟨hx, hb, hml, hown, hts⟩ (c_N_liftOf_3 l eD eI ad dC dI H.size anod nm nl n1 n2 nf ns nh nk np kI ((upd (fun _ => 0) (0 : Int32).toNatClampNeg 2))) (cwV 3 hts g_c_N_lift_2_1 rfl rfl rfl (by decide +kernel) ⟨Nat.le_of_ble_eq_true rfl, Nat.le_of_ble_eq_true rfl⟩) (z_preV (wc := [(anod, .inr (7, [.ref nm, .ref nl, .ref n1, .ref n2, .ref nf, .ref ns, .ref nh, .ref nk, .ref np, .int 16, .int 0, .int 16, .int 0, .int 0])), (nm, .inl (kI, 12, .inl (upd (fun _ => 0) (0 : Int32).toNatClampNeg 2)))]) hP hD hK hS hA hE [4, 5] [0] rfl (by decide) rfl (ci := 7) (q0 := 0) rfl rfl) rfl rfl hl.1 rfl (lv_room (Nat.le_of_ble_eq_true rfl)) dX5_lift_72 ⟨Nat.le_of_ble_eq_true rfl, Nat.le_of_ble_eq_true rfl⟩) hP hD hK hS hA [4, 5] [0, 1, 2, 3] rfl rfl (by decide) (by decide) (fun r_10 u H locs hw_11 hP hD hK hS => ?_)
  obtain ⟨⟩ := u
  have hP : va_P (dC, dI) vwCl [(nl, .inl (kI, 12, .inl (upd (fun _ => 0) (0 : Int32).toNatClampNeg 0))), (n1, .inl (kI, 12, .inl (fun _ => 0))), (n2, .inl (kI, 12, .inl (fun _ => 0))), (ns, .inl (kL, 1024, .inr (.inl zSec))), (anod, .inr (7, [.ref nm, .ref nl, .ref n1, .ref n2, .ref nf, .ref ns, .ref nh, .ref nk, .ref np, .int 16, .int 0, .int 16, .int 0, .int 0])), (nm, .inl (kI, 12, .inl (upd (fun _ => 0) (0 : Int32).toNatClampNeg 2)))] H := hP
  have hD : va_D A [(nl, .inl (kI, 12, .inl (upd (fun _ => 0) (0 : Int32).toNatClampNeg 0))), (n1, .inl (kI, 12, .inl (fun _ => 0))), (n2, .inl (kI, 12, .inl (fun _ => 0))), (ns, .inl (kL, 1024, .inr (.inl zSec))), (anod, .inr (7, [.ref nm, .ref nl, .ref n1, .ref n2, .ref nf, .ref ns, .ref nh, .ref nk, .ref np, .int 16, .int 0, .int 16, .int 0, .int 0])), (nm, .inl (kI, 12, .inl (upd (fun _ => 0) (0 : Int32).toNatClampNeg 2)))] := hD
  have hK : va_K (dC, dI) vwCl [(kI, .int), (kL, .long), (kI, .int), (kI, .int), (kI, .int), (kI, .int)] s := hK
  have hw_11 : r_10 = (-1048576) := hw_11
  have hw_11 := hw_11.symm
  subst hw_11
  refine va_mmax hx hb (hml.trans hl.1.symm) hown (hts (.methodLink RX5 78 Lib.Math.max.name) (by decide +kernel)) (hts (.static Lib.Math.max.name) (by decide +kernel)) (hts (.initialized "java/lang/Math") (by decide +kernel)) (hts (.code Lib.Math.max.name Lib.Math.max.code 2 (some .int)) (by decide +kernel)) (Nat.le_of_ble_eq_true rfl) (Nat.le_of_ble_eq_true rfl) (Nat.le_of_ble_eq_true rfl) (Nat.le_of_ble_eq_true rfl) dX5_lift_75 ?_
  refine z_top (v' := .int (-1048576)) (congrArg Value.int (by decide)) ?_
  refine lv_istore (lv' := [(5, .int (-1048576)), (4, .int 0), (0, .ref anod), (1, .int 0), (2, .int (-1)), (3, .int (-1))]) hx hb dX5_lift_78 hl (by decide) rfl (fun ls hl => ?_)
  refine lv_iload hx hb dX5_lift_80 (lv_at hl 1 rfl) ?_
  refine lv_if_ne (tgt := 100) hx hb dX5_lift_82 (by decide) (fun c_12 => ?_) (fun c_12 => ?_)
  · exact absurd (by decide) c_12
  refine lv_aload_n hx hb dX5_lift_85 rfl (lv_at hl 2 rfl) ?_
  refine va_get (D := (dC, dI)) (ci := 7) (v := .ref n1) (C := RX5) (T := TX5) (N := 14) hx hb hts in_RX5 hown hK hP 4 rfl rfl 2 (by decide) (hts (.fieldLink RX5 18 "Hornbook$Nodes" "overOne" "[I") (by decide +kernel)) (fun _ h9 => h9) rfl dX5_lift_86 ?_
  refine lv_iload_n hx hb dX5_lift_89 rfl (lv_at hl 3 rfl) ?_
  refine lv_iconst (v := 1) hx hb dX5_lift_90 (by decide) ?_
  refine lv_iload hx hb dX5_lift_91 (lv_at hl 0 rfl) ?_
  refine va_mmax hx hb (hml.trans hl.1.symm) hown (hts (.methodLink RX5 78 Lib.Math.max.name) (by decide +kernel)) (hts (.static Lib.Math.max.name) (by decide +kernel)) (hts (.initialized "java/lang/Math") (by decide +kernel)) (hts (.code Lib.Math.max.name Lib.Math.max.code 2 (some .int)) (by decide +kernel)) (Nat.le_of_ble_eq_true rfl) (Nat.le_of_ble_eq_true rfl) (Nat.le_of_ble_eq_true rfl) (Nat.le_of_ble_eq_true rfl) dX5_lift_93 ?_
  refine z_top (v' := .int 1) (congrArg Value.int (by decide)) ?_
  refine va_iast (D := (dC, dI)) hx hb hK hP hD hS 1 0 rfl rfl (by unfold vp_in; decide) dX5_lift_96 (fun H locs hP hD hS => ?_)
  have hP : va_P (dC, dI) vwCl [(nl, .inl (kI, 12, .inl (upd (fun _ => 0) (0 : Int32).toNatClampNeg 0))), (n1, .inl (kI, 12, .inl (upd (fun _ => 0) (0 : Int32).toNatClampNeg 1))), (n2, .inl (kI, 12, .inl (fun _ => 0))), (ns, .inl (kL, 1024, .inr (.inl zSec))), (anod, .inr (7, [.ref nm, .ref nl, .ref n1, .ref n2, .ref nf, .ref ns, .ref nh, .ref nk, .ref np, .int 16, .int 0, .int 16, .int 0, .int 0])), (nm, .inl (kI, 12, .inl (upd (fun _ => 0) (0 : Int32).toNatClampNeg 2)))] H := hP
  have hD : va_D A [(nl, .inl (kI, 12, .inl (upd (fun _ => 0) (0 : Int32).toNatClampNeg 0))), (n1, .inl (kI, 12, .inl (upd (fun _ => 0) (0 : Int32).toNatClampNeg 1))), (n2, .inl (kI, 12, .inl (fun _ => 0))), (ns, .inl (kL, 1024, .inr (.inl zSec))), (anod, .inr (7, [.ref nm, .ref nl, .ref n1, .ref n2, .ref nf, .ref ns, .ref nh, .ref nk, .ref np, .int 16, .int 0, .int 16, .int 0, .int 0])), (nm, .inl (kI, 12, .inl (upd (fun _ => 0) (0 : Int32).toNatClampNeg 2)))] := hD
  refine lv_goto (tgt := 112) hx hb dX5_lift_97 (by decide) ?_
  refine lv_iinc (v := 1) (lv' := [(4, .int 1), (5, .int (-1048576)), (0, .ref anod), (1, .int 0), (2, .int (-1)), (3, .int (-1))]) hx hb dX5_lift_112 hl (k := 1) rfl (by decide) (by decide) rfl (fun ls hl => ?_)
  refine lv_goto (tgt := 44) hx hb dX5_lift_115 (by decide) ?_
  refine lv_iload hx hb dX5_lift_44 (lv_at hl 0 rfl) ?_
  refine lv_aload_n hx hb dX5_lift_46 rfl (lv_at hl 2 rfl) ?_
  refine va_get (D := (dC, dI)) (ci := 7) (v := .ref nm) (C := RX5) (T := TX5) (N := 14) hx hb hts in_RX5 hown hK hP 4 rfl rfl 0 (by decide) (hts (.fieldLink RX5 9 "Hornbook$Nodes" "many" "[I") (by decide +kernel)) (fun _ h9 => h9) rfl dX5_lift_47 ?_
  refine lv_iload_n hx hb dX5_lift_50 rfl (lv_at hl 3 rfl) ?_
  refine va_iald (D := (dC, dI)) hx hb hK hP 5 0 rfl rfl (by unfold vp_in; decide) dX5_lift_51 ?_
  refine z_top (v' := .int 2) (congrArg Value.int (by first | rfl | decide)) ?_
  refine lv_icmp_ge (tgt := 118) hx hb dX5_lift_52 (by decide) (fun c_13 => ?_) (fun c_13 => ?_)
  · exact absurd c_13 (by decide)
  refine lv_aload_n hx hb dX5_lift_55 rfl (lv_at hl 2 rfl) ?_
  refine lv_iload_n hx hb dX5_lift_56 rfl (lv_at hl 4 rfl) ?_
  refine lv_iconst (v := 3) hx hb dX5_lift_57 (by decide) ?_
  refine lv_iload hx hb dX5_lift_58 (lv_at hl 0 rfl) ?_
  refine lv_iadd hx hb dX5_lift_60 ?_
  refine z_top (v' := .int 4) (congrArg Value.int (by decide)) ?_
  refine lv_iconst (v := 0) hx hb dX5_lift_61 (by decide) ?_
  refine z_i (wr := [(nl, .inl (kI, 12, .inl (upd (fun _ => 0) (0 : Int32).toNatClampNeg 0))), (n1, .inl (kI, 12, .inl (upd (fun _ => 0) (0 : Int32).toNatClampNeg 1))), (n2, .inl (kI, 12, .inl (fun _ => 0))), (ns, .inl (kL, 1024, .inr (.inl zSec)))]) (va_runV (As := [.int (-1), .int 4, .int 0]) (rest := []) ⟨hx, hb, hml, hown, hts⟩ (c_N_liftOf_4 l eD eI ad dC dI H.size anod nm nl n1 n2 nf ns nh nk np kI ((upd (fun _ => 0) (0 : Int32).toNatClampNeg 2))) (cwV 3 hts g_c_N_lift_2_2 rfl rfl rfl (by decide +kernel) ⟨Nat.le_of_ble_eq_true rfl, Nat.le_of_ble_eq_true rfl⟩) (z_preV (wc := [(anod, .inr (7, [.ref nm, .ref nl, .ref n1, .ref n2, .ref nf, .ref ns, .ref nh, .ref nk, .ref np, .int 16, .int 0, .int 16, .int 0, .int 0])), (nm, .inl (kI, 12, .inl (upd (fun _ => 0) (0 : Int32).toNatClampNeg 2)))]) hP hD hK hS hA hE [4, 5] [0] rfl (by decide) rfl (ci := 7) (q0 := 0) rfl rfl) rfl rfl hl.1 rfl (lv_room (Nat.le_of_ble_eq_true rfl)) dX5_lift_62 ⟨Nat.le_of_ble_eq_true rfl, Nat.le_of_ble_eq_true rfl⟩) hP hD hK hS hA [4, 5] [0, 1, 2, 3] rfl rfl (by decide) (by decide) (fun r_14 u H locs hw_15 hP hD hK hS => ?_)
  obtain ⟨⟩ := u
  have hP : va_P (dC, dI) vwCl [(nl, .inl (kI, 12, .inl (upd (fun _ => 0) (0 : Int32).toNatClampNeg 0))), (n1, .inl (kI, 12, .inl (upd (fun _ => 0) (0 : Int32).toNatClampNeg 1))), (n2, .inl (kI, 12, .inl (fun _ => 0))), (ns, .inl (kL, 1024, .inr (.inl zSec))), (anod, .inr (7, [.ref nm, .ref nl, .ref n1, .ref n2, .ref nf, .ref ns, .ref nh, .ref nk, .ref np, .int 16, .int 0, .int 16, .int 0, .int 0])), (nm, .inl (kI, 12, .inl (upd (fun _ => 0) (0 : Int32).toNatClampNeg 2)))] H := hP
  have hD : va_D A [(nl, .inl (kI, 12, .inl (upd (fun _ => 0) (0 : Int32).toNatClampNeg 0))), (n1, .inl (kI, 12, .inl (upd (fun _ => 0) (0 : Int32).toNatClampNeg 1))), (n2, .inl (kI, 12, .inl (fun _ => 0))), (ns, .inl (kL, 1024, .inr (.inl zSec))), (anod, .inr (7, [.ref nm, .ref nl, .ref n1, .ref n2, .ref nf, .ref ns, .ref nh, .ref nk, .ref np, .int 16, .int 0, .int 16, .int 0, .int 0])), (nm, .inl (kI, 12, .inl (upd (fun _ => 0) (0 : Int32).toNatClampNeg 2)))] := hD
  have hK : va_K (dC, dI) vwCl [(kI, .int), (kL, .long), (kI, .int), (kI, .int), (kI, .int), (kI, .int), (kI, .int)] s := hK
  have hw_15 : r_14 = (-1048576) := hw_15
  have hw_15 := hw_15.symm
  subst hw_15
  refine lv_aload_n hx hb dX5_lift_65 rfl (lv_at hl 2 rfl) ?_
  refine lv_iload_n hx hb dX5_lift_66 rfl (lv_at hl 5 rfl) ?_
  refine lv_iconst (v := 3) hx hb dX5_lift_67 (by decide) ?_
  refine lv_iload hx hb dX5_lift_68 (lv_at hl 0 rfl) ?_
  refine lv_iadd hx hb dX5_lift_70 ?_
  refine z_top (v' := .int 4) (congrArg Value.int (by decide)) ?_
  refine lv_iconst (v := 0) hx hb dX5_lift_71 (by decide) ?_
  refine z_i (wr := [(nl, .inl (kI, 12, .inl (upd (fun _ => 0) (0 : Int32).toNatClampNeg 0))), (n1, .inl (kI, 12, .inl (upd (fun _ => 0) (0 : Int32).toNatClampNeg 1))), (n2, .inl (kI, 12, .inl (fun _ => 0))), (ns, .inl (kL, 1024, .inr (.inl zSec)))]) (va_runV (As := [.int (-1), .int 4, .int 0]) (rest := [.int (-1048576)]) ⟨hx, hb, hml, hown, hts⟩ (c_N_liftOf_4 l eD eI ad dC dI H.size anod nm nl n1 n2 nf ns nh nk np kI ((upd (fun _ => 0) (0 : Int32).toNatClampNeg 2))) (cwV 3 hts g_c_N_lift_2_2 rfl rfl rfl (by decide +kernel) ⟨Nat.le_of_ble_eq_true rfl, Nat.le_of_ble_eq_true rfl⟩) (z_preV (wc := [(anod, .inr (7, [.ref nm, .ref nl, .ref n1, .ref n2, .ref nf, .ref ns, .ref nh, .ref nk, .ref np, .int 16, .int 0, .int 16, .int 0, .int 0])), (nm, .inl (kI, 12, .inl (upd (fun _ => 0) (0 : Int32).toNatClampNeg 2)))]) hP hD hK hS hA hE [4, 5] [0] rfl (by decide) rfl (ci := 7) (q0 := 0) rfl rfl) rfl rfl hl.1 rfl (lv_room (Nat.le_of_ble_eq_true rfl)) dX5_lift_72 ⟨Nat.le_of_ble_eq_true rfl, Nat.le_of_ble_eq_true rfl⟩) hP hD hK hS hA [4, 5] [0, 1, 2, 3] rfl rfl (by decide) (by decide) (fun r_16 u H locs hw_17 hP hD hK hS => ?_)
  obtain ⟨⟩ := u
  have hP : va_P (dC, dI) vwCl [(nl, .inl (kI, 12, .inl (upd (fun _ => 0) (0 : Int32).toNatClampNeg 0))), (n1, .inl (kI, 12, .inl (upd (fun _ => 0) (0 : Int32).toNatClampNeg 1))), (n2, .inl (kI, 12, .inl (fun _ => 0))), (ns, .inl (kL, 1024, .inr (.inl zSec))), (anod, .inr (7, [.ref nm, .ref nl, .ref n1, .ref n2, .ref nf, .ref ns, .ref nh, .ref nk, .ref np, .int 16, .int 0, .int 16, .int 0, .int 0])), (nm, .inl (kI, 12, .inl (upd (fun _ => 0) (0 : Int32).toNatClampNeg 2)))] H := hP
  have hD : va_D A [(nl, .inl (kI, 12, .inl (upd (fun _ => 0) (0 : Int32).toNatClampNeg 0))), (n1, .inl (kI, 12, .inl (upd (fun _ => 0) (0 : Int32).toNatClampNeg 1))), (n2, .inl (kI, 12, .inl (fun _ => 0))), (ns, .inl (kL, 1024, .inr (.inl zSec))), (anod, .inr (7, [.ref nm, .ref nl, .ref n1, .ref n2, .ref nf, .ref ns, .ref nh, .ref nk, .ref np, .int 16, .int 0, .int 16, .int 0, .int 0])), (nm, .inl (kI, 12, .inl (upd (fun _ => 0) (0 : Int32).toNatClampNeg 2)))] := hD
  have hK : va_K (dC, dI) vwCl [(kI, .int), (kL, .long), (kI, .int), (kI, .int), (kI, .int), (kI, .int), (kI, .int), (kI, .int)] s := hK
  have hw_17 : r_16 = (-1048576) := hw_17
  have hw_17 := hw_17.symm
  subst hw_17
  refine va_mmax hx hb (hml.trans hl.1.symm) hown (hts (.methodLink RX5 78 Lib.Math.max.name) (by decide +kernel)) (hts (.static Lib.Math.max.name) (by decide +kernel)) (hts (.initialized "java/lang/Math") (by decide +kernel)) (hts (.code Lib.Math.max.name Lib.Math.max.code 2 (some .int)) (by decide +kernel)) (Nat.le_of_ble_eq_true rfl) (Nat.le_of_ble_eq_true rfl) (Nat.le_of_ble_eq_true rfl) (Nat.le_of_ble_eq_true rfl) dX5_lift_75 ?_
  refine z_top (v' := .int (-1048576)) (congrArg Value.int (by decide)) ?_
  refine lv_istore (lv' := [(5, .int (-1048576)), (4, .int 1), (0, .ref anod), (1, .int 0), (2, .int (-1)), (3, .int (-1))]) hx hb dX5_lift_78 hl (by decide) rfl (fun ls hl => ?_)
  refine lv_iload hx hb dX5_lift_80 (lv_at hl 1 rfl) ?_
  refine lv_if_ne (tgt := 100) hx hb dX5_lift_82 (by decide) (fun c_18 => ?_) (fun c_18 => ?_)
  rotate_left
  · exact absurd c_18 (by decide)
  refine lv_aload_n hx hb dX5_lift_100 rfl (lv_at hl 2 rfl) ?_
  refine va_get (D := (dC, dI)) (ci := 7) (v := .ref n2) (C := RX5) (T := TX5) (N := 14) hx hb hts in_RX5 hown hK hP 4 rfl rfl 3 (by decide) (hts (.fieldLink RX5 21 "Hornbook$Nodes" "overOther" "[I") (by decide +kernel)) (fun _ h9 => h9) rfl dX5_lift_101 ?_
  refine lv_iload_n hx hb dX5_lift_104 rfl (lv_at hl 3 rfl) ?_
  refine lv_iconst (v := 1) hx hb dX5_lift_105 (by decide) ?_
  refine lv_iload hx hb dX5_lift_106 (lv_at hl 0 rfl) ?_
  refine va_mmax hx hb (hml.trans hl.1.symm) hown (hts (.methodLink RX5 78 Lib.Math.max.name) (by decide +kernel)) (hts (.static Lib.Math.max.name) (by decide +kernel)) (hts (.initialized "java/lang/Math") (by decide +kernel)) (hts (.code Lib.Math.max.name Lib.Math.max.code 2 (some .int)) (by decide +kernel)) (Nat.le_of_ble_eq_true rfl) (Nat.le_of_ble_eq_true rfl) (Nat.le_of_ble_eq_true rfl) (Nat.le_of_ble_eq_true rfl) dX5_lift_108 ?_
  refine z_top (v' := .int 1) (congrArg Value.int (by decide)) ?_
  refine va_iast (D := (dC, dI)) hx hb hK hP hD hS 2 0 rfl rfl (by unfold vp_in; decide) dX5_lift_111 (fun H locs hP hD hS => ?_)
  have hP : va_P (dC, dI) vwCl [(nl, .inl (kI, 12, .inl (upd (fun _ => 0) (0 : Int32).toNatClampNeg 0))), (n1, .inl (kI, 12, .inl (upd (fun _ => 0) (0 : Int32).toNatClampNeg 1))), (n2, .inl (kI, 12, .inl (upd (fun _ => 0) (0 : Int32).toNatClampNeg 1))), (ns, .inl (kL, 1024, .inr (.inl zSec))), (anod, .inr (7, [.ref nm, .ref nl, .ref n1, .ref n2, .ref nf, .ref ns, .ref nh, .ref nk, .ref np, .int 16, .int 0, .int 16, .int 0, .int 0])), (nm, .inl (kI, 12, .inl (upd (fun _ => 0) (0 : Int32).toNatClampNeg 2)))] H := hP
  have hD : va_D A [(nl, .inl (kI, 12, .inl (upd (fun _ => 0) (0 : Int32).toNatClampNeg 0))), (n1, .inl (kI, 12, .inl (upd (fun _ => 0) (0 : Int32).toNatClampNeg 1))), (n2, .inl (kI, 12, .inl (upd (fun _ => 0) (0 : Int32).toNatClampNeg 1))), (ns, .inl (kL, 1024, .inr (.inl zSec))), (anod, .inr (7, [.ref nm, .ref nl, .ref n1, .ref n2, .ref nf, .ref ns, .ref nh, .ref nk, .ref np, .int 16, .int 0, .int 16, .int 0, .int 0])), (nm, .inl (kI, 12, .inl (upd (fun _ => 0) (0 : Int32).toNatClampNeg 2)))] := hD
  refine lv_iinc (v := 2) (lv' := [(4, .int 2), (5, .int (-1048576)), (0, .ref anod), (1, .int 0), (2, .int (-1)), (3, .int (-1))]) hx hb dX5_lift_112 hl (k := 1) rfl (by decide) (by decide) rfl (fun ls hl => ?_)
  refine lv_goto (tgt := 44) hx hb dX5_lift_115 (by decide) ?_
  refine lv_iload hx hb dX5_lift_44 (lv_at hl 0 rfl) ?_
  refine lv_aload_n hx hb dX5_lift_46 rfl (lv_at hl 2 rfl) ?_
  refine va_get (D := (dC, dI)) (ci := 7) (v := .ref nm) (C := RX5) (T := TX5) (N := 14) hx hb hts in_RX5 hown hK hP 4 rfl rfl 0 (by decide) (hts (.fieldLink RX5 9 "Hornbook$Nodes" "many" "[I") (by decide +kernel)) (fun _ h9 => h9) rfl dX5_lift_47 ?_
  refine lv_iload_n hx hb dX5_lift_50 rfl (lv_at hl 3 rfl) ?_
  refine va_iald (D := (dC, dI)) hx hb hK hP 5 0 rfl rfl (by unfold vp_in; decide) dX5_lift_51 ?_
  refine z_top (v' := .int 2) (congrArg Value.int (by first | rfl | decide)) ?_
  refine lv_icmp_ge (tgt := 118) hx hb dX5_lift_52 (by decide) (fun c_19 => ?_) (fun c_19 => ?_)
  rotate_left
  · exact absurd (by decide) c_19
  have hP9 := hP.sub (ws' := [(anod, .inr (7, [.ref nm, .ref nl, .ref n1, .ref n2, .ref nf, .ref ns, .ref nh, .ref nk, .ref np, .int 16, .int 0, .int 16, .int 0, .int 0]))]) [4] rfl
  have hD9 := hD.sub (ws' := [(anod, .inr (7, [.ref nm, .ref nl, .ref n1, .ref n2, .ref nf, .ref ns, .ref nh, .ref nk, .ref np, .int 16, .int 0, .int 16, .int 0, .int 0]))]) [4] (by decide) rfl
  have hK9 := hK.sub (tys' := []) [] rfl
  refine W.widen (k := 0) (n := 0) (Nat.le_of_ble_eq_true rfl) (Nat.le_of_ble_eq_true rfl) ?_
  exact W.vret hx hb hr (fun t ht hW => ⟨⟨(), rfl, trivial, ⟨by rw [ht]; exact hP9, va_K.moved hW.alike hK9, hD9⟩⟩, hS.F ht⟩) hS.2.2 dX5_lift_118

def wb_c_R_told_n : List Cond := []
def w_c_R_told_n : List Cond := .code yX7_toldAt cX7_toldAt 2 (some .int) :: wb_c_R_told_n
set_option maxHeartbeats 4000000 in
set_option maxRecDepth 100000 in
theorem c_R_told_n (l : Launch) (eD eI : Nat) (ad : Nat → Nat) (dC : Nat → ClassId) (dI : Nat → Nat → Nat) (sz : Nat) (aroom : Nat) (anod : Nat) (asort : Nat) (atold : Nat) (aheld : Nat) (apair : Nat) (astep : Nat) (asize : Nat) : Met l yX7_toldAt w_c_R_told_n ({ frames := 0, cells := 0, slots := 0, locals := 0 }) (va_Pc [.ref aroom, .int (-1)] (zPre eD eI ad (dC, dI) [(aroom, .inr (9, [.ref asort, .ref anod, .ref atold, .int 3, .ref aheld, .int 0, .ref apair, .ref astep, .int 0, .int 0, .int (-1), .int 0, .int 0, .ref asize]))] [] sz)) (va_Qi (fun (r : Int32) (_ : Unit) => r = (-1)) (fun (_ : Unit) => zEnd (dC, dI) (va_A [(aroom, .inr (9, [.ref asort, .ref anod, .ref atold, .int 3, .ref aheld, .int 0, .ref apair, .ref astep, .int 0, .int 0, .int (-1), .int 0, .int 0, .ref asize]))] sz) [(aroom, .inr (9, [.ref asort, .ref anod, .ref atold, .int 3, .ref aheld, .int 0, .ref apair, .ref astep, .int 0, .int 0, .int (-1), .int 0, .int 0, .ref asize]))] []) (va_A [(aroom, .inr (9, [.ref asort, .ref anod, .ref atold, .int 3, .ref aheld, .int 0, .ref apair, .ref astep, .int 0, .int 0, .int (-1), .int 0, .int 0, .ref asize]))] sz)) 0 0 (va_A [(aroom, .inr (9, [.ref asort, .ref anod, .ref atold, .int 3, .ref aheld, .int 0, .ref apair, .ref astep, .int 0, .int 0, .int (-1), .int 0, .int 0, .ref asize]))] sz) := by
  refine Met.ofW (cc := cX7_toldAt) (maxL := 2) (ret := (some .int)) (by decide) rfl ?_
  intro p e s m args below meth c s₁ B hml hv
  obtain ⟨rfl, hsz, hP, hK, hD0, hE⟩ := hv
  have hx := B.exec
  have hb := B.bytes
  have hr := B.returns
  have hts := atoms_spec (ws := w_c_R_told_n) B.pre
  have hown : s.vm.findClass RX7 = some m.cls := findClass_of_methodNamed B.named
  have hlocks := B.notSynchronized
  subst hsz
  have hD := hD0.self (sz := s.heap.size)
  generalize hAe : va_A [(aroom, .inr (9, [.ref asort, .ref anod, .ref atold, .int 3, .ref aheld, .int 0, .ref apair, .ref astep, .int 0, .int 0, .int (-1), .int 0, .int 0, .ref asize]))] s.heap.size = A at hD hE ⊢
  have hA : ∀ q : Nat, s.heap.size ≤ q → A q := fun q h => by rw [← hAe]; exact Or.inr h
  have hS : va_S A s.heap s.heap [] := va_S.rf
  have hP : va_P (dC, dI) vwCl [(aroom, .inr (9, [.ref asort, .ref anod, .ref atold, .int 3, .ref aheld, .int 0, .ref apair, .ref astep, .int 0, .int 0, .int (-1), .int 0, .int 0, .ref asize]))] s.heap := hP
  have hl := lv_entry ([.ref aroom, .int (-1)]) (n := 2) (Nat.le_of_ble_eq_true rfl)
  rw [lg_entry_eq]
  generalize (lg_sl ([.ref aroom, .int (-1)]) ++ List.replicate (2 - (lg_sl ([.ref aroom, .int (-1)])).length) Slot.unset).toArray = ls at hl ⊢
  have hl : lv_has ls 2 [(0, .ref aroom), (1, .int (-1))] := hl
  refine lv_iload_n hx hb dX7_toldAt_0 rfl (lv_at hl 1 rfl) ?_
  refine lv_if_lt (tgt := 21) hx hb dX7_toldAt_1 (by decide) (fun c_1 => ?_) (fun c_1 => ?_)
  rotate_left
  · exact absurd (by decide) c_1
  refine lv_iconst (v := (-1)) hx hb dX7_toldAt_21 (by decide) ?_
  refine lv_goto (tgt := 31) hx hb dX7_toldAt_22 (by decide) ?_
  have hP9 := hP.sub (ws' := [(aroom, .inr (9, [.ref asort, .ref anod, .ref atold, .int 3, .ref aheld, .int 0, .ref apair, .ref astep, .int 0, .int 0, .int (-1), .int 0, .int 0, .ref asize]))]) [0] rfl
  have hD9 := hD.sub (ws' := [(aroom, .inr (9, [.ref asort, .ref anod, .ref atold, .int 3, .ref aheld, .int 0, .ref apair, .ref astep, .int 0, .int 0, .int (-1), .int 0, .int 0, .ref asize]))]) [0] (by decide) rfl
  have hK9 := hK.sub (tys' := []) [] rfl
  refine W.widen (k := 0) (n := 0) (Nat.le_of_ble_eq_true rfl) (Nat.le_of_ble_eq_true rfl) ?_
  exact W.iret (v := (-1)) hx hb hr (fun t ht hW => ⟨⟨(-1), (), rfl, rfl, ⟨by rw [ht]; exact hP9, va_K.moved hW.alike hK9, hD9⟩⟩, hS.F ht⟩) hS.2.2 dX7_toldAt_31

def wb_c_R_told_0 : List Cond := [.fieldLink RX7 29 "Hornbook$Room" "tellings" "I", .fieldLink RX7 25 "Hornbook$Room" "told" "[I"] ++ u_ws RX7 TX7 14
def w_c_R_told_0 : List Cond := .code yX7_toldAt cX7_toldAt 2 (some .int) :: wb_c_R_told_0
set_option maxHeartbeats 4000000 in
set_option maxRecDepth 100000 in
theorem c_R_told_0 (l : Launch) (eD eI : Nat) (ad : Nat → Nat) (dC : Nat → ClassId) (dI : Nat → Nat → Nat) (sz : Nat) (aroom : Nat) (anod : Nat) (asort : Nat) (atold : Nat) (aheld : Nat) (apair : Nat) (astep : Nat) (asize : Nat) (kI : ClassId) : Met l yX7_toldAt w_c_R_told_0 ({ frames := 0, cells := 0, slots := 0, locals := 0 }) (va_Pc [.ref aroom, .int 0] (zPre eD eI ad (dC, dI) [(aroom, .inr (9, [.ref asort, .ref anod, .ref atold, .int 3, .ref aheld, .int 0, .ref apair, .ref astep, .int 0, .int 0, .int (-1), .int 0, .int 0, .ref asize])), (atold, .inl (kI, 60, .inl zTold))] [(kI, .int)] sz)) (va_Qi (fun (r : Int32) (_ : Unit) => r = 0) (fun (_ : Unit) => zEnd (dC, dI) (va_A [(aroom, .inr (9, [.ref asort, .ref anod, .ref atold, .int 3, .ref aheld, .int 0, .ref apair, .ref astep, .int 0, .int 0, .int (-1), .int 0, .int 0, .ref asize])), (atold, .inl (kI, 60, .inl zTold))] sz) [(aroom, .inr (9, [.ref asort, .ref anod, .ref atold, .int 3, .ref aheld, .int 0, .ref apair, .ref astep, .int 0, .int 0, .int (-1), .int 0, .int 0, .ref asize])), (atold, .inl (kI, 60, .inl zTold))] [(kI, .int)]) (va_A [(aroom, .inr (9, [.ref asort, .ref anod, .ref atold, .int 3, .ref aheld, .int 0, .ref apair, .ref astep, .int 0, .int 0, .int (-1), .int 0, .int 0, .ref asize])), (atold, .inl (kI, 60, .inl zTold))] sz)) 0 0 (va_A [(aroom, .inr (9, [.ref asort, .ref anod, .ref atold, .int 3, .ref aheld, .int 0, .ref apair, .ref astep, .int 0, .int 0, .int (-1), .int 0, .int 0, .ref asize])), (atold, .inl (kI, 60, .inl zTold))] sz) := by
  refine Met.ofW (cc := cX7_toldAt) (maxL := 2) (ret := (some .int)) (by decide) rfl ?_
  intro p e s m args below meth c s₁ B hml hv
  obtain ⟨rfl, hsz, hP, hK, hD0, hE⟩ := hv
  have hx := B.exec
  have hb := B.bytes
  have hr := B.returns
  have hts := atoms_spec (ws := w_c_R_told_0) B.pre
  have hown : s.vm.findClass RX7 = some m.cls := findClass_of_methodNamed B.named
  have hlocks := B.notSynchronized
  subst hsz
  have hD := hD0.self (sz := s.heap.size)
  generalize hAe : va_A [(aroom, .inr (9, [.ref asort, .ref anod, .ref atold, .int 3, .ref aheld, .int 0, .ref apair, .ref astep, .int 0, .int 0, .int (-1), .int 0, .int 0, .ref asize])), (atold, .inl (kI, 60, .inl zTold))] s.heap.size = A at hD hE ⊢
  have hA : ∀ q : Nat, s.heap.size ≤ q → A q := fun q h => by rw [← hAe]; exact Or.inr h
  have hS : va_S A s.heap s.heap [] := va_S.rf
  have hP : va_P (dC, dI) vwCl [(aroom, .inr (9, [.ref asort, .ref anod, .ref atold, .int 3, .ref aheld, .int 0, .ref apair, .ref astep, .int 0, .int 0, .int (-1), .int 0, .int 0, .ref asize])), (atold, .inl (kI, 60, .inl zTold))] s.heap := hP
  have hl := lv_entry ([.ref aroom, .int 0]) (n := 2) (Nat.le_of_ble_eq_true rfl)
  rw [lg_entry_eq]
  generalize (lg_sl ([.ref aroom, .int 0]) ++ List.replicate (2 - (lg_sl ([.ref aroom, .int 0])).length) Slot.unset).toArray = ls at hl ⊢
  have hl : lv_has ls 2 [(0, .ref aroom), (1, .int 0)] := hl
  have in_RX7 : ∀ w ∈ u_ws RX7 TX7 14, w ∈ w_c_R_told_0 := by decide +kernel
  refine lv_iload_n hx hb dX7_toldAt_0 rfl (lv_at hl 1 rfl) ?_
  refine lv_if_lt (tgt := 21) hx hb dX7_toldAt_1 (by decide) (fun c_1 => ?_) (fun c_1 => ?_)
  · exact absurd c_1 (by decide)
  refine lv_iload_n hx hb dX7_toldAt_4 rfl (lv_at hl 1 rfl) ?_
  refine lv_aload_n hx hb dX7_toldAt_5 rfl (lv_at hl 0 rfl) ?_
  refine va_get (D := (dC, dI)) (ci := 9) (v := .int 3) (C := RX7) (T := TX7) (N := 14) hx hb hts in_RX7 hown hK hP 0 rfl rfl 3 (by decide) (hts (.fieldLink RX7 29 "Hornbook$Room" "tellings" "I") (by decide +kernel)) (fun _ h9 => h9) rfl dX7_toldAt_6 ?_
  refine lv_icmp_ge (tgt := 21) hx hb dX7_toldAt_9 (by decide) (fun c_2 => ?_) (fun c_2 => ?_)
  · exact absurd c_2 (by decide)
  refine lv_iload_n hx hb dX7_toldAt_12 rfl (lv_at hl 1 rfl) ?_
  refine lv_aload_n hx hb dX7_toldAt_13 rfl (lv_at hl 0 rfl) ?_
  refine va_get (D := (dC, dI)) (ci := 9) (v := .ref atold) (C := RX7) (T := TX7) (N := 14) hx hb hts in_RX7 hown hK hP 0 rfl rfl 2 (by decide) (hts (.fieldLink RX7 25 "Hornbook$Room" "told" "[I") (by decide +kernel)) (fun _ h9 => h9) rfl dX7_toldAt_14 ?_
  refine va_alen (D := (dC, dI)) (v := 60) hx hb hK hP 1 0 rfl rfl rfl dX7_toldAt_17 ?_
  refine lv_icmp_lt (tgt := 25) hx hb dX7_toldAt_18 (by decide) (fun c_3 => ?_) (fun c_3 => ?_)
  rotate_left
  · exact absurd (by decide) c_3
  refine lv_aload_n hx hb dX7_toldAt_25 rfl (lv_at hl 0 rfl) ?_
  refine va_get (D := (dC, dI)) (ci := 9) (v := .ref atold) (C := RX7) (T := TX7) (N := 14) hx hb hts in_RX7 hown hK hP 0 rfl rfl 2 (by decide) (hts (.fieldLink RX7 25 "Hornbook$Room" "told" "[I") (by decide +kernel)) (fun _ h9 => h9) rfl dX7_toldAt_26 ?_
  refine lv_iload_n hx hb dX7_toldAt_29 rfl (lv_at hl 1 rfl) ?_
  refine va_iald (D := (dC, dI)) hx hb hK hP 1 0 rfl rfl (by unfold vp_in; decide) dX7_toldAt_30 ?_
  refine z_top (v' := .int 0) (congrArg Value.int (by first | rfl | decide)) ?_
  have hP9 := hP.sub (ws' := [(aroom, .inr (9, [.ref asort, .ref anod, .ref atold, .int 3, .ref aheld, .int 0, .ref apair, .ref astep, .int 0, .int 0, .int (-1), .int 0, .int 0, .ref asize])), (atold, .inl (kI, 60, .inl zTold))]) [0, 1] rfl
  have hD9 := hD.sub (ws' := [(aroom, .inr (9, [.ref asort, .ref anod, .ref atold, .int 3, .ref aheld, .int 0, .ref apair, .ref astep, .int 0, .int 0, .int (-1), .int 0, .int 0, .ref asize])), (atold, .inl (kI, 60, .inl zTold))]) [0, 1] (by decide) rfl
  have hK9 := hK.sub (tys' := [(kI, .int)]) [0] rfl
  refine W.widen (k := 0) (n := 0) (Nat.le_of_ble_eq_true rfl) (Nat.le_of_ble_eq_true rfl) ?_
  exact W.iret (v := 0) hx hb hr (fun t ht hW => ⟨⟨0, (), rfl, rfl, ⟨by rw [ht]; exact hP9, va_K.moved hW.alike hK9, hD9⟩⟩, hS.F ht⟩) hS.2.2 dX7_toldAt_31

def wb_c_R_told_1 : List Cond := [.fieldLink RX7 29 "Hornbook$Room" "tellings" "I", .fieldLink RX7 25 "Hornbook$Room" "told" "[I"] ++ u_ws RX7 TX7 14
def w_c_R_told_1 : List Cond := .code yX7_toldAt cX7_toldAt 2 (some .int) :: wb_c_R_told_1
set_option maxHeartbeats 4000000 in
set_option maxRecDepth 100000 in
theorem c_R_told_1 (l : Launch) (eD eI : Nat) (ad : Nat → Nat) (dC : Nat → ClassId) (dI : Nat → Nat → Nat) (sz : Nat) (aroom : Nat) (anod : Nat) (asort : Nat) (atold : Nat) (aheld : Nat) (apair : Nat) (astep : Nat) (asize : Nat) (kI : ClassId) : Met l yX7_toldAt w_c_R_told_1 ({ frames := 0, cells := 0, slots := 0, locals := 0 }) (va_Pc [.ref aroom, .int 1] (zPre eD eI ad (dC, dI) [(aroom, .inr (9, [.ref asort, .ref anod, .ref atold, .int 3, .ref aheld, .int 0, .ref apair, .ref astep, .int 0, .int 0, .int (-1), .int 0, .int 0, .ref asize])), (atold, .inl (kI, 60, .inl zTold))] [(kI, .int)] sz)) (va_Qi (fun (r : Int32) (_ : Unit) => r = 1) (fun (_ : Unit) => zEnd (dC, dI) (va_A [(aroom, .inr (9, [.ref asort, .ref anod, .ref atold, .int 3, .ref aheld, .int 0, .ref apair, .ref astep, .int 0, .int 0, .int (-1), .int 0, .int 0, .ref asize])), (atold, .inl (kI, 60, .inl zTold))] sz) [(aroom, .inr (9, [.ref asort, .ref anod, .ref atold, .int 3, .ref aheld, .int 0, .ref apair, .ref astep, .int 0, .int 0, .int (-1), .int 0, .int 0, .ref asize])), (atold, .inl (kI, 60, .inl zTold))] [(kI, .int)]) (va_A [(aroom, .inr (9, [.ref asort, .ref anod, .ref atold, .int 3, .ref aheld, .int 0, .ref apair, .ref astep, .int 0, .int 0, .int (-1), .int 0, .int 0, .ref asize])), (atold, .inl (kI, 60, .inl zTold))] sz)) 0 0 (va_A [(aroom, .inr (9, [.ref asort, .ref anod, .ref atold, .int 3, .ref aheld, .int 0, .ref apair, .ref astep, .int 0, .int 0, .int (-1), .int 0, .int 0, .ref asize])), (atold, .inl (kI, 60, .inl zTold))] sz) := by
  refine Met.ofW (cc := cX7_toldAt) (maxL := 2) (ret := (some .int)) (by decide) rfl ?_
  intro p e s m args below meth c s₁ B hml hv
  obtain ⟨rfl, hsz, hP, hK, hD0, hE⟩ := hv
  have hx := B.exec
  have hb := B.bytes
  have hr := B.returns
  have hts := atoms_spec (ws := w_c_R_told_1) B.pre
  have hown : s.vm.findClass RX7 = some m.cls := findClass_of_methodNamed B.named
  have hlocks := B.notSynchronized
  subst hsz
  have hD := hD0.self (sz := s.heap.size)
  generalize hAe : va_A [(aroom, .inr (9, [.ref asort, .ref anod, .ref atold, .int 3, .ref aheld, .int 0, .ref apair, .ref astep, .int 0, .int 0, .int (-1), .int 0, .int 0, .ref asize])), (atold, .inl (kI, 60, .inl zTold))] s.heap.size = A at hD hE ⊢
  have hA : ∀ q : Nat, s.heap.size ≤ q → A q := fun q h => by rw [← hAe]; exact Or.inr h
  have hS : va_S A s.heap s.heap [] := va_S.rf
  have hP : va_P (dC, dI) vwCl [(aroom, .inr (9, [.ref asort, .ref anod, .ref atold, .int 3, .ref aheld, .int 0, .ref apair, .ref astep, .int 0, .int 0, .int (-1), .int 0, .int 0, .ref asize])), (atold, .inl (kI, 60, .inl zTold))] s.heap := hP
  have hl := lv_entry ([.ref aroom, .int 1]) (n := 2) (Nat.le_of_ble_eq_true rfl)
  rw [lg_entry_eq]
  generalize (lg_sl ([.ref aroom, .int 1]) ++ List.replicate (2 - (lg_sl ([.ref aroom, .int 1])).length) Slot.unset).toArray = ls at hl ⊢
  have hl : lv_has ls 2 [(0, .ref aroom), (1, .int 1)] := hl
  have in_RX7 : ∀ w ∈ u_ws RX7 TX7 14, w ∈ w_c_R_told_1 := by decide +kernel
  refine lv_iload_n hx hb dX7_toldAt_0 rfl (lv_at hl 1 rfl) ?_
  refine lv_if_lt (tgt := 21) hx hb dX7_toldAt_1 (by decide) (fun c_1 => ?_) (fun c_1 => ?_)
  · exact absurd c_1 (by decide)
  refine lv_iload_n hx hb dX7_toldAt_4 rfl (lv_at hl 1 rfl) ?_
  refine lv_aload_n hx hb dX7_toldAt_5 rfl (lv_at hl 0 rfl) ?_
  refine va_get (D := (dC, dI)) (ci := 9) (v := .int 3) (C := RX7) (T := TX7) (N := 14) hx hb hts in_RX7 hown hK hP 0 rfl rfl 3 (by decide) (hts (.fieldLink RX7 29 "Hornbook$Room" "tellings" "I") (by decide +kernel)) (fun _ h9 => h9) rfl dX7_toldAt_6 ?_
  refine lv_icmp_ge (tgt := 21) hx hb dX7_toldAt_9 (by decide) (fun c_2 => ?_) (fun c_2 => ?_)
  · exact absurd c_2 (by decide)
  refine lv_iload_n hx hb dX7_toldAt_12 rfl (lv_at hl 1 rfl) ?_
  refine lv_aload_n hx hb dX7_toldAt_13 rfl (lv_at hl 0 rfl) ?_
  refine va_get (D := (dC, dI)) (ci := 9) (v := .ref atold) (C := RX7) (T := TX7) (N := 14) hx hb hts in_RX7 hown hK hP 0 rfl rfl 2 (by decide) (hts (.fieldLink RX7 25 "Hornbook$Room" "told" "[I") (by decide +kernel)) (fun _ h9 => h9) rfl dX7_toldAt_14 ?_
  refine va_alen (D := (dC, dI)) (v := 60) hx hb hK hP 1 0 rfl rfl rfl dX7_toldAt_17 ?_
  refine lv_icmp_lt (tgt := 25) hx hb dX7_toldAt_18 (by decide) (fun c_3 => ?_) (fun c_3 => ?_)
  rotate_left
  · exact absurd (by decide) c_3
  refine lv_aload_n hx hb dX7_toldAt_25 rfl (lv_at hl 0 rfl) ?_
  refine va_get (D := (dC, dI)) (ci := 9) (v := .ref atold) (C := RX7) (T := TX7) (N := 14) hx hb hts in_RX7 hown hK hP 0 rfl rfl 2 (by decide) (hts (.fieldLink RX7 25 "Hornbook$Room" "told" "[I") (by decide +kernel)) (fun _ h9 => h9) rfl dX7_toldAt_26 ?_
  refine lv_iload_n hx hb dX7_toldAt_29 rfl (lv_at hl 1 rfl) ?_
  refine va_iald (D := (dC, dI)) hx hb hK hP 1 0 rfl rfl (by unfold vp_in; decide) dX7_toldAt_30 ?_
  refine z_top (v' := .int 1) (congrArg Value.int (by first | rfl | decide)) ?_
  have hP9 := hP.sub (ws' := [(aroom, .inr (9, [.ref asort, .ref anod, .ref atold, .int 3, .ref aheld, .int 0, .ref apair, .ref astep, .int 0, .int 0, .int (-1), .int 0, .int 0, .ref asize])), (atold, .inl (kI, 60, .inl zTold))]) [0, 1] rfl
  have hD9 := hD.sub (ws' := [(aroom, .inr (9, [.ref asort, .ref anod, .ref atold, .int 3, .ref aheld, .int 0, .ref apair, .ref astep, .int 0, .int 0, .int (-1), .int 0, .int 0, .ref asize])), (atold, .inl (kI, 60, .inl zTold))]) [0, 1] (by decide) rfl
  have hK9 := hK.sub (tys' := [(kI, .int)]) [0] rfl
  refine W.widen (k := 0) (n := 0) (Nat.le_of_ble_eq_true rfl) (Nat.le_of_ble_eq_true rfl) ?_
  exact W.iret (v := 1) hx hb hr (fun t ht hW => ⟨⟨1, (), rfl, rfl, ⟨by rw [ht]; exact hP9, va_K.moved hW.alike hK9, hD9⟩⟩, hS.F ht⟩) hS.2.2 dX7_toldAt_31

def wb_c_R_told_2 : List Cond := [.fieldLink RX7 29 "Hornbook$Room" "tellings" "I", .fieldLink RX7 25 "Hornbook$Room" "told" "[I"] ++ u_ws RX7 TX7 14
def w_c_R_told_2 : List Cond := .code yX7_toldAt cX7_toldAt 2 (some .int) :: wb_c_R_told_2
set_option maxHeartbeats 4000000 in
set_option maxRecDepth 100000 in
theorem c_R_told_2 (l : Launch) (eD eI : Nat) (ad : Nat → Nat) (dC : Nat → ClassId) (dI : Nat → Nat → Nat) (sz : Nat) (aroom : Nat) (anod : Nat) (asort : Nat) (atold : Nat) (aheld : Nat) (apair : Nat) (astep : Nat) (asize : Nat) (kI : ClassId) : Met l yX7_toldAt w_c_R_told_2 ({ frames := 0, cells := 0, slots := 0, locals := 0 }) (va_Pc [.ref aroom, .int 2] (zPre eD eI ad (dC, dI) [(aroom, .inr (9, [.ref asort, .ref anod, .ref atold, .int 3, .ref aheld, .int 0, .ref apair, .ref astep, .int 0, .int 0, .int (-1), .int 0, .int 0, .ref asize])), (atold, .inl (kI, 60, .inl zTold))] [(kI, .int)] sz)) (va_Qi (fun (r : Int32) (_ : Unit) => r = 2) (fun (_ : Unit) => zEnd (dC, dI) (va_A [(aroom, .inr (9, [.ref asort, .ref anod, .ref atold, .int 3, .ref aheld, .int 0, .ref apair, .ref astep, .int 0, .int 0, .int (-1), .int 0, .int 0, .ref asize])), (atold, .inl (kI, 60, .inl zTold))] sz) [(aroom, .inr (9, [.ref asort, .ref anod, .ref atold, .int 3, .ref aheld, .int 0, .ref apair, .ref astep, .int 0, .int 0, .int (-1), .int 0, .int 0, .ref asize])), (atold, .inl (kI, 60, .inl zTold))] [(kI, .int)]) (va_A [(aroom, .inr (9, [.ref asort, .ref anod, .ref atold, .int 3, .ref aheld, .int 0, .ref apair, .ref astep, .int 0, .int 0, .int (-1), .int 0, .int 0, .ref asize])), (atold, .inl (kI, 60, .inl zTold))] sz)) 0 0 (va_A [(aroom, .inr (9, [.ref asort, .ref anod, .ref atold, .int 3, .ref aheld, .int 0, .ref apair, .ref astep, .int 0, .int 0, .int (-1), .int 0, .int 0, .ref asize])), (atold, .inl (kI, 60, .inl zTold))] sz) := by
  refine Met.ofW (cc := cX7_toldAt) (maxL := 2) (ret := (some .int)) (by decide) rfl ?_
  intro p e s m args below meth c s₁ B hml hv
  obtain ⟨rfl, hsz, hP, hK, hD0, hE⟩ := hv
  have hx := B.exec
  have hb := B.bytes
  have hr := B.returns
  have hts := atoms_spec (ws := w_c_R_told_2) B.pre
  have hown : s.vm.findClass RX7 = some m.cls := findClass_of_methodNamed B.named
  have hlocks := B.notSynchronized
  subst hsz
  have hD := hD0.self (sz := s.heap.size)
  generalize hAe : va_A [(aroom, .inr (9, [.ref asort, .ref anod, .ref atold, .int 3, .ref aheld, .int 0, .ref apair, .ref astep, .int 0, .int 0, .int (-1), .int 0, .int 0, .ref asize])), (atold, .inl (kI, 60, .inl zTold))] s.heap.size = A at hD hE ⊢
  have hA : ∀ q : Nat, s.heap.size ≤ q → A q := fun q h => by rw [← hAe]; exact Or.inr h
  have hS : va_S A s.heap s.heap [] := va_S.rf
  have hP : va_P (dC, dI) vwCl [(aroom, .inr (9, [.ref asort, .ref anod, .ref atold, .int 3, .ref aheld, .int 0, .ref apair, .ref astep, .int 0, .int 0, .int (-1), .int 0, .int 0, .ref asize])), (atold, .inl (kI, 60, .inl zTold))] s.heap := hP
  have hl := lv_entry ([.ref aroom, .int 2]) (n := 2) (Nat.le_of_ble_eq_true rfl)
  rw [lg_entry_eq]
  generalize (lg_sl ([.ref aroom, .int 2]) ++ List.replicate (2 - (lg_sl ([.ref aroom, .int 2])).length) Slot.unset).toArray = ls at hl ⊢
  have hl : lv_has ls 2 [(0, .ref aroom), (1, .int 2)] := hl
  have in_RX7 : ∀ w ∈ u_ws RX7 TX7 14, w ∈ w_c_R_told_2 := by decide +kernel
  refine lv_iload_n hx hb dX7_toldAt_0 rfl (lv_at hl 1 rfl) ?_
  refine lv_if_lt (tgt := 21) hx hb dX7_toldAt_1 (by decide) (fun c_1 => ?_) (fun c_1 => ?_)
  · exact absurd c_1 (by decide)
  refine lv_iload_n hx hb dX7_toldAt_4 rfl (lv_at hl 1 rfl) ?_
  refine lv_aload_n hx hb dX7_toldAt_5 rfl (lv_at hl 0 rfl) ?_
  refine va_get (D := (dC, dI)) (ci := 9) (v := .int 3) (C := RX7) (T := TX7) (N := 14) hx hb hts in_RX7 hown hK hP 0 rfl rfl 3 (by decide) (hts (.fieldLink RX7 29 "Hornbook$Room" "tellings" "I") (by decide +kernel)) (fun _ h9 => h9) rfl dX7_toldAt_6 ?_
  refine lv_icmp_ge (tgt := 21) hx hb dX7_toldAt_9 (by decide) (fun c_2 => ?_) (fun c_2 => ?_)
  · exact absurd c_2 (by decide)
  refine lv_iload_n hx hb dX7_toldAt_12 rfl (lv_at hl 1 rfl) ?_
  refine lv_aload_n hx hb dX7_toldAt_13 rfl (lv_at hl 0 rfl) ?_
  refine va_get (D := (dC, dI)) (ci := 9) (v := .ref atold) (C := RX7) (T := TX7) (N := 14) hx hb hts in_RX7 hown hK hP 0 rfl rfl 2 (by decide) (hts (.fieldLink RX7 25 "Hornbook$Room" "told" "[I") (by decide +kernel)) (fun _ h9 => h9) rfl dX7_toldAt_14 ?_
  refine va_alen (D := (dC, dI)) (v := 60) hx hb hK hP 1 0 rfl rfl rfl dX7_toldAt_17 ?_
  refine lv_icmp_lt (tgt := 25) hx hb dX7_toldAt_18 (by decide) (fun c_3 => ?_) (fun c_3 => ?_)
  rotate_left
  · exact absurd (by decide) c_3
  refine lv_aload_n hx hb dX7_toldAt_25 rfl (lv_at hl 0 rfl) ?_
  refine va_get (D := (dC, dI)) (ci := 9) (v := .ref atold) (C := RX7) (T := TX7) (N := 14) hx hb hts in_RX7 hown hK hP 0 rfl rfl 2 (by decide) (hts (.fieldLink RX7 25 "Hornbook$Room" "told" "[I") (by decide +kernel)) (fun _ h9 => h9) rfl dX7_toldAt_26 ?_
  refine lv_iload_n hx hb dX7_toldAt_29 rfl (lv_at hl 1 rfl) ?_
  refine va_iald (D := (dC, dI)) hx hb hK hP 1 0 rfl rfl (by unfold vp_in; decide) dX7_toldAt_30 ?_
  refine z_top (v' := .int 2) (congrArg Value.int (by first | rfl | decide)) ?_
  have hP9 := hP.sub (ws' := [(aroom, .inr (9, [.ref asort, .ref anod, .ref atold, .int 3, .ref aheld, .int 0, .ref apair, .ref astep, .int 0, .int 0, .int (-1), .int 0, .int 0, .ref asize])), (atold, .inl (kI, 60, .inl zTold))]) [0, 1] rfl
  have hD9 := hD.sub (ws' := [(aroom, .inr (9, [.ref asort, .ref anod, .ref atold, .int 3, .ref aheld, .int 0, .ref apair, .ref astep, .int 0, .int 0, .int (-1), .int 0, .int 0, .ref asize])), (atold, .inl (kI, 60, .inl zTold))]) [0, 1] (by decide) rfl
  have hK9 := hK.sub (tys' := [(kI, .int)]) [0] rfl
  refine W.widen (k := 0) (n := 0) (Nat.le_of_ble_eq_true rfl) (Nat.le_of_ble_eq_true rfl) ?_
  exact W.iret (v := 2) hx hb hr (fun t ht hW => ⟨⟨2, (), rfl, rfl, ⟨by rw [ht]; exact hP9, va_K.moved hW.alike hK9, hD9⟩⟩, hS.F ht⟩) hS.2.2 dX7_toldAt_31

def wb_c_R_tidy : List Cond := [.fieldLink RX7 52 "Hornbook$Room" "isTidied" "Z", .fieldLink RX7 21 "Hornbook$Room" "nodes" "LHornbook$Nodes;", .code yX5_isFull cX5_isFull 1 (some .boolean), .fieldLink RX5 47 "Hornbook$Nodes" "count" "I", .fieldLink RX5 28 "Hornbook$Nodes" "second" "[J", .methodLink RX7 87 yX5_isFull, .instanceMethod yX5_isFull, .selects RX5 yX5_isFull yX5_isFull, .initialized RX5] ++ u_ws RX5 TX5 14 ++ u_ws RX7 TX7 14
def w_c_R_tidy : List Cond := .code yX7_tidy cX7_tidy 1 none :: wb_c_R_tidy
set_option maxRecDepth 100000 in
theorem g_c_R_tidy_0 : GoodIn w_c_R_tidy (wsV RX7 87 RX5 yX5_isFull w_c_N_isFull) := goodIn_app (goodIn_of _ (by decide +kernel)) (goodIn_p (big := w_c_R_tidy) (.code yX5_isFull cX5_isFull 1 (some .boolean) :: wb_c_N_isFull) [3] rfl (by decide +kernel))
set_option maxHeartbeats 4000000 in
set_option maxRecDepth 100000 in
theorem c_R_tidy (l : Launch) (eD eI : Nat) (ad : Nat → Nat) (dC : Nat → ClassId) (dI : Nat → Nat → Nat) (sz : Nat) (aroom : Nat) (anod : Nat) (asort : Nat) (atold : Nat) (aheld : Nat) (apair : Nat) (astep : Nat) (asize : Nat) (nm : Nat) (nl : Nat) (n1 : Nat) (n2 : Nat) (nf : Nat) (ns : Nat) (nh : Nat) (nk : Nat) (np : Nat) (kL : ClassId) : Met l yX7_tidy w_c_R_tidy ({ frames := 1, cells := 0, slots := 0, locals := 20 }) (va_Pc [.ref aroom] (zPre eD eI ad (dC, dI) [(aroom, .inr (9, [.ref asort, .ref anod, .ref atold, .int 3, .ref aheld, .int 0, .ref apair, .ref astep, .int 0, .int 0, .int (-1), .int 0, .int 0, .ref asize])), (anod, .inr (7, [.ref nm, .ref nl, .ref n1, .ref n2, .ref nf, .ref ns, .ref nh, .ref nk, .ref np, .int 16, .int 0, .int 16, .int 0, .int 0])), (ns, .inl (kL, 1024, .inr (.inl zSec)))] [(kL, .long)] sz)) (va_Qv (fun (_ : Unit) => True) (fun (_ : Unit) => zEnd (dC, dI) (va_A [(aroom, .inr (9, [.ref asort, .ref anod, .ref atold, .int 3, .ref aheld, .int 0, .ref apair, .ref astep, .int 0, .int 0, .int (-1), .int 0, .int 0, .ref asize])), (anod, .inr (7, [.ref nm, .ref nl, .ref n1, .ref n2, .ref nf, .ref ns, .ref nh, .ref nk, .ref np, .int 16, .int 0, .int 16, .int 0, .int 0])), (ns, .inl (kL, 1024, .inr (.inl zSec)))] sz) [(aroom, .inr (9, [.ref asort, .ref anod, .ref atold, .int 3, .ref aheld, .int 0, .ref apair, .ref astep, .int 0, .int 0, .int (-1), .int 0, .int 0, .ref asize])), (anod, .inr (7, [.ref nm, .ref nl, .ref n1, .ref n2, .ref nf, .ref ns, .ref nh, .ref nk, .ref np, .int 16, .int 0, .int 16, .int 0, .int 0])), (ns, .inl (kL, 1024, .inr (.inl zSec)))] [(kL, .long)]) (va_A [(aroom, .inr (9, [.ref asort, .ref anod, .ref atold, .int 3, .ref aheld, .int 0, .ref apair, .ref astep, .int 0, .int 0, .int (-1), .int 0, .int 0, .ref asize])), (anod, .inr (7, [.ref nm, .ref nl, .ref n1, .ref n2, .ref nf, .ref ns, .ref nh, .ref nk, .ref np, .int 16, .int 0, .int 16, .int 0, .int 0])), (ns, .inl (kL, 1024, .inr (.inl zSec)))] sz)) 0 0 (va_A [(aroom, .inr (9, [.ref asort, .ref anod, .ref atold, .int 3, .ref aheld, .int 0, .ref apair, .ref astep, .int 0, .int 0, .int (-1), .int 0, .int 0, .ref asize])), (anod, .inr (7, [.ref nm, .ref nl, .ref n1, .ref n2, .ref nf, .ref ns, .ref nh, .ref nk, .ref np, .int 16, .int 0, .int 16, .int 0, .int 0])), (ns, .inl (kL, 1024, .inr (.inl zSec)))] sz) := by
  refine Met.ofW (cc := cX7_tidy) (maxL := 1) (ret := none) (by decide) rfl ?_
  intro p e s m args below meth c s₁ B hml hv
  obtain ⟨rfl, hsz, hP, hK, hD0, hE⟩ := hv
  have hx := B.exec
  have hb := B.bytes
  have hr := B.returns
  have hts := atoms_spec (ws := w_c_R_tidy) B.pre
  have hown : s.vm.findClass RX7 = some m.cls := findClass_of_methodNamed B.named
  have hlocks := B.notSynchronized
  subst hsz
  have hD := hD0.self (sz := s.heap.size)
  generalize hAe : va_A [(aroom, .inr (9, [.ref asort, .ref anod, .ref atold, .int 3, .ref aheld, .int 0, .ref apair, .ref astep, .int 0, .int 0, .int (-1), .int 0, .int 0, .ref asize])), (anod, .inr (7, [.ref nm, .ref nl, .ref n1, .ref n2, .ref nf, .ref ns, .ref nh, .ref nk, .ref np, .int 16, .int 0, .int 16, .int 0, .int 0])), (ns, .inl (kL, 1024, .inr (.inl zSec)))] s.heap.size = A at hD hE ⊢
  have hA : ∀ q : Nat, s.heap.size ≤ q → A q := fun q h => by rw [← hAe]; exact Or.inr h
  have hS : va_S A s.heap s.heap [] := va_S.rf
  have hP : va_P (dC, dI) vwCl [(aroom, .inr (9, [.ref asort, .ref anod, .ref atold, .int 3, .ref aheld, .int 0, .ref apair, .ref astep, .int 0, .int 0, .int (-1), .int 0, .int 0, .ref asize])), (anod, .inr (7, [.ref nm, .ref nl, .ref n1, .ref n2, .ref nf, .ref ns, .ref nh, .ref nk, .ref np, .int 16, .int 0, .int 16, .int 0, .int 0])), (ns, .inl (kL, 1024, .inr (.inl zSec)))] s.heap := hP
  have hl := lv_entry ([.ref aroom]) (n := 1) (Nat.le_of_ble_eq_true rfl)
  rw [lg_entry_eq]
  generalize (lg_sl ([.ref aroom]) ++ List.replicate (1 - (lg_sl ([.ref aroom])).length) Slot.unset).toArray = ls at hl ⊢
  have hl : lv_has ls 1 [(0, .ref aroom)] := hl
  have in_RX5 : ∀ w ∈ u_ws RX5 TX5 14, w ∈ w_c_R_tidy := by decide +kernel
  have in_RX7 : ∀ w ∈ u_ws RX7 TX7 14, w ∈ w_c_R_tidy := by decide +kernel
  refine lv_aload_n hx hb dX7_tidy_0 rfl (lv_at hl 0 rfl) ?_
  refine lv_iconst (v := 0) hx hb dX7_tidy_1 (by decide) ?_
  refine va_put (D := (dC, dI)) (ci := 9) (v := .int 0) (ty := .boolean) (C := RX7) (T := TX7) (N := 14) hx hb hts in_RX7 tyX7 tyX7_ok nmX7 hown hK hP hD hS 0 rfl rfl 9 (by decide) (hts (.fieldLink RX7 52 "Hornbook$Room" "isTidied" "Z") (by decide +kernel)) (fun _ h9 => h9) rfl (by decide +kernel) rfl rfl (Nat.le_of_ble_eq_true rfl) dX7_tidy_2 (fun H locs hP hD hS => ?_)
  have hP : va_P (dC, dI) vwCl [(aroom, .inr (9, [.ref asort, .ref anod, .ref atold, .int 3, .ref aheld, .int 0, .ref apair, .ref astep, .int 0, .int 0, .int (-1), .int 0, .int 0, .ref asize])), (anod, .inr (7, [.ref nm, .ref nl, .ref n1, .ref n2, .ref nf, .ref ns, .ref nh, .ref nk, .ref np, .int 16, .int 0, .int 16, .int 0, .int 0])), (ns, .inl (kL, 1024, .inr (.inl zSec)))] H := hP
  have hD : va_D A [(aroom, .inr (9, [.ref asort, .ref anod, .ref atold, .int 3, .ref aheld, .int 0, .ref apair, .ref astep, .int 0, .int 0, .int (-1), .int 0, .int 0, .ref asize])), (anod, .inr (7, [.ref nm, .ref nl, .ref n1, .ref n2, .ref nf, .ref ns, .ref nh, .ref nk, .ref np, .int 16, .int 0, .int 16, .int 0, .int 0])), (ns, .inl (kL, 1024, .inr (.inl zSec)))] := hD
  refine lv_aload_n hx hb dX7_tidy_5 rfl (lv_at hl 0 rfl) ?_
  refine va_get (D := (dC, dI)) (ci := 9) (v := .ref anod) (C := RX7) (T := TX7) (N := 14) hx hb hts in_RX7 hown hK hP 0 rfl rfl 1 (by decide) (hts (.fieldLink RX7 21 "Hornbook$Room" "nodes" "LHornbook$Nodes;") (by decide +kernel)) (fun _ h9 => h9) rfl dX7_tidy_6 ?_
  refine z_i (wr := [(aroom, .inr (9, [.ref asort, .ref anod, .ref atold, .int 3, .ref aheld, .int 0, .ref apair, .ref astep, .int 0, .int 0, .int (-1), .int 0, .int 0, .ref asize]))]) (va_runV (As := []) (rest := []) ⟨hx, hb, hml, hown, hts⟩ (c_N_isFull l eD eI ad dC dI H.size anod nm nl n1 n2 nf ns nh nk np kL) (cwV 0 hts g_c_R_tidy_0 rfl rfl rfl (by decide +kernel) ⟨Nat.le_of_ble_eq_true rfl, Nat.le_of_ble_eq_true rfl⟩) (z_preV (wc := [(anod, .inr (7, [.ref nm, .ref nl, .ref n1, .ref n2, .ref nf, .ref ns, .ref nh, .ref nk, .ref np, .int 16, .int 0, .int 16, .int 0, .int 0])), (ns, .inl (kL, 1024, .inr (.inl zSec)))]) hP hD hK hS hA hE [1, 2] [0] rfl (by decide) rfl (ci := 7) (q0 := 0) rfl rfl) rfl rfl hl.1 rfl (lv_room (Nat.le_of_ble_eq_true rfl)) dX7_tidy_9 ⟨Nat.le_of_ble_eq_true rfl, Nat.le_of_ble_eq_true rfl⟩) hP hD hK hS hA [1, 2] [0] rfl rfl (by decide) (by decide) (fun r_1 u H locs hw_2 hP hD hK hS => ?_)
  obtain ⟨⟩ := u
  have hP : va_P (dC, dI) vwCl [(aroom, .inr (9, [.ref asort, .ref anod, .ref atold, .int 3, .ref aheld, .int 0, .ref apair, .ref astep, .int 0, .int 0, .int (-1), .int 0, .int 0, .ref asize])), (anod, .inr (7, [.ref nm, .ref nl, .ref n1, .ref n2, .ref nf, .ref ns, .ref nh, .ref nk, .ref np, .int 16, .int 0, .int 16, .int 0, .int 0])), (ns, .inl (kL, 1024, .inr (.inl zSec)))] H := hP
  have hD : va_D A [(aroom, .inr (9, [.ref asort, .ref anod, .ref atold, .int 3, .ref aheld, .int 0, .ref apair, .ref astep, .int 0, .int 0, .int (-1), .int 0, .int 0, .ref asize])), (anod, .inr (7, [.ref nm, .ref nl, .ref n1, .ref n2, .ref nf, .ref ns, .ref nh, .ref nk, .ref np, .int 16, .int 0, .int 16, .int 0, .int 0])), (ns, .inl (kL, 1024, .inr (.inl zSec)))] := hD
  have hK : va_K (dC, dI) vwCl [(kL, .long), (kL, .long)] s := hK
  have hw_2 : r_1 = 0 := hw_2
  have hw_2 := hw_2.symm
  subst hw_2
  refine lv_if_eq (tgt := 19) hx hb dX7_tidy_12 (by decide) (fun c_3 => ?_) (fun c_3 => ?_)
  rotate_left
  · exact absurd (by decide) c_3
  have hP9 := hP.sub (ws' := [(aroom, .inr (9, [.ref asort, .ref anod, .ref atold, .int 3, .ref aheld, .int 0, .ref apair, .ref astep, .int 0, .int 0, .int (-1), .int 0, .int 0, .ref asize])), (anod, .inr (7, [.ref nm, .ref nl, .ref n1, .ref n2, .ref nf, .ref ns, .ref nh, .ref nk, .ref np, .int 16, .int 0, .int 16, .int 0, .int 0])), (ns, .inl (kL, 1024, .inr (.inl zSec)))]) [0, 1, 2] rfl
  have hD9 := hD.sub (ws' := [(aroom, .inr (9, [.ref asort, .ref anod, .ref atold, .int 3, .ref aheld, .int 0, .ref apair, .ref astep, .int 0, .int 0, .int (-1), .int 0, .int 0, .ref asize])), (anod, .inr (7, [.ref nm, .ref nl, .ref n1, .ref n2, .ref nf, .ref ns, .ref nh, .ref nk, .ref np, .int 16, .int 0, .int 16, .int 0, .int 0])), (ns, .inl (kL, 1024, .inr (.inl zSec)))]) [0, 1, 2] (by decide) rfl
  have hK9 := hK.sub (tys' := [(kL, .long)]) [0] rfl
  refine W.widen (k := 0) (n := 0) (Nat.le_of_ble_eq_true rfl) (Nat.le_of_ble_eq_true rfl) ?_
  exact W.vret hx hb hr (fun t ht hW => ⟨⟨(), rfl, trivial, ⟨by rw [ht]; exact hP9, va_K.moved hW.alike hK9, hD9⟩⟩, hS.F ht⟩) hS.2.2 dX7_tidy_19

def wb_c_R_join_00 : List Cond := [.fieldLink RX7 21 "Hornbook$Room" "nodes" "LHornbook$Nodes;", .code yX5_through cX5_through 4 (some .int), .fieldLink RX5 28 "Hornbook$Nodes" "second" "[J", .methodLink RX7 194 yX5_through, .instanceMethod yX5_through, .selects RX5 yX5_through yX5_through, .initialized RX5] ++ u_ws RX5 TX5 14 ++ u_ws RX7 TX7 14
def w_c_R_join_00 : List Cond := .code yX7_joinOf cX7_joinOf 5 (some .int) :: wb_c_R_join_00
set_option maxRecDepth 100000 in
theorem g_c_R_join_00_0 : GoodIn w_c_R_join_00 (wsV RX7 194 RX5 yX5_through w_c_N_through_0) := goodIn_app (goodIn_of _ (by decide +kernel)) (goodIn_p (big := w_c_R_join_00) (.code yX5_through cX5_through 4 (some .int) :: wb_c_N_through_0) [2] rfl (by decide +kernel))
set_option maxHeartbeats 4000000 in
set_option maxRecDepth 100000 in
theorem c_R_join_00 (l : Launch) (eD eI : Nat) (ad : Nat → Nat) (dC : Nat → ClassId) (dI : Nat → Nat → Nat) (sz : Nat) (aroom : Nat) (anod : Nat) (asort : Nat) (atold : Nat) (aheld : Nat) (apair : Nat) (astep : Nat) (asize : Nat) (nm : Nat) (nl : Nat) (n1 : Nat) (n2 : Nat) (nf : Nat) (ns : Nat) (nh : Nat) (nk : Nat) (np : Nat) (kL : ClassId) : Met l yX7_joinOf w_c_R_join_00 ({ frames := 1, cells := 0, slots := 0, locals := 23 }) (va_Pc [.ref aroom, .int 0, .int 0] (zPre eD eI ad (dC, dI) [(aroom, .inr (9, [.ref asort, .ref anod, .ref atold, .int 3, .ref aheld, .int 0, .ref apair, .ref astep, .int 0, .int 0, .int (-1), .int 0, .int 0, .ref asize])), (anod, .inr (7, [.ref nm, .ref nl, .ref n1, .ref n2, .ref nf, .ref ns, .ref nh, .ref nk, .ref np, .int 16, .int 0, .int 16, .int 0, .int 0])), (ns, .inl (kL, 1024, .inr (.inl zSec)))] [(kL, .long)] sz)) (va_Qi (fun (r : Int32) (_ : Unit) => r = 0) (fun (_ : Unit) => zEnd (dC, dI) (va_A [(aroom, .inr (9, [.ref asort, .ref anod, .ref atold, .int 3, .ref aheld, .int 0, .ref apair, .ref astep, .int 0, .int 0, .int (-1), .int 0, .int 0, .ref asize])), (anod, .inr (7, [.ref nm, .ref nl, .ref n1, .ref n2, .ref nf, .ref ns, .ref nh, .ref nk, .ref np, .int 16, .int 0, .int 16, .int 0, .int 0])), (ns, .inl (kL, 1024, .inr (.inl zSec)))] sz) [(aroom, .inr (9, [.ref asort, .ref anod, .ref atold, .int 3, .ref aheld, .int 0, .ref apair, .ref astep, .int 0, .int 0, .int (-1), .int 0, .int 0, .ref asize])), (anod, .inr (7, [.ref nm, .ref nl, .ref n1, .ref n2, .ref nf, .ref ns, .ref nh, .ref nk, .ref np, .int 16, .int 0, .int 16, .int 0, .int 0])), (ns, .inl (kL, 1024, .inr (.inl zSec)))] [(kL, .long)]) (va_A [(aroom, .inr (9, [.ref asort, .ref anod, .ref atold, .int 3, .ref aheld, .int 0, .ref apair, .ref astep, .int 0, .int 0, .int (-1), .int 0, .int 0, .ref asize])), (anod, .inr (7, [.ref nm, .ref nl, .ref n1, .ref n2, .ref nf, .ref ns, .ref nh, .ref nk, .ref np, .int 16, .int 0, .int 16, .int 0, .int 0])), (ns, .inl (kL, 1024, .inr (.inl zSec)))] sz)) 0 0 (va_A [(aroom, .inr (9, [.ref asort, .ref anod, .ref atold, .int 3, .ref aheld, .int 0, .ref apair, .ref astep, .int 0, .int 0, .int (-1), .int 0, .int 0, .ref asize])), (anod, .inr (7, [.ref nm, .ref nl, .ref n1, .ref n2, .ref nf, .ref ns, .ref nh, .ref nk, .ref np, .int 16, .int 0, .int 16, .int 0, .int 0])), (ns, .inl (kL, 1024, .inr (.inl zSec)))] sz) := by
  refine Met.ofW (cc := cX7_joinOf) (maxL := 5) (ret := (some .int)) (by decide) rfl ?_
  intro p e s m args below meth c s₁ B hml hv
  obtain ⟨rfl, hsz, hP, hK, hD0, hE⟩ := hv
  have hx := B.exec
  have hb := B.bytes
  have hr := B.returns
  have hts := atoms_spec (ws := w_c_R_join_00) B.pre
  have hown : s.vm.findClass RX7 = some m.cls := findClass_of_methodNamed B.named
  have hlocks := B.notSynchronized
  subst hsz
  have hD := hD0.self (sz := s.heap.size)
  generalize hAe : va_A [(aroom, .inr (9, [.ref asort, .ref anod, .ref atold, .int 3, .ref aheld, .int 0, .ref apair, .ref astep, .int 0, .int 0, .int (-1), .int 0, .int 0, .ref asize])), (anod, .inr (7, [.ref nm, .ref nl, .ref n1, .ref n2, .ref nf, .ref ns, .ref nh, .ref nk, .ref np, .int 16, .int 0, .int 16, .int 0, .int 0])), (ns, .inl (kL, 1024, .inr (.inl zSec)))] s.heap.size = A at hD hE ⊢
  have hA : ∀ q : Nat, s.heap.size ≤ q → A q := fun q h => by rw [← hAe]; exact Or.inr h
  have hS : va_S A s.heap s.heap [] := va_S.rf
  have hP : va_P (dC, dI) vwCl [(aroom, .inr (9, [.ref asort, .ref anod, .ref atold, .int 3, .ref aheld, .int 0, .ref apair, .ref astep, .int 0, .int 0, .int (-1), .int 0, .int 0, .ref asize])), (anod, .inr (7, [.ref nm, .ref nl, .ref n1, .ref n2, .ref nf, .ref ns, .ref nh, .ref nk, .ref np, .int 16, .int 0, .int 16, .int 0, .int 0])), (ns, .inl (kL, 1024, .inr (.inl zSec)))] s.heap := hP
  have hl := lv_entry ([.ref aroom, .int 0, .int 0]) (n := 5) (Nat.le_of_ble_eq_true rfl)
  rw [lg_entry_eq]
  generalize (lg_sl ([.ref aroom, .int 0, .int 0]) ++ List.replicate (5 - (lg_sl ([.ref aroom, .int 0, .int 0])).length) Slot.unset).toArray = ls at hl ⊢
  have hl : lv_has ls 5 [(0, .ref aroom), (1, .int 0), (2, .int 0)] := hl
  have in_RX5 : ∀ w ∈ u_ws RX5 TX5 14, w ∈ w_c_R_join_00 := by decide +kernel
  have in_RX7 : ∀ w ∈ u_ws RX7 TX7 14, w ∈ w_c_R_join_00 := by decide +kernel
  refine lv_aload_n hx hb dX7_joinOf_0 rfl (lv_at hl 0 rfl) ?_
  refine va_get (D := (dC, dI)) (ci := 9) (v := .ref anod) (C := RX7) (T := TX7) (N := 14) hx hb hts in_RX7 hown hK hP 0 rfl rfl 1 (by decide) (hts (.fieldLink RX7 21 "Hornbook$Room" "nodes" "LHornbook$Nodes;") (by decide +kernel)) (fun _ h9 => h9) rfl dX7_joinOf_1 ?_
  refine lv_iload_n hx hb dX7_joinOf_4 rfl (lv_at hl 1 rfl) ?_
  refine z_i (wr := [(aroom, .inr (9, [.ref asort, .ref anod, .ref atold, .int 3, .ref aheld, .int 0, .ref apair, .ref astep, .int 0, .int 0, .int (-1), .int 0, .int 0, .ref asize]))]) (va_runV (As := [.int 0]) (rest := []) ⟨hx, hb, hml, hown, hts⟩ (c_N_through_0 l eD eI ad dC dI s.heap.size anod nm nl n1 n2 nf ns nh nk np kL) (cwV 1 hts g_c_R_join_00_0 rfl rfl rfl (by decide +kernel) ⟨Nat.le_of_ble_eq_true rfl, Nat.le_of_ble_eq_true rfl⟩) (z_preV (wc := [(anod, .inr (7, [.ref nm, .ref nl, .ref n1, .ref n2, .ref nf, .ref ns, .ref nh, .ref nk, .ref np, .int 16, .int 0, .int 16, .int 0, .int 0])), (ns, .inl (kL, 1024, .inr (.inl zSec)))]) hP hD hK hS hA hE [1, 2] [0] rfl (by decide) rfl (ci := 7) (q0 := 0) rfl rfl) rfl rfl hl.1 rfl (lv_room (Nat.le_of_ble_eq_true rfl)) dX7_joinOf_5 ⟨Nat.le_of_ble_eq_true rfl, Nat.le_of_ble_eq_true rfl⟩) hP hD hK hS hA [1, 2] [0] rfl rfl (by decide) (by decide) (fun r_1 u H locs hw_2 hP hD hK hS => ?_)
  obtain ⟨⟩ := u
  have hP : va_P (dC, dI) vwCl [(aroom, .inr (9, [.ref asort, .ref anod, .ref atold, .int 3, .ref aheld, .int 0, .ref apair, .ref astep, .int 0, .int 0, .int (-1), .int 0, .int 0, .ref asize])), (anod, .inr (7, [.ref nm, .ref nl, .ref n1, .ref n2, .ref nf, .ref ns, .ref nh, .ref nk, .ref np, .int 16, .int 0, .int 16, .int 0, .int 0])), (ns, .inl (kL, 1024, .inr (.inl zSec)))] H := hP
  have hD : va_D A [(aroom, .inr (9, [.ref asort, .ref anod, .ref atold, .int 3, .ref aheld, .int 0, .ref apair, .ref astep, .int 0, .int 0, .int (-1), .int 0, .int 0, .ref asize])), (anod, .inr (7, [.ref nm, .ref nl, .ref n1, .ref n2, .ref nf, .ref ns, .ref nh, .ref nk, .ref np, .int 16, .int 0, .int 16, .int 0, .int 0])), (ns, .inl (kL, 1024, .inr (.inl zSec)))] := hD
  have hK : va_K (dC, dI) vwCl [(kL, .long), (kL, .long)] s := hK
  have hw_2 : r_1 = 0 := hw_2
  have hw_2 := hw_2.symm
  subst hw_2
  refine lv_istore_n (lv' := [(3, .int 0), (0, .ref aroom), (1, .int 0), (2, .int 0)]) hx hb dX7_joinOf_8 rfl hl (by decide) rfl (fun ls hl => ?_)
  refine lv_aload_n hx hb dX7_joinOf_9 rfl (lv_at hl 1 rfl) ?_
  refine va_get (D := (dC, dI)) (ci := 9) (v := .ref anod) (C := RX7) (T := TX7) (N := 14) hx hb hts in_RX7 hown hK hP 0 rfl rfl 1 (by decide) (hts (.fieldLink RX7 21 "Hornbook$Room" "nodes" "LHornbook$Nodes;") (by decide +kernel)) (fun _ h9 => h9) rfl dX7_joinOf_10 ?_
  refine lv_iload_n hx hb dX7_joinOf_13 rfl (lv_at hl 3 rfl) ?_
  refine z_i (wr := [(aroom, .inr (9, [.ref asort, .ref anod, .ref atold, .int 3, .ref aheld, .int 0, .ref apair, .ref astep, .int 0, .int 0, .int (-1), .int 0, .int 0, .ref asize]))]) (va_runV (As := [.int 0]) (rest := []) ⟨hx, hb, hml, hown, hts⟩ (c_N_through_0 l eD eI ad dC dI H.size anod nm nl n1 n2 nf ns nh nk np kL) (cwV 1 hts g_c_R_join_00_0 rfl rfl rfl (by decide +kernel) ⟨Nat.le_of_ble_eq_true rfl, Nat.le_of_ble_eq_true rfl⟩) (z_preV (wc := [(anod, .inr (7, [.ref nm, .ref nl, .ref n1, .ref n2, .ref nf, .ref ns, .ref nh, .ref nk, .ref np, .int 16, .int 0, .int 16, .int 0, .int 0])), (ns, .inl (kL, 1024, .inr (.inl zSec)))]) hP hD hK hS hA hE [1, 2] [0] rfl (by decide) rfl (ci := 7) (q0 := 0) rfl rfl) rfl rfl hl.1 rfl (lv_room (Nat.le_of_ble_eq_true rfl)) dX7_joinOf_14 ⟨Nat.le_of_ble_eq_true rfl, Nat.le_of_ble_eq_true rfl⟩) hP hD hK hS hA [1, 2] [0] rfl rfl (by decide) (by decide) (fun r_3 u H locs hw_4 hP hD hK hS => ?_)
  obtain ⟨⟩ := u
  have hP : va_P (dC, dI) vwCl [(aroom, .inr (9, [.ref asort, .ref anod, .ref atold, .int 3, .ref aheld, .int 0, .ref apair, .ref astep, .int 0, .int 0, .int (-1), .int 0, .int 0, .ref asize])), (anod, .inr (7, [.ref nm, .ref nl, .ref n1, .ref n2, .ref nf, .ref ns, .ref nh, .ref nk, .ref np, .int 16, .int 0, .int 16, .int 0, .int 0])), (ns, .inl (kL, 1024, .inr (.inl zSec)))] H := hP
  have hD : va_D A [(aroom, .inr (9, [.ref asort, .ref anod, .ref atold, .int 3, .ref aheld, .int 0, .ref apair, .ref astep, .int 0, .int 0, .int (-1), .int 0, .int 0, .ref asize])), (anod, .inr (7, [.ref nm, .ref nl, .ref n1, .ref n2, .ref nf, .ref ns, .ref nh, .ref nk, .ref np, .int 16, .int 0, .int 16, .int 0, .int 0])), (ns, .inl (kL, 1024, .inr (.inl zSec)))] := hD
  have hK : va_K (dC, dI) vwCl [(kL, .long), (kL, .long), (kL, .long)] s := hK
  have hw_4 : r_3 = 0 := hw_4
  have hw_4 := hw_4.symm
  subst hw_4
  refine lv_istore (lv' := [(4, .int 0), (3, .int 0), (0, .ref aroom), (1, .int 0), (2, .int 0)]) hx hb dX7_joinOf_17 hl (by decide) rfl (fun ls hl => ?_)
  refine lv_iload_n hx hb dX7_joinOf_19 rfl (lv_at hl 1 rfl) ?_
  refine lv_iload hx hb dX7_joinOf_20 (lv_at hl 0 rfl) ?_
  refine lv_icmp_ne (tgt := 27) hx hb dX7_joinOf_22 (by decide) (fun c_5 => ?_) (fun c_5 => ?_)
  · exact absurd (by decide) c_5
  refine lv_iload_n hx hb dX7_joinOf_25 rfl (lv_at hl 1 rfl) ?_
  have hP9 := hP.sub (ws' := [(aroom, .inr (9, [.ref asort, .ref anod, .ref atold, .int 3, .ref aheld, .int 0, .ref apair, .ref astep, .int 0, .int 0, .int (-1), .int 0, .int 0, .ref asize])), (anod, .inr (7, [.ref nm, .ref nl, .ref n1, .ref n2, .ref nf, .ref ns, .ref nh, .ref nk, .ref np, .int 16, .int 0, .int 16, .int 0, .int 0])), (ns, .inl (kL, 1024, .inr (.inl zSec)))]) [0, 1, 2] rfl
  have hD9 := hD.sub (ws' := [(aroom, .inr (9, [.ref asort, .ref anod, .ref atold, .int 3, .ref aheld, .int 0, .ref apair, .ref astep, .int 0, .int 0, .int (-1), .int 0, .int 0, .ref asize])), (anod, .inr (7, [.ref nm, .ref nl, .ref n1, .ref n2, .ref nf, .ref ns, .ref nh, .ref nk, .ref np, .int 16, .int 0, .int 16, .int 0, .int 0])), (ns, .inl (kL, 1024, .inr (.inl zSec)))]) [0, 1, 2] (by decide) rfl
  have hK9 := hK.sub (tys' := [(kL, .long)]) [0] rfl
  refine W.widen (k := 0) (n := 0) (Nat.le_of_ble_eq_true rfl) (Nat.le_of_ble_eq_true rfl) ?_
  exact W.iret (v := 0) hx hb hr (fun t ht hW => ⟨⟨0, (), rfl, rfl, ⟨by rw [ht]; exact hP9, va_K.moved hW.alike hK9, hD9⟩⟩, hS.F ht⟩) hS.2.2 dX7_joinOf_26

def wb_c_R_join_01 : List Cond := [.fieldLink RX7 21 "Hornbook$Room" "nodes" "LHornbook$Nodes;", .code yX5_through cX5_through 4 (some .int), .fieldLink RX5 28 "Hornbook$Nodes" "second" "[J", .methodLink RX7 194 yX5_through, .instanceMethod yX5_through, .selects RX5 yX5_through yX5_through, .initialized RX5] ++ u_ws RX5 TX5 14 ++ u_ws RX7 TX7 14
def w_c_R_join_01 : List Cond := .code yX7_joinOf cX7_joinOf 5 (some .int) :: wb_c_R_join_01
set_option maxRecDepth 100000 in
theorem g_c_R_join_01_0 : GoodIn w_c_R_join_01 (wsV RX7 194 RX5 yX5_through w_c_N_through_0) := goodIn_app (goodIn_of _ (by decide +kernel)) (goodIn_p (big := w_c_R_join_01) (.code yX5_through cX5_through 4 (some .int) :: wb_c_N_through_0) [2] rfl (by decide +kernel))
set_option maxRecDepth 100000 in
theorem g_c_R_join_01_1 : GoodIn w_c_R_join_01 (wsV RX7 194 RX5 yX5_through w_c_N_through_1) := goodIn_app (goodIn_of _ (by decide +kernel)) (goodIn_p (big := w_c_R_join_01) (.code yX5_through cX5_through 4 (some .int) :: wb_c_N_through_1) [2] rfl (by decide +kernel))
set_option maxHeartbeats 4000000 in
set_option maxRecDepth 100000 in
theorem c_R_join_01 (l : Launch) (eD eI : Nat) (ad : Nat → Nat) (dC : Nat → ClassId) (dI : Nat → Nat → Nat) (sz : Nat) (aroom : Nat) (anod : Nat) (asort : Nat) (atold : Nat) (aheld : Nat) (apair : Nat) (astep : Nat) (asize : Nat) (nm : Nat) (nl : Nat) (n1 : Nat) (n2 : Nat) (nf : Nat) (ns : Nat) (nh : Nat) (nk : Nat) (np : Nat) (kL : ClassId) : Met l yX7_joinOf w_c_R_join_01 ({ frames := 1, cells := 0, slots := 0, locals := 23 }) (va_Pc [.ref aroom, .int 0, .int 1] (zPre eD eI ad (dC, dI) [(aroom, .inr (9, [.ref asort, .ref anod, .ref atold, .int 3, .ref aheld, .int 0, .ref apair, .ref astep, .int 0, .int 0, .int (-1), .int 0, .int 0, .ref asize])), (anod, .inr (7, [.ref nm, .ref nl, .ref n1, .ref n2, .ref nf, .ref ns, .ref nh, .ref nk, .ref np, .int 16, .int 0, .int 16, .int 0, .int 0])), (ns, .inl (kL, 1024, .inr (.inl zSec)))] [(kL, .long)] sz)) (va_Qi (fun (r : Int32) (_ : Unit) => r = 0) (fun (_ : Unit) => zEnd (dC, dI) (va_A [(aroom, .inr (9, [.ref asort, .ref anod, .ref atold, .int 3, .ref aheld, .int 0, .ref apair, .ref astep, .int 0, .int 0, .int (-1), .int 0, .int 0, .ref asize])), (anod, .inr (7, [.ref nm, .ref nl, .ref n1, .ref n2, .ref nf, .ref ns, .ref nh, .ref nk, .ref np, .int 16, .int 0, .int 16, .int 0, .int 0])), (ns, .inl (kL, 1024, .inr (.inl zSec)))] sz) [(aroom, .inr (9, [.ref asort, .ref anod, .ref atold, .int 3, .ref aheld, .int 0, .ref apair, .ref astep, .int 0, .int 0, .int (-1), .int 0, .int 0, .ref asize])), (anod, .inr (7, [.ref nm, .ref nl, .ref n1, .ref n2, .ref nf, .ref ns, .ref nh, .ref nk, .ref np, .int 16, .int 0, .int 16, .int 0, .int 0])), (ns, .inl (kL, 1024, .inr (.inl zSec)))] [(kL, .long)]) (va_A [(aroom, .inr (9, [.ref asort, .ref anod, .ref atold, .int 3, .ref aheld, .int 0, .ref apair, .ref astep, .int 0, .int 0, .int (-1), .int 0, .int 0, .ref asize])), (anod, .inr (7, [.ref nm, .ref nl, .ref n1, .ref n2, .ref nf, .ref ns, .ref nh, .ref nk, .ref np, .int 16, .int 0, .int 16, .int 0, .int 0])), (ns, .inl (kL, 1024, .inr (.inl zSec)))] sz)) 0 0 (va_A [(aroom, .inr (9, [.ref asort, .ref anod, .ref atold, .int 3, .ref aheld, .int 0, .ref apair, .ref astep, .int 0, .int 0, .int (-1), .int 0, .int 0, .ref asize])), (anod, .inr (7, [.ref nm, .ref nl, .ref n1, .ref n2, .ref nf, .ref ns, .ref nh, .ref nk, .ref np, .int 16, .int 0, .int 16, .int 0, .int 0])), (ns, .inl (kL, 1024, .inr (.inl zSec)))] sz) := by
  refine Met.ofW (cc := cX7_joinOf) (maxL := 5) (ret := (some .int)) (by decide) rfl ?_
  intro p e s m args below meth c s₁ B hml hv
  obtain ⟨rfl, hsz, hP, hK, hD0, hE⟩ := hv
  have hx := B.exec
  have hb := B.bytes
  have hr := B.returns
  have hts := atoms_spec (ws := w_c_R_join_01) B.pre
  have hown : s.vm.findClass RX7 = some m.cls := findClass_of_methodNamed B.named
  have hlocks := B.notSynchronized
  subst hsz
  have hD := hD0.self (sz := s.heap.size)
  generalize hAe : va_A [(aroom, .inr (9, [.ref asort, .ref anod, .ref atold, .int 3, .ref aheld, .int 0, .ref apair, .ref astep, .int 0, .int 0, .int (-1), .int 0, .int 0, .ref asize])), (anod, .inr (7, [.ref nm, .ref nl, .ref n1, .ref n2, .ref nf, .ref ns, .ref nh, .ref nk, .ref np, .int 16, .int 0, .int 16, .int 0, .int 0])), (ns, .inl (kL, 1024, .inr (.inl zSec)))] s.heap.size = A at hD hE ⊢
  have hA : ∀ q : Nat, s.heap.size ≤ q → A q := fun q h => by rw [← hAe]; exact Or.inr h
  have hS : va_S A s.heap s.heap [] := va_S.rf
  have hP : va_P (dC, dI) vwCl [(aroom, .inr (9, [.ref asort, .ref anod, .ref atold, .int 3, .ref aheld, .int 0, .ref apair, .ref astep, .int 0, .int 0, .int (-1), .int 0, .int 0, .ref asize])), (anod, .inr (7, [.ref nm, .ref nl, .ref n1, .ref n2, .ref nf, .ref ns, .ref nh, .ref nk, .ref np, .int 16, .int 0, .int 16, .int 0, .int 0])), (ns, .inl (kL, 1024, .inr (.inl zSec)))] s.heap := hP
  have hl := lv_entry ([.ref aroom, .int 0, .int 1]) (n := 5) (Nat.le_of_ble_eq_true rfl)
  rw [lg_entry_eq]
  generalize (lg_sl ([.ref aroom, .int 0, .int 1]) ++ List.replicate (5 - (lg_sl ([.ref aroom, .int 0, .int 1])).length) Slot.unset).toArray = ls at hl ⊢
  have hl : lv_has ls 5 [(0, .ref aroom), (1, .int 0), (2, .int 1)] := hl
  have in_RX5 : ∀ w ∈ u_ws RX5 TX5 14, w ∈ w_c_R_join_01 := by decide +kernel
  have in_RX7 : ∀ w ∈ u_ws RX7 TX7 14, w ∈ w_c_R_join_01 := by decide +kernel
  refine lv_aload_n hx hb dX7_joinOf_0 rfl (lv_at hl 0 rfl) ?_
  refine va_get (D := (dC, dI)) (ci := 9) (v := .ref anod) (C := RX7) (T := TX7) (N := 14) hx hb hts in_RX7 hown hK hP 0 rfl rfl 1 (by decide) (hts (.fieldLink RX7 21 "Hornbook$Room" "nodes" "LHornbook$Nodes;") (by decide +kernel)) (fun _ h9 => h9) rfl dX7_joinOf_1 ?_
  refine lv_iload_n hx hb dX7_joinOf_4 rfl (lv_at hl 1 rfl) ?_
  refine z_i (wr := [(aroom, .inr (9, [.ref asort, .ref anod, .ref atold, .int 3, .ref aheld, .int 0, .ref apair, .ref astep, .int 0, .int 0, .int (-1), .int 0, .int 0, .ref asize]))]) (va_runV (As := [.int 0]) (rest := []) ⟨hx, hb, hml, hown, hts⟩ (c_N_through_0 l eD eI ad dC dI s.heap.size anod nm nl n1 n2 nf ns nh nk np kL) (cwV 1 hts g_c_R_join_01_0 rfl rfl rfl (by decide +kernel) ⟨Nat.le_of_ble_eq_true rfl, Nat.le_of_ble_eq_true rfl⟩) (z_preV (wc := [(anod, .inr (7, [.ref nm, .ref nl, .ref n1, .ref n2, .ref nf, .ref ns, .ref nh, .ref nk, .ref np, .int 16, .int 0, .int 16, .int 0, .int 0])), (ns, .inl (kL, 1024, .inr (.inl zSec)))]) hP hD hK hS hA hE [1, 2] [0] rfl (by decide) rfl (ci := 7) (q0 := 0) rfl rfl) rfl rfl hl.1 rfl (lv_room (Nat.le_of_ble_eq_true rfl)) dX7_joinOf_5 ⟨Nat.le_of_ble_eq_true rfl, Nat.le_of_ble_eq_true rfl⟩) hP hD hK hS hA [1, 2] [0] rfl rfl (by decide) (by decide) (fun r_1 u H locs hw_2 hP hD hK hS => ?_)
  obtain ⟨⟩ := u
  have hP : va_P (dC, dI) vwCl [(aroom, .inr (9, [.ref asort, .ref anod, .ref atold, .int 3, .ref aheld, .int 0, .ref apair, .ref astep, .int 0, .int 0, .int (-1), .int 0, .int 0, .ref asize])), (anod, .inr (7, [.ref nm, .ref nl, .ref n1, .ref n2, .ref nf, .ref ns, .ref nh, .ref nk, .ref np, .int 16, .int 0, .int 16, .int 0, .int 0])), (ns, .inl (kL, 1024, .inr (.inl zSec)))] H := hP
  have hD : va_D A [(aroom, .inr (9, [.ref asort, .ref anod, .ref atold, .int 3, .ref aheld, .int 0, .ref apair, .ref astep, .int 0, .int 0, .int (-1), .int 0, .int 0, .ref asize])), (anod, .inr (7, [.ref nm, .ref nl, .ref n1, .ref n2, .ref nf, .ref ns, .ref nh, .ref nk, .ref np, .int 16, .int 0, .int 16, .int 0, .int 0])), (ns, .inl (kL, 1024, .inr (.inl zSec)))] := hD
  have hK : va_K (dC, dI) vwCl [(kL, .long), (kL, .long)] s := hK
  have hw_2 : r_1 = 0 := hw_2
  have hw_2 := hw_2.symm
  subst hw_2
  refine lv_istore_n (lv' := [(3, .int 0), (0, .ref aroom), (1, .int 0), (2, .int 1)]) hx hb dX7_joinOf_8 rfl hl (by decide) rfl (fun ls hl => ?_)
  refine lv_aload_n hx hb dX7_joinOf_9 rfl (lv_at hl 1 rfl) ?_
  refine va_get (D := (dC, dI)) (ci := 9) (v := .ref anod) (C := RX7) (T := TX7) (N := 14) hx hb hts in_RX7 hown hK hP 0 rfl rfl 1 (by decide) (hts (.fieldLink RX7 21 "Hornbook$Room" "nodes" "LHornbook$Nodes;") (by decide +kernel)) (fun _ h9 => h9) rfl dX7_joinOf_10 ?_
  refine lv_iload_n hx hb dX7_joinOf_13 rfl (lv_at hl 3 rfl) ?_
  refine z_i (wr := [(aroom, .inr (9, [.ref asort, .ref anod, .ref atold, .int 3, .ref aheld, .int 0, .ref apair, .ref astep, .int 0, .int 0, .int (-1), .int 0, .int 0, .ref asize]))]) (va_runV (As := [.int 1]) (rest := []) ⟨hx, hb, hml, hown, hts⟩ (c_N_through_1 l eD eI ad dC dI H.size anod nm nl n1 n2 nf ns nh nk np kL) (cwV 1 hts g_c_R_join_01_1 rfl rfl rfl (by decide +kernel) ⟨Nat.le_of_ble_eq_true rfl, Nat.le_of_ble_eq_true rfl⟩) (z_preV (wc := [(anod, .inr (7, [.ref nm, .ref nl, .ref n1, .ref n2, .ref nf, .ref ns, .ref nh, .ref nk, .ref np, .int 16, .int 0, .int 16, .int 0, .int 0])), (ns, .inl (kL, 1024, .inr (.inl zSec)))]) hP hD hK hS hA hE [1, 2] [0] rfl (by decide) rfl (ci := 7) (q0 := 0) rfl rfl) rfl rfl hl.1 rfl (lv_room (Nat.le_of_ble_eq_true rfl)) dX7_joinOf_14 ⟨Nat.le_of_ble_eq_true rfl, Nat.le_of_ble_eq_true rfl⟩) hP hD hK hS hA [1, 2] [0] rfl rfl (by decide) (by decide) (fun r_3 u H locs hw_4 hP hD hK hS => ?_)
  obtain ⟨⟩ := u
  have hP : va_P (dC, dI) vwCl [(aroom, .inr (9, [.ref asort, .ref anod, .ref atold, .int 3, .ref aheld, .int 0, .ref apair, .ref astep, .int 0, .int 0, .int (-1), .int 0, .int 0, .ref asize])), (anod, .inr (7, [.ref nm, .ref nl, .ref n1, .ref n2, .ref nf, .ref ns, .ref nh, .ref nk, .ref np, .int 16, .int 0, .int 16, .int 0, .int 0])), (ns, .inl (kL, 1024, .inr (.inl zSec)))] H := hP
  have hD : va_D A [(aroom, .inr (9, [.ref asort, .ref anod, .ref atold, .int 3, .ref aheld, .int 0, .ref apair, .ref astep, .int 0, .int 0, .int (-1), .int 0, .int 0, .ref asize])), (anod, .inr (7, [.ref nm, .ref nl, .ref n1, .ref n2, .ref nf, .ref ns, .ref nh, .ref nk, .ref np, .int 16, .int 0, .int 16, .int 0, .int 0])), (ns, .inl (kL, 1024, .inr (.inl zSec)))] := hD
  have hK : va_K (dC, dI) vwCl [(kL, .long), (kL, .long), (kL, .long)] s := hK
  have hw_4 : r_3 = 1 := hw_4
  have hw_4 := hw_4.symm
  subst hw_4
  refine lv_istore (lv' := [(4, .int 1), (3, .int 0), (0, .ref aroom), (1, .int 0), (2, .int 1)]) hx hb dX7_joinOf_17 hl (by decide) rfl (fun ls hl => ?_)
  refine lv_iload_n hx hb dX7_joinOf_19 rfl (lv_at hl 1 rfl) ?_
  refine lv_iload hx hb dX7_joinOf_20 (lv_at hl 0 rfl) ?_
  refine lv_icmp_ne (tgt := 27) hx hb dX7_joinOf_22 (by decide) (fun c_5 => ?_) (fun c_5 => ?_)
  rotate_left
  · exact absurd c_5 (by decide)
  refine lv_iload_n hx hb dX7_joinOf_27 rfl (lv_at hl 1 rfl) ?_
  refine lv_if_eq (tgt := 36) hx hb dX7_joinOf_28 (by decide) (fun c_6 => ?_) (fun c_6 => ?_)
  rotate_left
  · exact absurd (by decide) c_6
  refine lv_iconst (v := 0) hx hb dX7_joinOf_36 (by decide) ?_
  have hP9 := hP.sub (ws' := [(aroom, .inr (9, [.ref asort, .ref anod, .ref atold, .int 3, .ref aheld, .int 0, .ref apair, .ref astep, .int 0, .int 0, .int (-1), .int 0, .int 0, .ref asize])), (anod, .inr (7, [.ref nm, .ref nl, .ref n1, .ref n2, .ref nf, .ref ns, .ref nh, .ref nk, .ref np, .int 16, .int 0, .int 16, .int 0, .int 0])), (ns, .inl (kL, 1024, .inr (.inl zSec)))]) [0, 1, 2] rfl
  have hD9 := hD.sub (ws' := [(aroom, .inr (9, [.ref asort, .ref anod, .ref atold, .int 3, .ref aheld, .int 0, .ref apair, .ref astep, .int 0, .int 0, .int (-1), .int 0, .int 0, .ref asize])), (anod, .inr (7, [.ref nm, .ref nl, .ref n1, .ref n2, .ref nf, .ref ns, .ref nh, .ref nk, .ref np, .int 16, .int 0, .int 16, .int 0, .int 0])), (ns, .inl (kL, 1024, .inr (.inl zSec)))]) [0, 1, 2] (by decide) rfl
  have hK9 := hK.sub (tys' := [(kL, .long)]) [0] rfl
  refine W.widen (k := 0) (n := 0) (Nat.le_of_ble_eq_true rfl) (Nat.le_of_ble_eq_true rfl) ?_
  exact W.iret (v := 0) hx hb hr (fun t ht hW => ⟨⟨0, (), rfl, rfl, ⟨by rw [ht]; exact hP9, va_K.moved hW.alike hK9, hD9⟩⟩, hS.F ht⟩) hS.2.2 dX7_joinOf_37

def wb_c_R_join_02 : List Cond := [.fieldLink RX7 21 "Hornbook$Room" "nodes" "LHornbook$Nodes;", .code yX5_through cX5_through 4 (some .int), .fieldLink RX5 28 "Hornbook$Nodes" "second" "[J", .methodLink RX7 194 yX5_through, .instanceMethod yX5_through, .selects RX5 yX5_through yX5_through, .initialized RX5] ++ u_ws RX5 TX5 14 ++ u_ws RX7 TX7 14
def w_c_R_join_02 : List Cond := .code yX7_joinOf cX7_joinOf 5 (some .int) :: wb_c_R_join_02
set_option maxRecDepth 100000 in
theorem g_c_R_join_02_0 : GoodIn w_c_R_join_02 (wsV RX7 194 RX5 yX5_through w_c_N_through_0) := goodIn_app (goodIn_of _ (by decide +kernel)) (goodIn_p (big := w_c_R_join_02) (.code yX5_through cX5_through 4 (some .int) :: wb_c_N_through_0) [2] rfl (by decide +kernel))
set_option maxRecDepth 100000 in
theorem g_c_R_join_02_1 : GoodIn w_c_R_join_02 (wsV RX7 194 RX5 yX5_through w_c_N_through_2) := goodIn_app (goodIn_of _ (by decide +kernel)) (goodIn_p (big := w_c_R_join_02) (.code yX5_through cX5_through 4 (some .int) :: wb_c_N_through_2) [2] rfl (by decide +kernel))
set_option maxHeartbeats 4000000 in
set_option maxRecDepth 100000 in
theorem c_R_join_02 (l : Launch) (eD eI : Nat) (ad : Nat → Nat) (dC : Nat → ClassId) (dI : Nat → Nat → Nat) (sz : Nat) (aroom : Nat) (anod : Nat) (asort : Nat) (atold : Nat) (aheld : Nat) (apair : Nat) (astep : Nat) (asize : Nat) (nm : Nat) (nl : Nat) (n1 : Nat) (n2 : Nat) (nf : Nat) (ns : Nat) (nh : Nat) (nk : Nat) (np : Nat) (kL : ClassId) : Met l yX7_joinOf w_c_R_join_02 ({ frames := 1, cells := 0, slots := 0, locals := 23 }) (va_Pc [.ref aroom, .int 0, .int 2] (zPre eD eI ad (dC, dI) [(aroom, .inr (9, [.ref asort, .ref anod, .ref atold, .int 3, .ref aheld, .int 0, .ref apair, .ref astep, .int 0, .int 0, .int (-1), .int 0, .int 0, .ref asize])), (anod, .inr (7, [.ref nm, .ref nl, .ref n1, .ref n2, .ref nf, .ref ns, .ref nh, .ref nk, .ref np, .int 16, .int 0, .int 16, .int 0, .int 0])), (ns, .inl (kL, 1024, .inr (.inl zSec)))] [(kL, .long)] sz)) (va_Qi (fun (r : Int32) (_ : Unit) => r = 0) (fun (_ : Unit) => zEnd (dC, dI) (va_A [(aroom, .inr (9, [.ref asort, .ref anod, .ref atold, .int 3, .ref aheld, .int 0, .ref apair, .ref astep, .int 0, .int 0, .int (-1), .int 0, .int 0, .ref asize])), (anod, .inr (7, [.ref nm, .ref nl, .ref n1, .ref n2, .ref nf, .ref ns, .ref nh, .ref nk, .ref np, .int 16, .int 0, .int 16, .int 0, .int 0])), (ns, .inl (kL, 1024, .inr (.inl zSec)))] sz) [(aroom, .inr (9, [.ref asort, .ref anod, .ref atold, .int 3, .ref aheld, .int 0, .ref apair, .ref astep, .int 0, .int 0, .int (-1), .int 0, .int 0, .ref asize])), (anod, .inr (7, [.ref nm, .ref nl, .ref n1, .ref n2, .ref nf, .ref ns, .ref nh, .ref nk, .ref np, .int 16, .int 0, .int 16, .int 0, .int 0])), (ns, .inl (kL, 1024, .inr (.inl zSec)))] [(kL, .long)]) (va_A [(aroom, .inr (9, [.ref asort, .ref anod, .ref atold, .int 3, .ref aheld, .int 0, .ref apair, .ref astep, .int 0, .int 0, .int (-1), .int 0, .int 0, .ref asize])), (anod, .inr (7, [.ref nm, .ref nl, .ref n1, .ref n2, .ref nf, .ref ns, .ref nh, .ref nk, .ref np, .int 16, .int 0, .int 16, .int 0, .int 0])), (ns, .inl (kL, 1024, .inr (.inl zSec)))] sz)) 0 0 (va_A [(aroom, .inr (9, [.ref asort, .ref anod, .ref atold, .int 3, .ref aheld, .int 0, .ref apair, .ref astep, .int 0, .int 0, .int (-1), .int 0, .int 0, .ref asize])), (anod, .inr (7, [.ref nm, .ref nl, .ref n1, .ref n2, .ref nf, .ref ns, .ref nh, .ref nk, .ref np, .int 16, .int 0, .int 16, .int 0, .int 0])), (ns, .inl (kL, 1024, .inr (.inl zSec)))] sz) := by
  refine Met.ofW (cc := cX7_joinOf) (maxL := 5) (ret := (some .int)) (by decide) rfl ?_
  intro p e s m args below meth c s₁ B hml hv
  obtain ⟨rfl, hsz, hP, hK, hD0, hE⟩ := hv
  have hx := B.exec
  have hb := B.bytes
  have hr := B.returns
  have hts := atoms_spec (ws := w_c_R_join_02) B.pre
  have hown : s.vm.findClass RX7 = some m.cls := findClass_of_methodNamed B.named
  have hlocks := B.notSynchronized
  subst hsz
  have hD := hD0.self (sz := s.heap.size)
  generalize hAe : va_A [(aroom, .inr (9, [.ref asort, .ref anod, .ref atold, .int 3, .ref aheld, .int 0, .ref apair, .ref astep, .int 0, .int 0, .int (-1), .int 0, .int 0, .ref asize])), (anod, .inr (7, [.ref nm, .ref nl, .ref n1, .ref n2, .ref nf, .ref ns, .ref nh, .ref nk, .ref np, .int 16, .int 0, .int 16, .int 0, .int 0])), (ns, .inl (kL, 1024, .inr (.inl zSec)))] s.heap.size = A at hD hE ⊢
  have hA : ∀ q : Nat, s.heap.size ≤ q → A q := fun q h => by rw [← hAe]; exact Or.inr h
  have hS : va_S A s.heap s.heap [] := va_S.rf
  have hP : va_P (dC, dI) vwCl [(aroom, .inr (9, [.ref asort, .ref anod, .ref atold, .int 3, .ref aheld, .int 0, .ref apair, .ref astep, .int 0, .int 0, .int (-1), .int 0, .int 0, .ref asize])), (anod, .inr (7, [.ref nm, .ref nl, .ref n1, .ref n2, .ref nf, .ref ns, .ref nh, .ref nk, .ref np, .int 16, .int 0, .int 16, .int 0, .int 0])), (ns, .inl (kL, 1024, .inr (.inl zSec)))] s.heap := hP
  have hl := lv_entry ([.ref aroom, .int 0, .int 2]) (n := 5) (Nat.le_of_ble_eq_true rfl)
  rw [lg_entry_eq]
  generalize (lg_sl ([.ref aroom, .int 0, .int 2]) ++ List.replicate (5 - (lg_sl ([.ref aroom, .int 0, .int 2])).length) Slot.unset).toArray = ls at hl ⊢
  have hl : lv_has ls 5 [(0, .ref aroom), (1, .int 0), (2, .int 2)] := hl
  have in_RX5 : ∀ w ∈ u_ws RX5 TX5 14, w ∈ w_c_R_join_02 := by decide +kernel
  have in_RX7 : ∀ w ∈ u_ws RX7 TX7 14, w ∈ w_c_R_join_02 := by decide +kernel
  refine lv_aload_n hx hb dX7_joinOf_0 rfl (lv_at hl 0 rfl) ?_
  refine va_get (D := (dC, dI)) (ci := 9) (v := .ref anod) (C := RX7) (T := TX7) (N := 14) hx hb hts in_RX7 hown hK hP 0 rfl rfl 1 (by decide) (hts (.fieldLink RX7 21 "Hornbook$Room" "nodes" "LHornbook$Nodes;") (by decide +kernel)) (fun _ h9 => h9) rfl dX7_joinOf_1 ?_
  refine lv_iload_n hx hb dX7_joinOf_4 rfl (lv_at hl 1 rfl) ?_
  refine z_i (wr := [(aroom, .inr (9, [.ref asort, .ref anod, .ref atold, .int 3, .ref aheld, .int 0, .ref apair, .ref astep, .int 0, .int 0, .int (-1), .int 0, .int 0, .ref asize]))]) (va_runV (As := [.int 0]) (rest := []) ⟨hx, hb, hml, hown, hts⟩ (c_N_through_0 l eD eI ad dC dI s.heap.size anod nm nl n1 n2 nf ns nh nk np kL) (cwV 1 hts g_c_R_join_02_0 rfl rfl rfl (by decide +kernel) ⟨Nat.le_of_ble_eq_true rfl, Nat.le_of_ble_eq_true rfl⟩) (z_preV (wc := [(anod, .inr (7, [.ref nm, .ref nl, .ref n1, .ref n2, .ref nf, .ref ns, .ref nh, .ref nk, .ref np, .int 16, .int 0, .int 16, .int 0, .int 0])), (ns, .inl (kL, 1024, .inr (.inl zSec)))]) hP hD hK hS hA hE [1, 2] [0] rfl (by decide) rfl (ci := 7) (q0 := 0) rfl rfl) rfl rfl hl.1 rfl (lv_room (Nat.le_of_ble_eq_true rfl)) dX7_joinOf_5 ⟨Nat.le_of_ble_eq_true rfl, Nat.le_of_ble_eq_true rfl⟩) hP hD hK hS hA [1, 2] [0] rfl rfl (by decide) (by decide) (fun r_1 u H locs hw_2 hP hD hK hS => ?_)
  obtain ⟨⟩ := u
  have hP : va_P (dC, dI) vwCl [(aroom, .inr (9, [.ref asort, .ref anod, .ref atold, .int 3, .ref aheld, .int 0, .ref apair, .ref astep, .int 0, .int 0, .int (-1), .int 0, .int 0, .ref asize])), (anod, .inr (7, [.ref nm, .ref nl, .ref n1, .ref n2, .ref nf, .ref ns, .ref nh, .ref nk, .ref np, .int 16, .int 0, .int 16, .int 0, .int 0])), (ns, .inl (kL, 1024, .inr (.inl zSec)))] H := hP
  have hD : va_D A [(aroom, .inr (9, [.ref asort, .ref anod, .ref atold, .int 3, .ref aheld, .int 0, .ref apair, .ref astep, .int 0, .int 0, .int (-1), .int 0, .int 0, .ref asize])), (anod, .inr (7, [.ref nm, .ref nl, .ref n1, .ref n2, .ref nf, .ref ns, .ref nh, .ref nk, .ref np, .int 16, .int 0, .int 16, .int 0, .int 0])), (ns, .inl (kL, 1024, .inr (.inl zSec)))] := hD
  have hK : va_K (dC, dI) vwCl [(kL, .long), (kL, .long)] s := hK
  have hw_2 : r_1 = 0 := hw_2
  have hw_2 := hw_2.symm
  subst hw_2
  refine lv_istore_n (lv' := [(3, .int 0), (0, .ref aroom), (1, .int 0), (2, .int 2)]) hx hb dX7_joinOf_8 rfl hl (by decide) rfl (fun ls hl => ?_)
  refine lv_aload_n hx hb dX7_joinOf_9 rfl (lv_at hl 1 rfl) ?_
  refine va_get (D := (dC, dI)) (ci := 9) (v := .ref anod) (C := RX7) (T := TX7) (N := 14) hx hb hts in_RX7 hown hK hP 0 rfl rfl 1 (by decide) (hts (.fieldLink RX7 21 "Hornbook$Room" "nodes" "LHornbook$Nodes;") (by decide +kernel)) (fun _ h9 => h9) rfl dX7_joinOf_10 ?_
  refine lv_iload_n hx hb dX7_joinOf_13 rfl (lv_at hl 3 rfl) ?_
  refine z_i (wr := [(aroom, .inr (9, [.ref asort, .ref anod, .ref atold, .int 3, .ref aheld, .int 0, .ref apair, .ref astep, .int 0, .int 0, .int (-1), .int 0, .int 0, .ref asize]))]) (va_runV (As := [.int 2]) (rest := []) ⟨hx, hb, hml, hown, hts⟩ (c_N_through_2 l eD eI ad dC dI H.size anod nm nl n1 n2 nf ns nh nk np kL) (cwV 1 hts g_c_R_join_02_1 rfl rfl rfl (by decide +kernel) ⟨Nat.le_of_ble_eq_true rfl, Nat.le_of_ble_eq_true rfl⟩) (z_preV (wc := [(anod, .inr (7, [.ref nm, .ref nl, .ref n1, .ref n2, .ref nf, .ref ns, .ref nh, .ref nk, .ref np, .int 16, .int 0, .int 16, .int 0, .int 0])), (ns, .inl (kL, 1024, .inr (.inl zSec)))]) hP hD hK hS hA hE [1, 2] [0] rfl (by decide) rfl (ci := 7) (q0 := 0) rfl rfl) rfl rfl hl.1 rfl (lv_room (Nat.le_of_ble_eq_true rfl)) dX7_joinOf_14 ⟨Nat.le_of_ble_eq_true rfl, Nat.le_of_ble_eq_true rfl⟩) hP hD hK hS hA [1, 2] [0] rfl rfl (by decide) (by decide) (fun r_3 u H locs hw_4 hP hD hK hS => ?_)
  obtain ⟨⟩ := u
  have hP : va_P (dC, dI) vwCl [(aroom, .inr (9, [.ref asort, .ref anod, .ref atold, .int 3, .ref aheld, .int 0, .ref apair, .ref astep, .int 0, .int 0, .int (-1), .int 0, .int 0, .ref asize])), (anod, .inr (7, [.ref nm, .ref nl, .ref n1, .ref n2, .ref nf, .ref ns, .ref nh, .ref nk, .ref np, .int 16, .int 0, .int 16, .int 0, .int 0])), (ns, .inl (kL, 1024, .inr (.inl zSec)))] H := hP
  have hD : va_D A [(aroom, .inr (9, [.ref asort, .ref anod, .ref atold, .int 3, .ref aheld, .int 0, .ref apair, .ref astep, .int 0, .int 0, .int (-1), .int 0, .int 0, .ref asize])), (anod, .inr (7, [.ref nm, .ref nl, .ref n1, .ref n2, .ref nf, .ref ns, .ref nh, .ref nk, .ref np, .int 16, .int 0, .int 16, .int 0, .int 0])), (ns, .inl (kL, 1024, .inr (.inl zSec)))] := hD
  have hK : va_K (dC, dI) vwCl [(kL, .long), (kL, .long), (kL, .long)] s := hK
  have hw_4 : r_3 = 2 := hw_4
  have hw_4 := hw_4.symm
  subst hw_4
  refine lv_istore (lv' := [(4, .int 2), (3, .int 0), (0, .ref aroom), (1, .int 0), (2, .int 2)]) hx hb dX7_joinOf_17 hl (by decide) rfl (fun ls hl => ?_)
  refine lv_iload_n hx hb dX7_joinOf_19 rfl (lv_at hl 1 rfl) ?_
  refine lv_iload hx hb dX7_joinOf_20 (lv_at hl 0 rfl) ?_
  refine lv_icmp_ne (tgt := 27) hx hb dX7_joinOf_22 (by decide) (fun c_5 => ?_) (fun c_5 => ?_)
  rotate_left
  · exact absurd c_5 (by decide)
  refine lv_iload_n hx hb dX7_joinOf_27 rfl (lv_at hl 1 rfl) ?_
  refine lv_if_eq (tgt := 36) hx hb dX7_joinOf_28 (by decide) (fun c_6 => ?_) (fun c_6 => ?_)
  rotate_left
  · exact absurd (by decide) c_6
  refine lv_iconst (v := 0) hx hb dX7_joinOf_36 (by decide) ?_
  have hP9 := hP.sub (ws' := [(aroom, .inr (9, [.ref asort, .ref anod, .ref atold, .int 3, .ref aheld, .int 0, .ref apair, .ref astep, .int 0, .int 0, .int (-1), .int 0, .int 0, .ref asize])), (anod, .inr (7, [.ref nm, .ref nl, .ref n1, .ref n2, .ref nf, .ref ns, .ref nh, .ref nk, .ref np, .int 16, .int 0, .int 16, .int 0, .int 0])), (ns, .inl (kL, 1024, .inr (.inl zSec)))]) [0, 1, 2] rfl
  have hD9 := hD.sub (ws' := [(aroom, .inr (9, [.ref asort, .ref anod, .ref atold, .int 3, .ref aheld, .int 0, .ref apair, .ref astep, .int 0, .int 0, .int (-1), .int 0, .int 0, .ref asize])), (anod, .inr (7, [.ref nm, .ref nl, .ref n1, .ref n2, .ref nf, .ref ns, .ref nh, .ref nk, .ref np, .int 16, .int 0, .int 16, .int 0, .int 0])), (ns, .inl (kL, 1024, .inr (.inl zSec)))]) [0, 1, 2] (by decide) rfl
  have hK9 := hK.sub (tys' := [(kL, .long)]) [0] rfl
  refine W.widen (k := 0) (n := 0) (Nat.le_of_ble_eq_true rfl) (Nat.le_of_ble_eq_true rfl) ?_
  exact W.iret (v := 0) hx hb hr (fun t ht hW => ⟨⟨0, (), rfl, rfl, ⟨by rw [ht]; exact hP9, va_K.moved hW.alike hK9, hD9⟩⟩, hS.F ht⟩) hS.2.2 dX7_joinOf_37

def wb_c_R_join_10 : List Cond := [.fieldLink RX7 21 "Hornbook$Room" "nodes" "LHornbook$Nodes;", .code yX5_through cX5_through 4 (some .int), .fieldLink RX5 28 "Hornbook$Nodes" "second" "[J", .methodLink RX7 194 yX5_through, .instanceMethod yX5_through, .selects RX5 yX5_through yX5_through, .initialized RX5] ++ u_ws RX5 TX5 14 ++ u_ws RX7 TX7 14
def w_c_R_join_10 : List Cond := .code yX7_joinOf cX7_joinOf 5 (some .int) :: wb_c_R_join_10
set_option maxRecDepth 100000 in
theorem g_c_R_join_10_0 : GoodIn w_c_R_join_10 (wsV RX7 194 RX5 yX5_through w_c_N_through_1) := goodIn_app (goodIn_of _ (by decide +kernel)) (goodIn_p (big := w_c_R_join_10) (.code yX5_through cX5_through 4 (some .int) :: wb_c_N_through_1) [2] rfl (by decide +kernel))
set_option maxRecDepth 100000 in
theorem g_c_R_join_10_1 : GoodIn w_c_R_join_10 (wsV RX7 194 RX5 yX5_through w_c_N_through_0) := goodIn_app (goodIn_of _ (by decide +kernel)) (goodIn_p (big := w_c_R_join_10) (.code yX5_through cX5_through 4 (some .int) :: wb_c_N_through_0) [2] rfl (by decide +kernel))
set_option maxHeartbeats 4000000 in
set_option maxRecDepth 100000 in
theorem c_R_join_10 (l : Launch) (eD eI : Nat) (ad : Nat → Nat) (dC : Nat → ClassId) (dI : Nat → Nat → Nat) (sz : Nat) (aroom : Nat) (anod : Nat) (asort : Nat) (atold : Nat) (aheld : Nat) (apair : Nat) (astep : Nat) (asize : Nat) (nm : Nat) (nl : Nat) (n1 : Nat) (n2 : Nat) (nf : Nat) (ns : Nat) (nh : Nat) (nk : Nat) (np : Nat) (kL : ClassId) : Met l yX7_joinOf w_c_R_join_10 ({ frames := 1, cells := 0, slots := 0, locals := 23 }) (va_Pc [.ref aroom, .int 1, .int 0] (zPre eD eI ad (dC, dI) [(aroom, .inr (9, [.ref asort, .ref anod, .ref atold, .int 3, .ref aheld, .int 0, .ref apair, .ref astep, .int 0, .int 0, .int (-1), .int 0, .int 0, .ref asize])), (anod, .inr (7, [.ref nm, .ref nl, .ref n1, .ref n2, .ref nf, .ref ns, .ref nh, .ref nk, .ref np, .int 16, .int 0, .int 16, .int 0, .int 0])), (ns, .inl (kL, 1024, .inr (.inl zSec)))] [(kL, .long)] sz)) (va_Qi (fun (r : Int32) (_ : Unit) => r = 0) (fun (_ : Unit) => zEnd (dC, dI) (va_A [(aroom, .inr (9, [.ref asort, .ref anod, .ref atold, .int 3, .ref aheld, .int 0, .ref apair, .ref astep, .int 0, .int 0, .int (-1), .int 0, .int 0, .ref asize])), (anod, .inr (7, [.ref nm, .ref nl, .ref n1, .ref n2, .ref nf, .ref ns, .ref nh, .ref nk, .ref np, .int 16, .int 0, .int 16, .int 0, .int 0])), (ns, .inl (kL, 1024, .inr (.inl zSec)))] sz) [(aroom, .inr (9, [.ref asort, .ref anod, .ref atold, .int 3, .ref aheld, .int 0, .ref apair, .ref astep, .int 0, .int 0, .int (-1), .int 0, .int 0, .ref asize])), (anod, .inr (7, [.ref nm, .ref nl, .ref n1, .ref n2, .ref nf, .ref ns, .ref nh, .ref nk, .ref np, .int 16, .int 0, .int 16, .int 0, .int 0])), (ns, .inl (kL, 1024, .inr (.inl zSec)))] [(kL, .long)]) (va_A [(aroom, .inr (9, [.ref asort, .ref anod, .ref atold, .int 3, .ref aheld, .int 0, .ref apair, .ref astep, .int 0, .int 0, .int (-1), .int 0, .int 0, .ref asize])), (anod, .inr (7, [.ref nm, .ref nl, .ref n1, .ref n2, .ref nf, .ref ns, .ref nh, .ref nk, .ref np, .int 16, .int 0, .int 16, .int 0, .int 0])), (ns, .inl (kL, 1024, .inr (.inl zSec)))] sz)) 0 0 (va_A [(aroom, .inr (9, [.ref asort, .ref anod, .ref atold, .int 3, .ref aheld, .int 0, .ref apair, .ref astep, .int 0, .int 0, .int (-1), .int 0, .int 0, .ref asize])), (anod, .inr (7, [.ref nm, .ref nl, .ref n1, .ref n2, .ref nf, .ref ns, .ref nh, .ref nk, .ref np, .int 16, .int 0, .int 16, .int 0, .int 0])), (ns, .inl (kL, 1024, .inr (.inl zSec)))] sz) := by
  refine Met.ofW (cc := cX7_joinOf) (maxL := 5) (ret := (some .int)) (by decide) rfl ?_
  intro p e s m args below meth c s₁ B hml hv
  obtain ⟨rfl, hsz, hP, hK, hD0, hE⟩ := hv
  have hx := B.exec
  have hb := B.bytes
  have hr := B.returns
  have hts := atoms_spec (ws := w_c_R_join_10) B.pre
  have hown : s.vm.findClass RX7 = some m.cls := findClass_of_methodNamed B.named
  have hlocks := B.notSynchronized
  subst hsz
  have hD := hD0.self (sz := s.heap.size)
  generalize hAe : va_A [(aroom, .inr (9, [.ref asort, .ref anod, .ref atold, .int 3, .ref aheld, .int 0, .ref apair, .ref astep, .int 0, .int 0, .int (-1), .int 0, .int 0, .ref asize])), (anod, .inr (7, [.ref nm, .ref nl, .ref n1, .ref n2, .ref nf, .ref ns, .ref nh, .ref nk, .ref np, .int 16, .int 0, .int 16, .int 0, .int 0])), (ns, .inl (kL, 1024, .inr (.inl zSec)))] s.heap.size = A at hD hE ⊢
  have hA : ∀ q : Nat, s.heap.size ≤ q → A q := fun q h => by rw [← hAe]; exact Or.inr h
  have hS : va_S A s.heap s.heap [] := va_S.rf
  have hP : va_P (dC, dI) vwCl [(aroom, .inr (9, [.ref asort, .ref anod, .ref atold, .int 3, .ref aheld, .int 0, .ref apair, .ref astep, .int 0, .int 0, .int (-1), .int 0, .int 0, .ref asize])), (anod, .inr (7, [.ref nm, .ref nl, .ref n1, .ref n2, .ref nf, .ref ns, .ref nh, .ref nk, .ref np, .int 16, .int 0, .int 16, .int 0, .int 0])), (ns, .inl (kL, 1024, .inr (.inl zSec)))] s.heap := hP
  have hl := lv_entry ([.ref aroom, .int 1, .int 0]) (n := 5) (Nat.le_of_ble_eq_true rfl)
  rw [lg_entry_eq]
  generalize (lg_sl ([.ref aroom, .int 1, .int 0]) ++ List.replicate (5 - (lg_sl ([.ref aroom, .int 1, .int 0])).length) Slot.unset).toArray = ls at hl ⊢
  have hl : lv_has ls 5 [(0, .ref aroom), (1, .int 1), (2, .int 0)] := hl
  have in_RX5 : ∀ w ∈ u_ws RX5 TX5 14, w ∈ w_c_R_join_10 := by decide +kernel
  have in_RX7 : ∀ w ∈ u_ws RX7 TX7 14, w ∈ w_c_R_join_10 := by decide +kernel
  refine lv_aload_n hx hb dX7_joinOf_0 rfl (lv_at hl 0 rfl) ?_
  refine va_get (D := (dC, dI)) (ci := 9) (v := .ref anod) (C := RX7) (T := TX7) (N := 14) hx hb hts in_RX7 hown hK hP 0 rfl rfl 1 (by decide) (hts (.fieldLink RX7 21 "Hornbook$Room" "nodes" "LHornbook$Nodes;") (by decide +kernel)) (fun _ h9 => h9) rfl dX7_joinOf_1 ?_
  refine lv_iload_n hx hb dX7_joinOf_4 rfl (lv_at hl 1 rfl) ?_
  refine z_i (wr := [(aroom, .inr (9, [.ref asort, .ref anod, .ref atold, .int 3, .ref aheld, .int 0, .ref apair, .ref astep, .int 0, .int 0, .int (-1), .int 0, .int 0, .ref asize]))]) (va_runV (As := [.int 1]) (rest := []) ⟨hx, hb, hml, hown, hts⟩ (c_N_through_1 l eD eI ad dC dI s.heap.size anod nm nl n1 n2 nf ns nh nk np kL) (cwV 1 hts g_c_R_join_10_0 rfl rfl rfl (by decide +kernel) ⟨Nat.le_of_ble_eq_true rfl, Nat.le_of_ble_eq_true rfl⟩) (z_preV (wc := [(anod, .inr (7, [.ref nm, .ref nl, .ref n1, .ref n2, .ref nf, .ref ns, .ref nh, .ref nk, .ref np, .int 16, .int 0, .int 16, .int 0, .int 0])), (ns, .inl (kL, 1024, .inr (.inl zSec)))]) hP hD hK hS hA hE [1, 2] [0] rfl (by decide) rfl (ci := 7) (q0 := 0) rfl rfl) rfl rfl hl.1 rfl (lv_room (Nat.le_of_ble_eq_true rfl)) dX7_joinOf_5 ⟨Nat.le_of_ble_eq_true rfl, Nat.le_of_ble_eq_true rfl⟩) hP hD hK hS hA [1, 2] [0] rfl rfl (by decide) (by decide) (fun r_1 u H locs hw_2 hP hD hK hS => ?_)
  obtain ⟨⟩ := u
  have hP : va_P (dC, dI) vwCl [(aroom, .inr (9, [.ref asort, .ref anod, .ref atold, .int 3, .ref aheld, .int 0, .ref apair, .ref astep, .int 0, .int 0, .int (-1), .int 0, .int 0, .ref asize])), (anod, .inr (7, [.ref nm, .ref nl, .ref n1, .ref n2, .ref nf, .ref ns, .ref nh, .ref nk, .ref np, .int 16, .int 0, .int 16, .int 0, .int 0])), (ns, .inl (kL, 1024, .inr (.inl zSec)))] H := hP
  have hD : va_D A [(aroom, .inr (9, [.ref asort, .ref anod, .ref atold, .int 3, .ref aheld, .int 0, .ref apair, .ref astep, .int 0, .int 0, .int (-1), .int 0, .int 0, .ref asize])), (anod, .inr (7, [.ref nm, .ref nl, .ref n1, .ref n2, .ref nf, .ref ns, .ref nh, .ref nk, .ref np, .int 16, .int 0, .int 16, .int 0, .int 0])), (ns, .inl (kL, 1024, .inr (.inl zSec)))] := hD
  have hK : va_K (dC, dI) vwCl [(kL, .long), (kL, .long)] s := hK
  have hw_2 : r_1 = 1 := hw_2
  have hw_2 := hw_2.symm
  subst hw_2
  refine lv_istore_n (lv' := [(3, .int 1), (0, .ref aroom), (1, .int 1), (2, .int 0)]) hx hb dX7_joinOf_8 rfl hl (by decide) rfl (fun ls hl => ?_)
  refine lv_aload_n hx hb dX7_joinOf_9 rfl (lv_at hl 1 rfl) ?_
  refine va_get (D := (dC, dI)) (ci := 9) (v := .ref anod) (C := RX7) (T := TX7) (N := 14) hx hb hts in_RX7 hown hK hP 0 rfl rfl 1 (by decide) (hts (.fieldLink RX7 21 "Hornbook$Room" "nodes" "LHornbook$Nodes;") (by decide +kernel)) (fun _ h9 => h9) rfl dX7_joinOf_10 ?_
  refine lv_iload_n hx hb dX7_joinOf_13 rfl (lv_at hl 3 rfl) ?_
  refine z_i (wr := [(aroom, .inr (9, [.ref asort, .ref anod, .ref atold, .int 3, .ref aheld, .int 0, .ref apair, .ref astep, .int 0, .int 0, .int (-1), .int 0, .int 0, .ref asize]))]) (va_runV (As := [.int 0]) (rest := []) ⟨hx, hb, hml, hown, hts⟩ (c_N_through_0 l eD eI ad dC dI H.size anod nm nl n1 n2 nf ns nh nk np kL) (cwV 1 hts g_c_R_join_10_1 rfl rfl rfl (by decide +kernel) ⟨Nat.le_of_ble_eq_true rfl, Nat.le_of_ble_eq_true rfl⟩) (z_preV (wc := [(anod, .inr (7, [.ref nm, .ref nl, .ref n1, .ref n2, .ref nf, .ref ns, .ref nh, .ref nk, .ref np, .int 16, .int 0, .int 16, .int 0, .int 0])), (ns, .inl (kL, 1024, .inr (.inl zSec)))]) hP hD hK hS hA hE [1, 2] [0] rfl (by decide) rfl (ci := 7) (q0 := 0) rfl rfl) rfl rfl hl.1 rfl (lv_room (Nat.le_of_ble_eq_true rfl)) dX7_joinOf_14 ⟨Nat.le_of_ble_eq_true rfl, Nat.le_of_ble_eq_true rfl⟩) hP hD hK hS hA [1, 2] [0] rfl rfl (by decide) (by decide) (fun r_3 u H locs hw_4 hP hD hK hS => ?_)
  obtain ⟨⟩ := u
  have hP : va_P (dC, dI) vwCl [(aroom, .inr (9, [.ref asort, .ref anod, .ref atold, .int 3, .ref aheld, .int 0, .ref apair, .ref astep, .int 0, .int 0, .int (-1), .int 0, .int 0, .ref asize])), (anod, .inr (7, [.ref nm, .ref nl, .ref n1, .ref n2, .ref nf, .ref ns, .ref nh, .ref nk, .ref np, .int 16, .int 0, .int 16, .int 0, .int 0])), (ns, .inl (kL, 1024, .inr (.inl zSec)))] H := hP
  have hD : va_D A [(aroom, .inr (9, [.ref asort, .ref anod, .ref atold, .int 3, .ref aheld, .int 0, .ref apair, .ref astep, .int 0, .int 0, .int (-1), .int 0, .int 0, .ref asize])), (anod, .inr (7, [.ref nm, .ref nl, .ref n1, .ref n2, .ref nf, .ref ns, .ref nh, .ref nk, .ref np, .int 16, .int 0, .int 16, .int 0, .int 0])), (ns, .inl (kL, 1024, .inr (.inl zSec)))] := hD
  have hK : va_K (dC, dI) vwCl [(kL, .long), (kL, .long), (kL, .long)] s := hK
  have hw_4 : r_3 = 0 := hw_4
  have hw_4 := hw_4.symm
  subst hw_4
  refine lv_istore (lv' := [(4, .int 0), (3, .int 1), (0, .ref aroom), (1, .int 1), (2, .int 0)]) hx hb dX7_joinOf_17 hl (by decide) rfl (fun ls hl => ?_)
  refine lv_iload_n hx hb dX7_joinOf_19 rfl (lv_at hl 1 rfl) ?_
  refine lv_iload hx hb dX7_joinOf_20 (lv_at hl 0 rfl) ?_
  refine lv_icmp_ne (tgt := 27) hx hb dX7_joinOf_22 (by decide) (fun c_5 => ?_) (fun c_5 => ?_)
  rotate_left
  · exact absurd c_5 (by decide)
  refine lv_iload_n hx hb dX7_joinOf_27 rfl (lv_at hl 1 rfl) ?_
  refine lv_if_eq (tgt := 36) hx hb dX7_joinOf_28 (by decide) (fun c_6 => ?_) (fun c_6 => ?_)
  · exact absurd c_6 (by decide)
  refine lv_iload hx hb dX7_joinOf_31 (lv_at hl 0 rfl) ?_
  refine lv_if_ne (tgt := 38) hx hb dX7_joinOf_33 (by decide) (fun c_7 => ?_) (fun c_7 => ?_)
  · exact absurd (by decide) c_7
  refine lv_iconst (v := 0) hx hb dX7_joinOf_36 (by decide) ?_
  have hP9 := hP.sub (ws' := [(aroom, .inr (9, [.ref asort, .ref anod, .ref atold, .int 3, .ref aheld, .int 0, .ref apair, .ref astep, .int 0, .int 0, .int (-1), .int 0, .int 0, .ref asize])), (anod, .inr (7, [.ref nm, .ref nl, .ref n1, .ref n2, .ref nf, .ref ns, .ref nh, .ref nk, .ref np, .int 16, .int 0, .int 16, .int 0, .int 0])), (ns, .inl (kL, 1024, .inr (.inl zSec)))]) [0, 1, 2] rfl
  have hD9 := hD.sub (ws' := [(aroom, .inr (9, [.ref asort, .ref anod, .ref atold, .int 3, .ref aheld, .int 0, .ref apair, .ref astep, .int 0, .int 0, .int (-1), .int 0, .int 0, .ref asize])), (anod, .inr (7, [.ref nm, .ref nl, .ref n1, .ref n2, .ref nf, .ref ns, .ref nh, .ref nk, .ref np, .int 16, .int 0, .int 16, .int 0, .int 0])), (ns, .inl (kL, 1024, .inr (.inl zSec)))]) [0, 1, 2] (by decide) rfl
  have hK9 := hK.sub (tys' := [(kL, .long)]) [0] rfl
  refine W.widen (k := 0) (n := 0) (Nat.le_of_ble_eq_true rfl) (Nat.le_of_ble_eq_true rfl) ?_
  exact W.iret (v := 0) hx hb hr (fun t ht hW => ⟨⟨0, (), rfl, rfl, ⟨by rw [ht]; exact hP9, va_K.moved hW.alike hK9, hD9⟩⟩, hS.F ht⟩) hS.2.2 dX7_joinOf_37

def wb_c_R_join_11 : List Cond := [.fieldLink RX7 21 "Hornbook$Room" "nodes" "LHornbook$Nodes;", .code yX5_through cX5_through 4 (some .int), .fieldLink RX5 28 "Hornbook$Nodes" "second" "[J", .methodLink RX7 194 yX5_through, .instanceMethod yX5_through, .selects RX5 yX5_through yX5_through, .initialized RX5] ++ u_ws RX5 TX5 14 ++ u_ws RX7 TX7 14
def w_c_R_join_11 : List Cond := .code yX7_joinOf cX7_joinOf 5 (some .int) :: wb_c_R_join_11
set_option maxRecDepth 100000 in
theorem g_c_R_join_11_0 : GoodIn w_c_R_join_11 (wsV RX7 194 RX5 yX5_through w_c_N_through_1) := goodIn_app (goodIn_of _ (by decide +kernel)) (goodIn_p (big := w_c_R_join_11) (.code yX5_through cX5_through 4 (some .int) :: wb_c_N_through_1) [2] rfl (by decide +kernel))
set_option maxHeartbeats 4000000 in
set_option maxRecDepth 100000 in
theorem c_R_join_11 (l : Launch) (eD eI : Nat) (ad : Nat → Nat) (dC : Nat → ClassId) (dI : Nat → Nat → Nat) (sz : Nat) (aroom : Nat) (anod : Nat) (asort : Nat) (atold : Nat) (aheld : Nat) (apair : Nat) (astep : Nat) (asize : Nat) (nm : Nat) (nl : Nat) (n1 : Nat) (n2 : Nat) (nf : Nat) (ns : Nat) (nh : Nat) (nk : Nat) (np : Nat) (kL : ClassId) : Met l yX7_joinOf w_c_R_join_11 ({ frames := 1, cells := 0, slots := 0, locals := 23 }) (va_Pc [.ref aroom, .int 1, .int 1] (zPre eD eI ad (dC, dI) [(aroom, .inr (9, [.ref asort, .ref anod, .ref atold, .int 3, .ref aheld, .int 0, .ref apair, .ref astep, .int 0, .int 0, .int (-1), .int 0, .int 0, .ref asize])), (anod, .inr (7, [.ref nm, .ref nl, .ref n1, .ref n2, .ref nf, .ref ns, .ref nh, .ref nk, .ref np, .int 16, .int 0, .int 16, .int 0, .int 0])), (ns, .inl (kL, 1024, .inr (.inl zSec)))] [(kL, .long)] sz)) (va_Qi (fun (r : Int32) (_ : Unit) => r = 1) (fun (_ : Unit) => zEnd (dC, dI) (va_A [(aroom, .inr (9, [.ref asort, .ref anod, .ref atold, .int 3, .ref aheld, .int 0, .ref apair, .ref astep, .int 0, .int 0, .int (-1), .int 0, .int 0, .ref asize])), (anod, .inr (7, [.ref nm, .ref nl, .ref n1, .ref n2, .ref nf, .ref ns, .ref nh, .ref nk, .ref np, .int 16, .int 0, .int 16, .int 0, .int 0])), (ns, .inl (kL, 1024, .inr (.inl zSec)))] sz) [(aroom, .inr (9, [.ref asort, .ref anod, .ref atold, .int 3, .ref aheld, .int 0, .ref apair, .ref astep, .int 0, .int 0, .int (-1), .int 0, .int 0, .ref asize])), (anod, .inr (7, [.ref nm, .ref nl, .ref n1, .ref n2, .ref nf, .ref ns, .ref nh, .ref nk, .ref np, .int 16, .int 0, .int 16, .int 0, .int 0])), (ns, .inl (kL, 1024, .inr (.inl zSec)))] [(kL, .long)]) (va_A [(aroom, .inr (9, [.ref asort, .ref anod, .ref atold, .int 3, .ref aheld, .int 0, .ref apair, .ref astep, .int 0, .int 0, .int (-1), .int 0, .int 0, .ref asize])), (anod, .inr (7, [.ref nm, .ref nl, .ref n1, .ref n2, .ref nf, .ref ns, .ref nh, .ref nk, .ref np, .int 16, .int 0, .int 16, .int 0, .int 0])), (ns, .inl (kL, 1024, .inr (.inl zSec)))] sz)) 0 0 (va_A [(aroom, .inr (9, [.ref asort, .ref anod, .ref atold, .int 3, .ref aheld, .int 0, .ref apair, .ref astep, .int 0, .int 0, .int (-1), .int 0, .int 0, .ref asize])), (anod, .inr (7, [.ref nm, .ref nl, .ref n1, .ref n2, .ref nf, .ref ns, .ref nh, .ref nk, .ref np, .int 16, .int 0, .int 16, .int 0, .int 0])), (ns, .inl (kL, 1024, .inr (.inl zSec)))] sz) := by
  refine Met.ofW (cc := cX7_joinOf) (maxL := 5) (ret := (some .int)) (by decide) rfl ?_
  intro p e s m args below meth c s₁ B hml hv
  obtain ⟨rfl, hsz, hP, hK, hD0, hE⟩ := hv
  have hx := B.exec
  have hb := B.bytes
  have hr := B.returns
  have hts := atoms_spec (ws := w_c_R_join_11) B.pre
  have hown : s.vm.findClass RX7 = some m.cls := findClass_of_methodNamed B.named
  have hlocks := B.notSynchronized
  subst hsz
  have hD := hD0.self (sz := s.heap.size)
  generalize hAe : va_A [(aroom, .inr (9, [.ref asort, .ref anod, .ref atold, .int 3, .ref aheld, .int 0, .ref apair, .ref astep, .int 0, .int 0, .int (-1), .int 0, .int 0, .ref asize])), (anod, .inr (7, [.ref nm, .ref nl, .ref n1, .ref n2, .ref nf, .ref ns, .ref nh, .ref nk, .ref np, .int 16, .int 0, .int 16, .int 0, .int 0])), (ns, .inl (kL, 1024, .inr (.inl zSec)))] s.heap.size = A at hD hE ⊢
  have hA : ∀ q : Nat, s.heap.size ≤ q → A q := fun q h => by rw [← hAe]; exact Or.inr h
  have hS : va_S A s.heap s.heap [] := va_S.rf
  have hP : va_P (dC, dI) vwCl [(aroom, .inr (9, [.ref asort, .ref anod, .ref atold, .int 3, .ref aheld, .int 0, .ref apair, .ref astep, .int 0, .int 0, .int (-1), .int 0, .int 0, .ref asize])), (anod, .inr (7, [.ref nm, .ref nl, .ref n1, .ref n2, .ref nf, .ref ns, .ref nh, .ref nk, .ref np, .int 16, .int 0, .int 16, .int 0, .int 0])), (ns, .inl (kL, 1024, .inr (.inl zSec)))] s.heap := hP
  have hl := lv_entry ([.ref aroom, .int 1, .int 1]) (n := 5) (Nat.le_of_ble_eq_true rfl)
  rw [lg_entry_eq]
  generalize (lg_sl ([.ref aroom, .int 1, .int 1]) ++ List.replicate (5 - (lg_sl ([.ref aroom, .int 1, .int 1])).length) Slot.unset).toArray = ls at hl ⊢
  have hl : lv_has ls 5 [(0, .ref aroom), (1, .int 1), (2, .int 1)] := hl
  have in_RX5 : ∀ w ∈ u_ws RX5 TX5 14, w ∈ w_c_R_join_11 := by decide +kernel
  have in_RX7 : ∀ w ∈ u_ws RX7 TX7 14, w ∈ w_c_R_join_11 := by decide +kernel
  refine lv_aload_n hx hb dX7_joinOf_0 rfl (lv_at hl 0 rfl) ?_
  refine va_get (D := (dC, dI)) (ci := 9) (v := .ref anod) (C := RX7) (T := TX7) (N := 14) hx hb hts in_RX7 hown hK hP 0 rfl rfl 1 (by decide) (hts (.fieldLink RX7 21 "Hornbook$Room" "nodes" "LHornbook$Nodes;") (by decide +kernel)) (fun _ h9 => h9) rfl dX7_joinOf_1 ?_
  refine lv_iload_n hx hb dX7_joinOf_4 rfl (lv_at hl 1 rfl) ?_
  refine z_i (wr := [(aroom, .inr (9, [.ref asort, .ref anod, .ref atold, .int 3, .ref aheld, .int 0, .ref apair, .ref astep, .int 0, .int 0, .int (-1), .int 0, .int 0, .ref asize]))]) (va_runV (As := [.int 1]) (rest := []) ⟨hx, hb, hml, hown, hts⟩ (c_N_through_1 l eD eI ad dC dI s.heap.size anod nm nl n1 n2 nf ns nh nk np kL) (cwV 1 hts g_c_R_join_11_0 rfl rfl rfl (by decide +kernel) ⟨Nat.le_of_ble_eq_true rfl, Nat.le_of_ble_eq_true rfl⟩) (z_preV (wc := [(anod, .inr (7, [.ref nm, .ref nl, .ref n1, .ref n2, .ref nf, .ref ns, .ref nh, .ref nk, .ref np, .int 16, .int 0, .int 16, .int 0, .int 0])), (ns, .inl (kL, 1024, .inr (.inl zSec)))]) hP hD hK hS hA hE [1, 2] [0] rfl (by decide) rfl (ci := 7) (q0 := 0) rfl rfl) rfl rfl hl.1 rfl (lv_room (Nat.le_of_ble_eq_true rfl)) dX7_joinOf_5 ⟨Nat.le_of_ble_eq_true rfl, Nat.le_of_ble_eq_true rfl⟩) hP hD hK hS hA [1, 2] [0] rfl rfl (by decide) (by decide) (fun r_1 u H locs hw_2 hP hD hK hS => ?_)
  obtain ⟨⟩ := u
  have hP : va_P (dC, dI) vwCl [(aroom, .inr (9, [.ref asort, .ref anod, .ref atold, .int 3, .ref aheld, .int 0, .ref apair, .ref astep, .int 0, .int 0, .int (-1), .int 0, .int 0, .ref asize])), (anod, .inr (7, [.ref nm, .ref nl, .ref n1, .ref n2, .ref nf, .ref ns, .ref nh, .ref nk, .ref np, .int 16, .int 0, .int 16, .int 0, .int 0])), (ns, .inl (kL, 1024, .inr (.inl zSec)))] H := hP
  have hD : va_D A [(aroom, .inr (9, [.ref asort, .ref anod, .ref atold, .int 3, .ref aheld, .int 0, .ref apair, .ref astep, .int 0, .int 0, .int (-1), .int 0, .int 0, .ref asize])), (anod, .inr (7, [.ref nm, .ref nl, .ref n1, .ref n2, .ref nf, .ref ns, .ref nh, .ref nk, .ref np, .int 16, .int 0, .int 16, .int 0, .int 0])), (ns, .inl (kL, 1024, .inr (.inl zSec)))] := hD
  have hK : va_K (dC, dI) vwCl [(kL, .long), (kL, .long)] s := hK
  have hw_2 : r_1 = 1 := hw_2
  have hw_2 := hw_2.symm
  subst hw_2
  refine lv_istore_n (lv' := [(3, .int 1), (0, .ref aroom), (1, .int 1), (2, .int 1)]) hx hb dX7_joinOf_8 rfl hl (by decide) rfl (fun ls hl => ?_)
  refine lv_aload_n hx hb dX7_joinOf_9 rfl (lv_at hl 1 rfl) ?_
  refine va_get (D := (dC, dI)) (ci := 9) (v := .ref anod) (C := RX7) (T := TX7) (N := 14) hx hb hts in_RX7 hown hK hP 0 rfl rfl 1 (by decide) (hts (.fieldLink RX7 21 "Hornbook$Room" "nodes" "LHornbook$Nodes;") (by decide +kernel)) (fun _ h9 => h9) rfl dX7_joinOf_10 ?_
  refine lv_iload_n hx hb dX7_joinOf_13 rfl (lv_at hl 3 rfl) ?_
  refine z_i (wr := [(aroom, .inr (9, [.ref asort, .ref anod, .ref atold, .int 3, .ref aheld, .int 0, .ref apair, .ref astep, .int 0, .int 0, .int (-1), .int 0, .int 0, .ref asize]))]) (va_runV (As := [.int 1]) (rest := []) ⟨hx, hb, hml, hown, hts⟩ (c_N_through_1 l eD eI ad dC dI H.size anod nm nl n1 n2 nf ns nh nk np kL) (cwV 1 hts g_c_R_join_11_0 rfl rfl rfl (by decide +kernel) ⟨Nat.le_of_ble_eq_true rfl, Nat.le_of_ble_eq_true rfl⟩) (z_preV (wc := [(anod, .inr (7, [.ref nm, .ref nl, .ref n1, .ref n2, .ref nf, .ref ns, .ref nh, .ref nk, .ref np, .int 16, .int 0, .int 16, .int 0, .int 0])), (ns, .inl (kL, 1024, .inr (.inl zSec)))]) hP hD hK hS hA hE [1, 2] [0] rfl (by decide) rfl (ci := 7) (q0 := 0) rfl rfl) rfl rfl hl.1 rfl (lv_room (Nat.le_of_ble_eq_true rfl)) dX7_joinOf_14 ⟨Nat.le_of_ble_eq_true rfl, Nat.le_of_ble_eq_true rfl⟩) hP hD hK hS hA [1, 2] [0] rfl rfl (by decide) (by decide) (fun r_3 u H locs hw_4 hP hD hK hS => ?_)
  obtain ⟨⟩ := u
  have hP : va_P (dC, dI) vwCl [(aroom, .inr (9, [.ref asort, .ref anod, .ref atold, .int 3, .ref aheld, .int 0, .ref apair, .ref astep, .int 0, .int 0, .int (-1), .int 0, .int 0, .ref asize])), (anod, .inr (7, [.ref nm, .ref nl, .ref n1, .ref n2, .ref nf, .ref ns, .ref nh, .ref nk, .ref np, .int 16, .int 0, .int 16, .int 0, .int 0])), (ns, .inl (kL, 1024, .inr (.inl zSec)))] H := hP
  have hD : va_D A [(aroom, .inr (9, [.ref asort, .ref anod, .ref atold, .int 3, .ref aheld, .int 0, .ref apair, .ref astep, .int 0, .int 0, .int (-1), .int 0, .int 0, .ref asize])), (anod, .inr (7, [.ref nm, .ref nl, .ref n1, .ref n2, .ref nf, .ref ns, .ref nh, .ref nk, .ref np, .int 16, .int 0, .int 16, .int 0, .int 0])), (ns, .inl (kL, 1024, .inr (.inl zSec)))] := hD
  have hK : va_K (dC, dI) vwCl [(kL, .long), (kL, .long), (kL, .long)] s := hK
  have hw_4 : r_3 = 1 := hw_4
  have hw_4 := hw_4.symm
  subst hw_4
  refine lv_istore (lv' := [(4, .int 1), (3, .int 1), (0, .ref aroom), (1, .int 1), (2, .int 1)]) hx hb dX7_joinOf_17 hl (by decide) rfl (fun ls hl => ?_)
  refine lv_iload_n hx hb dX7_joinOf_19 rfl (lv_at hl 1 rfl) ?_
  refine lv_iload hx hb dX7_joinOf_20 (lv_at hl 0 rfl) ?_
  refine lv_icmp_ne (tgt := 27) hx hb dX7_joinOf_22 (by decide) (fun c_5 => ?_) (fun c_5 => ?_)
  · exact absurd (by decide) c_5
  refine lv_iload_n hx hb dX7_joinOf_25 rfl (lv_at hl 1 rfl) ?_
  have hP9 := hP.sub (ws' := [(aroom, .inr (9, [.ref asort, .ref anod, .ref atold, .int 3, .ref aheld, .int 0, .ref apair, .ref astep, .int 0, .int 0, .int (-1), .int 0, .int 0, .ref asize])), (anod, .inr (7, [.ref nm, .ref nl, .ref n1, .ref n2, .ref nf, .ref ns, .ref nh, .ref nk, .ref np, .int 16, .int 0, .int 16, .int 0, .int 0])), (ns, .inl (kL, 1024, .inr (.inl zSec)))]) [0, 1, 2] rfl
  have hD9 := hD.sub (ws' := [(aroom, .inr (9, [.ref asort, .ref anod, .ref atold, .int 3, .ref aheld, .int 0, .ref apair, .ref astep, .int 0, .int 0, .int (-1), .int 0, .int 0, .ref asize])), (anod, .inr (7, [.ref nm, .ref nl, .ref n1, .ref n2, .ref nf, .ref ns, .ref nh, .ref nk, .ref np, .int 16, .int 0, .int 16, .int 0, .int 0])), (ns, .inl (kL, 1024, .inr (.inl zSec)))]) [0, 1, 2] (by decide) rfl
  have hK9 := hK.sub (tys' := [(kL, .long)]) [0] rfl
  refine W.widen (k := 0) (n := 0) (Nat.le_of_ble_eq_true rfl) (Nat.le_of_ble_eq_true rfl) ?_
  exact W.iret (v := 1) hx hb hr (fun t ht hW => ⟨⟨1, (), rfl, rfl, ⟨by rw [ht]; exact hP9, va_K.moved hW.alike hK9, hD9⟩⟩, hS.F ht⟩) hS.2.2 dX7_joinOf_26

def wb_c_R_join_12 : List Cond := [.fieldLink RX7 21 "Hornbook$Room" "nodes" "LHornbook$Nodes;", .code yX5_through cX5_through 4 (some .int), .fieldLink RX5 28 "Hornbook$Nodes" "second" "[J", .methodLink RX7 194 yX5_through, .instanceMethod yX5_through, .selects RX5 yX5_through yX5_through, .initialized RX5] ++ u_ws RX5 TX5 14 ++ u_ws RX7 TX7 14
def w_c_R_join_12 : List Cond := .code yX7_joinOf cX7_joinOf 5 (some .int) :: wb_c_R_join_12
set_option maxRecDepth 100000 in
theorem g_c_R_join_12_0 : GoodIn w_c_R_join_12 (wsV RX7 194 RX5 yX5_through w_c_N_through_1) := goodIn_app (goodIn_of _ (by decide +kernel)) (goodIn_p (big := w_c_R_join_12) (.code yX5_through cX5_through 4 (some .int) :: wb_c_N_through_1) [2] rfl (by decide +kernel))
set_option maxRecDepth 100000 in
theorem g_c_R_join_12_1 : GoodIn w_c_R_join_12 (wsV RX7 194 RX5 yX5_through w_c_N_through_2) := goodIn_app (goodIn_of _ (by decide +kernel)) (goodIn_p (big := w_c_R_join_12) (.code yX5_through cX5_through 4 (some .int) :: wb_c_N_through_2) [2] rfl (by decide +kernel))
set_option maxHeartbeats 4000000 in
set_option maxRecDepth 100000 in
theorem c_R_join_12 (l : Launch) (eD eI : Nat) (ad : Nat → Nat) (dC : Nat → ClassId) (dI : Nat → Nat → Nat) (sz : Nat) (aroom : Nat) (anod : Nat) (asort : Nat) (atold : Nat) (aheld : Nat) (apair : Nat) (astep : Nat) (asize : Nat) (nm : Nat) (nl : Nat) (n1 : Nat) (n2 : Nat) (nf : Nat) (ns : Nat) (nh : Nat) (nk : Nat) (np : Nat) (kL : ClassId) : Met l yX7_joinOf w_c_R_join_12 ({ frames := 1, cells := 0, slots := 0, locals := 23 }) (va_Pc [.ref aroom, .int 1, .int 2] (zPre eD eI ad (dC, dI) [(aroom, .inr (9, [.ref asort, .ref anod, .ref atold, .int 3, .ref aheld, .int 0, .ref apair, .ref astep, .int 0, .int 0, .int (-1), .int 0, .int 0, .ref asize])), (anod, .inr (7, [.ref nm, .ref nl, .ref n1, .ref n2, .ref nf, .ref ns, .ref nh, .ref nk, .ref np, .int 16, .int 0, .int 16, .int 0, .int 0])), (ns, .inl (kL, 1024, .inr (.inl zSec)))] [(kL, .long)] sz)) (va_Qi (fun (r : Int32) (_ : Unit) => r = 2) (fun (_ : Unit) => zEnd (dC, dI) (va_A [(aroom, .inr (9, [.ref asort, .ref anod, .ref atold, .int 3, .ref aheld, .int 0, .ref apair, .ref astep, .int 0, .int 0, .int (-1), .int 0, .int 0, .ref asize])), (anod, .inr (7, [.ref nm, .ref nl, .ref n1, .ref n2, .ref nf, .ref ns, .ref nh, .ref nk, .ref np, .int 16, .int 0, .int 16, .int 0, .int 0])), (ns, .inl (kL, 1024, .inr (.inl zSec)))] sz) [(aroom, .inr (9, [.ref asort, .ref anod, .ref atold, .int 3, .ref aheld, .int 0, .ref apair, .ref astep, .int 0, .int 0, .int (-1), .int 0, .int 0, .ref asize])), (anod, .inr (7, [.ref nm, .ref nl, .ref n1, .ref n2, .ref nf, .ref ns, .ref nh, .ref nk, .ref np, .int 16, .int 0, .int 16, .int 0, .int 0])), (ns, .inl (kL, 1024, .inr (.inl zSec)))] [(kL, .long)]) (va_A [(aroom, .inr (9, [.ref asort, .ref anod, .ref atold, .int 3, .ref aheld, .int 0, .ref apair, .ref astep, .int 0, .int 0, .int (-1), .int 0, .int 0, .ref asize])), (anod, .inr (7, [.ref nm, .ref nl, .ref n1, .ref n2, .ref nf, .ref ns, .ref nh, .ref nk, .ref np, .int 16, .int 0, .int 16, .int 0, .int 0])), (ns, .inl (kL, 1024, .inr (.inl zSec)))] sz)) 0 0 (va_A [(aroom, .inr (9, [.ref asort, .ref anod, .ref atold, .int 3, .ref aheld, .int 0, .ref apair, .ref astep, .int 0, .int 0, .int (-1), .int 0, .int 0, .ref asize])), (anod, .inr (7, [.ref nm, .ref nl, .ref n1, .ref n2, .ref nf, .ref ns, .ref nh, .ref nk, .ref np, .int 16, .int 0, .int 16, .int 0, .int 0])), (ns, .inl (kL, 1024, .inr (.inl zSec)))] sz) := by
  refine Met.ofW (cc := cX7_joinOf) (maxL := 5) (ret := (some .int)) (by decide) rfl ?_
  intro p e s m args below meth c s₁ B hml hv
  obtain ⟨rfl, hsz, hP, hK, hD0, hE⟩ := hv
  have hx := B.exec
  have hb := B.bytes
  have hr := B.returns
  have hts := atoms_spec (ws := w_c_R_join_12) B.pre
  have hown : s.vm.findClass RX7 = some m.cls := findClass_of_methodNamed B.named
  have hlocks := B.notSynchronized
  subst hsz
  have hD := hD0.self (sz := s.heap.size)
  generalize hAe : va_A [(aroom, .inr (9, [.ref asort, .ref anod, .ref atold, .int 3, .ref aheld, .int 0, .ref apair, .ref astep, .int 0, .int 0, .int (-1), .int 0, .int 0, .ref asize])), (anod, .inr (7, [.ref nm, .ref nl, .ref n1, .ref n2, .ref nf, .ref ns, .ref nh, .ref nk, .ref np, .int 16, .int 0, .int 16, .int 0, .int 0])), (ns, .inl (kL, 1024, .inr (.inl zSec)))] s.heap.size = A at hD hE ⊢
  have hA : ∀ q : Nat, s.heap.size ≤ q → A q := fun q h => by rw [← hAe]; exact Or.inr h
  have hS : va_S A s.heap s.heap [] := va_S.rf
  have hP : va_P (dC, dI) vwCl [(aroom, .inr (9, [.ref asort, .ref anod, .ref atold, .int 3, .ref aheld, .int 0, .ref apair, .ref astep, .int 0, .int 0, .int (-1), .int 0, .int 0, .ref asize])), (anod, .inr (7, [.ref nm, .ref nl, .ref n1, .ref n2, .ref nf, .ref ns, .ref nh, .ref nk, .ref np, .int 16, .int 0, .int 16, .int 0, .int 0])), (ns, .inl (kL, 1024, .inr (.inl zSec)))] s.heap := hP
  have hl := lv_entry ([.ref aroom, .int 1, .int 2]) (n := 5) (Nat.le_of_ble_eq_true rfl)
  rw [lg_entry_eq]
  generalize (lg_sl ([.ref aroom, .int 1, .int 2]) ++ List.replicate (5 - (lg_sl ([.ref aroom, .int 1, .int 2])).length) Slot.unset).toArray = ls at hl ⊢
  have hl : lv_has ls 5 [(0, .ref aroom), (1, .int 1), (2, .int 2)] := hl
  have in_RX5 : ∀ w ∈ u_ws RX5 TX5 14, w ∈ w_c_R_join_12 := by decide +kernel
  have in_RX7 : ∀ w ∈ u_ws RX7 TX7 14, w ∈ w_c_R_join_12 := by decide +kernel
  refine lv_aload_n hx hb dX7_joinOf_0 rfl (lv_at hl 0 rfl) ?_
  refine va_get (D := (dC, dI)) (ci := 9) (v := .ref anod) (C := RX7) (T := TX7) (N := 14) hx hb hts in_RX7 hown hK hP 0 rfl rfl 1 (by decide) (hts (.fieldLink RX7 21 "Hornbook$Room" "nodes" "LHornbook$Nodes;") (by decide +kernel)) (fun _ h9 => h9) rfl dX7_joinOf_1 ?_
  refine lv_iload_n hx hb dX7_joinOf_4 rfl (lv_at hl 1 rfl) ?_
  refine z_i (wr := [(aroom, .inr (9, [.ref asort, .ref anod, .ref atold, .int 3, .ref aheld, .int 0, .ref apair, .ref astep, .int 0, .int 0, .int (-1), .int 0, .int 0, .ref asize]))]) (va_runV (As := [.int 1]) (rest := []) ⟨hx, hb, hml, hown, hts⟩ (c_N_through_1 l eD eI ad dC dI s.heap.size anod nm nl n1 n2 nf ns nh nk np kL) (cwV 1 hts g_c_R_join_12_0 rfl rfl rfl (by decide +kernel) ⟨Nat.le_of_ble_eq_true rfl, Nat.le_of_ble_eq_true rfl⟩) (z_preV (wc := [(anod, .inr (7, [.ref nm, .ref nl, .ref n1, .ref n2, .ref nf, .ref ns, .ref nh, .ref nk, .ref np, .int 16, .int 0, .int 16, .int 0, .int 0])), (ns, .inl (kL, 1024, .inr (.inl zSec)))]) hP hD hK hS hA hE [1, 2] [0] rfl (by decide) rfl (ci := 7) (q0 := 0) rfl rfl) rfl rfl hl.1 rfl (lv_room (Nat.le_of_ble_eq_true rfl)) dX7_joinOf_5 ⟨Nat.le_of_ble_eq_true rfl, Nat.le_of_ble_eq_true rfl⟩) hP hD hK hS hA [1, 2] [0] rfl rfl (by decide) (by decide) (fun r_1 u H locs hw_2 hP hD hK hS => ?_)
  obtain ⟨⟩ := u
  have hP : va_P (dC, dI) vwCl [(aroom, .inr (9, [.ref asort, .ref anod, .ref atold, .int 3, .ref aheld, .int 0, .ref apair, .ref astep, .int 0, .int 0, .int (-1), .int 0, .int 0, .ref asize])), (anod, .inr (7, [.ref nm, .ref nl, .ref n1, .ref n2, .ref nf, .ref ns, .ref nh, .ref nk, .ref np, .int 16, .int 0, .int 16, .int 0, .int 0])), (ns, .inl (kL, 1024, .inr (.inl zSec)))] H := hP
  have hD : va_D A [(aroom, .inr (9, [.ref asort, .ref anod, .ref atold, .int 3, .ref aheld, .int 0, .ref apair, .ref astep, .int 0, .int 0, .int (-1), .int 0, .int 0, .ref asize])), (anod, .inr (7, [.ref nm, .ref nl, .ref n1, .ref n2, .ref nf, .ref ns, .ref nh, .ref nk, .ref np, .int 16, .int 0, .int 16, .int 0, .int 0])), (ns, .inl (kL, 1024, .inr (.inl zSec)))] := hD
  have hK : va_K (dC, dI) vwCl [(kL, .long), (kL, .long)] s := hK
  have hw_2 : r_1 = 1 := hw_2
  have hw_2 := hw_2.symm
  subst hw_2
  refine lv_istore_n (lv' := [(3, .int 1), (0, .ref aroom), (1, .int 1), (2, .int 2)]) hx hb dX7_joinOf_8 rfl hl (by decide) rfl (fun ls hl => ?_)
  refine lv_aload_n hx hb dX7_joinOf_9 rfl (lv_at hl 1 rfl) ?_
  refine va_get (D := (dC, dI)) (ci := 9) (v := .ref anod) (C := RX7) (T := TX7) (N := 14) hx hb hts in_RX7 hown hK hP 0 rfl rfl 1 (by decide) (hts (.fieldLink RX7 21 "Hornbook$Room" "nodes" "LHornbook$Nodes;") (by decide +kernel)) (fun _ h9 => h9) rfl dX7_joinOf_10 ?_
  refine lv_iload_n hx hb dX7_joinOf_13 rfl (lv_at hl 3 rfl) ?_
  refine z_i (wr := [(aroom, .inr (9, [.ref asort, .ref anod, .ref atold, .int 3, .ref aheld, .int 0, .ref apair, .ref astep, .int 0, .int 0, .int (-1), .int 0, .int 0, .ref asize]))]) (va_runV (As := [.int 2]) (rest := []) ⟨hx, hb, hml, hown, hts⟩ (c_N_through_2 l eD eI ad dC dI H.size anod nm nl n1 n2 nf ns nh nk np kL) (cwV 1 hts g_c_R_join_12_1 rfl rfl rfl (by decide +kernel) ⟨Nat.le_of_ble_eq_true rfl, Nat.le_of_ble_eq_true rfl⟩) (z_preV (wc := [(anod, .inr (7, [.ref nm, .ref nl, .ref n1, .ref n2, .ref nf, .ref ns, .ref nh, .ref nk, .ref np, .int 16, .int 0, .int 16, .int 0, .int 0])), (ns, .inl (kL, 1024, .inr (.inl zSec)))]) hP hD hK hS hA hE [1, 2] [0] rfl (by decide) rfl (ci := 7) (q0 := 0) rfl rfl) rfl rfl hl.1 rfl (lv_room (Nat.le_of_ble_eq_true rfl)) dX7_joinOf_14 ⟨Nat.le_of_ble_eq_true rfl, Nat.le_of_ble_eq_true rfl⟩) hP hD hK hS hA [1, 2] [0] rfl rfl (by decide) (by decide) (fun r_3 u H locs hw_4 hP hD hK hS => ?_)
  obtain ⟨⟩ := u
  have hP : va_P (dC, dI) vwCl [(aroom, .inr (9, [.ref asort, .ref anod, .ref atold, .int 3, .ref aheld, .int 0, .ref apair, .ref astep, .int 0, .int 0, .int (-1), .int 0, .int 0, .ref asize])), (anod, .inr (7, [.ref nm, .ref nl, .ref n1, .ref n2, .ref nf, .ref ns, .ref nh, .ref nk, .ref np, .int 16, .int 0, .int 16, .int 0, .int 0])), (ns, .inl (kL, 1024, .inr (.inl zSec)))] H := hP
  have hD : va_D A [(aroom, .inr (9, [.ref asort, .ref anod, .ref atold, .int 3, .ref aheld, .int 0, .ref apair, .ref astep, .int 0, .int 0, .int (-1), .int 0, .int 0, .ref asize])), (anod, .inr (7, [.ref nm, .ref nl, .ref n1, .ref n2, .ref nf, .ref ns, .ref nh, .ref nk, .ref np, .int 16, .int 0, .int 16, .int 0, .int 0])), (ns, .inl (kL, 1024, .inr (.inl zSec)))] := hD
  have hK : va_K (dC, dI) vwCl [(kL, .long), (kL, .long), (kL, .long)] s := hK
  have hw_4 : r_3 = 2 := hw_4
  have hw_4 := hw_4.symm
  subst hw_4
  refine lv_istore (lv' := [(4, .int 2), (3, .int 1), (0, .ref aroom), (1, .int 1), (2, .int 2)]) hx hb dX7_joinOf_17 hl (by decide) rfl (fun ls hl => ?_)
  refine lv_iload_n hx hb dX7_joinOf_19 rfl (lv_at hl 1 rfl) ?_
  refine lv_iload hx hb dX7_joinOf_20 (lv_at hl 0 rfl) ?_
  refine lv_icmp_ne (tgt := 27) hx hb dX7_joinOf_22 (by decide) (fun c_5 => ?_) (fun c_5 => ?_)
  rotate_left
  · exact absurd c_5 (by decide)
  refine lv_iload_n hx hb dX7_joinOf_27 rfl (lv_at hl 1 rfl) ?_
  refine lv_if_eq (tgt := 36) hx hb dX7_joinOf_28 (by decide) (fun c_6 => ?_) (fun c_6 => ?_)
  · exact absurd c_6 (by decide)
  refine lv_iload hx hb dX7_joinOf_31 (lv_at hl 0 rfl) ?_
  refine lv_if_ne (tgt := 38) hx hb dX7_joinOf_33 (by decide) (fun c_7 => ?_) (fun c_7 => ?_)
  rotate_left
  · exact absurd c_7 (by decide)
  refine lv_iload_n hx hb dX7_joinOf_38 rfl (lv_at hl 1 rfl) ?_
  refine lv_iconst (v := 1) hx hb dX7_joinOf_39 (by decide) ?_
  refine lv_icmp_ne (tgt := 46) hx hb dX7_joinOf_40 (by decide) (fun c_8 => ?_) (fun c_8 => ?_)
  · exact absurd (by decide) c_8
  refine lv_iload hx hb dX7_joinOf_43 (lv_at hl 0 rfl) ?_
  have hP9 := hP.sub (ws' := [(aroom, .inr (9, [.ref asort, .ref anod, .ref atold, .int 3, .ref aheld, .int 0, .ref apair, .ref astep, .int 0, .int 0, .int (-1), .int 0, .int 0, .ref asize])), (anod, .inr (7, [.ref nm, .ref nl, .ref n1, .ref n2, .ref nf, .ref ns, .ref nh, .ref nk, .ref np, .int 16, .int 0, .int 16, .int 0, .int 0])), (ns, .inl (kL, 1024, .inr (.inl zSec)))]) [0, 1, 2] rfl
  have hD9 := hD.sub (ws' := [(aroom, .inr (9, [.ref asort, .ref anod, .ref atold, .int 3, .ref aheld, .int 0, .ref apair, .ref astep, .int 0, .int 0, .int (-1), .int 0, .int 0, .ref asize])), (anod, .inr (7, [.ref nm, .ref nl, .ref n1, .ref n2, .ref nf, .ref ns, .ref nh, .ref nk, .ref np, .int 16, .int 0, .int 16, .int 0, .int 0])), (ns, .inl (kL, 1024, .inr (.inl zSec)))]) [0, 1, 2] (by decide) rfl
  have hK9 := hK.sub (tys' := [(kL, .long)]) [0] rfl
  refine W.widen (k := 0) (n := 0) (Nat.le_of_ble_eq_true rfl) (Nat.le_of_ble_eq_true rfl) ?_
  exact W.iret (v := 2) hx hb hr (fun t ht hW => ⟨⟨2, (), rfl, rfl, ⟨by rw [ht]; exact hP9, va_K.moved hW.alike hK9, hD9⟩⟩, hS.F ht⟩) hS.2.2 dX7_joinOf_45

def wb_c_R_join_20 : List Cond := [.fieldLink RX7 21 "Hornbook$Room" "nodes" "LHornbook$Nodes;", .code yX5_through cX5_through 4 (some .int), .fieldLink RX5 28 "Hornbook$Nodes" "second" "[J", .methodLink RX7 194 yX5_through, .instanceMethod yX5_through, .selects RX5 yX5_through yX5_through, .initialized RX5] ++ u_ws RX5 TX5 14 ++ u_ws RX7 TX7 14
def w_c_R_join_20 : List Cond := .code yX7_joinOf cX7_joinOf 5 (some .int) :: wb_c_R_join_20
set_option maxRecDepth 100000 in
theorem g_c_R_join_20_0 : GoodIn w_c_R_join_20 (wsV RX7 194 RX5 yX5_through w_c_N_through_2) := goodIn_app (goodIn_of _ (by decide +kernel)) (goodIn_p (big := w_c_R_join_20) (.code yX5_through cX5_through 4 (some .int) :: wb_c_N_through_2) [2] rfl (by decide +kernel))
set_option maxRecDepth 100000 in
theorem g_c_R_join_20_1 : GoodIn w_c_R_join_20 (wsV RX7 194 RX5 yX5_through w_c_N_through_0) := goodIn_app (goodIn_of _ (by decide +kernel)) (goodIn_p (big := w_c_R_join_20) (.code yX5_through cX5_through 4 (some .int) :: wb_c_N_through_0) [2] rfl (by decide +kernel))
set_option maxHeartbeats 4000000 in
set_option maxRecDepth 100000 in
theorem c_R_join_20 (l : Launch) (eD eI : Nat) (ad : Nat → Nat) (dC : Nat → ClassId) (dI : Nat → Nat → Nat) (sz : Nat) (aroom : Nat) (anod : Nat) (asort : Nat) (atold : Nat) (aheld : Nat) (apair : Nat) (astep : Nat) (asize : Nat) (nm : Nat) (nl : Nat) (n1 : Nat) (n2 : Nat) (nf : Nat) (ns : Nat) (nh : Nat) (nk : Nat) (np : Nat) (kL : ClassId) : Met l yX7_joinOf w_c_R_join_20 ({ frames := 1, cells := 0, slots := 0, locals := 23 }) (va_Pc [.ref aroom, .int 2, .int 0] (zPre eD eI ad (dC, dI) [(aroom, .inr (9, [.ref asort, .ref anod, .ref atold, .int 3, .ref aheld, .int 0, .ref apair, .ref astep, .int 0, .int 0, .int (-1), .int 0, .int 0, .ref asize])), (anod, .inr (7, [.ref nm, .ref nl, .ref n1, .ref n2, .ref nf, .ref ns, .ref nh, .ref nk, .ref np, .int 16, .int 0, .int 16, .int 0, .int 0])), (ns, .inl (kL, 1024, .inr (.inl zSec)))] [(kL, .long)] sz)) (va_Qi (fun (r : Int32) (_ : Unit) => r = 0) (fun (_ : Unit) => zEnd (dC, dI) (va_A [(aroom, .inr (9, [.ref asort, .ref anod, .ref atold, .int 3, .ref aheld, .int 0, .ref apair, .ref astep, .int 0, .int 0, .int (-1), .int 0, .int 0, .ref asize])), (anod, .inr (7, [.ref nm, .ref nl, .ref n1, .ref n2, .ref nf, .ref ns, .ref nh, .ref nk, .ref np, .int 16, .int 0, .int 16, .int 0, .int 0])), (ns, .inl (kL, 1024, .inr (.inl zSec)))] sz) [(aroom, .inr (9, [.ref asort, .ref anod, .ref atold, .int 3, .ref aheld, .int 0, .ref apair, .ref astep, .int 0, .int 0, .int (-1), .int 0, .int 0, .ref asize])), (anod, .inr (7, [.ref nm, .ref nl, .ref n1, .ref n2, .ref nf, .ref ns, .ref nh, .ref nk, .ref np, .int 16, .int 0, .int 16, .int 0, .int 0])), (ns, .inl (kL, 1024, .inr (.inl zSec)))] [(kL, .long)]) (va_A [(aroom, .inr (9, [.ref asort, .ref anod, .ref atold, .int 3, .ref aheld, .int 0, .ref apair, .ref astep, .int 0, .int 0, .int (-1), .int 0, .int 0, .ref asize])), (anod, .inr (7, [.ref nm, .ref nl, .ref n1, .ref n2, .ref nf, .ref ns, .ref nh, .ref nk, .ref np, .int 16, .int 0, .int 16, .int 0, .int 0])), (ns, .inl (kL, 1024, .inr (.inl zSec)))] sz)) 0 0 (va_A [(aroom, .inr (9, [.ref asort, .ref anod, .ref atold, .int 3, .ref aheld, .int 0, .ref apair, .ref astep, .int 0, .int 0, .int (-1), .int 0, .int 0, .ref asize])), (anod, .inr (7, [.ref nm, .ref nl, .ref n1, .ref n2, .ref nf, .ref ns, .ref nh, .ref nk, .ref np, .int 16, .int 0, .int 16, .int 0, .int 0])), (ns, .inl (kL, 1024, .inr (.inl zSec)))] sz) := by
  refine Met.ofW (cc := cX7_joinOf) (maxL := 5) (ret := (some .int)) (by decide) rfl ?_
  intro p e s m args below meth c s₁ B hml hv
  obtain ⟨rfl, hsz, hP, hK, hD0, hE⟩ := hv
  have hx := B.exec
  have hb := B.bytes
  have hr := B.returns
  have hts := atoms_spec (ws := w_c_R_join_20) B.pre
  have hown : s.vm.findClass RX7 = some m.cls := findClass_of_methodNamed B.named
  have hlocks := B.notSynchronized
  subst hsz
  have hD := hD0.self (sz := s.heap.size)
  generalize hAe : va_A [(aroom, .inr (9, [.ref asort, .ref anod, .ref atold, .int 3, .ref aheld, .int 0, .ref apair, .ref astep, .int 0, .int 0, .int (-1), .int 0, .int 0, .ref asize])), (anod, .inr (7, [.ref nm, .ref nl, .ref n1, .ref n2, .ref nf, .ref ns, .ref nh, .ref nk, .ref np, .int 16, .int 0, .int 16, .int 0, .int 0])), (ns, .inl (kL, 1024, .inr (.inl zSec)))] s.heap.size = A at hD hE ⊢
  have hA : ∀ q : Nat, s.heap.size ≤ q → A q := fun q h => by rw [← hAe]; exact Or.inr h
  have hS : va_S A s.heap s.heap [] := va_S.rf
  have hP : va_P (dC, dI) vwCl [(aroom, .inr (9, [.ref asort, .ref anod, .ref atold, .int 3, .ref aheld, .int 0, .ref apair, .ref astep, .int 0, .int 0, .int (-1), .int 0, .int 0, .ref asize])), (anod, .inr (7, [.ref nm, .ref nl, .ref n1, .ref n2, .ref nf, .ref ns, .ref nh, .ref nk, .ref np, .int 16, .int 0, .int 16, .int 0, .int 0])), (ns, .inl (kL, 1024, .inr (.inl zSec)))] s.heap := hP
  have hl := lv_entry ([.ref aroom, .int 2, .int 0]) (n := 5) (Nat.le_of_ble_eq_true rfl)
  rw [lg_entry_eq]
  generalize (lg_sl ([.ref aroom, .int 2, .int 0]) ++ List.replicate (5 - (lg_sl ([.ref aroom, .int 2, .int 0])).length) Slot.unset).toArray = ls at hl ⊢
  have hl : lv_has ls 5 [(0, .ref aroom), (1, .int 2), (2, .int 0)] := hl
  have in_RX5 : ∀ w ∈ u_ws RX5 TX5 14, w ∈ w_c_R_join_20 := by decide +kernel
  have in_RX7 : ∀ w ∈ u_ws RX7 TX7 14, w ∈ w_c_R_join_20 := by decide +kernel
  refine lv_aload_n hx hb dX7_joinOf_0 rfl (lv_at hl 0 rfl) ?_
  refine va_get (D := (dC, dI)) (ci := 9) (v := .ref anod) (C := RX7) (T := TX7) (N := 14) hx hb hts in_RX7 hown hK hP 0 rfl rfl 1 (by decide) (hts (.fieldLink RX7 21 "Hornbook$Room" "nodes" "LHornbook$Nodes;") (by decide +kernel)) (fun _ h9 => h9) rfl dX7_joinOf_1 ?_
  refine lv_iload_n hx hb dX7_joinOf_4 rfl (lv_at hl 1 rfl) ?_
  refine z_i (wr := [(aroom, .inr (9, [.ref asort, .ref anod, .ref atold, .int 3, .ref aheld, .int 0, .ref apair, .ref astep, .int 0, .int 0, .int (-1), .int 0, .int 0, .ref asize]))]) (va_runV (As := [.int 2]) (rest := []) ⟨hx, hb, hml, hown, hts⟩ (c_N_through_2 l eD eI ad dC dI s.heap.size anod nm nl n1 n2 nf ns nh nk np kL) (cwV 1 hts g_c_R_join_20_0 rfl rfl rfl (by decide +kernel) ⟨Nat.le_of_ble_eq_true rfl, Nat.le_of_ble_eq_true rfl⟩) (z_preV (wc := [(anod, .inr (7, [.ref nm, .ref nl, .ref n1, .ref n2, .ref nf, .ref ns, .ref nh, .ref nk, .ref np, .int 16, .int 0, .int 16, .int 0, .int 0])), (ns, .inl (kL, 1024, .inr (.inl zSec)))]) hP hD hK hS hA hE [1, 2] [0] rfl (by decide) rfl (ci := 7) (q0 := 0) rfl rfl) rfl rfl hl.1 rfl (lv_room (Nat.le_of_ble_eq_true rfl)) dX7_joinOf_5 ⟨Nat.le_of_ble_eq_true rfl, Nat.le_of_ble_eq_true rfl⟩) hP hD hK hS hA [1, 2] [0] rfl rfl (by decide) (by decide) (fun r_1 u H locs hw_2 hP hD hK hS => ?_)
  obtain ⟨⟩ := u
  have hP : va_P (dC, dI) vwCl [(aroom, .inr (9, [.ref asort, .ref anod, .ref atold, .int 3, .ref aheld, .int 0, .ref apair, .ref astep, .int 0, .int 0, .int (-1), .int 0, .int 0, .ref asize])), (anod, .inr (7, [.ref nm, .ref nl, .ref n1, .ref n2, .ref nf, .ref ns, .ref nh, .ref nk, .ref np, .int 16, .int 0, .int 16, .int 0, .int 0])), (ns, .inl (kL, 1024, .inr (.inl zSec)))] H := hP
  have hD : va_D A [(aroom, .inr (9, [.ref asort, .ref anod, .ref atold, .int 3, .ref aheld, .int 0, .ref apair, .ref astep, .int 0, .int 0, .int (-1), .int 0, .int 0, .ref asize])), (anod, .inr (7, [.ref nm, .ref nl, .ref n1, .ref n2, .ref nf, .ref ns, .ref nh, .ref nk, .ref np, .int 16, .int 0, .int 16, .int 0, .int 0])), (ns, .inl (kL, 1024, .inr (.inl zSec)))] := hD
  have hK : va_K (dC, dI) vwCl [(kL, .long), (kL, .long)] s := hK
  have hw_2 : r_1 = 2 := hw_2
  have hw_2 := hw_2.symm
  subst hw_2
  refine lv_istore_n (lv' := [(3, .int 2), (0, .ref aroom), (1, .int 2), (2, .int 0)]) hx hb dX7_joinOf_8 rfl hl (by decide) rfl (fun ls hl => ?_)
  refine lv_aload_n hx hb dX7_joinOf_9 rfl (lv_at hl 1 rfl) ?_
  refine va_get (D := (dC, dI)) (ci := 9) (v := .ref anod) (C := RX7) (T := TX7) (N := 14) hx hb hts in_RX7 hown hK hP 0 rfl rfl 1 (by decide) (hts (.fieldLink RX7 21 "Hornbook$Room" "nodes" "LHornbook$Nodes;") (by decide +kernel)) (fun _ h9 => h9) rfl dX7_joinOf_10 ?_
  refine lv_iload_n hx hb dX7_joinOf_13 rfl (lv_at hl 3 rfl) ?_
  refine z_i (wr := [(aroom, .inr (9, [.ref asort, .ref anod, .ref atold, .int 3, .ref aheld, .int 0, .ref apair, .ref astep, .int 0, .int 0, .int (-1), .int 0, .int 0, .ref asize]))]) (va_runV (As := [.int 0]) (rest := []) ⟨hx, hb, hml, hown, hts⟩ (c_N_through_0 l eD eI ad dC dI H.size anod nm nl n1 n2 nf ns nh nk np kL) (cwV 1 hts g_c_R_join_20_1 rfl rfl rfl (by decide +kernel) ⟨Nat.le_of_ble_eq_true rfl, Nat.le_of_ble_eq_true rfl⟩) (z_preV (wc := [(anod, .inr (7, [.ref nm, .ref nl, .ref n1, .ref n2, .ref nf, .ref ns, .ref nh, .ref nk, .ref np, .int 16, .int 0, .int 16, .int 0, .int 0])), (ns, .inl (kL, 1024, .inr (.inl zSec)))]) hP hD hK hS hA hE [1, 2] [0] rfl (by decide) rfl (ci := 7) (q0 := 0) rfl rfl) rfl rfl hl.1 rfl (lv_room (Nat.le_of_ble_eq_true rfl)) dX7_joinOf_14 ⟨Nat.le_of_ble_eq_true rfl, Nat.le_of_ble_eq_true rfl⟩) hP hD hK hS hA [1, 2] [0] rfl rfl (by decide) (by decide) (fun r_3 u H locs hw_4 hP hD hK hS => ?_)
  obtain ⟨⟩ := u
  have hP : va_P (dC, dI) vwCl [(aroom, .inr (9, [.ref asort, .ref anod, .ref atold, .int 3, .ref aheld, .int 0, .ref apair, .ref astep, .int 0, .int 0, .int (-1), .int 0, .int 0, .ref asize])), (anod, .inr (7, [.ref nm, .ref nl, .ref n1, .ref n2, .ref nf, .ref ns, .ref nh, .ref nk, .ref np, .int 16, .int 0, .int 16, .int 0, .int 0])), (ns, .inl (kL, 1024, .inr (.inl zSec)))] H := hP
  have hD : va_D A [(aroom, .inr (9, [.ref asort, .ref anod, .ref atold, .int 3, .ref aheld, .int 0, .ref apair, .ref astep, .int 0, .int 0, .int (-1), .int 0, .int 0, .ref asize])), (anod, .inr (7, [.ref nm, .ref nl, .ref n1, .ref n2, .ref nf, .ref ns, .ref nh, .ref nk, .ref np, .int 16, .int 0, .int 16, .int 0, .int 0])), (ns, .inl (kL, 1024, .inr (.inl zSec)))] := hD
  have hK : va_K (dC, dI) vwCl [(kL, .long), (kL, .long), (kL, .long)] s := hK
  have hw_4 : r_3 = 0 := hw_4
  have hw_4 := hw_4.symm
  subst hw_4
  refine lv_istore (lv' := [(4, .int 0), (3, .int 2), (0, .ref aroom), (1, .int 2), (2, .int 0)]) hx hb dX7_joinOf_17 hl (by decide) rfl (fun ls hl => ?_)
  refine lv_iload_n hx hb dX7_joinOf_19 rfl (lv_at hl 1 rfl) ?_
  refine lv_iload hx hb dX7_joinOf_20 (lv_at hl 0 rfl) ?_
  refine lv_icmp_ne (tgt := 27) hx hb dX7_joinOf_22 (by decide) (fun c_5 => ?_) (fun c_5 => ?_)
  rotate_left
  · exact absurd c_5 (by decide)
  refine lv_iload_n hx hb dX7_joinOf_27 rfl (lv_at hl 1 rfl) ?_
  refine lv_if_eq (tgt := 36) hx hb dX7_joinOf_28 (by decide) (fun c_6 => ?_) (fun c_6 => ?_)
  · exact absurd c_6 (by decide)
  refine lv_iload hx hb dX7_joinOf_31 (lv_at hl 0 rfl) ?_
  refine lv_if_ne (tgt := 38) hx hb dX7_joinOf_33 (by decide) (fun c_7 => ?_) (fun c_7 => ?_)
  · exact absurd (by decide) c_7
  refine lv_iconst (v := 0) hx hb dX7_joinOf_36 (by decide) ?_
  have hP9 := hP.sub (ws' := [(aroom, .inr (9, [.ref asort, .ref anod, .ref atold, .int 3, .ref aheld, .int 0, .ref apair, .ref astep, .int 0, .int 0, .int (-1), .int 0, .int 0, .ref asize])), (anod, .inr (7, [.ref nm, .ref nl, .ref n1, .ref n2, .ref nf, .ref ns, .ref nh, .ref nk, .ref np, .int 16, .int 0, .int 16, .int 0, .int 0])), (ns, .inl (kL, 1024, .inr (.inl zSec)))]) [0, 1, 2] rfl
  have hD9 := hD.sub (ws' := [(aroom, .inr (9, [.ref asort, .ref anod, .ref atold, .int 3, .ref aheld, .int 0, .ref apair, .ref astep, .int 0, .int 0, .int (-1), .int 0, .int 0, .ref asize])), (anod, .inr (7, [.ref nm, .ref nl, .ref n1, .ref n2, .ref nf, .ref ns, .ref nh, .ref nk, .ref np, .int 16, .int 0, .int 16, .int 0, .int 0])), (ns, .inl (kL, 1024, .inr (.inl zSec)))]) [0, 1, 2] (by decide) rfl
  have hK9 := hK.sub (tys' := [(kL, .long)]) [0] rfl
  refine W.widen (k := 0) (n := 0) (Nat.le_of_ble_eq_true rfl) (Nat.le_of_ble_eq_true rfl) ?_
  exact W.iret (v := 0) hx hb hr (fun t ht hW => ⟨⟨0, (), rfl, rfl, ⟨by rw [ht]; exact hP9, va_K.moved hW.alike hK9, hD9⟩⟩, hS.F ht⟩) hS.2.2 dX7_joinOf_37
