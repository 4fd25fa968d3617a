theorem dX15_isSort_0 : decode cX15_isSort 0 = .ok (.aload_n 0, 1) := by decide +kernel
theorem dX15_isSort_1 : decode cX15_isSort 1 = .ok (.getfield 14, 3) := by decide +kernel
theorem dX15_isSort_4 : decode cX15_isSort 4 = .ok (.ifCond .lt 7, 3) := by decide +kernel
theorem dX15_isSort_11 : decode cX15_isSort 11 = .ok (.iconst 0, 1) := by decide +kernel
theorem dX15_isSort_12 : decode cX15_isSort 12 = .ok (.ireturn, 1) := by decide +kernel
theorem dX15_depth_0 : decode cX15_depth 0 = .ok (.iconst 0, 1) := by decide +kernel
theorem dX15_depth_1 : decode cX15_depth 1 = .ok (.istore_n 1, 1) := by decide +kernel
theorem dX15_depth_2 : decode cX15_depth 2 = .ok (.aload_n 0, 1) := by decide +kernel
theorem dX15_depth_3 : decode cX15_depth 3 = .ok (.getfield 18, 3) := by decide +kernel
theorem dX15_depth_6 : decode cX15_depth 6 = .ok (.astore_n 2, 1) := by decide +kernel
theorem dX15_depth_7 : decode cX15_depth 7 = .ok (.aload_n 2, 1) := by decide +kernel
theorem dX15_depth_8 : decode cX15_depth 8 = .ok (.arraylength, 1) := by decide +kernel
theorem dX15_depth_9 : decode cX15_depth 9 = .ok (.istore_n 3, 1) := by decide +kernel
theorem dX15_depth_10 : decode cX15_depth 10 = .ok (.iconst 0, 1) := by decide +kernel
theorem dX15_depth_11 : decode cX15_depth 11 = .ok (.istore 4, 2) := by decide +kernel
theorem dX15_depth_13 : decode cX15_depth 13 = .ok (.iload 4, 2) := by decide +kernel
theorem dX15_depth_15 : decode cX15_depth 15 = .ok (.iload_n 3, 1) := by decide +kernel
theorem dX15_depth_16 : decode cX15_depth 16 = .ok (.if_icmp .ge 27, 3) := by decide +kernel
theorem dX15_depth_43 : decode cX15_depth 43 = .ok (.iload_n 1, 1) := by decide +kernel
theorem dX15_depth_44 : decode cX15_depth 44 = .ok (.ireturn, 1) := by decide +kernel
theorem dX15_isSame_0 : decode cX15_isSame 0 = .ok (.aload_n 0, 1) := by decide +kernel
theorem dX15_isSame_1 : decode cX15_isSame 1 = .ok (.getfield 14, 3) := by decide +kernel
theorem dX15_isSame_4 : decode cX15_isSame 4 = .ok (.aload_n 1, 1) := by decide +kernel
theorem dX15_isSame_5 : decode cX15_isSame 5 = .ok (.getfield 14, 3) := by decide +kernel
theorem dX15_isSame_8 : decode cX15_isSame 8 = .ok (.if_icmp .eq 5, 3) := by decide +kernel
theorem dX15_isSame_11 : decode cX15_isSame 11 = .ok (.iconst 0, 1) := by decide +kernel
theorem dX15_isSame_12 : decode cX15_isSame 12 = .ok (.ireturn, 1) := by decide +kernel
theorem dX15_isSame_13 : decode cX15_isSame 13 = .ok (.iconst 0, 1) := by decide +kernel
theorem dX15_isSame_14 : decode cX15_isSame 14 = .ok (.istore_n 2, 1) := by decide +kernel
theorem dX15_isSame_15 : decode cX15_isSame 15 = .ok (.iload_n 2, 1) := by decide +kernel
theorem dX15_isSame_16 : decode cX15_isSame 16 = .ok (.aload_n 0, 1) := by decide +kernel
theorem dX15_isSame_17 : decode cX15_isSame 17 = .ok (.getfield 18, 3) := by decide +kernel
theorem dX15_isSame_20 : decode cX15_isSame 20 = .ok (.arraylength, 1) := by decide +kernel
theorem dX15_isSame_21 : decode cX15_isSame 21 = .ok (.if_icmp .ge 29, 3) := by decide +kernel
theorem dX15_isSame_50 : decode cX15_isSame 50 = .ok (.iconst 1, 1) := by decide +kernel
theorem dX15_isSame_51 : decode cX15_isSame 51 = .ok (.ireturn, 1) := by decide +kernel
theorem dX15_has_0 : decode cX15_has 0 = .ok (.aload_n 0, 1) := by decide +kernel
theorem dX15_has_1 : decode cX15_has 1 = .ok (.getfield 14, 3) := by decide +kernel
theorem dX15_has_4 : decode cX15_has 4 = .ok (.iload_n 1, 1) := by decide +kernel
theorem dX15_has_5 : decode cX15_has 5 = .ok (.if_icmp .ne 5, 3) := by decide +kernel
theorem dX15_has_8 : decode cX15_has 8 = .ok (.iconst 1, 1) := by decide +kernel
theorem dX15_has_9 : decode cX15_has 9 = .ok (.ireturn, 1) := by decide +kernel
theorem dX15_has_10 : decode cX15_has 10 = .ok (.aload_n 0, 1) := by decide +kernel
theorem dX15_has_11 : decode cX15_has 11 = .ok (.getfield 18, 3) := by decide +kernel
theorem dX15_has_14 : decode cX15_has 14 = .ok (.astore_n 2, 1) := by decide +kernel
theorem dX15_has_15 : decode cX15_has 15 = .ok (.aload_n 2, 1) := by decide +kernel
theorem dX15_has_16 : decode cX15_has 16 = .ok (.arraylength, 1) := by decide +kernel
theorem dX15_has_17 : decode cX15_has 17 = .ok (.istore_n 3, 1) := by decide +kernel
theorem dX15_has_18 : decode cX15_has 18 = .ok (.iconst 0, 1) := by decide +kernel
theorem dX15_has_19 : decode cX15_has 19 = .ok (.istore 4, 2) := by decide +kernel
theorem dX15_has_21 : decode cX15_has 21 = .ok (.iload 4, 2) := by decide +kernel
theorem dX15_has_23 : decode cX15_has 23 = .ok (.iload_n 3, 1) := by decide +kernel
theorem dX15_has_24 : decode cX15_has 24 = .ok (.if_icmp .ge 26, 3) := by decide +kernel
theorem dX15_has_50 : decode cX15_has 50 = .ok (.iconst 0, 1) := by decide +kernel
theorem dX15_has_51 : decode cX15_has 51 = .ok (.ireturn, 1) := by decide +kernel
theorem dX15_isClosed_0 : decode cX15_isClosed 0 = .ok (.aload_n 0, 1) := by decide +kernel
theorem dX15_isClosed_1 : decode cX15_isClosed 1 = .ok (.bipush (-3), 2) := by decide +kernel
theorem dX15_isClosed_3 : decode cX15_isClosed 3 = .ok (.invokevirtual 36, 3) := by decide +kernel
theorem dX15_isClosed_6 : decode cX15_isClosed 6 = .ok (.ifCond .ne 25, 3) := by decide +kernel
theorem dX15_isClosed_9 : decode cX15_isClosed 9 = .ok (.aload_n 0, 1) := by decide +kernel
theorem dX15_isClosed_10 : decode cX15_isClosed 10 = .ok (.bipush (-4), 2) := by decide +kernel
theorem dX15_isClosed_12 : decode cX15_isClosed 12 = .ok (.invokevirtual 36, 3) := by decide +kernel
theorem dX15_isClosed_15 : decode cX15_isClosed 15 = .ok (.ifCond .ne 16, 3) := by decide +kernel
theorem dX15_isClosed_18 : decode cX15_isClosed 18 = .ok (.aload_n 0, 1) := by decide +kernel
theorem dX15_isClosed_19 : decode cX15_isClosed 19 = .ok (.bipush (-5), 2) := by decide +kernel
theorem dX15_isClosed_21 : decode cX15_isClosed 21 = .ok (.invokevirtual 36, 3) := by decide +kernel
theorem dX15_isClosed_24 : decode cX15_isClosed 24 = .ok (.ifCond .ne 7, 3) := by decide +kernel
theorem dX15_isClosed_27 : decode cX15_isClosed 27 = .ok (.iconst 1, 1) := by decide +kernel
theorem dX15_isClosed_28 : decode cX15_isClosed 28 = .ok (.goto 4, 3) := by decide +kernel
theorem dX15_isClosed_31 : decode cX15_isClosed 31 = .ok (.iconst 0, 1) := by decide +kernel
theorem dX15_isClosed_32 : decode cX15_isClosed 32 = .ok (.ireturn, 1) := by decide +kernel
theorem dX16_init_0 : decode cX16_init 0 = .ok (.aload_n 0, 1) := by decide +kernel
theorem dX16_init_1 : decode cX16_init 1 = .ok (.aload_n 1, 1) := by decide +kernel
theorem dX16_init_2 : decode cX16_init 2 = .ok (.putfield 3, 3) := by decide +kernel
theorem dX16_init_5 : decode cX16_init 5 = .ok (.aload_n 0, 1) := by decide +kernel
theorem dX16_init_6 : decode cX16_init 6 = .ok (.invokespecial 9, 3) := by decide +kernel
theorem dX16_init_9 : decode cX16_init 9 = .ok (.aload_n 0, 1) := by decide +kernel
theorem dX16_init_10 : decode cX16_init 10 = .ok (.iload_n 2, 1) := by decide +kernel
theorem dX16_init_11 : decode cX16_init 11 = .ok (.putfield 15, 3) := by decide +kernel
theorem dX16_init_14 : decode cX16_init 14 = .ok (.aload_n 0, 1) := by decide +kernel
theorem dX16_init_15 : decode cX16_init 15 = .ok (.iload_n 3, 1) := by decide +kernel
theorem dX16_init_16 : decode cX16_init 16 = .ok (.putfield 19, 3) := by decide +kernel
theorem dX16_init_19 : decode cX16_init 19 = .ok (.aload_n 0, 1) := by decide +kernel
theorem dX16_init_20 : decode cX16_init 20 = .ok (.iload 4, 2) := by decide +kernel
theorem dX16_init_22 : decode cX16_init 22 = .ok (.putfield 22, 3) := by decide +kernel
theorem dX16_init_25 : decode cX16_init 25 = .ok (.aload_n 0, 1) := by decide +kernel
theorem dX16_init_26 : decode cX16_init 26 = .ok (.iload 5, 2) := by decide +kernel
theorem dX16_init_28 : decode cX16_init 28 = .ok (.putfield 25, 3) := by decide +kernel
theorem dX16_init_31 : decode cX16_init 31 = .ok (.return_, 1) := by decide +kernel
theorem dX16_road_0 : decode cX16_road 0 = .ok (.new 33, 3) := by decide +kernel
theorem dX16_road_3 : decode cX16_road 3 = .ok (.dup, 1) := by decide +kernel
theorem dX16_road_4 : decode cX16_road 4 = .ok (.invokespecial 67, 3) := by decide +kernel
theorem dX16_road_7 : decode cX16_road 7 = .ok (.astore_n 2, 1) := by decide +kernel
theorem dX16_road_8 : decode cX16_road 8 = .ok (.aload_n 1, 1) := by decide +kernel
theorem dX16_road_9 : decode cX16_road 9 = .ok (.invokevirtual 68, 3) := by decide +kernel
theorem dX16_road_12 : decode cX16_road 12 = .ok (.ifCond .eq 10, 3) := by decide +kernel
theorem dX16_road_22 : decode cX16_road 22 = .ok (.aload_n 2, 1) := by decide +kernel
theorem dX16_road_23 : decode cX16_road 23 = .ok (.areturn, 1) := by decide +kernel
theorem dX16_isUnder_0 : decode cX16_isUnder 0 = .ok (.aload_n 1, 1) := by decide +kernel
theorem dX16_isUnder_1 : decode cX16_isUnder 1 = .ok (.getfield 49, 3) := by decide +kernel
theorem dX16_isUnder_4 : decode cX16_isUnder 4 = .ok (.bipush (-2), 2) := by decide +kernel
theorem dX16_isUnder_6 : decode cX16_isUnder 6 = .ok (.if_icmp .eq 19, 3) := by decide +kernel
theorem dX16_isUnder_9 : decode cX16_isUnder 9 = .ok (.aload_n 2, 1) := by decide +kernel
theorem dX16_isUnder_10 : decode cX16_isUnder 10 = .ok (.getfield 49, 3) := by decide +kernel
theorem dX16_isUnder_13 : decode cX16_isUnder 13 = .ok (.iconst (-1), 1) := by decide +kernel
theorem dX16_isUnder_14 : decode cX16_isUnder 14 = .ok (.if_icmp .eq 11, 3) := by decide +kernel
theorem dX16_isUnder_17 : decode cX16_isUnder 17 = .ok (.aload_n 1, 1) := by decide +kernel
theorem dX16_isUnder_18 : decode cX16_isUnder 18 = .ok (.aload_n 2, 1) := by decide +kernel
theorem dX16_isUnder_19 : decode cX16_isUnder 19 = .ok (.invokevirtual 76, 3) := by decide +kernel
theorem dX16_isUnder_22 : decode cX16_isUnder 22 = .ok (.ifCond .eq 5, 3) := by decide +kernel
theorem dX16_isUnder_25 : decode cX16_isUnder 25 = .ok (.iconst 1, 1) := by decide +kernel
theorem dX16_isUnder_26 : decode cX16_isUnder 26 = .ok (.ireturn, 1) := by decide +kernel
theorem dX16_isUnder_27 : decode cX16_isUnder 27 = .ok (.aload_n 2, 1) := by decide +kernel
theorem dX16_isUnder_28 : decode cX16_isUnder 28 = .ok (.invokevirtual 68, 3) := by decide +kernel
theorem dX16_isUnder_31 : decode cX16_isUnder 31 = .ok (.ifCond .eq 15, 3) := by decide +kernel
theorem dX16_isUnder_46 : decode cX16_isUnder 46 = .ok (.aconst_null, 1) := by decide +kernel
theorem dX16_isUnder_47 : decode cX16_isUnder 47 = .ok (.astore_n 3, 1) := by decide +kernel
theorem dX16_isUnder_48 : decode cX16_isUnder 48 = .ok (.aload_n 3, 1) := by decide +kernel
theorem dX16_isUnder_49 : decode cX16_isUnder 49 = .ok (.ifnonnull 5, 3) := by decide +kernel
theorem dX16_isUnder_52 : decode cX16_isUnder 52 = .ok (.iconst 0, 1) := by decide +kernel
theorem dX16_isUnder_53 : decode cX16_isUnder 53 = .ok (.ireturn, 1) := by decide +kernel
theorem dX16_join_0 : decode cX16_join 0 = .ok (.aload_n 0, 1) := by decide +kernel
theorem dX16_join_1 : decode cX16_join 1 = .ok (.aload_n 1, 1) := by decide +kernel
theorem dX16_join_2 : decode cX16_join 2 = .ok (.aload_n 2, 1) := by decide +kernel
theorem dX16_join_3 : decode cX16_join 3 = .ok (.invokevirtual 91, 3) := by decide +kernel
theorem dX16_join_6 : decode cX16_join 6 = .ok (.ifCond .eq 5, 3) := by decide +kernel
theorem dX16_join_9 : decode cX16_join 9 = .ok (.aload_n 2, 1) := by decide +kernel
theorem dX16_join_10 : decode cX16_join 10 = .ok (.areturn, 1) := by decide +kernel
theorem dX16_join_11 : decode cX16_join 11 = .ok (.aload_n 0, 1) := by decide +kernel
theorem dX16_join_12 : decode cX16_join 12 = .ok (.aload_n 2, 1) := by decide +kernel
theorem dX16_join_13 : decode cX16_join 13 = .ok (.aload_n 1, 1) := by decide +kernel
theorem dX16_join_14 : decode cX16_join 14 = .ok (.invokevirtual 91, 3) := by decide +kernel
theorem dX16_join_17 : decode cX16_join 17 = .ok (.ifCond .eq 5, 3) := by decide +kernel
theorem dX16_join_20 : decode cX16_join 20 = .ok (.aload_n 1, 1) := by decide +kernel
theorem dX16_join_21 : decode cX16_join 21 = .ok (.areturn, 1) := by decide +kernel
theorem dX18_thrown_0 : decode cX18_thrown 0 = .ok (.aload_n 0, 1) := by decide +kernel
theorem dX18_thrown_1 : decode cX18_thrown 1 = .ok (.getfield 34, 3) := by decide +kernel
theorem dX18_thrown_4 : decode cX18_thrown 4 = .ok (.ireturn, 1) := by decide +kernel
theorem dX18_isIn_0 : decode cX18_isIn 0 = .ok (.iload_n 0, 1) := by decide +kernel
theorem dX18_isIn_1 : decode cX18_isIn 1 = .ok (.iload_n 1, 1) := by decide +kernel
theorem dX18_isIn_2 : decode cX18_isIn 2 = .ok (.if_icmp .lt 12, 3) := by decide +kernel
theorem dX18_isIn_5 : decode cX18_isIn 5 = .ok (.iload_n 0, 1) := by decide +kernel
theorem dX18_isIn_6 : decode cX18_isIn 6 = .ok (.iload_n 2, 1) := by decide +kernel
theorem dX18_isIn_7 : decode cX18_isIn 7 = .ok (.if_icmp .gt 7, 3) := by decide +kernel
theorem dX18_isIn_10 : decode cX18_isIn 10 = .ok (.iconst 1, 1) := by decide +kernel
theorem dX18_isIn_11 : decode cX18_isIn 11 = .ok (.goto 4, 3) := by decide +kernel
theorem dX18_isIn_14 : decode cX18_isIn 14 = .ok (.iconst 0, 1) := by decide +kernel
theorem dX18_isIn_15 : decode cX18_isIn 15 = .ok (.ireturn, 1) := by decide +kernel
theorem dX18_refuse_0 : decode cX18_refuse 0 = .ok (.iload_n 1, 1) := by decide +kernel
theorem dX18_refuse_1 : decode cX18_refuse 1 = .ok (.ifCond .eq 15, 3) := by decide +kernel
theorem dX18_refuse_4 : decode cX18_refuse 4 = .ok (.aload_n 0, 1) := by decide +kernel
theorem dX18_refuse_5 : decode cX18_refuse 5 = .ok (.getfield 34, 3) := by decide +kernel
theorem dX18_refuse_8 : decode cX18_refuse 8 = .ok (.ifCond .ne 8, 3) := by decide +kernel
theorem dX18_refuse_11 : decode cX18_refuse 11 = .ok (.aload_n 0, 1) := by decide +kernel
theorem dX18_refuse_12 : decode cX18_refuse 12 = .ok (.iload_n 2, 1) := by decide +kernel
theorem dX18_refuse_13 : decode cX18_refuse 13 = .ok (.putfield 34, 3) := by decide +kernel
theorem dX18_refuse_16 : decode cX18_refuse 16 = .ok (.aload_n 0, 1) := by decide +kernel
theorem dX18_refuse_17 : decode cX18_refuse 17 = .ok (.getfield 34, 3) := by decide +kernel
theorem dX18_refuse_20 : decode cX18_refuse 20 = .ok (.ifCond .le 7, 3) := by decide +kernel
theorem dX18_refuse_23 : decode cX18_refuse 23 = .ok (.iconst 1, 1) := by decide +kernel
theorem dX18_refuse_24 : decode cX18_refuse 24 = .ok (.goto 4, 3) := by decide +kernel
theorem dX18_refuse_27 : decode cX18_refuse 27 = .ok (.iconst 0, 1) := by decide +kernel
theorem dX18_refuse_28 : decode cX18_refuse 28 = .ok (.ireturn, 1) := by decide +kernel
theorem dX18_start_0 : decode cX18_start 0 = .ok (.aload_n 0, 1) := by decide +kernel
theorem dX18_start_1 : decode cX18_start 1 = .ok (.iconst 0, 1) := by decide +kernel
theorem dX18_start_2 : decode cX18_start 2 = .ok (.putfield 34, 3) := by decide +kernel
theorem dX18_start_5 : decode cX18_start 5 = .ok (.aload_n 0, 1) := by decide +kernel
theorem dX18_start_6 : decode cX18_start 6 = .ok (.iload_n 1, 1) := by decide +kernel
theorem dX18_start_7 : decode cX18_start 7 = .ok (.iload_n 2, 1) := by decide +kernel
theorem dX18_start_8 : decode cX18_start 8 = .ok (.invokevirtual 38, 3) := by decide +kernel
theorem dX18_start_11 : decode cX18_start 11 = .ok (.ireturn, 1) := by decide +kernel
theorem dX18_plain_0 : decode cX18_plain 0 = .ok (.aload_n 0, 1) := by decide +kernel
theorem dX18_plain_1 : decode cX18_plain 1 = .ok (.iconst 0, 1) := by decide +kernel
theorem dX18_plain_2 : decode cX18_plain 2 = .ok (.putfield 34, 3) := by decide +kernel
theorem dX18_plain_5 : decode cX18_plain 5 = .ok (.iload_n 1, 1) := by decide +kernel
theorem dX18_plain_6 : decode cX18_plain 6 = .ok (.ireturn, 1) := by decide +kernel
theorem dX18_view_0 : decode cX18_view 0 = .ok (.new 42, 3) := by decide +kernel
theorem dX18_view_3 : decode cX18_view 3 = .ok (.dup, 1) := by decide +kernel
theorem dX18_view_4 : decode cX18_view 4 = .ok (.aload_n 0, 1) := by decide +kernel
theorem dX18_view_5 : decode cX18_view 5 = .ok (.iconst (-1), 1) := by decide +kernel
theorem dX18_view_6 : decode cX18_view 6 = .ok (.iconst (-1), 1) := by decide +kernel
theorem dX18_view_7 : decode cX18_view 7 = .ok (.iconst (-1), 1) := by decide +kernel
theorem dX18_view_8 : decode cX18_view 8 = .ok (.iconst (-1), 1) := by decide +kernel
theorem dX18_view_9 : decode cX18_view 9 = .ok (.invokespecial 44, 3) := by decide +kernel
theorem dX18_view_12 : decode cX18_view 12 = .ok (.areturn, 1) := by decide +kernel
theorem dX18_isNoSort_0 : decode cX18_isNoSort 0 = .ok (.iload_n 1, 1) := by decide +kernel
theorem dX18_isNoSort_1 : decode cX18_isNoSort 1 = .ok (.iconst 0, 1) := by decide +kernel
theorem dX18_isNoSort_2 : decode cX18_isNoSort 2 = .ok (.aload_n 0, 1) := by decide +kernel
theorem dX18_isNoSort_3 : decode cX18_isNoSort 3 = .ok (.getfield 10, 3) := by decide +kernel
theorem dX18_isNoSort_6 : decode cX18_isNoSort 6 = .ok (.invokevirtual 47, 3) := by decide +kernel
theorem dX18_isNoSort_9 : decode cX18_isNoSort 9 = .ok (.iconst 1, 1) := by decide +kernel
theorem dX18_isNoSort_10 : decode cX18_isNoSort 10 = .ok (.isub, 1) := by decide +kernel
theorem dX18_isNoSort_11 : decode cX18_isNoSort 11 = .ok (.invokestatic 51, 3) := by decide +kernel
theorem dX18_isNoSort_14 : decode cX18_isNoSort 14 = .ok (.ifCond .ne 7, 3) := by decide +kernel
theorem dX18_isNoSort_17 : decode cX18_isNoSort 17 = .ok (.iconst 1, 1) := by decide +kernel
theorem dX18_isNoSort_18 : decode cX18_isNoSort 18 = .ok (.goto 4, 3) := by decide +kernel
theorem dX18_isNoSort_22 : decode cX18_isNoSort 22 = .ok (.ireturn, 1) := by decide +kernel
theorem dX18_isNoType_0 : decode cX18_isNoType 0 = .ok (.iload_n 1, 1) := by decide +kernel
theorem dX18_isNoType_1 : decode cX18_isNoType 1 = .ok (.iconst 0, 1) := by decide +kernel
theorem dX18_isNoType_2 : decode cX18_isNoType 2 = .ok (.aload_n 0, 1) := by decide +kernel
theorem dX18_isNoType_3 : decode cX18_isNoType 3 = .ok (.getfield 16, 3) := by decide +kernel
theorem dX18_isNoType_6 : decode cX18_isNoType 6 = .ok (.invokevirtual 47, 3) := by decide +kernel
theorem dX18_isNoType_9 : decode cX18_isNoType 9 = .ok (.iconst 1, 1) := by decide +kernel
theorem dX18_isNoType_10 : decode cX18_isNoType 10 = .ok (.isub, 1) := by decide +kernel
theorem dX18_isNoType_11 : decode cX18_isNoType 11 = .ok (.invokestatic 51, 3) := by decide +kernel
theorem dX18_isNoType_14 : decode cX18_isNoType 14 = .ok (.ifCond .ne 7, 3) := by decide +kernel
theorem dX18_isNoType_17 : decode cX18_isNoType 17 = .ok (.iconst 1, 1) := by decide +kernel
theorem dX18_isNoType_18 : decode cX18_isNoType 18 = .ok (.goto 4, 3) := by decide +kernel
theorem dX18_isNoType_21 : decode cX18_isNoType 21 = .ok (.iconst 0, 1) := by decide +kernel
theorem dX18_isNoType_22 : decode cX18_isNoType 22 = .ok (.ireturn, 1) := by decide +kernel
theorem dX18_isNoTypeOrNone_0 : decode cX18_isNoTypeOrNone 0 = .ok (.iload_n 1, 1) := by decide +kernel
theorem dX18_isNoTypeOrNone_1 : decode cX18_isNoTypeOrNone 1 = .ok (.iconst (-1), 1) := by decide +kernel
theorem dX18_isNoTypeOrNone_2 : decode cX18_isNoTypeOrNone 2 = .ok (.if_icmp .eq 15, 3) := by decide +kernel
theorem dX18_isNoTypeOrNone_5 : decode cX18_isNoTypeOrNone 5 = .ok (.aload_n 0, 1) := by decide +kernel
theorem dX18_isNoTypeOrNone_6 : decode cX18_isNoTypeOrNone 6 = .ok (.iload_n 1, 1) := by decide +kernel
theorem dX18_isNoTypeOrNone_7 : decode cX18_isNoTypeOrNone 7 = .ok (.invokevirtual 55, 3) := by decide +kernel
theorem dX18_isNoTypeOrNone_10 : decode cX18_isNoTypeOrNone 10 = .ok (.ifCond .eq 7, 3) := by decide +kernel
theorem dX18_isNoTypeOrNone_13 : decode cX18_isNoTypeOrNone 13 = .ok (.iconst 1, 1) := by decide +kernel
theorem dX18_isNoTypeOrNone_14 : decode cX18_isNoTypeOrNone 14 = .ok (.goto 4, 3) := by decide +kernel
theorem dX18_isNoTypeOrNone_17 : decode cX18_isNoTypeOrNone 17 = .ok (.iconst 0, 1) := by decide +kernel
theorem dX18_isNoTypeOrNone_18 : decode cX18_isNoTypeOrNone 18 = .ok (.ireturn, 1) := by decide +kernel
theorem dX18_isNoExpression_0 : decode cX18_isNoExpression 0 = .ok (.iload_n 1, 1) := by decide +kernel
theorem dX18_isNoExpression_1 : decode cX18_isNoExpression 1 = .ok (.iconst 0, 1) := by decide +kernel
theorem dX18_isNoExpression_2 : decode cX18_isNoExpression 2 = .ok (.aload_n 0, 1) := by decide +kernel
theorem dX18_isNoExpression_3 : decode cX18_isNoExpression 3 = .ok (.getfield 22, 3) := by decide +kernel
theorem dX18_isNoExpression_6 : decode cX18_isNoExpression 6 = .ok (.invokevirtual 47, 3) := by decide +kernel
theorem dX18_isNoExpression_9 : decode cX18_isNoExpression 9 = .ok (.iconst 1, 1) := by decide +kernel
theorem dX18_isNoExpression_10 : decode cX18_isNoExpression 10 = .ok (.isub, 1) := by decide +kernel
theorem dX18_isNoExpression_11 : decode cX18_isNoExpression 11 = .ok (.invokestatic 51, 3) := by decide +kernel
theorem dX18_isNoExpression_14 : decode cX18_isNoExpression 14 = .ok (.ifCond .ne 7, 3) := by decide +kernel
theorem dX18_isNoExpression_17 : decode cX18_isNoExpression 17 = .ok (.iconst 1, 1) := by decide +kernel
theorem dX18_isNoExpression_18 : decode cX18_isNoExpression 18 = .ok (.goto 4, 3) := by decide +kernel
theorem dX18_isNoExpression_22 : decode cX18_isNoExpression 22 = .ok (.ireturn, 1) := by decide +kernel
theorem dX18_type_0 : decode cX18_type 0 = .ok (.aload_n 0, 1) := by decide +kernel
theorem dX18_type_1 : decode cX18_type 1 = .ok (.getfield 16, 3) := by decide +kernel
theorem dX18_type_4 : decode cX18_type 4 = .ok (.iload_n 1, 1) := by decide +kernel
theorem dX18_type_5 : decode cX18_type 5 = .ok (.invokevirtual 59, 3) := by decide +kernel
theorem dX18_type_8 : decode cX18_type 8 = .ok (.checkcast 25, 3) := by decide +kernel
theorem dX18_type_11 : decode cX18_type 11 = .ok (.areturn, 1) := by decide +kernel
theorem dJxa1e45_init_da8c8_0 : decode cJxa1e45_init_da8c8 0 = .ok (.aload_n 0, 1) := by decide +kernel
theorem dJxa1e45_init_da8c8_1 : decode cJxa1e45_init_da8c8 1 = .ok (.invokespecial 1, 3) := by decide +kernel
theorem dJxa1e45_init_da8c8_4 : decode cJxa1e45_init_da8c8 4 = .ok (.return_, 1) := by decide +kernel
theorem dJxc12de_init_da8c8_0 : decode cJxc12de_init_da8c8 0 = .ok (.aload_n 0, 1) := by decide +kernel
theorem dJxc12de_init_da8c8_1 : decode cJxc12de_init_da8c8 1 = .ok (.invokespecial 1, 3) := by decide +kernel
theorem dJxc12de_init_da8c8_4 : decode cJxc12de_init_da8c8 4 = .ok (.aload_n 0, 1) := by decide +kernel
theorem dJxc12de_init_da8c8_5 : decode cJxc12de_init_da8c8 5 = .ok (.iconst 0, 1) := by decide +kernel
theorem dJxc12de_init_da8c8_6 : decode cJxc12de_init_da8c8 6 = .ok (.putfield 7, 3) := by decide +kernel
theorem dJxc12de_init_da8c8_9 : decode cJxc12de_init_da8c8 9 = .ok (.return_, 1) := by decide +kernel
theorem dJx4a65c_init_da8c8_0 : decode cJx4a65c_init_da8c8 0 = .ok (.aload_n 0, 1) := by decide +kernel
theorem dJx4a65c_init_da8c8_1 : decode cJx4a65c_init_da8c8 1 = .ok (.invokespecial 1, 3) := by decide +kernel
theorem dJx4a65c_init_da8c8_4 : decode cJx4a65c_init_da8c8 4 = .ok (.aload_n 0, 1) := by decide +kernel
theorem dJx4a65c_init_da8c8_5 : decode cJx4a65c_init_da8c8 5 = .ok (.getstatic 39, 3) := by decide +kernel
theorem dJx4a65c_init_da8c8_8 : decode cJx4a65c_init_da8c8 8 = .ok (.putfield 9, 3) := by decide +kernel
theorem dJx4a65c_init_da8c8_11 : decode cJx4a65c_init_da8c8 11 = .ok (.return_, 1) := by decide +kernel
theorem dJx4a65c_grow_92f84_0 : decode cJx4a65c_grow_92f84 0 = .ok (.aload_n 0, 1) := by decide +kernel
theorem dJx4a65c_grow_92f84_1 : decode cJx4a65c_grow_92f84 1 = .ok (.getfield 9, 3) := by decide +kernel
theorem dJx4a65c_grow_92f84_4 : decode cJx4a65c_grow_92f84 4 = .ok (.arraylength, 1) := by decide +kernel
theorem dJx4a65c_grow_92f84_5 : decode cJx4a65c_grow_92f84 5 = .ok (.istore_n 2, 1) := by decide +kernel
theorem dJx4a65c_grow_92f84_6 : decode cJx4a65c_grow_92f84 6 = .ok (.iload_n 2, 1) := by decide +kernel
theorem dJx4a65c_grow_92f84_7 : decode cJx4a65c_grow_92f84 7 = .ok (.ifCond .gt 13, 3) := by decide +kernel
theorem dJx4a65c_grow_92f84_10 : decode cJx4a65c_grow_92f84 10 = .ok (.aload_n 0, 1) := by decide +kernel
theorem dJx4a65c_grow_92f84_11 : decode cJx4a65c_grow_92f84 11 = .ok (.getfield 9, 3) := by decide +kernel
theorem dJx4a65c_grow_92f84_14 : decode cJx4a65c_grow_92f84 14 = .ok (.getstatic 39, 3) := by decide +kernel
theorem dJx4a65c_grow_92f84_17 : decode cJx4a65c_grow_92f84 17 = .ok (.if_acmp .eq 28, 3) := by decide +kernel
theorem dJx4a65c_grow_92f84_45 : decode cJx4a65c_grow_92f84 45 = .ok (.aload_n 0, 1) := by decide +kernel
theorem dJx4a65c_grow_92f84_46 : decode cJx4a65c_grow_92f84 46 = .ok (.bipush 10, 2) := by decide +kernel
theorem dJx4a65c_grow_92f84_48 : decode cJx4a65c_grow_92f84 48 = .ok (.iload_n 1, 1) := by decide +kernel
theorem dJx4a65c_grow_92f84_49 : decode cJx4a65c_grow_92f84 49 = .ok (.invokestatic 79, 3) := by decide +kernel
theorem dJx4a65c_grow_92f84_52 : decode cJx4a65c_grow_92f84 52 = .ok (.anewarray 7, 3) := by decide +kernel
theorem dJx4a65c_grow_92f84_55 : decode cJx4a65c_grow_92f84 55 = .ok (.dup_x1, 1) := by decide +kernel
theorem dJx4a65c_grow_92f84_56 : decode cJx4a65c_grow_92f84 56 = .ok (.putfield 9, 3) := by decide +kernel
theorem dJx4a65c_grow_92f84_59 : decode cJx4a65c_grow_92f84 59 = .ok (.areturn, 1) := by decide +kernel
theorem dJx4a65c_grow_d5877_0 : decode cJx4a65c_grow_d5877 0 = .ok (.aload_n 0, 1) := by decide +kernel
theorem dJx4a65c_grow_d5877_1 : decode cJx4a65c_grow_d5877 1 = .ok (.aload_n 0, 1) := by decide +kernel
theorem dJx4a65c_grow_d5877_2 : decode cJx4a65c_grow_d5877 2 = .ok (.getfield 48, 3) := by decide +kernel
theorem dJx4a65c_grow_d5877_5 : decode cJx4a65c_grow_d5877 5 = .ok (.iconst 1, 1) := by decide +kernel
theorem dJx4a65c_grow_d5877_6 : decode cJx4a65c_grow_d5877 6 = .ok (.iadd, 1) := by decide +kernel
theorem dJx4a65c_grow_d5877_7 : decode cJx4a65c_grow_d5877 7 = .ok (.invokevirtual 69, 3) := by decide +kernel
theorem dJx4a65c_grow_d5877_10 : decode cJx4a65c_grow_d5877 10 = .ok (.areturn, 1) := by decide +kernel
theorem dJx4a65c_size_8abf5_0 : decode cJx4a65c_size_8abf5 0 = .ok (.aload_n 0, 1) := by decide +kernel
theorem dJx4a65c_size_8abf5_1 : decode cJx4a65c_size_8abf5 1 = .ok (.getfield 48, 3) := by decide +kernel
theorem dJx4a65c_size_8abf5_4 : decode cJx4a65c_size_8abf5 4 = .ok (.ireturn, 1) := by decide +kernel
theorem dJx4a65c_isEmpty_aae02_0 : decode cJx4a65c_isEmpty_aae02 0 = .ok (.aload_n 0, 1) := by decide +kernel
theorem dJx4a65c_isEmpty_aae02_1 : decode cJx4a65c_isEmpty_aae02 1 = .ok (.getfield 48, 3) := by decide +kernel
theorem dJx4a65c_isEmpty_aae02_4 : decode cJx4a65c_isEmpty_aae02 4 = .ok (.ifCond .ne 7, 3) := by decide +kernel
theorem dJx4a65c_isEmpty_aae02_7 : decode cJx4a65c_isEmpty_aae02 7 = .ok (.iconst 1, 1) := by decide +kernel
theorem dJx4a65c_isEmpty_aae02_8 : decode cJx4a65c_isEmpty_aae02 8 = .ok (.goto 4, 3) := by decide +kernel
theorem dJx4a65c_isEmpty_aae02_12 : decode cJx4a65c_isEmpty_aae02 12 = .ok (.ireturn, 1) := by decide +kernel
theorem dJx4a65c_elementData_915e3_0 : decode cJx4a65c_elementData_915e3 0 = .ok (.aload_n 0, 1) := by decide +kernel
theorem dJx4a65c_elementData_915e3_1 : decode cJx4a65c_elementData_915e3 1 = .ok (.getfield 9, 3) := by decide +kernel
theorem dJx4a65c_elementData_915e3_4 : decode cJx4a65c_elementData_915e3 4 = .ok (.iload_n 1, 1) := by decide +kernel
theorem dJx4a65c_elementData_915e3_5 : decode cJx4a65c_elementData_915e3 5 = .ok (.aaload, 1) := by decide +kernel
theorem dJx4a65c_elementData_915e3_6 : decode cJx4a65c_elementData_915e3 6 = .ok (.areturn, 1) := by decide +kernel
theorem dJx4a65c_get_915e3_0 : decode cJx4a65c_get_915e3 0 = .ok (.iload_n 1, 1) := by decide +kernel
theorem dJx4a65c_get_915e3_1 : decode cJx4a65c_get_915e3 1 = .ok (.aload_n 0, 1) := by decide +kernel
theorem dJx4a65c_get_915e3_2 : decode cJx4a65c_get_915e3 2 = .ok (.getfield 48, 3) := by decide +kernel
theorem dJx4a65c_get_915e3_5 : decode cJx4a65c_get_915e3 5 = .ok (.invokestatic 118, 3) := by decide +kernel
theorem dJx4a65c_get_915e3_8 : decode cJx4a65c_get_915e3 8 = .ok (.pop, 1) := by decide +kernel
theorem dJx4a65c_get_915e3_9 : decode cJx4a65c_get_915e3 9 = .ok (.aload_n 0, 1) := by decide +kernel
theorem dJx4a65c_get_915e3_10 : decode cJx4a65c_get_915e3 10 = .ok (.iload_n 1, 1) := by decide +kernel
theorem dJx4a65c_get_915e3_11 : decode cJx4a65c_get_915e3 11 = .ok (.invokevirtual 123, 3) := by decide +kernel
theorem dJx4a65c_get_915e3_14 : decode cJx4a65c_get_915e3 14 = .ok (.areturn, 1) := by decide +kernel
theorem dJx4a65c_add_72be8_0 : decode cJx4a65c_add_72be8 0 = .ok (.iload_n 3, 1) := by decide +kernel
theorem dJx4a65c_add_72be8_1 : decode cJx4a65c_add_72be8 1 = .ok (.aload_n 2, 1) := by decide +kernel
theorem dJx4a65c_add_72be8_2 : decode cJx4a65c_add_72be8 2 = .ok (.arraylength, 1) := by decide +kernel
theorem dJx4a65c_add_72be8_3 : decode cJx4a65c_add_72be8 3 = .ok (.if_icmp .ne 8, 3) := by decide +kernel
theorem dJx4a65c_add_72be8_6 : decode cJx4a65c_add_72be8 6 = .ok (.aload_n 0, 1) := by decide +kernel
theorem dJx4a65c_add_72be8_7 : decode cJx4a65c_add_72be8 7 = .ok (.invokevirtual 129, 3) := by decide +kernel
theorem dJx4a65c_add_72be8_10 : decode cJx4a65c_add_72be8 10 = .ok (.astore_n 2, 1) := by decide +kernel
theorem dJx4a65c_add_72be8_11 : decode cJx4a65c_add_72be8 11 = .ok (.aload_n 2, 1) := by decide +kernel
theorem dJx4a65c_add_72be8_12 : decode cJx4a65c_add_72be8 12 = .ok (.iload_n 3, 1) := by decide +kernel
theorem dJx4a65c_add_72be8_13 : decode cJx4a65c_add_72be8 13 = .ok (.aload_n 1, 1) := by decide +kernel
theorem dJx4a65c_add_72be8_14 : decode cJx4a65c_add_72be8 14 = .ok (.aastore, 1) := by decide +kernel
theorem dJx4a65c_add_72be8_15 : decode cJx4a65c_add_72be8 15 = .ok (.aload_n 0, 1) := by decide +kernel
theorem dJx4a65c_add_72be8_16 : decode cJx4a65c_add_72be8 16 = .ok (.iload_n 3, 1) := by decide +kernel
theorem dJx4a65c_add_72be8_17 : decode cJx4a65c_add_72be8 17 = .ok (.iconst 1, 1) := by decide +kernel
theorem dJx4a65c_add_72be8_18 : decode cJx4a65c_add_72be8 18 = .ok (.iadd, 1) := by decide +kernel
theorem dJx4a65c_add_72be8_19 : decode cJx4a65c_add_72be8 19 = .ok (.putfield 48, 3) := by decide +kernel
theorem dJx4a65c_add_72be8_22 : decode cJx4a65c_add_72be8 22 = .ok (.return_, 1) := by decide +kernel
theorem dJx4a65c_add_9ea2d_0 : decode cJx4a65c_add_9ea2d 0 = .ok (.aload_n 0, 1) := by decide +kernel
theorem dJx4a65c_add_9ea2d_1 : decode cJx4a65c_add_9ea2d 1 = .ok (.dup, 1) := by decide +kernel
theorem dJx4a65c_add_9ea2d_2 : decode cJx4a65c_add_9ea2d 2 = .ok (.getfield 63, 3) := by decide +kernel
theorem dJx4a65c_add_9ea2d_5 : decode cJx4a65c_add_9ea2d 5 = .ok (.iconst 1, 1) := by decide +kernel
theorem dJx4a65c_add_9ea2d_6 : decode cJx4a65c_add_9ea2d 6 = .ok (.iadd, 1) := by decide +kernel
theorem dJx4a65c_add_9ea2d_7 : decode cJx4a65c_add_9ea2d 7 = .ok (.putfield 63, 3) := by decide +kernel
theorem dJx4a65c_add_9ea2d_10 : decode cJx4a65c_add_9ea2d 10 = .ok (.aload_n 0, 1) := by decide +kernel
theorem dJx4a65c_add_9ea2d_11 : decode cJx4a65c_add_9ea2d 11 = .ok (.aload_n 1, 1) := by decide +kernel
theorem dJx4a65c_add_9ea2d_12 : decode cJx4a65c_add_9ea2d 12 = .ok (.aload_n 0, 1) := by decide +kernel
theorem dJx4a65c_add_9ea2d_13 : decode cJx4a65c_add_9ea2d 13 = .ok (.getfield 9, 3) := by decide +kernel
theorem dJx4a65c_add_9ea2d_16 : decode cJx4a65c_add_9ea2d 16 = .ok (.aload_n 0, 1) := by decide +kernel
theorem dJx4a65c_add_9ea2d_17 : decode cJx4a65c_add_9ea2d 17 = .ok (.getfield 48, 3) := by decide +kernel
theorem dJx4a65c_add_9ea2d_20 : decode cJx4a65c_add_9ea2d 20 = .ok (.invokevirtual 131, 3) := by decide +kernel
theorem dJx4a65c_add_9ea2d_23 : decode cJx4a65c_add_9ea2d 23 = .ok (.iconst 1, 1) := by decide +kernel
theorem dJx4a65c_add_9ea2d_24 : decode cJx4a65c_add_9ea2d 24 = .ok (.ireturn, 1) := by decide +kernel
theorem dJ15_checkIndex_7cf53_0 : decode cJ15_checkIndex_7cf53 0 = .ok (.iload_n 0, 1) := by decide +kernel
theorem dJ15_checkIndex_7cf53_1 : decode cJ15_checkIndex_7cf53 1 = .ok (.iload_n 1, 1) := by decide +kernel
theorem dJ15_checkIndex_7cf53_2 : decode cJ15_checkIndex_7cf53 2 = .ok (.aconst_null, 1) := by decide +kernel
theorem dJ15_checkIndex_7cf53_3 : decode cJ15_checkIndex_7cf53 3 = .ok (.invokestatic 105, 3) := by decide +kernel
theorem dJ15_checkIndex_7cf53_6 : decode cJ15_checkIndex_7cf53 6 = .ok (.ireturn, 1) := by decide +kernel
theorem dJ3_checkIndex_8e157_0 : decode cJ3_checkIndex_8e157 0 = .ok (.iload_n 0, 1) := by decide +kernel
theorem dJ3_checkIndex_8e157_1 : decode cJ3_checkIndex_8e157 1 = .ok (.ifCond .lt 8, 3) := by decide +kernel
theorem dJ3_checkIndex_8e157_4 : decode cJ3_checkIndex_8e157 4 = .ok (.iload_n 0, 1) := by decide +kernel
theorem dJ3_checkIndex_8e157_5 : decode cJ3_checkIndex_8e157 5 = .ok (.iload_n 1, 1) := by decide +kernel
theorem dJ3_checkIndex_8e157_6 : decode cJ3_checkIndex_8e157 6 = .ok (.if_icmp .lt 10, 3) := by decide +kernel
theorem dJ3_checkIndex_8e157_16 : decode cJ3_checkIndex_8e157 16 = .ok (.iload_n 0, 1) := by decide +kernel
theorem dJ3_checkIndex_8e157_17 : decode cJ3_checkIndex_8e157 17 = .ok (.ireturn, 1) := by decide +kernel
set_option maxRecDepth 20000 in
theorem ggX15_isClosed_X15_has : GoodIn wsX15_isClosed wsX15_has := goodIn_r _ [5, 6, 7, 1, 2, 3, 4, 8, 9] (by decide +kernel) (by decide +kernel)
set_option maxRecDepth 20000 in
theorem gX15_isClosed_X15_has : GoodIn wsX15_isClosed (wsV RX15 36 RX15 yX15_has wsX15_has) := goodIn_app (goodIn_of _ (by decide +kernel)) ggX15_isClosed_X15_has
set_option maxRecDepth 20000 in
theorem ggX16_road_Jx4a65c_init_da8c8 : GoodIn wsX16_road wsJx4a65c_init_da8c8 := goodIn_r _ [6, 7, 8, 9, 10, 11, 12, 13, 14, 15, 16, 17, 18, 19, 20, 138, 139, 140] (by decide +kernel) (by decide +kernel)
set_option maxRecDepth 20000 in
theorem gX16_road_Jx4a65c_init_da8c8 : GoodIn wsX16_road (wsJx4a65c_init_da8c8) := ggX16_road_Jx4a65c_init_da8c8
set_option maxRecDepth 20000 in
theorem ggX16_road_X15_isSort : GoodIn wsX16_road wsX15_isSort := goodIn_r _ [25, 26, 141, 142] (by decide +kernel) (by decide +kernel)
set_option maxRecDepth 20000 in
theorem gX16_road_X15_isSort : GoodIn wsX16_road (wsV RX16 68 RX15 yX15_isSort wsX15_isSort) := goodIn_app (goodIn_of _ (by decide +kernel)) ggX16_road_X15_isSort
set_option maxRecDepth 20000 in
theorem ggX16_isUnder_X15_isSame : GoodIn wsX16_isUnder wsX15_isSame := goodIn_r _ [7, 8, 9, 10, 4, 5, 6, 163, 164] (by decide +kernel) (by decide +kernel)
set_option maxRecDepth 20000 in
theorem gX16_isUnder_X15_isSame : GoodIn wsX16_isUnder (wsV RX16 76 RX15 yX15_isSame wsX15_isSame) := goodIn_app (goodIn_of _ (by decide +kernel)) ggX16_isUnder_X15_isSame
set_option maxRecDepth 20000 in
theorem ggX16_isUnder_X15_isSort : GoodIn wsX16_isUnder wsX15_isSort := goodIn_r _ [14, 8, 163, 164] (by decide +kernel) (by decide +kernel)
set_option maxRecDepth 20000 in
theorem gX16_isUnder_X15_isSort : GoodIn wsX16_isUnder (wsV RX16 68 RX15 yX15_isSort wsX15_isSort) := goodIn_app (goodIn_of _ (by decide +kernel)) ggX16_isUnder_X15_isSort
set_option maxRecDepth 20000 in
theorem ggX16_join_X16_isUnder : GoodIn wsX16_join wsX16_isUnder := goodIn_r _ [10, 2, 11, 12, 13, 14, 5, 15, 16, 17, 18, 19, 20, 21, 22, 23, 24, 25, 9, 26, 1, 27, 28, 29, 30, 31, 32, 33, 34, 35, 36, 37, 38, 39, 40, 41, 42, 43, 44, 45, 46, 47, 48, 49, 50, 51, 52, 53, 54, 55, 56, 57, 58, 59, 60, 61, 62, 63, 64, 65, 66, 67, 68, 69, 70, 71, 72, 73, 74, 75, 76, 77, 78, 79, 80, 81, 82, 83, 84, 85, 86, 87, 88, 89, 90, 91, 92, 93, 94, 95, 96, 97, 98, 99, 100, 101, 102, 103, 104, 105, 106, 107, 108, 109, 110, 111, 112, 113, 114, 115, 116, 117, 118, 119, 120, 121, 122, 123, 124, 125, 126, 127, 128, 129, 130, 131, 132, 133, 134, 135, 136, 137, 138, 139, 140, 4, 141, 142, 143, 144, 145, 146, 147, 148, 149, 150, 151, 152, 153, 154, 155, 156, 157, 158, 159, 160, 161, 162, 163, 164, 6, 7, 8, 174, 175, 176, 177, 178, 179, 180, 181, 182, 183, 184, 185, 186, 187, 188, 189, 190] (by decide +kernel) (by decide +kernel)
set_option maxRecDepth 20000 in
theorem gX16_join_X16_isUnder : GoodIn wsX16_join (wsV RX16 91 RX16 yX16_isUnder wsX16_isUnder) := goodIn_app (goodIn_of _ (by decide +kernel)) ggX16_join_X16_isUnder
set_option maxRecDepth 20000 in
theorem ggX18_start_X18_refuse : GoodIn wsX18_start wsX18_refuse := goodIn_r _ [6, 1, 7, 8, 9, 10, 11] (by decide +kernel) (by decide +kernel)
set_option maxRecDepth 20000 in
theorem gX18_start_X18_refuse : GoodIn wsX18_start (wsV RX18 38 RX18 yX18_refuse wsX18_refuse) := goodIn_app (goodIn_of _ (by decide +kernel)) ggX18_start_X18_refuse
set_option maxRecDepth 20000 in
theorem ggX18_view_X16_init : GoodIn wsX18_view wsX16_init := goodIn_r _ [6, 7, 8, 9, 10, 11, 12, 13, 14, 15, 16, 17, 18, 19] (by decide +kernel) (by decide +kernel)
set_option maxRecDepth 20000 in
theorem gX18_view_X16_init : GoodIn wsX18_view (wsX16_init) := ggX18_view_X16_init
set_option maxRecDepth 20000 in
theorem ggX18_isNoSort_Jx4a65c_size_8abf5 : GoodIn wsX18_isNoSort wsJx4a65c_size_8abf5 := goodIn_r _ [6, 7, 17, 18, 19] (by decide +kernel) (by decide +kernel)
set_option maxRecDepth 20000 in
theorem gX18_isNoSort_Jx4a65c_size_8abf5 : GoodIn wsX18_isNoSort (wsV RX18 47 RJx4a65c yJx4a65c_size_8abf5 wsJx4a65c_size_8abf5) := goodIn_app (goodIn_of _ (by decide +kernel)) ggX18_isNoSort_Jx4a65c_size_8abf5
set_option maxRecDepth 20000 in
theorem ggX18_isNoSort_X18_isIn : GoodIn wsX18_isNoSort wsX18_isIn := goodIn_r _ [11] (by decide +kernel) (by decide +kernel)
set_option maxRecDepth 20000 in
theorem gX18_isNoSort_X18_isIn : GoodIn wsX18_isNoSort (va_wsS RX18 51 yX18_isIn wsX18_isIn) := goodIn_app (goodIn_of _ (by decide +kernel)) ggX18_isNoSort_X18_isIn
set_option maxRecDepth 20000 in
theorem ggX18_isNoType_Jx4a65c_size_8abf5 : GoodIn wsX18_isNoType wsJx4a65c_size_8abf5 := goodIn_r _ [6, 7, 17, 18, 19] (by decide +kernel) (by decide +kernel)
set_option maxRecDepth 20000 in
theorem gX18_isNoType_Jx4a65c_size_8abf5 : GoodIn wsX18_isNoType (wsV RX18 47 RJx4a65c yJx4a65c_size_8abf5 wsJx4a65c_size_8abf5) := goodIn_app (goodIn_of _ (by decide +kernel)) ggX18_isNoType_Jx4a65c_size_8abf5
set_option maxRecDepth 20000 in
theorem ggX18_isNoType_X18_isIn : GoodIn wsX18_isNoType wsX18_isIn := goodIn_r _ [11] (by decide +kernel) (by decide +kernel)
set_option maxRecDepth 20000 in
theorem gX18_isNoType_X18_isIn : GoodIn wsX18_isNoType (va_wsS RX18 51 yX18_isIn wsX18_isIn) := goodIn_app (goodIn_of _ (by decide +kernel)) ggX18_isNoType_X18_isIn
set_option maxRecDepth 20000 in
theorem ggX18_isNoTypeOrNone_X18_isNoType : GoodIn wsX18_isNoTypeOrNone wsX18_isNoType := goodIn_r _ [5, 6, 7, 8, 9, 10, 11, 12, 13, 14, 4, 15, 16, 17, 18, 19, 20, 21, 22, 23] (by decide +kernel) (by decide +kernel)
set_option maxRecDepth 20000 in
theorem gX18_isNoTypeOrNone_X18_isNoType : GoodIn wsX18_isNoTypeOrNone (wsV RX18 55 RX18 yX18_isNoType wsX18_isNoType) := goodIn_app (goodIn_of _ (by decide +kernel)) ggX18_isNoTypeOrNone_X18_isNoType
set_option maxRecDepth 20000 in
theorem ggX18_isNoExpression_Jx4a65c_size_8abf5 : GoodIn wsX18_isNoExpression wsJx4a65c_size_8abf5 := goodIn_r _ [6, 7, 17, 18, 19] (by decide +kernel) (by decide +kernel)
set_option maxRecDepth 20000 in
theorem gX18_isNoExpression_Jx4a65c_size_8abf5 : GoodIn wsX18_isNoExpression (wsV RX18 47 RJx4a65c yJx4a65c_size_8abf5 wsJx4a65c_size_8abf5) := goodIn_app (goodIn_of _ (by decide +kernel)) ggX18_isNoExpression_Jx4a65c_size_8abf5
set_option maxRecDepth 20000 in
theorem ggX18_isNoExpression_X18_isIn : GoodIn wsX18_isNoExpression wsX18_isIn := goodIn_r _ [11] (by decide +kernel) (by decide +kernel)
set_option maxRecDepth 20000 in
theorem gX18_isNoExpression_X18_isIn : GoodIn wsX18_isNoExpression (va_wsS RX18 51 yX18_isIn wsX18_isIn) := goodIn_app (goodIn_of _ (by decide +kernel)) ggX18_isNoExpression_X18_isIn
set_option maxRecDepth 20000 in
theorem ggX18_type_Jx4a65c_get_915e3 : GoodIn wsX18_type wsJx4a65c_get_915e3 := goodIn_r _ [7, 8, 9, 10, 11, 12, 13, 14, 15, 16, 17, 18, 19, 6, 20, 21, 27, 28, 29] (by decide +kernel) (by decide +kernel)
set_option maxRecDepth 20000 in
theorem gX18_type_Jx4a65c_get_915e3 : GoodIn wsX18_type (wsV RX18 59 RJx4a65c yJx4a65c_get_915e3 wsJx4a65c_get_915e3) := goodIn_app (goodIn_of _ (by decide +kernel)) ggX18_type_Jx4a65c_get_915e3
set_option maxRecDepth 20000 in
theorem ggJxc12de_init_da8c8_Jxa1e45_init_da8c8 : GoodIn wsJxc12de_init_da8c8 wsJxa1e45_init_da8c8 := goodIn_r _ [5, 6, 7, 8] (by decide +kernel) (by decide +kernel)
set_option maxRecDepth 20000 in
theorem gJxc12de_init_da8c8_Jxa1e45_init_da8c8 : GoodIn wsJxc12de_init_da8c8 (wsJxa1e45_init_da8c8) := ggJxc12de_init_da8c8_Jxa1e45_init_da8c8
set_option maxRecDepth 20000 in
theorem ggJx4a65c_init_da8c8_Jxc12de_init_da8c8 : GoodIn wsJx4a65c_init_da8c8 wsJxc12de_init_da8c8 := goodIn_r _ [6, 7, 8, 9, 10, 11, 12, 13, 14, 15, 16, 17] (by decide +kernel) (by decide +kernel)
set_option maxRecDepth 20000 in
theorem gJx4a65c_init_da8c8_Jxc12de_init_da8c8 : GoodIn wsJx4a65c_init_da8c8 (wsJxc12de_init_da8c8) := ggJx4a65c_init_da8c8_Jxc12de_init_da8c8
set_option maxRecDepth 20000 in
theorem ggJx4a65c_grow_d5877_Jx4a65c_grow_92f84 : GoodIn wsJx4a65c_grow_d5877 wsJx4a65c_grow_92f84 := goodIn_r _ [6, 7, 8, 9, 10, 11, 12, 13, 14, 15, 16, 17, 18, 19, 20, 21, 22, 23, 24, 25, 26, 27, 28, 29, 30, 31, 32, 33, 34, 35, 36, 37, 38, 39, 40, 41, 42, 43, 44, 45] (by decide +kernel) (by decide +kernel)
set_option maxRecDepth 20000 in
theorem gJx4a65c_grow_d5877_Jx4a65c_grow_92f84 : GoodIn wsJx4a65c_grow_d5877 (wsV RJx4a65c 69 RJx4a65c yJx4a65c_grow_92f84 wsJx4a65c_grow_92f84) := goodIn_app (goodIn_of _ (by decide +kernel)) ggJx4a65c_grow_d5877_Jx4a65c_grow_92f84
set_option maxRecDepth 20000 in
theorem ggJx4a65c_get_915e3_J15_checkIndex_7cf53 : GoodIn wsJx4a65c_get_915e3 wsJ15_checkIndex_7cf53 := goodIn_r _ [5, 6, 7, 8, 9] (by decide +kernel) (by decide +kernel)
set_option maxRecDepth 20000 in
theorem gJx4a65c_get_915e3_J15_checkIndex_7cf53 : GoodIn wsJx4a65c_get_915e3 (va_wsS RJx4a65c 118 yJ15_checkIndex_7cf53 wsJ15_checkIndex_7cf53) := goodIn_app (goodIn_of _ (by decide +kernel)) ggJx4a65c_get_915e3_J15_checkIndex_7cf53
set_option maxRecDepth 20000 in
theorem ggJx4a65c_get_915e3_Jx4a65c_elementData_915e3 : GoodIn wsJx4a65c_get_915e3 wsJx4a65c_elementData_915e3 := goodIn_r _ [14, 15, 16, 17, 18] (by decide +kernel) (by decide +kernel)
set_option maxRecDepth 20000 in
theorem gJx4a65c_get_915e3_Jx4a65c_elementData_915e3 : GoodIn wsJx4a65c_get_915e3 (wsV RJx4a65c 123 RJx4a65c yJx4a65c_elementData_915e3 wsJx4a65c_elementData_915e3) := goodIn_app (goodIn_of _ (by decide +kernel)) ggJx4a65c_get_915e3_Jx4a65c_elementData_915e3
set_option maxRecDepth 20000 in
theorem ggJx4a65c_add_72be8_Jx4a65c_grow_d5877 : GoodIn wsJx4a65c_add_72be8 wsJx4a65c_grow_d5877 := goodIn_r _ [6, 1, 7, 8, 9, 5, 10, 11, 12, 13, 14, 15, 16, 17, 18, 19, 20, 21, 22, 23, 24, 25, 26, 27, 28, 29, 30, 31, 32, 33, 34, 35, 36, 37, 38, 39, 40, 41, 42, 43, 44, 45, 46, 47, 48, 49] (by decide +kernel) (by decide +kernel)
set_option maxRecDepth 20000 in
theorem gJx4a65c_add_72be8_Jx4a65c_grow_d5877 : GoodIn wsJx4a65c_add_72be8 (wsV RJx4a65c 129 RJx4a65c yJx4a65c_grow_d5877 wsJx4a65c_grow_d5877) := goodIn_app (goodIn_of _ (by decide +kernel)) ggJx4a65c_add_72be8_Jx4a65c_grow_d5877
set_option maxRecDepth 20000 in
theorem ggJx4a65c_add_9ea2d_Jx4a65c_add_72be8 : GoodIn wsJx4a65c_add_9ea2d wsJx4a65c_add_72be8 := goodIn_r _ [9, 4, 10, 11, 12, 8, 13, 14, 15, 16, 17, 3, 18, 19, 20, 21, 22, 23, 24, 25, 26, 27, 28, 29, 30, 31, 32, 33, 34, 35, 36, 37, 38, 39, 40, 41, 42, 43, 44, 45, 46, 47, 48, 49, 50, 51, 52, 53, 54, 55] (by decide +kernel) (by decide +kernel)
set_option maxRecDepth 20000 in
theorem gJx4a65c_add_9ea2d_Jx4a65c_add_72be8 : GoodIn wsJx4a65c_add_9ea2d (wsV RJx4a65c 131 RJx4a65c yJx4a65c_add_72be8 wsJx4a65c_add_72be8) := goodIn_app (goodIn_of _ (by decide +kernel)) ggJx4a65c_add_9ea2d_Jx4a65c_add_72be8
set_option maxRecDepth 20000 in
theorem ggJ15_checkIndex_7cf53_J3_checkIndex_8e157 : GoodIn wsJ15_checkIndex_7cf53 wsJ3_checkIndex_8e157 := goodIn_r _ [4] (by decide +kernel) (by decide +kernel)
set_option maxRecDepth 20000 in
theorem gJ15_checkIndex_7cf53_J3_checkIndex_8e157 : GoodIn wsJ15_checkIndex_7cf53 (va_wsS RJ15 105 yJ3_checkIndex_8e157 wsJ3_checkIndex_8e157) := goodIn_app (goodIn_of _ (by decide +kernel)) ggJ15_checkIndex_7cf53_J3_checkIndex_8e157
