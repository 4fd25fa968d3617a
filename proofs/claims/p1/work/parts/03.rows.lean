theorem dX15_isSort_0 : decode cX15_isSort 0 = .ok (.aload_n 0, 1) := by decide +kernel
theorem dX15_isSort_1 : decode cX15_isSort 1 = .ok (.getfield 14, 3) := by decide +kernel
theorem dX15_isSort_4 : decode cX15_isSort 4 = .ok (.ifCond .lt 7, 3) := by decide +kernel
theorem dX15_isSort_11 : decode cX15_isSort 11 = .ok (.iconst 0, 1) := by decide +kernel
theorem dX15_isSort_12 : decode cX15_isSort 12 = .ok (.ireturn, 1) := by decide +kernel
theorem dX15_depth_0 : decode cX15_depth 0 = .ok (.iconst 0, 1) := by decide +kernel
theorem dX15_depth_1 : decode cX15_depth 1 = .ok (.istore_n 1, 1) := by decide +kernel
theorem dX15_depth_2 : decode cX15_depth 2 = .ok (.aload_n 0, 1) := by decide +kernel
theorem dX15_depth_3 : decode cX15_depth 3 = .ok (.getfield 18, 3) := by decide +kernel
theorem dX15_depth_6 : decode cX15_depth 6 = .ok (.astore_n 2, 1) := by decide +kernel
theorem dX15_depth_7 : decode cX15_depth 7 = .ok (.aload_n 2, 1) := by decide +kernel
theorem dX15_depth_8 : decode cX15_depth 8 = .ok (.arraylength, 1) := by decide +kernel
theorem dX15_depth_9 : decode cX15_depth 9 = .ok (.istore_n 3, 1) := by decide +kernel
theorem dX15_depth_10 : decode cX15_depth 10 = .ok (.iconst 0, 1) := by decide +kernel
theorem dX15_depth_11 : decode cX15_depth 11 = .ok (.istore 4, 2) := by decide +kernel
theorem dX15_depth_13 : decode cX15_depth 13 = .ok (.iload 4, 2) := by decide +kernel
theorem dX15_depth_15 : decode cX15_depth 15 = .ok (.iload_n 3, 1) := by decide +kernel
theorem dX15_depth_16 : decode cX15_depth 16 = .ok (.if_icmp .ge 27, 3) := by decide +kernel
theorem dX15_depth_43 : decode cX15_depth 43 = .ok (.iload_n 1, 1) := by decide +kernel
theorem dX15_depth_44 : decode cX15_depth 44 = .ok (.ireturn, 1) := by decide +kernel
theorem dX15_isSame_0 : decode cX15_isSame 0 = .ok (.aload_n 0, 1) := by decide +kernel
theorem dX15_isSame_1 : decode cX15_isSame 1 = .ok (.getfield 14, 3) := by decide +kernel
theorem dX15_isSame_4 : decode cX15_isSame 4 = .ok (.aload_n 1, 1) := by decide +kernel
theorem dX15_isSame_5 : decode cX15_isSame 5 = .ok (.getfield 14, 3) := by decide +kernel
theorem dX15_isSame_8 : decode cX15_isSame 8 = .ok (.if_icmp .eq 5, 3) := by decide +kernel
theorem dX15_isSame_11 : decode cX15_isSame 11 = .ok (.iconst 0, 1) := by decide +kernel
theorem dX15_isSame_12 : decode cX15_isSame 12 = .ok (.ireturn, 1) := by decide +kernel
theorem dX15_isSame_13 : decode cX15_isSame 13 = .ok (.iconst 0, 1) := by decide +kernel
theorem dX15_isSame_14 : decode cX15_isSame 14 = .ok (.istore_n 2, 1) := by decide +kernel
theorem dX15_isSame_15 : decode cX15_isSame 15 = .ok (.iload_n 2, 1) := by decide +kernel
theorem dX15_isSame_16 : decode cX15_isSame 16 = .ok (.aload_n 0, 1) := by decide +kernel
theorem dX15_isSame_17 : decode cX15_isSame 17 = .ok (.getfield 18, 3) := by decide +kernel
theorem dX15_isSame_20 : decode cX15_isSame 20 = .ok (.arraylength, 1) := by decide +kernel
theorem dX15_isSame_21 : decode cX15_isSame 21 = .ok (.if_icmp .ge 29, 3) := by decide +kernel
theorem dX15_isSame_50 : decode cX15_isSame 50 = .ok (.iconst 1, 1) := by decide +kernel
theorem dX15_isSame_51 : decode cX15_isSame 51 = .ok (.ireturn, 1) := by decide +kernel
theorem dX15_has_0 : decode cX15_has 0 = .ok (.aload_n 0, 1) := by decide +kernel
theorem dX15_has_1 : decode cX15_has 1 = .ok (.getfield 14, 3) := by decide +kernel
theorem dX15_has_4 : decode cX15_has 4 = .ok (.iload_n 1, 1) := by decide +kernel
theorem dX15_has_5 : decode cX15_has 5 = .ok (.if_icmp .ne 5, 3) := by decide +kernel
theorem dX15_has_8 : decode cX15_has 8 = .ok (.iconst 1, 1) := by decide +kernel
theorem dX15_has_9 : decode cX15_has 9 = .ok (.ireturn, 1) := by decide +kernel
theorem dX15_has_10 : decode cX15_has 10 = .ok (.aload_n 0, 1) := by decide +kernel
theorem dX15_has_11 : decode cX15_has 11 = .ok (.getfield 18, 3) := by decide +kernel
theorem dX15_has_14 : decode cX15_has 14 = .ok (.astore_n 2, 1) := by decide +kernel
theorem dX15_has_15 : decode cX15_has 15 = .ok (.aload_n 2, 1) := by decide +kernel
theorem dX15_has_16 : decode cX15_has 16 = .ok (.arraylength, 1) := by decide +kernel
theorem dX15_has_17 : decode cX15_has 17 = .ok (.istore_n 3, 1) := by decide +kernel
theorem dX15_has_18 : decode cX15_has 18 = .ok (.iconst 0, 1) := by decide +kernel
theorem dX15_has_19 : decode cX15_has 19 = .ok (.istore 4, 2) := by decide +kernel
theorem dX15_has_21 : decode cX15_has 21 = .ok (.iload 4, 2) := by decide +kernel
theorem dX15_has_23 : decode cX15_has 23 = .ok (.iload_n 3, 1) := by decide +kernel
theorem dX15_has_24 : decode cX15_has 24 = .ok (.if_icmp .ge 26, 3) := by decide +kernel
theorem dX15_has_50 : decode cX15_has 50 = .ok (.iconst 0, 1) := by decide +kernel
theorem dX15_has_51 : decode cX15_has 51 = .ok (.ireturn, 1) := by decide +kernel
theorem dX15_isClosed_0 : decode cX15_isClosed 0 = .ok (.aload_n 0, 1) := by decide +kernel
theorem dX15_isClosed_1 : decode cX15_isClosed 1 = .ok (.bipush (-3), 2) := by decide +kernel
theorem dX15_isClosed_3 : decode cX15_isClosed 3 = .ok (.invokevirtual 36, 3) := by decide +kernel
theorem dX15_isClosed_6 : decode cX15_isClosed 6 = .ok (.ifCond .ne 25, 3) := by decide +kernel
theorem dX15_isClosed_9 : decode cX15_isClosed 9 = .ok (.aload_n 0, 1) := by decide +kernel
theorem dX15_isClosed_10 : decode cX15_isClosed 10 = .ok (.bipush (-4), 2) := by decide +kernel
theorem dX15_isClosed_12 : decode cX15_isClosed 12 = .ok (.invokevirtual 36, 3) := by decide +kernel
theorem dX15_isClosed_15 : decode cX15_isClosed 15 = .ok (.ifCond .ne 16, 3) := by decide +kernel
theorem dX15_isClosed_18 : decode cX15_isClosed 18 = .ok (.aload_n 0, 1) := by decide +kernel
theorem dX15_isClosed_19 : decode cX15_isClosed 19 = .ok (.bipush (-5), 2) := by decide +kernel
theorem dX15_isClosed_21 : decode cX15_isClosed 21 = .ok (.invokevirtual 36, 3) := by decide +kernel
theorem dX15_isClosed_24 : decode cX15_isClosed 24 = .ok (.ifCond .ne 7, 3) := by decide +kernel
theorem dX15_isClosed_27 : decode cX15_isClosed 27 = .ok (.iconst 1, 1) := by decide +kernel
theorem dX15_isClosed_28 : decode cX15_isClosed 28 = .ok (.goto 4, 3) := by decide +kernel
theorem dX15_isClosed_31 : decode cX15_isClosed 31 = .ok (.iconst 0, 1) := by decide +kernel
theorem dX15_isClosed_32 : decode cX15_isClosed 32 = .ok (.ireturn, 1) := by decide +kernel
theorem dX16_init_0 : decode cX16_init 0 = .ok (.aload_n 0, 1) := by decide +kernel
theorem dX16_init_1 : decode cX16_init 1 = .ok (.aload_n 1, 1) := by decide +kernel
theorem dX16_init_2 : decode cX16_init 2 = .ok (.putfield 3, 3) := by decide +kernel
theorem dX16_init_5 : decode cX16_init 5 = .ok (.aload_n 0, 1) := by decide +kernel
theorem dX16_init_6 : decode cX16_init 6 = .ok (.invokespecial 9, 3) := by decide +kernel
theorem dX16_init_9 : decode cX16_init 9 = .ok (.aload_n 0, 1) := by decide +kernel
theorem dX16_init_10 : decode cX16_init 10 = .ok (.iload_n 2, 1) := by decide +kernel
theorem dX16_init_11 : decode cX16_init 11 = .ok (.putfield 15, 3) := by decide +kernel
theorem dX16_init_14 : decode cX16_init 14 = .ok (.aload_n 0, 1) := by decide +kernel
theorem dX16_init_15 : decode cX16_init 15 = .ok (.iload_n 3, 1) := by decide +kernel
theorem dX16_init_16 : decode cX16_init 16 = .ok (.putfield 19, 3) := by decide +kernel
theorem dX16_init_19 : decode cX16_init 19 = .ok (.aload_n 0, 1) := by decide +kernel
theorem dX16_init_20 : decode cX16_init 20 = .ok (.iload 4, 2) := by decide +kernel
theorem dX16_init_22 : decode cX16_init 22 = .ok (.putfield 22, 3) := by decide +kernel
theorem dX16_init_25 : decode cX16_init 25 = .ok (.aload_n 0, 1) := by decide +kernel
theorem dX16_init_26 : decode cX16_init 26 = .ok (.iload 5, 2) := by decide +kernel
theorem dX16_init_28 : decode cX16_init 28 = .ok (.putfield 25, 3) := by decide +kernel
theorem dX16_init_31 : decode cX16_init 31 = .ok (.return_, 1) := by decide +kernel
theorem dX16_road_0 : decode cX16_road 0 = .ok (.new 33, 3) := by decide +kernel
theorem dX16_road_3 : decode cX16_road 3 = .ok (.dup, 1) := by decide +kernel
theorem dX16_road_4 : decode cX16_road 4 = .ok (.invokespecial 67, 3) := by decide +kernel
theorem dX16_road_7 : decode cX16_road 7 = .ok (.astore_n 2, 1) := by decide +kernel
theorem dX16_road_8 : decode cX16_road 8 = .ok (.aload_n 1, 1) := by decide +kernel
theorem dX16_road_9 : decode cX16_road 9 = .ok (.invokevirtual 68, 3) := by decide +kernel
theorem dX16_road_12 : decode cX16_road 12 = .ok (.ifCond .eq 10, 3) := by decide +kernel
theorem dX16_road_22 : decode cX16_road 22 = .ok (.aload_n 2, 1) := by decide +kernel
theorem dX16_road_23 : decode cX16_road 23 = .ok (.areturn, 1) := by decide +kernel
theorem dX16_isUnder_0 : decode cX16_isUnder 0 = .ok (.aload_n 1, 1) := by decide +kernel
theorem dX16_isUnder_1 : decode cX16_isUnder 1 = .ok (.getfield 49, 3) := by decide +kernel
theorem dX16_isUnder_4 : decode cX16_isUnder 4 = .ok (.bipush (-2), 2) := by decide +kernel
theorem dX16_isUnder_6 : decode cX16_isUnder 6 = .ok (.if_icmp .eq 19, 3) := by decide +kernel
theorem dX16_isUnder_9 : decode cX16_isUnder 9 = .ok (.aload_n 2, 1) := by decide +kernel
theorem dX16_isUnder_10 : decode cX16_isUnder 10 = .ok (.getfield 49, 3) := by decide +kernel
theorem dX16_isUnder_13 : decode cX16_isUnder 13 = .ok (.iconst (-1), 1) := by decide +kernel
theorem dX16_isUnder_14 : decode cX16_isUnder 14 = .ok (.if_icmp .eq 11, 3) := by decide +kernel
theorem dX16_isUnder_17 : decode cX16_isUnder 17 = .ok (.aload_n 1, 1) := by decide +kernel
theorem dX16_isUnder_18 : decode cX16_isUnder 18 = .ok (.aload_n 2, 1) := by decide +kernel
theorem dX16_isUnder_19 : decode cX16_isUnder 19 = .ok (.invokevirtual 76, 3) := by decide +kernel
theorem dX16_isUnder_22 : decode cX16_isUnder 22 = .ok (.ifCond .eq 5, 3) := by decide +kernel
theorem dX16_isUnder_25 : decode cX16_isUnder 25 = .ok (.iconst 1, 1) := by decide +kernel
theorem dX16_isUnder_26 : decode cX16_isUnder 26 = .ok (.ireturn, 1) := by decide +kernel
theorem dX16_isUnder_27 : decode cX16_isUnder 27 = .ok (.aload_n 2, 1) := by decide +kernel
theorem dX16_isUnder_28 : decode cX16_isUnder 28 = .ok (.invokevirtual 68, 3) := by decide +kernel
theorem dX16_isUnder_31 : decode cX16_isUnder 31 = .ok (.ifCond .eq 15, 3) := by decide +kernel
theorem dX16_isUnder_46 : decode cX16_isUnder 46 = .ok (.aconst_null, 1) := by decide +kernel
theorem dX16_isUnder_47 : decode cX16_isUnder 47 = .ok (.astore_n 3, 1) := by decide +kernel
theorem dX16_isUnder_48 : decode cX16_isUnder 48 = .ok (.aload_n 3, 1) := by decide +kernel
theorem dX16_isUnder_49 : decode cX16_isUnder 49 = .ok (.ifnonnull 5, 3) := by decide +kernel
theorem dX16_isUnder_52 : decode cX16_isUnder 52 = .ok (.iconst 0, 1) := by decide +kernel
theorem dX16_isUnder_53 : decode cX16_isUnder 53 = .ok (.ireturn, 1) := by decide +kernel
theorem dX16_join_0 : decode cX16_join 0 = .ok (.aload_n 0, 1) := by decide +kernel
theorem dX16_join_1 : decode cX16_join 1 = .ok (.aload_n 1, 1) := by decide +kernel
theorem dX16_join_2 : decode cX16_join 2 = .ok (.aload_n 2, 1) := by decide +kernel
theorem dX16_join_3 : decode cX16_join 3 = .ok (.invokevirtual 91, 3) := by decide +kernel
theorem dX16_join_6 : decode cX16_join 6 = .ok (.ifCond .eq 5, 3) := by decide +kernel
theorem dX16_join_9 : decode cX16_join 9 = .ok (.aload_n 2, 1) := by decide +kernel
theorem dX16_join_10 : decode cX16_join 10 = .ok (.areturn, 1) := by decide +kernel
theorem dX16_join_11 : decode cX16_join 11 = .ok (.aload_n 0, 1) := by decide +kernel
theorem dX16_join_12 : decode cX16_join 12 = .ok (.aload_n 2, 1) := by decide +kernel
theorem dX16_join_13 : decode cX16_join 13 = .ok (.aload_n 1, 1) := by decide +kernel
theorem dX16_join_14 : decode cX16_join 14 = .ok (.invokevirtual 91, 3) := by decide +kernel
theorem dX16_join_17 : decode cX16_join 17 = .ok (.ifCond .eq 5, 3) := by decide +kernel
theorem dX16_join_20 : decode cX16_join 20 = .ok (.aload_n 1, 1) := by decide +kernel
theorem dX16_join_21 : decode cX16_join 21 = .ok (.areturn, 1) := by decide +kernel
theorem dX16_words_0 : decode cX16_words 0 = .ok (.new 33, 3) := by decide +kernel
theorem dX16_words_3 : decode cX16_words 3 = .ok (.dup, 1) := by decide +kernel
theorem dX16_words_4 : decode cX16_words 4 = .ok (.invokespecial 67, 3) := by decide +kernel
theorem dX16_words_7 : decode cX16_words 7 = .ok (.astore_n 1, 1) := by decide +kernel
theorem dX16_words_8 : decode cX16_words 8 = .ok (.iconst 0, 1) := by decide +kernel
theorem dX16_words_9 : decode cX16_words 9 = .ok (.istore_n 2, 1) := by decide +kernel
theorem dX16_words_10 : decode cX16_words 10 = .ok (.iload_n 2, 1) := by decide +kernel
theorem dX16_words_11 : decode cX16_words 11 = .ok (.aload_n 0, 1) := by decide +kernel
theorem dX16_words_12 : decode cX16_words 12 = .ok (.getfield 3, 3) := by decide +kernel
theorem dX16_words_15 : decode cX16_words 15 = .ok (.getfield 208, 3) := by decide +kernel
theorem dX16_words_18 : decode cX16_words 18 = .ok (.invokevirtual 43, 3) := by decide +kernel
theorem dX16_words_21 : decode cX16_words 21 = .ok (.if_icmp .ge 33, 3) := by decide +kernel
theorem dX16_words_54 : decode cX16_words 54 = .ok (.aload_n 1, 1) := by decide +kernel
theorem dX16_words_55 : decode cX16_words 55 = .ok (.areturn, 1) := by decide +kernel
theorem dX16_faults_0 : decode cX16_faults 0 = .ok (.new 33, 3) := by decide +kernel
theorem dX16_faults_3 : decode cX16_faults 3 = .ok (.dup, 1) := by decide +kernel
theorem dX16_faults_4 : decode cX16_faults 4 = .ok (.invokespecial 67, 3) := by decide +kernel
theorem dX16_faults_7 : decode cX16_faults 7 = .ok (.astore_n 1, 1) := by decide +kernel
theorem dX16_faults_8 : decode cX16_faults 8 = .ok (.aload_n 0, 1) := by decide +kernel
theorem dX16_faults_9 : decode cX16_faults 9 = .ok (.invokevirtual 215, 3) := by decide +kernel
theorem dX16_faults_12 : decode cX16_faults 12 = .ok (.astore_n 2, 1) := by decide +kernel
theorem dX16_faults_13 : decode cX16_faults 13 = .ok (.iconst 0, 1) := by decide +kernel
theorem dX16_faults_14 : decode cX16_faults 14 = .ok (.istore_n 3, 1) := by decide +kernel
theorem dX16_faults_15 : decode cX16_faults 15 = .ok (.iload_n 3, 1) := by decide +kernel
theorem dX16_faults_16 : decode cX16_faults 16 = .ok (.aload_n 2, 1) := by decide +kernel
theorem dX16_faults_17 : decode cX16_faults 17 = .ok (.invokevirtual 43, 3) := by decide +kernel
theorem dX16_faults_20 : decode cX16_faults 20 = .ok (.if_icmp .ge 49, 3) := by decide +kernel
theorem dX16_faults_69 : decode cX16_faults 69 = .ok (.aload_n 1, 1) := by decide +kernel
theorem dX16_faults_70 : decode cX16_faults 70 = .ok (.areturn, 1) := by decide +kernel
theorem dX16_flaws_0 : decode cX16_flaws 0 = .ok (.new 33, 3) := by decide +kernel
theorem dX16_flaws_3 : decode cX16_flaws 3 = .ok (.dup, 1) := by decide +kernel
theorem dX16_flaws_4 : decode cX16_flaws 4 = .ok (.invokespecial 67, 3) := by decide +kernel
theorem dX16_flaws_7 : decode cX16_flaws 7 = .ok (.astore_n 1, 1) := by decide +kernel
theorem dX16_flaws_8 : decode cX16_flaws 8 = .ok (.iconst 0, 1) := by decide +kernel
theorem dX16_flaws_9 : decode cX16_flaws 9 = .ok (.istore_n 2, 1) := by decide +kernel
theorem dX16_flaws_10 : decode cX16_flaws 10 = .ok (.iload_n 2, 1) := by decide +kernel
theorem dX16_flaws_11 : decode cX16_flaws 11 = .ok (.aload_n 0, 1) := by decide +kernel
theorem dX16_flaws_12 : decode cX16_flaws 12 = .ok (.getfield 3, 3) := by decide +kernel
theorem dX16_flaws_15 : decode cX16_flaws 15 = .ok (.getfield 28, 3) := by decide +kernel
theorem dX16_flaws_18 : decode cX16_flaws 18 = .ok (.invokevirtual 43, 3) := by decide +kernel
theorem dX16_flaws_21 : decode cX16_flaws 21 = .ok (.if_icmp .ge 257, 3) := by decide +kernel
theorem dX16_flaws_278 : decode cX16_flaws 278 = .ok (.aload_n 1, 1) := by decide +kernel
theorem dX16_flaws_279 : decode cX16_flaws 279 = .ok (.areturn, 1) := by decide +kernel
theorem dX18_thrown_0 : decode cX18_thrown 0 = .ok (.aload_n 0, 1) := by decide +kernel
theorem dX18_thrown_1 : decode cX18_thrown 1 = .ok (.getfield 34, 3) := by decide +kernel
theorem dX18_thrown_4 : decode cX18_thrown 4 = .ok (.ireturn, 1) := by decide +kernel
theorem dX18_isIn_0 : decode cX18_isIn 0 = .ok (.iload_n 0, 1) := by decide +kernel
theorem dX18_isIn_1 : decode cX18_isIn 1 = .ok (.iload_n 1, 1) := by decide +kernel
theorem dX18_isIn_2 : decode cX18_isIn 2 = .ok (.if_icmp .lt 12, 3) := by decide +kernel
theorem dX18_isIn_5 : decode cX18_isIn 5 = .ok (.iload_n 0, 1) := by decide +kernel
theorem dX18_isIn_6 : decode cX18_isIn 6 = .ok (.iload_n 2, 1) := by decide +kernel
theorem dX18_isIn_7 : decode cX18_isIn 7 = .ok (.if_icmp .gt 7, 3) := by decide +kernel
theorem dX18_isIn_10 : decode cX18_isIn 10 = .ok (.iconst 1, 1) := by decide +kernel
theorem dX18_isIn_11 : decode cX18_isIn 11 = .ok (.goto 4, 3) := by decide +kernel
theorem dX18_isIn_14 : decode cX18_isIn 14 = .ok (.iconst 0, 1) := by decide +kernel
theorem dX18_isIn_15 : decode cX18_isIn 15 = .ok (.ireturn, 1) := by decide +kernel
theorem dX18_refuse_0 : decode cX18_refuse 0 = .ok (.iload_n 1, 1) := by decide +kernel
theorem dX18_refuse_1 : decode cX18_refuse 1 = .ok (.ifCond .eq 15, 3) := by decide +kernel
theorem dX18_refuse_4 : decode cX18_refuse 4 = .ok (.aload_n 0, 1) := by decide +kernel
theorem dX18_refuse_5 : decode cX18_refuse 5 = .ok (.getfield 34, 3) := by decide +kernel
theorem dX18_refuse_8 : decode cX18_refuse 8 = .ok (.ifCond .ne 8, 3) := by decide +kernel
theorem dX18_refuse_11 : decode cX18_refuse 11 = .ok (.aload_n 0, 1) := by decide +kernel
theorem dX18_refuse_12 : decode cX18_refuse 12 = .ok (.iload_n 2, 1) := by decide +kernel
theorem dX18_refuse_13 : decode cX18_refuse 13 = .ok (.putfield 34, 3) := by decide +kernel
theorem dX18_refuse_16 : decode cX18_refuse 16 = .ok (.aload_n 0, 1) := by decide +kernel
theorem dX18_refuse_17 : decode cX18_refuse 17 = .ok (.getfield 34, 3) := by decide +kernel
theorem dX18_refuse_20 : decode cX18_refuse 20 = .ok (.ifCond .le 7, 3) := by decide +kernel
theorem dX18_refuse_23 : decode cX18_refuse 23 = .ok (.iconst 1, 1) := by decide +kernel
theorem dX18_refuse_24 : decode cX18_refuse 24 = .ok (.goto 4, 3) := by decide +kernel
theorem dX18_refuse_27 : decode cX18_refuse 27 = .ok (.iconst 0, 1) := by decide +kernel
theorem dX18_refuse_28 : decode cX18_refuse 28 = .ok (.ireturn, 1) := by decide +kernel
theorem dX18_start_0 : decode cX18_start 0 = .ok (.aload_n 0, 1) := by decide +kernel
theorem dX18_start_1 : decode cX18_start 1 = .ok (.iconst 0, 1) := by decide +kernel
theorem dX18_start_2 : decode cX18_start 2 = .ok (.putfield 34, 3) := by decide +kernel
theorem dX18_start_5 : decode cX18_start 5 = .ok (.aload_n 0, 1) := by decide +kernel
theorem dX18_start_6 : decode cX18_start 6 = .ok (.iload_n 1, 1) := by decide +kernel
theorem dX18_start_7 : decode cX18_start 7 = .ok (.iload_n 2, 1) := by decide +kernel
theorem dX18_start_8 : decode cX18_start 8 = .ok (.invokevirtual 38, 3) := by decide +kernel
theorem dX18_start_11 : decode cX18_start 11 = .ok (.ireturn, 1) := by decide +kernel
theorem dX18_plain_0 : decode cX18_plain 0 = .ok (.aload_n 0, 1) := by decide +kernel
theorem dX18_plain_1 : decode cX18_plain 1 = .ok (.iconst 0, 1) := by decide +kernel
theorem dX18_plain_2 : decode cX18_plain 2 = .ok (.putfield 34, 3) := by decide +kernel
theorem dX18_plain_5 : decode cX18_plain 5 = .ok (.iload_n 1, 1) := by decide +kernel
theorem dX18_plain_6 : decode cX18_plain 6 = .ok (.ireturn, 1) := by decide +kernel
theorem dX18_view_0 : decode cX18_view 0 = .ok (.new 42, 3) := by decide +kernel
theorem dX18_view_3 : decode cX18_view 3 = .ok (.dup, 1) := by decide +kernel
theorem dX18_view_4 : decode cX18_view 4 = .ok (.aload_n 0, 1) := by decide +kernel
theorem dX18_view_5 : decode cX18_view 5 = .ok (.iconst (-1), 1) := by decide +kernel
theorem dX18_view_6 : decode cX18_view 6 = .ok (.iconst (-1), 1) := by decide +kernel
theorem dX18_view_7 : decode cX18_view 7 = .ok (.iconst (-1), 1) := by decide +kernel
theorem dX18_view_8 : decode cX18_view 8 = .ok (.iconst (-1), 1) := by decide +kernel
theorem dX18_view_9 : decode cX18_view 9 = .ok (.invokespecial 44, 3) := by decide +kernel
theorem dX18_view_12 : decode cX18_view 12 = .ok (.areturn, 1) := by decide +kernel
theorem dX18_isNoSort_0 : decode cX18_isNoSort 0 = .ok (.iload_n 1, 1) := by decide +kernel
theorem dX18_isNoSort_1 : decode cX18_isNoSort 1 = .ok (.iconst 0, 1) := by decide +kernel
theorem dX18_isNoSort_2 : decode cX18_isNoSort 2 = .ok (.aload_n 0, 1) := by decide +kernel
theorem dX18_isNoSort_3 : decode cX18_isNoSort 3 = .ok (.getfield 10, 3) := by decide +kernel
theorem dX18_isNoSort_6 : decode cX18_isNoSort 6 = .ok (.invokevirtual 47, 3) := by decide +kernel
theorem dX18_isNoSort_9 : decode cX18_isNoSort 9 = .ok (.iconst 1, 1) := by decide +kernel
theorem dX18_isNoSort_10 : decode cX18_isNoSort 10 = .ok (.isub, 1) := by decide +kernel
theorem dX18_isNoSort_11 : decode cX18_isNoSort 11 = .ok (.invokestatic 51, 3) := by decide +kernel
theorem dX18_isNoSort_14 : decode cX18_isNoSort 14 = .ok (.ifCond .ne 7, 3) := by decide +kernel
theorem dX18_isNoSort_17 : decode cX18_isNoSort 17 = .ok (.iconst 1, 1) := by decide +kernel
theorem dX18_isNoSort_18 : decode cX18_isNoSort 18 = .ok (.goto 4, 3) := by decide +kernel
theorem dX18_isNoSort_22 : decode cX18_isNoSort 22 = .ok (.ireturn, 1) := by decide +kernel
theorem dX18_isNoType_0 : decode cX18_isNoType 0 = .ok (.iload_n 1, 1) := by decide +kernel
theorem dX18_isNoType_1 : decode cX18_isNoType 1 = .ok (.iconst 0, 1) := by decide +kernel
theorem dX18_isNoType_2 : decode cX18_isNoType 2 = .ok (.aload_n 0, 1) := by decide +kernel
theorem dX18_isNoType_3 : decode cX18_isNoType 3 = .ok (.getfield 16, 3) := by decide +kernel
theorem dX18_isNoType_6 : decode cX18_isNoType 6 = .ok (.invokevirtual 47, 3) := by decide +kernel
theorem dX18_isNoType_9 : decode cX18_isNoType 9 = .ok (.iconst 1, 1) := by decide +kernel
theorem dX18_isNoType_10 : decode cX18_isNoType 10 = .ok (.isub, 1) := by decide +kernel
theorem dX18_isNoType_11 : decode cX18_isNoType 11 = .ok (.invokestatic 51, 3) := by decide +kernel
theorem dX18_isNoType_14 : decode cX18_isNoType 14 = .ok (.ifCond .ne 7, 3) := by decide +kernel
theorem dX18_isNoType_17 : decode cX18_isNoType 17 = .ok (.iconst 1, 1) := by decide +kernel
theorem dX18_isNoType_18 : decode cX18_isNoType 18 = .ok (.goto 4, 3) := by decide +kernel
theorem dX18_isNoType_21 : decode cX18_isNoType 21 = .ok (.iconst 0, 1) := by decide +kernel
theorem dX18_isNoType_22 : decode cX18_isNoType 22 = .ok (.ireturn, 1) := by decide +kernel
theorem dX18_isNoTypeOrNone_0 : decode cX18_isNoTypeOrNone 0 = .ok (.iload_n 1, 1) := by decide +kernel
theorem dX18_isNoTypeOrNone_1 : decode cX18_isNoTypeOrNone 1 = .ok (.iconst (-1), 1) := by decide +kernel
theorem dX18_isNoTypeOrNone_2 : decode cX18_isNoTypeOrNone 2 = .ok (.if_icmp .eq 15, 3) := by decide +kernel
theorem dX18_isNoTypeOrNone_5 : decode cX18_isNoTypeOrNone 5 = .ok (.aload_n 0, 1) := by decide +kernel
theorem dX18_isNoTypeOrNone_6 : decode cX18_isNoTypeOrNone 6 = .ok (.iload_n 1, 1) := by decide +kernel
theorem dX18_isNoTypeOrNone_7 : decode cX18_isNoTypeOrNone 7 = .ok (.invokevirtual 55, 3) := by decide +kernel
theorem dX18_isNoTypeOrNone_10 : decode cX18_isNoTypeOrNone 10 = .ok (.ifCond .eq 7, 3) := by decide +kernel
theorem dX18_isNoTypeOrNone_13 : decode cX18_isNoTypeOrNone 13 = .ok (.iconst 1, 1) := by decide +kernel
theorem dX18_isNoTypeOrNone_14 : decode cX18_isNoTypeOrNone 14 = .ok (.goto 4, 3) := by decide +kernel
theorem dX18_isNoTypeOrNone_17 : decode cX18_isNoTypeOrNone 17 = .ok (.iconst 0, 1) := by decide +kernel
theorem dX18_isNoTypeOrNone_18 : decode cX18_isNoTypeOrNone 18 = .ok (.ireturn, 1) := by decide +kernel
theorem dX18_isNoExpression_0 : decode cX18_isNoExpression 0 = .ok (.iload_n 1, 1) := by decide +kernel
theorem dX18_isNoExpression_1 : decode cX18_isNoExpression 1 = .ok (.iconst 0, 1) := by decide +kernel
theorem dX18_isNoExpression_2 : decode cX18_isNoExpression 2 = .ok (.aload_n 0, 1) := by decide +kernel
theorem dX18_isNoExpression_3 : decode cX18_isNoExpression 3 = .ok (.getfield 22, 3) := by decide +kernel
theorem dX18_isNoExpression_6 : decode cX18_isNoExpression 6 = .ok (.invokevirtual 47, 3) := by decide +kernel
theorem dX18_isNoExpression_9 : decode cX18_isNoExpression 9 = .ok (.iconst 1, 1) := by decide +kernel
theorem dX18_isNoExpression_10 : decode cX18_isNoExpression 10 = .ok (.isub, 1) := by decide +kernel
theorem dX18_isNoExpression_11 : decode cX18_isNoExpression 11 = .ok (.invokestatic 51, 3) := by decide +kernel
theorem dX18_isNoExpression_14 : decode cX18_isNoExpression 14 = .ok (.ifCond .ne 7, 3) := by decide +kernel
theorem dX18_isNoExpression_17 : decode cX18_isNoExpression 17 = .ok (.iconst 1, 1) := by decide +kernel
theorem dX18_isNoExpression_18 : decode cX18_isNoExpression 18 = .ok (.goto 4, 3) := by decide +kernel
theorem dX18_isNoExpression_22 : decode cX18_isNoExpression 22 = .ok (.ireturn, 1) := by decide +kernel
theorem dX18_type_0 : decode cX18_type 0 = .ok (.aload_n 0, 1) := by decide +kernel
theorem dX18_type_1 : decode cX18_type 1 = .ok (.getfield 16, 3) := by decide +kernel
theorem dX18_type_4 : decode cX18_type 4 = .ok (.iload_n 1, 1) := by decide +kernel
theorem dX18_type_5 : decode cX18_type 5 = .ok (.invokevirtual 59, 3) := by decide +kernel
theorem dX18_type_8 : decode cX18_type 8 = .ok (.checkcast 25, 3) := by decide +kernel
theorem dX18_type_11 : decode cX18_type 11 = .ok (.areturn, 1) := by decide +kernel
theorem dX18_parent_0 : decode cX18_parent 0 = .ok (.aload_n 0, 1) := by decide +kernel
theorem dX18_parent_1 : decode cX18_parent 1 = .ok (.aload_n 0, 1) := by decide +kernel
theorem dX18_parent_2 : decode cX18_parent 2 = .ok (.iload_n 1, 1) := by decide +kernel
theorem dX18_parent_3 : decode cX18_parent 3 = .ok (.invokevirtual 84, 3) := by decide +kernel
theorem dX18_parent_6 : decode cX18_parent 6 = .ok (.ifCond .ne 11, 3) := by decide +kernel
theorem dX18_parent_17 : decode cX18_parent 17 = .ok (.iconst 1, 1) := by decide +kernel
theorem dX18_parent_18 : decode cX18_parent 18 = .ok (.goto 4, 3) := by decide +kernel
theorem dX18_parent_22 : decode cX18_parent 22 = .ok (.iconst 1, 1) := by decide +kernel
theorem dX18_parent_23 : decode cX18_parent 23 = .ok (.invokevirtual 63, 3) := by decide +kernel
theorem dX18_parent_26 : decode cX18_parent 26 = .ok (.ifCond .eq 5, 3) := by decide +kernel
theorem dX18_parent_29 : decode cX18_parent 29 = .ok (.iconst 0, 1) := by decide +kernel
theorem dX18_parent_30 : decode cX18_parent 30 = .ok (.ireturn, 1) := by decide +kernel
theorem dX18_type__0 : decode cX18_type_ 0 = .ok (.aload_n 0, 1) := by decide +kernel
theorem dX18_type__1 : decode cX18_type_ 1 = .ok (.aload_n 0, 1) := by decide +kernel
theorem dX18_type__2 : decode cX18_type_ 2 = .ok (.iload_n 1, 1) := by decide +kernel
theorem dX18_type__3 : decode cX18_type_ 3 = .ok (.invokevirtual 84, 3) := by decide +kernel
theorem dX18_type__6 : decode cX18_type_ 6 = .ok (.ifCond .ne 19, 3) := by decide +kernel
theorem dX18_type__25 : decode cX18_type_ 25 = .ok (.iconst 1, 1) := by decide +kernel
theorem dX18_type__26 : decode cX18_type_ 26 = .ok (.goto 4, 3) := by decide +kernel
theorem dX18_type__30 : decode cX18_type_ 30 = .ok (.iconst 1, 1) := by decide +kernel
theorem dX18_type__31 : decode cX18_type_ 31 = .ok (.invokevirtual 63, 3) := by decide +kernel
theorem dX18_type__34 : decode cX18_type_ 34 = .ok (.ifCond .eq 5, 3) := by decide +kernel
theorem dX18_type__37 : decode cX18_type_ 37 = .ok (.iconst 0, 1) := by decide +kernel
theorem dX18_type__38 : decode cX18_type_ 38 = .ok (.ireturn, 1) := by decide +kernel
theorem dX18_method_0 : decode cX18_method 0 = .ok (.aload_n 0, 1) := by decide +kernel
theorem dX18_method_1 : decode cX18_method 1 = .ok (.aload_n 0, 1) := by decide +kernel
theorem dX18_method_2 : decode cX18_method 2 = .ok (.iload_n 1, 1) := by decide +kernel
theorem dX18_method_3 : decode cX18_method 3 = .ok (.invokevirtual 84, 3) := by decide +kernel
theorem dX18_method_6 : decode cX18_method 6 = .ok (.ifCond .ne 29, 3) := by decide +kernel
theorem dX18_method_35 : decode cX18_method 35 = .ok (.iconst 1, 1) := by decide +kernel
theorem dX18_method_36 : decode cX18_method 36 = .ok (.goto 4, 3) := by decide +kernel
theorem dX18_method_40 : decode cX18_method 40 = .ok (.iconst 1, 1) := by decide +kernel
theorem dX18_method_41 : decode cX18_method 41 = .ok (.invokevirtual 63, 3) := by decide +kernel
theorem dX18_method_44 : decode cX18_method 44 = .ok (.ifCond .ne 37, 3) := by decide +kernel
theorem dX18_method_81 : decode cX18_method 81 = .ok (.iconst 0, 1) := by decide +kernel
theorem dX18_method_82 : decode cX18_method 82 = .ok (.ireturn, 1) := by decide +kernel
theorem dX18_either_0 : decode cX18_either 0 = .ok (.aload_n 0, 1) := by decide +kernel
theorem dX18_either_1 : decode cX18_either 1 = .ok (.aload_n 0, 1) := by decide +kernel
theorem dX18_either_2 : decode cX18_either 2 = .ok (.iload_n 1, 1) := by decide +kernel
theorem dX18_either_3 : decode cX18_either 3 = .ok (.invokevirtual 137, 3) := by decide +kernel
theorem dX18_either_6 : decode cX18_either 6 = .ok (.ifCond .ne 11, 3) := by decide +kernel
theorem dX18_either_17 : decode cX18_either 17 = .ok (.iconst 1, 1) := by decide +kernel
theorem dX18_either_18 : decode cX18_either 18 = .ok (.goto 4, 3) := by decide +kernel
theorem dX18_either_22 : decode cX18_either 22 = .ok (.iconst 1, 1) := by decide +kernel
theorem dX18_either_23 : decode cX18_either 23 = .ok (.invokevirtual 63, 3) := by decide +kernel
theorem dX18_either_26 : decode cX18_either 26 = .ok (.ifCond .eq 7, 3) := by decide +kernel
theorem dX18_either_29 : decode cX18_either 29 = .ok (.iconst 0, 1) := by decide +kernel
theorem dX18_either_30 : decode cX18_either 30 = .ok (.goto 19, 3) := by decide +kernel
theorem dX18_either_49 : decode cX18_either 49 = .ok (.ireturn, 1) := by decide +kernel
theorem dX18_as_0 : decode cX18_as 0 = .ok (.aload_n 0, 1) := by decide +kernel
theorem dX18_as_1 : decode cX18_as 1 = .ok (.aload_n 0, 1) := by decide +kernel
theorem dX18_as_2 : decode cX18_as 2 = .ok (.iload_n 1, 1) := by decide +kernel
theorem dX18_as_3 : decode cX18_as 3 = .ok (.invokevirtual 137, 3) := by decide +kernel
theorem dX18_as_6 : decode cX18_as 6 = .ok (.ifCond .ne 11, 3) := by decide +kernel
theorem dX18_as_17 : decode cX18_as 17 = .ok (.iconst 1, 1) := by decide +kernel
theorem dX18_as_18 : decode cX18_as 18 = .ok (.goto 4, 3) := by decide +kernel
theorem dX18_as_22 : decode cX18_as 22 = .ok (.iconst 1, 1) := by decide +kernel
theorem dX18_as_23 : decode cX18_as 23 = .ok (.invokevirtual 63, 3) := by decide +kernel
theorem dX18_as_26 : decode cX18_as 26 = .ok (.ifCond .ne 27, 3) := by decide +kernel
theorem dX18_as_53 : decode cX18_as 53 = .ok (.iconst 0, 1) := by decide +kernel
theorem dX18_as_54 : decode cX18_as 54 = .ok (.goto 19, 3) := by decide +kernel
theorem dX18_as_73 : decode cX18_as 73 = .ok (.ireturn, 1) := by decide +kernel
theorem dX18_call_0 : decode cX18_call 0 = .ok (.aload_n 0, 1) := by decide +kernel
theorem dX18_call_1 : decode cX18_call 1 = .ok (.aload_n 0, 1) := by decide +kernel
theorem dX18_call_2 : decode cX18_call 2 = .ok (.iload_n 1, 1) := by decide +kernel
theorem dX18_call_3 : decode cX18_call 3 = .ok (.invokevirtual 137, 3) := by decide +kernel
theorem dX18_call_6 : decode cX18_call 6 = .ok (.ifCond .ne 31, 3) := by decide +kernel
theorem dX18_call_37 : decode cX18_call 37 = .ok (.iconst 1, 1) := by decide +kernel
theorem dX18_call_38 : decode cX18_call 38 = .ok (.goto 4, 3) := by decide +kernel
theorem dX18_call_42 : decode cX18_call 42 = .ok (.iconst 1, 1) := by decide +kernel
theorem dX18_call_43 : decode cX18_call 43 = .ok (.invokevirtual 63, 3) := by decide +kernel
theorem dX18_call_46 : decode cX18_call 46 = .ok (.ifCond .ne 37, 3) := by decide +kernel
theorem dX18_call_83 : decode cX18_call 83 = .ok (.iconst 0, 1) := by decide +kernel
theorem dX18_call_84 : decode cX18_call 84 = .ok (.ireturn, 1) := by decide +kernel
theorem dX18_count_0 : decode cX18_count 0 = .ok (.iload_n 1, 1) := by decide +kernel
theorem dX18_count_1 : decode cX18_count 1 = .ok (.ifCond .ne 13, 3) := by decide +kernel
theorem dX18_count_4 : decode cX18_count 4 = .ok (.aload_n 0, 1) := by decide +kernel
theorem dX18_count_5 : decode cX18_count 5 = .ok (.getfield 10, 3) := by decide +kernel
theorem dX18_count_8 : decode cX18_count 8 = .ok (.invokevirtual 47, 3) := by decide +kernel
theorem dX18_count_11 : decode cX18_count 11 = .ok (.goto 40, 3) := by decide +kernel
theorem dX18_count_14 : decode cX18_count 14 = .ok (.iload_n 1, 1) := by decide +kernel
theorem dX18_count_15 : decode cX18_count 15 = .ok (.iconst 1, 1) := by decide +kernel
theorem dX18_count_16 : decode cX18_count 16 = .ok (.if_icmp .ne 13, 3) := by decide +kernel
theorem dX18_count_19 : decode cX18_count 19 = .ok (.aload_n 0, 1) := by decide +kernel
theorem dX18_count_20 : decode cX18_count 20 = .ok (.getfield 16, 3) := by decide +kernel
theorem dX18_count_23 : decode cX18_count 23 = .ok (.invokevirtual 47, 3) := by decide +kernel
theorem dX18_count_26 : decode cX18_count 26 = .ok (.goto 25, 3) := by decide +kernel
theorem dX18_count_29 : decode cX18_count 29 = .ok (.iload_n 1, 1) := by decide +kernel
theorem dX18_count_30 : decode cX18_count 30 = .ok (.iconst 2, 1) := by decide +kernel
theorem dX18_count_31 : decode cX18_count 31 = .ok (.if_icmp .ne 13, 3) := by decide +kernel
theorem dX18_count_34 : decode cX18_count 34 = .ok (.aload_n 0, 1) := by decide +kernel
theorem dX18_count_35 : decode cX18_count 35 = .ok (.getfield 19, 3) := by decide +kernel
theorem dX18_count_38 : decode cX18_count 38 = .ok (.invokevirtual 47, 3) := by decide +kernel
theorem dX18_count_41 : decode cX18_count 41 = .ok (.goto 10, 3) := by decide +kernel
theorem dX18_count_44 : decode cX18_count 44 = .ok (.aload_n 0, 1) := by decide +kernel
theorem dX18_count_45 : decode cX18_count 45 = .ok (.getfield 22, 3) := by decide +kernel
theorem dX18_count_48 : decode cX18_count 48 = .ok (.invokevirtual 47, 3) := by decide +kernel
theorem dX18_count_51 : decode cX18_count 51 = .ok (.ireturn, 1) := by decide +kernel
theorem dX18_many_0 : decode cX18_many 0 = .ok (.aload_n 0, 1) := by decide +kernel
theorem dX18_many_1 : decode cX18_many 1 = .ok (.iload_n 1, 1) := by decide +kernel
theorem dX18_many_2 : decode cX18_many 2 = .ok (.iconst 0, 1) := by decide +kernel
theorem dX18_many_3 : decode cX18_many 3 = .ok (.iconst 3, 1) := by decide +kernel
theorem dX18_many_4 : decode cX18_many 4 = .ok (.invokestatic 51, 3) := by decide +kernel
theorem dX18_many_7 : decode cX18_many 7 = .ok (.ifCond .ne 7, 3) := by decide +kernel
theorem dX18_many_10 : decode cX18_many 10 = .ok (.iconst 1, 1) := by decide +kernel
theorem dX18_many_11 : decode cX18_many 11 = .ok (.goto 4, 3) := by decide +kernel
theorem dX18_many_14 : decode cX18_many 14 = .ok (.iconst 0, 1) := by decide +kernel
theorem dX18_many_15 : decode cX18_many 15 = .ok (.iconst 1, 1) := by decide +kernel
theorem dX18_many_16 : decode cX18_many 16 = .ok (.invokevirtual 63, 3) := by decide +kernel
theorem dX18_many_19 : decode cX18_many 19 = .ok (.ifCond .eq 7, 3) := by decide +kernel
theorem dX18_many_22 : decode cX18_many 22 = .ok (.iconst 0, 1) := by decide +kernel
theorem dX18_many_23 : decode cX18_many 23 = .ok (.goto 8, 3) := by decide +kernel
theorem dX18_many_26 : decode cX18_many 26 = .ok (.aload_n 0, 1) := by decide +kernel
theorem dX18_many_27 : decode cX18_many 27 = .ok (.iload_n 1, 1) := by decide +kernel
theorem dX18_many_28 : decode cX18_many 28 = .ok (.invokevirtual 140, 3) := by decide +kernel
theorem dX18_many_31 : decode cX18_many 31 = .ok (.ireturn, 1) := by decide +kernel
theorem dX18_number_0 : decode cX18_number 0 = .ok (.aload_n 0, 1) := by decide +kernel
theorem dX18_number_1 : decode cX18_number 1 = .ok (.ifnonnull 6, 3) := by decide +kernel
theorem dX18_number_4 : decode cX18_number 4 = .ok (.bipush (-9), 2) := by decide +kernel
theorem dX18_number_6 : decode cX18_number 6 = .ok (.ireturn, 1) := by decide +kernel
theorem dX18_depth_0 : decode cX18_depth 0 = .ok (.aload_n 0, 1) := by decide +kernel
theorem dX18_depth_1 : decode cX18_depth 1 = .ok (.aload_n 0, 1) := by decide +kernel
theorem dX18_depth_2 : decode cX18_depth 2 = .ok (.iload_n 1, 1) := by decide +kernel
theorem dX18_depth_3 : decode cX18_depth 3 = .ok (.invokevirtual 55, 3) := by decide +kernel
theorem dX18_depth_6 : decode cX18_depth 6 = .ok (.iconst 1, 1) := by decide +kernel
theorem dX18_depth_7 : decode cX18_depth 7 = .ok (.invokevirtual 63, 3) := by decide +kernel
theorem dX18_depth_10 : decode cX18_depth 10 = .ok (.ifCond .eq 7, 3) := by decide +kernel
theorem dX18_depth_13 : decode cX18_depth 13 = .ok (.iconst 0, 1) := by decide +kernel
theorem dX18_depth_14 : decode cX18_depth 14 = .ok (.goto 11, 3) := by decide +kernel
theorem dX18_depth_17 : decode cX18_depth 17 = .ok (.aload_n 0, 1) := by decide +kernel
theorem dX18_depth_18 : decode cX18_depth 18 = .ok (.iload_n 1, 1) := by decide +kernel
theorem dX18_depth_19 : decode cX18_depth 19 = .ok (.invokevirtual 87, 3) := by decide +kernel
theorem dX18_depth_22 : decode cX18_depth 22 = .ok (.invokevirtual 111, 3) := by decide +kernel
theorem dX18_depth_25 : decode cX18_depth 25 = .ok (.ireturn, 1) := by decide +kernel
theorem dX18_isSame_0 : decode cX18_isSame 0 = .ok (.aload_n 0, 1) := by decide +kernel
theorem dX18_isSame_1 : decode cX18_isSame 1 = .ok (.aload_n 0, 1) := by decide +kernel
theorem dX18_isSame_2 : decode cX18_isSame 2 = .ok (.iload_n 1, 1) := by decide +kernel
theorem dX18_isSame_3 : decode cX18_isSame 3 = .ok (.invokevirtual 55, 3) := by decide +kernel
theorem dX18_isSame_6 : decode cX18_isSame 6 = .ok (.ifCond .ne 11, 3) := by decide +kernel
theorem dX18_isSame_9 : decode cX18_isSame 9 = .ok (.aload_n 0, 1) := by decide +kernel
theorem dX18_isSame_10 : decode cX18_isSame 10 = .ok (.iload_n 2, 1) := by decide +kernel
theorem dX18_isSame_11 : decode cX18_isSame 11 = .ok (.invokevirtual 55, 3) := by decide +kernel
theorem dX18_isSame_14 : decode cX18_isSame 14 = .ok (.ifCond .eq 7, 3) := by decide +kernel
theorem dX18_isSame_17 : decode cX18_isSame 17 = .ok (.iconst 1, 1) := by decide +kernel
theorem dX18_isSame_18 : decode cX18_isSame 18 = .ok (.goto 4, 3) := by decide +kernel
theorem dX18_isSame_21 : decode cX18_isSame 21 = .ok (.iconst 0, 1) := by decide +kernel
theorem dX18_isSame_22 : decode cX18_isSame 22 = .ok (.iconst 1, 1) := by decide +kernel
theorem dX18_isSame_23 : decode cX18_isSame 23 = .ok (.invokevirtual 63, 3) := by decide +kernel
theorem dX18_isSame_26 : decode cX18_isSame 26 = .ok (.ifCond .ne 23, 3) := by decide +kernel
theorem dX18_isSame_29 : decode cX18_isSame 29 = .ok (.aload_n 0, 1) := by decide +kernel
theorem dX18_isSame_30 : decode cX18_isSame 30 = .ok (.iload_n 1, 1) := by decide +kernel
theorem dX18_isSame_31 : decode cX18_isSame 31 = .ok (.invokevirtual 87, 3) := by decide +kernel
theorem dX18_isSame_34 : decode cX18_isSame 34 = .ok (.aload_n 0, 1) := by decide +kernel
theorem dX18_isSame_35 : decode cX18_isSame 35 = .ok (.iload_n 2, 1) := by decide +kernel
theorem dX18_isSame_36 : decode cX18_isSame 36 = .ok (.invokevirtual 87, 3) := by decide +kernel
theorem dX18_isSame_39 : decode cX18_isSame 39 = .ok (.invokevirtual 153, 3) := by decide +kernel
theorem dX18_isSame_42 : decode cX18_isSame 42 = .ok (.ifCond .eq 7, 3) := by decide +kernel
theorem dX18_isSame_45 : decode cX18_isSame 45 = .ok (.iconst 1, 1) := by decide +kernel
theorem dX18_isSame_46 : decode cX18_isSame 46 = .ok (.goto 4, 3) := by decide +kernel
theorem dX18_isSame_49 : decode cX18_isSame 49 = .ok (.iconst 0, 1) := by decide +kernel
theorem dX18_isSame_50 : decode cX18_isSame 50 = .ok (.ireturn, 1) := by decide +kernel
theorem dX18_isUnder_0 : decode cX18_isUnder 0 = .ok (.aload_n 0, 1) := by decide +kernel
theorem dX18_isUnder_1 : decode cX18_isUnder 1 = .ok (.aload_n 0, 1) := by decide +kernel
theorem dX18_isUnder_2 : decode cX18_isUnder 2 = .ok (.iload_n 1, 1) := by decide +kernel
theorem dX18_isUnder_3 : decode cX18_isUnder 3 = .ok (.invokevirtual 55, 3) := by decide +kernel
theorem dX18_isUnder_6 : decode cX18_isUnder 6 = .ok (.ifCond .ne 11, 3) := by decide +kernel
theorem dX18_isUnder_9 : decode cX18_isUnder 9 = .ok (.aload_n 0, 1) := by decide +kernel
theorem dX18_isUnder_10 : decode cX18_isUnder 10 = .ok (.iload_n 2, 1) := by decide +kernel
theorem dX18_isUnder_11 : decode cX18_isUnder 11 = .ok (.invokevirtual 55, 3) := by decide +kernel
theorem dX18_isUnder_14 : decode cX18_isUnder 14 = .ok (.ifCond .eq 7, 3) := by decide +kernel
theorem dX18_isUnder_17 : decode cX18_isUnder 17 = .ok (.iconst 1, 1) := by decide +kernel
theorem dX18_isUnder_18 : decode cX18_isUnder 18 = .ok (.goto 4, 3) := by decide +kernel
theorem dX18_isUnder_21 : decode cX18_isUnder 21 = .ok (.iconst 0, 1) := by decide +kernel
theorem dX18_isUnder_22 : decode cX18_isUnder 22 = .ok (.iconst 1, 1) := by decide +kernel
theorem dX18_isUnder_23 : decode cX18_isUnder 23 = .ok (.invokevirtual 63, 3) := by decide +kernel
theorem dX18_isUnder_26 : decode cX18_isUnder 26 = .ok (.ifCond .ne 27, 3) := by decide +kernel
theorem dX18_isUnder_29 : decode cX18_isUnder 29 = .ok (.aload_n 0, 1) := by decide +kernel
theorem dX18_isUnder_30 : decode cX18_isUnder 30 = .ok (.invokevirtual 157, 3) := by decide +kernel
theorem dX18_isUnder_33 : decode cX18_isUnder 33 = .ok (.aload_n 0, 1) := by decide +kernel
theorem dX18_isUnder_34 : decode cX18_isUnder 34 = .ok (.iload_n 1, 1) := by decide +kernel
theorem dX18_isUnder_35 : decode cX18_isUnder 35 = .ok (.invokevirtual 87, 3) := by decide +kernel
theorem dX18_isUnder_38 : decode cX18_isUnder 38 = .ok (.aload_n 0, 1) := by decide +kernel
theorem dX18_isUnder_39 : decode cX18_isUnder 39 = .ok (.iload_n 2, 1) := by decide +kernel
theorem dX18_isUnder_40 : decode cX18_isUnder 40 = .ok (.invokevirtual 87, 3) := by decide +kernel
theorem dX18_isUnder_43 : decode cX18_isUnder 43 = .ok (.invokevirtual 161, 3) := by decide +kernel
theorem dX18_isUnder_46 : decode cX18_isUnder 46 = .ok (.ifCond .eq 7, 3) := by decide +kernel
theorem dX18_isUnder_49 : decode cX18_isUnder 49 = .ok (.iconst 1, 1) := by decide +kernel
theorem dX18_isUnder_50 : decode cX18_isUnder 50 = .ok (.goto 4, 3) := by decide +kernel
theorem dX18_isUnder_53 : decode cX18_isUnder 53 = .ok (.iconst 0, 1) := by decide +kernel
theorem dX18_isUnder_54 : decode cX18_isUnder 54 = .ok (.ireturn, 1) := by decide +kernel
theorem dX18_roadNumber_0 : decode cX18_roadNumber 0 = .ok (.aload_n 0, 1) := by decide +kernel
theorem dX18_roadNumber_1 : decode cX18_roadNumber 1 = .ok (.invokevirtual 157, 3) := by decide +kernel
theorem dX18_roadNumber_4 : decode cX18_roadNumber 4 = .ok (.aload_n 0, 1) := by decide +kernel
theorem dX18_roadNumber_5 : decode cX18_roadNumber 5 = .ok (.iload_n 1, 1) := by decide +kernel
theorem dX18_roadNumber_6 : decode cX18_roadNumber 6 = .ok (.invokevirtual 87, 3) := by decide +kernel
theorem dX18_roadNumber_9 : decode cX18_roadNumber 9 = .ok (.invokevirtual 165, 3) := by decide +kernel
theorem dX18_roadNumber_12 : decode cX18_roadNumber 12 = .ok (.astore 4, 2) := by decide +kernel
theorem dX18_roadNumber_14 : decode cX18_roadNumber 14 = .ok (.iload_n 2, 1) := by decide +kernel
theorem dX18_roadNumber_15 : decode cX18_roadNumber 15 = .ok (.ifCond .lt 28, 3) := by decide +kernel
theorem dX18_roadNumber_18 : decode cX18_roadNumber 18 = .ok (.iload_n 2, 1) := by decide +kernel
theorem dX18_roadNumber_19 : decode cX18_roadNumber 19 = .ok (.aload 4, 2) := by decide +kernel
theorem dX18_roadNumber_21 : decode cX18_roadNumber 21 = .ok (.invokevirtual 47, 3) := by decide +kernel
theorem dX18_roadNumber_24 : decode cX18_roadNumber 24 = .ok (.if_icmp .ge 19, 3) := by decide +kernel
theorem dX18_roadNumber_43 : decode cX18_roadNumber 43 = .ok (.bipush (-9), 2) := by decide +kernel
theorem dX18_roadNumber_45 : decode cX18_roadNumber 45 = .ok (.ireturn, 1) := by decide +kernel
theorem dX18_road_0 : decode cX18_road 0 = .ok (.aload_n 0, 1) := by decide +kernel
theorem dX18_road_1 : decode cX18_road 1 = .ok (.aload_n 0, 1) := by decide +kernel
theorem dX18_road_2 : decode cX18_road 2 = .ok (.iload_n 1, 1) := by decide +kernel
theorem dX18_road_3 : decode cX18_road 3 = .ok (.invokevirtual 55, 3) := by decide +kernel
theorem dX18_road_6 : decode cX18_road 6 = .ok (.iconst 1, 1) := by decide +kernel
theorem dX18_road_7 : decode cX18_road 7 = .ok (.invokevirtual 63, 3) := by decide +kernel
theorem dX18_road_10 : decode cX18_road 10 = .ok (.ifCond .eq 7, 3) := by decide +kernel
theorem dX18_road_13 : decode cX18_road 13 = .ok (.iconst 0, 1) := by decide +kernel
theorem dX18_road_14 : decode cX18_road 14 = .ok (.goto 10, 3) := by decide +kernel
theorem dX18_road_17 : decode cX18_road 17 = .ok (.aload_n 0, 1) := by decide +kernel
theorem dX18_road_18 : decode cX18_road 18 = .ok (.iload_n 1, 1) := by decide +kernel
theorem dX18_road_19 : decode cX18_road 19 = .ok (.iload_n 2, 1) := by decide +kernel
theorem dX18_road_20 : decode cX18_road 20 = .ok (.iload_n 3, 1) := by decide +kernel
theorem dX18_road_21 : decode cX18_road 21 = .ok (.invokevirtual 172, 3) := by decide +kernel
theorem dX18_road_24 : decode cX18_road 24 = .ok (.ireturn, 1) := by decide +kernel
theorem dX18_isNone_0 : decode cX18_isNone 0 = .ok (.aload_n 0, 1) := by decide +kernel
theorem dX18_isNone_1 : decode cX18_isNone 1 = .ok (.aload_n 0, 1) := by decide +kernel
theorem dX18_isNone_2 : decode cX18_isNone 2 = .ok (.iload_n 1, 1) := by decide +kernel
theorem dX18_isNone_3 : decode cX18_isNone 3 = .ok (.invokevirtual 137, 3) := by decide +kernel
theorem dX18_isNone_6 : decode cX18_isNone 6 = .ok (.iconst 1, 1) := by decide +kernel
theorem dX18_isNone_7 : decode cX18_isNone 7 = .ok (.invokevirtual 63, 3) := by decide +kernel
theorem dX18_isNone_10 : decode cX18_isNone 10 = .ok (.ireturn, 1) := by decide +kernel
theorem dX18_line_0 : decode cX18_line 0 = .ok (.aload_n 0, 1) := by decide +kernel
theorem dX18_line_1 : decode cX18_line 1 = .ok (.iload_n 1, 1) := by decide +kernel
theorem dX18_line_2 : decode cX18_line 2 = .ok (.invokevirtual 186, 3) := by decide +kernel
theorem dX18_line_5 : decode cX18_line 5 = .ok (.ifCond .eq 7, 3) := by decide +kernel
theorem dX18_line_8 : decode cX18_line 8 = .ok (.iconst 0, 1) := by decide +kernel
theorem dX18_line_9 : decode cX18_line 9 = .ok (.goto 15, 3) := by decide +kernel
theorem dX18_line_24 : decode cX18_line 24 = .ok (.ireturn, 1) := by decide +kernel
theorem dX18_seen_0 : decode cX18_seen 0 = .ok (.aload_n 0, 1) := by decide +kernel
theorem dX18_seen_1 : decode cX18_seen 1 = .ok (.iload_n 1, 1) := by decide +kernel
theorem dX18_seen_2 : decode cX18_seen 2 = .ok (.invokevirtual 186, 3) := by decide +kernel
theorem dX18_seen_5 : decode cX18_seen 5 = .ok (.ifCond .eq 7, 3) := by decide +kernel
theorem dX18_seen_8 : decode cX18_seen 8 = .ok (.iconst 0, 1) := by decide +kernel
theorem dX18_seen_9 : decode cX18_seen 9 = .ok (.goto 11, 3) := by decide +kernel
theorem dX18_seen_20 : decode cX18_seen 20 = .ok (.ireturn, 1) := by decide +kernel
theorem dX18_taking_0 : decode cX18_taking 0 = .ok (.aload_n 0, 1) := by decide +kernel
theorem dX18_taking_1 : decode cX18_taking 1 = .ok (.iload_n 1, 1) := by decide +kernel
theorem dX18_taking_2 : decode cX18_taking 2 = .ok (.invokevirtual 186, 3) := by decide +kernel
theorem dX18_taking_5 : decode cX18_taking 5 = .ok (.ifCond .eq 7, 3) := by decide +kernel
theorem dX18_taking_8 : decode cX18_taking 8 = .ok (.iconst 0, 1) := by decide +kernel
theorem dX18_taking_9 : decode cX18_taking 9 = .ok (.goto 11, 3) := by decide +kernel
theorem dX18_taking_20 : decode cX18_taking 20 = .ok (.ireturn, 1) := by decide +kernel
theorem dX18_chosen_0 : decode cX18_chosen 0 = .ok (.aload_n 0, 1) := by decide +kernel
theorem dX18_chosen_1 : decode cX18_chosen 1 = .ok (.iload_n 1, 1) := by decide +kernel
theorem dX18_chosen_2 : decode cX18_chosen 2 = .ok (.invokevirtual 186, 3) := by decide +kernel
theorem dX18_chosen_5 : decode cX18_chosen 5 = .ok (.ifCond .eq 7, 3) := by decide +kernel
theorem dX18_chosen_8 : decode cX18_chosen 8 = .ok (.iconst 0, 1) := by decide +kernel
theorem dX18_chosen_9 : decode cX18_chosen 9 = .ok (.goto 11, 3) := by decide +kernel
theorem dX18_chosen_20 : decode cX18_chosen 20 = .ok (.ireturn, 1) := by decide +kernel
theorem dX18_own_0 : decode cX18_own 0 = .ok (.aload_n 0, 1) := by decide +kernel
theorem dX18_own_1 : decode cX18_own 1 = .ok (.iload_n 1, 1) := by decide +kernel
theorem dX18_own_2 : decode cX18_own 2 = .ok (.invokevirtual 186, 3) := by decide +kernel
theorem dX18_own_5 : decode cX18_own 5 = .ok (.ifCond .eq 7, 3) := by decide +kernel
theorem dX18_own_8 : decode cX18_own 8 = .ok (.iconst 0, 1) := by decide +kernel
theorem dX18_own_9 : decode cX18_own 9 = .ok (.goto 15, 3) := by decide +kernel
theorem dX18_own_24 : decode cX18_own 24 = .ok (.ireturn, 1) := by decide +kernel
theorem dX18_faults_0 : decode cX18_faults 0 = .ok (.aload_n 0, 1) := by decide +kernel
theorem dX18_faults_1 : decode cX18_faults 1 = .ok (.aload_n 0, 1) := by decide +kernel
theorem dX18_faults_2 : decode cX18_faults 2 = .ok (.invokevirtual 157, 3) := by decide +kernel
theorem dX18_faults_5 : decode cX18_faults 5 = .ok (.invokevirtual 209, 3) := by decide +kernel
theorem dX18_faults_8 : decode cX18_faults 8 = .ok (.invokevirtual 47, 3) := by decide +kernel
theorem dX18_faults_11 : decode cX18_faults 11 = .ok (.invokevirtual 212, 3) := by decide +kernel
theorem dX18_faults_14 : decode cX18_faults 14 = .ok (.ireturn, 1) := by decide +kernel
theorem dX18_ofFault_0 : decode cX18_ofFault 0 = .ok (.aload_n 0, 1) := by decide +kernel
theorem dX18_ofFault_1 : decode cX18_ofFault 1 = .ok (.iconst 0, 1) := by decide +kernel
theorem dX18_ofFault_2 : decode cX18_ofFault 2 = .ok (.putfield 34, 3) := by decide +kernel
theorem dX18_ofFault_5 : decode cX18_ofFault 5 = .ok (.aload_n 0, 1) := by decide +kernel
theorem dX18_ofFault_6 : decode cX18_ofFault 6 = .ok (.invokevirtual 157, 3) := by decide +kernel
theorem dX18_ofFault_9 : decode cX18_ofFault 9 = .ok (.invokevirtual 209, 3) := by decide +kernel
theorem dX18_ofFault_12 : decode cX18_ofFault 12 = .ok (.astore_n 3, 1) := by decide +kernel
theorem dX18_ofFault_13 : decode cX18_ofFault 13 = .ok (.aload_n 0, 1) := by decide +kernel
theorem dX18_ofFault_14 : decode cX18_ofFault 14 = .ok (.iload_n 1, 1) := by decide +kernel
theorem dX18_ofFault_15 : decode cX18_ofFault 15 = .ok (.iconst 0, 1) := by decide +kernel
theorem dX18_ofFault_16 : decode cX18_ofFault 16 = .ok (.aload_n 3, 1) := by decide +kernel
theorem dX18_ofFault_17 : decode cX18_ofFault 17 = .ok (.invokevirtual 47, 3) := by decide +kernel
theorem dX18_ofFault_20 : decode cX18_ofFault 20 = .ok (.iconst 1, 1) := by decide +kernel
theorem dX18_ofFault_21 : decode cX18_ofFault 21 = .ok (.isub, 1) := by decide +kernel
theorem dX18_ofFault_22 : decode cX18_ofFault 22 = .ok (.invokestatic 51, 3) := by decide +kernel
theorem dX18_ofFault_25 : decode cX18_ofFault 25 = .ok (.ifCond .ne 7, 3) := by decide +kernel
theorem dX18_ofFault_28 : decode cX18_ofFault 28 = .ok (.iconst 1, 1) := by decide +kernel
theorem dX18_ofFault_29 : decode cX18_ofFault 29 = .ok (.goto 4, 3) := by decide +kernel
theorem dX18_ofFault_33 : decode cX18_ofFault 33 = .ok (.iconst 1, 1) := by decide +kernel
theorem dX18_ofFault_34 : decode cX18_ofFault 34 = .ok (.invokevirtual 38, 3) := by decide +kernel
theorem dX18_ofFault_37 : decode cX18_ofFault 37 = .ok (.ifCond .ne 25, 3) := by decide +kernel
theorem dX18_ofFault_62 : decode cX18_ofFault 62 = .ok (.iconst 0, 1) := by decide +kernel
theorem dX18_ofFault_63 : decode cX18_ofFault 63 = .ok (.goto 9, 3) := by decide +kernel
theorem dX18_ofFault_72 : decode cX18_ofFault 72 = .ok (.ireturn, 1) := by decide +kernel
theorem dX18_isFaulty_0 : decode cX18_isFaulty 0 = .ok (.aload_n 0, 1) := by decide +kernel
theorem dX18_isFaulty_1 : decode cX18_isFaulty 1 = .ok (.iload_n 1, 1) := by decide +kernel
theorem dX18_isFaulty_2 : decode cX18_isFaulty 2 = .ok (.invokevirtual 186, 3) := by decide +kernel
theorem dX18_isFaulty_5 : decode cX18_isFaulty 5 = .ok (.ifCond .ne 18, 3) := by decide +kernel
theorem dX18_isFaulty_23 : decode cX18_isFaulty 23 = .ok (.iconst 0, 1) := by decide +kernel
theorem dX18_isFaulty_24 : decode cX18_isFaulty 24 = .ok (.ireturn, 1) := by decide +kernel
theorem dX18_flaws_0 : decode cX18_flaws 0 = .ok (.aload_n 0, 1) := by decide +kernel
theorem dX18_flaws_1 : decode cX18_flaws 1 = .ok (.aload_n 0, 1) := by decide +kernel
theorem dX18_flaws_2 : decode cX18_flaws 2 = .ok (.invokevirtual 157, 3) := by decide +kernel
theorem dX18_flaws_5 : decode cX18_flaws 5 = .ok (.invokevirtual 223, 3) := by decide +kernel
theorem dX18_flaws_8 : decode cX18_flaws 8 = .ok (.invokevirtual 47, 3) := by decide +kernel
theorem dX18_flaws_11 : decode cX18_flaws 11 = .ok (.invokevirtual 212, 3) := by decide +kernel
theorem dX18_flaws_14 : decode cX18_flaws 14 = .ok (.ireturn, 1) := by decide +kernel
theorem dX18_ofFlaw_0 : decode cX18_ofFlaw 0 = .ok (.aload_n 0, 1) := by decide +kernel
theorem dX18_ofFlaw_1 : decode cX18_ofFlaw 1 = .ok (.iconst 0, 1) := by decide +kernel
theorem dX18_ofFlaw_2 : decode cX18_ofFlaw 2 = .ok (.putfield 34, 3) := by decide +kernel
theorem dX18_ofFlaw_5 : decode cX18_ofFlaw 5 = .ok (.aload_n 0, 1) := by decide +kernel
theorem dX18_ofFlaw_6 : decode cX18_ofFlaw 6 = .ok (.invokevirtual 157, 3) := by decide +kernel
theorem dX18_ofFlaw_9 : decode cX18_ofFlaw 9 = .ok (.invokevirtual 223, 3) := by decide +kernel
theorem dX18_ofFlaw_12 : decode cX18_ofFlaw 12 = .ok (.astore_n 3, 1) := by decide +kernel
theorem dX18_ofFlaw_13 : decode cX18_ofFlaw 13 = .ok (.aload_n 0, 1) := by decide +kernel
theorem dX18_ofFlaw_14 : decode cX18_ofFlaw 14 = .ok (.iload_n 1, 1) := by decide +kernel
theorem dX18_ofFlaw_15 : decode cX18_ofFlaw 15 = .ok (.iconst 0, 1) := by decide +kernel
theorem dX18_ofFlaw_16 : decode cX18_ofFlaw 16 = .ok (.aload_n 3, 1) := by decide +kernel
theorem dX18_ofFlaw_17 : decode cX18_ofFlaw 17 = .ok (.invokevirtual 47, 3) := by decide +kernel
theorem dX18_ofFlaw_20 : decode cX18_ofFlaw 20 = .ok (.iconst 1, 1) := by decide +kernel
theorem dX18_ofFlaw_21 : decode cX18_ofFlaw 21 = .ok (.isub, 1) := by decide +kernel
theorem dX18_ofFlaw_22 : decode cX18_ofFlaw 22 = .ok (.invokestatic 51, 3) := by decide +kernel
theorem dX18_ofFlaw_25 : decode cX18_ofFlaw 25 = .ok (.ifCond .ne 7, 3) := by decide +kernel
theorem dX18_ofFlaw_28 : decode cX18_ofFlaw 28 = .ok (.iconst 1, 1) := by decide +kernel
theorem dX18_ofFlaw_29 : decode cX18_ofFlaw 29 = .ok (.goto 4, 3) := by decide +kernel
theorem dX18_ofFlaw_33 : decode cX18_ofFlaw 33 = .ok (.iconst 1, 1) := by decide +kernel
theorem dX18_ofFlaw_34 : decode cX18_ofFlaw 34 = .ok (.invokevirtual 38, 3) := by decide +kernel
theorem dX18_ofFlaw_37 : decode cX18_ofFlaw 37 = .ok (.ifCond .ne 25, 3) := by decide +kernel
theorem dX18_ofFlaw_62 : decode cX18_ofFlaw 62 = .ok (.iconst 0, 1) := by decide +kernel
theorem dX18_ofFlaw_63 : decode cX18_ofFlaw 63 = .ok (.goto 9, 3) := by decide +kernel
theorem dX18_ofFlaw_72 : decode cX18_ofFlaw 72 = .ok (.ireturn, 1) := by decide +kernel
theorem dX18_faultsWithout_0 : decode cX18_faultsWithout 0 = .ok (.aload_n 0, 1) := by decide +kernel
theorem dX18_faultsWithout_1 : decode cX18_faultsWithout 1 = .ok (.iload_n 1, 1) := by decide +kernel
theorem dX18_faultsWithout_2 : decode cX18_faultsWithout 2 = .ok (.iconst 0, 1) := by decide +kernel
theorem dX18_faultsWithout_3 : decode cX18_faultsWithout 3 = .ok (.aload_n 0, 1) := by decide +kernel
theorem dX18_faultsWithout_4 : decode cX18_faultsWithout 4 = .ok (.getfield 19, 3) := by decide +kernel
theorem dX18_faultsWithout_7 : decode cX18_faultsWithout 7 = .ok (.invokevirtual 47, 3) := by decide +kernel
theorem dX18_faultsWithout_10 : decode cX18_faultsWithout 10 = .ok (.iconst 1, 1) := by decide +kernel
theorem dX18_faultsWithout_11 : decode cX18_faultsWithout 11 = .ok (.isub, 1) := by decide +kernel
theorem dX18_faultsWithout_12 : decode cX18_faultsWithout 12 = .ok (.invokestatic 51, 3) := by decide +kernel
theorem dX18_faultsWithout_15 : decode cX18_faultsWithout 15 = .ok (.ifCond .ne 7, 3) := by decide +kernel
theorem dX18_faultsWithout_18 : decode cX18_faultsWithout 18 = .ok (.iconst 1, 1) := by decide +kernel
theorem dX18_faultsWithout_19 : decode cX18_faultsWithout 19 = .ok (.goto 4, 3) := by decide +kernel
theorem dX18_faultsWithout_23 : decode cX18_faultsWithout 23 = .ok (.iconst 1, 1) := by decide +kernel
theorem dX18_faultsWithout_24 : decode cX18_faultsWithout 24 = .ok (.invokevirtual 63, 3) := by decide +kernel
theorem dX18_faultsWithout_27 : decode cX18_faultsWithout 27 = .ok (.ifCond .eq 7, 3) := by decide +kernel
theorem dX18_faultsWithout_30 : decode cX18_faultsWithout 30 = .ok (.iconst 0, 1) := by decide +kernel
theorem dX18_faultsWithout_31 : decode cX18_faultsWithout 31 = .ok (.goto 21, 3) := by decide +kernel
theorem dX18_faultsWithout_52 : decode cX18_faultsWithout 52 = .ok (.ireturn, 1) := by decide +kernel
theorem dX18_isNoOther_0 : decode cX18_isNoOther 0 = .ok (.aload_n 0, 1) := by decide +kernel
theorem dX18_isNoOther_1 : decode cX18_isNoOther 1 = .ok (.aload_n 0, 1) := by decide +kernel
theorem dX18_isNoOther_2 : decode cX18_isNoOther 2 = .ok (.iload_n 1, 1) := by decide +kernel
theorem dX18_isNoOther_3 : decode cX18_isNoOther 3 = .ok (.invokevirtual 84, 3) := by decide +kernel
theorem dX18_isNoOther_6 : decode cX18_isNoOther 6 = .ok (.ifCond .ne 28, 3) := by decide +kernel
theorem dX18_isNoOther_34 : decode cX18_isNoOther 34 = .ok (.iconst 1, 1) := by decide +kernel
theorem dX18_isNoOther_35 : decode cX18_isNoOther 35 = .ok (.goto 4, 3) := by decide +kernel
theorem dX18_isNoOther_39 : decode cX18_isNoOther 39 = .ok (.iconst 1, 1) := by decide +kernel
theorem dX18_isNoOther_40 : decode cX18_isNoOther 40 = .ok (.invokevirtual 63, 3) := by decide +kernel
theorem dX18_isNoOther_43 : decode cX18_isNoOther 43 = .ok (.ifCond .ne 25, 3) := by decide +kernel
theorem dX18_isNoOther_68 : decode cX18_isNoOther 68 = .ok (.iconst 1, 1) := by decide +kernel
theorem dX18_isNoOther_69 : decode cX18_isNoOther 69 = .ok (.goto 4, 3) := by decide +kernel
theorem dX18_isNoOther_73 : decode cX18_isNoOther 73 = .ok (.ireturn, 1) := by decide +kernel
theorem dX18_faultsWith_0 : decode cX18_faultsWith 0 = .ok (.aload_n 0, 1) := by decide +kernel
theorem dX18_faultsWith_1 : decode cX18_faultsWith 1 = .ok (.iload_n 1, 1) := by decide +kernel
theorem dX18_faultsWith_2 : decode cX18_faultsWith 2 = .ok (.iload_n 2, 1) := by decide +kernel
theorem dX18_faultsWith_3 : decode cX18_faultsWith 3 = .ok (.iload_n 3, 1) := by decide +kernel
theorem dX18_faultsWith_4 : decode cX18_faultsWith 4 = .ok (.invokevirtual 234, 3) := by decide +kernel
theorem dX18_faultsWith_7 : decode cX18_faultsWith 7 = .ok (.ifCond .eq 7, 3) := by decide +kernel
theorem dX18_faultsWith_10 : decode cX18_faultsWith 10 = .ok (.iconst 0, 1) := by decide +kernel
theorem dX18_faultsWith_11 : decode cX18_faultsWith 11 = .ok (.goto 21, 3) := by decide +kernel
theorem dX18_faultsWith_32 : decode cX18_faultsWith 32 = .ok (.ireturn, 1) := by decide +kernel
theorem dX18_flawsWith_0 : decode cX18_flawsWith 0 = .ok (.aload_n 0, 1) := by decide +kernel
theorem dX18_flawsWith_1 : decode cX18_flawsWith 1 = .ok (.iload_n 1, 1) := by decide +kernel
theorem dX18_flawsWith_2 : decode cX18_flawsWith 2 = .ok (.iload_n 2, 1) := by decide +kernel
theorem dX18_flawsWith_3 : decode cX18_flawsWith 3 = .ok (.iload_n 3, 1) := by decide +kernel
theorem dX18_flawsWith_4 : decode cX18_flawsWith 4 = .ok (.invokevirtual 234, 3) := by decide +kernel
theorem dX18_flawsWith_7 : decode cX18_flawsWith 7 = .ok (.ifCond .eq 7, 3) := by decide +kernel
theorem dX18_flawsWith_10 : decode cX18_flawsWith 10 = .ok (.iconst 0, 1) := by decide +kernel
theorem dX18_flawsWith_11 : decode cX18_flawsWith 11 = .ok (.goto 21, 3) := by decide +kernel
theorem dX18_flawsWith_32 : decode cX18_flawsWith 32 = .ok (.ireturn, 1) := by decide +kernel
theorem dJxa1e45_init_da8c8_0 : decode cJxa1e45_init_da8c8 0 = .ok (.aload_n 0, 1) := by decide +kernel
theorem dJxa1e45_init_da8c8_1 : decode cJxa1e45_init_da8c8 1 = .ok (.invokespecial 1, 3) := by decide +kernel
theorem dJxa1e45_init_da8c8_4 : decode cJxa1e45_init_da8c8 4 = .ok (.return_, 1) := by decide +kernel
theorem dJxc12de_init_da8c8_0 : decode cJxc12de_init_da8c8 0 = .ok (.aload_n 0, 1) := by decide +kernel
theorem dJxc12de_init_da8c8_1 : decode cJxc12de_init_da8c8 1 = .ok (.invokespecial 1, 3) := by decide +kernel
theorem dJxc12de_init_da8c8_4 : decode cJxc12de_init_da8c8 4 = .ok (.aload_n 0, 1) := by decide +kernel
theorem dJxc12de_init_da8c8_5 : decode cJxc12de_init_da8c8 5 = .ok (.iconst 0, 1) := by decide +kernel
theorem dJxc12de_init_da8c8_6 : decode cJxc12de_init_da8c8 6 = .ok (.putfield 7, 3) := by decide +kernel
theorem dJxc12de_init_da8c8_9 : decode cJxc12de_init_da8c8 9 = .ok (.return_, 1) := by decide +kernel
theorem dJx4a65c_init_da8c8_0 : decode cJx4a65c_init_da8c8 0 = .ok (.aload_n 0, 1) := by decide +kernel
theorem dJx4a65c_init_da8c8_1 : decode cJx4a65c_init_da8c8 1 = .ok (.invokespecial 1, 3) := by decide +kernel
theorem dJx4a65c_init_da8c8_4 : decode cJx4a65c_init_da8c8 4 = .ok (.aload_n 0, 1) := by decide +kernel
theorem dJx4a65c_init_da8c8_5 : decode cJx4a65c_init_da8c8 5 = .ok (.getstatic 39, 3) := by decide +kernel
theorem dJx4a65c_init_da8c8_8 : decode cJx4a65c_init_da8c8 8 = .ok (.putfield 9, 3) := by decide +kernel
theorem dJx4a65c_init_da8c8_11 : decode cJx4a65c_init_da8c8 11 = .ok (.return_, 1) := by decide +kernel
theorem dJx4a65c_grow_92f84_0 : decode cJx4a65c_grow_92f84 0 = .ok (.aload_n 0, 1) := by decide +kernel
theorem dJx4a65c_grow_92f84_1 : decode cJx4a65c_grow_92f84 1 = .ok (.getfield 9, 3) := by decide +kernel
theorem dJx4a65c_grow_92f84_4 : decode cJx4a65c_grow_92f84 4 = .ok (.arraylength, 1) := by decide +kernel
theorem dJx4a65c_grow_92f84_5 : decode cJx4a65c_grow_92f84 5 = .ok (.istore_n 2, 1) := by decide +kernel
theorem dJx4a65c_grow_92f84_6 : decode cJx4a65c_grow_92f84 6 = .ok (.iload_n 2, 1) := by decide +kernel
theorem dJx4a65c_grow_92f84_7 : decode cJx4a65c_grow_92f84 7 = .ok (.ifCond .gt 13, 3) := by decide +kernel
theorem dJx4a65c_grow_92f84_10 : decode cJx4a65c_grow_92f84 10 = .ok (.aload_n 0, 1) := by decide +kernel
theorem dJx4a65c_grow_92f84_11 : decode cJx4a65c_grow_92f84 11 = .ok (.getfield 9, 3) := by decide +kernel
theorem dJx4a65c_grow_92f84_14 : decode cJx4a65c_grow_92f84 14 = .ok (.getstatic 39, 3) := by decide +kernel
theorem dJx4a65c_grow_92f84_17 : decode cJx4a65c_grow_92f84 17 = .ok (.if_acmp .eq 28, 3) := by decide +kernel
theorem dJx4a65c_grow_92f84_45 : decode cJx4a65c_grow_92f84 45 = .ok (.aload_n 0, 1) := by decide +kernel
theorem dJx4a65c_grow_92f84_46 : decode cJx4a65c_grow_92f84 46 = .ok (.bipush 10, 2) := by decide +kernel
theorem dJx4a65c_grow_92f84_48 : decode cJx4a65c_grow_92f84 48 = .ok (.iload_n 1, 1) := by decide +kernel
theorem dJx4a65c_grow_92f84_49 : decode cJx4a65c_grow_92f84 49 = .ok (.invokestatic 79, 3) := by decide +kernel
theorem dJx4a65c_grow_92f84_52 : decode cJx4a65c_grow_92f84 52 = .ok (.anewarray 7, 3) := by decide +kernel
theorem dJx4a65c_grow_92f84_55 : decode cJx4a65c_grow_92f84 55 = .ok (.dup_x1, 1) := by decide +kernel
theorem dJx4a65c_grow_92f84_56 : decode cJx4a65c_grow_92f84 56 = .ok (.putfield 9, 3) := by decide +kernel
theorem dJx4a65c_grow_92f84_59 : decode cJx4a65c_grow_92f84 59 = .ok (.areturn, 1) := by decide +kernel
theorem dJx4a65c_grow_d5877_0 : decode cJx4a65c_grow_d5877 0 = .ok (.aload_n 0, 1) := by decide +kernel
theorem dJx4a65c_grow_d5877_1 : decode cJx4a65c_grow_d5877 1 = .ok (.aload_n 0, 1) := by decide +kernel
theorem dJx4a65c_grow_d5877_2 : decode cJx4a65c_grow_d5877 2 = .ok (.getfield 48, 3) := by decide +kernel
theorem dJx4a65c_grow_d5877_5 : decode cJx4a65c_grow_d5877 5 = .ok (.iconst 1, 1) := by decide +kernel
theorem dJx4a65c_grow_d5877_6 : decode cJx4a65c_grow_d5877 6 = .ok (.iadd, 1) := by decide +kernel
theorem dJx4a65c_grow_d5877_7 : decode cJx4a65c_grow_d5877 7 = .ok (.invokevirtual 69, 3) := by decide +kernel
theorem dJx4a65c_grow_d5877_10 : decode cJx4a65c_grow_d5877 10 = .ok (.areturn, 1) := by decide +kernel
theorem dJx4a65c_size_8abf5_0 : decode cJx4a65c_size_8abf5 0 = .ok (.aload_n 0, 1) := by decide +kernel
theorem dJx4a65c_size_8abf5_1 : decode cJx4a65c_size_8abf5 1 = .ok (.getfield 48, 3) := by decide +kernel
theorem dJx4a65c_size_8abf5_4 : decode cJx4a65c_size_8abf5 4 = .ok (.ireturn, 1) := by decide +kernel
theorem dJx4a65c_isEmpty_aae02_0 : decode cJx4a65c_isEmpty_aae02 0 = .ok (.aload_n 0, 1) := by decide +kernel
theorem dJx4a65c_isEmpty_aae02_1 : decode cJx4a65c_isEmpty_aae02 1 = .ok (.getfield 48, 3) := by decide +kernel
theorem dJx4a65c_isEmpty_aae02_4 : decode cJx4a65c_isEmpty_aae02 4 = .ok (.ifCond .ne 7, 3) := by decide +kernel
theorem dJx4a65c_isEmpty_aae02_7 : decode cJx4a65c_isEmpty_aae02 7 = .ok (.iconst 1, 1) := by decide +kernel
theorem dJx4a65c_isEmpty_aae02_8 : decode cJx4a65c_isEmpty_aae02 8 = .ok (.goto 4, 3) := by decide +kernel
theorem dJx4a65c_isEmpty_aae02_12 : decode cJx4a65c_isEmpty_aae02 12 = .ok (.ireturn, 1) := by decide +kernel
theorem dJx4a65c_elementData_915e3_0 : decode cJx4a65c_elementData_915e3 0 = .ok (.aload_n 0, 1) := by decide +kernel
theorem dJx4a65c_elementData_915e3_1 : decode cJx4a65c_elementData_915e3 1 = .ok (.getfield 9, 3) := by decide +kernel
theorem dJx4a65c_elementData_915e3_4 : decode cJx4a65c_elementData_915e3 4 = .ok (.iload_n 1, 1) := by decide +kernel
theorem dJx4a65c_elementData_915e3_5 : decode cJx4a65c_elementData_915e3 5 = .ok (.aaload, 1) := by decide +kernel
theorem dJx4a65c_elementData_915e3_6 : decode cJx4a65c_elementData_915e3 6 = .ok (.areturn, 1) := by decide +kernel
theorem dJx4a65c_get_915e3_0 : decode cJx4a65c_get_915e3 0 = .ok (.iload_n 1, 1) := by decide +kernel
theorem dJx4a65c_get_915e3_1 : decode cJx4a65c_get_915e3 1 = .ok (.aload_n 0, 1) := by decide +kernel
theorem dJx4a65c_get_915e3_2 : decode cJx4a65c_get_915e3 2 = .ok (.getfield 48, 3) := by decide +kernel
theorem dJx4a65c_get_915e3_5 : decode cJx4a65c_get_915e3 5 = .ok (.invokestatic 118, 3) := by decide +kernel
theorem dJx4a65c_get_915e3_8 : decode cJx4a65c_get_915e3 8 = .ok (.pop, 1) := by decide +kernel
theorem dJx4a65c_get_915e3_9 : decode cJx4a65c_get_915e3 9 = .ok (.aload_n 0, 1) := by decide +kernel
theorem dJx4a65c_get_915e3_10 : decode cJx4a65c_get_915e3 10 = .ok (.iload_n 1, 1) := by decide +kernel
theorem dJx4a65c_get_915e3_11 : decode cJx4a65c_get_915e3 11 = .ok (.invokevirtual 123, 3) := by decide +kernel
theorem dJx4a65c_get_915e3_14 : decode cJx4a65c_get_915e3 14 = .ok (.areturn, 1) := by decide +kernel
theorem dJx4a65c_add_72be8_0 : decode cJx4a65c_add_72be8 0 = .ok (.iload_n 3, 1) := by decide +kernel
theorem dJx4a65c_add_72be8_1 : decode cJx4a65c_add_72be8 1 = .ok (.aload_n 2, 1) := by decide +kernel
theorem dJx4a65c_add_72be8_2 : decode cJx4a65c_add_72be8 2 = .ok (.arraylength, 1) := by decide +kernel
theorem dJx4a65c_add_72be8_3 : decode cJx4a65c_add_72be8 3 = .ok (.if_icmp .ne 8, 3) := by decide +kernel
theorem dJx4a65c_add_72be8_6 : decode cJx4a65c_add_72be8 6 = .ok (.aload_n 0, 1) := by decide +kernel
theorem dJx4a65c_add_72be8_7 : decode cJx4a65c_add_72be8 7 = .ok (.invokevirtual 129, 3) := by decide +kernel
theorem dJx4a65c_add_72be8_10 : decode cJx4a65c_add_72be8 10 = .ok (.astore_n 2, 1) := by decide +kernel
theorem dJx4a65c_add_72be8_11 : decode cJx4a65c_add_72be8 11 = .ok (.aload_n 2, 1) := by decide +kernel
theorem dJx4a65c_add_72be8_12 : decode cJx4a65c_add_72be8 12 = .ok (.iload_n 3, 1) := by decide +kernel
theorem dJx4a65c_add_72be8_13 : decode cJx4a65c_add_72be8 13 = .ok (.aload_n 1, 1) := by decide +kernel
theorem dJx4a65c_add_72be8_14 : decode cJx4a65c_add_72be8 14 = .ok (.aastore, 1) := by decide +kernel
theorem dJx4a65c_add_72be8_15 : decode cJx4a65c_add_72be8 15 = .ok (.aload_n 0, 1) := by decide +kernel
theorem dJx4a65c_add_72be8_16 : decode cJx4a65c_add_72be8 16 = .ok (.iload_n 3, 1) := by decide +kernel
theorem dJx4a65c_add_72be8_17 : decode cJx4a65c_add_72be8 17 = .ok (.iconst 1, 1) := by decide +kernel
theorem dJx4a65c_add_72be8_18 : decode cJx4a65c_add_72be8 18 = .ok (.iadd, 1) := by decide +kernel
theorem dJx4a65c_add_72be8_19 : decode cJx4a65c_add_72be8 19 = .ok (.putfield 48, 3) := by decide +kernel
theorem dJx4a65c_add_72be8_22 : decode cJx4a65c_add_72be8 22 = .ok (.return_, 1) := by decide +kernel
theorem dJx4a65c_add_9ea2d_0 : decode cJx4a65c_add_9ea2d 0 = .ok (.aload_n 0, 1) := by decide +kernel
theorem dJx4a65c_add_9ea2d_1 : decode cJx4a65c_add_9ea2d 1 = .ok (.dup, 1) := by decide +kernel
theorem dJx4a65c_add_9ea2d_2 : decode cJx4a65c_add_9ea2d 2 = .ok (.getfield 63, 3) := by decide +kernel
theorem dJx4a65c_add_9ea2d_5 : decode cJx4a65c_add_9ea2d 5 = .ok (.iconst 1, 1) := by decide +kernel
theorem dJx4a65c_add_9ea2d_6 : decode cJx4a65c_add_9ea2d 6 = .ok (.iadd, 1) := by decide +kernel
theorem dJx4a65c_add_9ea2d_7 : decode cJx4a65c_add_9ea2d 7 = .ok (.putfield 63, 3) := by decide +kernel
theorem dJx4a65c_add_9ea2d_10 : decode cJx4a65c_add_9ea2d 10 = .ok (.aload_n 0, 1) := by decide +kernel
theorem dJx4a65c_add_9ea2d_11 : decode cJx4a65c_add_9ea2d 11 = .ok (.aload_n 1, 1) := by decide +kernel
theorem dJx4a65c_add_9ea2d_12 : decode cJx4a65c_add_9ea2d 12 = .ok (.aload_n 0, 1) := by decide +kernel
theorem dJx4a65c_add_9ea2d_13 : decode cJx4a65c_add_9ea2d 13 = .ok (.getfield 9, 3) := by decide +kernel
theorem dJx4a65c_add_9ea2d_16 : decode cJx4a65c_add_9ea2d 16 = .ok (.aload_n 0, 1) := by decide +kernel
theorem dJx4a65c_add_9ea2d_17 : decode cJx4a65c_add_9ea2d 17 = .ok (.getfield 48, 3) := by decide +kernel
theorem dJx4a65c_add_9ea2d_20 : decode cJx4a65c_add_9ea2d 20 = .ok (.invokevirtual 131, 3) := by decide +kernel
theorem dJx4a65c_add_9ea2d_23 : decode cJx4a65c_add_9ea2d 23 = .ok (.iconst 1, 1) := by decide +kernel
theorem dJx4a65c_add_9ea2d_24 : decode cJx4a65c_add_9ea2d 24 = .ok (.ireturn, 1) := by decide +kernel
theorem dJ15_checkIndex_7cf53_0 : decode cJ15_checkIndex_7cf53 0 = .ok (.iload_n 0, 1) := by decide +kernel
theorem dJ15_checkIndex_7cf53_1 : decode cJ15_checkIndex_7cf53 1 = .ok (.iload_n 1, 1) := by decide +kernel
theorem dJ15_checkIndex_7cf53_2 : decode cJ15_checkIndex_7cf53 2 = .ok (.aconst_null, 1) := by decide +kernel
theorem dJ15_checkIndex_7cf53_3 : decode cJ15_checkIndex_7cf53 3 = .ok (.invokestatic 105, 3) := by decide +kernel
theorem dJ15_checkIndex_7cf53_6 : decode cJ15_checkIndex_7cf53 6 = .ok (.ireturn, 1) := by decide +kernel
theorem dJ3_checkIndex_8e157_0 : decode cJ3_checkIndex_8e157 0 = .ok (.iload_n 0, 1) := by decide +kernel
theorem dJ3_checkIndex_8e157_1 : decode cJ3_checkIndex_8e157 1 = .ok (.ifCond .lt 8, 3) := by decide +kernel
theorem dJ3_checkIndex_8e157_4 : decode cJ3_checkIndex_8e157 4 = .ok (.iload_n 0, 1) := by decide +kernel
theorem dJ3_checkIndex_8e157_5 : decode cJ3_checkIndex_8e157 5 = .ok (.iload_n 1, 1) := by decide +kernel
theorem dJ3_checkIndex_8e157_6 : decode cJ3_checkIndex_8e157 6 = .ok (.if_icmp .lt 10, 3) := by decide +kernel
theorem dJ3_checkIndex_8e157_16 : decode cJ3_checkIndex_8e157 16 = .ok (.iload_n 0, 1) := by decide +kernel
theorem dJ3_checkIndex_8e157_17 : decode cJ3_checkIndex_8e157 17 = .ok (.ireturn, 1) := by decide +kernel
