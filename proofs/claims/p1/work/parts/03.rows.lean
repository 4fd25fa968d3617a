theorem dX18_thrown_0 : decode cX18_thrown 0 = .ok (.aload_n 0, 1) := by decide +kernel
theorem dX18_thrown_1 : decode cX18_thrown 1 = .ok (.getfield 34, 3) := by decide +kernel
theorem dX18_thrown_4 : decode cX18_thrown 4 = .ok (.ireturn, 1) := by decide +kernel
theorem dX18_isIn_0 : decode cX18_isIn 0 = .ok (.iload_n 0, 1) := by decide +kernel
theorem dX18_isIn_1 : decode cX18_isIn 1 = .ok (.iload_n 1, 1) := by decide +kernel
theorem dX18_isIn_2 : decode cX18_isIn 2 = .ok (.if_icmp .lt 12, 3) := by decide +kernel
theorem dX18_isIn_5 : decode cX18_isIn 5 = .ok (.iload_n 0, 1) := by decide +kernel
theorem dX18_isIn_6 : decode cX18_isIn 6 = .ok (.iload_n 2, 1) := by decide +kernel
theorem dX18_isIn_7 : decode cX18_isIn 7 = .ok (.if_icmp .gt 7, 3) := by decide +kernel
theorem dX18_isIn_10 : decode cX18_isIn 10 = .ok (.iconst 1, 1) := by decide +kernel
theorem dX18_isIn_11 : decode cX18_isIn 11 = .ok (.goto 4, 3) := by decide +kernel
theorem dX18_isIn_14 : decode cX18_isIn 14 = .ok (.iconst 0, 1) := by decide +kernel
theorem dX18_isIn_15 : decode cX18_isIn 15 = .ok (.ireturn, 1) := by decide +kernel
theorem dX18_refuse_0 : decode cX18_refuse 0 = .ok (.iload_n 1, 1) := by decide +kernel
theorem dX18_refuse_1 : decode cX18_refuse 1 = .ok (.ifCond .eq 15, 3) := by decide +kernel
theorem dX18_refuse_4 : decode cX18_refuse 4 = .ok (.aload_n 0, 1) := by decide +kernel
theorem dX18_refuse_5 : decode cX18_refuse 5 = .ok (.getfield 34, 3) := by decide +kernel
theorem dX18_refuse_8 : decode cX18_refuse 8 = .ok (.ifCond .ne 8, 3) := by decide +kernel
theorem dX18_refuse_11 : decode cX18_refuse 11 = .ok (.aload_n 0, 1) := by decide +kernel
theorem dX18_refuse_12 : decode cX18_refuse 12 = .ok (.iload_n 2, 1) := by decide +kernel
theorem dX18_refuse_13 : decode cX18_refuse 13 = .ok (.putfield 34, 3) := by decide +kernel
theorem dX18_refuse_16 : decode cX18_refuse 16 = .ok (.aload_n 0, 1) := by decide +kernel
theorem dX18_refuse_17 : decode cX18_refuse 17 = .ok (.getfield 34, 3) := by decide +kernel
theorem dX18_refuse_20 : decode cX18_refuse 20 = .ok (.ifCond .le 7, 3) := by decide +kernel
theorem dX18_refuse_23 : decode cX18_refuse 23 = .ok (.iconst 1, 1) := by decide +kernel
theorem dX18_refuse_24 : decode cX18_refuse 24 = .ok (.goto 4, 3) := by decide +kernel
theorem dX18_refuse_27 : decode cX18_refuse 27 = .ok (.iconst 0, 1) := by decide +kernel
theorem dX18_refuse_28 : decode cX18_refuse 28 = .ok (.ireturn, 1) := by decide +kernel
theorem dX18_start_0 : decode cX18_start 0 = .ok (.aload_n 0, 1) := by decide +kernel
theorem dX18_start_1 : decode cX18_start 1 = .ok (.iconst 0, 1) := by decide +kernel
theorem dX18_start_2 : decode cX18_start 2 = .ok (.putfield 34, 3) := by decide +kernel
theorem dX18_start_5 : decode cX18_start 5 = .ok (.aload_n 0, 1) := by decide +kernel
theorem dX18_start_6 : decode cX18_start 6 = .ok (.iload_n 1, 1) := by decide +kernel
theorem dX18_start_7 : decode cX18_start 7 = .ok (.iload_n 2, 1) := by decide +kernel
theorem dX18_start_8 : decode cX18_start 8 = .ok (.invokevirtual 38, 3) := by decide +kernel
theorem dX18_start_11 : decode cX18_start 11 = .ok (.ireturn, 1) := by decide +kernel
theorem dX18_plain_0 : decode cX18_plain 0 = .ok (.aload_n 0, 1) := by decide +kernel
theorem dX18_plain_1 : decode cX18_plain 1 = .ok (.iconst 0, 1) := by decide +kernel
theorem dX18_plain_2 : decode cX18_plain 2 = .ok (.putfield 34, 3) := by decide +kernel
theorem dX18_plain_5 : decode cX18_plain 5 = .ok (.iload_n 1, 1) := by decide +kernel
theorem dX18_plain_6 : decode cX18_plain 6 = .ok (.ireturn, 1) := by decide +kernel
theorem dX18_isNoSort_0 : decode cX18_isNoSort 0 = .ok (.iload_n 1, 1) := by decide +kernel
theorem dX18_isNoSort_1 : decode cX18_isNoSort 1 = .ok (.iconst 0, 1) := by decide +kernel
theorem dX18_isNoSort_2 : decode cX18_isNoSort 2 = .ok (.aload_n 0, 1) := by decide +kernel
theorem dX18_isNoSort_3 : decode cX18_isNoSort 3 = .ok (.getfield 10, 3) := by decide +kernel
theorem dX18_isNoSort_6 : decode cX18_isNoSort 6 = .ok (.invokevirtual 47, 3) := by decide +kernel
theorem dX18_isNoSort_9 : decode cX18_isNoSort 9 = .ok (.iconst 1, 1) := by decide +kernel
theorem dX18_isNoSort_10 : decode cX18_isNoSort 10 = .ok (.isub, 1) := by decide +kernel
theorem dX18_isNoSort_11 : decode cX18_isNoSort 11 = .ok (.invokestatic 51, 3) := by decide +kernel
theorem dX18_isNoSort_14 : decode cX18_isNoSort 14 = .ok (.ifCond .ne 7, 3) := by decide +kernel
theorem dX18_isNoSort_17 : decode cX18_isNoSort 17 = .ok (.iconst 1, 1) := by decide +kernel
theorem dX18_isNoSort_18 : decode cX18_isNoSort 18 = .ok (.goto 4, 3) := by decide +kernel
theorem dX18_isNoSort_22 : decode cX18_isNoSort 22 = .ok (.ireturn, 1) := by decide +kernel
theorem dX18_isNoType_0 : decode cX18_isNoType 0 = .ok (.iload_n 1, 1) := by decide +kernel
theorem dX18_isNoType_1 : decode cX18_isNoType 1 = .ok (.iconst 0, 1) := by decide +kernel
theorem dX18_isNoType_2 : decode cX18_isNoType 2 = .ok (.aload_n 0, 1) := by decide +kernel
theorem dX18_isNoType_3 : decode cX18_isNoType 3 = .ok (.getfield 16, 3) := by decide +kernel
theorem dX18_isNoType_6 : decode cX18_isNoType 6 = .ok (.invokevirtual 47, 3) := by decide +kernel
theorem dX18_isNoType_9 : decode cX18_isNoType 9 = .ok (.iconst 1, 1) := by decide +kernel
theorem dX18_isNoType_10 : decode cX18_isNoType 10 = .ok (.isub, 1) := by decide +kernel
theorem dX18_isNoType_11 : decode cX18_isNoType 11 = .ok (.invokestatic 51, 3) := by decide +kernel
theorem dX18_isNoType_14 : decode cX18_isNoType 14 = .ok (.ifCond .ne 7, 3) := by decide +kernel
theorem dX18_isNoType_17 : decode cX18_isNoType 17 = .ok (.iconst 1, 1) := by decide +kernel
theorem dX18_isNoType_18 : decode cX18_isNoType 18 = .ok (.goto 4, 3) := by decide +kernel
theorem dX18_isNoType_21 : decode cX18_isNoType 21 = .ok (.iconst 0, 1) := by decide +kernel
theorem dX18_isNoType_22 : decode cX18_isNoType 22 = .ok (.ireturn, 1) := by decide +kernel
theorem dX18_isNoTypeOrNone_0 : decode cX18_isNoTypeOrNone 0 = .ok (.iload_n 1, 1) := by decide +kernel
theorem dX18_isNoTypeOrNone_1 : decode cX18_isNoTypeOrNone 1 = .ok (.iconst (-1), 1) := by decide +kernel
theorem dX18_isNoTypeOrNone_2 : decode cX18_isNoTypeOrNone 2 = .ok (.if_icmp .eq 15, 3) := by decide +kernel
theorem dX18_isNoTypeOrNone_5 : decode cX18_isNoTypeOrNone 5 = .ok (.aload_n 0, 1) := by decide +kernel
theorem dX18_isNoTypeOrNone_6 : decode cX18_isNoTypeOrNone 6 = .ok (.iload_n 1, 1) := by decide +kernel
theorem dX18_isNoTypeOrNone_7 : decode cX18_isNoTypeOrNone 7 = .ok (.invokevirtual 55, 3) := by decide +kernel
theorem dX18_isNoTypeOrNone_10 : decode cX18_isNoTypeOrNone 10 = .ok (.ifCond .eq 7, 3) := by decide +kernel
theorem dX18_isNoTypeOrNone_13 : decode cX18_isNoTypeOrNone 13 = .ok (.iconst 1, 1) := by decide +kernel
theorem dX18_isNoTypeOrNone_14 : decode cX18_isNoTypeOrNone 14 = .ok (.goto 4, 3) := by decide +kernel
theorem dX18_isNoTypeOrNone_17 : decode cX18_isNoTypeOrNone 17 = .ok (.iconst 0, 1) := by decide +kernel
theorem dX18_isNoTypeOrNone_18 : decode cX18_isNoTypeOrNone 18 = .ok (.ireturn, 1) := by decide +kernel
theorem dX18_isNoExpression_0 : decode cX18_isNoExpression 0 = .ok (.iload_n 1, 1) := by decide +kernel
theorem dX18_isNoExpression_1 : decode cX18_isNoExpression 1 = .ok (.iconst 0, 1) := by decide +kernel
theorem dX18_isNoExpression_2 : decode cX18_isNoExpression 2 = .ok (.aload_n 0, 1) := by decide +kernel
theorem dX18_isNoExpression_3 : decode cX18_isNoExpression 3 = .ok (.getfield 22, 3) := by decide +kernel
theorem dX18_isNoExpression_6 : decode cX18_isNoExpression 6 = .ok (.invokevirtual 47, 3) := by decide +kernel
theorem dX18_isNoExpression_9 : decode cX18_isNoExpression 9 = .ok (.iconst 1, 1) := by decide +kernel
theorem dX18_isNoExpression_10 : decode cX18_isNoExpression 10 = .ok (.isub, 1) := by decide +kernel
theorem dX18_isNoExpression_11 : decode cX18_isNoExpression 11 = .ok (.invokestatic 51, 3) := by decide +kernel
theorem dX18_isNoExpression_14 : decode cX18_isNoExpression 14 = .ok (.ifCond .ne 7, 3) := by decide +kernel
theorem dX18_isNoExpression_17 : decode cX18_isNoExpression 17 = .ok (.iconst 1, 1) := by decide +kernel
theorem dX18_isNoExpression_18 : decode cX18_isNoExpression 18 = .ok (.goto 4, 3) := by decide +kernel
theorem dX18_isNoExpression_22 : decode cX18_isNoExpression 22 = .ok (.ireturn, 1) := by decide +kernel
theorem dJxa1e45_init_da8c8_0 : decode cJxa1e45_init_da8c8 0 = .ok (.aload_n 0, 1) := by decide +kernel
theorem dJxa1e45_init_da8c8_1 : decode cJxa1e45_init_da8c8 1 = .ok (.invokespecial 1, 3) := by decide +kernel
theorem dJxa1e45_init_da8c8_4 : decode cJxa1e45_init_da8c8 4 = .ok (.return_, 1) := by decide +kernel
theorem dJxc12de_init_da8c8_0 : decode cJxc12de_init_da8c8 0 = .ok (.aload_n 0, 1) := by decide +kernel
theorem dJxc12de_init_da8c8_1 : decode cJxc12de_init_da8c8 1 = .ok (.invokespecial 1, 3) := by decide +kernel
theorem dJxc12de_init_da8c8_4 : decode cJxc12de_init_da8c8 4 = .ok (.aload_n 0, 1) := by decide +kernel
theorem dJxc12de_init_da8c8_5 : decode cJxc12de_init_da8c8 5 = .ok (.iconst 0, 1) := by decide +kernel
theorem dJxc12de_init_da8c8_6 : decode cJxc12de_init_da8c8 6 = .ok (.putfield 7, 3) := by decide +kernel
theorem dJxc12de_init_da8c8_9 : decode cJxc12de_init_da8c8 9 = .ok (.return_, 1) := by decide +kernel
theorem dJx4a65c_init_da8c8_0 : decode cJx4a65c_init_da8c8 0 = .ok (.aload_n 0, 1) := by decide +kernel
theorem dJx4a65c_init_da8c8_1 : decode cJx4a65c_init_da8c8 1 = .ok (.invokespecial 1, 3) := by decide +kernel
theorem dJx4a65c_init_da8c8_4 : decode cJx4a65c_init_da8c8 4 = .ok (.aload_n 0, 1) := by decide +kernel
theorem dJx4a65c_init_da8c8_5 : decode cJx4a65c_init_da8c8 5 = .ok (.getstatic 39, 3) := by decide +kernel
theorem dJx4a65c_init_da8c8_8 : decode cJx4a65c_init_da8c8 8 = .ok (.putfield 9, 3) := by decide +kernel
theorem dJx4a65c_init_da8c8_11 : decode cJx4a65c_init_da8c8 11 = .ok (.return_, 1) := by decide +kernel
theorem dJx4a65c_grow_92f84_0 : decode cJx4a65c_grow_92f84 0 = .ok (.aload_n 0, 1) := by decide +kernel
theorem dJx4a65c_grow_92f84_1 : decode cJx4a65c_grow_92f84 1 = .ok (.getfield 9, 3) := by decide +kernel
theorem dJx4a65c_grow_92f84_4 : decode cJx4a65c_grow_92f84 4 = .ok (.arraylength, 1) := by decide +kernel
theorem dJx4a65c_grow_92f84_5 : decode cJx4a65c_grow_92f84 5 = .ok (.istore_n 2, 1) := by decide +kernel
theorem dJx4a65c_grow_92f84_6 : decode cJx4a65c_grow_92f84 6 = .ok (.iload_n 2, 1) := by decide +kernel
theorem dJx4a65c_grow_92f84_7 : decode cJx4a65c_grow_92f84 7 = .ok (.ifCond .gt 13, 3) := by decide +kernel
theorem dJx4a65c_grow_92f84_10 : decode cJx4a65c_grow_92f84 10 = .ok (.aload_n 0, 1) := by decide +kernel
theorem dJx4a65c_grow_92f84_11 : decode cJx4a65c_grow_92f84 11 = .ok (.getfield 9, 3) := by decide +kernel
theorem dJx4a65c_grow_92f84_14 : decode cJx4a65c_grow_92f84 14 = .ok (.getstatic 39, 3) := by decide +kernel
theorem dJx4a65c_grow_92f84_17 : decode cJx4a65c_grow_92f84 17 = .ok (.if_acmp .eq 28, 3) := by decide +kernel
theorem dJx4a65c_grow_92f84_45 : decode cJx4a65c_grow_92f84 45 = .ok (.aload_n 0, 1) := by decide +kernel
theorem dJx4a65c_grow_92f84_46 : decode cJx4a65c_grow_92f84 46 = .ok (.bipush 10, 2) := by decide +kernel
theorem dJx4a65c_grow_92f84_48 : decode cJx4a65c_grow_92f84 48 = .ok (.iload_n 1, 1) := by decide +kernel
theorem dJx4a65c_grow_92f84_49 : decode cJx4a65c_grow_92f84 49 = .ok (.invokestatic 79, 3) := by decide +kernel
theorem dJx4a65c_grow_92f84_52 : decode cJx4a65c_grow_92f84 52 = .ok (.anewarray 7, 3) := by decide +kernel
theorem dJx4a65c_grow_92f84_55 : decode cJx4a65c_grow_92f84 55 = .ok (.dup_x1, 1) := by decide +kernel
theorem dJx4a65c_grow_92f84_56 : decode cJx4a65c_grow_92f84 56 = .ok (.putfield 9, 3) := by decide +kernel
theorem dJx4a65c_grow_92f84_59 : decode cJx4a65c_grow_92f84 59 = .ok (.areturn, 1) := by decide +kernel
theorem dJx4a65c_grow_d5877_0 : decode cJx4a65c_grow_d5877 0 = .ok (.aload_n 0, 1) := by decide +kernel
theorem dJx4a65c_grow_d5877_1 : decode cJx4a65c_grow_d5877 1 = .ok (.aload_n 0, 1) := by decide +kernel
theorem dJx4a65c_grow_d5877_2 : decode cJx4a65c_grow_d5877 2 = .ok (.getfield 48, 3) := by decide +kernel
theorem dJx4a65c_grow_d5877_5 : decode cJx4a65c_grow_d5877 5 = .ok (.iconst 1, 1) := by decide +kernel
theorem dJx4a65c_grow_d5877_6 : decode cJx4a65c_grow_d5877 6 = .ok (.iadd, 1) := by decide +kernel
theorem dJx4a65c_grow_d5877_7 : decode cJx4a65c_grow_d5877 7 = .ok (.invokevirtual 69, 3) := by decide +kernel
theorem dJx4a65c_grow_d5877_10 : decode cJx4a65c_grow_d5877 10 = .ok (.areturn, 1) := by decide +kernel
theorem dJx4a65c_size_8abf5_0 : decode cJx4a65c_size_8abf5 0 = .ok (.aload_n 0, 1) := by decide +kernel
theorem dJx4a65c_size_8abf5_1 : decode cJx4a65c_size_8abf5 1 = .ok (.getfield 48, 3) := by decide +kernel
theorem dJx4a65c_size_8abf5_4 : decode cJx4a65c_size_8abf5 4 = .ok (.ireturn, 1) := by decide +kernel
theorem dJx4a65c_isEmpty_aae02_0 : decode cJx4a65c_isEmpty_aae02 0 = .ok (.aload_n 0, 1) := by decide +kernel
theorem dJx4a65c_isEmpty_aae02_1 : decode cJx4a65c_isEmpty_aae02 1 = .ok (.getfield 48, 3) := by decide +kernel
theorem dJx4a65c_isEmpty_aae02_4 : decode cJx4a65c_isEmpty_aae02 4 = .ok (.ifCond .ne 7, 3) := by decide +kernel
theorem dJx4a65c_isEmpty_aae02_7 : decode cJx4a65c_isEmpty_aae02 7 = .ok (.iconst 1, 1) := by decide +kernel
theorem dJx4a65c_isEmpty_aae02_8 : decode cJx4a65c_isEmpty_aae02 8 = .ok (.goto 4, 3) := by decide +kernel
theorem dJx4a65c_isEmpty_aae02_12 : decode cJx4a65c_isEmpty_aae02 12 = .ok (.ireturn, 1) := by decide +kernel
theorem dJx4a65c_elementData_915e3_0 : decode cJx4a65c_elementData_915e3 0 = .ok (.aload_n 0, 1) := by decide +kernel
theorem dJx4a65c_elementData_915e3_1 : decode cJx4a65c_elementData_915e3 1 = .ok (.getfield 9, 3) := by decide +kernel
theorem dJx4a65c_elementData_915e3_4 : decode cJx4a65c_elementData_915e3 4 = .ok (.iload_n 1, 1) := by decide +kernel
theorem dJx4a65c_elementData_915e3_5 : decode cJx4a65c_elementData_915e3 5 = .ok (.aaload, 1) := by decide +kernel
theorem dJx4a65c_elementData_915e3_6 : decode cJx4a65c_elementData_915e3 6 = .ok (.areturn, 1) := by decide +kernel
theorem dJx4a65c_get_915e3_0 : decode cJx4a65c_get_915e3 0 = .ok (.iload_n 1, 1) := by decide +kernel
theorem dJx4a65c_get_915e3_1 : decode cJx4a65c_get_915e3 1 = .ok (.aload_n 0, 1) := by decide +kernel
theorem dJx4a65c_get_915e3_2 : decode cJx4a65c_get_915e3 2 = .ok (.getfield 48, 3) := by decide +kernel
theorem dJx4a65c_get_915e3_5 : decode cJx4a65c_get_915e3 5 = .ok (.invokestatic 118, 3) := by decide +kernel
theorem dJx4a65c_get_915e3_8 : decode cJx4a65c_get_915e3 8 = .ok (.pop, 1) := by decide +kernel
theorem dJx4a65c_get_915e3_9 : decode cJx4a65c_get_915e3 9 = .ok (.aload_n 0, 1) := by decide +kernel
theorem dJx4a65c_get_915e3_10 : decode cJx4a65c_get_915e3 10 = .ok (.iload_n 1, 1) := by decide +kernel
theorem dJx4a65c_get_915e3_11 : decode cJx4a65c_get_915e3 11 = .ok (.invokevirtual 123, 3) := by decide +kernel
theorem dJx4a65c_get_915e3_14 : decode cJx4a65c_get_915e3 14 = .ok (.areturn, 1) := by decide +kernel
theorem dJx4a65c_add_72be8_0 : decode cJx4a65c_add_72be8 0 = .ok (.iload_n 3, 1) := by decide +kernel
theorem dJx4a65c_add_72be8_1 : decode cJx4a65c_add_72be8 1 = .ok (.aload_n 2, 1) := by decide +kernel
theorem dJx4a65c_add_72be8_2 : decode cJx4a65c_add_72be8 2 = .ok (.arraylength, 1) := by decide +kernel
theorem dJx4a65c_add_72be8_3 : decode cJx4a65c_add_72be8 3 = .ok (.if_icmp .ne 8, 3) := by decide +kernel
theorem dJx4a65c_add_72be8_6 : decode cJx4a65c_add_72be8 6 = .ok (.aload_n 0, 1) := by decide +kernel
theorem dJx4a65c_add_72be8_7 : decode cJx4a65c_add_72be8 7 = .ok (.invokevirtual 129, 3) := by decide +kernel
theorem dJx4a65c_add_72be8_10 : decode cJx4a65c_add_72be8 10 = .ok (.astore_n 2, 1) := by decide +kernel
theorem dJx4a65c_add_72be8_11 : decode cJx4a65c_add_72be8 11 = .ok (.aload_n 2, 1) := by decide +kernel
theorem dJx4a65c_add_72be8_12 : decode cJx4a65c_add_72be8 12 = .ok (.iload_n 3, 1) := by decide +kernel
theorem dJx4a65c_add_72be8_13 : decode cJx4a65c_add_72be8 13 = .ok (.aload_n 1, 1) := by decide +kernel
theorem dJx4a65c_add_72be8_14 : decode cJx4a65c_add_72be8 14 = .ok (.aastore, 1) := by decide +kernel
theorem dJx4a65c_add_72be8_15 : decode cJx4a65c_add_72be8 15 = .ok (.aload_n 0, 1) := by decide +kernel
theorem dJx4a65c_add_72be8_16 : decode cJx4a65c_add_72be8 16 = .ok (.iload_n 3, 1) := by decide +kernel
theorem dJx4a65c_add_72be8_17 : decode cJx4a65c_add_72be8 17 = .ok (.iconst 1, 1) := by decide +kernel
theorem dJx4a65c_add_72be8_18 : decode cJx4a65c_add_72be8 18 = .ok (.iadd, 1) := by decide +kernel
theorem dJx4a65c_add_72be8_19 : decode cJx4a65c_add_72be8 19 = .ok (.putfield 48, 3) := by decide +kernel
theorem dJx4a65c_add_72be8_22 : decode cJx4a65c_add_72be8 22 = .ok (.return_, 1) := by decide +kernel
theorem dJx4a65c_add_9ea2d_0 : decode cJx4a65c_add_9ea2d 0 = .ok (.aload_n 0, 1) := by decide +kernel
theorem dJx4a65c_add_9ea2d_1 : decode cJx4a65c_add_9ea2d 1 = .ok (.dup, 1) := by decide +kernel
theorem dJx4a65c_add_9ea2d_2 : decode cJx4a65c_add_9ea2d 2 = .ok (.getfield 63, 3) := by decide +kernel
theorem dJx4a65c_add_9ea2d_5 : decode cJx4a65c_add_9ea2d 5 = .ok (.iconst 1, 1) := by decide +kernel
theorem dJx4a65c_add_9ea2d_6 : decode cJx4a65c_add_9ea2d 6 = .ok (.iadd, 1) := by decide +kernel
theorem dJx4a65c_add_9ea2d_7 : decode cJx4a65c_add_9ea2d 7 = .ok (.putfield 63, 3) := by decide +kernel
theorem dJx4a65c_add_9ea2d_10 : decode cJx4a65c_add_9ea2d 10 = .ok (.aload_n 0, 1) := by decide +kernel
theorem dJx4a65c_add_9ea2d_11 : decode cJx4a65c_add_9ea2d 11 = .ok (.aload_n 1, 1) := by decide +kernel
theorem dJx4a65c_add_9ea2d_12 : decode cJx4a65c_add_9ea2d 12 = .ok (.aload_n 0, 1) := by decide +kernel
theorem dJx4a65c_add_9ea2d_13 : decode cJx4a65c_add_9ea2d 13 = .ok (.getfield 9, 3) := by decide +kernel
theorem dJx4a65c_add_9ea2d_16 : decode cJx4a65c_add_9ea2d 16 = .ok (.aload_n 0, 1) := by decide +kernel
theorem dJx4a65c_add_9ea2d_17 : decode cJx4a65c_add_9ea2d 17 = .ok (.getfield 48, 3) := by decide +kernel
theorem dJx4a65c_add_9ea2d_20 : decode cJx4a65c_add_9ea2d 20 = .ok (.invokevirtual 131, 3) := by decide +kernel
theorem dJx4a65c_add_9ea2d_23 : decode cJx4a65c_add_9ea2d 23 = .ok (.iconst 1, 1) := by decide +kernel
theorem dJx4a65c_add_9ea2d_24 : decode cJx4a65c_add_9ea2d 24 = .ok (.ireturn, 1) := by decide +kernel
theorem dJ15_checkIndex_7cf53_0 : decode cJ15_checkIndex_7cf53 0 = .ok (.iload_n 0, 1) := by decide +kernel
theorem dJ15_checkIndex_7cf53_1 : decode cJ15_checkIndex_7cf53 1 = .ok (.iload_n 1, 1) := by decide +kernel
theorem dJ15_checkIndex_7cf53_2 : decode cJ15_checkIndex_7cf53 2 = .ok (.aconst_null, 1) := by decide +kernel
theorem dJ15_checkIndex_7cf53_3 : decode cJ15_checkIndex_7cf53 3 = .ok (.invokestatic 105, 3) := by decide +kernel
theorem dJ15_checkIndex_7cf53_6 : decode cJ15_checkIndex_7cf53 6 = .ok (.ireturn, 1) := by decide +kernel
theorem dJ3_checkIndex_8e157_0 : decode cJ3_checkIndex_8e157 0 = .ok (.iload_n 0, 1) := by decide +kernel
theorem dJ3_checkIndex_8e157_1 : decode cJ3_checkIndex_8e157 1 = .ok (.ifCond .lt 8, 3) := by decide +kernel
theorem dJ3_checkIndex_8e157_4 : decode cJ3_checkIndex_8e157 4 = .ok (.iload_n 0, 1) := by decide +kernel
theorem dJ3_checkIndex_8e157_5 : decode cJ3_checkIndex_8e157 5 = .ok (.iload_n 1, 1) := by decide +kernel
theorem dJ3_checkIndex_8e157_6 : decode cJ3_checkIndex_8e157 6 = .ok (.if_icmp .lt 10, 3) := by decide +kernel
theorem dJ3_checkIndex_8e157_16 : decode cJ3_checkIndex_8e157 16 = .ok (.iload_n 0, 1) := by decide +kernel
theorem dJ3_checkIndex_8e157_17 : decode cJ3_checkIndex_8e157 17 = .ok (.ireturn, 1) := by decide +kernel
set_option maxRecDepth 20000 in
theorem ggX18_start_X18_refuse : GoodIn wsX18_start wsX18_refuse := goodIn_r _ [6, 1, 7, 8, 9, 10, 11] (by decide +kernel) (by decide +kernel)
set_option maxRecDepth 20000 in
theorem gX18_start_X18_refuse : GoodIn wsX18_start (wsV RX18 38 RX18 yX18_refuse wsX18_refuse) := goodIn_app (goodIn_of _ (by decide +kernel)) ggX18_start_X18_refuse
set_option maxRecDepth 20000 in
theorem ggX18_isNoSort_Jx4a65c_size_8abf5 : GoodIn wsX18_isNoSort wsJx4a65c_size_8abf5 := goodIn_r _ [6, 7, 17, 18, 19] (by decide +kernel) (by decide +kernel)
set_option maxRecDepth 20000 in
theorem gX18_isNoSort_Jx4a65c_size_8abf5 : GoodIn wsX18_isNoSort (wsV RX18 47 RJx4a65c yJx4a65c_size_8abf5 wsJx4a65c_size_8abf5) := goodIn_app (goodIn_of _ (by decide +kernel)) ggX18_isNoSort_Jx4a65c_size_8abf5
set_option maxRecDepth 20000 in
theorem ggX18_isNoSort_X18_isIn : GoodIn wsX18_isNoSort wsX18_isIn := goodIn_r _ [11] (by decide +kernel) (by decide +kernel)
set_option maxRecDepth 20000 in
theorem gX18_isNoSort_X18_isIn : GoodIn wsX18_isNoSort (va_wsS RX18 51 yX18_isIn wsX18_isIn) := goodIn_app (goodIn_of _ (by decide +kernel)) ggX18_isNoSort_X18_isIn
set_option maxRecDepth 20000 in
theorem ggX18_isNoType_Jx4a65c_size_8abf5 : GoodIn wsX18_isNoType wsJx4a65c_size_8abf5 := goodIn_r _ [6, 7, 17, 18, 19] (by decide +kernel) (by decide +kernel)
set_option maxRecDepth 20000 in
theorem gX18_isNoType_Jx4a65c_size_8abf5 : GoodIn wsX18_isNoType (wsV RX18 47 RJx4a65c yJx4a65c_size_8abf5 wsJx4a65c_size_8abf5) := goodIn_app (goodIn_of _ (by decide +kernel)) ggX18_isNoType_Jx4a65c_size_8abf5
set_option maxRecDepth 20000 in
theorem ggX18_isNoType_X18_isIn : GoodIn wsX18_isNoType wsX18_isIn := goodIn_r _ [11] (by decide +kernel) (by decide +kernel)
set_option maxRecDepth 20000 in
theorem gX18_isNoType_X18_isIn : GoodIn wsX18_isNoType (va_wsS RX18 51 yX18_isIn wsX18_isIn) := goodIn_app (goodIn_of _ (by decide +kernel)) ggX18_isNoType_X18_isIn
set_option maxRecDepth 20000 in
theorem ggX18_isNoTypeOrNone_X18_isNoType : GoodIn wsX18_isNoTypeOrNone wsX18_isNoType := goodIn_r _ [5, 6, 7, 8, 9, 10, 11, 12, 13, 14, 4, 15, 16, 17, 18, 19, 20, 21, 22, 23] (by decide +kernel) (by decide +kernel)
set_option maxRecDepth 20000 in
theorem gX18_isNoTypeOrNone_X18_isNoType : GoodIn wsX18_isNoTypeOrNone (wsV RX18 55 RX18 yX18_isNoType wsX18_isNoType) := goodIn_app (goodIn_of _ (by decide +kernel)) ggX18_isNoTypeOrNone_X18_isNoType
set_option maxRecDepth 20000 in
theorem ggX18_isNoExpression_Jx4a65c_size_8abf5 : GoodIn wsX18_isNoExpression wsJx4a65c_size_8abf5 := goodIn_r _ [6, 7, 17, 18, 19] (by decide +kernel) (by decide +kernel)
set_option maxRecDepth 20000 in
theorem gX18_isNoExpression_Jx4a65c_size_8abf5 : GoodIn wsX18_isNoExpression (wsV RX18 47 RJx4a65c yJx4a65c_size_8abf5 wsJx4a65c_size_8abf5) := goodIn_app (goodIn_of _ (by decide +kernel)) ggX18_isNoExpression_Jx4a65c_size_8abf5
set_option maxRecDepth 20000 in
theorem ggX18_isNoExpression_X18_isIn : GoodIn wsX18_isNoExpression wsX18_isIn := goodIn_r _ [11] (by decide +kernel) (by decide +kernel)
set_option maxRecDepth 20000 in
theorem gX18_isNoExpression_X18_isIn : GoodIn wsX18_isNoExpression (va_wsS RX18 51 yX18_isIn wsX18_isIn) := goodIn_app (goodIn_of _ (by decide +kernel)) ggX18_isNoExpression_X18_isIn
set_option maxRecDepth 20000 in
theorem ggJxc12de_init_da8c8_Jxa1e45_init_da8c8 : GoodIn wsJxc12de_init_da8c8 wsJxa1e45_init_da8c8 := goodIn_r _ [5, 6, 7, 8] (by decide +kernel) (by decide +kernel)
set_option maxRecDepth 20000 in
theorem gJxc12de_init_da8c8_Jxa1e45_init_da8c8 : GoodIn wsJxc12de_init_da8c8 (wsJxa1e45_init_da8c8) := ggJxc12de_init_da8c8_Jxa1e45_init_da8c8
set_option maxRecDepth 20000 in
theorem ggJx4a65c_init_da8c8_Jxc12de_init_da8c8 : GoodIn wsJx4a65c_init_da8c8 wsJxc12de_init_da8c8 := goodIn_r _ [6, 7, 8, 9, 10, 11, 12, 13, 14, 15, 16, 17] (by decide +kernel) (by decide +kernel)
set_option maxRecDepth 20000 in
theorem gJx4a65c_init_da8c8_Jxc12de_init_da8c8 : GoodIn wsJx4a65c_init_da8c8 (wsJxc12de_init_da8c8) := ggJx4a65c_init_da8c8_Jxc12de_init_da8c8
set_option maxRecDepth 20000 in
theorem ggJx4a65c_grow_d5877_Jx4a65c_grow_92f84 : GoodIn wsJx4a65c_grow_d5877 wsJx4a65c_grow_92f84 := goodIn_r _ [6, 7, 8, 9, 10, 11, 12, 13, 14, 15, 16, 17, 18, 19, 20, 21, 22, 23, 24, 25, 26, 27, 28, 29, 30, 31, 32, 33, 34, 35, 36, 37, 38, 39, 40, 41, 42, 43, 44, 45] (by decide +kernel) (by decide +kernel)
set_option maxRecDepth 20000 in
theorem gJx4a65c_grow_d5877_Jx4a65c_grow_92f84 : GoodIn wsJx4a65c_grow_d5877 (wsV RJx4a65c 69 RJx4a65c yJx4a65c_grow_92f84 wsJx4a65c_grow_92f84) := goodIn_app (goodIn_of _ (by decide +kernel)) ggJx4a65c_grow_d5877_Jx4a65c_grow_92f84
set_option maxRecDepth 20000 in
theorem ggJx4a65c_get_915e3_J15_checkIndex_7cf53 : GoodIn wsJx4a65c_get_915e3 wsJ15_checkIndex_7cf53 := goodIn_r _ [5, 6, 7, 8, 9] (by decide +kernel) (by decide +kernel)
set_option maxRecDepth 20000 in
theorem gJx4a65c_get_915e3_J15_checkIndex_7cf53 : GoodIn wsJx4a65c_get_915e3 (va_wsS RJx4a65c 118 yJ15_checkIndex_7cf53 wsJ15_checkIndex_7cf53) := goodIn_app (goodIn_of _ (by decide +kernel)) ggJx4a65c_get_915e3_J15_checkIndex_7cf53
set_option maxRecDepth 20000 in
theorem ggJx4a65c_get_915e3_Jx4a65c_elementData_915e3 : GoodIn wsJx4a65c_get_915e3 wsJx4a65c_elementData_915e3 := goodIn_r _ [14, 15, 16, 17, 18] (by decide +kernel) (by decide +kernel)
set_option maxRecDepth 20000 in
theorem gJx4a65c_get_915e3_Jx4a65c_elementData_915e3 : GoodIn wsJx4a65c_get_915e3 (wsV RJx4a65c 123 RJx4a65c yJx4a65c_elementData_915e3 wsJx4a65c_elementData_915e3) := goodIn_app (goodIn_of _ (by decide +kernel)) ggJx4a65c_get_915e3_Jx4a65c_elementData_915e3
set_option maxRecDepth 20000 in
theorem ggJx4a65c_add_72be8_Jx4a65c_grow_d5877 : GoodIn wsJx4a65c_add_72be8 wsJx4a65c_grow_d5877 := goodIn_r _ [6, 1, 7, 8, 9, 5, 10, 11, 12, 13, 14, 15, 16, 17, 18, 19, 20, 21, 22, 23, 24, 25, 26, 27, 28, 29, 30, 31, 32, 33, 34, 35, 36, 37, 38, 39, 40, 41, 42, 43, 44, 45, 46, 47, 48, 49] (by decide +kernel) (by decide +kernel)
set_option maxRecDepth 20000 in
theorem gJx4a65c_add_72be8_Jx4a65c_grow_d5877 : GoodIn wsJx4a65c_add_72be8 (wsV RJx4a65c 129 RJx4a65c yJx4a65c_grow_d5877 wsJx4a65c_grow_d5877) := goodIn_app (goodIn_of _ (by decide +kernel)) ggJx4a65c_add_72be8_Jx4a65c_grow_d5877
set_option maxRecDepth 20000 in
theorem ggJx4a65c_add_9ea2d_Jx4a65c_add_72be8 : GoodIn wsJx4a65c_add_9ea2d wsJx4a65c_add_72be8 := goodIn_r _ [9, 4, 10, 11, 12, 8, 13, 14, 15, 16, 17, 3, 18, 19, 20, 21, 22, 23, 24, 25, 26, 27, 28, 29, 30, 31, 32, 33, 34, 35, 36, 37, 38, 39, 40, 41, 42, 43, 44, 45, 46, 47, 48, 49, 50, 51, 52, 53, 54, 55] (by decide +kernel) (by decide +kernel)
set_option maxRecDepth 20000 in
theorem gJx4a65c_add_9ea2d_Jx4a65c_add_72be8 : GoodIn wsJx4a65c_add_9ea2d (wsV RJx4a65c 131 RJx4a65c yJx4a65c_add_72be8 wsJx4a65c_add_72be8) := goodIn_app (goodIn_of _ (by decide +kernel)) ggJx4a65c_add_9ea2d_Jx4a65c_add_72be8
set_option maxRecDepth 20000 in
theorem ggJ15_checkIndex_7cf53_J3_checkIndex_8e157 : GoodIn wsJ15_checkIndex_7cf53 wsJ3_checkIndex_8e157 := goodIn_r _ [4] (by decide +kernel) (by decide +kernel)
set_option maxRecDepth 20000 in
theorem gJ15_checkIndex_7cf53_J3_checkIndex_8e157 : GoodIn wsJ15_checkIndex_7cf53 (va_wsS RJ15 105 yJ3_checkIndex_8e157 wsJ3_checkIndex_8e157) := goodIn_app (goodIn_of _ (by decide +kernel)) ggJ15_checkIndex_7cf53_J3_checkIndex_8e157
