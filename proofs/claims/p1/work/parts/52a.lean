theorem dX11_needType_0 : decode cX11_needType 0 = .ok (.iload_n 1, 1) := by decide +kernel
theorem dX11_needType_1 : decode cX11_needType 1 = .ok (.ifCond .lt 14, 3) := by decide +kernel
theorem dX11_needType_15 : decode cX11_needType 15 = .ok (.new 277, 3) := by decide +kernel
theorem dX11_needType_18 : decode cX11_needType 18 = .ok (.dup, 1) := by decide +kernel
theorem dX11_needType_19 : decode cX11_needType 19 = .ok (.ldc_w 353, 3) := by decide +kernel
theorem dX11_needType_22 : decode cX11_needType 22 = .ok (.invokespecial 281, 3) := by decide +kernel
theorem dX11_needType_25 : decode cX11_needType 25 = .ok (.athrow, 1) := by decide +kernel
theorem dX11_needType_4 : decode cX11_needType 4 = .ok (.iload_n 1, 1) := by decide +kernel
theorem dX11_needType_5 : decode cX11_needType 5 = .ok (.aload_n 0, 1) := by decide +kernel
theorem dX11_needType_6 : decode cX11_needType 6 = .ok (.getfield 31, 3) := by decide +kernel
theorem dX11_needType_9 : decode cX11_needType 9 = .ok (.getfield 344, 3) := by decide +kernel
theorem dX11_needType_12 : decode cX11_needType 12 = .ok (.if_icmp .lt 14, 3) := by decide +kernel
theorem dX11_needType_26 : decode cX11_needType 26 = .ok (.return_, 1) := by decide +kernel
theorem dX11_needTypeOrNone_0 : decode cX11_needTypeOrNone 0 = .ok (.iload_n 1, 1) := by decide +kernel
theorem dX11_needTypeOrNone_1 : decode cX11_needTypeOrNone 1 = .ok (.iconst (-1), 1) := by decide +kernel
theorem dX11_needTypeOrNone_2 : decode cX11_needTypeOrNone 2 = .ok (.if_icmp .eq 8, 3) := by decide +kernel
theorem dX11_needTypeOrNone_10 : decode cX11_needTypeOrNone 10 = .ok (.return_, 1) := by decide +kernel
theorem dX11_needTypeOrNone_5 : decode cX11_needTypeOrNone 5 = .ok (.aload_n 0, 1) := by decide +kernel
theorem dX11_needTypeOrNone_6 : decode cX11_needTypeOrNone 6 = .ok (.iload_n 1, 1) := by decide +kernel
theorem dX11_needTypeOrNone_7 : decode cX11_needTypeOrNone 7 = .ok (.invokevirtual 116, 3) := by decide +kernel
theorem dX11_needSort_0 : decode cX11_needSort 0 = .ok (.iload_n 1, 1) := by decide +kernel
theorem dX11_needSort_1 : decode cX11_needSort 1 = .ok (.ifCond .lt 14, 3) := by decide +kernel
theorem dX11_needSort_15 : decode cX11_needSort 15 = .ok (.new 277, 3) := by decide +kernel
theorem dX11_needSort_18 : decode cX11_needSort 18 = .ok (.dup, 1) := by decide +kernel
theorem dX11_needSort_19 : decode cX11_needSort 19 = .ok (.ldc_w 351, 3) := by decide +kernel
theorem dX11_needSort_22 : decode cX11_needSort 22 = .ok (.invokespecial 281, 3) := by decide +kernel
theorem dX11_needSort_25 : decode cX11_needSort 25 = .ok (.athrow, 1) := by decide +kernel
theorem dX11_needSort_4 : decode cX11_needSort 4 = .ok (.iload_n 1, 1) := by decide +kernel
theorem dX11_needSort_5 : decode cX11_needSort 5 = .ok (.aload_n 0, 1) := by decide +kernel
theorem dX11_needSort_6 : decode cX11_needSort 6 = .ok (.getfield 42, 3) := by decide +kernel
theorem dX11_needSort_9 : decode cX11_needSort 9 = .ok (.invokevirtual 73, 3) := by decide +kernel
theorem dX11_needSort_12 : decode cX11_needSort 12 = .ok (.if_icmp .lt 14, 3) := by decide +kernel
theorem dX11_needExpression_0 : decode cX11_needExpression 0 = .ok (.iload_n 1, 1) := by decide +kernel
theorem dX11_needExpression_1 : decode cX11_needExpression 1 = .ok (.ifCond .lt 18, 3) := by decide +kernel
theorem dX11_needExpression_19 : decode cX11_needExpression 19 = .ok (.iconst 0, 1) := by decide +kernel
theorem dX11_needExpression_20 : decode cX11_needExpression 20 = .ok (.istore_n 2, 1) := by decide +kernel
theorem dX11_needExpression_21 : decode cX11_needExpression 21 = .ok (.iload_n 2, 1) := by decide +kernel
theorem dX11_needExpression_22 : decode cX11_needExpression 22 = .ok (.ifCond .ne 14, 3) := by decide +kernel
theorem dX11_needExpression_25 : decode cX11_needExpression 25 = .ok (.new 277, 3) := by decide +kernel
theorem dX11_needExpression_28 : decode cX11_needExpression 28 = .ok (.dup, 1) := by decide +kernel
theorem dX11_needExpression_29 : decode cX11_needExpression 29 = .ok (.ldc_w 355, 3) := by decide +kernel
theorem dX11_needExpression_32 : decode cX11_needExpression 32 = .ok (.invokespecial 281, 3) := by decide +kernel
theorem dX11_needExpression_35 : decode cX11_needExpression 35 = .ok (.athrow, 1) := by decide +kernel
theorem dX11_needExpression_4 : decode cX11_needExpression 4 = .ok (.iload_n 1, 1) := by decide +kernel
theorem dX11_needExpression_5 : decode cX11_needExpression 5 = .ok (.aload_n 0, 1) := by decide +kernel
theorem dX11_needExpression_6 : decode cX11_needExpression 6 = .ok (.getfield 12, 3) := by decide +kernel
theorem dX11_needExpression_9 : decode cX11_needExpression 9 = .ok (.invokevirtual 73, 3) := by decide +kernel
theorem dX11_needExpression_12 : decode cX11_needExpression 12 = .ok (.if_icmp .ge 7, 3) := by decide +kernel
theorem dX11_needParameter_0 : decode cX11_needParameter 0 = .ok (.aload_n 0, 1) := by decide +kernel
theorem dX11_needParameter_1 : decode cX11_needParameter 1 = .ok (.iload_n 1, 1) := by decide +kernel
theorem dX11_needParameter_2 : decode cX11_needParameter 2 = .ok (.invokevirtual 112, 3) := by decide +kernel
theorem dX11_needName_0 : decode cX11_needName 0 = .ok (.iload_n 0, 1) := by decide +kernel
theorem dX11_needName_1 : decode cX11_needName 1 = .ok (.ifCond .lt 9, 3) := by decide +kernel
theorem dX11_needName_10 : decode cX11_needName 10 = .ok (.new 66, 3) := by decide +kernel
theorem dX11_needName_13 : decode cX11_needName 13 = .ok (.dup, 1) := by decide +kernel
theorem dX11_needName_14 : decode cX11_needName 14 = .ok (.ldc_w 361, 3) := by decide +kernel
theorem dX11_needName_17 : decode cX11_needName 17 = .ok (.invokespecial 70, 3) := by decide +kernel
theorem dX11_needName_20 : decode cX11_needName 20 = .ok (.athrow, 1) := by decide +kernel
theorem dX11_needName_4 : decode cX11_needName 4 = .ok (.iload_n 0, 1) := by decide +kernel
theorem dX11_needName_5 : decode cX11_needName 5 = .ok (.bipush 10, 2) := by decide +kernel
theorem dX11_needName_7 : decode cX11_needName 7 = .ok (.if_icmp .lt 14, 3) := by decide +kernel
theorem dX11_needName_21 : decode cX11_needName 21 = .ok (.return_, 1) := by decide +kernel
theorem dX11_needInOrder_0 : decode cX11_needInOrder 0 = .ok (.iload_n 0, 1) := by decide +kernel
theorem dX11_needInOrder_1 : decode cX11_needInOrder 1 = .ok (.iconst (-1), 1) := by decide +kernel
theorem dX11_needInOrder_2 : decode cX11_needInOrder 2 = .ok (.if_icmp .ne 19, 3) := by decide +kernel
theorem dX11_needInOrder_5 : decode cX11_needInOrder 5 = .ok (.iload_n 1, 1) := by decide +kernel
theorem dX11_needInOrder_6 : decode cX11_needInOrder 6 = .ok (.iconst (-1), 1) := by decide +kernel
theorem dX11_needInOrder_7 : decode cX11_needInOrder 7 = .ok (.if_icmp .eq 14, 3) := by decide +kernel
theorem dX11_needInOrder_21 : decode cX11_needInOrder 21 = .ok (.return_, 1) := by decide +kernel
theorem dX11_needInOrder_10 : decode cX11_needInOrder 10 = .ok (.new 66, 3) := by decide +kernel
theorem dX11_needInOrder_13 : decode cX11_needInOrder 13 = .ok (.dup, 1) := by decide +kernel
theorem dX11_needInOrder_14 : decode cX11_needInOrder 14 = .ok (.ldc_w 363, 3) := by decide +kernel
theorem dX11_needInOrder_17 : decode cX11_needInOrder 17 = .ok (.invokespecial 70, 3) := by decide +kernel
theorem dX11_needInOrder_20 : decode cX11_needInOrder 20 = .ok (.athrow, 1) := by decide +kernel
theorem dX11_has_0 : decode cX11_has 0 = .ok (.aload_n 0, 1) := by decide +kernel
theorem dX11_has_1 : decode cX11_has 1 = .ok (.getfield 38, 3) := by decide +kernel
theorem dX11_has_4 : decode cX11_has 4 = .ok (.iload_n 1, 1) := by decide +kernel
theorem dX11_has_5 : decode cX11_has 5 = .ok (.invokevirtual 367, 3) := by decide +kernel
theorem dX11_has_8 : decode cX11_has 8 = .ok (.iload_n 2, 1) := by decide +kernel
theorem dX11_has_9 : decode cX11_has 9 = .ok (.iand, 1) := by decide +kernel
theorem dX11_has_10 : decode cX11_has 10 = .ok (.ifCond .eq 7, 3) := by decide +kernel
theorem dX11_has_17 : decode cX11_has 17 = .ok (.iconst 0, 1) := by decide +kernel
theorem dX11_has_18 : decode cX11_has 18 = .ok (.ireturn, 1) := by decide +kernel
theorem dX11_has_13 : decode cX11_has 13 = .ok (.iconst 1, 1) := by decide +kernel
theorem dX11_has_14 : decode cX11_has 14 = .ok (.goto 4, 3) := by decide +kernel
theorem dX11_needClosed_0 : decode cX11_needClosed 0 = .ok (.aload_n 0, 1) := by decide +kernel
theorem dX11_needClosed_1 : decode cX11_needClosed 1 = .ok (.aload_n 0, 1) := by decide +kernel
theorem dX11_needClosed_2 : decode cX11_needClosed 2 = .ok (.getfield 31, 3) := by decide +kernel
theorem dX11_needClosed_5 : decode cX11_needClosed 5 = .ok (.iload_n 1, 1) := by decide +kernel
theorem dX11_needClosed_6 : decode cX11_needClosed 6 = .ok (.invokevirtual 123, 3) := by decide +kernel
theorem dX11_needClosed_9 : decode cX11_needClosed 9 = .ok (.bipush 7, 2) := by decide +kernel
theorem dX11_needClosed_11 : decode cX11_needClosed 11 = .ok (.invokevirtual 138, 3) := by decide +kernel
theorem dX11_needClosed_14 : decode cX11_needClosed 14 = .ok (.ifCond .eq 14, 3) := by decide +kernel
theorem dX11_needClosed_28 : decode cX11_needClosed 28 = .ok (.return_, 1) := by decide +kernel
theorem dX11_needClosed_17 : decode cX11_needClosed 17 = .ok (.new 66, 3) := by decide +kernel
theorem dX11_needClosed_20 : decode cX11_needClosed 20 = .ok (.dup, 1) := by decide +kernel
theorem dX11_needClosed_21 : decode cX11_needClosed 21 = .ok (.ldc_w 357, 3) := by decide +kernel
theorem dX11_needClosed_24 : decode cX11_needClosed 24 = .ok (.invokespecial 70, 3) := by decide +kernel
theorem dX11_needClosed_27 : decode cX11_needClosed 27 = .ok (.athrow, 1) := by decide +kernel
theorem dX11_needSpaceForType_0 : decode cX11_needSpaceForType 0 = .ok (.aload_n 0, 1) := by decide +kernel
theorem dX11_needSpaceForType_1 : decode cX11_needSpaceForType 1 = .ok (.getfield 31, 3) := by decide +kernel
theorem dX11_needSpaceForType_4 : decode cX11_needSpaceForType 4 = .ok (.getfield 344, 3) := by decide +kernel
theorem dX11_needSpaceForType_7 : decode cX11_needSpaceForType 7 = .ok (.bipush 60, 2) := by decide +kernel
theorem dX11_needSpaceForType_9 : decode cX11_needSpaceForType 9 = .ok (.if_icmp .lt 14, 3) := by decide +kernel
theorem dX11_needSpaceForType_23 : decode cX11_needSpaceForType 23 = .ok (.return_, 1) := by decide +kernel
theorem dX11_freshen_0 : decode cX11_freshen 0 = .ok (.aload_n 0, 1) := by decide +kernel
theorem dX11_freshen_1 : decode cX11_freshen 1 = .ok (.getfield 54, 3) := by decide +kernel
theorem dX11_freshen_4 : decode cX11_freshen 4 = .ok (.aload_n 0, 1) := by decide +kernel
theorem dX11_freshen_5 : decode cX11_freshen 5 = .ok (.getfield 12, 3) := by decide +kernel
theorem dX11_freshen_8 : decode cX11_freshen 8 = .ok (.invokevirtual 73, 3) := by decide +kernel
theorem dX11_freshen_11 : decode cX11_freshen 11 = .ok (.if_icmp .ge 245, 3) := by decide +kernel
theorem dX11_freshen_256 : decode cX11_freshen 256 = .ok (.return_, 1) := by decide +kernel
theorem dX11_noteFlaws_0 : decode cX11_noteFlaws 0 = .ok (.aload_n 0, 1) := by decide +kernel
theorem dX11_noteFlaws_1 : decode cX11_noteFlaws 1 = .ok (.getfield 58, 3) := by decide +kernel
theorem dX11_noteFlaws_4 : decode cX11_noteFlaws 4 = .ok (.ifCond .eq 4, 3) := by decide +kernel
theorem dX11_noteFlaws_7 : decode cX11_noteFlaws 7 = .ok (.return_, 1) := by decide +kernel
theorem dX11_countFaults_0 : decode cX11_countFaults 0 = .ok (.iconst 0, 1) := by decide +kernel
theorem dX11_countFaults_1 : decode cX11_countFaults 1 = .ok (.istore_n 1, 1) := by decide +kernel
theorem dX11_countFaults_2 : decode cX11_countFaults 2 = .ok (.iconst 0, 1) := by decide +kernel
theorem dX11_countFaults_3 : decode cX11_countFaults 3 = .ok (.istore_n 2, 1) := by decide +kernel
theorem dX11_countFaults_4 : decode cX11_countFaults 4 = .ok (.iload_n 2, 1) := by decide +kernel
theorem dX11_countFaults_5 : decode cX11_countFaults 5 = .ok (.aload_n 0, 1) := by decide +kernel
theorem dX11_countFaults_6 : decode cX11_countFaults 6 = .ok (.getfield 12, 3) := by decide +kernel
theorem dX11_countFaults_9 : decode cX11_countFaults 9 = .ok (.invokevirtual 73, 3) := by decide +kernel
theorem dX11_countFaults_12 : decode cX11_countFaults 12 = .ok (.if_icmp .ge 29, 3) := by decide +kernel
theorem dX11_countFaults_41 : decode cX11_countFaults 41 = .ok (.iload_n 1, 1) := by decide +kernel
theorem dX11_countFaults_42 : decode cX11_countFaults 42 = .ok (.ireturn, 1) := by decide +kernel
theorem dX11_faultAt_0 : decode cX11_faultAt 0 = .ok (.iload_n 1, 1) := by decide +kernel
theorem dX11_faultAt_1 : decode cX11_faultAt 1 = .ok (.istore_n 2, 1) := by decide +kernel
theorem dX11_faultAt_2 : decode cX11_faultAt 2 = .ok (.iconst 0, 1) := by decide +kernel
theorem dX11_faultAt_3 : decode cX11_faultAt 3 = .ok (.istore_n 3, 1) := by decide +kernel
theorem dX11_faultAt_4 : decode cX11_faultAt 4 = .ok (.iload_n 3, 1) := by decide +kernel
theorem dX11_faultAt_5 : decode cX11_faultAt 5 = .ok (.aload_n 0, 1) := by decide +kernel
theorem dX11_faultAt_6 : decode cX11_faultAt 6 = .ok (.getfield 12, 3) := by decide +kernel
theorem dX11_faultAt_9 : decode cX11_faultAt 9 = .ok (.invokevirtual 73, 3) := by decide +kernel
theorem dX11_faultAt_12 : decode cX11_faultAt 12 = .ok (.if_icmp .ge 47, 3) := by decide +kernel
theorem dX11_faultAt_59 : decode cX11_faultAt 59 = .ok (.aconst_null, 1) := by decide +kernel
theorem dX11_faultAt_60 : decode cX11_faultAt 60 = .ok (.areturn, 1) := by decide +kernel
theorem dX11_countOf_0 : decode cX11_countOf 0 = .ok (.iload_n 1, 1) := by decide +kernel
theorem dX11_countOf_1 : decode cX11_countOf 1 = .ok (.tableswitch 51 0 2 #[27, 35, 43], 27) := by decide +kernel
theorem dX11_countOf_28 : decode cX11_countOf 28 = .ok (.aload_n 0, 1) := by decide +kernel
theorem dX11_countOf_29 : decode cX11_countOf 29 = .ok (.getfield 42, 3) := by decide +kernel
theorem dX11_countOf_32 : decode cX11_countOf 32 = .ok (.invokevirtual 73, 3) := by decide +kernel
theorem dX11_countOf_35 : decode cX11_countOf 35 = .ok (.ireturn, 1) := by decide +kernel
theorem dX11_countOf_36 : decode cX11_countOf 36 = .ok (.aload_n 0, 1) := by decide +kernel
theorem dX11_countOf_37 : decode cX11_countOf 37 = .ok (.getfield 31, 3) := by decide +kernel
theorem dX11_countOf_40 : decode cX11_countOf 40 = .ok (.getfield 344, 3) := by decide +kernel
theorem dX11_countOf_43 : decode cX11_countOf 43 = .ok (.ireturn, 1) := by decide +kernel
theorem dX11_countOf_44 : decode cX11_countOf 44 = .ok (.aload_n 0, 1) := by decide +kernel
theorem dX11_countOf_45 : decode cX11_countOf 45 = .ok (.getfield 26, 3) := by decide +kernel
theorem dX11_countOf_48 : decode cX11_countOf 48 = .ok (.invokevirtual 73, 3) := by decide +kernel
theorem dX11_countOf_51 : decode cX11_countOf 51 = .ok (.ireturn, 1) := by decide +kernel
theorem dX11_countOf_52 : decode cX11_countOf 52 = .ok (.aload_n 0, 1) := by decide +kernel
theorem dX11_countOf_53 : decode cX11_countOf 53 = .ok (.getfield 12, 3) := by decide +kernel
theorem dX11_countOf_56 : decode cX11_countOf 56 = .ok (.invokevirtual 73, 3) := by decide +kernel
theorem dX11_countOf_59 : decode cX11_countOf 59 = .ok (.ireturn, 1) := by decide +kernel
theorem dX11_roadAt_0 : decode cX11_roadAt 0 = .ok (.aload_n 0, 1) := by decide +kernel
theorem dX11_roadAt_1 : decode cX11_roadAt 1 = .ok (.getfield 38, 3) := by decide +kernel
theorem dX11_roadAt_4 : decode cX11_roadAt 4 = .ok (.iload_n 1, 1) := by decide +kernel
theorem dX11_roadAt_5 : decode cX11_roadAt 5 = .ok (.invokevirtual 127, 3) := by decide +kernel
theorem dX11_roadAt_8 : decode cX11_roadAt 8 = .ok (.istore_n 3, 1) := by decide +kernel
theorem dX11_roadAt_9 : decode cX11_roadAt 9 = .ok (.iload_n 3, 1) := by decide +kernel
theorem dX11_roadAt_10 : decode cX11_roadAt 10 = .ok (.aload_n 0, 1) := by decide +kernel
theorem dX11_roadAt_11 : decode cX11_roadAt 11 = .ok (.getfield 42, 3) := by decide +kernel
theorem dX11_roadAt_14 : decode cX11_roadAt 14 = .ok (.invokevirtual 73, 3) := by decide +kernel
theorem dX11_roadAt_17 : decode cX11_roadAt 17 = .ok (.if_icmp .lt 7, 3) := by decide +kernel
theorem dX11_roadAt_20 : decode cX11_roadAt 20 = .ok (.iconst (-1), 1) := by decide +kernel
theorem dX11_roadAt_21 : decode cX11_roadAt 21 = .ok (.goto 18, 3) := by decide +kernel
theorem dX11_roadAt_39 : decode cX11_roadAt 39 = .ok (.istore 4, 2) := by decide +kernel
theorem dX11_roadAt_41 : decode cX11_roadAt 41 = .ok (.iload 4, 2) := by decide +kernel
theorem dX11_roadAt_43 : decode cX11_roadAt 43 = .ok (.iconst (-1), 1) := by decide +kernel
theorem dX11_roadAt_44 : decode cX11_roadAt 44 = .ok (.if_icmp .eq 9, 3) := by decide +kernel
theorem dX11_roadAt_53 : decode cX11_roadAt 53 = .ok (.iload 4, 2) := by decide +kernel
theorem dX11_roadAt_55 : decode cX11_roadAt 55 = .ok (.iconst (-1), 1) := by decide +kernel
theorem dX11_roadAt_56 : decode cX11_roadAt 56 = .ok (.if_icmp .ne 7, 3) := by decide +kernel
theorem dX11_roadAt_59 : decode cX11_roadAt 59 = .ok (.iconst (-1), 1) := by decide +kernel
theorem dX11_roadAt_60 : decode cX11_roadAt 60 = .ok (.goto 18, 3) := by decide +kernel
theorem dX11_roadAt_78 : decode cX11_roadAt 78 = .ok (.ireturn, 1) := by decide +kernel
theorem dX11_mixed_0 : decode cX11_mixed 0 = .ok (.lload_n 0, 1) := by decide +kernel
theorem dX11_mixed_1 : decode cX11_mixed 1 = .ok (.ldc2_w 444, 3) := by decide +kernel
theorem dX11_mixed_4 : decode cX11_mixed 4 = .ok (.lmul, 1) := by decide +kernel
theorem dX11_mixed_5 : decode cX11_mixed 5 = .ok (.lload_n 2, 1) := by decide +kernel
theorem dX11_mixed_6 : decode cX11_mixed 6 = .ok (.ladd, 1) := by decide +kernel
theorem dX11_mixed_7 : decode cX11_mixed 7 = .ok (.lreturn, 1) := by decide +kernel
theorem dX11_isHow_0 : decode cX11_isHow 0 = .ok (.iload_n 0, 1) := by decide +kernel
theorem dX11_isHow_1 : decode cX11_isHow 1 = .ok (.ifCond .eq 13, 3) := by decide +kernel
theorem dX11_isHow_4 : decode cX11_isHow 4 = .ok (.iload_n 0, 1) := by decide +kernel
theorem dX11_isHow_5 : decode cX11_isHow 5 = .ok (.iconst 1, 1) := by decide +kernel
theorem dX11_isHow_6 : decode cX11_isHow 6 = .ok (.if_icmp .eq 8, 3) := by decide +kernel
theorem dX11_isHow_9 : decode cX11_isHow 9 = .ok (.iload_n 0, 1) := by decide +kernel
theorem dX11_isHow_10 : decode cX11_isHow 10 = .ok (.iconst 2, 1) := by decide +kernel
theorem dX11_isHow_11 : decode cX11_isHow 11 = .ok (.if_icmp .ne 7, 3) := by decide +kernel
theorem dX11_isHow_18 : decode cX11_isHow 18 = .ok (.iconst 0, 1) := by decide +kernel
theorem dX11_isHow_19 : decode cX11_isHow 19 = .ok (.ireturn, 1) := by decide +kernel
theorem dX11_isHow_14 : decode cX11_isHow 14 = .ok (.iconst 1, 1) := by decide +kernel
theorem dX11_isHow_15 : decode cX11_isHow 15 = .ok (.goto 4, 3) := by decide +kernel
theorem dX9_init_0 : decode cX9_init 0 = .ok (.aload_n 0, 1) := by decide +kernel
theorem dX9_init_1 : decode cX9_init 1 = .ok (.invokespecial 3, 3) := by decide +kernel
theorem dX9_init_4 : decode cX9_init 4 = .ok (.aload_n 0, 1) := by decide +kernel
theorem dX9_init_5 : decode cX9_init 5 = .ok (.iconst (-1), 1) := by decide +kernel
theorem dX9_init_6 : decode cX9_init 6 = .ok (.putfield 9, 3) := by decide +kernel
theorem dX9_init_9 : decode cX9_init 9 = .ok (.aload_n 0, 1) := by decide +kernel
theorem dX9_init_10 : decode cX9_init 10 = .ok (.iconst (-1), 1) := by decide +kernel
theorem dX9_init_11 : decode cX9_init 11 = .ok (.putfield 15, 3) := by decide +kernel
theorem dX9_init_14 : decode cX9_init 14 = .ok (.aload_n 0, 1) := by decide +kernel
theorem dX9_init_15 : decode cX9_init 15 = .ok (.bipush 12, 2) := by decide +kernel
theorem dX9_init_17 : decode cX9_init 17 = .ok (.newarray .int, 2) := by decide +kernel
theorem dX9_init_19 : decode cX9_init 19 = .ok (.putfield 18, 3) := by decide +kernel
theorem dX9_init_22 : decode cX9_init 22 = .ok (.return_, 1) := by decide +kernel
theorem dX9_goesTo_0 : decode cX9_goesTo 0 = .ok (.iload_n 1, 1) := by decide +kernel
theorem dX9_goesTo_1 : decode cX9_goesTo 1 = .ok (.ifCond .lt 25, 3) := by decide +kernel
theorem dX9_goesTo_4 : decode cX9_goesTo 4 = .ok (.iload_n 1, 1) := by decide +kernel
theorem dX9_goesTo_5 : decode cX9_goesTo 5 = .ok (.bipush 12, 2) := by decide +kernel
theorem dX9_goesTo_7 : decode cX9_goesTo 7 = .ok (.if_icmp .ge 19, 3) := by decide +kernel
theorem dX9_goesTo_10 : decode cX9_goesTo 10 = .ok (.aload_n 0, 1) := by decide +kernel
theorem dX9_goesTo_11 : decode cX9_goesTo 11 = .ok (.getfield 28, 3) := by decide +kernel
theorem dX9_goesTo_14 : decode cX9_goesTo 14 = .ok (.iload_n 1, 1) := by decide +kernel
theorem dX9_goesTo_15 : decode cX9_goesTo 15 = .ok (.ishr, 1) := by decide +kernel
theorem dX9_goesTo_16 : decode cX9_goesTo 16 = .ok (.iconst 1, 1) := by decide +kernel
theorem dX9_goesTo_17 : decode cX9_goesTo 17 = .ok (.iand, 1) := by decide +kernel
theorem dX9_goesTo_18 : decode cX9_goesTo 18 = .ok (.iconst 1, 1) := by decide +kernel
theorem dX9_goesTo_19 : decode cX9_goesTo 19 = .ok (.if_icmp .ne 7, 3) := by decide +kernel
theorem dX9_goesTo_26 : decode cX9_goesTo 26 = .ok (.iconst 0, 1) := by decide +kernel
theorem dX9_goesTo_27 : decode cX9_goesTo 27 = .ok (.ireturn, 1) := by decide +kernel
theorem dX9_pass_0 : decode cX9_pass 0 = .ok (.iload_n 1, 1) := by decide +kernel
theorem dX9_pass_1 : decode cX9_pass 1 = .ok (.ifCond .lt 23, 3) := by decide +kernel
theorem dX9_pass_4 : decode cX9_pass 4 = .ok (.aload_n 0, 1) := by decide +kernel
theorem dX9_pass_5 : decode cX9_pass 5 = .ok (.iload_n 1, 1) := by decide +kernel
theorem dX9_pass_6 : decode cX9_pass 6 = .ok (.invokevirtual 45, 3) := by decide +kernel
theorem dX9_pass_9 : decode cX9_pass 9 = .ok (.ifCond .ne 15, 3) := by decide +kernel
theorem dX9_pass_12 : decode cX9_pass 12 = .ok (.aload_n 0, 1) := by decide +kernel
theorem dX9_pass_13 : decode cX9_pass 13 = .ok (.getfield 31, 3) := by decide +kernel
theorem dX9_pass_16 : decode cX9_pass 16 = .ok (.aload_n 0, 1) := by decide +kernel
theorem dX9_pass_17 : decode cX9_pass 17 = .ok (.getfield 18, 3) := by decide +kernel
theorem dX9_pass_20 : decode cX9_pass 20 = .ok (.arraylength, 1) := by decide +kernel
theorem dX9_pass_21 : decode cX9_pass 21 = .ok (.if_icmp .lt 4, 3) := by decide +kernel
theorem dX9_pass_25 : decode cX9_pass 25 = .ok (.aload_n 0, 1) := by decide +kernel
theorem dX9_pass_26 : decode cX9_pass 26 = .ok (.dup, 1) := by decide +kernel
theorem dX9_pass_27 : decode cX9_pass 27 = .ok (.getfield 28, 3) := by decide +kernel
theorem dX9_pass_30 : decode cX9_pass 30 = .ok (.iconst 1, 1) := by decide +kernel
theorem dX9_pass_31 : decode cX9_pass 31 = .ok (.iload_n 1, 1) := by decide +kernel
theorem dX9_pass_32 : decode cX9_pass 32 = .ok (.ishl, 1) := by decide +kernel
theorem dX9_pass_33 : decode cX9_pass 33 = .ok (.ior, 1) := by decide +kernel
theorem dX9_pass_34 : decode cX9_pass 34 = .ok (.putfield 28, 3) := by decide +kernel
theorem dX9_pass_37 : decode cX9_pass 37 = .ok (.aload_n 0, 1) := by decide +kernel
theorem dX9_pass_38 : decode cX9_pass 38 = .ok (.getfield 18, 3) := by decide +kernel
theorem dX9_pass_41 : decode cX9_pass 41 = .ok (.aload_n 0, 1) := by decide +kernel
theorem dX9_pass_42 : decode cX9_pass 42 = .ok (.getfield 31, 3) := by decide +kernel
theorem dX9_pass_45 : decode cX9_pass 45 = .ok (.iload_n 1, 1) := by decide +kernel
theorem dX9_pass_46 : decode cX9_pass 46 = .ok (.iastore, 1) := by decide +kernel
theorem dX9_pass_47 : decode cX9_pass 47 = .ok (.aload_n 0, 1) := by decide +kernel
theorem dX9_pass_48 : decode cX9_pass 48 = .ok (.dup, 1) := by decide +kernel
theorem dX9_pass_49 : decode cX9_pass 49 = .ok (.getfield 31, 3) := by decide +kernel
theorem dX9_pass_52 : decode cX9_pass 52 = .ok (.iconst 1, 1) := by decide +kernel
theorem dX9_pass_53 : decode cX9_pass 53 = .ok (.iadd, 1) := by decide +kernel
theorem dX9_pass_54 : decode cX9_pass 54 = .ok (.putfield 31, 3) := by decide +kernel
theorem dX9_pass_57 : decode cX9_pass 57 = .ok (.return_, 1) := by decide +kernel
theorem dX9_startWay_0 : decode cX9_startWay 0 = .ok (.aload_n 0, 1) := by decide +kernel
theorem dX9_startWay_1 : decode cX9_startWay 1 = .ok (.iconst 0, 1) := by decide +kernel
theorem dX9_startWay_2 : decode cX9_startWay 2 = .ok (.putfield 31, 3) := by decide +kernel
theorem dX9_startWay_5 : decode cX9_startWay 5 = .ok (.aload_n 0, 1) := by decide +kernel
theorem dX9_startWay_6 : decode cX9_startWay 6 = .ok (.iconst 0, 1) := by decide +kernel
theorem dX9_startWay_7 : decode cX9_startWay 7 = .ok (.putfield 28, 3) := by decide +kernel
theorem dX9_startWay_10 : decode cX9_startWay 10 = .ok (.aload_n 0, 1) := by decide +kernel
theorem dX9_startWay_11 : decode cX9_startWay 11 = .ok (.aload_n 0, 1) := by decide +kernel
theorem dX9_startWay_12 : decode cX9_startWay 12 = .ok (.getfield 34, 3) := by decide +kernel
theorem dX9_startWay_15 : decode cX9_startWay 15 = .ok (.invokevirtual 37, 3) := by decide +kernel
theorem dX9_startWay_18 : decode cX9_startWay 18 = .ok (.return_, 1) := by decide +kernel
theorem dX11_sort_0 : decode cX11_sort 0 = .ok (.iload_n 1, 1) := by decide +kernel
theorem dX11_sort_1 : decode cX11_sort 1 = .ok (.ifCond .lt 36, 3) := by decide +kernel
theorem dX11_sort_37 : decode cX11_sort 37 = .ok (.iconst 0, 1) := by decide +kernel
theorem dX11_sort_38 : decode cX11_sort 38 = .ok (.istore 4, 2) := by decide +kernel
theorem dX11_sort_40 : decode cX11_sort 40 = .ok (.iload 4, 2) := by decide +kernel
theorem dX11_sort_42 : decode cX11_sort 42 = .ok (.ifCond .ne 13, 3) := by decide +kernel
theorem dX11_sort_45 : decode cX11_sort 45 = .ok (.new 66, 3) := by decide +kernel
theorem dX11_sort_48 : decode cX11_sort 48 = .ok (.dup, 1) := by decide +kernel
theorem dX11_sort_49 : decode cX11_sort 49 = .ok (.ldc 68, 2) := by decide +kernel
theorem dX11_sort_51 : decode cX11_sort 51 = .ok (.invokespecial 70, 3) := by decide +kernel
theorem dX11_sort_54 : decode cX11_sort 54 = .ok (.athrow, 1) := by decide +kernel
theorem dX11_sort_4 : decode cX11_sort 4 = .ok (.iload_n 1, 1) := by decide +kernel
theorem dX11_sort_5 : decode cX11_sort 5 = .ok (.iconst 2, 1) := by decide +kernel
theorem dX11_sort_6 : decode cX11_sort 6 = .ok (.if_icmp .gt 31, 3) := by decide +kernel
theorem dX11_sort_9 : decode cX11_sort 9 = .ok (.iload_n 1, 1) := by decide +kernel
theorem dX11_sort_10 : decode cX11_sort 10 = .ok (.iconst 1, 1) := by decide +kernel
theorem dX11_sort_11 : decode cX11_sort 11 = .ok (.if_icmp .lt 10, 3) := by decide +kernel
theorem dX11_sort_21 : decode cX11_sort 21 = .ok (.iload_n 1, 1) := by decide +kernel
theorem dX11_sort_22 : decode cX11_sort 22 = .ok (.iconst 2, 1) := by decide +kernel
theorem dX11_sort_23 : decode cX11_sort 23 = .ok (.if_icmp .lt 10, 3) := by decide +kernel
theorem dX11_sort_33 : decode cX11_sort 33 = .ok (.iconst 1, 1) := by decide +kernel
theorem dX11_sort_34 : decode cX11_sort 34 = .ok (.goto 4, 3) := by decide +kernel
theorem dX11_sort_55 : decode cX11_sort 55 = .ok (.aload_n 0, 1) := by decide +kernel
theorem dX11_sort_56 : decode cX11_sort 56 = .ok (.getfield 42, 3) := by decide +kernel
theorem dX11_sort_59 : decode cX11_sort 59 = .ok (.invokevirtual 73, 3) := by decide +kernel
theorem dX11_sort_62 : decode cX11_sort 62 = .ok (.bipush 12, 2) := by decide +kernel
theorem dX11_sort_64 : decode cX11_sort 64 = .ok (.if_icmp .lt 13, 3) := by decide +kernel
theorem dX11_sort_77 : decode cX11_sort 77 = .ok (.new 82, 3) := by decide +kernel
theorem dX11_sort_80 : decode cX11_sort 80 = .ok (.dup, 1) := by decide +kernel
theorem dX11_sort_81 : decode cX11_sort 81 = .ok (.invokespecial 84, 3) := by decide +kernel
theorem dX11_sort_84 : decode cX11_sort 84 = .ok (.astore 5, 2) := by decide +kernel
theorem dX11_sort_86 : decode cX11_sort 86 = .ok (.aload 5, 2) := by decide +kernel
theorem dX11_sort_88 : decode cX11_sort 88 = .ok (.aload_n 0, 1) := by decide +kernel
theorem dX11_sort_89 : decode cX11_sort 89 = .ok (.getfield 42, 3) := by decide +kernel
theorem dX11_sort_92 : decode cX11_sort 92 = .ok (.invokevirtual 73, 3) := by decide +kernel
theorem dX11_sort_95 : decode cX11_sort 95 = .ok (.putfield 85, 3) := by decide +kernel
theorem dX11_sort_98 : decode cX11_sort 98 = .ok (.aload 5, 2) := by decide +kernel
theorem dX11_sort_100 : decode cX11_sort 100 = .ok (.iload_n 1, 1) := by decide +kernel
theorem dX11_sort_101 : decode cX11_sort 101 = .ok (.putfield 88, 3) := by decide +kernel
theorem dX11_sort_104 : decode cX11_sort 104 = .ok (.aload 5, 2) := by decide +kernel
theorem dX11_sort_106 : decode cX11_sort 106 = .ok (.iload_n 1, 1) := by decide +kernel
theorem dX11_sort_107 : decode cX11_sort 107 = .ok (.iconst 1, 1) := by decide +kernel
theorem dX11_sort_108 : decode cX11_sort 108 = .ok (.if_icmp .ge 7, 3) := by decide +kernel
theorem dX11_sort_111 : decode cX11_sort 111 = .ok (.iconst 0, 1) := by decide +kernel
theorem dX11_sort_112 : decode cX11_sort 112 = .ok (.goto 4, 3) := by decide +kernel
theorem dX11_sort_116 : decode cX11_sort 116 = .ok (.putfield 91, 3) := by decide +kernel
theorem dX11_sort_119 : decode cX11_sort 119 = .ok (.aload 5, 2) := by decide +kernel
theorem dX11_sort_121 : decode cX11_sort 121 = .ok (.iload_n 1, 1) := by decide +kernel
theorem dX11_sort_122 : decode cX11_sort 122 = .ok (.iconst 2, 1) := by decide +kernel
theorem dX11_sort_123 : decode cX11_sort 123 = .ok (.if_icmp .ge 7, 3) := by decide +kernel
theorem dX11_sort_126 : decode cX11_sort 126 = .ok (.iconst 0, 1) := by decide +kernel
theorem dX11_sort_127 : decode cX11_sort 127 = .ok (.goto 4, 3) := by decide +kernel
theorem dX11_sort_131 : decode cX11_sort 131 = .ok (.putfield 94, 3) := by decide +kernel
theorem dX11_sort_134 : decode cX11_sort 134 = .ok (.aload 5, 2) := by decide +kernel
theorem dX11_sort_136 : decode cX11_sort 136 = .ok (.invokevirtual 97, 3) := by decide +kernel
theorem dX11_sort_139 : decode cX11_sort 139 = .ok (.aload_n 0, 1) := by decide +kernel
theorem dX11_sort_140 : decode cX11_sort 140 = .ok (.getfield 38, 3) := by decide +kernel
theorem dX11_sort_143 : decode cX11_sort 143 = .ok (.getfield 100, 3) := by decide +kernel
theorem dX11_sort_146 : decode cX11_sort 146 = .ok (.aload 5, 2) := by decide +kernel
theorem dX11_sort_148 : decode cX11_sort 148 = .ok (.getfield 85, 3) := by decide +kernel
theorem dX11_sort_151 : decode cX11_sort 151 = .ok (.iload_n 1, 1) := by decide +kernel
theorem dX11_sort_152 : decode cX11_sort 152 = .ok (.iastore, 1) := by decide +kernel
theorem dX11_sort_153 : decode cX11_sort 153 = .ok (.aload_n 0, 1) := by decide +kernel
theorem dX11_sort_154 : decode cX11_sort 154 = .ok (.getfield 38, 3) := by decide +kernel
theorem dX11_sort_157 : decode cX11_sort 157 = .ok (.aload 5, 2) := by decide +kernel
theorem dX11_sort_159 : decode cX11_sort 159 = .ok (.getfield 85, 3) := by decide +kernel
theorem dX11_sort_162 : decode cX11_sort 162 = .ok (.iconst (-1), 1) := by decide +kernel
theorem dX11_sort_163 : decode cX11_sort 163 = .ok (.iconst (-1), 1) := by decide +kernel
theorem dX11_sort_164 : decode cX11_sort 164 = .ok (.invokevirtual 104, 3) := by decide +kernel
theorem dX11_sort_167 : decode cX11_sort 167 = .ok (.aload_n 0, 1) := by decide +kernel
theorem dX11_sort_168 : decode cX11_sort 168 = .ok (.getfield 42, 3) := by decide +kernel
theorem dX11_sort_171 : decode cX11_sort 171 = .ok (.aload 5, 2) := by decide +kernel
theorem dX11_sort_173 : decode cX11_sort 173 = .ok (.invokevirtual 108, 3) := by decide +kernel
theorem dX11_sort_176 : decode cX11_sort 176 = .ok (.pop, 1) := by decide +kernel
theorem dX11_sort_177 : decode cX11_sort 177 = .ok (.aload_n 0, 1) := by decide +kernel
theorem dX11_sort_178 : decode cX11_sort 178 = .ok (.iconst 0, 1) := by decide +kernel
theorem dX11_sort_179 : decode cX11_sort 179 = .ok (.putfield 58, 3) := by decide +kernel
theorem dX11_sort_182 : decode cX11_sort 182 = .ok (.aload 5, 2) := by decide +kernel
theorem dX11_sort_184 : decode cX11_sort 184 = .ok (.getfield 85, 3) := by decide +kernel
theorem dX11_sort_187 : decode cX11_sort 187 = .ok (.ireturn, 1) := by decide +kernel
theorem dX11_sort_14 : decode cX11_sort 14 = .ok (.iload_n 2, 1) := by decide +kernel
theorem dX11_sort_15 : decode cX11_sort 15 = .ok (.invokestatic 62, 3) := by decide +kernel
theorem dX11_sort_18 : decode cX11_sort 18 = .ok (.ifCond .eq 19, 3) := by decide +kernel
def wb_c_H_needType_l : List Cond := [.classLink RX11 277 "java/lang/IndexOutOfBoundsException", .initialized "java/lang/IndexOutOfBoundsException"]
def w_c_H_needType_l : List Cond := .code yX11_needType cX11_needType 2 none :: (wb_c_H_needType_l ++ zAt)
set_option maxHeartbeats 4000000 in
set_option maxRecDepth 100000 in
theorem c_H_needType_l (l : Launch) (hfl : l.flags = flags0) (eD eI : Nat) (ad : Nat → Nat) (dC : Nat → ClassId) (dI : Nat → Nat → Nat) (sz : Nat) (hh : Nat) (aexpr : Nat) (achoo : Nat) (ameth : Nat) (aroom : Nat) (anod : Nat) (asort : Nat) (anote : Nat) (amet : Nat) (atold : Nat) (aheld : Nat) (apair : Nat) (astep : Nat) (asize : Nat) (v : Int32) (hv1 : v < 0) : vx_Met l yX11_needType w_c_H_needType_l ({ frames := 6, cells := 1, slots := 6, locals := 82 }) (va_Pc [.ref hh, .int v] (zPreD eD eI ad (dC, dI) [(hh, .inr (13, [.ref aexpr, .ref achoo, .ref ameth, .ref aroom, .ref anod, .ref asort, .ref anote, .ref amet, .int 0, .int 1])), (aroom, .inr (9, [.ref asort, .ref anod, .ref atold, .int 3, .ref aheld, .int 0, .ref apair, .ref astep, .int 0, .int 0, .int (-1), .int 0, .int 0, .ref asize]))] [] sz)) (va_Qv (fun (_ : Unit) => False) (fun (_ : Unit) => zEnd (dC, dI) (va_A [(hh, .inr (13, [.ref aexpr, .ref achoo, .ref ameth, .ref aroom, .ref anod, .ref asort, .ref anote, .ref amet, .int 0, .int 1])), (aroom, .inr (9, [.ref asort, .ref anod, .ref atold, .int 3, .ref aheld, .int 0, .ref apair, .ref astep, .int 0, .int 0, .int (-1), .int 0, .int 0, .ref asize]))] sz) [(hh, .inr (13, [.ref aexpr, .ref achoo, .ref ameth, .ref aroom, .ref anod, .ref asort, .ref anote, .ref amet, .int 0, .int 1])), (aroom, .inr (9, [.ref asort, .ref anod, .ref atold, .int 3, .ref aheld, .int 0, .ref apair, .ref astep, .int 0, .int 0, .int (-1), .int 0, .int 0, .ref asize]))] []) (va_A [(hh, .inr (13, [.ref aexpr, .ref achoo, .ref ameth, .ref aroom, .ref anod, .ref asort, .ref anote, .ref amet, .int 0, .int 1])), (aroom, .inr (9, [.ref asort, .ref anod, .ref atold, .int 3, .ref aheld, .int 0, .ref apair, .ref astep, .int 0, .int 0, .int (-1), .int 0, .int 0, .ref asize]))] sz)) (zX (fun E => E = "java/lang/IndexOutOfBoundsException") (va_A [(hh, .inr (13, [.ref aexpr, .ref achoo, .ref ameth, .ref aroom, .ref anod, .ref asort, .ref anote, .ref amet, .int 0, .int 1])), (aroom, .inr (9, [.ref asort, .ref anod, .ref atold, .int 3, .ref aheld, .int 0, .ref apair, .ref astep, .int 0, .int 0, .int (-1), .int 0, .int 0, .ref asize]))] sz)) 1 6 (va_A [(hh, .inr (13, [.ref aexpr, .ref achoo, .ref ameth, .ref aroom, .ref anod, .ref asort, .ref anote, .ref amet, .int 0, .int 1])), (aroom, .inr (9, [.ref asort, .ref anod, .ref atold, .int 3, .ref aheld, .int 0, .ref apair, .ref astep, .int 0, .int 0, .int (-1), .int 0, .int 0, .ref asize]))] sz) := by
  refine vx_ofW (cc := cX11_needType) (maxL := 2) (ret := none) (by decide +kernel) rfl ?_
  intro p e s m args below meth c s₁ B hml htab hv
  obtain ⟨rfl, ⟨hsz, hP, hK, hD0, hE⟩, hDc⟩ := hv
  have hx := B.exec
  have hb := B.bytes
  have hr := B.returns
  have hts := atoms_spec (ws := w_c_H_needType_l) B.pre
  have hown : s.vm.findClass RX11 = some m.cls := findClass_of_methodNamed B.named
  have hlocks := B.notSynchronized
  subst hsz
  have hD := hD0.self (sz := s.heap.size)
  generalize hAe : va_A [(hh, .inr (13, [.ref aexpr, .ref achoo, .ref ameth, .ref aroom, .ref anod, .ref asort, .ref anote, .ref amet, .int 0, .int 1])), (aroom, .inr (9, [.ref asort, .ref anod, .ref atold, .int 3, .ref aheld, .int 0, .ref apair, .ref astep, .int 0, .int 0, .int (-1), .int 0, .int 0, .ref asize]))] s.heap.size = A at hD hE ⊢
  have hA : ∀ q : Nat, s.heap.size ≤ q → A q := fun q h => by rw [← hAe]; exact Or.inr h
  have hS : va_S A s.heap s.heap [] := va_S.rf
  have hP : va_P (dC, dI) vwCl [(hh, .inr (13, [.ref aexpr, .ref achoo, .ref ameth, .ref aroom, .ref anod, .ref asort, .ref anote, .ref amet, .int 0, .int 1])), (aroom, .inr (9, [.ref asort, .ref anod, .ref atold, .int 3, .ref aheld, .int 0, .ref apair, .ref astep, .int 0, .int 0, .int (-1), .int 0, .int 0, .ref asize]))] s.heap := hP
  have hl := lv_entry ([.ref hh, .int v]) (n := 2) (Nat.le_of_ble_eq_true rfl)
  rw [lg_entry_eq]
  generalize (lg_sl ([.ref hh, .int v]) ++ List.replicate (2 - (lg_sl ([.ref hh, .int v])).length) Slot.unset).toArray = ls at hl ⊢
  have hl : lv_has ls 2 [(0, .ref hh), (1, .int v)] := hl
  refine lv_iload_n hx hb dX11_needType_0 rfl (lv_at hl 1 rfl) ?_
  refine lv_if_lt (tgt := 15) hx hb dX11_needType_1 (by decide) (fun c_1 => ?_) (fun c_1 => ?_)
  rotate_left
  · exact absurd hv1 c_1
  obtain ⟨sa, hsa⟩ := hE.2.2.2.1 ("Hornbook", 353, "no such TYPE") (by decide +kernel)
  have hsa : vk_R RX11 353 "no such TYPE" sa s := hsa
  exact vx_throwSW (A := A) (cls := "java/lang/IndexOutOfBoundsException") (text := "no such TYPE") (names := ["java/lang/RuntimeException", "java/lang/Exception"]) hx hb (z_traces hfl) hown (by decide +kernel) (by decide +kernel) (hts (.classLink RX11 277 "java/lang/IndexOutOfBoundsException") (by decide +kernel)) (hts (.initialized "java/lang/IndexOutOfBoundsException") (by decide +kernel)) hsa (vx_hat (B := Cond.castable "java/lang/IndexOutOfBoundsException" "java/lang/IndexOutOfBoundsException" :: zDecs) (fun w h => hts w (List.mem_cons_of_mem _ (List.mem_append_right _ (zAt_281 w h)))) (by decide +kernel) (vx_c (va_Nw.use rfl (hE.2.2.2.2.2.2.2.1 ("java/lang/IndexOutOfBoundsException", "java/lang/IndexOutOfBoundsException") (by decide +kernel))) hDc.use)) (by decide +kernel) hE.1 hE.2.1 hS (by rw [hml]; exact hl.1) dX11_needType_15 dX11_needType_18 dX11_needType_19 dX11_needType_22 dX11_needType_25 (fun x h => (htab x h).elim) (Nat.le_of_ble_eq_true rfl) (Nat.le_of_ble_eq_true rfl) (Nat.le_of_ble_eq_true rfl) (Nat.le_of_ble_eq_true rfl) hlocks (fun t hW h1 h2 => ⟨(), trivial, rfl, z_F hS h1 h2⟩) hS.2.2 (Nat.le_of_ble_eq_true rfl) (Nat.le_of_ble_eq_true rfl)

def wb_c_H_needType_h : List Cond := [.fieldLink RX11 31 "Hornbook" "room" "LHornbook$Room;", .fieldLink RX11 344 "Hornbook$Room" "tellings" "I", .classLink RX11 277 "java/lang/IndexOutOfBoundsException", .initialized "java/lang/IndexOutOfBoundsException"] ++ u_ws RX11 TX11 10 ++ u_ws RX7 TX7 14
def w_c_H_needType_h : List Cond := .code yX11_needType cX11_needType 2 none :: (wb_c_H_needType_h ++ zAt)
set_option maxHeartbeats 4000000 in
set_option maxRecDepth 100000 in
theorem c_H_needType_h (l : Launch) (hfl : l.flags = flags0) (eD eI : Nat) (ad : Nat → Nat) (dC : Nat → ClassId) (dI : Nat → Nat → Nat) (sz : Nat) (hh : Nat) (aexpr : Nat) (achoo : Nat) (ameth : Nat) (aroom : Nat) (anod : Nat) (asort : Nat) (anote : Nat) (amet : Nat) (atold : Nat) (aheld : Nat) (apair : Nat) (astep : Nat) (asize : Nat) (v : Int32) (hv0 : ¬ v < 0) (hv1 : 2 < v) : vx_Met l yX11_needType w_c_H_needType_h ({ frames := 6, cells := 1, slots := 6, locals := 82 }) (va_Pc [.ref hh, .int v] (zPreD eD eI ad (dC, dI) [(hh, .inr (13, [.ref aexpr, .ref achoo, .ref ameth, .ref aroom, .ref anod, .ref asort, .ref anote, .ref amet, .int 0, .int 1])), (aroom, .inr (9, [.ref asort, .ref anod, .ref atold, .int 3, .ref aheld, .int 0, .ref apair, .ref astep, .int 0, .int 0, .int (-1), .int 0, .int 0, .ref asize]))] [] sz)) (va_Qv (fun (_ : Unit) => False) (fun (_ : Unit) => zEnd (dC, dI) (va_A [(hh, .inr (13, [.ref aexpr, .ref achoo, .ref ameth, .ref aroom, .ref anod, .ref asort, .ref anote, .ref amet, .int 0, .int 1])), (aroom, .inr (9, [.ref asort, .ref anod, .ref atold, .int 3, .ref aheld, .int 0, .ref apair, .ref astep, .int 0, .int 0, .int (-1), .int 0, .int 0, .ref asize]))] sz) [(hh, .inr (13, [.ref aexpr, .ref achoo, .ref ameth, .ref aroom, .ref anod, .ref asort, .ref anote, .ref amet, .int 0, .int 1])), (aroom, .inr (9, [.ref asort, .ref anod, .ref atold, .int 3, .ref aheld, .int 0, .ref apair, .ref astep, .int 0, .int 0, .int (-1), .int 0, .int 0, .ref asize]))] []) (va_A [(hh, .inr (13, [.ref aexpr, .ref achoo, .ref ameth, .ref aroom, .ref anod, .ref asort, .ref anote, .ref amet, .int 0, .int 1])), (aroom, .inr (9, [.ref asort, .ref anod, .ref atold, .int 3, .ref aheld, .int 0, .ref apair, .ref astep, .int 0, .int 0, .int (-1), .int 0, .int 0, .ref asize]))] sz)) (zX (fun E => E = "java/lang/IndexOutOfBoundsException") (va_A [(hh, .inr (13, [.ref aexpr, .ref achoo, .ref ameth, .ref aroom, .ref anod, .ref asort, .ref anote, .ref amet, .int 0, .int 1])), (aroom, .inr (9, [.ref asort, .ref anod, .ref atold, .int 3, .ref aheld, .int 0, .ref apair, .ref astep, .int 0, .int 0, .int (-1), .int 0, .int 0, .ref asize]))] sz)) 1 6 (va_A [(hh, .inr (13, [.ref aexpr, .ref achoo, .ref ameth, .ref aroom, .ref anod, .ref asort, .ref anote, .ref amet, .int 0, .int 1])), (aroom, .inr (9, [.ref asort, .ref anod, .ref atold, .int 3, .ref aheld, .int 0, .ref apair, .ref astep, .int 0, .int 0, .int (-1), .int 0, .int 0, .ref asize]))] sz) := by
  refine vx_ofW (cc := cX11_needType) (maxL := 2) (ret := none) (by decide +kernel) rfl ?_
  intro p e s m args below meth c s₁ B hml htab hv
  obtain ⟨rfl, ⟨hsz, hP, hK, hD0, hE⟩, hDc⟩ := hv
  have hx := B.exec
  have hb := B.bytes
  have hr := B.returns
  have hts := atoms_spec (ws := w_c_H_needType_h) B.pre
  have hown : s.vm.findClass RX11 = some m.cls := findClass_of_methodNamed B.named
  have hlocks := B.notSynchronized
  subst hsz
  have hD := hD0.self (sz := s.heap.size)
  generalize hAe : va_A [(hh, .inr (13, [.ref aexpr, .ref achoo, .ref ameth, .ref aroom, .ref anod, .ref asort, .ref anote, .ref amet, .int 0, .int 1])), (aroom, .inr (9, [.ref asort, .ref anod, .ref atold, .int 3, .ref aheld, .int 0, .ref apair, .ref astep, .int 0, .int 0, .int (-1), .int 0, .int 0, .ref asize]))] s.heap.size = A at hD hE ⊢
  have hA : ∀ q : Nat, s.heap.size ≤ q → A q := fun q h => by rw [← hAe]; exact Or.inr h
  have hS : va_S A s.heap s.heap [] := va_S.rf
  have hP : va_P (dC, dI) vwCl [(hh, .inr (13, [.ref aexpr, .ref achoo, .ref ameth, .ref aroom, .ref anod, .ref asort, .ref anote, .ref amet, .int 0, .int 1])), (aroom, .inr (9, [.ref asort, .ref anod, .ref atold, .int 3, .ref aheld, .int 0, .ref apair, .ref astep, .int 0, .int 0, .int (-1), .int 0, .int 0, .ref asize]))] s.heap := hP
  have hl := lv_entry ([.ref hh, .int v]) (n := 2) (Nat.le_of_ble_eq_true rfl)
  rw [lg_entry_eq]
  generalize (lg_sl ([.ref hh, .int v]) ++ List.replicate (2 - (lg_sl ([.ref hh, .int v])).length) Slot.unset).toArray = ls at hl ⊢
  have hl : lv_has ls 2 [(0, .ref hh), (1, .int v)] := hl
  have in_RX11 : ∀ w ∈ u_ws RX11 TX11 10, w ∈ w_c_H_needType_h := by decide +kernel
  have in_RX7 : ∀ w ∈ u_ws RX7 TX7 14, w ∈ w_c_H_needType_h := by decide +kernel
  refine lv_iload_n hx hb dX11_needType_0 rfl (lv_at hl 1 rfl) ?_
  refine lv_if_lt (tgt := 15) hx hb dX11_needType_1 (by decide) (fun c_1 => ?_) (fun c_1 => ?_)
  · exact absurd c_1 hv0
  refine lv_iload_n hx hb dX11_needType_4 rfl (lv_at hl 1 rfl) ?_
  refine lv_aload_n hx hb dX11_needType_5 rfl (lv_at hl 0 rfl) ?_
  refine va_get (D := (dC, dI)) (ci := 13) (v := .ref aroom) (C := RX11) (T := TX11) (N := 10) hx hb hts in_RX11 hown hK hP 0 rfl rfl 3 (by decide) (hts (.fieldLink RX11 31 "Hornbook" "room" "LHornbook$Room;") (by decide +kernel)) (fun _ h9 => h9) rfl dX11_needType_6 ?_
  refine va_get (D := (dC, dI)) (ci := 9) (v := .int 3) (C := RX7) (T := TX7) (N := 14) hx hb hts in_RX7 hown hK hP 1 rfl rfl 3 (by decide) (hts (.fieldLink RX11 344 "Hornbook$Room" "tellings" "I") (by decide +kernel)) (fun _ h9 => h9) rfl dX11_needType_9 ?_
  refine lv_icmp_lt (tgt := 26) hx hb dX11_needType_12 (by decide) (fun c_2 => ?_) (fun c_2 => ?_)
  · exact absurd c_2 ((Int32.not_lt.mpr (z_ge (by decide) hv1)))
  obtain ⟨sa, hsa⟩ := hE.2.2.2.1 ("Hornbook", 353, "no such TYPE") (by decide +kernel)
  have hsa : vk_R RX11 353 "no such TYPE" sa s := hsa
  exact vx_throwSW (A := A) (cls := "java/lang/IndexOutOfBoundsException") (text := "no such TYPE") (names := ["java/lang/RuntimeException", "java/lang/Exception"]) hx hb (z_traces hfl) hown (by decide +kernel) (by decide +kernel) (hts (.classLink RX11 277 "java/lang/IndexOutOfBoundsException") (by decide +kernel)) (hts (.initialized "java/lang/IndexOutOfBoundsException") (by decide +kernel)) hsa (vx_hat (B := Cond.castable "java/lang/IndexOutOfBoundsException" "java/lang/IndexOutOfBoundsException" :: zDecs) (fun w h => hts w (List.mem_cons_of_mem _ (List.mem_append_right _ (zAt_281 w h)))) (by decide +kernel) (vx_c (va_Nw.use rfl (hE.2.2.2.2.2.2.2.1 ("java/lang/IndexOutOfBoundsException", "java/lang/IndexOutOfBoundsException") (by decide +kernel))) hDc.use)) (by decide +kernel) hE.1 hE.2.1 hS (by rw [hml]; exact hl.1) dX11_needType_15 dX11_needType_18 dX11_needType_19 dX11_needType_22 dX11_needType_25 (fun x h => (htab x h).elim) (Nat.le_of_ble_eq_true rfl) (Nat.le_of_ble_eq_true rfl) (Nat.le_of_ble_eq_true rfl) (Nat.le_of_ble_eq_true rfl) hlocks (fun t hW h1 h2 => ⟨(), trivial, rfl, z_F hS h1 h2⟩) hS.2.2 (Nat.le_of_ble_eq_true rfl) (Nat.le_of_ble_eq_true rfl)

def wb_c_H_needType_0 : List Cond := [.fieldLink RX11 31 "Hornbook" "room" "LHornbook$Room;", .fieldLink RX11 344 "Hornbook$Room" "tellings" "I"] ++ u_ws RX11 TX11 10 ++ u_ws RX7 TX7 14
def w_c_H_needType_0 : List Cond := .code yX11_needType cX11_needType 2 none :: wb_c_H_needType_0
set_option maxHeartbeats 4000000 in
set_option maxRecDepth 100000 in
theorem c_H_needType_0 (l : Launch) (eD eI : Nat) (ad : Nat → Nat) (dC : Nat → ClassId) (dI : Nat → Nat → Nat) (sz : Nat) (hh : Nat) (aexpr : Nat) (achoo : Nat) (ameth : Nat) (aroom : Nat) (anod : Nat) (asort : Nat) (anote : Nat) (amet : Nat) (atold : Nat) (aheld : Nat) (apair : Nat) (astep : Nat) (asize : Nat) : Met l yX11_needType w_c_H_needType_0 ({ frames := 0, cells := 0, slots := 0, locals := 0 }) (va_Pc [.ref hh, .int 0] (zPre eD eI ad (dC, dI) [(hh, .inr (13, [.ref aexpr, .ref achoo, .ref ameth, .ref aroom, .ref anod, .ref asort, .ref anote, .ref amet, .int 0, .int 1])), (aroom, .inr (9, [.ref asort, .ref anod, .ref atold, .int 3, .ref aheld, .int 0, .ref apair, .ref astep, .int 0, .int 0, .int (-1), .int 0, .int 0, .ref asize]))] [] sz)) (va_Qv (fun (_ : Unit) => True) (fun (_ : Unit) => zEnd (dC, dI) (va_A [(hh, .inr (13, [.ref aexpr, .ref achoo, .ref ameth, .ref aroom, .ref anod, .ref asort, .ref anote, .ref amet, .int 0, .int 1])), (aroom, .inr (9, [.ref asort, .ref anod, .ref atold, .int 3, .ref aheld, .int 0, .ref apair, .ref astep, .int 0, .int 0, .int (-1), .int 0, .int 0, .ref asize]))] sz) [(hh, .inr (13, [.ref aexpr, .ref achoo, .ref ameth, .ref aroom, .ref anod, .ref asort, .ref anote, .ref amet, .int 0, .int 1])), (aroom, .inr (9, [.ref asort, .ref anod, .ref atold, .int 3, .ref aheld, .int 0, .ref apair, .ref astep, .int 0, .int 0, .int (-1), .int 0, .int 0, .ref asize]))] []) (va_A [(hh, .inr (13, [.ref aexpr, .ref achoo, .ref ameth, .ref aroom, .ref anod, .ref asort, .ref anote, .ref amet, .int 0, .int 1])), (aroom, .inr (9, [.ref asort, .ref anod, .ref atold, .int 3, .ref aheld, .int 0, .ref apair, .ref astep, .int 0, .int 0, .int (-1), .int 0, .int 0, .ref asize]))] sz)) 0 0 (va_A [(hh, .inr (13, [.ref aexpr, .ref achoo, .ref ameth, .ref aroom, .ref anod, .ref asort, .ref anote, .ref amet, .int 0, .int 1])), (aroom, .inr (9, [.ref asort, .ref anod, .ref atold, .int 3, .ref aheld, .int 0, .ref apair, .ref astep, .int 0, .int 0, .int (-1), .int 0, .int 0, .ref asize]))] sz) := by
  refine Met.ofW (cc := cX11_needType) (maxL := 2) (ret := none) (by decide) rfl ?_
  intro p e s m args below meth c s₁ B hml hv
  obtain ⟨rfl, hsz, hP, hK, hD0, hE⟩ := hv
  have hx := B.exec
  have hb := B.bytes
  have hr := B.returns
  have hts := atoms_spec (ws := w_c_H_needType_0) B.pre
  have hown : s.vm.findClass RX11 = some m.cls := findClass_of_methodNamed B.named
  have hlocks := B.notSynchronized
  subst hsz
  have hD := hD0.self (sz := s.heap.size)
  generalize hAe : va_A [(hh, .inr (13, [.ref aexpr, .ref achoo, .ref ameth, .ref aroom, .ref anod, .ref asort, .ref anote, .ref amet, .int 0, .int 1])), (aroom, .inr (9, [.ref asort, .ref anod, .ref atold, .int 3, .ref aheld, .int 0, .ref apair, .ref astep, .int 0, .int 0, .int (-1), .int 0, .int 0, .ref asize]))] s.heap.size = A at hD hE ⊢
  have hA : ∀ q : Nat, s.heap.size ≤ q → A q := fun q h => by rw [← hAe]; exact Or.inr h
  have hS : va_S A s.heap s.heap [] := va_S.rf
  have hP : va_P (dC, dI) vwCl [(hh, .inr (13, [.ref aexpr, .ref achoo, .ref ameth, .ref aroom, .ref anod, .ref asort, .ref anote, .ref amet, .int 0, .int 1])), (aroom, .inr (9, [.ref asort, .ref anod, .ref atold, .int 3, .ref aheld, .int 0, .ref apair, .ref astep, .int 0, .int 0, .int (-1), .int 0, .int 0, .ref asize]))] s.heap := hP
  have hl := lv_entry ([.ref hh, .int 0]) (n := 2) (Nat.le_of_ble_eq_true rfl)
  rw [lg_entry_eq]
  generalize (lg_sl ([.ref hh, .int 0]) ++ List.replicate (2 - (lg_sl ([.ref hh, .int 0])).length) Slot.unset).toArray = ls at hl ⊢
  have hl : lv_has ls 2 [(0, .ref hh), (1, .int 0)] := hl
  have in_RX11 : ∀ w ∈ u_ws RX11 TX11 10, w ∈ w_c_H_needType_0 := by decide +kernel
  have in_RX7 : ∀ w ∈ u_ws RX7 TX7 14, w ∈ w_c_H_needType_0 := by decide +kernel
  refine lv_iload_n hx hb dX11_needType_0 rfl (lv_at hl 1 rfl) ?_
  refine lv_if_lt (tgt := 15) hx hb dX11_needType_1 (by decide) (fun c_1 => ?_) (fun c_1 => ?_)
  · exact absurd c_1 (by decide)
  refine lv_iload_n hx hb dX11_needType_4 rfl (lv_at hl 1 rfl) ?_
  refine lv_aload_n hx hb dX11_needType_5 rfl (lv_at hl 0 rfl) ?_
  refine va_get (D := (dC, dI)) (ci := 13) (v := .ref aroom) (C := RX11) (T := TX11) (N := 10) hx hb hts in_RX11 hown hK hP 0 rfl rfl 3 (by decide) (hts (.fieldLink RX11 31 "Hornbook" "room" "LHornbook$Room;") (by decide +kernel)) (fun _ h9 => h9) rfl dX11_needType_6 ?_
  refine va_get (D := (dC, dI)) (ci := 9) (v := .int 3) (C := RX7) (T := TX7) (N := 14) hx hb hts in_RX7 hown hK hP 1 rfl rfl 3 (by decide) (hts (.fieldLink RX11 344 "Hornbook$Room" "tellings" "I") (by decide +kernel)) (fun _ h9 => h9) rfl dX11_needType_9 ?_
  refine lv_icmp_lt (tgt := 26) hx hb dX11_needType_12 (by decide) (fun c_2 => ?_) (fun c_2 => ?_)
  rotate_left
  · exact absurd (by decide) c_2
  have hP9 := hP.sub (ws' := [(hh, .inr (13, [.ref aexpr, .ref achoo, .ref ameth, .ref aroom, .ref anod, .ref asort, .ref anote, .ref amet, .int 0, .int 1])), (aroom, .inr (9, [.ref asort, .ref anod, .ref atold, .int 3, .ref aheld, .int 0, .ref apair, .ref astep, .int 0, .int 0, .int (-1), .int 0, .int 0, .ref asize]))]) [0, 1] rfl
  have hD9 := hD.sub (ws' := [(hh, .inr (13, [.ref aexpr, .ref achoo, .ref ameth, .ref aroom, .ref anod, .ref asort, .ref anote, .ref amet, .int 0, .int 1])), (aroom, .inr (9, [.ref asort, .ref anod, .ref atold, .int 3, .ref aheld, .int 0, .ref apair, .ref astep, .int 0, .int 0, .int (-1), .int 0, .int 0, .ref asize]))]) [0, 1] (by decide) rfl
  have hK9 := hK.sub (tys' := []) [] rfl
  refine W.widen (k := 0) (n := 0) (Nat.le_of_ble_eq_true rfl) (Nat.le_of_ble_eq_true rfl) ?_
  exact W.vret hx hb hr (fun t ht hW => ⟨⟨(), rfl, trivial, ⟨by rw [ht]; exact hP9, va_K.moved hW.alike hK9, hD9⟩⟩, hS.F ht⟩) hS.2.2 dX11_needType_26

def wb_c_H_needType_1 : List Cond := [.fieldLink RX11 31 "Hornbook" "room" "LHornbook$Room;", .fieldLink RX11 344 "Hornbook$Room" "tellings" "I"] ++ u_ws RX11 TX11 10 ++ u_ws RX7 TX7 14
def w_c_H_needType_1 : List Cond := .code yX11_needType cX11_needType 2 none :: wb_c_H_needType_1
set_option maxHeartbeats 4000000 in
set_option maxRecDepth 100000 in
theorem c_H_needType_1 (l : Launch) (eD eI : Nat) (ad : Nat → Nat) (dC : Nat → ClassId) (dI : Nat → Nat → Nat) (sz : Nat) (hh : Nat) (aexpr : Nat) (achoo : Nat) (ameth : Nat) (aroom : Nat) (anod : Nat) (asort : Nat) (anote : Nat) (amet : Nat) (atold : Nat) (aheld : Nat) (apair : Nat) (astep : Nat) (asize : Nat) : Met l yX11_needType w_c_H_needType_1 ({ frames := 0, cells := 0, slots := 0, locals := 0 }) (va_Pc [.ref hh, .int 1] (zPre eD eI ad (dC, dI) [(hh, .inr (13, [.ref aexpr, .ref achoo, .ref ameth, .ref aroom, .ref anod, .ref asort, .ref anote, .ref amet, .int 0, .int 1])), (aroom, .inr (9, [.ref asort, .ref anod, .ref atold, .int 3, .ref aheld, .int 0, .ref apair, .ref astep, .int 0, .int 0, .int (-1), .int 0, .int 0, .ref asize]))] [] sz)) (va_Qv (fun (_ : Unit) => True) (fun (_ : Unit) => zEnd (dC, dI) (va_A [(hh, .inr (13, [.ref aexpr, .ref achoo, .ref ameth, .ref aroom, .ref anod, .ref asort, .ref anote, .ref amet, .int 0, .int 1])), (aroom, .inr (9, [.ref asort, .ref anod, .ref atold, .int 3, .ref aheld, .int 0, .ref apair, .ref astep, .int 0, .int 0, .int (-1), .int 0, .int 0, .ref asize]))] sz) [(hh, .inr (13, [.ref aexpr, .ref achoo, .ref ameth, .ref aroom, .ref anod, .ref asort, .ref anote, .ref amet, .int 0, .int 1])), (aroom, .inr (9, [.ref asort, .ref anod, .ref atold, .int 3, .ref aheld, .int 0, .ref apair, .ref astep, .int 0, .int 0, .int (-1), .int 0, .int 0, .ref asize]))] []) (va_A [(hh, .inr (13, [.ref aexpr, .ref achoo, .ref ameth, .ref aroom, .ref anod, .ref asort, .ref anote, .ref amet, .int 0, .int 1])), (aroom, .inr (9, [.ref asort, .ref anod, .ref atold, .int 3, .ref aheld, .int 0, .ref apair, .ref astep, .int 0, .int 0, .int (-1), .int 0, .int 0, .ref asize]))] sz)) 0 0 (va_A [(hh, .inr (13, [.ref aexpr, .ref achoo, .ref ameth, .ref aroom, .ref anod, .ref asort, .ref anote, .ref amet, .int 0, .int 1])), (aroom, .inr (9, [.ref asort, .ref anod, .ref atold, .int 3, .ref aheld, .int 0, .ref apair, .ref astep, .int 0, .int 0, .int (-1), .int 0, .int 0, .ref asize]))] sz) := by
  refine Met.ofW (cc := cX11_needType) (maxL := 2) (ret := none) (by decide) rfl ?_
  intro p e s m args below meth c s₁ B hml hv
  obtain ⟨rfl, hsz, hP, hK, hD0, hE⟩ := hv
  have hx := B.exec
  have hb := B.bytes
  have hr := B.returns
  have hts := atoms_spec (ws := w_c_H_needType_1) B.pre
  have hown : s.vm.findClass RX11 = some m.cls := findClass_of_methodNamed B.named
  have hlocks := B.notSynchronized
  subst hsz
  have hD := hD0.self (sz := s.heap.size)
  generalize hAe : va_A [(hh, .inr (13, [.ref aexpr, .ref achoo, .ref ameth, .ref aroom, .ref anod, .ref asort, .ref anote, .ref amet, .int 0, .int 1])), (aroom, .inr (9, [.ref asort, .ref anod, .ref atold, .int 3, .ref aheld, .int 0, .ref apair, .ref astep, .int 0, .int 0, .int (-1), .int 0, .int 0, .ref asize]))] s.heap.size = A at hD hE ⊢
  have hA : ∀ q : Nat, s.heap.size ≤ q → A q := fun q h => by rw [← hAe]; exact Or.inr h
  have hS : va_S A s.heap s.heap [] := va_S.rf
  have hP : va_P (dC, dI) vwCl [(hh, .inr (13, [.ref aexpr, .ref achoo, .ref ameth, .ref aroom, .ref anod, .ref asort, .ref anote, .ref amet, .int 0, .int 1])), (aroom, .inr (9, [.ref asort, .ref anod, .ref atold, .int 3, .ref aheld, .int 0, .ref apair, .ref astep, .int 0, .int 0, .int (-1), .int 0, .int 0, .ref asize]))] s.heap := hP
  have hl := lv_entry ([.ref hh, .int 1]) (n := 2) (Nat.le_of_ble_eq_true rfl)
  rw [lg_entry_eq]
  generalize (lg_sl ([.ref hh, .int 1]) ++ List.replicate (2 - (lg_sl ([.ref hh, .int 1])).length) Slot.unset).toArray = ls at hl ⊢
  have hl : lv_has ls 2 [(0, .ref hh), (1, .int 1)] := hl
  have in_RX11 : ∀ w ∈ u_ws RX11 TX11 10, w ∈ w_c_H_needType_1 := by decide +kernel
  have in_RX7 : ∀ w ∈ u_ws RX7 TX7 14, w ∈ w_c_H_needType_1 := by decide +kernel
  refine lv_iload_n hx hb dX11_needType_0 rfl (lv_at hl 1 rfl) ?_
  refine lv_if_lt (tgt := 15) hx hb dX11_needType_1 (by decide) (fun c_1 => ?_) (fun c_1 => ?_)
  · exact absurd c_1 (by decide)
  refine lv_iload_n hx hb dX11_needType_4 rfl (lv_at hl 1 rfl) ?_
  refine lv_aload_n hx hb dX11_needType_5 rfl (lv_at hl 0 rfl) ?_
  refine va_get (D := (dC, dI)) (ci := 13) (v := .ref aroom) (C := RX11) (T := TX11) (N := 10) hx hb hts in_RX11 hown hK hP 0 rfl rfl 3 (by decide) (hts (.fieldLink RX11 31 "Hornbook" "room" "LHornbook$Room;") (by decide +kernel)) (fun _ h9 => h9) rfl dX11_needType_6 ?_
  refine va_get (D := (dC, dI)) (ci := 9) (v := .int 3) (C := RX7) (T := TX7) (N := 14) hx hb hts in_RX7 hown hK hP 1 rfl rfl 3 (by decide) (hts (.fieldLink RX11 344 "Hornbook$Room" "tellings" "I") (by decide +kernel)) (fun _ h9 => h9) rfl dX11_needType_9 ?_
  refine lv_icmp_lt (tgt := 26) hx hb dX11_needType_12 (by decide) (fun c_2 => ?_) (fun c_2 => ?_)
  rotate_left
  · exact absurd (by decide) c_2
  have hP9 := hP.sub (ws' := [(hh, .inr (13, [.ref aexpr, .ref achoo, .ref ameth, .ref aroom, .ref anod, .ref asort, .ref anote, .ref amet, .int 0, .int 1])), (aroom, .inr (9, [.ref asort, .ref anod, .ref atold, .int 3, .ref aheld, .int 0, .ref apair, .ref astep, .int 0, .int 0, .int (-1), .int 0, .int 0, .ref asize]))]) [0, 1] rfl
  have hD9 := hD.sub (ws' := [(hh, .inr (13, [.ref aexpr, .ref achoo, .ref ameth, .ref aroom, .ref anod, .ref asort, .ref anote, .ref amet, .int 0, .int 1])), (aroom, .inr (9, [.ref asort, .ref anod, .ref atold, .int 3, .ref aheld, .int 0, .ref apair, .ref astep, .int 0, .int 0, .int (-1), .int 0, .int 0, .ref asize]))]) [0, 1] (by decide) rfl
  have hK9 := hK.sub (tys' := []) [] rfl
  refine W.widen (k := 0) (n := 0) (Nat.le_of_ble_eq_true rfl) (Nat.le_of_ble_eq_true rfl) ?_
  exact W.vret hx hb hr (fun t ht hW => ⟨⟨(), rfl, trivial, ⟨by rw [ht]; exact hP9, va_K.moved hW.alike hK9, hD9⟩⟩, hS.F ht⟩) hS.2.2 dX11_needType_26

def wb_c_H_needType_2 : List Cond := [.fieldLink RX11 31 "Hornbook" "room" "LHornbook$Room;", .fieldLink RX11 344 "Hornbook$Room" "tellings" "I"] ++ u_ws RX11 TX11 10 ++ u_ws RX7 TX7 14
def w_c_H_needType_2 : List Cond := .code yX11_needType cX11_needType 2 none :: wb_c_H_needType_2
set_option maxHeartbeats 4000000 in
set_option maxRecDepth 100000 in
theorem c_H_needType_2 (l : Launch) (eD eI : Nat) (ad : Nat → Nat) (dC : Nat → ClassId) (dI : Nat → Nat → Nat) (sz : Nat) (hh : Nat) (aexpr : Nat) (achoo : Nat) (ameth : Nat) (aroom : Nat) (anod : Nat) (asort : Nat) (anote : Nat) (amet : Nat) (atold : Nat) (aheld : Nat) (apair : Nat) (astep : Nat) (asize : Nat) : Met l yX11_needType w_c_H_needType_2 ({ frames := 0, cells := 0, slots := 0, locals := 0 }) (va_Pc [.ref hh, .int 2] (zPre eD eI ad (dC, dI) [(hh, .inr (13, [.ref aexpr, .ref achoo, .ref ameth, .ref aroom, .ref anod, .ref asort, .ref anote, .ref amet, .int 0, .int 1])), (aroom, .inr (9, [.ref asort, .ref anod, .ref atold, .int 3, .ref aheld, .int 0, .ref apair, .ref astep, .int 0, .int 0, .int (-1), .int 0, .int 0, .ref asize]))] [] sz)) (va_Qv (fun (_ : Unit) => True) (fun (_ : Unit) => zEnd (dC, dI) (va_A [(hh, .inr (13, [.ref aexpr, .ref achoo, .ref ameth, .ref aroom, .ref anod, .ref asort, .ref anote, .ref amet, .int 0, .int 1])), (aroom, .inr (9, [.ref asort, .ref anod, .ref atold, .int 3, .ref aheld, .int 0, .ref apair, .ref astep, .int 0, .int 0, .int (-1), .int 0, .int 0, .ref asize]))] sz) [(hh, .inr (13, [.ref aexpr, .ref achoo, .ref ameth, .ref aroom, .ref anod, .ref asort, .ref anote, .ref amet, .int 0, .int 1])), (aroom, .inr (9, [.ref asort, .ref anod, .ref atold, .int 3, .ref aheld, .int 0, .ref apair, .ref astep, .int 0, .int 0, .int (-1), .int 0, .int 0, .ref asize]))] []) (va_A [(hh, .inr (13, [.ref aexpr, .ref achoo, .ref ameth, .ref aroom, .ref anod, .ref asort, .ref anote, .ref amet, .int 0, .int 1])), (aroom, .inr (9, [.ref asort, .ref anod, .ref atold, .int 3, .ref aheld, .int 0, .ref apair, .ref astep, .int 0, .int 0, .int (-1), .int 0, .int 0, .ref asize]))] sz)) 0 0 (va_A [(hh, .inr (13, [.ref aexpr, .ref achoo, .ref ameth, .ref aroom, .ref anod, .ref asort, .ref anote, .ref amet, .int 0, .int 1])), (aroom, .inr (9, [.ref asort, .ref anod, .ref atold, .int 3, .ref aheld, .int 0, .ref apair, .ref astep, .int 0, .int 0, .int (-1), .int 0, .int 0, .ref asize]))] sz) := by
  refine Met.ofW (cc := cX11_needType) (maxL := 2) (ret := none) (by decide) rfl ?_
  intro p e s m args below meth c s₁ B hml hv
  obtain ⟨rfl, hsz, hP, hK, hD0, hE⟩ := hv
  have hx := B.exec
  have hb := B.bytes
  have hr := B.returns
  have hts := atoms_spec (ws := w_c_H_needType_2) B.pre
  have hown : s.vm.findClass RX11 = some m.cls := findClass_of_methodNamed B.named
  have hlocks := B.notSynchronized
  subst hsz
  have hD := hD0.self (sz := s.heap.size)
  generalize hAe : va_A [(hh, .inr (13, [.ref aexpr, .ref achoo, .ref ameth, .ref aroom, .ref anod, .ref asort, .ref anote, .ref amet, .int 0, .int 1])), (aroom, .inr (9, [.ref asort, .ref anod, .ref atold, .int 3, .ref aheld, .int 0, .ref apair, .ref astep, .int 0, .int 0, .int (-1), .int 0, .int 0, .ref asize]))] s.heap.size = A at hD hE ⊢
  have hA : ∀ q : Nat, s.heap.size ≤ q → A q := fun q h => by rw [← hAe]; exact Or.inr h
  have hS : va_S A s.heap s.heap [] := va_S.rf
  have hP : va_P (dC, dI) vwCl [(hh, .inr (13, [.ref aexpr, .ref achoo, .ref ameth, .ref aroom, .ref anod, .ref asort, .ref anote, .ref amet, .int 0, .int 1])), (aroom, .inr (9, [.ref asort, .ref anod, .ref atold, .int 3, .ref aheld, .int 0, .ref apair, .ref astep, .int 0, .int 0, .int (-1), .int 0, .int 0, .ref asize]))] s.heap := hP
  have hl := lv_entry ([.ref hh, .int 2]) (n := 2) (Nat.le_of_ble_eq_true rfl)
  rw [lg_entry_eq]
  generalize (lg_sl ([.ref hh, .int 2]) ++ List.replicate (2 - (lg_sl ([.ref hh, .int 2])).length) Slot.unset).toArray = ls at hl ⊢
  have hl : lv_has ls 2 [(0, .ref hh), (1, .int 2)] := hl
  have in_RX11 : ∀ w ∈ u_ws RX11 TX11 10, w ∈ w_c_H_needType_2 := by decide +kernel
  have in_RX7 : ∀ w ∈ u_ws RX7 TX7 14, w ∈ w_c_H_needType_2 := by decide +kernel
  refine lv_iload_n hx hb dX11_needType_0 rfl (lv_at hl 1 rfl) ?_
  refine lv_if_lt (tgt := 15) hx hb dX11_needType_1 (by decide) (fun c_1 => ?_) (fun c_1 => ?_)
  · exact absurd c_1 (by decide)
  refine lv_iload_n hx hb dX11_needType_4 rfl (lv_at hl 1 rfl) ?_
  refine lv_aload_n hx hb dX11_needType_5 rfl (lv_at hl 0 rfl) ?_
  refine va_get (D := (dC, dI)) (ci := 13) (v := .ref aroom) (C := RX11) (T := TX11) (N := 10) hx hb hts in_RX11 hown hK hP 0 rfl rfl 3 (by decide) (hts (.fieldLink RX11 31 "Hornbook" "room" "LHornbook$Room;") (by decide +kernel)) (fun _ h9 => h9) rfl dX11_needType_6 ?_
  refine va_get (D := (dC, dI)) (ci := 9) (v := .int 3) (C := RX7) (T := TX7) (N := 14) hx hb hts in_RX7 hown hK hP 1 rfl rfl 3 (by decide) (hts (.fieldLink RX11 344 "Hornbook$Room" "tellings" "I") (by decide +kernel)) (fun _ h9 => h9) rfl dX11_needType_9 ?_
  refine lv_icmp_lt (tgt := 26) hx hb dX11_needType_12 (by decide) (fun c_2 => ?_) (fun c_2 => ?_)
  rotate_left
  · exact absurd (by decide) c_2
  have hP9 := hP.sub (ws' := [(hh, .inr (13, [.ref aexpr, .ref achoo, .ref ameth, .ref aroom, .ref anod, .ref asort, .ref anote, .ref amet, .int 0, .int 1])), (aroom, .inr (9, [.ref asort, .ref anod, .ref atold, .int 3, .ref aheld, .int 0, .ref apair, .ref astep, .int 0, .int 0, .int (-1), .int 0, .int 0, .ref asize]))]) [0, 1] rfl
  have hD9 := hD.sub (ws' := [(hh, .inr (13, [.ref aexpr, .ref achoo, .ref ameth, .ref aroom, .ref anod, .ref asort, .ref anote, .ref amet, .int 0, .int 1])), (aroom, .inr (9, [.ref asort, .ref anod, .ref atold, .int 3, .ref aheld, .int 0, .ref apair, .ref astep, .int 0, .int 0, .int (-1), .int 0, .int 0, .ref asize]))]) [0, 1] (by decide) rfl
  have hK9 := hK.sub (tys' := []) [] rfl
  refine W.widen (k := 0) (n := 0) (Nat.le_of_ble_eq_true rfl) (Nat.le_of_ble_eq_true rfl) ?_
  exact W.vret hx hb hr (fun t ht hW => ⟨⟨(), rfl, trivial, ⟨by rw [ht]; exact hP9, va_K.moved hW.alike hK9, hD9⟩⟩, hS.F ht⟩) hS.2.2 dX11_needType_26

def wb_c_H_needType_ok : List Cond := [.fieldLink RX11 31 "Hornbook" "room" "LHornbook$Room;", .fieldLink RX11 344 "Hornbook$Room" "tellings" "I"] ++ u_ws RX11 TX11 10 ++ u_ws RX7 TX7 14
def w_c_H_needType_ok : List Cond := .code yX11_needType cX11_needType 2 none :: wb_c_H_needType_ok
set_option maxHeartbeats 4000000 in
set_option maxRecDepth 100000 in
theorem c_H_needType_ok (l : Launch) (eD eI : Nat) (ad : Nat → Nat) (dC : Nat → ClassId) (dI : Nat → Nat → Nat) (sz : Nat) (hh : Nat) (aexpr : Nat) (achoo : Nat) (ameth : Nat) (aroom : Nat) (anod : Nat) (asort : Nat) (anote : Nat) (amet : Nat) (atold : Nat) (aheld : Nat) (apair : Nat) (astep : Nat) (asize : Nat) (v : Int32) (hv0 : ¬ v < 0) (hv1 : ¬ 2 < v) : Met l yX11_needType w_c_H_needType_ok ({ frames := 0, cells := 0, slots := 0, locals := 0 }) (va_Pc [.ref hh, .int v] (zPre eD eI ad (dC, dI) [(hh, .inr (13, [.ref aexpr, .ref achoo, .ref ameth, .ref aroom, .ref anod, .ref asort, .ref anote, .ref amet, .int 0, .int 1])), (aroom, .inr (9, [.ref asort, .ref anod, .ref atold, .int 3, .ref aheld, .int 0, .ref apair, .ref astep, .int 0, .int 0, .int (-1), .int 0, .int 0, .ref asize]))] [] sz)) (va_Qv (fun (_ : Unit) => True) (fun (_ : Unit) => zEnd (dC, dI) (va_A [(hh, .inr (13, [.ref aexpr, .ref achoo, .ref ameth, .ref aroom, .ref anod, .ref asort, .ref anote, .ref amet, .int 0, .int 1])), (aroom, .inr (9, [.ref asort, .ref anod, .ref atold, .int 3, .ref aheld, .int 0, .ref apair, .ref astep, .int 0, .int 0, .int (-1), .int 0, .int 0, .ref asize]))] sz) [(hh, .inr (13, [.ref aexpr, .ref achoo, .ref ameth, .ref aroom, .ref anod, .ref asort, .ref anote, .ref amet, .int 0, .int 1])), (aroom, .inr (9, [.ref asort, .ref anod, .ref atold, .int 3, .ref aheld, .int 0, .ref apair, .ref astep, .int 0, .int 0, .int (-1), .int 0, .int 0, .ref asize]))] []) (va_A [(hh, .inr (13, [.ref aexpr, .ref achoo, .ref ameth, .ref aroom, .ref anod, .ref asort, .ref anote, .ref amet, .int 0, .int 1])), (aroom, .inr (9, [.ref asort, .ref anod, .ref atold, .int 3, .ref aheld, .int 0, .ref apair, .ref astep, .int 0, .int 0, .int (-1), .int 0, .int 0, .ref asize]))] sz)) 0 0 (va_A [(hh, .inr (13, [.ref aexpr, .ref achoo, .ref ameth, .ref aroom, .ref anod, .ref asort, .ref anote, .ref amet, .int 0, .int 1])), (aroom, .inr (9, [.ref asort, .ref anod, .ref atold, .int 3, .ref aheld, .int 0, .ref apair, .ref astep, .int 0, .int 0, .int (-1), .int 0, .int 0, .ref asize]))] sz) := by
  refine Met.ofW (cc := cX11_needType) (maxL := 2) (ret := none) (by decide) rfl ?_
  intro p e s m args below meth c s₁ B hml hv
  obtain ⟨rfl, hsz, hP, hK, hD0, hE⟩ := hv
  have hx := B.exec
  have hb := B.bytes
  have hr := B.returns
  have hts := atoms_spec (ws := w_c_H_needType_ok) B.pre
  have hown : s.vm.findClass RX11 = some m.cls := findClass_of_methodNamed B.named
  have hlocks := B.notSynchronized
  subst hsz
  have hD := hD0.self (sz := s.heap.size)
  generalize hAe : va_A [(hh, .inr (13, [.ref aexpr, .ref achoo, .ref ameth, .ref aroom, .ref anod, .ref asort, .ref anote, .ref amet, .int 0, .int 1])), (aroom, .inr (9, [.ref asort, .ref anod, .ref atold, .int 3, .ref aheld, .int 0, .ref apair, .ref astep, .int 0, .int 0, .int (-1), .int 0, .int 0, .ref asize]))] s.heap.size = A at hD hE ⊢
  have hA : ∀ q : Nat, s.heap.size ≤ q → A q := fun q h => by rw [← hAe]; exact Or.inr h
  have hS : va_S A s.heap s.heap [] := va_S.rf
  have hP : va_P (dC, dI) vwCl [(hh, .inr (13, [.ref aexpr, .ref achoo, .ref ameth, .ref aroom, .ref anod, .ref asort, .ref anote, .ref amet, .int 0, .int 1])), (aroom, .inr (9, [.ref asort, .ref anod, .ref atold, .int 3, .ref aheld, .int 0, .ref apair, .ref astep, .int 0, .int 0, .int (-1), .int 0, .int 0, .ref asize]))] s.heap := hP
  have hl := lv_entry ([.ref hh, .int v]) (n := 2) (Nat.le_of_ble_eq_true rfl)
  rw [lg_entry_eq]
  generalize (lg_sl ([.ref hh, .int v]) ++ List.replicate (2 - (lg_sl ([.ref hh, .int v])).length) Slot.unset).toArray = ls at hl ⊢
  have hl : lv_has ls 2 [(0, .ref hh), (1, .int v)] := hl
  have in_RX11 : ∀ w ∈ u_ws RX11 TX11 10, w ∈ w_c_H_needType_ok := by decide +kernel
  have in_RX7 : ∀ w ∈ u_ws RX7 TX7 14, w ∈ w_c_H_needType_ok := by decide +kernel
  refine lv_iload_n hx hb dX11_needType_0 rfl (lv_at hl 1 rfl) ?_
  refine lv_if_lt (tgt := 15) hx hb dX11_needType_1 (by decide) (fun c_1 => ?_) (fun c_1 => ?_)
  · exact absurd c_1 hv0
  refine lv_iload_n hx hb dX11_needType_4 rfl (lv_at hl 1 rfl) ?_
  refine lv_aload_n hx hb dX11_needType_5 rfl (lv_at hl 0 rfl) ?_
  refine va_get (D := (dC, dI)) (ci := 13) (v := .ref aroom) (C := RX11) (T := TX11) (N := 10) hx hb hts in_RX11 hown hK hP 0 rfl rfl 3 (by decide) (hts (.fieldLink RX11 31 "Hornbook" "room" "LHornbook$Room;") (by decide +kernel)) (fun _ h9 => h9) rfl dX11_needType_6 ?_
  refine va_get (D := (dC, dI)) (ci := 9) (v := .int 3) (C := RX7) (T := TX7) (N := 14) hx hb hts in_RX7 hown hK hP 1 rfl rfl 3 (by decide) (hts (.fieldLink RX11 344 "Hornbook$Room" "tellings" "I") (by decide +kernel)) (fun _ h9 => h9) rfl dX11_needType_9 ?_
  refine lv_icmp_lt (tgt := 26) hx hb dX11_needType_12 (by decide) (fun c_2 => ?_) (fun c_2 => ?_)
  rotate_left
  · exact absurd ((Int32.lt_of_le_of_lt (Int32.not_lt.mp hv1) (by decide))) c_2
  have hP9 := hP.sub (ws' := [(hh, .inr (13, [.ref aexpr, .ref achoo, .ref ameth, .ref aroom, .ref anod, .ref asort, .ref anote, .ref amet, .int 0, .int 1])), (aroom, .inr (9, [.ref asort, .ref anod, .ref atold, .int 3, .ref aheld, .int 0, .ref apair, .ref astep, .int 0, .int 0, .int (-1), .int 0, .int 0, .ref asize]))]) [0, 1] rfl
  have hD9 := hD.sub (ws' := [(hh, .inr (13, [.ref aexpr, .ref achoo, .ref ameth, .ref aroom, .ref anod, .ref asort, .ref anote, .ref amet, .int 0, .int 1])), (aroom, .inr (9, [.ref asort, .ref anod, .ref atold, .int 3, .ref aheld, .int 0, .ref apair, .ref astep, .int 0, .int 0, .int (-1), .int 0, .int 0, .ref asize]))]) [0, 1] (by decide) rfl
  have hK9 := hK.sub (tys' := []) [] rfl
  refine W.widen (k := 0) (n := 0) (Nat.le_of_ble_eq_true rfl) (Nat.le_of_ble_eq_true rfl) ?_
  exact W.vret hx hb hr (fun t ht hW => ⟨⟨(), rfl, trivial, ⟨by rw [ht]; exact hP9, va_K.moved hW.alike hK9, hD9⟩⟩, hS.F ht⟩) hS.2.2 dX11_needType_26

def wb_c_H_needTypeN_n : List Cond := []
def w_c_H_needTypeN_n : List Cond := .code yX11_needTypeOrNone cX11_needTypeOrNone 2 none :: wb_c_H_needTypeN_n
set_option maxHeartbeats 4000000 in
set_option maxRecDepth 100000 in
theorem c_H_needTypeN_n (l : Launch) (eD eI : Nat) (ad : Nat → Nat) (dC : Nat → ClassId) (dI : Nat → Nat → Nat) (sz : Nat) (hh : Nat) (aexpr : Nat) (achoo : Nat) (ameth : Nat) (aroom : Nat) (anod : Nat) (asort : Nat) (anote : Nat) (amet : Nat) (atold : Nat) (aheld : Nat) (apair : Nat) (astep : Nat) (asize : Nat) : Met l yX11_needTypeOrNone w_c_H_needTypeN_n ({ frames := 0, cells := 0, slots := 0, locals := 0 }) (va_Pc [.ref hh, .int (-1)] (zPre eD eI ad (dC, dI) [(hh, .inr (13, [.ref aexpr, .ref achoo, .ref ameth, .ref aroom, .ref anod, .ref asort, .ref anote, .ref amet, .int 0, .int 1])), (aroom, .inr (9, [.ref asort, .ref anod, .ref atold, .int 3, .ref aheld, .int 0, .ref apair, .ref astep, .int 0, .int 0, .int (-1), .int 0, .int 0, .ref asize]))] [] sz)) (va_Qv (fun (_ : Unit) => True) (fun (_ : Unit) => zEnd (dC, dI) (va_A [(hh, .inr (13, [.ref aexpr, .ref achoo, .ref ameth, .ref aroom, .ref anod, .ref asort, .ref anote, .ref amet, .int 0, .int 1])), (aroom, .inr (9, [.ref asort, .ref anod, .ref atold, .int 3, .ref aheld, .int 0, .ref apair, .ref astep, .int 0, .int 0, .int (-1), .int 0, .int 0, .ref asize]))] sz) [(hh, .inr (13, [.ref aexpr, .ref achoo, .ref ameth, .ref aroom, .ref anod, .ref asort, .ref anote, .ref amet, .int 0, .int 1])), (aroom, .inr (9, [.ref asort, .ref anod, .ref atold, .int 3, .ref aheld, .int 0, .ref apair, .ref astep, .int 0, .int 0, .int (-1), .int 0, .int 0, .ref asize]))] []) (va_A [(hh, .inr (13, [.ref aexpr, .ref achoo, .ref ameth, .ref aroom, .ref anod, .ref asort, .ref anote, .ref amet, .int 0, .int 1])), (aroom, .inr (9, [.ref asort, .ref anod, .ref atold, .int 3, .ref aheld, .int 0, .ref apair, .ref astep, .int 0, .int 0, .int (-1), .int 0, .int 0, .ref asize]))] sz)) 0 0 (va_A [(hh, .inr (13, [.ref aexpr, .ref achoo, .ref ameth, .ref aroom, .ref anod, .ref asort, .ref anote, .ref amet, .int 0, .int 1])), (aroom, .inr (9, [.ref asort, .ref anod, .ref atold, .int 3, .ref aheld, .int 0, .ref apair, .ref astep, .int 0, .int 0, .int (-1), .int 0, .int 0, .ref asize]))] sz) := by
  refine Met.ofW (cc := cX11_needTypeOrNone) (maxL := 2) (ret := none) (by decide) rfl ?_
  intro p e s m args below meth c s₁ B hml hv
  obtain ⟨rfl, hsz, hP, hK, hD0, hE⟩ := hv
  have hx := B.exec
  have hb := B.bytes
  have hr := B.returns
  have hts := atoms_spec (ws := w_c_H_needTypeN_n) B.pre
  have hown : s.vm.findClass RX11 = some m.cls := findClass_of_methodNamed B.named
  have hlocks := B.notSynchronized
  subst hsz
  have hD := hD0.self (sz := s.heap.size)
  generalize hAe : va_A [(hh, .inr (13, [.ref aexpr, .ref achoo, .ref ameth, .ref aroom, .ref anod, .ref asort, .ref anote, .ref amet, .int 0, .int 1])), (aroom, .inr (9, [.ref asort, .ref anod, .ref atold, .int 3, .ref aheld, .int 0, .ref apair, .ref astep, .int 0, .int 0, .int (-1), .int 0, .int 0, .ref asize]))] s.heap.size = A at hD hE ⊢
  have hA : ∀ q : Nat, s.heap.size ≤ q → A q := fun q h => by rw [← hAe]; exact Or.inr h
  have hS : va_S A s.heap s.heap [] := va_S.rf
  have hP : va_P (dC, dI) vwCl [(hh, .inr (13, [.ref aexpr, .ref achoo, .ref ameth, .ref aroom, .ref anod, .ref asort, .ref anote, .ref amet, .int 0, .int 1])), (aroom, .inr (9, [.ref asort, .ref anod, .ref atold, .int 3, .ref aheld, .int 0, .ref apair, .ref astep, .int 0, .int 0, .int (-1), .int 0, .int 0, .ref asize]))] s.heap := hP
  have hl := lv_entry ([.ref hh, .int (-1)]) (n := 2) (Nat.le_of_ble_eq_true rfl)
  rw [lg_entry_eq]
  generalize (lg_sl ([.ref hh, .int (-1)]) ++ List.replicate (2 - (lg_sl ([.ref hh, .int (-1)])).length) Slot.unset).toArray = ls at hl ⊢
  have hl : lv_has ls 2 [(0, .ref hh), (1, .int (-1))] := hl
  refine lv_iload_n hx hb dX11_needTypeOrNone_0 rfl (lv_at hl 1 rfl) ?_
  refine lv_iconst (v := (-1)) hx hb dX11_needTypeOrNone_1 (by decide) ?_
  refine lv_icmp_eq (tgt := 10) hx hb dX11_needTypeOrNone_2 (by decide) (fun c_1 => ?_) (fun c_1 => ?_)
  rotate_left
  · exact absurd (by decide) c_1
  have hP9 := hP.sub (ws' := [(hh, .inr (13, [.ref aexpr, .ref achoo, .ref ameth, .ref aroom, .ref anod, .ref asort, .ref anote, .ref amet, .int 0, .int 1])), (aroom, .inr (9, [.ref asort, .ref anod, .ref atold, .int 3, .ref aheld, .int 0, .ref apair, .ref astep, .int 0, .int 0, .int (-1), .int 0, .int 0, .ref asize]))]) [0, 1] rfl
  have hD9 := hD.sub (ws' := [(hh, .inr (13, [.ref aexpr, .ref achoo, .ref ameth, .ref aroom, .ref anod, .ref asort, .ref anote, .ref amet, .int 0, .int 1])), (aroom, .inr (9, [.ref asort, .ref anod, .ref atold, .int 3, .ref aheld, .int 0, .ref apair, .ref astep, .int 0, .int 0, .int (-1), .int 0, .int 0, .ref asize]))]) [0, 1] (by decide) rfl
  have hK9 := hK.sub (tys' := []) [] rfl
  refine W.widen (k := 0) (n := 0) (Nat.le_of_ble_eq_true rfl) (Nat.le_of_ble_eq_true rfl) ?_
  exact W.vret hx hb hr (fun t ht hW => ⟨⟨(), rfl, trivial, ⟨by rw [ht]; exact hP9, va_K.moved hW.alike hK9, hD9⟩⟩, hS.F ht⟩) hS.2.2 dX11_needTypeOrNone_10

def wb_c_H_needTypeN_l : List Cond := [.code yX11_needType cX11_needType 2 none, .classLink RX11 277 "java/lang/IndexOutOfBoundsException", .initialized "java/lang/IndexOutOfBoundsException", .methodLink RX11 116 yX11_needType, .instanceMethod yX11_needType, .selects RX11 yX11_needType yX11_needType, .initialized RX11]
def w_c_H_needTypeN_l : List Cond := .code yX11_needTypeOrNone cX11_needTypeOrNone 2 none :: (wb_c_H_needTypeN_l ++ zAt)
set_option maxRecDepth 100000 in
theorem g_c_H_needTypeN_l_0 : GoodIn w_c_H_needTypeN_l (wsV RX11 116 RX11 yX11_needType w_c_H_needType_l) := goodIn_app (goodIn_of _ (by decide +kernel)) (goodIn_ca (goodIn_p (big := w_c_H_needTypeN_l) (.code yX11_needType cX11_needType 2 none :: wb_c_H_needType_l) [1] rfl (by decide +kernel)) (goodIn_sub (fun _ h => List.mem_cons_of_mem _ (List.mem_append_right _ h)) zAt_good))
set_option maxHeartbeats 4000000 in
set_option maxRecDepth 100000 in
theorem c_H_needTypeN_l (l : Launch) (hfl : l.flags = flags0) (eD eI : Nat) (ad : Nat → Nat) (dC : Nat → ClassId) (dI : Nat → Nat → Nat) (sz : Nat) (hh : Nat) (aexpr : Nat) (achoo : Nat) (ameth : Nat) (aroom : Nat) (anod : Nat) (asort : Nat) (anote : Nat) (amet : Nat) (atold : Nat) (aheld : Nat) (apair : Nat) (astep : Nat) (asize : Nat) (v : Int32) (hv9 : ¬ v = (-1)) (hv1 : v < 0) : vx_Met l yX11_needTypeOrNone w_c_H_needTypeN_l ({ frames := 7, cells := 1, slots := 6, locals := 103 }) (va_Pc [.ref hh, .int v] (zPreD eD eI ad (dC, dI) [(hh, .inr (13, [.ref aexpr, .ref achoo, .ref ameth, .ref aroom, .ref anod, .ref asort, .ref anote, .ref amet, .int 0, .int 1])), (aroom, .inr (9, [.ref asort, .ref anod, .ref atold, .int 3, .ref aheld, .int 0, .ref apair, .ref astep, .int 0, .int 0, .int (-1), .int 0, .int 0, .ref asize]))] [] sz)) (va_Qv (fun (_ : Unit) => False) (fun (_ : Unit) => zEnd (dC, dI) (va_A [(hh, .inr (13, [.ref aexpr, .ref achoo, .ref ameth, .ref aroom, .ref anod, .ref asort, .ref anote, .ref amet, .int 0, .int 1])), (aroom, .inr (9, [.ref asort, .ref anod, .ref atold, .int 3, .ref aheld, .int 0, .ref apair, .ref astep, .int 0, .int 0, .int (-1), .int 0, .int 0, .ref asize]))] sz) [(hh, .inr (13, [.ref aexpr, .ref achoo, .ref ameth, .ref aroom, .ref anod, .ref asort, .ref anote, .ref amet, .int 0, .int 1])), (aroom, .inr (9, [.ref asort, .ref anod, .ref atold, .int 3, .ref aheld, .int 0, .ref apair, .ref astep, .int 0, .int 0, .int (-1), .int 0, .int 0, .ref asize]))] []) (va_A [(hh, .inr (13, [.ref aexpr, .ref achoo, .ref ameth, .ref aroom, .ref anod, .ref asort, .ref anote, .ref amet, .int 0, .int 1])), (aroom, .inr (9, [.ref asort, .ref anod, .ref atold, .int 3, .ref aheld, .int 0, .ref apair, .ref astep, .int 0, .int 0, .int (-1), .int 0, .int 0, .ref asize]))] sz)) (zX (fun E => E = "java/lang/IndexOutOfBoundsException") (va_A [(hh, .inr (13, [.ref aexpr, .ref achoo, .ref ameth, .ref aroom, .ref anod, .ref asort, .ref anote, .ref amet, .int 0, .int 1])), (aroom, .inr (9, [.ref asort, .ref anod, .ref atold, .int 3, .ref aheld, .int 0, .ref apair, .ref astep, .int 0, .int 0, .int (-1), .int 0, .int 0, .ref asize]))] sz)) 1 6 (va_A [(hh, .inr (13, [.ref aexpr, .ref achoo, .ref ameth, .ref aroom, .ref anod, .ref asort, .ref anote, .ref amet, .int 0, .int 1])), (aroom, .inr (9, [.ref asort, .ref anod, .ref atold, .int 3, .ref aheld, .int 0, .ref apair, .ref astep, .int 0, .int 0, .int (-1), .int 0, .int 0, .ref asize]))] sz) := by
  refine vx_ofW (cc := cX11_needTypeOrNone) (maxL := 2) (ret := none) (by decide +kernel) rfl ?_
  intro p e s m args below meth c s₁ B hml htab hv
  obtain ⟨rfl, ⟨hsz, hP, hK, hD0, hE⟩, hDc⟩ := hv
  have hx := B.exec
  have hb := B.bytes
  have hr := B.returns
  have hts := atoms_spec (ws := w_c_H_needTypeN_l) B.pre
  have hown : s.vm.findClass RX11 = some m.cls := findClass_of_methodNamed B.named
  have hlocks := B.notSynchronized
  subst hsz
  have hD := hD0.self (sz := s.heap.size)
  generalize hAe : va_A [(hh, .inr (13, [.ref aexpr, .ref achoo, .ref ameth, .ref aroom, .ref anod, .ref asort, .ref anote, .ref amet, .int 0, .int 1])), (aroom, .inr (9, [.ref asort, .ref anod, .ref atold, .int 3, .ref aheld, .int 0, .ref apair, .ref astep, .int 0, .int 0, .int (-1), .int 0, .int 0, .ref asize]))] s.heap.size = A at hD hE ⊢
  have hA : ∀ q : Nat, s.heap.size ≤ q → A q := fun q h => by rw [← hAe]; exact Or.inr h
  have hS : va_S A s.heap s.heap [] := va_S.rf
  have hP : va_P (dC, dI) vwCl [(hh, .inr (13, [.ref aexpr, .ref achoo, .ref ameth, .ref aroom, .ref anod, .ref asort, .ref anote, .ref amet, .int 0, .int 1])), (aroom, .inr (9, [.ref asort, .ref anod, .ref atold, .int 3, .ref aheld, .int 0, .ref apair, .ref astep, .int 0, .int 0, .int (-1), .int 0, .int 0, .ref asize]))] s.heap := hP
  have hl := lv_entry ([.ref hh, .int v]) (n := 2) (Nat.le_of_ble_eq_true rfl)
  rw [lg_entry_eq]
  generalize (lg_sl ([.ref hh, .int v]) ++ List.replicate (2 - (lg_sl ([.ref hh, .int v])).length) Slot.unset).toArray = ls at hl ⊢
  have hl : lv_has ls 2 [(0, .ref hh), (1, .int v)] := hl
  refine lv_iload_n hx hb dX11_needTypeOrNone_0 rfl (lv_at hl 1 rfl) ?_
  refine lv_iconst (v := (-1)) hx hb dX11_needTypeOrNone_1 (by decide) ?_
  refine lv_icmp_eq (tgt := 10) hx hb dX11_needTypeOrNone_2 (by decide) (fun c_1 => ?_) (fun c_1 => ?_)
  · exact absurd c_1 hv9
  refine lv_aload_n hx hb dX11_needTypeOrNone_5 rfl (lv_at hl 0 rfl) ?_
  refine lv_iload_n hx hb dX11_needTypeOrNone_6 rfl (lv_at hl 1 rfl) ?_
  refine zx_v (wr := []) (vx_runV (As := [.int v]) (rest := []) ⟨hx, hb, hml, hown, hts⟩ (c_H_needType_l l hfl eD eI ad dC dI s.heap.size hh aexpr achoo ameth aroom anod asort anote amet atold aheld apair astep asize v (hv1)) (cwV 1 hts g_c_H_needTypeN_l_0 rfl rfl rfl (by decide +kernel) ⟨Nat.le_of_ble_eq_true rfl, Nat.le_of_ble_eq_true rfl⟩) (z_preVD (wc := [(hh, .inr (13, [.ref aexpr, .ref achoo, .ref ameth, .ref aroom, .ref anod, .ref asort, .ref anote, .ref amet, .int 0, .int 1])), (aroom, .inr (9, [.ref asort, .ref anod, .ref atold, .int 3, .ref aheld, .int 0, .ref apair, .ref astep, .int 0, .int 0, .int (-1), .int 0, .int 0, .ref asize]))]) hP hD hK hS hA hE [0, 1] [] rfl (by decide) rfl (ci := 13) (q0 := 0) rfl rfl hDc) rfl rfl hl.1 rfl (lv_room (Nat.le_of_ble_eq_true rfl)) dX11_needTypeOrNone_7 ⟨Nat.le_of_ble_eq_true rfl, Nat.le_of_ble_eq_true rfl⟩) hP hD hK hS hA [0, 1] [] rfl rfl (by decide) (by decide) (fun E ce q9 H locs hbad hP hD hS h91 h92 h93 => ?_) (fun u H locs hw_3 hP hD hK hS => ?_)
  · have hbad : (fun E => E = "java/lang/IndexOutOfBoundsException") E := hbad
    refine vx_widen (k := 1) (n := 6) (Nat.le_of_ble_eq_true rfl) (Nat.le_of_ble_eq_true rfl) ?_
    exact vx_out (fun x h => (htab x h).elim) hlocks h91 h92 h93 (fun t ht hW => ⟨(), trivial, hbad, hS.F ht⟩) hS.2.2 (Nat.le_refl _) (Nat.le_refl _)
  exact absurd hw_3 id

def wb_c_H_needTypeN_h : List Cond := [.code yX11_needType cX11_needType 2 none, .fieldLink RX11 31 "Hornbook" "room" "LHornbook$Room;", .fieldLink RX11 344 "Hornbook$Room" "tellings" "I", .classLink RX11 277 "java/lang/IndexOutOfBoundsException", .initialized "java/lang/IndexOutOfBoundsException", .methodLink RX11 116 yX11_needType, .instanceMethod yX11_needType, .selects RX11 yX11_needType yX11_needType, .initialized RX11] ++ u_ws RX11 TX11 10 ++ u_ws RX7 TX7 14
def w_c_H_needTypeN_h : List Cond := .code yX11_needTypeOrNone cX11_needTypeOrNone 2 none :: (wb_c_H_needTypeN_h ++ zAt)
set_option maxRecDepth 100000 in
theorem g_c_H_needTypeN_h_0 : GoodIn w_c_H_needTypeN_h (wsV RX11 116 RX11 yX11_needType w_c_H_needType_h) := goodIn_app (goodIn_of _ (by decide +kernel)) (goodIn_ca (goodIn_p (big := w_c_H_needTypeN_h) (.code yX11_needType cX11_needType 2 none :: wb_c_H_needType_h) [1] rfl (by decide +kernel)) (goodIn_sub (fun _ h => List.mem_cons_of_mem _ (List.mem_append_right _ h)) zAt_good))
set_option maxHeartbeats 4000000 in
set_option maxRecDepth 100000 in
theorem c_H_needTypeN_h (l : Launch) (hfl : l.flags = flags0) (eD eI : Nat) (ad : Nat → Nat) (dC : Nat → ClassId) (dI : Nat → Nat → Nat) (sz : Nat) (hh : Nat) (aexpr : Nat) (achoo : Nat) (ameth : Nat) (aroom : Nat) (anod : Nat) (asort : Nat) (anote : Nat) (amet : Nat) (atold : Nat) (aheld : Nat) (apair : Nat) (astep : Nat) (asize : Nat) (v : Int32) (hv9 : ¬ v = (-1)) (hv0 : ¬ v < 0) (hv1 : 2 < v) : vx_Met l yX11_needTypeOrNone w_c_H_needTypeN_h ({ frames := 7, cells := 1, slots := 6, locals := 103 }) (va_Pc [.ref hh, .int v] (zPreD eD eI ad (dC, dI) [(hh, .inr (13, [.ref aexpr, .ref achoo, .ref ameth, .ref aroom, .ref anod, .ref asort, .ref anote, .ref amet, .int 0, .int 1])), (aroom, .inr (9, [.ref asort, .ref anod, .ref atold, .int 3, .ref aheld, .int 0, .ref apair, .ref astep, .int 0, .int 0, .int (-1), .int 0, .int 0, .ref asize]))] [] sz)) (va_Qv (fun (_ : Unit) => False) (fun (_ : Unit) => zEnd (dC, dI) (va_A [(hh, .inr (13, [.ref aexpr, .ref achoo, .ref ameth, .ref aroom, .ref anod, .ref asort, .ref anote, .ref amet, .int 0, .int 1])), (aroom, .inr (9, [.ref asort, .ref anod, .ref atold, .int 3, .ref aheld, .int 0, .ref apair, .ref astep, .int 0, .int 0, .int (-1), .int 0, .int 0, .ref asize]))] sz) [(hh, .inr (13, [.ref aexpr, .ref achoo, .ref ameth, .ref aroom, .ref anod, .ref asort, .ref anote, .ref amet, .int 0, .int 1])), (aroom, .inr (9, [.ref asort, .ref anod, .ref atold, .int 3, .ref aheld, .int 0, .ref apair, .ref astep, .int 0, .int 0, .int (-1), .int 0, .int 0, .ref asize]))] []) (va_A [(hh, .inr (13, [.ref aexpr, .ref achoo, .ref ameth, .ref aroom, .ref anod, .ref asort, .ref anote, .ref amet, .int 0, .int 1])), (aroom, .inr (9, [.ref asort, .ref anod, .ref atold, .int 3, .ref aheld, .int 0, .ref apair, .ref astep, .int 0, .int 0, .int (-1), .int 0, .int 0, .ref asize]))] sz)) (zX (fun E => E = "java/lang/IndexOutOfBoundsException") (va_A [(hh, .inr (13, [.ref aexpr, .ref achoo, .ref ameth, .ref aroom, .ref anod, .ref asort, .ref anote, .ref amet, .int 0, .int 1])), (aroom, .inr (9, [.ref asort, .ref anod, .ref atold, .int 3, .ref aheld, .int 0, .ref apair, .ref astep, .int 0, .int 0, .int (-1), .int 0, .int 0, .ref asize]))] sz)) 1 6 (va_A [(hh, .inr (13, [.ref aexpr, .ref achoo, .ref ameth, .ref aroom, .ref anod, .ref asort, .ref anote, .ref amet, .int 0, .int 1])), (aroom, .inr (9, [.ref asort, .ref anod, .ref atold, .int 3, .ref aheld, .int 0, .ref apair, .ref astep, .int 0, .int 0, .int (-1), .int 0, .int 0, .ref asize]))] sz) := by
  refine vx_ofW (cc := cX11_needTypeOrNone) (maxL := 2) (ret := none) (by decide +kernel) rfl ?_
  intro p e s m args below meth c s₁ B hml htab hv
  obtain ⟨rfl, ⟨hsz, hP, hK, hD0, hE⟩, hDc⟩ := hv
  have hx := B.exec
  have hb := B.bytes
  have hr := B.returns
  have hts := atoms_spec (ws := w_c_H_needTypeN_h) B.pre
  have hown : s.vm.findClass RX11 = some m.cls := findClass_of_methodNamed B.named
  have hlocks := B.notSynchronized
  subst hsz
  have hD := hD0.self (sz := s.heap.size)
  generalize hAe : va_A [(hh, .inr (13, [.ref aexpr, .ref achoo, .ref ameth, .ref aroom, .ref anod, .ref asort, .ref anote, .ref amet, .int 0, .int 1])), (aroom, .inr (9, [.ref asort, .ref anod, .ref atold, .int 3, .ref aheld, .int 0, .ref apair, .ref astep, .int 0, .int 0, .int (-1), .int 0, .int 0, .ref asize]))] s.heap.size = A at hD hE ⊢
  have hA : ∀ q : Nat, s.heap.size ≤ q → A q := fun q h => by rw [← hAe]; exact Or.inr h
  have hS : va_S A s.heap s.heap [] := va_S.rf
  have hP : va_P (dC, dI) vwCl [(hh, .inr (13, [.ref aexpr, .ref achoo, .ref ameth, .ref aroom, .ref anod, .ref asort, .ref anote, .ref amet, .int 0, .int 1])), (aroom, .inr (9, [.ref asort, .ref anod, .ref atold, .int 3, .ref aheld, .int 0, .ref apair, .ref astep, .int 0, .int 0, .int (-1), .int 0, .int 0, .ref asize]))] s.heap := hP
  have hl := lv_entry ([.ref hh, .int v]) (n := 2) (Nat.le_of_ble_eq_true rfl)
  rw [lg_entry_eq]
  generalize (lg_sl ([.ref hh, .int v]) ++ List.replicate (2 - (lg_sl ([.ref hh, .int v])).length) Slot.unset).toArray = ls at hl ⊢
  have hl : lv_has ls 2 [(0, .ref hh), (1, .int v)] := hl
  have in_RX11 : ∀ w ∈ u_ws RX11 TX11 10, w ∈ w_c_H_needTypeN_h := by decide +kernel
  have in_RX7 : ∀ w ∈ u_ws RX7 TX7 14, w ∈ w_c_H_needTypeN_h := by decide +kernel
  refine lv_iload_n hx hb dX11_needTypeOrNone_0 rfl (lv_at hl 1 rfl) ?_
  refine lv_iconst (v := (-1)) hx hb dX11_needTypeOrNone_1 (by decide) ?_
  refine lv_icmp_eq (tgt := 10) hx hb dX11_needTypeOrNone_2 (by decide) (fun c_1 => ?_) (fun c_1 => ?_)
  · exact absurd c_1 hv9
  refine lv_aload_n hx hb dX11_needTypeOrNone_5 rfl (lv_at hl 0 rfl) ?_
  refine lv_iload_n hx hb dX11_needTypeOrNone_6 rfl (lv_at hl 1 rfl) ?_
  refine zx_v (wr := []) (vx_runV (As := [.int v]) (rest := []) ⟨hx, hb, hml, hown, hts⟩ (c_H_needType_h l hfl eD eI ad dC dI s.heap.size hh aexpr achoo ameth aroom anod asort anote amet atold aheld apair astep asize v (hv0) (hv1)) (cwV 1 hts g_c_H_needTypeN_h_0 rfl rfl rfl (by decide +kernel) ⟨Nat.le_of_ble_eq_true rfl, Nat.le_of_ble_eq_true rfl⟩) (z_preVD (wc := [(hh, .inr (13, [.ref aexpr, .ref achoo, .ref ameth, .ref aroom, .ref anod, .ref asort, .ref anote, .ref amet, .int 0, .int 1])), (aroom, .inr (9, [.ref asort, .ref anod, .ref atold, .int 3, .ref aheld, .int 0, .ref apair, .ref astep, .int 0, .int 0, .int (-1), .int 0, .int 0, .ref asize]))]) hP hD hK hS hA hE [0, 1] [] rfl (by decide) rfl (ci := 13) (q0 := 0) rfl rfl hDc) rfl rfl hl.1 rfl (lv_room (Nat.le_of_ble_eq_true rfl)) dX11_needTypeOrNone_7 ⟨Nat.le_of_ble_eq_true rfl, Nat.le_of_ble_eq_true rfl⟩) hP hD hK hS hA [0, 1] [] rfl rfl (by decide) (by decide) (fun E ce q9 H locs hbad hP hD hS h91 h92 h93 => ?_) (fun u H locs hw_3 hP hD hK hS => ?_)
  · have hbad : (fun E => E = "java/lang/IndexOutOfBoundsException") E := hbad
    refine vx_widen (k := 1) (n := 6) (Nat.le_of_ble_eq_true rfl) (Nat.le_of_ble_eq_true rfl) ?_
    exact vx_out (fun x h => (htab x h).elim) hlocks h91 h92 h93 (fun t ht hW => ⟨(), trivial, hbad, hS.F ht⟩) hS.2.2 (Nat.le_refl _) (Nat.le_refl _)
  exact absurd hw_3 id

def wb_c_H_needTypeN_0 : List Cond := [.code yX11_needType cX11_needType 2 none, .fieldLink RX11 31 "Hornbook" "room" "LHornbook$Room;", .fieldLink RX11 344 "Hornbook$Room" "tellings" "I", .methodLink RX11 116 yX11_needType, .instanceMethod yX11_needType, .selects RX11 yX11_needType yX11_needType, .initialized RX11] ++ u_ws RX11 TX11 10 ++ u_ws RX7 TX7 14
def w_c_H_needTypeN_0 : List Cond := .code yX11_needTypeOrNone cX11_needTypeOrNone 2 none :: wb_c_H_needTypeN_0
set_option maxRecDepth 100000 in
theorem g_c_H_needTypeN_0_0 : GoodIn w_c_H_needTypeN_0 (wsV RX11 116 RX11 yX11_needType w_c_H_needType_ok) := goodIn_app (goodIn_of _ (by decide +kernel)) (goodIn_p (big := w_c_H_needTypeN_0) (.code yX11_needType cX11_needType 2 none :: wb_c_H_needType_ok) [1] rfl (by decide +kernel))
set_option maxHeartbeats 4000000 in
set_option maxRecDepth 100000 in
theorem c_H_needTypeN_0 (l : Launch) (eD eI : Nat) (ad : Nat → Nat) (dC : Nat → ClassId) (dI : Nat → Nat → Nat) (sz : Nat) (hh : Nat) (aexpr : Nat) (achoo : Nat) (ameth : Nat) (aroom : Nat) (anod : Nat) (asort : Nat) (anote : Nat) (amet : Nat) (atold : Nat) (aheld : Nat) (apair : Nat) (astep : Nat) (asize : Nat) : Met l yX11_needTypeOrNone w_c_H_needTypeN_0 ({ frames := 1, cells := 0, slots := 0, locals := 21 }) (va_Pc [.ref hh, .int 0] (zPre eD eI ad (dC, dI) [(hh, .inr (13, [.ref aexpr, .ref achoo, .ref ameth, .ref aroom, .ref anod, .ref asort, .ref anote, .ref amet, .int 0, .int 1])), (aroom, .inr (9, [.ref asort, .ref anod, .ref atold, .int 3, .ref aheld, .int 0, .ref apair, .ref astep, .int 0, .int 0, .int (-1), .int 0, .int 0, .ref asize]))] [] sz)) (va_Qv (fun (_ : Unit) => True) (fun (_ : Unit) => zEnd (dC, dI) (va_A [(hh, .inr (13, [.ref aexpr, .ref achoo, .ref ameth, .ref aroom, .ref anod, .ref asort, .ref anote, .ref amet, .int 0, .int 1])), (aroom, .inr (9, [.ref asort, .ref anod, .ref atold, .int 3, .ref aheld, .int 0, .ref apair, .ref astep, .int 0, .int 0, .int (-1), .int 0, .int 0, .ref asize]))] sz) [(hh, .inr (13, [.ref aexpr, .ref achoo, .ref ameth, .ref aroom, .ref anod, .ref asort, .ref anote, .ref amet, .int 0, .int 1])), (aroom, .inr (9, [.ref asort, .ref anod, .ref atold, .int 3, .ref aheld, .int 0, .ref apair, .ref astep, .int 0, .int 0, .int (-1), .int 0, .int 0, .ref asize]))] []) (va_A [(hh, .inr (13, [.ref aexpr, .ref achoo, .ref ameth, .ref aroom, .ref anod, .ref asort, .ref anote, .ref amet, .int 0, .int 1])), (aroom, .inr (9, [.ref asort, .ref anod, .ref atold, .int 3, .ref aheld, .int 0, .ref apair, .ref astep, .int 0, .int 0, .int (-1), .int 0, .int 0, .ref asize]))] sz)) 0 0 (va_A [(hh, .inr (13, [.ref aexpr, .ref achoo, .ref ameth, .ref aroom, .ref anod, .ref asort, .ref anote, .ref amet, .int 0, .int 1])), (aroom, .inr (9, [.ref asort, .ref anod, .ref atold, .int 3, .ref aheld, .int 0, .ref apair, .ref astep, .int 0, .int 0, .int (-1), .int 0, .int 0, .ref asize]))] sz) := by
  refine Met.ofW (cc := cX11_needTypeOrNone) (maxL := 2) (ret := none) (by decide) rfl ?_
  intro p e s m args below meth c s₁ B hml hv
  obtain ⟨rfl, hsz, hP, hK, hD0, hE⟩ := hv
  have hx := B.exec
  have hb := B.bytes
  have hr := B.returns
  have hts := atoms_spec (ws := w_c_H_needTypeN_0) B.pre
  have hown : s.vm.findClass RX11 = some m.cls := findClass_of_methodNamed B.named
  have hlocks := B.notSynchronized
  subst hsz
  have hD := hD0.self (sz := s.heap.size)
  generalize hAe : va_A [(hh, .inr (13, [.ref aexpr, .ref achoo, .ref ameth, .ref aroom, .ref anod, .ref asort, .ref anote, .ref amet, .int 0, .int 1])), (aroom, .inr (9, [.ref asort, .ref anod, .ref atold, .int 3, .ref aheld, .int 0, .ref apair, .ref astep, .int 0, .int 0, .int (-1), .int 0, .int 0, .ref asize]))] s.heap.size = A at hD hE ⊢
  have hA : ∀ q : Nat, s.heap.size ≤ q → A q := fun q h => by rw [← hAe]; exact Or.inr h
  have hS : va_S A s.heap s.heap [] := va_S.rf
  have hP : va_P (dC, dI) vwCl [(hh, .inr (13, [.ref aexpr, .ref achoo, .ref ameth, .ref aroom, .ref anod, .ref asort, .ref anote, .ref amet, .int 0, .int 1])), (aroom, .inr (9, [.ref asort, .ref anod, .ref atold, .int 3, .ref aheld, .int 0, .ref apair, .ref astep, .int 0, .int 0, .int (-1), .int 0, .int 0, .ref asize]))] s.heap := hP
  have hl := lv_entry ([.ref hh, .int 0]) (n := 2) (Nat.le_of_ble_eq_true rfl)
  rw [lg_entry_eq]
  generalize (lg_sl ([.ref hh, .int 0]) ++ List.replicate (2 - (lg_sl ([.ref hh, .int 0])).length) Slot.unset).toArray = ls at hl ⊢
  have hl : lv_has ls 2 [(0, .ref hh), (1, .int 0)] := hl
  have in_RX11 : ∀ w ∈ u_ws RX11 TX11 10, w ∈ w_c_H_needTypeN_0 := by decide +kernel
  have in_RX7 : ∀ w ∈ u_ws RX7 TX7 14, w ∈ w_c_H_needTypeN_0 := by decide +kernel
  refine lv_iload_n hx hb dX11_needTypeOrNone_0 rfl (lv_at hl 1 rfl) ?_
  refine lv_iconst (v := (-1)) hx hb dX11_needTypeOrNone_1 (by decide) ?_
  refine lv_icmp_eq (tgt := 10) hx hb dX11_needTypeOrNone_2 (by decide) (fun c_1 => ?_) (fun c_1 => ?_)
  · exact absurd c_1 (by decide)
  refine lv_aload_n hx hb dX11_needTypeOrNone_5 rfl (lv_at hl 0 rfl) ?_
  refine lv_iload_n hx hb dX11_needTypeOrNone_6 rfl (lv_at hl 1 rfl) ?_
  refine z_v (wr := []) (va_runV (As := [.int 0]) (rest := []) ⟨hx, hb, hml, hown, hts⟩ (c_H_needType_ok l eD eI ad dC dI s.heap.size hh aexpr achoo ameth aroom anod asort anote amet atold aheld apair astep asize 0 (by decide) (by decide)) (cwV 1 hts g_c_H_needTypeN_0_0 rfl rfl rfl (by decide +kernel) ⟨Nat.le_of_ble_eq_true rfl, Nat.le_of_ble_eq_true rfl⟩) (z_preV (wc := [(hh, .inr (13, [.ref aexpr, .ref achoo, .ref ameth, .ref aroom, .ref anod, .ref asort, .ref anote, .ref amet, .int 0, .int 1])), (aroom, .inr (9, [.ref asort, .ref anod, .ref atold, .int 3, .ref aheld, .int 0, .ref apair, .ref astep, .int 0, .int 0, .int (-1), .int 0, .int 0, .ref asize]))]) hP hD hK hS hA hE [0, 1] [] rfl (by decide) rfl (ci := 13) (q0 := 0) rfl rfl) rfl rfl hl.1 rfl (lv_room (Nat.le_of_ble_eq_true rfl)) dX11_needTypeOrNone_7 ⟨Nat.le_of_ble_eq_true rfl, Nat.le_of_ble_eq_true rfl⟩) hP hD hK hS hA [0, 1] [] rfl rfl (by decide) (by decide) (fun u H locs hw_3 hP hD hK hS => ?_)
  obtain ⟨⟩ := u
  have hP : va_P (dC, dI) vwCl [(hh, .inr (13, [.ref aexpr, .ref achoo, .ref ameth, .ref aroom, .ref anod, .ref asort, .ref anote, .ref amet, .int 0, .int 1])), (aroom, .inr (9, [.ref asort, .ref anod, .ref atold, .int 3, .ref aheld, .int 0, .ref apair, .ref astep, .int 0, .int 0, .int (-1), .int 0, .int 0, .ref asize]))] H := hP
  have hD : va_D A [(hh, .inr (13, [.ref aexpr, .ref achoo, .ref ameth, .ref aroom, .ref anod, .ref asort, .ref anote, .ref amet, .int 0, .int 1])), (aroom, .inr (9, [.ref asort, .ref anod, .ref atold, .int 3, .ref aheld, .int 0, .ref apair, .ref astep, .int 0, .int 0, .int (-1), .int 0, .int 0, .ref asize]))] := hD
  have hK : va_K (dC, dI) vwCl [] s := by simpa using hK
  have hP9 := hP.sub (ws' := [(hh, .inr (13, [.ref aexpr, .ref achoo, .ref ameth, .ref aroom, .ref anod, .ref asort, .ref anote, .ref amet, .int 0, .int 1])), (aroom, .inr (9, [.ref asort, .ref anod, .ref atold, .int 3, .ref aheld, .int 0, .ref apair, .ref astep, .int 0, .int 0, .int (-1), .int 0, .int 0, .ref asize]))]) [0, 1] rfl
  have hD9 := hD.sub (ws' := [(hh, .inr (13, [.ref aexpr, .ref achoo, .ref ameth, .ref aroom, .ref anod, .ref asort, .ref anote, .ref amet, .int 0, .int 1])), (aroom, .inr (9, [.ref asort, .ref anod, .ref atold, .int 3, .ref aheld, .int 0, .ref apair, .ref astep, .int 0, .int 0, .int (-1), .int 0, .int 0, .ref asize]))]) [0, 1] (by decide) rfl
  have hK9 := hK.sub (tys' := []) [] rfl
  refine W.widen (k := 0) (n := 0) (Nat.le_of_ble_eq_true rfl) (Nat.le_of_ble_eq_true rfl) ?_
  exact W.vret hx hb hr (fun t ht hW => ⟨⟨(), rfl, trivial, ⟨by rw [ht]; exact hP9, va_K.moved hW.alike hK9, hD9⟩⟩, hS.F ht⟩) hS.2.2 dX11_needTypeOrNone_10

def wb_c_H_needTypeN_1 : List Cond := [.code yX11_needType cX11_needType 2 none, .fieldLink RX11 31 "Hornbook" "room" "LHornbook$Room;", .fieldLink RX11 344 "Hornbook$Room" "tellings" "I", .methodLink RX11 116 yX11_needType, .instanceMethod yX11_needType, .selects RX11 yX11_needType yX11_needType, .initialized RX11] ++ u_ws RX11 TX11 10 ++ u_ws RX7 TX7 14
def w_c_H_needTypeN_1 : List Cond := .code yX11_needTypeOrNone cX11_needTypeOrNone 2 none :: wb_c_H_needTypeN_1
set_option maxRecDepth 100000 in
theorem g_c_H_needTypeN_1_0 : GoodIn w_c_H_needTypeN_1 (wsV RX11 116 RX11 yX11_needType w_c_H_needType_ok) := goodIn_app (goodIn_of _ (by decide +kernel)) (goodIn_p (big := w_c_H_needTypeN_1) (.code yX11_needType cX11_needType 2 none :: wb_c_H_needType_ok) [1] rfl (by decide +kernel))
set_option maxHeartbeats 4000000 in
set_option maxRecDepth 100000 in
theorem c_H_needTypeN_1 (l : Launch) (eD eI : Nat) (ad : Nat → Nat) (dC : Nat → ClassId) (dI : Nat → Nat → Nat) (sz : Nat) (hh : Nat) (aexpr : Nat) (achoo : Nat) (ameth : Nat) (aroom : Nat) (anod : Nat) (asort : Nat) (anote : Nat) (amet : Nat) (atold : Nat) (aheld : Nat) (apair : Nat) (astep : Nat) (asize : Nat) : Met l yX11_needTypeOrNone w_c_H_needTypeN_1 ({ frames := 1, cells := 0, slots := 0, locals := 21 }) (va_Pc [.ref hh, .int 1] (zPre eD eI ad (dC, dI) [(hh, .inr (13, [.ref aexpr, .ref achoo, .ref ameth, .ref aroom, .ref anod, .ref asort, .ref anote, .ref amet, .int 0, .int 1])), (aroom, .inr (9, [.ref asort, .ref anod, .ref atold, .int 3, .ref aheld, .int 0, .ref apair, .ref astep, .int 0, .int 0, .int (-1), .int 0, .int 0, .ref asize]))] [] sz)) (va_Qv (fun (_ : Unit) => True) (fun (_ : Unit) => zEnd (dC, dI) (va_A [(hh, .inr (13, [.ref aexpr, .ref achoo, .ref ameth, .ref aroom, .ref anod, .ref asort, .ref anote, .ref amet, .int 0, .int 1])), (aroom, .inr (9, [.ref asort, .ref anod, .ref atold, .int 3, .ref aheld, .int 0, .ref apair, .ref astep, .int 0, .int 0, .int (-1), .int 0, .int 0, .ref asize]))] sz) [(hh, .inr (13, [.ref aexpr, .ref achoo, .ref ameth, .ref aroom, .ref anod, .ref asort, .ref anote, .ref amet, .int 0, .int 1])), (aroom, .inr (9, [.ref asort, .ref anod, .ref atold, .int 3, .ref aheld, .int 0, .ref apair, .ref astep, .int 0, .int 0, .int (-1), .int 0, .int 0, .ref asize]))] []) (va_A [(hh, .inr (13, [.ref aexpr, .ref achoo, .ref ameth, .ref aroom, .ref anod, .ref asort, .ref anote, .ref amet, .int 0, .int 1])), (aroom, .inr (9, [.ref asort, .ref anod, .ref atold, .int 3, .ref aheld, .int 0, .ref apair, .ref astep, .int 0, .int 0, .int (-1), .int 0, .int 0, .ref asize]))] sz)) 0 0 (va_A [(hh, .inr (13, [.ref aexpr, .ref achoo, .ref ameth, .ref aroom, .ref anod, .ref asort, .ref anote, .ref amet, .int 0, .int 1])), (aroom, .inr (9, [.ref asort, .ref anod, .ref atold, .int 3, .ref aheld, .int 0, .ref apair, .ref astep, .int 0, .int 0, .int (-1), .int 0, .int 0, .ref asize]))] sz) := by
  refine Met.ofW (cc := cX11_needTypeOrNone) (maxL := 2) (ret := none) (by decide) rfl ?_
  intro p e s m args below meth c s₁ B hml hv
  obtain ⟨rfl, hsz, hP, hK, hD0, hE⟩ := hv
  have hx := B.exec
  have hb := B.bytes
  have hr := B.returns
  have hts := atoms_spec (ws := w_c_H_needTypeN_1) B.pre
  have hown : s.vm.findClass RX11 = some m.cls := findClass_of_methodNamed B.named
  have hlocks := B.notSynchronized
  subst hsz
  have hD := hD0.self (sz := s.heap.size)
  generalize hAe : va_A [(hh, .inr (13, [.ref aexpr, .ref achoo, .ref ameth, .ref aroom, .ref anod, .ref asort, .ref anote, .ref amet, .int 0, .int 1])), (aroom, .inr (9, [.ref asort, .ref anod, .ref atold, .int 3, .ref aheld, .int 0, .ref apair, .ref astep, .int 0, .int 0, .int (-1), .int 0, .int 0, .ref asize]))] s.heap.size = A at hD hE ⊢
  have hA : ∀ q : Nat, s.heap.size ≤ q → A q := fun q h => by rw [← hAe]; exact Or.inr h
  have hS : va_S A s.heap s.heap [] := va_S.rf
  have hP : va_P (dC, dI) vwCl [(hh, .inr (13, [.ref aexpr, .ref achoo, .ref ameth, .ref aroom, .ref anod, .ref asort, .ref anote, .ref amet, .int 0, .int 1])), (aroom, .inr (9, [.ref asort, .ref anod, .ref atold, .int 3, .ref aheld, .int 0, .ref apair, .ref astep, .int 0, .int 0, .int (-1), .int 0, .int 0, .ref asize]))] s.heap := hP
  have hl := lv_entry ([.ref hh, .int 1]) (n := 2) (Nat.le_of_ble_eq_true rfl)
  rw [lg_entry_eq]
  generalize (lg_sl ([.ref hh, .int 1]) ++ List.replicate (2 - (lg_sl ([.ref hh, .int 1])).length) Slot.unset).toArray = ls at hl ⊢
  have hl : lv_has ls 2 [(0, .ref hh), (1, .int 1)] := hl
  have in_RX11 : ∀ w ∈ u_ws RX11 TX11 10, w ∈ w_c_H_needTypeN_1 := by decide +kernel
  have in_RX7 : ∀ w ∈ u_ws RX7 TX7 14, w ∈ w_c_H_needTypeN_1 := by decide +kernel
  refine lv_iload_n hx hb dX11_needTypeOrNone_0 rfl (lv_at hl 1 rfl) ?_
  refine lv_iconst (v := (-1)) hx hb dX11_needTypeOrNone_1 (by decide) ?_
  refine lv_icmp_eq (tgt := 10) hx hb dX11_needTypeOrNone_2 (by decide) (fun c_1 => ?_) (fun c_1 => ?_)
  · exact absurd c_1 (by decide)
  refine lv_aload_n hx hb dX11_needTypeOrNone_5 rfl (lv_at hl 0 rfl) ?_
  refine lv_iload_n hx hb dX11_needTypeOrNone_6 rfl (lv_at hl 1 rfl) ?_
  refine z_v (wr := []) (va_runV (As := [.int 1]) (rest := []) ⟨hx, hb, hml, hown, hts⟩ (c_H_needType_ok l eD eI ad dC dI s.heap.size hh aexpr achoo ameth aroom anod asort anote amet atold aheld apair astep asize 1 (by decide) (by decide)) (cwV 1 hts g_c_H_needTypeN_1_0 rfl rfl rfl (by decide +kernel) ⟨Nat.le_of_ble_eq_true rfl, Nat.le_of_ble_eq_true rfl⟩) (z_preV (wc := [(hh, .inr (13, [.ref aexpr, .ref achoo, .ref ameth, .ref aroom, .ref anod, .ref asort, .ref anote, .ref amet, .int 0, .int 1])), (aroom, .inr (9, [.ref asort, .ref anod, .ref atold, .int 3, .ref aheld, .int 0, .ref apair, .ref astep, .int 0, .int 0, .int (-1), .int 0, .int 0, .ref asize]))]) hP hD hK hS hA hE [0, 1] [] rfl (by decide) rfl (ci := 13) (q0 := 0) rfl rfl) rfl rfl hl.1 rfl (lv_room (Nat.le_of_ble_eq_true rfl)) dX11_needTypeOrNone_7 ⟨Nat.le_of_ble_eq_true rfl, Nat.le_of_ble_eq_true rfl⟩) hP hD hK hS hA [0, 1] [] rfl rfl (by decide) (by decide) (fun u H locs hw_3 hP hD hK hS => ?_)
  obtain ⟨⟩ := u
  have hP : va_P (dC, dI) vwCl [(hh, .inr (13, [.ref aexpr, .ref achoo, .ref ameth, .ref aroom, .ref anod, .ref asort, .ref anote, .ref amet, .int 0, .int 1])), (aroom, .inr (9, [.ref asort, .ref anod, .ref atold, .int 3, .ref aheld, .int 0, .ref apair, .ref astep, .int 0, .int 0, .int (-1), .int 0, .int 0, .ref asize]))] H := hP
  have hD : va_D A [(hh, .inr (13, [.ref aexpr, .ref achoo, .ref ameth, .ref aroom, .ref anod, .ref asort, .ref anote, .ref amet, .int 0, .int 1])), (aroom, .inr (9, [.ref asort, .ref anod, .ref atold, .int 3, .ref aheld, .int 0, .ref apair, .ref astep, .int 0, .int 0, .int (-1), .int 0, .int 0, .ref asize]))] := hD
  have hK : va_K (dC, dI) vwCl [] s := by simpa using hK
  have hP9 := hP.sub (ws' := [(hh, .inr (13, [.ref aexpr, .ref achoo, .ref ameth, .ref aroom, .ref anod, .ref asort, .ref anote, .ref amet, .int 0, .int 1])), (aroom, .inr (9, [.ref asort, .ref anod, .ref atold, .int 3, .ref aheld, .int 0, .ref apair, .ref astep, .int 0, .int 0, .int (-1), .int 0, .int 0, .ref asize]))]) [0, 1] rfl
  have hD9 := hD.sub (ws' := [(hh, .inr (13, [.ref aexpr, .ref achoo, .ref ameth, .ref aroom, .ref anod, .ref asort, .ref anote, .ref amet, .int 0, .int 1])), (aroom, .inr (9, [.ref asort, .ref anod, .ref atold, .int 3, .ref aheld, .int 0, .ref apair, .ref astep, .int 0, .int 0, .int (-1), .int 0, .int 0, .ref asize]))]) [0, 1] (by decide) rfl
  have hK9 := hK.sub (tys' := []) [] rfl
  refine W.widen (k := 0) (n := 0) (Nat.le_of_ble_eq_true rfl) (Nat.le_of_ble_eq_true rfl) ?_
  exact W.vret hx hb hr (fun t ht hW => ⟨⟨(), rfl, trivial, ⟨by rw [ht]; exact hP9, va_K.moved hW.alike hK9, hD9⟩⟩, hS.F ht⟩) hS.2.2 dX11_needTypeOrNone_10

def wb_c_H_needTypeN_2 : List Cond := [.code yX11_needType cX11_needType 2 none, .fieldLink RX11 31 "Hornbook" "room" "LHornbook$Room;", .fieldLink RX11 344 "Hornbook$Room" "tellings" "I", .methodLink RX11 116 yX11_needType, .instanceMethod yX11_needType, .selects RX11 yX11_needType yX11_needType, .initialized RX11] ++ u_ws RX11 TX11 10 ++ u_ws RX7 TX7 14
def w_c_H_needTypeN_2 : List Cond := .code yX11_needTypeOrNone cX11_needTypeOrNone 2 none :: wb_c_H_needTypeN_2
set_option maxRecDepth 100000 in
theorem g_c_H_needTypeN_2_0 : GoodIn w_c_H_needTypeN_2 (wsV RX11 116 RX11 yX11_needType w_c_H_needType_ok) := goodIn_app (goodIn_of _ (by decide +kernel)) (goodIn_p (big := w_c_H_needTypeN_2) (.code yX11_needType cX11_needType 2 none :: wb_c_H_needType_ok) [1] rfl (by decide +kernel))
set_option maxHeartbeats 4000000 in
set_option maxRecDepth 100000 in
theorem c_H_needTypeN_2 (l : Launch) (eD eI : Nat) (ad : Nat → Nat) (dC : Nat → ClassId) (dI : Nat → Nat → Nat) (sz : Nat) (hh : Nat) (aexpr : Nat) (achoo : Nat) (ameth : Nat) (aroom : Nat) (anod : Nat) (asort : Nat) (anote : Nat) (amet : Nat) (atold : Nat) (aheld : Nat) (apair : Nat) (astep : Nat) (asize : Nat) : Met l yX11_needTypeOrNone w_c_H_needTypeN_2 ({ frames := 1, cells := 0, slots := 0, locals := 21 }) (va_Pc [.ref hh, .int 2] (zPre eD eI ad (dC, dI) [(hh, .inr (13, [.ref aexpr, .ref achoo, .ref ameth, .ref aroom, .ref anod, .ref asort, .ref anote, .ref amet, .int 0, .int 1])), (aroom, .inr (9, [.ref asort, .ref anod, .ref atold, .int 3, .ref aheld, .int 0, .ref apair, .ref astep, .int 0, .int 0, .int (-1), .int 0, .int 0, .ref asize]))] [] sz)) (va_Qv (fun (_ : Unit) => True) (fun (_ : Unit) => zEnd (dC, dI) (va_A [(hh, .inr (13, [.ref aexpr, .ref achoo, .ref ameth, .ref aroom, .ref anod, .ref asort, .ref anote, .ref amet, .int 0, .int 1])), (aroom, .inr (9, [.ref asort, .ref anod, .ref atold, .int 3, .ref aheld, .int 0, .ref apair, .ref astep, .int 0, .int 0, .int (-1), .int 0, .int 0, .ref asize]))] sz) [(hh, .inr (13, [.ref aexpr, .ref achoo, .ref ameth, .ref aroom, .ref anod, .ref asort, .ref anote, .ref amet, .int 0, .int 1])), (aroom, .inr (9, [.ref asort, .ref anod, .ref atold, .int 3, .ref aheld, .int 0, .ref apair, .ref astep, .int 0, .int 0, .int (-1), .int 0, .int 0, .ref asize]))] []) (va_A [(hh, .inr (13, [.ref aexpr, .ref achoo, .ref ameth, .ref aroom, .ref anod, .ref asort, .ref anote, .ref amet, .int 0, .int 1])), (aroom, .inr (9, [.ref asort, .ref anod, .ref atold, .int 3, .ref aheld, .int 0, .ref apair, .ref astep, .int 0, .int 0, .int (-1), .int 0, .int 0, .ref asize]))] sz)) 0 0 (va_A [(hh, .inr (13, [.ref aexpr, .ref achoo, .ref ameth, .ref aroom, .ref anod, .ref asort, .ref anote, .ref amet, .int 0, .int 1])), (aroom, .inr (9, [.ref asort, .ref anod, .ref atold, .int 3, .ref aheld, .int 0, .ref apair, .ref astep, .int 0, .int 0, .int (-1), .int 0, .int 0, .ref asize]))] sz) := by
  refine Met.ofW (cc := cX11_needTypeOrNone) (maxL := 2) (ret := none) (by decide) rfl ?_
  intro p e s m args below meth c s₁ B hml hv
  obtain ⟨rfl, hsz, hP, hK, hD0, hE⟩ := hv
  have hx := B.exec
  have hb := B.bytes
  have hr := B.returns
  have hts := atoms_spec (ws := w_c_H_needTypeN_2) B.pre
  have hown : s.vm.findClass RX11 = some m.cls := findClass_of_methodNamed B.named
  have hlocks := B.notSynchronized
  subst hsz
  have hD := hD0.self (sz := s.heap.size)
  generalize hAe : va_A [(hh, .inr (13, [.ref aexpr, .ref achoo, .ref ameth, .ref aroom, .ref anod, .ref asort, .ref anote, .ref amet, .int 0, .int 1])), (aroom, .inr (9, [.ref asort, .ref anod, .ref atold, .int 3, .ref aheld, .int 0, .ref apair, .ref astep, .int 0, .int 0, .int (-1), .int 0, .int 0, .ref asize]))] s.heap.size = A at hD hE ⊢
  have hA : ∀ q : Nat, s.heap.size ≤ q → A q := fun q h => by rw [← hAe]; exact Or.inr h
  have hS : va_S A s.heap s.heap [] := va_S.rf
  have hP : va_P (dC, dI) vwCl [(hh, .inr (13, [.ref aexpr, .ref achoo, .ref ameth, .ref aroom, .ref anod, .ref asort, .ref anote, .ref amet, .int 0, .int 1])), (aroom, .inr (9, [.ref asort, .ref anod, .ref atold, .int 3, .ref aheld, .int 0, .ref apair, .ref astep, .int 0, .int 0, .int (-1), .int 0, .int 0, .ref asize]))] s.heap := hP
  have hl := lv_entry ([.ref hh, .int 2]) (n := 2) (Nat.le_of_ble_eq_true rfl)
  rw [lg_entry_eq]
  generalize (lg_sl ([.ref hh, .int 2]) ++ List.replicate (2 - (lg_sl ([.ref hh, .int 2])).length) Slot.unset).toArray = ls at hl ⊢
  have hl : lv_has ls 2 [(0, .ref hh), (1, .int 2)] := hl
  have in_RX11 : ∀ w ∈ u_ws RX11 TX11 10, w ∈ w_c_H_needTypeN_2 := by decide +kernel
  have in_RX7 : ∀ w ∈ u_ws RX7 TX7 14, w ∈ w_c_H_needTypeN_2 := by decide +kernel
  refine lv_iload_n hx hb dX11_needTypeOrNone_0 rfl (lv_at hl 1 rfl) ?_
  refine lv_iconst (v := (-1)) hx hb dX11_needTypeOrNone_1 (by decide) ?_
  refine lv_icmp_eq (tgt := 10) hx hb dX11_needTypeOrNone_2 (by decide) (fun c_1 => ?_) (fun c_1 => ?_)
  · exact absurd c_1 (by decide)
  refine lv_aload_n hx hb dX11_needTypeOrNone_5 rfl (lv_at hl 0 rfl) ?_
  refine lv_iload_n hx hb dX11_needTypeOrNone_6 rfl (lv_at hl 1 rfl) ?_
  refine z_v (wr := []) (va_runV (As := [.int 2]) (rest := []) ⟨hx, hb, hml, hown, hts⟩ (c_H_needType_ok l eD eI ad dC dI s.heap.size hh aexpr achoo ameth aroom anod asort anote amet atold aheld apair astep asize 2 (by decide) (by decide)) (cwV 1 hts g_c_H_needTypeN_2_0 rfl rfl rfl (by decide +kernel) ⟨Nat.le_of_ble_eq_true rfl, Nat.le_of_ble_eq_true rfl⟩) (z_preV (wc := [(hh, .inr (13, [.ref aexpr, .ref achoo, .ref ameth, .ref aroom, .ref anod, .ref asort, .ref anote, .ref amet, .int 0, .int 1])), (aroom, .inr (9, [.ref asort, .ref anod, .ref atold, .int 3, .ref aheld, .int 0, .ref apair, .ref astep, .int 0, .int 0, .int (-1), .int 0, .int 0, .ref asize]))]) hP hD hK hS hA hE [0, 1] [] rfl (by decide) rfl (ci := 13) (q0 := 0) rfl rfl) rfl rfl hl.1 rfl (lv_room (Nat.le_of_ble_eq_true rfl)) dX11_needTypeOrNone_7 ⟨Nat.le_of_ble_eq_true rfl, Nat.le_of_ble_eq_true rfl⟩) hP hD hK hS hA [0, 1] [] rfl rfl (by decide) (by decide) (fun u H locs hw_3 hP hD hK hS => ?_)
  obtain ⟨⟩ := u
  have hP : va_P (dC, dI) vwCl [(hh, .inr (13, [.ref aexpr, .ref achoo, .ref ameth, .ref aroom, .ref anod, .ref asort, .ref anote, .ref amet, .int 0, .int 1])), (aroom, .inr (9, [.ref asort, .ref anod, .ref atold, .int 3, .ref aheld, .int 0, .ref apair, .ref astep, .int 0, .int 0, .int (-1), .int 0, .int 0, .ref asize]))] H := hP
  have hD : va_D A [(hh, .inr (13, [.ref aexpr, .ref achoo, .ref ameth, .ref aroom, .ref anod, .ref asort, .ref anote, .ref amet, .int 0, .int 1])), (aroom, .inr (9, [.ref asort, .ref anod, .ref atold, .int 3, .ref aheld, .int 0, .ref apair, .ref astep, .int 0, .int 0, .int (-1), .int 0, .int 0, .ref asize]))] := hD
  have hK : va_K (dC, dI) vwCl [] s := by simpa using hK
  have hP9 := hP.sub (ws' := [(hh, .inr (13, [.ref aexpr, .ref achoo, .ref ameth, .ref aroom, .ref anod, .ref asort, .ref anote, .ref amet, .int 0, .int 1])), (aroom, .inr (9, [.ref asort, .ref anod, .ref atold, .int 3, .ref aheld, .int 0, .ref apair, .ref astep, .int 0, .int 0, .int (-1), .int 0, .int 0, .ref asize]))]) [0, 1] rfl
  have hD9 := hD.sub (ws' := [(hh, .inr (13, [.ref aexpr, .ref achoo, .ref ameth, .ref aroom, .ref anod, .ref asort, .ref anote, .ref amet, .int 0, .int 1])), (aroom, .inr (9, [.ref asort, .ref anod, .ref atold, .int 3, .ref aheld, .int 0, .ref apair, .ref astep, .int 0, .int 0, .int (-1), .int 0, .int 0, .ref asize]))]) [0, 1] (by decide) rfl
  have hK9 := hK.sub (tys' := []) [] rfl
  refine W.widen (k := 0) (n := 0) (Nat.le_of_ble_eq_true rfl) (Nat.le_of_ble_eq_true rfl) ?_
  exact W.vret hx hb hr (fun t ht hW => ⟨⟨(), rfl, trivial, ⟨by rw [ht]; exact hP9, va_K.moved hW.alike hK9, hD9⟩⟩, hS.F ht⟩) hS.2.2 dX11_needTypeOrNone_10

def wb_c_H_needSort : List Cond := [.classLink RX11 277 "java/lang/IndexOutOfBoundsException", .initialized "java/lang/IndexOutOfBoundsException", .fieldLink RX11 42 "Hornbook" "sorts" "Ljava/util/ArrayList;", .code yJx4a65c_size_8abf5 cJx4a65c_size_8abf5 1 (some .int), .fieldLink RJx4a65c 48 "java/util/ArrayList" "size" "I", .methodLink RX11 73 yJx4a65c_size_8abf5, .instanceMethod yJx4a65c_size_8abf5, .selects RJx4a65c yJx4a65c_size_8abf5 yJx4a65c_size_8abf5, .initialized RJx4a65c] ++ u_ws RJx4a65c TJx4a65c 3 ++ u_ws RX11 TX11 10
def w_c_H_needSort : List Cond := .code yX11_needSort cX11_needSort 2 none :: (wb_c_H_needSort ++ zAt)
set_option maxRecDepth 100000 in
theorem g_c_H_needSort_0 : GoodIn w_c_H_needSort (wsV RX11 73 RJx4a65c yJx4a65c_size_8abf5 w_c_AL_size) := goodIn_app (goodIn_of _ (by decide +kernel)) (goodIn_p (big := w_c_H_needSort) (.code yJx4a65c_size_8abf5 cJx4a65c_size_8abf5 1 (some .int) :: wb_c_AL_size) [4] rfl (by decide +kernel))
set_option maxHeartbeats 4000000 in
set_option maxRecDepth 100000 in
theorem c_H_needSort (l : Launch) (hfl : l.flags = flags0) (eD eI : Nat) (ad : Nat → Nat) (dC : Nat → ClassId) (dI : Nat → Nat → Nat) (sz : Nat) (hh : Nat) (aexpr : Nat) (achoo : Nat) (ameth : Nat) (aroom : Nat) (anod : Nat) (asort : Nat) (anote : Nat) (amet : Nat) (v : Int32) : vx_Met l yX11_needSort w_c_H_needSort ({ frames := 6, cells := 1, slots := 6, locals := 82 }) (va_Pc [.ref hh, .int v] (zPreD eD eI ad (dC, dI) [(hh, .inr (13, [.ref aexpr, .ref achoo, .ref ameth, .ref aroom, .ref anod, .ref asort, .ref anote, .ref amet, .int 0, .int 1])), (asort, .inr (1, [.int 0, .ref eD, .int 0]))] [] sz)) (va_Qv (fun (_ : Unit) => False) (fun (_ : Unit) => zEnd (dC, dI) (va_A [(hh, .inr (13, [.ref aexpr, .ref achoo, .ref ameth, .ref aroom, .ref anod, .ref asort, .ref anote, .ref amet, .int 0, .int 1])), (asort, .inr (1, [.int 0, .ref eD, .int 0]))] sz) [(hh, .inr (13, [.ref aexpr, .ref achoo, .ref ameth, .ref aroom, .ref anod, .ref asort, .ref anote, .ref amet, .int 0, .int 1])), (asort, .inr (1, [.int 0, .ref eD, .int 0]))] []) (va_A [(hh, .inr (13, [.ref aexpr, .ref achoo, .ref ameth, .ref aroom, .ref anod, .ref asort, .ref anote, .ref amet, .int 0, .int 1])), (asort, .inr (1, [.int 0, .ref eD, .int 0]))] sz)) (zX (fun E => E = "java/lang/IndexOutOfBoundsException") (va_A [(hh, .inr (13, [.ref aexpr, .ref achoo, .ref ameth, .ref aroom, .ref anod, .ref asort, .ref anote, .ref amet, .int 0, .int 1])), (asort, .inr (1, [.int 0, .ref eD, .int 0]))] sz)) 1 6 (va_A [(hh, .inr (13, [.ref aexpr, .ref achoo, .ref ameth, .ref aroom, .ref anod, .ref asort, .ref anote, .ref amet, .int 0, .int 1])), (asort, .inr (1, [.int 0, .ref eD, .int 0]))] sz) := by
  refine vx_ofW (cc := cX11_needSort) (maxL := 2) (ret := none) (by decide +kernel) rfl ?_
  intro p e s m args below meth c s₁ B hml htab hv
  obtain ⟨rfl, ⟨hsz, hP, hK, hD0, hE⟩, hDc⟩ := hv
  have hx := B.exec
  have hb := B.bytes
  have hr := B.returns
  have hts := atoms_spec (ws := w_c_H_needSort) B.pre
  have hown : s.vm.findClass RX11 = some m.cls := findClass_of_methodNamed B.named
  have hlocks := B.notSynchronized
  subst hsz
  have hD := hD0.self (sz := s.heap.size)
  generalize hAe : va_A [(hh, .inr (13, [.ref aexpr, .ref achoo, .ref ameth, .ref aroom, .ref anod, .ref asort, .ref anote, .ref amet, .int 0, .int 1])), (asort, .inr (1, [.int 0, .ref eD, .int 0]))] s.heap.size = A at hD hE ⊢
  have hA : ∀ q : Nat, s.heap.size ≤ q → A q := fun q h => by rw [← hAe]; exact Or.inr h
  have hS : va_S A s.heap s.heap [] := va_S.rf
  have hP : va_P (dC, dI) vwCl [(hh, .inr (13, [.ref aexpr, .ref achoo, .ref ameth, .ref aroom, .ref anod, .ref asort, .ref anote, .ref amet, .int 0, .int 1])), (asort, .inr (1, [.int 0, .ref eD, .int 0]))] s.heap := hP
  have hl := lv_entry ([.ref hh, .int v]) (n := 2) (Nat.le_of_ble_eq_true rfl)
  rw [lg_entry_eq]
  generalize (lg_sl ([.ref hh, .int v]) ++ List.replicate (2 - (lg_sl ([.ref hh, .int v])).length) Slot.unset).toArray = ls at hl ⊢
  have hl : lv_has ls 2 [(0, .ref hh), (1, .int v)] := hl
  have in_RJx4a65c : ∀ w ∈ u_ws RJx4a65c TJx4a65c 3, w ∈ w_c_H_needSort := by decide +kernel
  have in_RX11 : ∀ w ∈ u_ws RX11 TX11 10, w ∈ w_c_H_needSort := by decide +kernel
  rcases z_splitS v with hv1 | hv0
  · refine lv_iload_n hx hb dX11_needSort_0 rfl (lv_at hl 1 rfl) ?_
    refine lv_if_lt (tgt := 15) hx hb dX11_needSort_1 (by decide) (fun c_1 => ?_) (fun c_1 => ?_)
    rotate_left
    · exact absurd hv1 c_1
    obtain ⟨sa, hsa⟩ := hE.2.2.2.1 ("Hornbook", 351, "no such SORT") (by decide +kernel)
    have hsa : vk_R RX11 351 "no such SORT" sa s := hsa
    exact vx_throwSW (A := A) (cls := "java/lang/IndexOutOfBoundsException") (text := "no such SORT") (names := ["java/lang/RuntimeException", "java/lang/Exception"]) hx hb (z_traces hfl) hown (by decide +kernel) (by decide +kernel) (hts (.classLink RX11 277 "java/lang/IndexOutOfBoundsException") (by decide +kernel)) (hts (.initialized "java/lang/IndexOutOfBoundsException") (by decide +kernel)) hsa (vx_hat (B := Cond.castable "java/lang/IndexOutOfBoundsException" "java/lang/IndexOutOfBoundsException" :: zDecs) (fun w h => hts w (List.mem_cons_of_mem _ (List.mem_append_right _ (zAt_281 w h)))) (by decide +kernel) (vx_c (va_Nw.use rfl (hE.2.2.2.2.2.2.2.1 ("java/lang/IndexOutOfBoundsException", "java/lang/IndexOutOfBoundsException") (by decide +kernel))) hDc.use)) (by decide +kernel) hE.1 hE.2.1 hS (by rw [hml]; exact hl.1) dX11_needSort_15 dX11_needSort_18 dX11_needSort_19 dX11_needSort_22 dX11_needSort_25 (fun x h => (htab x h).elim) (Nat.le_of_ble_eq_true rfl) (Nat.le_of_ble_eq_true rfl) (Nat.le_of_ble_eq_true rfl) (Nat.le_of_ble_eq_true rfl) hlocks (fun t hW h1 h2 => ⟨(), trivial, rfl, z_F hS h1 h2⟩) hS.2.2 (Nat.le_of_ble_eq_true rfl) (Nat.le_of_ble_eq_true rfl)
  · refine lv_iload_n hx hb dX11_needSort_0 rfl (lv_at hl 1 rfl) ?_
    refine lv_if_lt (tgt := 15) hx hb dX11_needSort_1 (by decide) (fun c_2 => ?_) (fun c_2 => ?_)
    · exact absurd c_2 hv0
    refine lv_iload_n hx hb dX11_needSort_4 rfl (lv_at hl 1 rfl) ?_
    refine lv_aload_n hx hb dX11_needSort_5 rfl (lv_at hl 0 rfl) ?_
    refine va_get (D := (dC, dI)) (ci := 13) (v := .ref asort) (C := RX11) (T := TX11) (N := 10) hx hb hts in_RX11 hown hK hP 0 rfl rfl 5 (by decide) (hts (.fieldLink RX11 42 "Hornbook" "sorts" "Ljava/util/ArrayList;") (by decide +kernel)) (fun _ h9 => h9) rfl dX11_needSort_6 ?_
    refine z_i (wr := [(hh, .inr (13, [.ref aexpr, .ref achoo, .ref ameth, .ref aroom, .ref anod, .ref asort, .ref anote, .ref amet, .int 0, .int 1]))]) (va_runV (As := []) (rest := [.int v]) ⟨hx, hb, hml, hown, hts⟩ (c_AL_size l eD eI ad dC dI s.heap.size asort ((.int 0)) ((.ref eD)) 0) (cwV 0 hts g_c_H_needSort_0 rfl rfl rfl (by decide +kernel) ⟨Nat.le_of_ble_eq_true rfl, Nat.le_of_ble_eq_true rfl⟩) (z_preV (wc := [(asort, .inr (1, [.int 0, .ref eD, .int 0]))]) hP hD hK hS hA hE [1] [] rfl (by decide) rfl (ci := 1) (q0 := 0) rfl rfl) rfl rfl hl.1 rfl (lv_room (Nat.le_of_ble_eq_true rfl)) dX11_needSort_9 ⟨Nat.le_of_ble_eq_true rfl, Nat.le_of_ble_eq_true rfl⟩) hP hD hK hS hA [1] [0] rfl rfl (by decide) (by decide) (fun r_3 u H locs hw_4 hP hD hK hS => ?_)
    obtain ⟨⟩ := u
    have hP : va_P (dC, dI) vwCl [(hh, .inr (13, [.ref aexpr, .ref achoo, .ref ameth, .ref aroom, .ref anod, .ref asort, .ref anote, .ref amet, .int 0, .int 1])), (asort, .inr (1, [.int 0, .ref eD, .int 0]))] H := hP
    have hD : va_D A [(hh, .inr (13, [.ref aexpr, .ref achoo, .ref ameth, .ref aroom, .ref anod, .ref asort, .ref anote, .ref amet, .int 0, .int 1])), (asort, .inr (1, [.int 0, .ref eD, .int 0]))] := hD
    have hK : va_K (dC, dI) vwCl [] s := by simpa using hK
    have hw_4 : r_3 = 0 := hw_4
    have hw_4 := hw_4.symm
    subst hw_4
    refine lv_icmp_lt (tgt := 26) hx hb dX11_needSort_12 (by decide) (fun c_5 => ?_) (fun c_5 => ?_)
    · exact absurd c_5 hv0
    obtain ⟨sa, hsa⟩ := hE.2.2.2.1 ("Hornbook", 351, "no such SORT") (by decide +kernel)
    have hsa : vk_R RX11 351 "no such SORT" sa s := hsa
    exact vx_throwSW (A := A) (cls := "java/lang/IndexOutOfBoundsException") (text := "no such SORT") (names := ["java/lang/RuntimeException", "java/lang/Exception"]) hx hb (z_traces hfl) hown (by decide +kernel) (by decide +kernel) (hts (.classLink RX11 277 "java/lang/IndexOutOfBoundsException") (by decide +kernel)) (hts (.initialized "java/lang/IndexOutOfBoundsException") (by decide +kernel)) hsa (vx_hat (B := Cond.castable "java/lang/IndexOutOfBoundsException" "java/lang/IndexOutOfBoundsException" :: zDecs) (fun w h => hts w (List.mem_cons_of_mem _ (List.mem_append_right _ (zAt_281 w h)))) (by decide +kernel) (vx_c (va_Nw.use rfl (hE.2.2.2.2.2.2.2.1 ("java/lang/IndexOutOfBoundsException", "java/lang/IndexOutOfBoundsException") (by decide +kernel))) hDc.use)) (by decide +kernel) hE.1 hE.2.1 hS (by rw [hml]; exact hl.1) dX11_needSort_15 dX11_needSort_18 dX11_needSort_19 dX11_needSort_22 dX11_needSort_25 (fun x h => (htab x h).elim) (Nat.le_of_ble_eq_true rfl) (Nat.le_of_ble_eq_true rfl) (Nat.le_of_ble_eq_true rfl) (Nat.le_of_ble_eq_true rfl) hlocks (fun t hW h1 h2 => ⟨(), trivial, rfl, z_F hS h1 h2⟩) hS.2.2 (Nat.le_of_ble_eq_true rfl) (Nat.le_of_ble_eq_true rfl)

def wb_c_H_needExpr : List Cond := [.classLink RX11 277 "java/lang/IndexOutOfBoundsException", .initialized "java/lang/IndexOutOfBoundsException", .fieldLink RX11 12 "Hornbook" "expressions" "Ljava/util/ArrayList;", .code yJx4a65c_size_8abf5 cJx4a65c_size_8abf5 1 (some .int), .fieldLink RJx4a65c 48 "java/util/ArrayList" "size" "I", .methodLink RX11 73 yJx4a65c_size_8abf5, .instanceMethod yJx4a65c_size_8abf5, .selects RJx4a65c yJx4a65c_size_8abf5 yJx4a65c_size_8abf5, .initialized RJx4a65c] ++ u_ws RJx4a65c TJx4a65c 3 ++ u_ws RX11 TX11 10
def w_c_H_needExpr : List Cond := .code yX11_needExpression cX11_needExpression 3 none :: (wb_c_H_needExpr ++ zAt)
set_option maxRecDepth 100000 in
theorem g_c_H_needExpr_0 : GoodIn w_c_H_needExpr (wsV RX11 73 RJx4a65c yJx4a65c_size_8abf5 w_c_AL_size) := goodIn_app (goodIn_of _ (by decide +kernel)) (goodIn_p (big := w_c_H_needExpr) (.code yJx4a65c_size_8abf5 cJx4a65c_size_8abf5 1 (some .int) :: wb_c_AL_size) [4] rfl (by decide +kernel))
set_option maxHeartbeats 4000000 in
set_option maxRecDepth 100000 in
theorem c_H_needExpr (l : Launch) (hfl : l.flags = flags0) (eD eI : Nat) (ad : Nat → Nat) (dC : Nat → ClassId) (dI : Nat → Nat → Nat) (sz : Nat) (hh : Nat) (aexpr : Nat) (achoo : Nat) (ameth : Nat) (aroom : Nat) (anod : Nat) (asort : Nat) (anote : Nat) (amet : Nat) (v : Int32) : vx_Met l yX11_needExpression w_c_H_needExpr ({ frames := 6, cells := 1, slots := 6, locals := 82 }) (va_Pc [.ref hh, .int v] (zPreD eD eI ad (dC, dI) [(hh, .inr (13, [.ref aexpr, .ref achoo, .ref ameth, .ref aroom, .ref anod, .ref asort, .ref anote, .ref amet, .int 0, .int 1])), (aexpr, .inr (1, [.int 0, .ref eD, .int 0]))] [] sz)) (va_Qv (fun (_ : Unit) => False) (fun (_ : Unit) => zEnd (dC, dI) (va_A [(hh, .inr (13, [.ref aexpr, .ref achoo, .ref ameth, .ref aroom, .ref anod, .ref asort, .ref anote, .ref amet, .int 0, .int 1])), (aexpr, .inr (1, [.int 0, .ref eD, .int 0]))] sz) [(hh, .inr (13, [.ref aexpr, .ref achoo, .ref ameth, .ref aroom, .ref anod, .ref asort, .ref anote, .ref amet, .int 0, .int 1])), (aexpr, .inr (1, [.int 0, .ref eD, .int 0]))] []) (va_A [(hh, .inr (13, [.ref aexpr, .ref achoo, .ref ameth, .ref aroom, .ref anod, .ref asort, .ref anote, .ref amet, .int 0, .int 1])), (aexpr, .inr (1, [.int 0, .ref eD, .int 0]))] sz)) (zX (fun E => E = "java/lang/IndexOutOfBoundsException") (va_A [(hh, .inr (13, [.ref aexpr, .ref achoo, .ref ameth, .ref aroom, .ref anod, .ref asort, .ref anote, .ref amet, .int 0, .int 1])), (aexpr, .inr (1, [.int 0, .ref eD, .int 0]))] sz)) 1 6 (va_A [(hh, .inr (13, [.ref aexpr, .ref achoo, .ref ameth, .ref aroom, .ref anod, .ref asort, .ref anote, .ref amet, .int 0, .int 1])), (aexpr, .inr (1, [.int 0, .ref eD, .int 0]))] sz) := by
  refine vx_ofW (cc := cX11_needExpression) (maxL := 3) (ret := none) (by decide +kernel) rfl ?_
  intro p e s m args below meth c s₁ B hml htab hv
  obtain ⟨rfl, ⟨hsz, hP, hK, hD0, hE⟩, hDc⟩ := hv
  have hx := B.exec
  have hb := B.bytes
  have hr := B.returns
  have hts := atoms_spec (ws := w_c_H_needExpr) B.pre
  have hown : s.vm.findClass RX11 = some m.cls := findClass_of_methodNamed B.named
  have hlocks := B.notSynchronized
  subst hsz
  have hD := hD0.self (sz := s.heap.size)
  generalize hAe : va_A [(hh, .inr (13, [.ref aexpr, .ref achoo, .ref ameth, .ref aroom, .ref anod, .ref asort, .ref anote, .ref amet, .int 0, .int 1])), (aexpr, .inr (1, [.int 0, .ref eD, .int 0]))] s.heap.size = A at hD hE ⊢
  have hA : ∀ q : Nat, s.heap.size ≤ q → A q := fun q h => by rw [← hAe]; exact Or.inr h
  have hS : va_S A s.heap s.heap [] := va_S.rf
  have hP : va_P (dC, dI) vwCl [(hh, .inr (13, [.ref aexpr, .ref achoo, .ref ameth, .ref aroom, .ref anod, .ref asort, .ref anote, .ref amet, .int 0, .int 1])), (aexpr, .inr (1, [.int 0, .ref eD, .int 0]))] s.heap := hP
  have hl := lv_entry ([.ref hh, .int v]) (n := 3) (Nat.le_of_ble_eq_true rfl)
  rw [lg_entry_eq]
  generalize (lg_sl ([.ref hh, .int v]) ++ List.replicate (3 - (lg_sl ([.ref hh, .int v])).length) Slot.unset).toArray = ls at hl ⊢
  have hl : lv_has ls 3 [(0, .ref hh), (1, .int v)] := hl
  have in_RJx4a65c : ∀ w ∈ u_ws RJx4a65c TJx4a65c 3, w ∈ w_c_H_needExpr := by decide +kernel
  have in_RX11 : ∀ w ∈ u_ws RX11 TX11 10, w ∈ w_c_H_needExpr := by decide +kernel
  rcases z_splitS v with hv1 | hv0
  · refine lv_iload_n hx hb dX11_needExpression_0 rfl (lv_at hl 1 rfl) ?_
    refine lv_if_lt (tgt := 19) hx hb dX11_needExpression_1 (by decide) (fun c_1 => ?_) (fun c_1 => ?_)
    rotate_left
    · exact absurd hv1 c_1
    refine lv_iconst (v := 0) hx hb dX11_needExpression_19 (by decide) ?_
    refine lv_istore_n (lv' := [(2, .int 0), (0, .ref hh), (1, .int v)]) hx hb dX11_needExpression_20 rfl hl (by decide) rfl (fun ls hl => ?_)
    refine lv_iload_n hx hb dX11_needExpression_21 rfl (lv_at hl 0 rfl) ?_
    refine lv_if_ne (tgt := 36) hx hb dX11_needExpression_22 (by decide) (fun c_2 => ?_) (fun c_2 => ?_)
    · exact absurd (by decide) c_2
    obtain ⟨sa, hsa⟩ := hE.2.2.2.1 ("Hornbook", 355, "no such EXPRESSION") (by decide +kernel)
    have hsa : vk_R RX11 355 "no such EXPRESSION" sa s := hsa
    exact vx_throwSW (A := A) (cls := "java/lang/IndexOutOfBoundsException") (text := "no such EXPRESSION") (names := ["java/lang/RuntimeException", "java/lang/Exception"]) hx hb (z_traces hfl) hown (by decide +kernel) (by decide +kernel) (hts (.classLink RX11 277 "java/lang/IndexOutOfBoundsException") (by decide +kernel)) (hts (.initialized "java/lang/IndexOutOfBoundsException") (by decide +kernel)) hsa (vx_hat (B := Cond.castable "java/lang/IndexOutOfBoundsException" "java/lang/IndexOutOfBoundsException" :: zDecs) (fun w h => hts w (List.mem_cons_of_mem _ (List.mem_append_right _ (zAt_281 w h)))) (by decide +kernel) (vx_c (va_Nw.use rfl (hE.2.2.2.2.2.2.2.1 ("java/lang/IndexOutOfBoundsException", "java/lang/IndexOutOfBoundsException") (by decide +kernel))) hDc.use)) (by decide +kernel) hE.1 hE.2.1 hS (by rw [hml]; exact hl.1) dX11_needExpression_25 dX11_needExpression_28 dX11_needExpression_29 dX11_needExpression_32 dX11_needExpression_35 (fun x h => (htab x h).elim) (Nat.le_of_ble_eq_true rfl) (Nat.le_of_ble_eq_true rfl) (Nat.le_of_ble_eq_true rfl) (Nat.le_of_ble_eq_true rfl) hlocks (fun t hW h1 h2 => ⟨(), trivial, rfl, z_F hS h1 h2⟩) hS.2.2 (Nat.le_of_ble_eq_true rfl) (Nat.le_of_ble_eq_true rfl)
  · refine lv_iload_n hx hb dX11_needExpression_0 rfl (lv_at hl 1 rfl) ?_
    refine lv_if_lt (tgt := 19) hx hb dX11_needExpression_1 (by decide) (fun c_3 => ?_) (fun c_3 => ?_)
    · exact absurd c_3 hv0
    refine lv_iload_n hx hb dX11_needExpression_4 rfl (lv_at hl 1 rfl) ?_
    refine lv_aload_n hx hb dX11_needExpression_5 rfl (lv_at hl 0 rfl) ?_
    refine va_get (D := (dC, dI)) (ci := 13) (v := .ref aexpr) (C := RX11) (T := TX11) (N := 10) hx hb hts in_RX11 hown hK hP 0 rfl rfl 0 (by decide) (hts (.fieldLink RX11 12 "Hornbook" "expressions" "Ljava/util/ArrayList;") (by decide +kernel)) (fun _ h9 => h9) rfl dX11_needExpression_6 ?_
    refine z_i (wr := [(hh, .inr (13, [.ref aexpr, .ref achoo, .ref ameth, .ref aroom, .ref anod, .ref asort, .ref anote, .ref amet, .int 0, .int 1]))]) (va_runV (As := []) (rest := [.int v]) ⟨hx, hb, hml, hown, hts⟩ (c_AL_size l eD eI ad dC dI s.heap.size aexpr ((.int 0)) ((.ref eD)) 0) (cwV 0 hts g_c_H_needExpr_0 rfl rfl rfl (by decide +kernel) ⟨Nat.le_of_ble_eq_true rfl, Nat.le_of_ble_eq_true rfl⟩) (z_preV (wc := [(aexpr, .inr (1, [.int 0, .ref eD, .int 0]))]) hP hD hK hS hA hE [1] [] rfl (by decide) rfl (ci := 1) (q0 := 0) rfl rfl) rfl rfl hl.1 rfl (lv_room (Nat.le_of_ble_eq_true rfl)) dX11_needExpression_9 ⟨Nat.le_of_ble_eq_true rfl, Nat.le_of_ble_eq_true rfl⟩) hP hD hK hS hA [1] [0] rfl rfl (by decide) (by decide) (fun r_4 u H locs hw_5 hP hD hK hS => ?_)
    obtain ⟨⟩ := u
    have hP : va_P (dC, dI) vwCl [(hh, .inr (13, [.ref aexpr, .ref achoo, .ref ameth, .ref aroom, .ref anod, .ref asort, .ref anote, .ref amet, .int 0, .int 1])), (aexpr, .inr (1, [.int 0, .ref eD, .int 0]))] H := hP
    have hD : va_D A [(hh, .inr (13, [.ref aexpr, .ref achoo, .ref ameth, .ref aroom, .ref anod, .ref asort, .ref anote, .ref amet, .int 0, .int 1])), (aexpr, .inr (1, [.int 0, .ref eD, .int 0]))] := hD
    have hK : va_K (dC, dI) vwCl [] s := by simpa using hK
    have hw_5 : r_4 = 0 := hw_5
    have hw_5 := hw_5.symm
    subst hw_5
    refine lv_icmp_ge (tgt := 19) hx hb dX11_needExpression_12 (by decide) (fun c_6 => ?_) (fun c_6 => ?_)
    rotate_left
    · exact absurd ((Int32.not_lt.mp hv0)) c_6
    refine lv_iconst (v := 0) hx hb dX11_needExpression_19 (by decide) ?_
    refine lv_istore_n (lv' := [(2, .int 0), (0, .ref hh), (1, .int v)]) hx hb dX11_needExpression_20 rfl hl (by decide) rfl (fun ls hl => ?_)
    refine lv_iload_n hx hb dX11_needExpression_21 rfl (lv_at hl 0 rfl) ?_
    refine lv_if_ne (tgt := 36) hx hb dX11_needExpression_22 (by decide) (fun c_7 => ?_) (fun c_7 => ?_)
    · exact absurd (by decide) c_7
    obtain ⟨sa, hsa⟩ := hE.2.2.2.1 ("Hornbook", 355, "no such EXPRESSION") (by decide +kernel)
    have hsa : vk_R RX11 355 "no such EXPRESSION" sa s := hsa
    exact vx_throwSW (A := A) (cls := "java/lang/IndexOutOfBoundsException") (text := "no such EXPRESSION") (names := ["java/lang/RuntimeException", "java/lang/Exception"]) hx hb (z_traces hfl) hown (by decide +kernel) (by decide +kernel) (hts (.classLink RX11 277 "java/lang/IndexOutOfBoundsException") (by decide +kernel)) (hts (.initialized "java/lang/IndexOutOfBoundsException") (by decide +kernel)) hsa (vx_hat (B := Cond.castable "java/lang/IndexOutOfBoundsException" "java/lang/IndexOutOfBoundsException" :: zDecs) (fun w h => hts w (List.mem_cons_of_mem _ (List.mem_append_right _ (zAt_281 w h)))) (by decide +kernel) (vx_c (va_Nw.use rfl (hE.2.2.2.2.2.2.2.1 ("java/lang/IndexOutOfBoundsException", "java/lang/IndexOutOfBoundsException") (by decide +kernel))) hDc.use)) (by decide +kernel) hE.1 hE.2.1 hS (by rw [hml]; exact hl.1) dX11_needExpression_25 dX11_needExpression_28 dX11_needExpression_29 dX11_needExpression_32 dX11_needExpression_35 (fun x h => (htab x h).elim) (Nat.le_of_ble_eq_true rfl) (Nat.le_of_ble_eq_true rfl) (Nat.le_of_ble_eq_true rfl) (Nat.le_of_ble_eq_true rfl) hlocks (fun t hW h1 h2 => ⟨(), trivial, rfl, z_F hS h1 h2⟩) hS.2.2 (Nat.le_of_ble_eq_true rfl) (Nat.le_of_ble_eq_true rfl)

def wb_c_H_needPar : List Cond := [.code yX11_needSort cX11_needSort 2 none, .classLink RX11 277 "java/lang/IndexOutOfBoundsException", .initialized "java/lang/IndexOutOfBoundsException", .fieldLink RX11 42 "Hornbook" "sorts" "Ljava/util/ArrayList;", .code yJx4a65c_size_8abf5 cJx4a65c_size_8abf5 1 (some .int), .fieldLink RJx4a65c 48 "java/util/ArrayList" "size" "I", .methodLink RX11 73 yJx4a65c_size_8abf5, .instanceMethod yJx4a65c_size_8abf5, .selects RJx4a65c yJx4a65c_size_8abf5 yJx4a65c_size_8abf5, .initialized RJx4a65c, .methodLink RX11 112 yX11_needSort, .instanceMethod yX11_needSort, .selects RX11 yX11_needSort yX11_needSort, .initialized RX11] ++ u_ws RJx4a65c TJx4a65c 3 ++ u_ws RX11 TX11 10
def w_c_H_needPar : List Cond := .code yX11_needParameter cX11_needParameter 4 none :: (wb_c_H_needPar ++ zAt)
set_option maxRecDepth 100000 in
theorem g_c_H_needPar_0 : GoodIn w_c_H_needPar (wsV RX11 112 RX11 yX11_needSort w_c_H_needSort) := goodIn_app (goodIn_of _ (by decide +kernel)) (goodIn_ca (goodIn_p (big := w_c_H_needPar) (.code yX11_needSort cX11_needSort 2 none :: wb_c_H_needSort) [1, 5] rfl (by decide +kernel)) (goodIn_sub (fun _ h => List.mem_cons_of_mem _ (List.mem_append_right _ h)) zAt_good))
set_option maxHeartbeats 4000000 in
set_option maxRecDepth 100000 in
theorem c_H_needPar (l : Launch) (hfl : l.flags = flags0) (eD eI : Nat) (ad : Nat → Nat) (dC : Nat → ClassId) (dI : Nat → Nat → Nat) (sz : Nat) (hh : Nat) (aexpr : Nat) (achoo : Nat) (ameth : Nat) (aroom : Nat) (anod : Nat) (asort : Nat) (anote : Nat) (amet : Nat) (v : Int32) (w : Int32) : vx_Met l yX11_needParameter w_c_H_needPar ({ frames := 7, cells := 1, slots := 6, locals := 103 }) (va_Pc [.ref hh, .int v, .int w] (zPreD eD eI ad (dC, dI) [(hh, .inr (13, [.ref aexpr, .ref achoo, .ref ameth, .ref aroom, .ref anod, .ref asort, .ref anote, .ref amet, .int 0, .int 1])), (asort, .inr (1, [.int 0, .ref eD, .int 0]))] [] sz)) (va_Qv (fun (_ : Unit) => False) (fun (_ : Unit) => zEnd (dC, dI) (va_A [(hh, .inr (13, [.ref aexpr, .ref achoo, .ref ameth, .ref aroom, .ref anod, .ref asort, .ref anote, .ref amet, .int 0, .int 1])), (asort, .inr (1, [.int 0, .ref eD, .int 0]))] sz) [(hh, .inr (13, [.ref aexpr, .ref achoo, .ref ameth, .ref aroom, .ref anod, .ref asort, .ref anote, .ref amet, .int 0, .int 1])), (asort, .inr (1, [.int 0, .ref eD, .int 0]))] []) (va_A [(hh, .inr (13, [.ref aexpr, .ref achoo, .ref ameth, .ref aroom, .ref anod, .ref asort, .ref anote, .ref amet, .int 0, .int 1])), (asort, .inr (1, [.int 0, .ref eD, .int 0]))] sz)) (zX (fun E => E = "java/lang/IndexOutOfBoundsException") (va_A [(hh, .inr (13, [.ref aexpr, .ref achoo, .ref ameth, .ref aroom, .ref anod, .ref asort, .ref anote, .ref amet, .int 0, .int 1])), (asort, .inr (1, [.int 0, .ref eD, .int 0]))] sz)) 1 6 (va_A [(hh, .inr (13, [.ref aexpr, .ref achoo, .ref ameth, .ref aroom, .ref anod, .ref asort, .ref anote, .ref amet, .int 0, .int 1])), (asort, .inr (1, [.int 0, .ref eD, .int 0]))] sz) := by
  refine vx_ofW (cc := cX11_needParameter) (maxL := 4) (ret := none) (by decide +kernel) rfl ?_
  intro p e s m args below meth c s₁ B hml htab hv
  obtain ⟨rfl, ⟨hsz, hP, hK, hD0, hE⟩, hDc⟩ := hv
  have hx := B.exec
  have hb := B.bytes
  have hr := B.returns
  have hts := atoms_spec (ws := w_c_H_needPar) B.pre
  have hown : s.vm.findClass RX11 = some m.cls := findClass_of_methodNamed B.named
  have hlocks := B.notSynchronized
  subst hsz
  have hD := hD0.self (sz := s.heap.size)
  generalize hAe : va_A [(hh, .inr (13, [.ref aexpr, .ref achoo, .ref ameth, .ref aroom, .ref anod, .ref asort, .ref anote, .ref amet, .int 0, .int 1])), (asort, .inr (1, [.int 0, .ref eD, .int 0]))] s.heap.size = A at hD hE ⊢
  have hA : ∀ q : Nat, s.heap.size ≤ q → A q := fun q h => by rw [← hAe]; exact Or.inr h
  have hS : va_S A s.heap s.heap [] := va_S.rf
  have hP : va_P (dC, dI) vwCl [(hh, .inr (13, [.ref aexpr, .ref achoo, .ref ameth, .ref aroom, .ref anod, .ref asort, .ref anote, .ref amet, .int 0, .int 1])), (asort, .inr (1, [.int 0, .ref eD, .int 0]))] s.heap := hP
  have hl := lv_entry ([.ref hh, .int v, .int w]) (n := 4) (Nat.le_of_ble_eq_true rfl)
  rw [lg_entry_eq]
  generalize (lg_sl ([.ref hh, .int v, .int w]) ++ List.replicate (4 - (lg_sl ([.ref hh, .int v, .int w])).length) Slot.unset).toArray = ls at hl ⊢
  have hl : lv_has ls 4 [(0, .ref hh), (1, .int v), (2, .int w)] := hl
  have in_RJx4a65c : ∀ w ∈ u_ws RJx4a65c TJx4a65c 3, w ∈ w_c_H_needPar := by decide +kernel
  have in_RX11 : ∀ w ∈ u_ws RX11 TX11 10, w ∈ w_c_H_needPar := by decide +kernel
  refine lv_aload_n hx hb dX11_needParameter_0 rfl (lv_at hl 0 rfl) ?_
  refine lv_iload_n hx hb dX11_needParameter_1 rfl (lv_at hl 1 rfl) ?_
  refine zx_v (wr := []) (vx_runV (As := [.int v]) (rest := []) ⟨hx, hb, hml, hown, hts⟩ (c_H_needSort l hfl eD eI ad dC dI s.heap.size hh aexpr achoo ameth aroom anod asort anote amet v) (cwV 1 hts g_c_H_needPar_0 rfl rfl rfl (by decide +kernel) ⟨Nat.le_of_ble_eq_true rfl, Nat.le_of_ble_eq_true rfl⟩) (z_preVD (wc := [(hh, .inr (13, [.ref aexpr, .ref achoo, .ref ameth, .ref aroom, .ref anod, .ref asort, .ref anote, .ref amet, .int 0, .int 1])), (asort, .inr (1, [.int 0, .ref eD, .int 0]))]) hP hD hK hS hA hE [0, 1] [] rfl (by decide) rfl (ci := 13) (q0 := 0) rfl rfl hDc) rfl rfl hl.1 rfl (lv_room (Nat.le_of_ble_eq_true rfl)) dX11_needParameter_2 ⟨Nat.le_of_ble_eq_true rfl, Nat.le_of_ble_eq_true rfl⟩) hP hD hK hS hA [0, 1] [] rfl rfl (by decide) (by decide) (fun E ce q9 H locs hbad hP hD hS h91 h92 h93 => ?_) (fun u H locs hw_2 hP hD hK hS => ?_)
  · have hbad : (fun E => E = "java/lang/IndexOutOfBoundsException") E := hbad
    refine vx_widen (k := 1) (n := 6) (Nat.le_of_ble_eq_true rfl) (Nat.le_of_ble_eq_true rfl) ?_
    exact vx_out (fun x h => (htab x h).elim) hlocks h91 h92 h93 (fun t ht hW => ⟨(), trivial, hbad, hS.F ht⟩) hS.2.2 (Nat.le_refl _) (Nat.le_refl _)
  exact absurd hw_2 id

def wb_c_H_needName_l : List Cond := [.classLink RX11 66 "java/lang/IllegalArgumentException", .initialized "java/lang/IllegalArgumentException"]
def w_c_H_needName_l : List Cond := .code yX11_needName cX11_needName 1 none :: (wb_c_H_needName_l ++ zAt)
set_option maxHeartbeats 4000000 in
set_option maxRecDepth 100000 in
theorem c_H_needName_l (l : Launch) (hfl : l.flags = flags0) (eD eI : Nat) (ad : Nat → Nat) (dC : Nat → ClassId) (dI : Nat → Nat → Nat) (sz : Nat) (v : Int32) (hv1 : v < 0) : vx_Met l yX11_needName w_c_H_needName_l ({ frames := 6, cells := 1, slots := 6, locals := 82 }) (va_Pc [.int v] (zPreD eD eI ad (dC, dI) [] [] sz)) (va_Qv (fun (_ : Unit) => False) (fun (_ : Unit) => zEnd (dC, dI) (va_A [] sz) [] []) (va_A [] sz)) (zX (fun E => E = "java/lang/IllegalArgumentException") (va_A [] sz)) 1 6 (va_A [] sz) := by
  refine vx_ofW (cc := cX11_needName) (maxL := 1) (ret := none) (by decide +kernel) rfl ?_
  intro p e s m args below meth c s₁ B hml htab hv
  obtain ⟨rfl, ⟨hsz, hP, hK, hD0, hE⟩, hDc⟩ := hv
  have hx := B.exec
  have hb := B.bytes
  have hr := B.returns
  have hts := atoms_spec (ws := w_c_H_needName_l) B.pre
  have hown : s.vm.findClass RX11 = some m.cls := findClass_of_methodNamed B.named
  have hlocks := B.notSynchronized
  subst hsz
  have hD := hD0.self (sz := s.heap.size)
  generalize hAe : va_A [] s.heap.size = A at hD hE ⊢
  have hA : ∀ q : Nat, s.heap.size ≤ q → A q := fun q h => by rw [← hAe]; exact Or.inr h
  have hS : va_S A s.heap s.heap [] := va_S.rf
  have hP : va_P (dC, dI) vwCl [] s.heap := hP
  have hl := lv_entry ([.int v]) (n := 1) (Nat.le_of_ble_eq_true rfl)
  rw [lg_entry_eq]
  generalize (lg_sl ([.int v]) ++ List.replicate (1 - (lg_sl ([.int v])).length) Slot.unset).toArray = ls at hl ⊢
  have hl : lv_has ls 1 [(0, .int v)] := hl
  refine lv_iload_n hx hb dX11_needName_0 rfl (lv_at hl 0 rfl) ?_
  refine lv_if_lt (tgt := 10) hx hb dX11_needName_1 (by decide) (fun c_1 => ?_) (fun c_1 => ?_)
  rotate_left
  · exact absurd hv1 c_1
  obtain ⟨sa, hsa⟩ := hE.2.2.2.1 ("Hornbook", 361, "no NAME") (by decide +kernel)
  have hsa : vk_R RX11 361 "no NAME" sa s := hsa
  exact vx_throwSW (A := A) (cls := "java/lang/IllegalArgumentException") (text := "no NAME") (names := ["java/lang/RuntimeException", "java/lang/Exception"]) hx hb (z_traces hfl) hown (by decide +kernel) (by decide +kernel) (hts (.classLink RX11 66 "java/lang/IllegalArgumentException") (by decide +kernel)) (hts (.initialized "java/lang/IllegalArgumentException") (by decide +kernel)) hsa (vx_hat (B := Cond.castable "java/lang/IllegalArgumentException" "java/lang/IllegalArgumentException" :: zDecs) (fun w h => hts w (List.mem_cons_of_mem _ (List.mem_append_right _ (zAt_70 w h)))) (by decide +kernel) (vx_c (va_Nw.use rfl (hE.2.2.2.2.2.2.2.1 ("java/lang/IllegalArgumentException", "java/lang/IllegalArgumentException") (by decide +kernel))) hDc.use)) (by decide +kernel) hE.1 hE.2.1 hS (by rw [hml]; exact hl.1) dX11_needName_10 dX11_needName_13 dX11_needName_14 dX11_needName_17 dX11_needName_20 (fun x h => (htab x h).elim) (Nat.le_of_ble_eq_true rfl) (Nat.le_of_ble_eq_true rfl) (Nat.le_of_ble_eq_true rfl) (Nat.le_of_ble_eq_true rfl) hlocks (fun t hW h1 h2 => ⟨(), trivial, rfl, z_F hS h1 h2⟩) hS.2.2 (Nat.le_of_ble_eq_true rfl) (Nat.le_of_ble_eq_true rfl)

def wb_c_H_needName_h : List Cond := [.classLink RX11 66 "java/lang/IllegalArgumentException", .initialized "java/lang/IllegalArgumentException"]
def w_c_H_needName_h : List Cond := .code yX11_needName cX11_needName 1 none :: (wb_c_H_needName_h ++ zAt)
set_option maxHeartbeats 4000000 in
set_option maxRecDepth 100000 in
theorem c_H_needName_h (l : Launch) (hfl : l.flags = flags0) (eD eI : Nat) (ad : Nat → Nat) (dC : Nat → ClassId) (dI : Nat → Nat → Nat) (sz : Nat) (v : Int32) (hv0 : ¬ v < 0) (hv1 : 9 < v) : vx_Met l yX11_needName w_c_H_needName_h ({ frames := 6, cells := 1, slots := 6, locals := 82 }) (va_Pc [.int v] (zPreD eD eI ad (dC, dI) [] [] sz)) (va_Qv (fun (_ : Unit) => False) (fun (_ : Unit) => zEnd (dC, dI) (va_A [] sz) [] []) (va_A [] sz)) (zX (fun E => E = "java/lang/IllegalArgumentException") (va_A [] sz)) 1 6 (va_A [] sz) := by
  refine vx_ofW (cc := cX11_needName) (maxL := 1) (ret := none) (by decide +kernel) rfl ?_
  intro p e s m args below meth c s₁ B hml htab hv
  obtain ⟨rfl, ⟨hsz, hP, hK, hD0, hE⟩, hDc⟩ := hv
  have hx := B.exec
  have hb := B.bytes
  have hr := B.returns
  have hts := atoms_spec (ws := w_c_H_needName_h) B.pre
  have hown : s.vm.findClass RX11 = some m.cls := findClass_of_methodNamed B.named
  have hlocks := B.notSynchronized
  subst hsz
  have hD := hD0.self (sz := s.heap.size)
  generalize hAe : va_A [] s.heap.size = A at hD hE ⊢
  have hA : ∀ q : Nat, s.heap.size ≤ q → A q := fun q h => by rw [← hAe]; exact Or.inr h
  have hS : va_S A s.heap s.heap [] := va_S.rf
  have hP : va_P (dC, dI) vwCl [] s.heap := hP
  have hl := lv_entry ([.int v]) (n := 1) (Nat.le_of_ble_eq_true rfl)
  rw [lg_entry_eq]
  generalize (lg_sl ([.int v]) ++ List.replicate (1 - (lg_sl ([.int v])).length) Slot.unset).toArray = ls at hl ⊢
  have hl : lv_has ls 1 [(0, .int v)] := hl
  refine lv_iload_n hx hb dX11_needName_0 rfl (lv_at hl 0 rfl) ?_
  refine lv_if_lt (tgt := 10) hx hb dX11_needName_1 (by decide) (fun c_1 => ?_) (fun c_1 => ?_)
  · exact absurd c_1 hv0
  refine lv_iload_n hx hb dX11_needName_4 rfl (lv_at hl 0 rfl) ?_
  refine lv_bipush (v := 10) hx hb dX11_needName_5 (by decide) ?_
  refine lv_icmp_lt (tgt := 21) hx hb dX11_needName_7 (by decide) (fun c_2 => ?_) (fun c_2 => ?_)
  · exact absurd c_2 ((Int32.not_lt.mpr (z_ge (by decide) hv1)))
  obtain ⟨sa, hsa⟩ := hE.2.2.2.1 ("Hornbook", 361, "no NAME") (by decide +kernel)
  have hsa : vk_R RX11 361 "no NAME" sa s := hsa
  exact vx_throwSW (A := A) (cls := "java/lang/IllegalArgumentException") (text := "no NAME") (names := ["java/lang/RuntimeException", "java/lang/Exception"]) hx hb (z_traces hfl) hown (by decide +kernel) (by decide +kernel) (hts (.classLink RX11 66 "java/lang/IllegalArgumentException") (by decide +kernel)) (hts (.initialized "java/lang/IllegalArgumentException") (by decide +kernel)) hsa (vx_hat (B := Cond.castable "java/lang/IllegalArgumentException" "java/lang/IllegalArgumentException" :: zDecs) (fun w h => hts w (List.mem_cons_of_mem _ (List.mem_append_right _ (zAt_70 w h)))) (by decide +kernel) (vx_c (va_Nw.use rfl (hE.2.2.2.2.2.2.2.1 ("java/lang/IllegalArgumentException", "java/lang/IllegalArgumentException") (by decide +kernel))) hDc.use)) (by decide +kernel) hE.1 hE.2.1 hS (by rw [hml]; exact hl.1) dX11_needName_10 dX11_needName_13 dX11_needName_14 dX11_needName_17 dX11_needName_20 (fun x h => (htab x h).elim) (Nat.le_of_ble_eq_true rfl) (Nat.le_of_ble_eq_true rfl) (Nat.le_of_ble_eq_true rfl) (Nat.le_of_ble_eq_true rfl) hlocks (fun t hW h1 h2 => ⟨(), trivial, rfl, z_F hS h1 h2⟩) hS.2.2 (Nat.le_of_ble_eq_true rfl) (Nat.le_of_ble_eq_true rfl)

def wb_c_H_needName_ok : List Cond := []
def w_c_H_needName_ok : List Cond := .code yX11_needName cX11_needName 1 none :: wb_c_H_needName_ok
set_option maxHeartbeats 4000000 in
set_option maxRecDepth 100000 in
theorem c_H_needName_ok (l : Launch) (eD eI : Nat) (ad : Nat → Nat) (dC : Nat → ClassId) (dI : Nat → Nat → Nat) (sz : Nat) (v : Int32) (hv0 : ¬ v < 0) (hv1 : ¬ 9 < v) : Met l yX11_needName w_c_H_needName_ok ({ frames := 0, cells := 0, slots := 0, locals := 0 }) (va_Pc [.int v] (zPre eD eI ad (dC, dI) [] [] sz)) (va_Qv (fun (_ : Unit) => True) (fun (_ : Unit) => zEnd (dC, dI) (va_A [] sz) [] []) (va_A [] sz)) 0 0 (va_A [] sz) := by
  refine Met.ofW (cc := cX11_needName) (maxL := 1) (ret := none) (by decide) rfl ?_
  intro p e s m args below meth c s₁ B hml hv
  obtain ⟨rfl, hsz, hP, hK, hD0, hE⟩ := hv
  have hx := B.exec
  have hb := B.bytes
  have hr := B.returns
  have hts := atoms_spec (ws := w_c_H_needName_ok) B.pre
  have hown : s.vm.findClass RX11 = some m.cls := findClass_of_methodNamed B.named
  have hlocks := B.notSynchronized
  subst hsz
  have hD := hD0.self (sz := s.heap.size)
  generalize hAe : va_A [] s.heap.size = A at hD hE ⊢
  have hA : ∀ q : Nat, s.heap.size ≤ q → A q := fun q h => by rw [← hAe]; exact Or.inr h
  have hS : va_S A s.heap s.heap [] := va_S.rf
  have hP : va_P (dC, dI) vwCl [] s.heap := hP
  have hl := lv_entry ([.int v]) (n := 1) (Nat.le_of_ble_eq_true rfl)
  rw [lg_entry_eq]
  generalize (lg_sl ([.int v]) ++ List.replicate (1 - (lg_sl ([.int v])).length) Slot.unset).toArray = ls at hl ⊢
  have hl : lv_has ls 1 [(0, .int v)] := hl
  refine lv_iload_n hx hb dX11_needName_0 rfl (lv_at hl 0 rfl) ?_
  refine lv_if_lt (tgt := 10) hx hb dX11_needName_1 (by decide) (fun c_1 => ?_) (fun c_1 => ?_)
  · exact absurd c_1 hv0
  refine lv_iload_n hx hb dX11_needName_4 rfl (lv_at hl 0 rfl) ?_
  refine lv_bipush (v := 10) hx hb dX11_needName_5 (by decide) ?_
  refine lv_icmp_lt (tgt := 21) hx hb dX11_needName_7 (by decide) (fun c_2 => ?_) (fun c_2 => ?_)
  rotate_left
  · exact absurd ((Int32.lt_of_le_of_lt (Int32.not_lt.mp hv1) (by decide))) c_2
  have hP9 := hP.sub (ws' := []) [] rfl
  have hD9 := hD.sub (ws' := []) [] (by decide) rfl
  have hK9 := hK.sub (tys' := []) [] rfl
  refine W.widen (k := 0) (n := 0) (Nat.le_of_ble_eq_true rfl) (Nat.le_of_ble_eq_true rfl) ?_
  exact W.vret hx hb hr (fun t ht hW => ⟨⟨(), rfl, trivial, ⟨by rw [ht]; exact hP9, va_K.moved hW.alike hK9, hD9⟩⟩, hS.F ht⟩) hS.2.2 dX11_needName_21

def wb_c_H_inOrder_nn : List Cond := []
def w_c_H_inOrder_nn : List Cond := .code yX11_needInOrder cX11_needInOrder 2 none :: wb_c_H_inOrder_nn
set_option maxHeartbeats 4000000 in
set_option maxRecDepth 100000 in
theorem c_H_inOrder_nn (l : Launch) (eD eI : Nat) (ad : Nat → Nat) (dC : Nat → ClassId) (dI : Nat → Nat → Nat) (sz : Nat) : Met l yX11_needInOrder w_c_H_inOrder_nn ({ frames := 0, cells := 0, slots := 0, locals := 0 }) (va_Pc [.int (-1), .int (-1)] (zPre eD eI ad (dC, dI) [] [] sz)) (va_Qv (fun (_ : Unit) => True) (fun (_ : Unit) => zEnd (dC, dI) (va_A [] sz) [] []) (va_A [] sz)) 0 0 (va_A [] sz) := by
  refine Met.ofW (cc := cX11_needInOrder) (maxL := 2) (ret := none) (by decide) rfl ?_
  intro p e s m args below meth c s₁ B hml hv
  obtain ⟨rfl, hsz, hP, hK, hD0, hE⟩ := hv
  have hx := B.exec
  have hb := B.bytes
  have hr := B.returns
  have hts := atoms_spec (ws := w_c_H_inOrder_nn) B.pre
  have hown : s.vm.findClass RX11 = some m.cls := findClass_of_methodNamed B.named
  have hlocks := B.notSynchronized
  subst hsz
  have hD := hD0.self (sz := s.heap.size)
  generalize hAe : va_A [] s.heap.size = A at hD hE ⊢
  have hA : ∀ q : Nat, s.heap.size ≤ q → A q := fun q h => by rw [← hAe]; exact Or.inr h
  have hS : va_S A s.heap s.heap [] := va_S.rf
  have hP : va_P (dC, dI) vwCl [] s.heap := hP
  have hl := lv_entry ([.int (-1), .int (-1)]) (n := 2) (Nat.le_of_ble_eq_true rfl)
  rw [lg_entry_eq]
  generalize (lg_sl ([.int (-1), .int (-1)]) ++ List.replicate (2 - (lg_sl ([.int (-1), .int (-1)])).length) Slot.unset).toArray = ls at hl ⊢
  have hl : lv_has ls 2 [(0, .int (-1)), (1, .int (-1))] := hl
  refine lv_iload_n hx hb dX11_needInOrder_0 rfl (lv_at hl 0 rfl) ?_
  refine lv_iconst (v := (-1)) hx hb dX11_needInOrder_1 (by decide) ?_
  refine lv_icmp_ne (tgt := 21) hx hb dX11_needInOrder_2 (by decide) (fun c_1 => ?_) (fun c_1 => ?_)
  · exact absurd (by decide) c_1
  refine lv_iload_n hx hb dX11_needInOrder_5 rfl (lv_at hl 1 rfl) ?_
  refine lv_iconst (v := (-1)) hx hb dX11_needInOrder_6 (by decide) ?_
  refine lv_icmp_eq (tgt := 21) hx hb dX11_needInOrder_7 (by decide) (fun c_2 => ?_) (fun c_2 => ?_)
  rotate_left
  · exact absurd (by decide) c_2
  have hP9 := hP.sub (ws' := []) [] rfl
  have hD9 := hD.sub (ws' := []) [] (by decide) rfl
  have hK9 := hK.sub (tys' := []) [] rfl
  refine W.widen (k := 0) (n := 0) (Nat.le_of_ble_eq_true rfl) (Nat.le_of_ble_eq_true rfl) ?_
  exact W.vret hx hb hr (fun t ht hW => ⟨⟨(), rfl, trivial, ⟨by rw [ht]; exact hP9, va_K.moved hW.alike hK9, hD9⟩⟩, hS.F ht⟩) hS.2.2 dX11_needInOrder_21

def wb_c_H_inOrder_a : List Cond := []
def w_c_H_inOrder_a : List Cond := .code yX11_needInOrder cX11_needInOrder 2 none :: wb_c_H_inOrder_a
set_option maxHeartbeats 4000000 in
set_option maxRecDepth 100000 in
theorem c_H_inOrder_a (l : Launch) (eD eI : Nat) (ad : Nat → Nat) (dC : Nat → ClassId) (dI : Nat → Nat → Nat) (sz : Nat) (v : Int32) (w : Int32) (hv9 : ¬ v = (-1)) : Met l yX11_needInOrder w_c_H_inOrder_a ({ frames := 0, cells := 0, slots := 0, locals := 0 }) (va_Pc [.int v, .int w] (zPre eD eI ad (dC, dI) [] [] sz)) (va_Qv (fun (_ : Unit) => True) (fun (_ : Unit) => zEnd (dC, dI) (va_A [] sz) [] []) (va_A [] sz)) 0 0 (va_A [] sz) := by
  refine Met.ofW (cc := cX11_needInOrder) (maxL := 2) (ret := none) (by decide) rfl ?_
  intro p e s m args below meth c s₁ B hml hv
  obtain ⟨rfl, hsz, hP, hK, hD0, hE⟩ := hv
  have hx := B.exec
  have hb := B.bytes
  have hr := B.returns
  have hts := atoms_spec (ws := w_c_H_inOrder_a) B.pre
  have hown : s.vm.findClass RX11 = some m.cls := findClass_of_methodNamed B.named
  have hlocks := B.notSynchronized
  subst hsz
  have hD := hD0.self (sz := s.heap.size)
  generalize hAe : va_A [] s.heap.size = A at hD hE ⊢
  have hA : ∀ q : Nat, s.heap.size ≤ q → A q := fun q h => by rw [← hAe]; exact Or.inr h
  have hS : va_S A s.heap s.heap [] := va_S.rf
  have hP : va_P (dC, dI) vwCl [] s.heap := hP
  have hl := lv_entry ([.int v, .int w]) (n := 2) (Nat.le_of_ble_eq_true rfl)
  rw [lg_entry_eq]
  generalize (lg_sl ([.int v, .int w]) ++ List.replicate (2 - (lg_sl ([.int v, .int w])).length) Slot.unset).toArray = ls at hl ⊢
  have hl : lv_has ls 2 [(0, .int v), (1, .int w)] := hl
  refine lv_iload_n hx hb dX11_needInOrder_0 rfl (lv_at hl 0 rfl) ?_
  refine lv_iconst (v := (-1)) hx hb dX11_needInOrder_1 (by decide) ?_
  refine lv_icmp_ne (tgt := 21) hx hb dX11_needInOrder_2 (by decide) (fun c_1 => ?_) (fun c_1 => ?_)
  rotate_left
  · exact absurd c_1 hv9
  have hP9 := hP.sub (ws' := []) [] rfl
  have hD9 := hD.sub (ws' := []) [] (by decide) rfl
  have hK9 := hK.sub (tys' := []) [] rfl
  refine W.widen (k := 0) (n := 0) (Nat.le_of_ble_eq_true rfl) (Nat.le_of_ble_eq_true rfl) ?_
  exact W.vret hx hb hr (fun t ht hW => ⟨⟨(), rfl, trivial, ⟨by rw [ht]; exact hP9, va_K.moved hW.alike hK9, hD9⟩⟩, hS.F ht⟩) hS.2.2 dX11_needInOrder_21

def wb_c_H_inOrder_b : List Cond := [.classLink RX11 66 "java/lang/IllegalArgumentException", .initialized "java/lang/IllegalArgumentException"]
def w_c_H_inOrder_b : List Cond := .code yX11_needInOrder cX11_needInOrder 2 none :: (wb_c_H_inOrder_b ++ zAt)
set_option maxHeartbeats 4000000 in
set_option maxRecDepth 100000 in
theorem c_H_inOrder_b (l : Launch) (hfl : l.flags = flags0) (eD eI : Nat) (ad : Nat → Nat) (dC : Nat → ClassId) (dI : Nat → Nat → Nat) (sz : Nat) (w : Int32) (hw9 : ¬ w = (-1)) : vx_Met l yX11_needInOrder w_c_H_inOrder_b ({ frames := 6, cells := 1, slots := 6, locals := 82 }) (va_Pc [.int (-1), .int w] (zPreD eD eI ad (dC, dI) [] [] sz)) (va_Qv (fun (_ : Unit) => False) (fun (_ : Unit) => zEnd (dC, dI) (va_A [] sz) [] []) (va_A [] sz)) (zX (fun E => E = "java/lang/IllegalArgumentException") (va_A [] sz)) 1 6 (va_A [] sz) := by
  refine vx_ofW (cc := cX11_needInOrder) (maxL := 2) (ret := none) (by decide +kernel) rfl ?_
  intro p e s m args below meth c s₁ B hml htab hv
  obtain ⟨rfl, ⟨hsz, hP, hK, hD0, hE⟩, hDc⟩ := hv
  have hx := B.exec
  have hb := B.bytes
  have hr := B.returns
  have hts := atoms_spec (ws := w_c_H_inOrder_b) B.pre
  have hown : s.vm.findClass RX11 = some m.cls := findClass_of_methodNamed B.named
  have hlocks := B.notSynchronized
  subst hsz
  have hD := hD0.self (sz := s.heap.size)
  generalize hAe : va_A [] s.heap.size = A at hD hE ⊢
  have hA : ∀ q : Nat, s.heap.size ≤ q → A q := fun q h => by rw [← hAe]; exact Or.inr h
  have hS : va_S A s.heap s.heap [] := va_S.rf
  have hP : va_P (dC, dI) vwCl [] s.heap := hP
  have hl := lv_entry ([.int (-1), .int w]) (n := 2) (Nat.le_of_ble_eq_true rfl)
  rw [lg_entry_eq]
  generalize (lg_sl ([.int (-1), .int w]) ++ List.replicate (2 - (lg_sl ([.int (-1), .int w])).length) Slot.unset).toArray = ls at hl ⊢
  have hl : lv_has ls 2 [(0, .int (-1)), (1, .int w)] := hl
  refine lv_iload_n hx hb dX11_needInOrder_0 rfl (lv_at hl 0 rfl) ?_
  refine lv_iconst (v := (-1)) hx hb dX11_needInOrder_1 (by decide) ?_
  refine lv_icmp_ne (tgt := 21) hx hb dX11_needInOrder_2 (by decide) (fun c_1 => ?_) (fun c_1 => ?_)
  · exact absurd (by decide) c_1
  refine lv_iload_n hx hb dX11_needInOrder_5 rfl (lv_at hl 1 rfl) ?_
  refine lv_iconst (v := (-1)) hx hb dX11_needInOrder_6 (by decide) ?_
  refine lv_icmp_eq (tgt := 21) hx hb dX11_needInOrder_7 (by decide) (fun c_2 => ?_) (fun c_2 => ?_)
  · exact absurd c_2 hw9
  obtain ⟨sa, hsa⟩ := hE.2.2.2.1 ("Hornbook", 363, "the second one without the first one") (by decide +kernel)
  have hsa : vk_R RX11 363 "the second one without the first one" sa s := hsa
  exact vx_throwSW (A := A) (cls := "java/lang/IllegalArgumentException") (text := "the second one without the first one") (names := ["java/lang/RuntimeException", "java/lang/Exception"]) hx hb (z_traces hfl) hown (by decide +kernel) (by decide +kernel) (hts (.classLink RX11 66 "java/lang/IllegalArgumentException") (by decide +kernel)) (hts (.initialized "java/lang/IllegalArgumentException") (by decide +kernel)) hsa (vx_hat (B := Cond.castable "java/lang/IllegalArgumentException" "java/lang/IllegalArgumentException" :: zDecs) (fun w h => hts w (List.mem_cons_of_mem _ (List.mem_append_right _ (zAt_70 w h)))) (by decide +kernel) (vx_c (va_Nw.use rfl (hE.2.2.2.2.2.2.2.1 ("java/lang/IllegalArgumentException", "java/lang/IllegalArgumentException") (by decide +kernel))) hDc.use)) (by decide +kernel) hE.1 hE.2.1 hS (by rw [hml]; exact hl.1) dX11_needInOrder_10 dX11_needInOrder_13 dX11_needInOrder_14 dX11_needInOrder_17 dX11_needInOrder_20 (fun x h => (htab x h).elim) (Nat.le_of_ble_eq_true rfl) (Nat.le_of_ble_eq_true rfl) (Nat.le_of_ble_eq_true rfl) (Nat.le_of_ble_eq_true rfl) hlocks (fun t hW h1 h2 => ⟨(), trivial, rfl, z_F hS h1 h2⟩) hS.2.2 (Nat.le_of_ble_eq_true rfl) (Nat.le_of_ble_eq_true rfl)

def wb_c_H_has_0 : List Cond := [.fieldLink RX11 38 "Hornbook" "nodes" "LHornbook$Nodes;", .code yX5_openOf cX5_openOf 2 (some .int), .fieldLink RX5 28 "Hornbook$Nodes" "second" "[J", .fieldLink RX5 24 "Hornbook$Nodes" "first" "[J", .methodLink RX11 367 yX5_openOf, .instanceMethod yX5_openOf, .selects RX5 yX5_openOf yX5_openOf, .initialized RX5] ++ u_ws RX11 TX11 10 ++ u_ws RX5 TX5 14
def w_c_H_has_0 : List Cond := .code yX11_has cX11_has 3 (some .boolean) :: wb_c_H_has_0
set_option maxRecDepth 100000 in
theorem g_c_H_has_0_0 : GoodIn w_c_H_has_0 (wsV RX11 367 RX5 yX5_openOf w_c_N_open_0) := goodIn_app (goodIn_of _ (by decide +kernel)) (goodIn_p (big := w_c_H_has_0) (.code yX5_openOf cX5_openOf 2 (some .int) :: wb_c_N_open_0) [2] rfl (by decide +kernel))
set_option maxHeartbeats 4000000 in
set_option maxRecDepth 100000 in
theorem c_H_has_0 (l : Launch) (eD eI : Nat) (ad : Nat → Nat) (dC : Nat → ClassId) (dI : Nat → Nat → Nat) (sz : Nat) (hh : Nat) (aexpr : Nat) (achoo : Nat) (ameth : Nat) (aroom : Nat) (anod : Nat) (asort : Nat) (anote : Nat) (amet : Nat) (nm : Nat) (nl : Nat) (n1 : Nat) (n2 : Nat) (nf : Nat) (ns : Nat) (nh : Nat) (nk : Nat) (np : Nat) (kL : ClassId) : Met l yX11_has w_c_H_has_0 ({ frames := 1, cells := 0, slots := 0, locals := 21 }) (va_Pc [.ref hh, .int 0, .int 7] (zPre eD eI ad (dC, dI) [(hh, .inr (13, [.ref aexpr, .ref achoo, .ref ameth, .ref aroom, .ref anod, .ref asort, .ref anote, .ref amet, .int 0, .int 1])), (anod, .inr (7, [.ref nm, .ref nl, .ref n1, .ref n2, .ref nf, .ref ns, .ref nh, .ref nk, .ref np, .int 16, .int 0, .int 16, .int 0, .int 0])), (ns, .inl (kL, 1024, .inr (.inl zSec))), (nf, .inl (kL, 1024, .inr (.inl zFir)))] [(kL, .long)] sz)) (va_Qi (fun (r : Int32) (_ : Unit) => r = 0) (fun (_ : Unit) => zEnd (dC, dI) (va_A [(hh, .inr (13, [.ref aexpr, .ref achoo, .ref ameth, .ref aroom, .ref anod, .ref asort, .ref anote, .ref amet, .int 0, .int 1])), (anod, .inr (7, [.ref nm, .ref nl, .ref n1, .ref n2, .ref nf, .ref ns, .ref nh, .ref nk, .ref np, .int 16, .int 0, .int 16, .int 0, .int 0])), (ns, .inl (kL, 1024, .inr (.inl zSec))), (nf, .inl (kL, 1024, .inr (.inl zFir)))] sz) [(hh, .inr (13, [.ref aexpr, .ref achoo, .ref ameth, .ref aroom, .ref anod, .ref asort, .ref anote, .ref amet, .int 0, .int 1])), (anod, .inr (7, [.ref nm, .ref nl, .ref n1, .ref n2, .ref nf, .ref ns, .ref nh, .ref nk, .ref np, .int 16, .int 0, .int 16, .int 0, .int 0])), (ns, .inl (kL, 1024, .inr (.inl zSec))), (nf, .inl (kL, 1024, .inr (.inl zFir)))] [(kL, .long)]) (va_A [(hh, .inr (13, [.ref aexpr, .ref achoo, .ref ameth, .ref aroom, .ref anod, .ref asort, .ref anote, .ref amet, .int 0, .int 1])), (anod, .inr (7, [.ref nm, .ref nl, .ref n1, .ref n2, .ref nf, .ref ns, .ref nh, .ref nk, .ref np, .int 16, .int 0, .int 16, .int 0, .int 0])), (ns, .inl (kL, 1024, .inr (.inl zSec))), (nf, .inl (kL, 1024, .inr (.inl zFir)))] sz)) 0 0 (va_A [(hh, .inr (13, [.ref aexpr, .ref achoo, .ref ameth, .ref aroom, .ref anod, .ref asort, .ref anote, .ref amet, .int 0, .int 1])), (anod, .inr (7, [.ref nm, .ref nl, .ref n1, .ref n2, .ref nf, .ref ns, .ref nh, .ref nk, .ref np, .int 16, .int 0, .int 16, .int 0, .int 0])), (ns, .inl (kL, 1024, .inr (.inl zSec))), (nf, .inl (kL, 1024, .inr (.inl zFir)))] sz) := by
  refine Met.ofW (cc := cX11_has) (maxL := 3) (ret := (some .boolean)) (by decide) rfl ?_
  intro p e s m args below meth c s₁ B hml hv
  obtain ⟨rfl, hsz, hP, hK, hD0, hE⟩ := hv
  have hx := B.exec
  have hb := B.bytes
  have hr := B.returns
  have hts := atoms_spec (ws := w_c_H_has_0) B.pre
  have hown : s.vm.findClass RX11 = some m.cls := findClass_of_methodNamed B.named
  have hlocks := B.notSynchronized
  subst hsz
  have hD := hD0.self (sz := s.heap.size)
  generalize hAe : va_A [(hh, .inr (13, [.ref aexpr, .ref achoo, .ref ameth, .ref aroom, .ref anod, .ref asort, .ref anote, .ref amet, .int 0, .int 1])), (anod, .inr (7, [.ref nm, .ref nl, .ref n1, .ref n2, .ref nf, .ref ns, .ref nh, .ref nk, .ref np, .int 16, .int 0, .int 16, .int 0, .int 0])), (ns, .inl (kL, 1024, .inr (.inl zSec))), (nf, .inl (kL, 1024, .inr (.inl zFir)))] s.heap.size = A at hD hE ⊢
  have hA : ∀ q : Nat, s.heap.size ≤ q → A q := fun q h => by rw [← hAe]; exact Or.inr h
  have hS : va_S A s.heap s.heap [] := va_S.rf
  have hP : va_P (dC, dI) vwCl [(hh, .inr (13, [.ref aexpr, .ref achoo, .ref ameth, .ref aroom, .ref anod, .ref asort, .ref anote, .ref amet, .int 0, .int 1])), (anod, .inr (7, [.ref nm, .ref nl, .ref n1, .ref n2, .ref nf, .ref ns, .ref nh, .ref nk, .ref np, .int 16, .int 0, .int 16, .int 0, .int 0])), (ns, .inl (kL, 1024, .inr (.inl zSec))), (nf, .inl (kL, 1024, .inr (.inl zFir)))] s.heap := hP
  have hl := lv_entry ([.ref hh, .int 0, .int 7]) (n := 3) (Nat.le_of_ble_eq_true rfl)
  rw [lg_entry_eq]
  generalize (lg_sl ([.ref hh, .int 0, .int 7]) ++ List.replicate (3 - (lg_sl ([.ref hh, .int 0, .int 7])).length) Slot.unset).toArray = ls at hl ⊢
  have hl : lv_has ls 3 [(0, .ref hh), (1, .int 0), (2, .int 7)] := hl
  have in_RX11 : ∀ w ∈ u_ws RX11 TX11 10, w ∈ w_c_H_has_0 := by decide +kernel
  have in_RX5 : ∀ w ∈ u_ws RX5 TX5 14, w ∈ w_c_H_has_0 := by decide +kernel
  refine lv_aload_n hx hb dX11_has_0 rfl (lv_at hl 0 rfl) ?_
  refine va_get (D := (dC, dI)) (ci := 13) (v := .ref anod) (C := RX11) (T := TX11) (N := 10) hx hb hts in_RX11 hown hK hP 0 rfl rfl 4 (by decide) (hts (.fieldLink RX11 38 "Hornbook" "nodes" "LHornbook$Nodes;") (by decide +kernel)) (fun _ h9 => h9) rfl dX11_has_1 ?_
  refine lv_iload_n hx hb dX11_has_4 rfl (lv_at hl 1 rfl) ?_
  refine z_i (wr := [(hh, .inr (13, [.ref aexpr, .ref achoo, .ref ameth, .ref aroom, .ref anod, .ref asort, .ref anote, .ref amet, .int 0, .int 1]))]) (va_runV (As := [.int 0]) (rest := []) ⟨hx, hb, hml, hown, hts⟩ (c_N_open_0 l eD eI ad dC dI s.heap.size anod nm nl n1 n2 nf ns nh nk np kL) (cwV 1 hts g_c_H_has_0_0 rfl rfl rfl (by decide +kernel) ⟨Nat.le_of_ble_eq_true rfl, Nat.le_of_ble_eq_true rfl⟩) (z_preV (wc := [(anod, .inr (7, [.ref nm, .ref nl, .ref n1, .ref n2, .ref nf, .ref ns, .ref nh, .ref nk, .ref np, .int 16, .int 0, .int 16, .int 0, .int 0])), (ns, .inl (kL, 1024, .inr (.inl zSec))), (nf, .inl (kL, 1024, .inr (.inl zFir)))]) hP hD hK hS hA hE [1, 2, 3] [0] rfl (by decide) rfl (ci := 7) (q0 := 0) rfl rfl) rfl rfl hl.1 rfl (lv_room (Nat.le_of_ble_eq_true rfl)) dX11_has_5 ⟨Nat.le_of_ble_eq_true rfl, Nat.le_of_ble_eq_true rfl⟩) hP hD hK hS hA [1, 2, 3] [0] rfl rfl (by decide) (by decide) (fun r_1 u H locs hw_2 hP hD hK hS => ?_)
  obtain ⟨⟩ := u
  have hP : va_P (dC, dI) vwCl [(hh, .inr (13, [.ref aexpr, .ref achoo, .ref ameth, .ref aroom, .ref anod, .ref asort, .ref anote, .ref amet, .int 0, .int 1])), (anod, .inr (7, [.ref nm, .ref nl, .ref n1, .ref n2, .ref nf, .ref ns, .ref nh, .ref nk, .ref np, .int 16, .int 0, .int 16, .int 0, .int 0])), (ns, .inl (kL, 1024, .inr (.inl zSec))), (nf, .inl (kL, 1024, .inr (.inl zFir)))] H := hP
  have hD : va_D A [(hh, .inr (13, [.ref aexpr, .ref achoo, .ref ameth, .ref aroom, .ref anod, .ref asort, .ref anote, .ref amet, .int 0, .int 1])), (anod, .inr (7, [.ref nm, .ref nl, .ref n1, .ref n2, .ref nf, .ref ns, .ref nh, .ref nk, .ref np, .int 16, .int 0, .int 16, .int 0, .int 0])), (ns, .inl (kL, 1024, .inr (.inl zSec))), (nf, .inl (kL, 1024, .inr (.inl zFir)))] := hD
  have hK : va_K (dC, dI) vwCl [(kL, .long), (kL, .long)] s := hK
  have hw_2 : r_1 = 0 := hw_2
  have hw_2 := hw_2.symm
  subst hw_2
  refine lv_iload_n hx hb dX11_has_8 rfl (lv_at hl 2 rfl) ?_
  refine lv_iand hx hb dX11_has_9 ?_
  refine z_top (v' := .int 0) (congrArg Value.int (by decide)) ?_
  refine lv_if_eq (tgt := 17) hx hb dX11_has_10 (by decide) (fun c_3 => ?_) (fun c_3 => ?_)
  rotate_left
  · exact absurd (by decide) c_3
  refine lv_iconst (v := 0) hx hb dX11_has_17 (by decide) ?_
  have hP9 := hP.sub (ws' := [(hh, .inr (13, [.ref aexpr, .ref achoo, .ref ameth, .ref aroom, .ref anod, .ref asort, .ref anote, .ref amet, .int 0, .int 1])), (anod, .inr (7, [.ref nm, .ref nl, .ref n1, .ref n2, .ref nf, .ref ns, .ref nh, .ref nk, .ref np, .int 16, .int 0, .int 16, .int 0, .int 0])), (ns, .inl (kL, 1024, .inr (.inl zSec))), (nf, .inl (kL, 1024, .inr (.inl zFir)))]) [0, 1, 2, 3] rfl
  have hD9 := hD.sub (ws' := [(hh, .inr (13, [.ref aexpr, .ref achoo, .ref ameth, .ref aroom, .ref anod, .ref asort, .ref anote, .ref amet, .int 0, .int 1])), (anod, .inr (7, [.ref nm, .ref nl, .ref n1, .ref n2, .ref nf, .ref ns, .ref nh, .ref nk, .ref np, .int 16, .int 0, .int 16, .int 0, .int 0])), (ns, .inl (kL, 1024, .inr (.inl zSec))), (nf, .inl (kL, 1024, .inr (.inl zFir)))]) [0, 1, 2, 3] (by decide) rfl
  have hK9 := hK.sub (tys' := [(kL, .long)]) [0] rfl
  refine W.widen (k := 0) (n := 0) (Nat.le_of_ble_eq_true rfl) (Nat.le_of_ble_eq_true rfl) ?_
  exact W.zret (v := 0) hx hb hr (by first | rfl | decide) (fun t ht hW => ⟨⟨0, (), rfl, rfl, ⟨by rw [ht]; exact hP9, va_K.moved hW.alike hK9, hD9⟩⟩, hS.F ht⟩) hS.2.2 dX11_has_18

def wb_c_H_has_1 : List Cond := [.fieldLink RX11 38 "Hornbook" "nodes" "LHornbook$Nodes;", .code yX5_openOf cX5_openOf 2 (some .int), .fieldLink RX5 28 "Hornbook$Nodes" "second" "[J", .fieldLink RX5 24 "Hornbook$Nodes" "first" "[J", .methodLink RX11 367 yX5_openOf, .instanceMethod yX5_openOf, .selects RX5 yX5_openOf yX5_openOf, .initialized RX5] ++ u_ws RX11 TX11 10 ++ u_ws RX5 TX5 14
def w_c_H_has_1 : List Cond := .code yX11_has cX11_has 3 (some .boolean) :: wb_c_H_has_1
set_option maxRecDepth 100000 in
theorem g_c_H_has_1_0 : GoodIn w_c_H_has_1 (wsV RX11 367 RX5 yX5_openOf w_c_N_open_1) := goodIn_app (goodIn_of _ (by decide +kernel)) (goodIn_p (big := w_c_H_has_1) (.code yX5_openOf cX5_openOf 2 (some .int) :: wb_c_N_open_1) [2] rfl (by decide +kernel))
set_option maxHeartbeats 4000000 in
set_option maxRecDepth 100000 in
theorem c_H_has_1 (l : Launch) (eD eI : Nat) (ad : Nat → Nat) (dC : Nat → ClassId) (dI : Nat → Nat → Nat) (sz : Nat) (hh : Nat) (aexpr : Nat) (achoo : Nat) (ameth : Nat) (aroom : Nat) (anod : Nat) (asort : Nat) (anote : Nat) (amet : Nat) (nm : Nat) (nl : Nat) (n1 : Nat) (n2 : Nat) (nf : Nat) (ns : Nat) (nh : Nat) (nk : Nat) (np : Nat) (kL : ClassId) : Met l yX11_has w_c_H_has_1 ({ frames := 1, cells := 0, slots := 0, locals := 21 }) (va_Pc [.ref hh, .int 1, .int 7] (zPre eD eI ad (dC, dI) [(hh, .inr (13, [.ref aexpr, .ref achoo, .ref ameth, .ref aroom, .ref anod, .ref asort, .ref anote, .ref amet, .int 0, .int 1])), (anod, .inr (7, [.ref nm, .ref nl, .ref n1, .ref n2, .ref nf, .ref ns, .ref nh, .ref nk, .ref np, .int 16, .int 0, .int 16, .int 0, .int 0])), (ns, .inl (kL, 1024, .inr (.inl zSec))), (nf, .inl (kL, 1024, .inr (.inl zFir)))] [(kL, .long)] sz)) (va_Qi (fun (r : Int32) (_ : Unit) => r = 0) (fun (_ : Unit) => zEnd (dC, dI) (va_A [(hh, .inr (13, [.ref aexpr, .ref achoo, .ref ameth, .ref aroom, .ref anod, .ref asort, .ref anote, .ref amet, .int 0, .int 1])), (anod, .inr (7, [.ref nm, .ref nl, .ref n1, .ref n2, .ref nf, .ref ns, .ref nh, .ref nk, .ref np, .int 16, .int 0, .int 16, .int 0, .int 0])), (ns, .inl (kL, 1024, .inr (.inl zSec))), (nf, .inl (kL, 1024, .inr (.inl zFir)))] sz) [(hh, .inr (13, [.ref aexpr, .ref achoo, .ref ameth, .ref aroom, .ref anod, .ref asort, .ref anote, .ref amet, .int 0, .int 1])), (anod, .inr (7, [.ref nm, .ref nl, .ref n1, .ref n2, .ref nf, .ref ns, .ref nh, .ref nk, .ref np, .int 16, .int 0, .int 16, .int 0, .int 0])), (ns, .inl (kL, 1024, .inr (.inl zSec))), (nf, .inl (kL, 1024, .inr (.inl zFir)))] [(kL, .long)]) (va_A [(hh, .inr (13, [.ref aexpr, .ref achoo, .ref ameth, .ref aroom, .ref anod, .ref asort, .ref anote, .ref amet, .int 0, .int 1])), (anod, .inr (7, [.ref nm, .ref nl, .ref n1, .ref n2, .ref nf, .ref ns, .ref nh, .ref nk, .ref np, .int 16, .int 0, .int 16, .int 0, .int 0])), (ns, .inl (kL, 1024, .inr (.inl zSec))), (nf, .inl (kL, 1024, .inr (.inl zFir)))] sz)) 0 0 (va_A [(hh, .inr (13, [.ref aexpr, .ref achoo, .ref ameth, .ref aroom, .ref anod, .ref asort, .ref anote, .ref amet, .int 0, .int 1])), (anod, .inr (7, [.ref nm, .ref nl, .ref n1, .ref n2, .ref nf, .ref ns, .ref nh, .ref nk, .ref np, .int 16, .int 0, .int 16, .int 0, .int 0])), (ns, .inl (kL, 1024, .inr (.inl zSec))), (nf, .inl (kL, 1024, .inr (.inl zFir)))] sz) := by
  refine Met.ofW (cc := cX11_has) (maxL := 3) (ret := (some .boolean)) (by decide) rfl ?_
  intro p e s m args below meth c s₁ B hml hv
  obtain ⟨rfl, hsz, hP, hK, hD0, hE⟩ := hv
  have hx := B.exec
  have hb := B.bytes
  have hr := B.returns
  have hts := atoms_spec (ws := w_c_H_has_1) B.pre
  have hown : s.vm.findClass RX11 = some m.cls := findClass_of_methodNamed B.named
  have hlocks := B.notSynchronized
  subst hsz
  have hD := hD0.self (sz := s.heap.size)
  generalize hAe : va_A [(hh, .inr (13, [.ref aexpr, .ref achoo, .ref ameth, .ref aroom, .ref anod, .ref asort, .ref anote, .ref amet, .int 0, .int 1])), (anod, .inr (7, [.ref nm, .ref nl, .ref n1, .ref n2, .ref nf, .ref ns, .ref nh, .ref nk, .ref np, .int 16, .int 0, .int 16, .int 0, .int 0])), (ns, .inl (kL, 1024, .inr (.inl zSec))), (nf, .inl (kL, 1024, .inr (.inl zFir)))] s.heap.size = A at hD hE ⊢
  have hA : ∀ q : Nat, s.heap.size ≤ q → A q := fun q h => by rw [← hAe]; exact Or.inr h
  have hS : va_S A s.heap s.heap [] := va_S.rf
  have hP : va_P (dC, dI) vwCl [(hh, .inr (13, [.ref aexpr, .ref achoo, .ref ameth, .ref aroom, .ref anod, .ref asort, .ref anote, .ref amet, .int 0, .int 1])), (anod, .inr (7, [.ref nm, .ref nl, .ref n1, .ref n2, .ref nf, .ref ns, .ref nh, .ref nk, .ref np, .int 16, .int 0, .int 16, .int 0, .int 0])), (ns, .inl (kL, 1024, .inr (.inl zSec))), (nf, .inl (kL, 1024, .inr (.inl zFir)))] s.heap := hP
  have hl := lv_entry ([.ref hh, .int 1, .int 7]) (n := 3) (Nat.le_of_ble_eq_true rfl)
  rw [lg_entry_eq]
  generalize (lg_sl ([.ref hh, .int 1, .int 7]) ++ List.replicate (3 - (lg_sl ([.ref hh, .int 1, .int 7])).length) Slot.unset).toArray = ls at hl ⊢
  have hl : lv_has ls 3 [(0, .ref hh), (1, .int 1), (2, .int 7)] := hl
  have in_RX11 : ∀ w ∈ u_ws RX11 TX11 10, w ∈ w_c_H_has_1 := by decide +kernel
  have in_RX5 : ∀ w ∈ u_ws RX5 TX5 14, w ∈ w_c_H_has_1 := by decide +kernel
  refine lv_aload_n hx hb dX11_has_0 rfl (lv_at hl 0 rfl) ?_
  refine va_get (D := (dC, dI)) (ci := 13) (v := .ref anod) (C := RX11) (T := TX11) (N := 10) hx hb hts in_RX11 hown hK hP 0 rfl rfl 4 (by decide) (hts (.fieldLink RX11 38 "Hornbook" "nodes" "LHornbook$Nodes;") (by decide +kernel)) (fun _ h9 => h9) rfl dX11_has_1 ?_
  refine lv_iload_n hx hb dX11_has_4 rfl (lv_at hl 1 rfl) ?_
  refine z_i (wr := [(hh, .inr (13, [.ref aexpr, .ref achoo, .ref ameth, .ref aroom, .ref anod, .ref asort, .ref anote, .ref amet, .int 0, .int 1]))]) (va_runV (As := [.int 1]) (rest := []) ⟨hx, hb, hml, hown, hts⟩ (c_N_open_1 l eD eI ad dC dI s.heap.size anod nm nl n1 n2 nf ns nh nk np kL) (cwV 1 hts g_c_H_has_1_0 rfl rfl rfl (by decide +kernel) ⟨Nat.le_of_ble_eq_true rfl, Nat.le_of_ble_eq_true rfl⟩) (z_preV (wc := [(anod, .inr (7, [.ref nm, .ref nl, .ref n1, .ref n2, .ref nf, .ref ns, .ref nh, .ref nk, .ref np, .int 16, .int 0, .int 16, .int 0, .int 0])), (ns, .inl (kL, 1024, .inr (.inl zSec))), (nf, .inl (kL, 1024, .inr (.inl zFir)))]) hP hD hK hS hA hE [1, 2, 3] [0] rfl (by decide) rfl (ci := 7) (q0 := 0) rfl rfl) rfl rfl hl.1 rfl (lv_room (Nat.le_of_ble_eq_true rfl)) dX11_has_5 ⟨Nat.le_of_ble_eq_true rfl, Nat.le_of_ble_eq_true rfl⟩) hP hD hK hS hA [1, 2, 3] [0] rfl rfl (by decide) (by decide) (fun r_1 u H locs hw_2 hP hD hK hS => ?_)
  obtain ⟨⟩ := u
  have hP : va_P (dC, dI) vwCl [(hh, .inr (13, [.ref aexpr, .ref achoo, .ref ameth, .ref aroom, .ref anod, .ref asort, .ref anote, .ref amet, .int 0, .int 1])), (anod, .inr (7, [.ref nm, .ref nl, .ref n1, .ref n2, .ref nf, .ref ns, .ref nh, .ref nk, .ref np, .int 16, .int 0, .int 16, .int 0, .int 0])), (ns, .inl (kL, 1024, .inr (.inl zSec))), (nf, .inl (kL, 1024, .inr (.inl zFir)))] H := hP
  have hD : va_D A [(hh, .inr (13, [.ref aexpr, .ref achoo, .ref ameth, .ref aroom, .ref anod, .ref asort, .ref anote, .ref amet, .int 0, .int 1])), (anod, .inr (7, [.ref nm, .ref nl, .ref n1, .ref n2, .ref nf, .ref ns, .ref nh, .ref nk, .ref np, .int 16, .int 0, .int 16, .int 0, .int 0])), (ns, .inl (kL, 1024, .inr (.inl zSec))), (nf, .inl (kL, 1024, .inr (.inl zFir)))] := hD
  have hK : va_K (dC, dI) vwCl [(kL, .long), (kL, .long)] s := hK
  have hw_2 : r_1 = 0 := hw_2
  have hw_2 := hw_2.symm
  subst hw_2
  refine lv_iload_n hx hb dX11_has_8 rfl (lv_at hl 2 rfl) ?_
  refine lv_iand hx hb dX11_has_9 ?_
  refine z_top (v' := .int 0) (congrArg Value.int (by decide)) ?_
  refine lv_if_eq (tgt := 17) hx hb dX11_has_10 (by decide) (fun c_3 => ?_) (fun c_3 => ?_)
  rotate_left
  · exact absurd (by decide) c_3
  refine lv_iconst (v := 0) hx hb dX11_has_17 (by decide) ?_
  have hP9 := hP.sub (ws' := [(hh, .inr (13, [.ref aexpr, .ref achoo, .ref ameth, .ref aroom, .ref anod, .ref asort, .ref anote, .ref amet, .int 0, .int 1])), (anod, .inr (7, [.ref nm, .ref nl, .ref n1, .ref n2, .ref nf, .ref ns, .ref nh, .ref nk, .ref np, .int 16, .int 0, .int 16, .int 0, .int 0])), (ns, .inl (kL, 1024, .inr (.inl zSec))), (nf, .inl (kL, 1024, .inr (.inl zFir)))]) [0, 1, 2, 3] rfl
  have hD9 := hD.sub (ws' := [(hh, .inr (13, [.ref aexpr, .ref achoo, .ref ameth, .ref aroom, .ref anod, .ref asort, .ref anote, .ref amet, .int 0, .int 1])), (anod, .inr (7, [.ref nm, .ref nl, .ref n1, .ref n2, .ref nf, .ref ns, .ref nh, .ref nk, .ref np, .int 16, .int 0, .int 16, .int 0, .int 0])), (ns, .inl (kL, 1024, .inr (.inl zSec))), (nf, .inl (kL, 1024, .inr (.inl zFir)))]) [0, 1, 2, 3] (by decide) rfl
  have hK9 := hK.sub (tys' := [(kL, .long)]) [0] rfl
  refine W.widen (k := 0) (n := 0) (Nat.le_of_ble_eq_true rfl) (Nat.le_of_ble_eq_true rfl) ?_
  exact W.zret (v := 0) hx hb hr (by first | rfl | decide) (fun t ht hW => ⟨⟨0, (), rfl, rfl, ⟨by rw [ht]; exact hP9, va_K.moved hW.alike hK9, hD9⟩⟩, hS.F ht⟩) hS.2.2 dX11_has_18

def wb_c_H_has_2 : List Cond := [.fieldLink RX11 38 "Hornbook" "nodes" "LHornbook$Nodes;", .code yX5_openOf cX5_openOf 2 (some .int), .fieldLink RX5 28 "Hornbook$Nodes" "second" "[J", .fieldLink RX5 24 "Hornbook$Nodes" "first" "[J", .methodLink RX11 367 yX5_openOf, .instanceMethod yX5_openOf, .selects RX5 yX5_openOf yX5_openOf, .initialized RX5] ++ u_ws RX11 TX11 10 ++ u_ws RX5 TX5 14
def w_c_H_has_2 : List Cond := .code yX11_has cX11_has 3 (some .boolean) :: wb_c_H_has_2
set_option maxRecDepth 100000 in
theorem g_c_H_has_2_0 : GoodIn w_c_H_has_2 (wsV RX11 367 RX5 yX5_openOf w_c_N_open_2) := goodIn_app (goodIn_of _ (by decide +kernel)) (goodIn_p (big := w_c_H_has_2) (.code yX5_openOf cX5_openOf 2 (some .int) :: wb_c_N_open_2) [2] rfl (by decide +kernel))
set_option maxHeartbeats 4000000 in
set_option maxRecDepth 100000 in
theorem c_H_has_2 (l : Launch) (eD eI : Nat) (ad : Nat → Nat) (dC : Nat → ClassId) (dI : Nat → Nat → Nat) (sz : Nat) (hh : Nat) (aexpr : Nat) (achoo : Nat) (ameth : Nat) (aroom : Nat) (anod : Nat) (asort : Nat) (anote : Nat) (amet : Nat) (nm : Nat) (nl : Nat) (n1 : Nat) (n2 : Nat) (nf : Nat) (ns : Nat) (nh : Nat) (nk : Nat) (np : Nat) (kL : ClassId) : Met l yX11_has w_c_H_has_2 ({ frames := 1, cells := 0, slots := 0, locals := 21 }) (va_Pc [.ref hh, .int 2, .int 7] (zPre eD eI ad (dC, dI) [(hh, .inr (13, [.ref aexpr, .ref achoo, .ref ameth, .ref aroom, .ref anod, .ref asort, .ref anote, .ref amet, .int 0, .int 1])), (anod, .inr (7, [.ref nm, .ref nl, .ref n1, .ref n2, .ref nf, .ref ns, .ref nh, .ref nk, .ref np, .int 16, .int 0, .int 16, .int 0, .int 0])), (ns, .inl (kL, 1024, .inr (.inl zSec))), (nf, .inl (kL, 1024, .inr (.inl zFir)))] [(kL, .long)] sz)) (va_Qi (fun (r : Int32) (_ : Unit) => r = 1) (fun (_ : Unit) => zEnd (dC, dI) (va_A [(hh, .inr (13, [.ref aexpr, .ref achoo, .ref ameth, .ref aroom, .ref anod, .ref asort, .ref anote, .ref amet, .int 0, .int 1])), (anod, .inr (7, [.ref nm, .ref nl, .ref n1, .ref n2, .ref nf, .ref ns, .ref nh, .ref nk, .ref np, .int 16, .int 0, .int 16, .int 0, .int 0])), (ns, .inl (kL, 1024, .inr (.inl zSec))), (nf, .inl (kL, 1024, .inr (.inl zFir)))] sz) [(hh, .inr (13, [.ref aexpr, .ref achoo, .ref ameth, .ref aroom, .ref anod, .ref asort, .ref anote, .ref amet, .int 0, .int 1])), (anod, .inr (7, [.ref nm, .ref nl, .ref n1, .ref n2, .ref nf, .ref ns, .ref nh, .ref nk, .ref np, .int 16, .int 0, .int 16, .int 0, .int 0])), (ns, .inl (kL, 1024, .inr (.inl zSec))), (nf, .inl (kL, 1024, .inr (.inl zFir)))] [(kL, .long)]) (va_A [(hh, .inr (13, [.ref aexpr, .ref achoo, .ref ameth, .ref aroom, .ref anod, .ref asort, .ref anote, .ref amet, .int 0, .int 1])), (anod, .inr (7, [.ref nm, .ref nl, .ref n1, .ref n2, .ref nf, .ref ns, .ref nh, .ref nk, .ref np, .int 16, .int 0, .int 16, .int 0, .int 0])), (ns, .inl (kL, 1024, .inr (.inl zSec))), (nf, .inl (kL, 1024, .inr (.inl zFir)))] sz)) 0 0 (va_A [(hh, .inr (13, [.ref aexpr, .ref achoo, .ref ameth, .ref aroom, .ref anod, .ref asort, .ref anote, .ref amet, .int 0, .int 1])), (anod, .inr (7, [.ref nm, .ref nl, .ref n1, .ref n2, .ref nf, .ref ns, .ref nh, .ref nk, .ref np, .int 16, .int 0, .int 16, .int 0, .int 0])), (ns, .inl (kL, 1024, .inr (.inl zSec))), (nf, .inl (kL, 1024, .inr (.inl zFir)))] sz) := by
  refine Met.ofW (cc := cX11_has) (maxL := 3) (ret := (some .boolean)) (by decide) rfl ?_
  intro p e s m args below meth c s₁ B hml hv
  obtain ⟨rfl, hsz, hP, hK, hD0, hE⟩ := hv
  have hx := B.exec
  have hb := B.bytes
  have hr := B.returns
  have hts := atoms_spec (ws := w_c_H_has_2) B.pre
  have hown : s.vm.findClass RX11 = some m.cls := findClass_of_methodNamed B.named
  have hlocks := B.notSynchronized
  subst hsz
  have hD := hD0.self (sz := s.heap.size)
  generalize hAe : va_A [(hh, .inr (13, [.ref aexpr, .ref achoo, .ref ameth, .ref aroom, .ref anod, .ref asort, .ref anote, .ref amet, .int 0, .int 1])), (anod, .inr (7, [.ref nm, .ref nl, .ref n1, .ref n2, .ref nf, .ref ns, .ref nh, .ref nk, .ref np, .int 16, .int 0, .int 16, .int 0, .int 0])), (ns, .inl (kL, 1024, .inr (.inl zSec))), (nf, .inl (kL, 1024, .inr (.inl zFir)))] s.heap.size = A at hD hE ⊢
  have hA : ∀ q : Nat, s.heap.size ≤ q → A q := fun q h => by rw [← hAe]; exact Or.inr h
  have hS : va_S A s.heap s.heap [] := va_S.rf
  have hP : va_P (dC, dI) vwCl [(hh, .inr (13, [.ref aexpr, .ref achoo, .ref ameth, .ref aroom, .ref anod, .ref asort, .ref anote, .ref amet, .int 0, .int 1])), (anod, .inr (7, [.ref nm, .ref nl, .ref n1, .ref n2, .ref nf, .ref ns, .ref nh, .ref nk, .ref np, .int 16, .int 0, .int 16, .int 0, .int 0])), (ns, .inl (kL, 1024, .inr (.inl zSec))), (nf, .inl (kL, 1024, .inr (.inl zFir)))] s.heap := hP
  have hl := lv_entry ([.ref hh, .int 2, .int 7]) (n := 3) (Nat.le_of_ble_eq_true rfl)
  rw [lg_entry_eq]
  generalize (lg_sl ([.ref hh, .int 2, .int 7]) ++ List.replicate (3 - (lg_sl ([.ref hh, .int 2, .int 7])).length) Slot.unset).toArray = ls at hl ⊢
  have hl : lv_has ls 3 [(0, .ref hh), (1, .int 2), (2, .int 7)] := hl
  have in_RX11 : ∀ w ∈ u_ws RX11 TX11 10, w ∈ w_c_H_has_2 := by decide +kernel
  have in_RX5 : ∀ w ∈ u_ws RX5 TX5 14, w ∈ w_c_H_has_2 := by decide +kernel
  refine lv_aload_n hx hb dX11_has_0 rfl (lv_at hl 0 rfl) ?_
  refine va_get (D := (dC, dI)) (ci := 13) (v := .ref anod) (C := RX11) (T := TX11) (N := 10) hx hb hts in_RX11 hown hK hP 0 rfl rfl 4 (by decide) (hts (.fieldLink RX11 38 "Hornbook" "nodes" "LHornbook$Nodes;") (by decide +kernel)) (fun _ h9 => h9) rfl dX11_has_1 ?_
  refine lv_iload_n hx hb dX11_has_4 rfl (lv_at hl 1 rfl) ?_
  refine z_i (wr := [(hh, .inr (13, [.ref aexpr, .ref achoo, .ref ameth, .ref aroom, .ref anod, .ref asort, .ref anote, .ref amet, .int 0, .int 1]))]) (va_runV (As := [.int 2]) (rest := []) ⟨hx, hb, hml, hown, hts⟩ (c_N_open_2 l eD eI ad dC dI s.heap.size anod nm nl n1 n2 nf ns nh nk np kL) (cwV 1 hts g_c_H_has_2_0 rfl rfl rfl (by decide +kernel) ⟨Nat.le_of_ble_eq_true rfl, Nat.le_of_ble_eq_true rfl⟩) (z_preV (wc := [(anod, .inr (7, [.ref nm, .ref nl, .ref n1, .ref n2, .ref nf, .ref ns, .ref nh, .ref nk, .ref np, .int 16, .int 0, .int 16, .int 0, .int 0])), (ns, .inl (kL, 1024, .inr (.inl zSec))), (nf, .inl (kL, 1024, .inr (.inl zFir)))]) hP hD hK hS hA hE [1, 2, 3] [0] rfl (by decide) rfl (ci := 7) (q0 := 0) rfl rfl) rfl rfl hl.1 rfl (lv_room (Nat.le_of_ble_eq_true rfl)) dX11_has_5 ⟨Nat.le_of_ble_eq_true rfl, Nat.le_of_ble_eq_true rfl⟩) hP hD hK hS hA [1, 2, 3] [0] rfl rfl (by decide) (by decide) (fun r_1 u H locs hw_2 hP hD hK hS => ?_)
  obtain ⟨⟩ := u
  have hP : va_P (dC, dI) vwCl [(hh, .inr (13, [.ref aexpr, .ref achoo, .ref ameth, .ref aroom, .ref anod, .ref asort, .ref anote, .ref amet, .int 0, .int 1])), (anod, .inr (7, [.ref nm, .ref nl, .ref n1, .ref n2, .ref nf, .ref ns, .ref nh, .ref nk, .ref np, .int 16, .int 0, .int 16, .int 0, .int 0])), (ns, .inl (kL, 1024, .inr (.inl zSec))), (nf, .inl (kL, 1024, .inr (.inl zFir)))] H := hP
  have hD : va_D A [(hh, .inr (13, [.ref aexpr, .ref achoo, .ref ameth, .ref aroom, .ref anod, .ref asort, .ref anote, .ref amet, .int 0, .int 1])), (anod, .inr (7, [.ref nm, .ref nl, .ref n1, .ref n2, .ref nf, .ref ns, .ref nh, .ref nk, .ref np, .int 16, .int 0, .int 16, .int 0, .int 0])), (ns, .inl (kL, 1024, .inr (.inl zSec))), (nf, .inl (kL, 1024, .inr (.inl zFir)))] := hD
  have hK : va_K (dC, dI) vwCl [(kL, .long), (kL, .long)] s := hK
  have hw_2 : r_1 = 4 := hw_2
  have hw_2 := hw_2.symm
  subst hw_2
  refine lv_iload_n hx hb dX11_has_8 rfl (lv_at hl 2 rfl) ?_
  refine lv_iand hx hb dX11_has_9 ?_
  refine z_top (v' := .int 4) (congrArg Value.int (by decide)) ?_
  refine lv_if_eq (tgt := 17) hx hb dX11_has_10 (by decide) (fun c_3 => ?_) (fun c_3 => ?_)
  · exact absurd c_3 (by decide)
  refine lv_iconst (v := 1) hx hb dX11_has_13 (by decide) ?_
  refine lv_goto (tgt := 18) hx hb dX11_has_14 (by decide) ?_
  have hP9 := hP.sub (ws' := [(hh, .inr (13, [.ref aexpr, .ref achoo, .ref ameth, .ref aroom, .ref anod, .ref asort, .ref anote, .ref amet, .int 0, .int 1])), (anod, .inr (7, [.ref nm, .ref nl, .ref n1, .ref n2, .ref nf, .ref ns, .ref nh, .ref nk, .ref np, .int 16, .int 0, .int 16, .int 0, .int 0])), (ns, .inl (kL, 1024, .inr (.inl zSec))), (nf, .inl (kL, 1024, .inr (.inl zFir)))]) [0, 1, 2, 3] rfl
  have hD9 := hD.sub (ws' := [(hh, .inr (13, [.ref aexpr, .ref achoo, .ref ameth, .ref aroom, .ref anod, .ref asort, .ref anote, .ref amet, .int 0, .int 1])), (anod, .inr (7, [.ref nm, .ref nl, .ref n1, .ref n2, .ref nf, .ref ns, .ref nh, .ref nk, .ref np, .int 16, .int 0, .int 16, .int 0, .int 0])), (ns, .inl (kL, 1024, .inr (.inl zSec))), (nf, .inl (kL, 1024, .inr (.inl zFir)))]) [0, 1, 2, 3] (by decide) rfl
  have hK9 := hK.sub (tys' := [(kL, .long)]) [0] rfl
  refine W.widen (k := 0) (n := 0) (Nat.le_of_ble_eq_true rfl) (Nat.le_of_ble_eq_true rfl) ?_
  exact W.zret (v := 1) hx hb hr (by first | rfl | decide) (fun t ht hW => ⟨⟨1, (), rfl, rfl, ⟨by rw [ht]; exact hP9, va_K.moved hW.alike hK9, hD9⟩⟩, hS.F ht⟩) hS.2.2 dX11_has_18

def wb_c_H_closed_0 : List Cond := [.fieldLink RX11 31 "Hornbook" "room" "LHornbook$Room;", .code yX7_toldAt cX7_toldAt 2 (some .int), .fieldLink RX7 29 "Hornbook$Room" "tellings" "I", .fieldLink RX7 25 "Hornbook$Room" "told" "[I", .methodLink RX11 123 yX7_toldAt, .instanceMethod yX7_toldAt, .selects RX7 yX7_toldAt yX7_toldAt, .initialized RX7, .code yX11_has cX11_has 3 (some .boolean), .fieldLink RX11 38 "Hornbook" "nodes" "LHornbook$Nodes;", .code yX5_openOf cX5_openOf 2 (some .int), .fieldLink RX5 28 "Hornbook$Nodes" "second" "[J", .fieldLink RX5 24 "Hornbook$Nodes" "first" "[J", .methodLink RX11 367 yX5_openOf, .instanceMethod yX5_openOf, .selects RX5 yX5_openOf yX5_openOf, .initialized RX5, .methodLink RX11 138 yX11_has, .instanceMethod yX11_has, .selects RX11 yX11_has yX11_has, .initialized RX11] ++ u_ws RX11 TX11 10 ++ u_ws RX5 TX5 14 ++ u_ws RX7 TX7 14
def w_c_H_closed_0 : List Cond := .code yX11_needClosed cX11_needClosed 2 none :: wb_c_H_closed_0
set_option maxRecDepth 100000 in
theorem g_c_H_closed_0_0 : GoodIn w_c_H_closed_0 (wsV RX11 123 RX7 yX7_toldAt w_c_R_told_0) := goodIn_app (goodIn_of _ (by decide +kernel)) (goodIn_p (big := w_c_H_closed_0) (.code yX7_toldAt cX7_toldAt 2 (some .int) :: wb_c_R_told_0) [2] rfl (by decide +kernel))
set_option maxRecDepth 100000 in
theorem g_c_H_closed_0_1 : GoodIn w_c_H_closed_0 (wsV RX11 138 RX11 yX11_has w_c_H_has_0) := goodIn_app (goodIn_of _ (by decide +kernel)) (goodIn_p (big := w_c_H_closed_0) (.code yX11_has cX11_has 3 (some .boolean) :: wb_c_H_has_0) [9, 11] rfl (by decide +kernel))
set_option maxHeartbeats 4000000 in
set_option maxRecDepth 100000 in
theorem c_H_closed_0 (l : Launch) (eD eI : Nat) (ad : Nat → Nat) (dC : Nat → ClassId) (dI : Nat → Nat → Nat) (sz : Nat) (hh : Nat) (aexpr : Nat) (achoo : Nat) (ameth : Nat) (aroom : Nat) (anod : Nat) (asort : Nat) (anote : Nat) (amet : Nat) (atold : Nat) (aheld : Nat) (apair : Nat) (astep : Nat) (asize : Nat) (nm : Nat) (nl : Nat) (n1 : Nat) (n2 : Nat) (nf : Nat) (ns : Nat) (nh : Nat) (nk : Nat) (np : Nat) (kI : ClassId) (kL : ClassId) : Met l yX11_needClosed w_c_H_closed_0 ({ frames := 2, cells := 0, slots := 0, locals := 43 }) (va_Pc [.ref hh, .int 0] (zPre eD eI ad (dC, dI) [(hh, .inr (13, [.ref aexpr, .ref achoo, .ref ameth, .ref aroom, .ref anod, .ref asort, .ref anote, .ref amet, .int 0, .int 1])), (aroom, .inr (9, [.ref asort, .ref anod, .ref atold, .int 3, .ref aheld, .int 0, .ref apair, .ref astep, .int 0, .int 0, .int (-1), .int 0, .int 0, .ref asize])), (atold, .inl (kI, 60, .inl zTold)), (anod, .inr (7, [.ref nm, .ref nl, .ref n1, .ref n2, .ref nf, .ref ns, .ref nh, .ref nk, .ref np, .int 16, .int 0, .int 16, .int 0, .int 0])), (ns, .inl (kL, 1024, .inr (.inl zSec))), (nf, .inl (kL, 1024, .inr (.inl zFir)))] [(kI, .int), (kL, .long)] sz)) (va_Qv (fun (_ : Unit) => True) (fun (_ : Unit) => zEnd (dC, dI) (va_A [(hh, .inr (13, [.ref aexpr, .ref achoo, .ref ameth, .ref aroom, .ref anod, .ref asort, .ref anote, .ref amet, .int 0, .int 1])), (aroom, .inr (9, [.ref asort, .ref anod, .ref atold, .int 3, .ref aheld, .int 0, .ref apair, .ref astep, .int 0, .int 0, .int (-1), .int 0, .int 0, .ref asize])), (atold, .inl (kI, 60, .inl zTold)), (anod, .inr (7, [.ref nm, .ref nl, .ref n1, .ref n2, .ref nf, .ref ns, .ref nh, .ref nk, .ref np, .int 16, .int 0, .int 16, .int 0, .int 0])), (ns, .inl (kL, 1024, .inr (.inl zSec))), (nf, .inl (kL, 1024, .inr (.inl zFir)))] sz) [(hh, .inr (13, [.ref aexpr, .ref achoo, .ref ameth, .ref aroom, .ref anod, .ref asort, .ref anote, .ref amet, .int 0, .int 1])), (aroom, .inr (9, [.ref asort, .ref anod, .ref atold, .int 3, .ref aheld, .int 0, .ref apair, .ref astep, .int 0, .int 0, .int (-1), .int 0, .int 0, .ref asize])), (atold, .inl (kI, 60, .inl zTold)), (anod, .inr (7, [.ref nm, .ref nl, .ref n1, .ref n2, .ref nf, .ref ns, .ref nh, .ref nk, .ref np, .int 16, .int 0, .int 16, .int 0, .int 0])), (ns, .inl (kL, 1024, .inr (.inl zSec))), (nf, .inl (kL, 1024, .inr (.inl zFir)))] [(kI, .int), (kL, .long)]) (va_A [(hh, .inr (13, [.ref aexpr, .ref achoo, .ref ameth, .ref aroom, .ref anod, .ref asort, .ref anote, .ref amet, .int 0, .int 1])), (aroom, .inr (9, [.ref asort, .ref anod, .ref atold, .int 3, .ref aheld, .int 0, .ref apair, .ref astep, .int 0, .int 0, .int (-1), .int 0, .int 0, .ref asize])), (atold, .inl (kI, 60, .inl zTold)), (anod, .inr (7, [.ref nm, .ref nl, .ref n1, .ref n2, .ref nf, .ref ns, .ref nh, .ref nk, .ref np, .int 16, .int 0, .int 16, .int 0, .int 0])), (ns, .inl (kL, 1024, .inr (.inl zSec))), (nf, .inl (kL, 1024, .inr (.inl zFir)))] sz)) 0 0 (va_A [(hh, .inr (13, [.ref aexpr, .ref achoo, .ref ameth, .ref aroom, .ref anod, .ref asort, .ref anote, .ref amet, .int 0, .int 1])), (aroom, .inr (9, [.ref asort, .ref anod, .ref atold, .int 3, .ref aheld, .int 0, .ref apair, .ref astep, .int 0, .int 0, .int (-1), .int 0, .int 0, .ref asize])), (atold, .inl (kI, 60, .inl zTold)), (anod, .inr (7, [.ref nm, .ref nl, .ref n1, .ref n2, .ref nf, .ref ns, .ref nh, .ref nk, .ref np, .int 16, .int 0, .int 16, .int 0, .int 0])), (ns, .inl (kL, 1024, .inr (.inl zSec))), (nf, .inl (kL, 1024, .inr (.inl zFir)))] sz) := by
  refine Met.ofW (cc := cX11_needClosed) (maxL := 2) (ret := none) (by decide) rfl ?_
  intro p e s m args below meth c s₁ B hml hv
  obtain ⟨rfl, hsz, hP, hK, hD0, hE⟩ := hv
  have hx := B.exec
  have hb := B.bytes
  have hr := B.returns
  have hts := atoms_spec (ws := w_c_H_closed_0) B.pre
  have hown : s.vm.findClass RX11 = some m.cls := findClass_of_methodNamed B.named
  have hlocks := B.notSynchronized
  subst hsz
  have hD := hD0.self (sz := s.heap.size)
  generalize hAe : va_A [(hh, .inr (13, [.ref aexpr, .ref achoo, .ref ameth, .ref aroom, .ref anod, .ref asort, .ref anote, .ref amet, .int 0, .int 1])), (aroom, .inr (9, [.ref asort, .ref anod, .ref atold, .int 3, .ref aheld, .int 0, .ref apair, .ref astep, .int 0, .int 0, .int (-1), .int 0, .int 0, .ref asize])), (atold, .inl (kI, 60, .inl zTold)), (anod, .inr (7, [.ref nm, .ref nl, .ref n1, .ref n2, .ref nf, .ref ns, .ref nh, .ref nk, .ref np, .int 16, .int 0, .int 16, .int 0, .int 0])), (ns, .inl (kL, 1024, .inr (.inl zSec))), (nf, .inl (kL, 1024, .inr (.inl zFir)))] s.heap.size = A at hD hE ⊢
  have hA : ∀ q : Nat, s.heap.size ≤ q → A q := fun q h => by rw [← hAe]; exact Or.inr h
  have hS : va_S A s.heap s.heap [] := va_S.rf
  have hP : va_P (dC, dI) vwCl [(hh, .inr (13, [.ref aexpr, .ref achoo, .ref ameth, .ref aroom, .ref anod, .ref asort, .ref anote, .ref amet, .int 0, .int 1])), (aroom, .inr (9, [.ref asort, .ref anod, .ref atold, .int 3, .ref aheld, .int 0, .ref apair, .ref astep, .int 0, .int 0, .int (-1), .int 0, .int 0, .ref asize])), (atold, .inl (kI, 60, .inl zTold)), (anod, .inr (7, [.ref nm, .ref nl, .ref n1, .ref n2, .ref nf, .ref ns, .ref nh, .ref nk, .ref np, .int 16, .int 0, .int 16, .int 0, .int 0])), (ns, .inl (kL, 1024, .inr (.inl zSec))), (nf, .inl (kL, 1024, .inr (.inl zFir)))] s.heap := hP
  have hl := lv_entry ([.ref hh, .int 0]) (n := 2) (Nat.le_of_ble_eq_true rfl)
  rw [lg_entry_eq]
  generalize (lg_sl ([.ref hh, .int 0]) ++ List.replicate (2 - (lg_sl ([.ref hh, .int 0])).length) Slot.unset).toArray = ls at hl ⊢
  have hl : lv_has ls 2 [(0, .ref hh), (1, .int 0)] := hl
  have in_RX11 : ∀ w ∈ u_ws RX11 TX11 10, w ∈ w_c_H_closed_0 := by decide +kernel
  have in_RX5 : ∀ w ∈ u_ws RX5 TX5 14, w ∈ w_c_H_closed_0 := by decide +kernel
  have in_RX7 : ∀ w ∈ u_ws RX7 TX7 14, w ∈ w_c_H_closed_0 := by decide +kernel
  refine lv_aload_n hx hb dX11_needClosed_0 rfl (lv_at hl 0 rfl) ?_
  refine lv_aload_n hx hb dX11_needClosed_1 rfl (lv_at hl 0 rfl) ?_
  refine va_get (D := (dC, dI)) (ci := 13) (v := .ref aroom) (C := RX11) (T := TX11) (N := 10) hx hb hts in_RX11 hown hK hP 0 rfl rfl 3 (by decide) (hts (.fieldLink RX11 31 "Hornbook" "room" "LHornbook$Room;") (by decide +kernel)) (fun _ h9 => h9) rfl dX11_needClosed_2 ?_
  refine lv_iload_n hx hb dX11_needClosed_5 rfl (lv_at hl 1 rfl) ?_
  refine z_i (wr := [(hh, .inr (13, [.ref aexpr, .ref achoo, .ref ameth, .ref aroom, .ref anod, .ref asort, .ref anote, .ref amet, .int 0, .int 1])), (anod, .inr (7, [.ref nm, .ref nl, .ref n1, .ref n2, .ref nf, .ref ns, .ref nh, .ref nk, .ref np, .int 16, .int 0, .int 16, .int 0, .int 0])), (ns, .inl (kL, 1024, .inr (.inl zSec))), (nf, .inl (kL, 1024, .inr (.inl zFir)))]) (va_runV (As := [.int 0]) (rest := [.ref hh]) ⟨hx, hb, hml, hown, hts⟩ (c_R_told_0 l eD eI ad dC dI s.heap.size aroom anod asort atold aheld apair astep asize kI) (cwV 1 hts g_c_H_closed_0_0 rfl rfl rfl (by decide +kernel) ⟨Nat.le_of_ble_eq_true rfl, Nat.le_of_ble_eq_true rfl⟩) (z_preV (wc := [(aroom, .inr (9, [.ref asort, .ref anod, .ref atold, .int 3, .ref aheld, .int 0, .ref apair, .ref astep, .int 0, .int 0, .int (-1), .int 0, .int 0, .ref asize])), (atold, .inl (kI, 60, .inl zTold))]) hP hD hK hS hA hE [1, 2] [0] rfl (by decide) rfl (ci := 9) (q0 := 0) rfl rfl) rfl rfl hl.1 rfl (lv_room (Nat.le_of_ble_eq_true rfl)) dX11_needClosed_6 ⟨Nat.le_of_ble_eq_true rfl, Nat.le_of_ble_eq_true rfl⟩) hP hD hK hS hA [1, 2] [0, 3, 4, 5] rfl rfl (by decide) (by decide) (fun r_1 u H locs hw_2 hP hD hK hS => ?_)
  obtain ⟨⟩ := u
  have hP : va_P (dC, dI) vwCl [(hh, .inr (13, [.ref aexpr, .ref achoo, .ref ameth, .ref aroom, .ref anod, .ref asort, .ref anote, .ref amet, .int 0, .int 1])), (anod, .inr (7, [.ref nm, .ref nl, .ref n1, .ref n2, .ref nf, .ref ns, .ref nh, .ref nk, .ref np, .int 16, .int 0, .int 16, .int 0, .int 0])), (ns, .inl (kL, 1024, .inr (.inl zSec))), (nf, .inl (kL, 1024, .inr (.inl zFir))), (aroom, .inr (9, [.ref asort, .ref anod, .ref atold, .int 3, .ref aheld, .int 0, .ref apair, .ref astep, .int 0, .int 0, .int (-1), .int 0, .int 0, .ref asize])), (atold, .inl (kI, 60, .inl zTold))] H := hP
  have hD : va_D A [(hh, .inr (13, [.ref aexpr, .ref achoo, .ref ameth, .ref aroom, .ref anod, .ref asort, .ref anote, .ref amet, .int 0, .int 1])), (anod, .inr (7, [.ref nm, .ref nl, .ref n1, .ref n2, .ref nf, .ref ns, .ref nh, .ref nk, .ref np, .int 16, .int 0, .int 16, .int 0, .int 0])), (ns, .inl (kL, 1024, .inr (.inl zSec))), (nf, .inl (kL, 1024, .inr (.inl zFir))), (aroom, .inr (9, [.ref asort, .ref anod, .ref atold, .int 3, .ref aheld, .int 0, .ref apair, .ref astep, .int 0, .int 0, .int (-1), .int 0, .int 0, .ref asize])), (atold, .inl (kI, 60, .inl zTold))] := hD
  have hK : va_K (dC, dI) vwCl [(kI, .int), (kL, .long), (kI, .int)] s := hK
  have hw_2 : r_1 = 0 := hw_2
  have hw_2 := hw_2.symm
  subst hw_2
  refine lv_bipush (v := 7) hx hb dX11_needClosed_9 (by decide) ?_
  refine z_i (wr := [(aroom, .inr (9, [.ref asort, .ref anod, .ref atold, .int 3, .ref aheld, .int 0, .ref apair, .ref astep, .int 0, .int 0, .int (-1), .int 0, .int 0, .ref asize])), (atold, .inl (kI, 60, .inl zTold))]) (va_runV (As := [.int 0, .int 7]) (rest := []) ⟨hx, hb, hml, hown, hts⟩ (c_H_has_0 l eD eI ad dC dI H.size hh aexpr achoo ameth aroom anod asort anote amet nm nl n1 n2 nf ns nh nk np kL) (cwV 2 hts g_c_H_closed_0_1 rfl rfl rfl (by decide +kernel) ⟨Nat.le_of_ble_eq_true rfl, Nat.le_of_ble_eq_true rfl⟩) (z_preV (wc := [(hh, .inr (13, [.ref aexpr, .ref achoo, .ref ameth, .ref aroom, .ref anod, .ref asort, .ref anote, .ref amet, .int 0, .int 1])), (anod, .inr (7, [.ref nm, .ref nl, .ref n1, .ref n2, .ref nf, .ref ns, .ref nh, .ref nk, .ref np, .int 16, .int 0, .int 16, .int 0, .int 0])), (ns, .inl (kL, 1024, .inr (.inl zSec))), (nf, .inl (kL, 1024, .inr (.inl zFir)))]) hP hD hK hS hA hE [0, 1, 2, 3] [1] rfl (by decide) rfl (ci := 13) (q0 := 0) rfl rfl) rfl rfl hl.1 rfl (lv_room (Nat.le_of_ble_eq_true rfl)) dX11_needClosed_11 ⟨Nat.le_of_ble_eq_true rfl, Nat.le_of_ble_eq_true rfl⟩) hP hD hK hS hA [0, 1, 2, 3] [4, 5] rfl rfl (by decide) (by decide) (fun r_3 u H locs hw_4 hP hD hK hS => ?_)
  obtain ⟨⟩ := u
  have hP : va_P (dC, dI) vwCl [(aroom, .inr (9, [.ref asort, .ref anod, .ref atold, .int 3, .ref aheld, .int 0, .ref apair, .ref astep, .int 0, .int 0, .int (-1), .int 0, .int 0, .ref asize])), (atold, .inl (kI, 60, .inl zTold)), (hh, .inr (13, [.ref aexpr, .ref achoo, .ref ameth, .ref aroom, .ref anod, .ref asort, .ref anote, .ref amet, .int 0, .int 1])), (anod, .inr (7, [.ref nm, .ref nl, .ref n1, .ref n2, .ref nf, .ref ns, .ref nh, .ref nk, .ref np, .int 16, .int 0, .int 16, .int 0, .int 0])), (ns, .inl (kL, 1024, .inr (.inl zSec))), (nf, .inl (kL, 1024, .inr (.inl zFir)))] H := hP
  have hD : va_D A [(aroom, .inr (9, [.ref asort, .ref anod, .ref atold, .int 3, .ref aheld, .int 0, .ref apair, .ref astep, .int 0, .int 0, .int (-1), .int 0, .int 0, .ref asize])), (atold, .inl (kI, 60, .inl zTold)), (hh, .inr (13, [.ref aexpr, .ref achoo, .ref ameth, .ref aroom, .ref anod, .ref asort, .ref anote, .ref amet, .int 0, .int 1])), (anod, .inr (7, [.ref nm, .ref nl, .ref n1, .ref n2, .ref nf, .ref ns, .ref nh, .ref nk, .ref np, .int 16, .int 0, .int 16, .int 0, .int 0])), (ns, .inl (kL, 1024, .inr (.inl zSec))), (nf, .inl (kL, 1024, .inr (.inl zFir)))] := hD
  have hK : va_K (dC, dI) vwCl [(kI, .int), (kL, .long), (kI, .int), (kL, .long)] s := hK
  have hw_4 : r_3 = 0 := hw_4
  have hw_4 := hw_4.symm
  subst hw_4
  refine lv_if_eq (tgt := 28) hx hb dX11_needClosed_14 (by decide) (fun c_5 => ?_) (fun c_5 => ?_)
  rotate_left
  · exact absurd (by decide) c_5
  have hP9 := hP.sub (ws' := [(hh, .inr (13, [.ref aexpr, .ref achoo, .ref ameth, .ref aroom, .ref anod, .ref asort, .ref anote, .ref amet, .int 0, .int 1])), (aroom, .inr (9, [.ref asort, .ref anod, .ref atold, .int 3, .ref aheld, .int 0, .ref apair, .ref astep, .int 0, .int 0, .int (-1), .int 0, .int 0, .ref asize])), (atold, .inl (kI, 60, .inl zTold)), (anod, .inr (7, [.ref nm, .ref nl, .ref n1, .ref n2, .ref nf, .ref ns, .ref nh, .ref nk, .ref np, .int 16, .int 0, .int 16, .int 0, .int 0])), (ns, .inl (kL, 1024, .inr (.inl zSec))), (nf, .inl (kL, 1024, .inr (.inl zFir)))]) [2, 0, 1, 3, 4, 5] rfl
  have hD9 := hD.sub (ws' := [(hh, .inr (13, [.ref aexpr, .ref achoo, .ref ameth, .ref aroom, .ref anod, .ref asort, .ref anote, .ref amet, .int 0, .int 1])), (aroom, .inr (9, [.ref asort, .ref anod, .ref atold, .int 3, .ref aheld, .int 0, .ref apair, .ref astep, .int 0, .int 0, .int (-1), .int 0, .int 0, .ref asize])), (atold, .inl (kI, 60, .inl zTold)), (anod, .inr (7, [.ref nm, .ref nl, .ref n1, .ref n2, .ref nf, .ref ns, .ref nh, .ref nk, .ref np, .int 16, .int 0, .int 16, .int 0, .int 0])), (ns, .inl (kL, 1024, .inr (.inl zSec))), (nf, .inl (kL, 1024, .inr (.inl zFir)))]) [2, 0, 1, 3, 4, 5] (by decide) rfl
  have hK9 := hK.sub (tys' := [(kI, .int), (kL, .long)]) [0, 1] rfl
  refine W.widen (k := 0) (n := 0) (Nat.le_of_ble_eq_true rfl) (Nat.le_of_ble_eq_true rfl) ?_
  exact W.vret hx hb hr (fun t ht hW => ⟨⟨(), rfl, trivial, ⟨by rw [ht]; exact hP9, va_K.moved hW.alike hK9, hD9⟩⟩, hS.F ht⟩) hS.2.2 dX11_needClosed_28

def wb_c_H_closed_1 : List Cond := [.fieldLink RX11 31 "Hornbook" "room" "LHornbook$Room;", .code yX7_toldAt cX7_toldAt 2 (some .int), .fieldLink RX7 29 "Hornbook$Room" "tellings" "I", .fieldLink RX7 25 "Hornbook$Room" "told" "[I", .methodLink RX11 123 yX7_toldAt, .instanceMethod yX7_toldAt, .selects RX7 yX7_toldAt yX7_toldAt, .initialized RX7, .code yX11_has cX11_has 3 (some .boolean), .fieldLink RX11 38 "Hornbook" "nodes" "LHornbook$Nodes;", .code yX5_openOf cX5_openOf 2 (some .int), .fieldLink RX5 28 "Hornbook$Nodes" "second" "[J", .fieldLink RX5 24 "Hornbook$Nodes" "first" "[J", .methodLink RX11 367 yX5_openOf, .instanceMethod yX5_openOf, .selects RX5 yX5_openOf yX5_openOf, .initialized RX5, .methodLink RX11 138 yX11_has, .instanceMethod yX11_has, .selects RX11 yX11_has yX11_has, .initialized RX11] ++ u_ws RX11 TX11 10 ++ u_ws RX5 TX5 14 ++ u_ws RX7 TX7 14
def w_c_H_closed_1 : List Cond := .code yX11_needClosed cX11_needClosed 2 none :: wb_c_H_closed_1
set_option maxRecDepth 100000 in
theorem g_c_H_closed_1_0 : GoodIn w_c_H_closed_1 (wsV RX11 123 RX7 yX7_toldAt w_c_R_told_1) := goodIn_app (goodIn_of _ (by decide +kernel)) (goodIn_p (big := w_c_H_closed_1) (.code yX7_toldAt cX7_toldAt 2 (some .int) :: wb_c_R_told_1) [2] rfl (by decide +kernel))
set_option maxRecDepth 100000 in
theorem g_c_H_closed_1_1 : GoodIn w_c_H_closed_1 (wsV RX11 138 RX11 yX11_has w_c_H_has_1) := goodIn_app (goodIn_of _ (by decide +kernel)) (goodIn_p (big := w_c_H_closed_1) (.code yX11_has cX11_has 3 (some .boolean) :: wb_c_H_has_1) [9, 11] rfl (by decide +kernel))
set_option maxHeartbeats 4000000 in
set_option maxRecDepth 100000 in
theorem c_H_closed_1 (l : Launch) (eD eI : Nat) (ad : Nat → Nat) (dC : Nat → ClassId) (dI : Nat → Nat → Nat) (sz : Nat) (hh : Nat) (aexpr : Nat) (achoo : Nat) (ameth : Nat) (aroom : Nat) (anod : Nat) (asort : Nat) (anote : Nat) (amet : Nat) (atold : Nat) (aheld : Nat) (apair : Nat) (astep : Nat) (asize : Nat) (nm : Nat) (nl : Nat) (n1 : Nat) (n2 : Nat) (nf : Nat) (ns : Nat) (nh : Nat) (nk : Nat) (np : Nat) (kI : ClassId) (kL : ClassId) : Met l yX11_needClosed w_c_H_closed_1 ({ frames := 2, cells := 0, slots := 0, locals := 43 }) (va_Pc [.ref hh, .int 1] (zPre eD eI ad (dC, dI) [(hh, .inr (13, [.ref aexpr, .ref achoo, .ref ameth, .ref aroom, .ref anod, .ref asort, .ref anote, .ref amet, .int 0, .int 1])), (aroom, .inr (9, [.ref asort, .ref anod, .ref atold, .int 3, .ref aheld, .int 0, .ref apair, .ref astep, .int 0, .int 0, .int (-1), .int 0, .int 0, .ref asize])), (atold, .inl (kI, 60, .inl zTold)), (anod, .inr (7, [.ref nm, .ref nl, .ref n1, .ref n2, .ref nf, .ref ns, .ref nh, .ref nk, .ref np, .int 16, .int 0, .int 16, .int 0, .int 0])), (ns, .inl (kL, 1024, .inr (.inl zSec))), (nf, .inl (kL, 1024, .inr (.inl zFir)))] [(kI, .int), (kL, .long)] sz)) (va_Qv (fun (_ : Unit) => True) (fun (_ : Unit) => zEnd (dC, dI) (va_A [(hh, .inr (13, [.ref aexpr, .ref achoo, .ref ameth, .ref aroom, .ref anod, .ref asort, .ref anote, .ref amet, .int 0, .int 1])), (aroom, .inr (9, [.ref asort, .ref anod, .ref atold, .int 3, .ref aheld, .int 0, .ref apair, .ref astep, .int 0, .int 0, .int (-1), .int 0, .int 0, .ref asize])), (atold, .inl (kI, 60, .inl zTold)), (anod, .inr (7, [.ref nm, .ref nl, .ref n1, .ref n2, .ref nf, .ref ns, .ref nh, .ref nk, .ref np, .int 16, .int 0, .int 16, .int 0, .int 0])), (ns, .inl (kL, 1024, .inr (.inl zSec))), (nf, .inl (kL, 1024, .inr (.inl zFir)))] sz) [(hh, .inr (13, [.ref aexpr, .ref achoo, .ref ameth, .ref aroom, .ref anod, .ref asort, .ref anote, .ref amet, .int 0, .int 1])), (aroom, .inr (9, [.ref asort, .ref anod, .ref atold, .int 3, .ref aheld, .int 0, .ref apair, .ref astep, .int 0, .int 0, .int (-1), .int 0, .int 0, .ref asize])), (atold, .inl (kI, 60, .inl zTold)), (anod, .inr (7, [.ref nm, .ref nl, .ref n1, .ref n2, .ref nf, .ref ns, .ref nh, .ref nk, .ref np, .int 16, .int 0, .int 16, .int 0, .int 0])), (ns, .inl (kL, 1024, .inr (.inl zSec))), (nf, .inl (kL, 1024, .inr (.inl zFir)))] [(kI, .int), (kL, .long)]) (va_A [(hh, .inr (13, [.ref aexpr, .ref achoo, .ref ameth, .ref aroom, .ref anod, .ref asort, .ref anote, .ref amet, .int 0, .int 1])), (aroom, .inr (9, [.ref asort, .ref anod, .ref atold, .int 3, .ref aheld, .int 0, .ref apair, .ref astep, .int 0, .int 0, .int (-1), .int 0, .int 0, .ref asize])), (atold, .inl (kI, 60, .inl zTold)), (anod, .inr (7, [.ref nm, .ref nl, .ref n1, .ref n2, .ref nf, .ref ns, .ref nh, .ref nk, .ref np, .int 16, .int 0, .int 16, .int 0, .int 0])), (ns, .inl (kL, 1024, .inr (.inl zSec))), (nf, .inl (kL, 1024, .inr (.inl zFir)))] sz)) 0 0 (va_A [(hh, .inr (13, [.ref aexpr, .ref achoo, .ref ameth, .ref aroom, .ref anod, .ref asort, .ref anote, .ref amet, .int 0, .int 1])), (aroom, .inr (9, [.ref asort, .ref anod, .ref atold, .int 3, .ref aheld, .int 0, .ref apair, .ref astep, .int 0, .int 0, .int (-1), .int 0, .int 0, .ref asize])), (atold, .inl (kI, 60, .inl zTold)), (anod, .inr (7, [.ref nm, .ref nl, .ref n1, .ref n2, .ref nf, .ref ns, .ref nh, .ref nk, .ref np, .int 16, .int 0, .int 16, .int 0, .int 0])), (ns, .inl (kL, 1024, .inr (.inl zSec))), (nf, .inl (kL, 1024, .inr (.inl zFir)))] sz) := by
  refine Met.ofW (cc := cX11_needClosed) (maxL := 2) (ret := none) (by decide) rfl ?_
  intro p e s m args below meth c s₁ B hml hv
  obtain ⟨rfl, hsz, hP, hK, hD0, hE⟩ := hv
  have hx := B.exec
  have hb := B.bytes
  have hr := B.returns
  have hts := atoms_spec (ws := w_c_H_closed_1) B.pre
  have hown : s.vm.findClass RX11 = some m.cls := findClass_of_methodNamed B.named
  have hlocks := B.notSynchronized
  subst hsz
  have hD := hD0.self (sz := s.heap.size)
  generalize hAe : va_A [(hh, .inr (13, [.ref aexpr, .ref achoo, .ref ameth, .ref aroom, .ref anod, .ref asort, .ref anote, .ref amet, .int 0, .int 1])), (aroom, .inr (9, [.ref asort, .ref anod, .ref atold, .int 3, .ref aheld, .int 0, .ref apair, .ref astep, .int 0, .int 0, .int (-1), .int 0, .int 0, .ref asize])), (atold, .inl (kI, 60, .inl zTold)), (anod, .inr (7, [.ref nm, .ref nl, .ref n1, .ref n2, .ref nf, .ref ns, .ref nh, .ref nk, .ref np, .int 16, .int 0, .int 16, .int 0, .int 0])), (ns, .inl (kL, 1024, .inr (.inl zSec))), (nf, .inl (kL, 1024, .inr (.inl zFir)))] s.heap.size = A at hD hE ⊢
  have hA : ∀ q : Nat, s.heap.size ≤ q → A q := fun q h => by rw [← hAe]; exact Or.inr h
  have hS : va_S A s.heap s.heap [] := va_S.rf
  have hP : va_P (dC, dI) vwCl [(hh, .inr (13, [.ref aexpr, .ref achoo, .ref ameth, .ref aroom, .ref anod, .ref asort, .ref anote, .ref amet, .int 0, .int 1])), (aroom, .inr (9, [.ref asort, .ref anod, .ref atold, .int 3, .ref aheld, .int 0, .ref apair, .ref astep, .int 0, .int 0, .int (-1), .int 0, .int 0, .ref asize])), (atold, .inl (kI, 60, .inl zTold)), (anod, .inr (7, [.ref nm, .ref nl, .ref n1, .ref n2, .ref nf, .ref ns, .ref nh, .ref nk, .ref np, .int 16, .int 0, .int 16, .int 0, .int 0])), (ns, .inl (kL, 1024, .inr (.inl zSec))), (nf, .inl (kL, 1024, .inr (.inl zFir)))] s.heap := hP
  have hl := lv_entry ([.ref hh, .int 1]) (n := 2) (Nat.le_of_ble_eq_true rfl)
  rw [lg_entry_eq]
  generalize (lg_sl ([.ref hh, .int 1]) ++ List.replicate (2 - (lg_sl ([.ref hh, .int 1])).length) Slot.unset).toArray = ls at hl ⊢
  have hl : lv_has ls 2 [(0, .ref hh), (1, .int 1)] := hl
  have in_RX11 : ∀ w ∈ u_ws RX11 TX11 10, w ∈ w_c_H_closed_1 := by decide +kernel
  have in_RX5 : ∀ w ∈ u_ws RX5 TX5 14, w ∈ w_c_H_closed_1 := by decide +kernel
  have in_RX7 : ∀ w ∈ u_ws RX7 TX7 14, w ∈ w_c_H_closed_1 := by decide +kernel
  refine lv_aload_n hx hb dX11_needClosed_0 rfl (lv_at hl 0 rfl) ?_
  refine lv_aload_n hx hb dX11_needClosed_1 rfl (lv_at hl 0 rfl) ?_
  refine va_get (D := (dC, dI)) (ci := 13) (v := .ref aroom) (C := RX11) (T := TX11) (N := 10) hx hb hts in_RX11 hown hK hP 0 rfl rfl 3 (by decide) (hts (.fieldLink RX11 31 "Hornbook" "room" "LHornbook$Room;") (by decide +kernel)) (fun _ h9 => h9) rfl dX11_needClosed_2 ?_
  refine lv_iload_n hx hb dX11_needClosed_5 rfl (lv_at hl 1 rfl) ?_
  refine z_i (wr := [(hh, .inr (13, [.ref aexpr, .ref achoo, .ref ameth, .ref aroom, .ref anod, .ref asort, .ref anote, .ref amet, .int 0, .int 1])), (anod, .inr (7, [.ref nm, .ref nl, .ref n1, .ref n2, .ref nf, .ref ns, .ref nh, .ref nk, .ref np, .int 16, .int 0, .int 16, .int 0, .int 0])), (ns, .inl (kL, 1024, .inr (.inl zSec))), (nf, .inl (kL, 1024, .inr (.inl zFir)))]) (va_runV (As := [.int 1]) (rest := [.ref hh]) ⟨hx, hb, hml, hown, hts⟩ (c_R_told_1 l eD eI ad dC dI s.heap.size aroom anod asort atold aheld apair astep asize kI) (cwV 1 hts g_c_H_closed_1_0 rfl rfl rfl (by decide +kernel) ⟨Nat.le_of_ble_eq_true rfl, Nat.le_of_ble_eq_true rfl⟩) (z_preV (wc := [(aroom, .inr (9, [.ref asort, .ref anod, .ref atold, .int 3, .ref aheld, .int 0, .ref apair, .ref astep, .int 0, .int 0, .int (-1), .int 0, .int 0, .ref asize])), (atold, .inl (kI, 60, .inl zTold))]) hP hD hK hS hA hE [1, 2] [0] rfl (by decide) rfl (ci := 9) (q0 := 0) rfl rfl) rfl rfl hl.1 rfl (lv_room (Nat.le_of_ble_eq_true rfl)) dX11_needClosed_6 ⟨Nat.le_of_ble_eq_true rfl, Nat.le_of_ble_eq_true rfl⟩) hP hD hK hS hA [1, 2] [0, 3, 4, 5] rfl rfl (by decide) (by decide) (fun r_1 u H locs hw_2 hP hD hK hS => ?_)
  obtain ⟨⟩ := u
  have hP : va_P (dC, dI) vwCl [(hh, .inr (13, [.ref aexpr, .ref achoo, .ref ameth, .ref aroom, .ref anod, .ref asort, .ref anote, .ref amet, .int 0, .int 1])), (anod, .inr (7, [.ref nm, .ref nl, .ref n1, .ref n2, .ref nf, .ref ns, .ref nh, .ref nk, .ref np, .int 16, .int 0, .int 16, .int 0, .int 0])), (ns, .inl (kL, 1024, .inr (.inl zSec))), (nf, .inl (kL, 1024, .inr (.inl zFir))), (aroom, .inr (9, [.ref asort, .ref anod, .ref atold, .int 3, .ref aheld, .int 0, .ref apair, .ref astep, .int 0, .int 0, .int (-1), .int 0, .int 0, .ref asize])), (atold, .inl (kI, 60, .inl zTold))] H := hP
  have hD : va_D A [(hh, .inr (13, [.ref aexpr, .ref achoo, .ref ameth, .ref aroom, .ref anod, .ref asort, .ref anote, .ref amet, .int 0, .int 1])), (anod, .inr (7, [.ref nm, .ref nl, .ref n1, .ref n2, .ref nf, .ref ns, .ref nh, .ref nk, .ref np, .int 16, .int 0, .int 16, .int 0, .int 0])), (ns, .inl (kL, 1024, .inr (.inl zSec))), (nf, .inl (kL, 1024, .inr (.inl zFir))), (aroom, .inr (9, [.ref asort, .ref anod, .ref atold, .int 3, .ref aheld, .int 0, .ref apair, .ref astep, .int 0, .int 0, .int (-1), .int 0, .int 0, .ref asize])), (atold, .inl (kI, 60, .inl zTold))] := hD
  have hK : va_K (dC, dI) vwCl [(kI, .int), (kL, .long), (kI, .int)] s := hK
  have hw_2 : r_1 = 1 := hw_2
  have hw_2 := hw_2.symm
  subst hw_2
  refine lv_bipush (v := 7) hx hb dX11_needClosed_9 (by decide) ?_
  refine z_i (wr := [(aroom, .inr (9, [.ref asort, .ref anod, .ref atold, .int 3, .ref aheld, .int 0, .ref apair, .ref astep, .int 0, .int 0, .int (-1), .int 0, .int 0, .ref asize])), (atold, .inl (kI, 60, .inl zTold))]) (va_runV (As := [.int 1, .int 7]) (rest := []) ⟨hx, hb, hml, hown, hts⟩ (c_H_has_1 l eD eI ad dC dI H.size hh aexpr achoo ameth aroom anod asort anote amet nm nl n1 n2 nf ns nh nk np kL) (cwV 2 hts g_c_H_closed_1_1 rfl rfl rfl (by decide +kernel) ⟨Nat.le_of_ble_eq_true rfl, Nat.le_of_ble_eq_true rfl⟩) (z_preV (wc := [(hh, .inr (13, [.ref aexpr, .ref achoo, .ref ameth, .ref aroom, .ref anod, .ref asort, .ref anote, .ref amet, .int 0, .int 1])), (anod, .inr (7, [.ref nm, .ref nl, .ref n1, .ref n2, .ref nf, .ref ns, .ref nh, .ref nk, .ref np, .int 16, .int 0, .int 16, .int 0, .int 0])), (ns, .inl (kL, 1024, .inr (.inl zSec))), (nf, .inl (kL, 1024, .inr (.inl zFir)))]) hP hD hK hS hA hE [0, 1, 2, 3] [1] rfl (by decide) rfl (ci := 13) (q0 := 0) rfl rfl) rfl rfl hl.1 rfl (lv_room (Nat.le_of_ble_eq_true rfl)) dX11_needClosed_11 ⟨Nat.le_of_ble_eq_true rfl, Nat.le_of_ble_eq_true rfl⟩) hP hD hK hS hA [0, 1, 2, 3] [4, 5] rfl rfl (by decide) (by decide) (fun r_3 u H locs hw_4 hP hD hK hS => ?_)
  obtain ⟨⟩ := u
  have hP : va_P (dC, dI) vwCl [(aroom, .inr (9, [.ref asort, .ref anod, .ref atold, .int 3, .ref aheld, .int 0, .ref apair, .ref astep, .int 0, .int 0, .int (-1), .int 0, .int 0, .ref asize])), (atold, .inl (kI, 60, .inl zTold)), (hh, .inr (13, [.ref aexpr, .ref achoo, .ref ameth, .ref aroom, .ref anod, .ref asort, .ref anote, .ref amet, .int 0, .int 1])), (anod, .inr (7, [.ref nm, .ref nl, .ref n1, .ref n2, .ref nf, .ref ns, .ref nh, .ref nk, .ref np, .int 16, .int 0, .int 16, .int 0, .int 0])), (ns, .inl (kL, 1024, .inr (.inl zSec))), (nf, .inl (kL, 1024, .inr (.inl zFir)))] H := hP
  have hD : va_D A [(aroom, .inr (9, [.ref asort, .ref anod, .ref atold, .int 3, .ref aheld, .int 0, .ref apair, .ref astep, .int 0, .int 0, .int (-1), .int 0, .int 0, .ref asize])), (atold, .inl (kI, 60, .inl zTold)), (hh, .inr (13, [.ref aexpr, .ref achoo, .ref ameth, .ref aroom, .ref anod, .ref asort, .ref anote, .ref amet, .int 0, .int 1])), (anod, .inr (7, [.ref nm, .ref nl, .ref n1, .ref n2, .ref nf, .ref ns, .ref nh, .ref nk, .ref np, .int 16, .int 0, .int 16, .int 0, .int 0])), (ns, .inl (kL, 1024, .inr (.inl zSec))), (nf, .inl (kL, 1024, .inr (.inl zFir)))] := hD
  have hK : va_K (dC, dI) vwCl [(kI, .int), (kL, .long), (kI, .int), (kL, .long)] s := hK
  have hw_4 : r_3 = 0 := hw_4
  have hw_4 := hw_4.symm
  subst hw_4
  refine lv_if_eq (tgt := 28) hx hb dX11_needClosed_14 (by decide) (fun c_5 => ?_) (fun c_5 => ?_)
  rotate_left
  · exact absurd (by decide) c_5
  have hP9 := hP.sub (ws' := [(hh, .inr (13, [.ref aexpr, .ref achoo, .ref ameth, .ref aroom, .ref anod, .ref asort, .ref anote, .ref amet, .int 0, .int 1])), (aroom, .inr (9, [.ref asort, .ref anod, .ref atold, .int 3, .ref aheld, .int 0, .ref apair, .ref astep, .int 0, .int 0, .int (-1), .int 0, .int 0, .ref asize])), (atold, .inl (kI, 60, .inl zTold)), (anod, .inr (7, [.ref nm, .ref nl, .ref n1, .ref n2, .ref nf, .ref ns, .ref nh, .ref nk, .ref np, .int 16, .int 0, .int 16, .int 0, .int 0])), (ns, .inl (kL, 1024, .inr (.inl zSec))), (nf, .inl (kL, 1024, .inr (.inl zFir)))]) [2, 0, 1, 3, 4, 5] rfl
  have hD9 := hD.sub (ws' := [(hh, .inr (13, [.ref aexpr, .ref achoo, .ref ameth, .ref aroom, .ref anod, .ref asort, .ref anote, .ref amet, .int 0, .int 1])), (aroom, .inr (9, [.ref asort, .ref anod, .ref atold, .int 3, .ref aheld, .int 0, .ref apair, .ref astep, .int 0, .int 0, .int (-1), .int 0, .int 0, .ref asize])), (atold, .inl (kI, 60, .inl zTold)), (anod, .inr (7, [.ref nm, .ref nl, .ref n1, .ref n2, .ref nf, .ref ns, .ref nh, .ref nk, .ref np, .int 16, .int 0, .int 16, .int 0, .int 0])), (ns, .inl (kL, 1024, .inr (.inl zSec))), (nf, .inl (kL, 1024, .inr (.inl zFir)))]) [2, 0, 1, 3, 4, 5] (by decide) rfl
  have hK9 := hK.sub (tys' := [(kI, .int), (kL, .long)]) [0, 1] rfl
  refine W.widen (k := 0) (n := 0) (Nat.le_of_ble_eq_true rfl) (Nat.le_of_ble_eq_true rfl) ?_
  exact W.vret hx hb hr (fun t ht hW => ⟨⟨(), rfl, trivial, ⟨by rw [ht]; exact hP9, va_K.moved hW.alike hK9, hD9⟩⟩, hS.F ht⟩) hS.2.2 dX11_needClosed_28

def wb_c_H_closed_2 : List Cond := [.fieldLink RX11 31 "Hornbook" "room" "LHornbook$Room;", .code yX7_toldAt cX7_toldAt 2 (some .int), .fieldLink RX7 29 "Hornbook$Room" "tellings" "I", .fieldLink RX7 25 "Hornbook$Room" "told" "[I", .methodLink RX11 123 yX7_toldAt, .instanceMethod yX7_toldAt, .selects RX7 yX7_toldAt yX7_toldAt, .initialized RX7, .code yX11_has cX11_has 3 (some .boolean), .fieldLink RX11 38 "Hornbook" "nodes" "LHornbook$Nodes;", .code yX5_openOf cX5_openOf 2 (some .int), .fieldLink RX5 28 "Hornbook$Nodes" "second" "[J", .fieldLink RX5 24 "Hornbook$Nodes" "first" "[J", .methodLink RX11 367 yX5_openOf, .instanceMethod yX5_openOf, .selects RX5 yX5_openOf yX5_openOf, .initialized RX5, .methodLink RX11 138 yX11_has, .instanceMethod yX11_has, .selects RX11 yX11_has yX11_has, .initialized RX11, .classLink RX11 66 "java/lang/IllegalArgumentException", .initialized "java/lang/IllegalArgumentException"] ++ u_ws RX11 TX11 10 ++ u_ws RX5 TX5 14 ++ u_ws RX7 TX7 14
def w_c_H_closed_2 : List Cond := .code yX11_needClosed cX11_needClosed 2 none :: (wb_c_H_closed_2 ++ zAt)
set_option maxRecDepth 100000 in
theorem g_c_H_closed_2_0 : GoodIn w_c_H_closed_2 (wsV RX11 123 RX7 yX7_toldAt w_c_R_told_2) := goodIn_app (goodIn_of _ (by decide +kernel)) (goodIn_p (big := w_c_H_closed_2) (.code yX7_toldAt cX7_toldAt 2 (some .int) :: wb_c_R_told_2) [2] rfl (by decide +kernel))
set_option maxRecDepth 100000 in
theorem g_c_H_closed_2_1 : GoodIn w_c_H_closed_2 (wsV RX11 138 RX11 yX11_has w_c_H_has_2) := goodIn_app (goodIn_of _ (by decide +kernel)) (goodIn_p (big := w_c_H_closed_2) (.code yX11_has cX11_has 3 (some .boolean) :: wb_c_H_has_2) [9, 11] rfl (by decide +kernel))
set_option maxHeartbeats 4000000 in
set_option maxRecDepth 100000 in
theorem c_H_closed_2 (l : Launch) (hfl : l.flags = flags0) (eD eI : Nat) (ad : Nat → Nat) (dC : Nat → ClassId) (dI : Nat → Nat → Nat) (sz : Nat) (hh : Nat) (aexpr : Nat) (achoo : Nat) (ameth : Nat) (aroom : Nat) (anod : Nat) (asort : Nat) (anote : Nat) (amet : Nat) (atold : Nat) (aheld : Nat) (apair : Nat) (astep : Nat) (asize : Nat) (nm : Nat) (nl : Nat) (n1 : Nat) (n2 : Nat) (nf : Nat) (ns : Nat) (nh : Nat) (nk : Nat) (np : Nat) (kI : ClassId) (kL : ClassId) : vx_Met l yX11_needClosed w_c_H_closed_2 ({ frames := 6, cells := 1, slots := 6, locals := 82 }) (va_Pc [.ref hh, .int 2] (zPreD eD eI ad (dC, dI) [(hh, .inr (13, [.ref aexpr, .ref achoo, .ref ameth, .ref aroom, .ref anod, .ref asort, .ref anote, .ref amet, .int 0, .int 1])), (aroom, .inr (9, [.ref asort, .ref anod, .ref atold, .int 3, .ref aheld, .int 0, .ref apair, .ref astep, .int 0, .int 0, .int (-1), .int 0, .int 0, .ref asize])), (atold, .inl (kI, 60, .inl zTold)), (anod, .inr (7, [.ref nm, .ref nl, .ref n1, .ref n2, .ref nf, .ref ns, .ref nh, .ref nk, .ref np, .int 16, .int 0, .int 16, .int 0, .int 0])), (ns, .inl (kL, 1024, .inr (.inl zSec))), (nf, .inl (kL, 1024, .inr (.inl zFir)))] [(kI, .int), (kL, .long)] sz)) (va_Qv (fun (_ : Unit) => False) (fun (_ : Unit) => zEnd (dC, dI) (va_A [(hh, .inr (13, [.ref aexpr, .ref achoo, .ref ameth, .ref aroom, .ref anod, .ref asort, .ref anote, .ref amet, .int 0, .int 1])), (aroom, .inr (9, [.ref asort, .ref anod, .ref atold, .int 3, .ref aheld, .int 0, .ref apair, .ref astep, .int 0, .int 0, .int (-1), .int 0, .int 0, .ref asize])), (atold, .inl (kI, 60, .inl zTold)), (anod, .inr (7, [.ref nm, .ref nl, .ref n1, .ref n2, .ref nf, .ref ns, .ref nh, .ref nk, .ref np, .int 16, .int 0, .int 16, .int 0, .int 0])), (ns, .inl (kL, 1024, .inr (.inl zSec))), (nf, .inl (kL, 1024, .inr (.inl zFir)))] sz) [(hh, .inr (13, [.ref aexpr, .ref achoo, .ref ameth, .ref aroom, .ref anod, .ref asort, .ref anote, .ref amet, .int 0, .int 1])), (aroom, .inr (9, [.ref asort, .ref anod, .ref atold, .int 3, .ref aheld, .int 0, .ref apair, .ref astep, .int 0, .int 0, .int (-1), .int 0, .int 0, .ref asize])), (atold, .inl (kI, 60, .inl zTold)), (anod, .inr (7, [.ref nm, .ref nl, .ref n1, .ref n2, .ref nf, .ref ns, .ref nh, .ref nk, .ref np, .int 16, .int 0, .int 16, .int 0, .int 0])), (ns, .inl (kL, 1024, .inr (.inl zSec))), (nf, .inl (kL, 1024, .inr (.inl zFir)))] [(kI, .int), (kL, .long)]) (va_A [(hh, .inr (13, [.ref aexpr, .ref achoo, .ref ameth, .ref aroom, .ref anod, .ref asort, .ref anote, .ref amet, .int 0, .int 1])), (aroom, .inr (9, [.ref asort, .ref anod, .ref atold, .int 3, .ref aheld, .int 0, .ref apair, .ref astep, .int 0, .int 0, .int (-1), .int 0, .int 0, .ref asize])), (atold, .inl (kI, 60, .inl zTold)), (anod, .inr (7, [.ref nm, .ref nl, .ref n1, .ref n2, .ref nf, .ref ns, .ref nh, .ref nk, .ref np, .int 16, .int 0, .int 16, .int 0, .int 0])), (ns, .inl (kL, 1024, .inr (.inl zSec))), (nf, .inl (kL, 1024, .inr (.inl zFir)))] sz)) (zX (fun E => E = "java/lang/IllegalArgumentException") (va_A [(hh, .inr (13, [.ref aexpr, .ref achoo, .ref ameth, .ref aroom, .ref anod, .ref asort, .ref anote, .ref amet, .int 0, .int 1])), (aroom, .inr (9, [.ref asort, .ref anod, .ref atold, .int 3, .ref aheld, .int 0, .ref apair, .ref astep, .int 0, .int 0, .int (-1), .int 0, .int 0, .ref asize])), (atold, .inl (kI, 60, .inl zTold)), (anod, .inr (7, [.ref nm, .ref nl, .ref n1, .ref n2, .ref nf, .ref ns, .ref nh, .ref nk, .ref np, .int 16, .int 0, .int 16, .int 0, .int 0])), (ns, .inl (kL, 1024, .inr (.inl zSec))), (nf, .inl (kL, 1024, .inr (.inl zFir)))] sz)) 1 6 (va_A [(hh, .inr (13, [.ref aexpr, .ref achoo, .ref ameth, .ref aroom, .ref anod, .ref asort, .ref anote, .ref amet, .int 0, .int 1])), (aroom, .inr (9, [.ref asort, .ref anod, .ref atold, .int 3, .ref aheld, .int 0, .ref apair, .ref astep, .int 0, .int 0, .int (-1), .int 0, .int 0, .ref asize])), (atold, .inl (kI, 60, .inl zTold)), (anod, .inr (7, [.ref nm, .ref nl, .ref n1, .ref n2, .ref nf, .ref ns, .ref nh, .ref nk, .ref np, .int 16, .int 0, .int 16, .int 0, .int 0])), (ns, .inl (kL, 1024, .inr (.inl zSec))), (nf, .inl (kL, 1024, .inr (.inl zFir)))] sz) := by
  refine vx_ofW (cc := cX11_needClosed) (maxL := 2) (ret := none) (by decide +kernel) rfl ?_
  intro p e s m args below meth c s₁ B hml htab hv
  obtain ⟨rfl, ⟨hsz, hP, hK, hD0, hE⟩, hDc⟩ := hv
  have hx := B.exec
  have hb := B.bytes
  have hr := B.returns
  have hts := atoms_spec (ws := w_c_H_closed_2) B.pre
  have hown : s.vm.findClass RX11 = some m.cls := findClass_of_methodNamed B.named
  have hlocks := B.notSynchronized
  subst hsz
  have hD := hD0.self (sz := s.heap.size)
  generalize hAe : va_A [(hh, .inr (13, [.ref aexpr, .ref achoo, .ref ameth, .ref aroom, .ref anod, .ref asort, .ref anote, .ref amet, .int 0, .int 1])), (aroom, .inr (9, [.ref asort, .ref anod, .ref atold, .int 3, .ref aheld, .int 0, .ref apair, .ref astep, .int 0, .int 0, .int (-1), .int 0, .int 0, .ref asize])), (atold, .inl (kI, 60, .inl zTold)), (anod, .inr (7, [.ref nm, .ref nl, .ref n1, .ref n2, .ref nf, .ref ns, .ref nh, .ref nk, .ref np, .int 16, .int 0, .int 16, .int 0, .int 0])), (ns, .inl (kL, 1024, .inr (.inl zSec))), (nf, .inl (kL, 1024, .inr (.inl zFir)))] s.heap.size = A at hD hE ⊢
  have hA : ∀ q : Nat, s.heap.size ≤ q → A q := fun q h => by rw [← hAe]; exact Or.inr h
  have hS : va_S A s.heap s.heap [] := va_S.rf
  have hP : va_P (dC, dI) vwCl [(hh, .inr (13, [.ref aexpr, .ref achoo, .ref ameth, .ref aroom, .ref anod, .ref asort, .ref anote, .ref amet, .int 0, .int 1])), (aroom, .inr (9, [.ref asort, .ref anod, .ref atold, .int 3, .ref aheld, .int 0, .ref apair, .ref astep, .int 0, .int 0, .int (-1), .int 0, .int 0, .ref asize])), (atold, .inl (kI, 60, .inl zTold)), (anod, .inr (7, [.ref nm, .ref nl, .ref n1, .ref n2, .ref nf, .ref ns, .ref nh, .ref nk, .ref np, .int 16, .int 0, .int 16, .int 0, .int 0])), (ns, .inl (kL, 1024, .inr (.inl zSec))), (nf, .inl (kL, 1024, .inr (.inl zFir)))] s.heap := hP
  have hl := lv_entry ([.ref hh, .int 2]) (n := 2) (Nat.le_of_ble_eq_true rfl)
  rw [lg_entry_eq]
  generalize (lg_sl ([.ref hh, .int 2]) ++ List.replicate (2 - (lg_sl ([.ref hh, .int 2])).length) Slot.unset).toArray = ls at hl ⊢
  have hl : lv_has ls 2 [(0, .ref hh), (1, .int 2)] := hl
  have in_RX11 : ∀ w ∈ u_ws RX11 TX11 10, w ∈ w_c_H_closed_2 := by decide +kernel
  have in_RX5 : ∀ w ∈ u_ws RX5 TX5 14, w ∈ w_c_H_closed_2 := by decide +kernel
  have in_RX7 : ∀ w ∈ u_ws RX7 TX7 14, w ∈ w_c_H_closed_2 := by decide +kernel
  refine lv_aload_n hx hb dX11_needClosed_0 rfl (lv_at hl 0 rfl) ?_
  refine lv_aload_n hx hb dX11_needClosed_1 rfl (lv_at hl 0 rfl) ?_
  refine va_get (D := (dC, dI)) (ci := 13) (v := .ref aroom) (C := RX11) (T := TX11) (N := 10) hx hb hts in_RX11 hown hK hP 0 rfl rfl 3 (by decide) (hts (.fieldLink RX11 31 "Hornbook" "room" "LHornbook$Room;") (by decide +kernel)) (fun _ h9 => h9) rfl dX11_needClosed_2 ?_
  refine lv_iload_n hx hb dX11_needClosed_5 rfl (lv_at hl 1 rfl) ?_
  refine z_i (wr := [(hh, .inr (13, [.ref aexpr, .ref achoo, .ref ameth, .ref aroom, .ref anod, .ref asort, .ref anote, .ref amet, .int 0, .int 1])), (anod, .inr (7, [.ref nm, .ref nl, .ref n1, .ref n2, .ref nf, .ref ns, .ref nh, .ref nk, .ref np, .int 16, .int 0, .int 16, .int 0, .int 0])), (ns, .inl (kL, 1024, .inr (.inl zSec))), (nf, .inl (kL, 1024, .inr (.inl zFir)))]) (va_runV (As := [.int 2]) (rest := [.ref hh]) ⟨hx, hb, hml, hown, hts⟩ (c_R_told_2 l eD eI ad dC dI s.heap.size aroom anod asort atold aheld apair astep asize kI) (cwV 1 hts g_c_H_closed_2_0 rfl rfl rfl (by decide +kernel) ⟨Nat.le_of_ble_eq_true rfl, Nat.le_of_ble_eq_true rfl⟩) (z_preV (wc := [(aroom, .inr (9, [.ref asort, .ref anod, .ref atold, .int 3, .ref aheld, .int 0, .ref apair, .ref astep, .int 0, .int 0, .int (-1), .int 0, .int 0, .ref asize])), (atold, .inl (kI, 60, .inl zTold))]) hP hD hK hS hA hE [1, 2] [0] rfl (by decide) rfl (ci := 9) (q0 := 0) rfl rfl) rfl rfl hl.1 rfl (lv_room (Nat.le_of_ble_eq_true rfl)) dX11_needClosed_6 ⟨Nat.le_of_ble_eq_true rfl, Nat.le_of_ble_eq_true rfl⟩) hP hD hK hS hA [1, 2] [0, 3, 4, 5] rfl rfl (by decide) (by decide) (fun r_1 u H locs hw_2 hP hD hK hS => ?_)
  obtain ⟨⟩ := u
  have hP : va_P (dC, dI) vwCl [(hh, .inr (13, [.ref aexpr, .ref achoo, .ref ameth, .ref aroom, .ref anod, .ref asort, .ref anote, .ref amet, .int 0, .int 1])), (anod, .inr (7, [.ref nm, .ref nl, .ref n1, .ref n2, .ref nf, .ref ns, .ref nh, .ref nk, .ref np, .int 16, .int 0, .int 16, .int 0, .int 0])), (ns, .inl (kL, 1024, .inr (.inl zSec))), (nf, .inl (kL, 1024, .inr (.inl zFir))), (aroom, .inr (9, [.ref asort, .ref anod, .ref atold, .int 3, .ref aheld, .int 0, .ref apair, .ref astep, .int 0, .int 0, .int (-1), .int 0, .int 0, .ref asize])), (atold, .inl (kI, 60, .inl zTold))] H := hP
  have hD : va_D A [(hh, .inr (13, [.ref aexpr, .ref achoo, .ref ameth, .ref aroom, .ref anod, .ref asort, .ref anote, .ref amet, .int 0, .int 1])), (anod, .inr (7, [.ref nm, .ref nl, .ref n1, .ref n2, .ref nf, .ref ns, .ref nh, .ref nk, .ref np, .int 16, .int 0, .int 16, .int 0, .int 0])), (ns, .inl (kL, 1024, .inr (.inl zSec))), (nf, .inl (kL, 1024, .inr (.inl zFir))), (aroom, .inr (9, [.ref asort, .ref anod, .ref atold, .int 3, .ref aheld, .int 0, .ref apair, .ref astep, .int 0, .int 0, .int (-1), .int 0, .int 0, .ref asize])), (atold, .inl (kI, 60, .inl zTold))] := hD
  have hK : va_K (dC, dI) vwCl [(kI, .int), (kL, .long), (kI, .int)] s := hK
  have hw_2 : r_1 = 2 := hw_2
  have hw_2 := hw_2.symm
  subst hw_2
  refine lv_bipush (v := 7) hx hb dX11_needClosed_9 (by decide) ?_
  refine z_i (wr := [(aroom, .inr (9, [.ref asort, .ref anod, .ref atold, .int 3, .ref aheld, .int 0, .ref apair, .ref astep, .int 0, .int 0, .int (-1), .int 0, .int 0, .ref asize])), (atold, .inl (kI, 60, .inl zTold))]) (va_runV (As := [.int 2, .int 7]) (rest := []) ⟨hx, hb, hml, hown, hts⟩ (c_H_has_2 l eD eI ad dC dI H.size hh aexpr achoo ameth aroom anod asort anote amet nm nl n1 n2 nf ns nh nk np kL) (cwV 2 hts g_c_H_closed_2_1 rfl rfl rfl (by decide +kernel) ⟨Nat.le_of_ble_eq_true rfl, Nat.le_of_ble_eq_true rfl⟩) (z_preV (wc := [(hh, .inr (13, [.ref aexpr, .ref achoo, .ref ameth, .ref aroom, .ref anod, .ref asort, .ref anote, .ref amet, .int 0, .int 1])), (anod, .inr (7, [.ref nm, .ref nl, .ref n1, .ref n2, .ref nf, .ref ns, .ref nh, .ref nk, .ref np, .int 16, .int 0, .int 16, .int 0, .int 0])), (ns, .inl (kL, 1024, .inr (.inl zSec))), (nf, .inl (kL, 1024, .inr (.inl zFir)))]) hP hD hK hS hA hE [0, 1, 2, 3] [1] rfl (by decide) rfl (ci := 13) (q0 := 0) rfl rfl) rfl rfl hl.1 rfl (lv_room (Nat.le_of_ble_eq_true rfl)) dX11_needClosed_11 ⟨Nat.le_of_ble_eq_true rfl, Nat.le_of_ble_eq_true rfl⟩) hP hD hK hS hA [0, 1, 2, 3] [4, 5] rfl rfl (by decide) (by decide) (fun r_3 u H locs hw_4 hP hD hK hS => ?_)
  obtain ⟨⟩ := u
  have hP : va_P (dC, dI) vwCl [(aroom, .inr (9, [.ref asort, .ref anod, .ref atold, .int 3, .ref aheld, .int 0, .ref apair, .ref astep, .int 0, .int 0, .int (-1), .int 0, .int 0, .ref asize])), (atold, .inl (kI, 60, .inl zTold)), (hh, .inr (13, [.ref aexpr, .ref achoo, .ref ameth, .ref aroom, .ref anod, .ref asort, .ref anote, .ref amet, .int 0, .int 1])), (anod, .inr (7, [.ref nm, .ref nl, .ref n1, .ref n2, .ref nf, .ref ns, .ref nh, .ref nk, .ref np, .int 16, .int 0, .int 16, .int 0, .int 0])), (ns, .inl (kL, 1024, .inr (.inl zSec))), (nf, .inl (kL, 1024, .inr (.inl zFir)))] H := hP
  have hD : va_D A [(aroom, .inr (9, [.ref asort, .ref anod, .ref atold, .int 3, .ref aheld, .int 0, .ref apair, .ref astep, .int 0, .int 0, .int (-1), .int 0, .int 0, .ref asize])), (atold, .inl (kI, 60, .inl zTold)), (hh, .inr (13, [.ref aexpr, .ref achoo, .ref ameth, .ref aroom, .ref anod, .ref asort, .ref anote, .ref amet, .int 0, .int 1])), (anod, .inr (7, [.ref nm, .ref nl, .ref n1, .ref n2, .ref nf, .ref ns, .ref nh, .ref nk, .ref np, .int 16, .int 0, .int 16, .int 0, .int 0])), (ns, .inl (kL, 1024, .inr (.inl zSec))), (nf, .inl (kL, 1024, .inr (.inl zFir)))] := hD
  have hK : va_K (dC, dI) vwCl [(kI, .int), (kL, .long), (kI, .int), (kL, .long)] s := hK
  have hw_4 : r_3 = 1 := hw_4
  have hw_4 := hw_4.symm
  subst hw_4
  refine lv_if_eq (tgt := 28) hx hb dX11_needClosed_14 (by decide) (fun c_5 => ?_) (fun c_5 => ?_)
  · exact absurd c_5 (by decide)
  obtain ⟨sa, hsa⟩ := hE.2.2.2.1 ("Hornbook", 357, "not CLOSED") (by decide +kernel)
  have hsa : vk_R RX11 357 "not CLOSED" sa s := hsa
  exact vx_throwSW (A := A) (cls := "java/lang/IllegalArgumentException") (text := "not CLOSED") (names := ["java/lang/RuntimeException", "java/lang/Exception"]) hx hb (z_traces hfl) hown (by decide +kernel) (by decide +kernel) (hts (.classLink RX11 66 "java/lang/IllegalArgumentException") (by decide +kernel)) (hts (.initialized "java/lang/IllegalArgumentException") (by decide +kernel)) hsa (vx_hat (B := Cond.castable "java/lang/IllegalArgumentException" "java/lang/IllegalArgumentException" :: zDecs) (fun w h => hts w (List.mem_cons_of_mem _ (List.mem_append_right _ (zAt_70 w h)))) (by decide +kernel) (vx_c (va_Nw.use rfl (hE.2.2.2.2.2.2.2.1 ("java/lang/IllegalArgumentException", "java/lang/IllegalArgumentException") (by decide +kernel))) hDc.use)) (by decide +kernel) hE.1 hE.2.1 hS (by rw [hml]; exact hl.1) dX11_needClosed_17 dX11_needClosed_20 dX11_needClosed_21 dX11_needClosed_24 dX11_needClosed_27 (fun x h => (htab x h).elim) (Nat.le_of_ble_eq_true rfl) (Nat.le_of_ble_eq_true rfl) (Nat.le_of_ble_eq_true rfl) (Nat.le_of_ble_eq_true rfl) hlocks (fun t hW h1 h2 => ⟨(), trivial, rfl, z_F hS h1 h2⟩) hS.2.2 (Nat.le_of_ble_eq_true rfl) (Nat.le_of_ble_eq_true rfl)

def wb_c_H_space : List Cond := [.fieldLink RX11 31 "Hornbook" "room" "LHornbook$Room;", .fieldLink RX11 344 "Hornbook$Room" "tellings" "I"] ++ u_ws RX11 TX11 10 ++ u_ws RX7 TX7 14
def w_c_H_space : List Cond := .code yX11_needSpaceForType cX11_needSpaceForType 1 none :: wb_c_H_space
set_option maxHeartbeats 4000000 in
set_option maxRecDepth 100000 in
theorem c_H_space (l : Launch) (eD eI : Nat) (ad : Nat → Nat) (dC : Nat → ClassId) (dI : Nat → Nat → Nat) (sz : Nat) (hh : Nat) (aexpr : Nat) (achoo : Nat) (ameth : Nat) (aroom : Nat) (anod : Nat) (asort : Nat) (anote : Nat) (amet : Nat) (atold : Nat) (aheld : Nat) (apair : Nat) (astep : Nat) (asize : Nat) : Met l yX11_needSpaceForType w_c_H_space ({ frames := 0, cells := 0, slots := 0, locals := 0 }) (va_Pc [.ref hh] (zPre eD eI ad (dC, dI) [(hh, .inr (13, [.ref aexpr, .ref achoo, .ref ameth, .ref aroom, .ref anod, .ref asort, .ref anote, .ref amet, .int 0, .int 1])), (aroom, .inr (9, [.ref asort, .ref anod, .ref atold, .int 3, .ref aheld, .int 0, .ref apair, .ref astep, .int 0, .int 0, .int (-1), .int 0, .int 0, .ref asize]))] [] sz)) (va_Qv (fun (_ : Unit) => True) (fun (_ : Unit) => zEnd (dC, dI) (va_A [(hh, .inr (13, [.ref aexpr, .ref achoo, .ref ameth, .ref aroom, .ref anod, .ref asort, .ref anote, .ref amet, .int 0, .int 1])), (aroom, .inr (9, [.ref asort, .ref anod, .ref atold, .int 3, .ref aheld, .int 0, .ref apair, .ref astep, .int 0, .int 0, .int (-1), .int 0, .int 0, .ref asize]))] sz) [(hh, .inr (13, [.ref aexpr, .ref achoo, .ref ameth, .ref aroom, .ref anod, .ref asort, .ref anote, .ref amet, .int 0, .int 1])), (aroom, .inr (9, [.ref asort, .ref anod, .ref atold, .int 3, .ref aheld, .int 0, .ref apair, .ref astep, .int 0, .int 0, .int (-1), .int 0, .int 0, .ref asize]))] []) (va_A [(hh, .inr (13, [.ref aexpr, .ref achoo, .ref ameth, .ref aroom, .ref anod, .ref asort, .ref anote, .ref amet, .int 0, .int 1])), (aroom, .inr (9, [.ref asort, .ref anod, .ref atold, .int 3, .ref aheld, .int 0, .ref apair, .ref astep, .int 0, .int 0, .int (-1), .int 0, .int 0, .ref asize]))] sz)) 0 0 (va_A [(hh, .inr (13, [.ref aexpr, .ref achoo, .ref ameth, .ref aroom, .ref anod, .ref asort, .ref anote, .ref amet, .int 0, .int 1])), (aroom, .inr (9, [.ref asort, .ref anod, .ref atold, .int 3, .ref aheld, .int 0, .ref apair, .ref astep, .int 0, .int 0, .int (-1), .int 0, .int 0, .ref asize]))] sz) := by
  refine Met.ofW (cc := cX11_needSpaceForType) (maxL := 1) (ret := none) (by decide) rfl ?_
  intro p e s m args below meth c s₁ B hml hv
  obtain ⟨rfl, hsz, hP, hK, hD0, hE⟩ := hv
  have hx := B.exec
  have hb := B.bytes
  have hr := B.returns
  have hts := atoms_spec (ws := w_c_H_space) B.pre
  have hown : s.vm.findClass RX11 = some m.cls := findClass_of_methodNamed B.named
  have hlocks := B.notSynchronized
  subst hsz
  have hD := hD0.self (sz := s.heap.size)
  generalize hAe : va_A [(hh, .inr (13, [.ref aexpr, .ref achoo, .ref ameth, .ref aroom, .ref anod, .ref asort, .ref anote, .ref amet, .int 0, .int 1])), (aroom, .inr (9, [.ref asort, .ref anod, .ref atold, .int 3, .ref aheld, .int 0, .ref apair, .ref astep, .int 0, .int 0, .int (-1), .int 0, .int 0, .ref asize]))] s.heap.size = A at hD hE ⊢
  have hA : ∀ q : Nat, s.heap.size ≤ q → A q := fun q h => by rw [← hAe]; exact Or.inr h
  have hS : va_S A s.heap s.heap [] := va_S.rf
  have hP : va_P (dC, dI) vwCl [(hh, .inr (13, [.ref aexpr, .ref achoo, .ref ameth, .ref aroom, .ref anod, .ref asort, .ref anote, .ref amet, .int 0, .int 1])), (aroom, .inr (9, [.ref asort, .ref anod, .ref atold, .int 3, .ref aheld, .int 0, .ref apair, .ref astep, .int 0, .int 0, .int (-1), .int 0, .int 0, .ref asize]))] s.heap := hP
  have hl := lv_entry ([.ref hh]) (n := 1) (Nat.le_of_ble_eq_true rfl)
  rw [lg_entry_eq]
  generalize (lg_sl ([.ref hh]) ++ List.replicate (1 - (lg_sl ([.ref hh])).length) Slot.unset).toArray = ls at hl ⊢
  have hl : lv_has ls 1 [(0, .ref hh)] := hl
  have in_RX11 : ∀ w ∈ u_ws RX11 TX11 10, w ∈ w_c_H_space := by decide +kernel
  have in_RX7 : ∀ w ∈ u_ws RX7 TX7 14, w ∈ w_c_H_space := by decide +kernel
  refine lv_aload_n hx hb dX11_needSpaceForType_0 rfl (lv_at hl 0 rfl) ?_
  refine va_get (D := (dC, dI)) (ci := 13) (v := .ref aroom) (C := RX11) (T := TX11) (N := 10) hx hb hts in_RX11 hown hK hP 0 rfl rfl 3 (by decide) (hts (.fieldLink RX11 31 "Hornbook" "room" "LHornbook$Room;") (by decide +kernel)) (fun _ h9 => h9) rfl dX11_needSpaceForType_1 ?_
  refine va_get (D := (dC, dI)) (ci := 9) (v := .int 3) (C := RX7) (T := TX7) (N := 14) hx hb hts in_RX7 hown hK hP 1 rfl rfl 3 (by decide) (hts (.fieldLink RX11 344 "Hornbook$Room" "tellings" "I") (by decide +kernel)) (fun _ h9 => h9) rfl dX11_needSpaceForType_4 ?_
  refine lv_bipush (v := 60) hx hb dX11_needSpaceForType_7 (by decide) ?_
  refine lv_icmp_lt (tgt := 23) hx hb dX11_needSpaceForType_9 (by decide) (fun c_1 => ?_) (fun c_1 => ?_)
  rotate_left
  · exact absurd (by decide) c_1
  have hP9 := hP.sub (ws' := [(hh, .inr (13, [.ref aexpr, .ref achoo, .ref ameth, .ref aroom, .ref anod, .ref asort, .ref anote, .ref amet, .int 0, .int 1])), (aroom, .inr (9, [.ref asort, .ref anod, .ref atold, .int 3, .ref aheld, .int 0, .ref apair, .ref astep, .int 0, .int 0, .int (-1), .int 0, .int 0, .ref asize]))]) [0, 1] rfl
  have hD9 := hD.sub (ws' := [(hh, .inr (13, [.ref aexpr, .ref achoo, .ref ameth, .ref aroom, .ref anod, .ref asort, .ref anote, .ref amet, .int 0, .int 1])), (aroom, .inr (9, [.ref asort, .ref anod, .ref atold, .int 3, .ref aheld, .int 0, .ref apair, .ref astep, .int 0, .int 0, .int (-1), .int 0, .int 0, .ref asize]))]) [0, 1] (by decide) rfl
  have hK9 := hK.sub (tys' := []) [] rfl
  refine W.widen (k := 0) (n := 0) (Nat.le_of_ble_eq_true rfl) (Nat.le_of_ble_eq_true rfl) ?_
  exact W.vret hx hb hr (fun t ht hW => ⟨⟨(), rfl, trivial, ⟨by rw [ht]; exact hP9, va_K.moved hW.alike hK9, hD9⟩⟩, hS.F ht⟩) hS.2.2 dX11_needSpaceForType_23

def wb_c_H_freshen : List Cond := [.fieldLink RX11 54 "Hornbook" "judged" "I", .fieldLink RX11 12 "Hornbook" "expressions" "Ljava/util/ArrayList;", .code yJx4a65c_size_8abf5 cJx4a65c_size_8abf5 1 (some .int), .fieldLink RJx4a65c 48 "java/util/ArrayList" "size" "I", .methodLink RX11 73 yJx4a65c_size_8abf5, .instanceMethod yJx4a65c_size_8abf5, .selects RJx4a65c yJx4a65c_size_8abf5 yJx4a65c_size_8abf5, .initialized RJx4a65c] ++ u_ws RJx4a65c TJx4a65c 3 ++ u_ws RX11 TX11 10
def w_c_H_freshen : List Cond := .code yX11_freshen cX11_freshen 2 none :: wb_c_H_freshen
set_option maxRecDepth 100000 in
theorem g_c_H_freshen_0 : GoodIn w_c_H_freshen (wsV RX11 73 RJx4a65c yJx4a65c_size_8abf5 w_c_AL_size) := goodIn_app (goodIn_of _ (by decide +kernel)) (goodIn_p (big := w_c_H_freshen) (.code yJx4a65c_size_8abf5 cJx4a65c_size_8abf5 1 (some .int) :: wb_c_AL_size) [3] rfl (by decide +kernel))
set_option maxHeartbeats 4000000 in
set_option maxRecDepth 100000 in
theorem c_H_freshen (l : Launch) (eD eI : Nat) (ad : Nat → Nat) (dC : Nat → ClassId) (dI : Nat → Nat → Nat) (sz : Nat) (hh : Nat) (aexpr : Nat) (achoo : Nat) (ameth : Nat) (aroom : Nat) (anod : Nat) (asort : Nat) (anote : Nat) (amet : Nat) : Met l yX11_freshen w_c_H_freshen ({ frames := 1, cells := 0, slots := 0, locals := 20 }) (va_Pc [.ref hh] (zPre eD eI ad (dC, dI) [(hh, .inr (13, [.ref aexpr, .ref achoo, .ref ameth, .ref aroom, .ref anod, .ref asort, .ref anote, .ref amet, .int 0, .int 1])), (aexpr, .inr (1, [.int 0, .ref eD, .int 0]))] [] sz)) (va_Qv (fun (_ : Unit) => True) (fun (_ : Unit) => zEnd (dC, dI) (va_A [(hh, .inr (13, [.ref aexpr, .ref achoo, .ref ameth, .ref aroom, .ref anod, .ref asort, .ref anote, .ref amet, .int 0, .int 1])), (aexpr, .inr (1, [.int 0, .ref eD, .int 0]))] sz) [(hh, .inr (13, [.ref aexpr, .ref achoo, .ref ameth, .ref aroom, .ref anod, .ref asort, .ref anote, .ref amet, .int 0, .int 1])), (aexpr, .inr (1, [.int 0, .ref eD, .int 0]))] []) (va_A [(hh, .inr (13, [.ref aexpr, .ref achoo, .ref ameth, .ref aroom, .ref anod, .ref asort, .ref anote, .ref amet, .int 0, .int 1])), (aexpr, .inr (1, [.int 0, .ref eD, .int 0]))] sz)) 0 0 (va_A [(hh, .inr (13, [.ref aexpr, .ref achoo, .ref ameth, .ref aroom, .ref anod, .ref asort, .ref anote, .ref amet, .int 0, .int 1])), (aexpr, .inr (1, [.int 0, .ref eD, .int 0]))] sz) := by
  refine Met.ofW (cc := cX11_freshen) (maxL := 2) (ret := none) (by decide) rfl ?_
  intro p e s m args below meth c s₁ B hml hv
  obtain ⟨rfl, hsz, hP, hK, hD0, hE⟩ := hv
  have hx := B.exec
  have hb := B.bytes
  have hr := B.returns
  have hts := atoms_spec (ws := w_c_H_freshen) B.pre
  have hown : s.vm.findClass RX11 = some m.cls := findClass_of_methodNamed B.named
  have hlocks := B.notSynchronized
  subst hsz
  have hD := hD0.self (sz := s.heap.size)
  generalize hAe : va_A [(hh, .inr (13, [.ref aexpr, .ref achoo, .ref ameth, .ref aroom, .ref anod, .ref asort, .ref anote, .ref amet, .int 0, .int 1])), (aexpr, .inr (1, [.int 0, .ref eD, .int 0]))] s.heap.size = A at hD hE ⊢
  have hA : ∀ q : Nat, s.heap.size ≤ q → A q := fun q h => by rw [← hAe]; exact Or.inr h
  have hS : va_S A s.heap s.heap [] := va_S.rf
  have hP : va_P (dC, dI) vwCl [(hh, .inr (13, [.ref aexpr, .ref achoo, .ref ameth, .ref aroom, .ref anod, .ref asort, .ref anote, .ref amet, .int 0, .int 1])), (aexpr, .inr (1, [.int 0, .ref eD, .int 0]))] s.heap := hP
  have hl := lv_entry ([.ref hh]) (n := 2) (Nat.le_of_ble_eq_true rfl)
  rw [lg_entry_eq]
  generalize (lg_sl ([.ref hh]) ++ List.replicate (2 - (lg_sl ([.ref hh])).length) Slot.unset).toArray = ls at hl ⊢
  have hl : lv_has ls 2 [(0, .ref hh)] := hl
  have in_RJx4a65c : ∀ w ∈ u_ws RJx4a65c TJx4a65c 3, w ∈ w_c_H_freshen := by decide +kernel
  have in_RX11 : ∀ w ∈ u_ws RX11 TX11 10, w ∈ w_c_H_freshen := by decide +kernel
  refine lv_aload_n hx hb dX11_freshen_0 rfl (lv_at hl 0 rfl) ?_
  refine va_get (D := (dC, dI)) (ci := 13) (v := .int 0) (C := RX11) (T := TX11) (N := 10) hx hb hts in_RX11 hown hK hP 0 rfl rfl 8 (by decide) (hts (.fieldLink RX11 54 "Hornbook" "judged" "I") (by decide +kernel)) (fun _ h9 => h9) rfl dX11_freshen_1 ?_
  refine lv_aload_n hx hb dX11_freshen_4 rfl (lv_at hl 0 rfl) ?_
  refine va_get (D := (dC, dI)) (ci := 13) (v := .ref aexpr) (C := RX11) (T := TX11) (N := 10) hx hb hts in_RX11 hown hK hP 0 rfl rfl 0 (by decide) (hts (.fieldLink RX11 12 "Hornbook" "expressions" "Ljava/util/ArrayList;") (by decide +kernel)) (fun _ h9 => h9) rfl dX11_freshen_5 ?_
  refine z_i (wr := [(hh, .inr (13, [.ref aexpr, .ref achoo, .ref ameth, .ref aroom, .ref anod, .ref asort, .ref anote, .ref amet, .int 0, .int 1]))]) (va_runV (As := []) (rest := [.int 0]) ⟨hx, hb, hml, hown, hts⟩ (c_AL_size l eD eI ad dC dI s.heap.size aexpr ((.int 0)) ((.ref eD)) 0) (cwV 0 hts g_c_H_freshen_0 rfl rfl rfl (by decide +kernel) ⟨Nat.le_of_ble_eq_true rfl, Nat.le_of_ble_eq_true rfl⟩) (z_preV (wc := [(aexpr, .inr (1, [.int 0, .ref eD, .int 0]))]) hP hD hK hS hA hE [1] [] rfl (by decide) rfl (ci := 1) (q0 := 0) rfl rfl) rfl rfl hl.1 rfl (lv_room (Nat.le_of_ble_eq_true rfl)) dX11_freshen_8 ⟨Nat.le_of_ble_eq_true rfl, Nat.le_of_ble_eq_true rfl⟩) hP hD hK hS hA [1] [0] rfl rfl (by decide) (by decide) (fun r_1 u H locs hw_2 hP hD hK hS => ?_)
  obtain ⟨⟩ := u
  have hP : va_P (dC, dI) vwCl [(hh, .inr (13, [.ref aexpr, .ref achoo, .ref ameth, .ref aroom, .ref anod, .ref asort, .ref anote, .ref amet, .int 0, .int 1])), (aexpr, .inr (1, [.int 0, .ref eD, .int 0]))] H := hP
  have hD : va_D A [(hh, .inr (13, [.ref aexpr, .ref achoo, .ref ameth, .ref aroom, .ref anod, .ref asort, .ref anote, .ref amet, .int 0, .int 1])), (aexpr, .inr (1, [.int 0, .ref eD, .int 0]))] := hD
  have hK : va_K (dC, dI) vwCl [] s := by simpa using hK
  have hw_2 : r_1 = 0 := hw_2
  have hw_2 := hw_2.symm
  subst hw_2
  refine lv_icmp_ge (tgt := 256) hx hb dX11_freshen_11 (by decide) (fun c_3 => ?_) (fun c_3 => ?_)
  rotate_left
  · exact absurd (by decide) c_3
  have hP9 := hP.sub (ws' := [(hh, .inr (13, [.ref aexpr, .ref achoo, .ref ameth, .ref aroom, .ref anod, .ref asort, .ref anote, .ref amet, .int 0, .int 1])), (aexpr, .inr (1, [.int 0, .ref eD, .int 0]))]) [0, 1] rfl
  have hD9 := hD.sub (ws' := [(hh, .inr (13, [.ref aexpr, .ref achoo, .ref ameth, .ref aroom, .ref anod, .ref asort, .ref anote, .ref amet, .int 0, .int 1])), (aexpr, .inr (1, [.int 0, .ref eD, .int 0]))]) [0, 1] (by decide) rfl
  have hK9 := hK.sub (tys' := []) [] rfl
  refine W.widen (k := 0) (n := 0) (Nat.le_of_ble_eq_true rfl) (Nat.le_of_ble_eq_true rfl) ?_
  exact W.vret hx hb hr (fun t ht hW => ⟨⟨(), rfl, trivial, ⟨by rw [ht]; exact hP9, va_K.moved hW.alike hK9, hD9⟩⟩, hS.F ht⟩) hS.2.2 dX11_freshen_256

def wb_c_H_noteFlaws : List Cond := [.fieldLink RX11 58 "Hornbook" "isNoted" "Z"] ++ u_ws RX11 TX11 10
def w_c_H_noteFlaws : List Cond := .code yX11_noteFlaws cX11_noteFlaws 2 none :: wb_c_H_noteFlaws
set_option maxHeartbeats 4000000 in
set_option maxRecDepth 100000 in
theorem c_H_noteFlaws (l : Launch) (eD eI : Nat) (ad : Nat → Nat) (dC : Nat → ClassId) (dI : Nat → Nat → Nat) (sz : Nat) (hh : Nat) (aexpr : Nat) (achoo : Nat) (ameth : Nat) (aroom : Nat) (anod : Nat) (asort : Nat) (anote : Nat) (amet : Nat) : Met l yX11_noteFlaws w_c_H_noteFlaws ({ frames := 0, cells := 0, slots := 0, locals := 0 }) (va_Pc [.ref hh] (zPre eD eI ad (dC, dI) [(hh, .inr (13, [.ref aexpr, .ref achoo, .ref ameth, .ref aroom, .ref anod, .ref asort, .ref anote, .ref amet, .int 0, .int 1]))] [] sz)) (va_Qv (fun (_ : Unit) => True) (fun (_ : Unit) => zEnd (dC, dI) (va_A [(hh, .inr (13, [.ref aexpr, .ref achoo, .ref ameth, .ref aroom, .ref anod, .ref asort, .ref anote, .ref amet, .int 0, .int 1]))] sz) [(hh, .inr (13, [.ref aexpr, .ref achoo, .ref ameth, .ref aroom, .ref anod, .ref asort, .ref anote, .ref amet, .int 0, .int 1]))] []) (va_A [(hh, .inr (13, [.ref aexpr, .ref achoo, .ref ameth, .ref aroom, .ref anod, .ref asort, .ref anote, .ref amet, .int 0, .int 1]))] sz)) 0 0 (va_A [(hh, .inr (13, [.ref aexpr, .ref achoo, .ref ameth, .ref aroom, .ref anod, .ref asort, .ref anote, .ref amet, .int 0, .int 1]))] sz) := by
  refine Met.ofW (cc := cX11_noteFlaws) (maxL := 2) (ret := none) (by decide) rfl ?_
  intro p e s m args below meth c s₁ B hml hv
  obtain ⟨rfl, hsz, hP, hK, hD0, hE⟩ := hv
  have hx := B.exec
  have hb := B.bytes
  have hr := B.returns
  have hts := atoms_spec (ws := w_c_H_noteFlaws) B.pre
  have hown : s.vm.findClass RX11 = some m.cls := findClass_of_methodNamed B.named
  have hlocks := B.notSynchronized
  subst hsz
  have hD := hD0.self (sz := s.heap.size)
  generalize hAe : va_A [(hh, .inr (13, [.ref aexpr, .ref achoo, .ref ameth, .ref aroom, .ref anod, .ref asort, .ref anote, .ref amet, .int 0, .int 1]))] s.heap.size = A at hD hE ⊢
  have hA : ∀ q : Nat, s.heap.size ≤ q → A q := fun q h => by rw [← hAe]; exact Or.inr h
  have hS : va_S A s.heap s.heap [] := va_S.rf
  have hP : va_P (dC, dI) vwCl [(hh, .inr (13, [.ref aexpr, .ref achoo, .ref ameth, .ref aroom, .ref anod, .ref asort, .ref anote, .ref amet, .int 0, .int 1]))] s.heap := hP
  have hl := lv_entry ([.ref hh]) (n := 2) (Nat.le_of_ble_eq_true rfl)
  rw [lg_entry_eq]
  generalize (lg_sl ([.ref hh]) ++ List.replicate (2 - (lg_sl ([.ref hh])).length) Slot.unset).toArray = ls at hl ⊢
  have hl : lv_has ls 2 [(0, .ref hh)] := hl
  have in_RX11 : ∀ w ∈ u_ws RX11 TX11 10, w ∈ w_c_H_noteFlaws := by decide +kernel
  refine lv_aload_n hx hb dX11_noteFlaws_0 rfl (lv_at hl 0 rfl) ?_
  refine va_get (D := (dC, dI)) (ci := 13) (v := .int 1) (C := RX11) (T := TX11) (N := 10) hx hb hts in_RX11 hown hK hP 0 rfl rfl 9 (by decide) (hts (.fieldLink RX11 58 "Hornbook" "isNoted" "Z") (by decide +kernel)) (fun _ h9 => h9) rfl dX11_noteFlaws_1 ?_
  refine lv_if_eq (tgt := 8) hx hb dX11_noteFlaws_4 (by decide) (fun c_1 => ?_) (fun c_1 => ?_)
  · exact absurd c_1 (by decide)
  have hP9 := hP.sub (ws' := [(hh, .inr (13, [.ref aexpr, .ref achoo, .ref ameth, .ref aroom, .ref anod, .ref asort, .ref anote, .ref amet, .int 0, .int 1]))]) [0] rfl
  have hD9 := hD.sub (ws' := [(hh, .inr (13, [.ref aexpr, .ref achoo, .ref ameth, .ref aroom, .ref anod, .ref asort, .ref anote, .ref amet, .int 0, .int 1]))]) [0] (by decide) rfl
  have hK9 := hK.sub (tys' := []) [] rfl
  refine W.widen (k := 0) (n := 0) (Nat.le_of_ble_eq_true rfl) (Nat.le_of_ble_eq_true rfl) ?_
  exact W.vret hx hb hr (fun t ht hW => ⟨⟨(), rfl, trivial, ⟨by rw [ht]; exact hP9, va_K.moved hW.alike hK9, hD9⟩⟩, hS.F ht⟩) hS.2.2 dX11_noteFlaws_7

def wb_c_H_countFaults : List Cond := [.fieldLink RX11 12 "Hornbook" "expressions" "Ljava/util/ArrayList;", .code yJx4a65c_size_8abf5 cJx4a65c_size_8abf5 1 (some .int), .fieldLink RJx4a65c 48 "java/util/ArrayList" "size" "I", .methodLink RX11 73 yJx4a65c_size_8abf5, .instanceMethod yJx4a65c_size_8abf5, .selects RJx4a65c yJx4a65c_size_8abf5 yJx4a65c_size_8abf5, .initialized RJx4a65c] ++ u_ws RJx4a65c TJx4a65c 3 ++ u_ws RX11 TX11 10
def w_c_H_countFaults : List Cond := .code yX11_countFaults cX11_countFaults 3 (some .int) :: wb_c_H_countFaults
set_option maxRecDepth 100000 in
theorem g_c_H_countFaults_0 : GoodIn w_c_H_countFaults (wsV RX11 73 RJx4a65c yJx4a65c_size_8abf5 w_c_AL_size) := goodIn_app (goodIn_of _ (by decide +kernel)) (goodIn_p (big := w_c_H_countFaults) (.code yJx4a65c_size_8abf5 cJx4a65c_size_8abf5 1 (some .int) :: wb_c_AL_size) [2] rfl (by decide +kernel))
set_option maxHeartbeats 4000000 in
set_option maxRecDepth 100000 in
theorem c_H_countFaults (l : Launch) (eD eI : Nat) (ad : Nat → Nat) (dC : Nat → ClassId) (dI : Nat → Nat → Nat) (sz : Nat) (hh : Nat) (aexpr : Nat) (achoo : Nat) (ameth : Nat) (aroom : Nat) (anod : Nat) (asort : Nat) (anote : Nat) (amet : Nat) : Met l yX11_countFaults w_c_H_countFaults ({ frames := 1, cells := 0, slots := 0, locals := 20 }) (va_Pc [.ref hh] (zPre eD eI ad (dC, dI) [(hh, .inr (13, [.ref aexpr, .ref achoo, .ref ameth, .ref aroom, .ref anod, .ref asort, .ref anote, .ref amet, .int 0, .int 1])), (aexpr, .inr (1, [.int 0, .ref eD, .int 0]))] [] sz)) (va_Qi (fun (r : Int32) (_ : Unit) => r = 0) (fun (_ : Unit) => zEnd (dC, dI) (va_A [(hh, .inr (13, [.ref aexpr, .ref achoo, .ref ameth, .ref aroom, .ref anod, .ref asort, .ref anote, .ref amet, .int 0, .int 1])), (aexpr, .inr (1, [.int 0, .ref eD, .int 0]))] sz) [(hh, .inr (13, [.ref aexpr, .ref achoo, .ref ameth, .ref aroom, .ref anod, .ref asort, .ref anote, .ref amet, .int 0, .int 1])), (aexpr, .inr (1, [.int 0, .ref eD, .int 0]))] []) (va_A [(hh, .inr (13, [.ref aexpr, .ref achoo, .ref ameth, .ref aroom, .ref anod, .ref asort, .ref anote, .ref amet, .int 0, .int 1])), (aexpr, .inr (1, [.int 0, .ref eD, .int 0]))] sz)) 0 0 (va_A [(hh, .inr (13, [.ref aexpr, .ref achoo, .ref ameth, .ref aroom, .ref anod, .ref asort, .ref anote, .ref amet, .int 0, .int 1])), (aexpr, .inr (1, [.int 0, .ref eD, .int 0]))] sz) := by
  refine Met.ofW (cc := cX11_countFaults) (maxL := 3) (ret := (some .int)) (by decide) rfl ?_
  intro p e s m args below meth c s₁ B hml hv
  obtain ⟨rfl, hsz, hP, hK, hD0, hE⟩ := hv
  have hx := B.exec
  have hb := B.bytes
  have hr := B.returns
  have hts := atoms_spec (ws := w_c_H_countFaults) B.pre
  have hown : s.vm.findClass RX11 = some m.cls := findClass_of_methodNamed B.named
  have hlocks := B.notSynchronized
  subst hsz
  have hD := hD0.self (sz := s.heap.size)
  generalize hAe : va_A [(hh, .inr (13, [.ref aexpr, .ref achoo, .ref ameth, .ref aroom, .ref anod, .ref asort, .ref anote, .ref amet, .int 0, .int 1])), (aexpr, .inr (1, [.int 0, .ref eD, .int 0]))] s.heap.size = A at hD hE ⊢
  have hA : ∀ q : Nat, s.heap.size ≤ q → A q := fun q h => by rw [← hAe]; exact Or.inr h
  have hS : va_S A s.heap s.heap [] := va_S.rf
  have hP : va_P (dC, dI) vwCl [(hh, .inr (13, [.ref aexpr, .ref achoo, .ref ameth, .ref aroom, .ref anod, .ref asort, .ref anote, .ref amet, .int 0, .int 1])), (aexpr, .inr (1, [.int 0, .ref eD, .int 0]))] s.heap := hP
  have hl := lv_entry ([.ref hh]) (n := 3) (Nat.le_of_ble_eq_true rfl)
  rw [lg_entry_eq]
  generalize (lg_sl ([.ref hh]) ++ List.replicate (3 - (lg_sl ([.ref hh])).length) Slot.unset).toArray = ls at hl ⊢
  have hl : lv_has ls 3 [(0, .ref hh)] := hl
  have in_RJx4a65c : ∀ w ∈ u_ws RJx4a65c TJx4a65c 3, w ∈ w_c_H_countFaults := by decide +kernel
  have in_RX11 : ∀ w ∈ u_ws RX11 TX11 10, w ∈ w_c_H_countFaults := by decide +kernel
  refine lv_iconst (v := 0) hx hb dX11_countFaults_0 (by decide) ?_
  refine lv_istore_n (lv' := [(1, .int 0), (0, .ref hh)]) hx hb dX11_countFaults_1 rfl hl (by decide) rfl (fun ls hl => ?_)
  refine lv_iconst (v := 0) hx hb dX11_countFaults_2 (by decide) ?_
  refine lv_istore_n (lv' := [(2, .int 0), (1, .int 0), (0, .ref hh)]) hx hb dX11_countFaults_3 rfl hl (by decide) rfl (fun ls hl => ?_)
  refine lv_iload_n hx hb dX11_countFaults_4 rfl (lv_at hl 0 rfl) ?_
  refine lv_aload_n hx hb dX11_countFaults_5 rfl (lv_at hl 2 rfl) ?_
  refine va_get (D := (dC, dI)) (ci := 13) (v := .ref aexpr) (C := RX11) (T := TX11) (N := 10) hx hb hts in_RX11 hown hK hP 0 rfl rfl 0 (by decide) (hts (.fieldLink RX11 12 "Hornbook" "expressions" "Ljava/util/ArrayList;") (by decide +kernel)) (fun _ h9 => h9) rfl dX11_countFaults_6 ?_
  refine z_i (wr := [(hh, .inr (13, [.ref aexpr, .ref achoo, .ref ameth, .ref aroom, .ref anod, .ref asort, .ref anote, .ref amet, .int 0, .int 1]))]) (va_runV (As := []) (rest := [.int 0]) ⟨hx, hb, hml, hown, hts⟩ (c_AL_size l eD eI ad dC dI s.heap.size aexpr ((.int 0)) ((.ref eD)) 0) (cwV 0 hts g_c_H_countFaults_0 rfl rfl rfl (by decide +kernel) ⟨Nat.le_of_ble_eq_true rfl, Nat.le_of_ble_eq_true rfl⟩) (z_preV (wc := [(aexpr, .inr (1, [.int 0, .ref eD, .int 0]))]) hP hD hK hS hA hE [1] [] rfl (by decide) rfl (ci := 1) (q0 := 0) rfl rfl) rfl rfl hl.1 rfl (lv_room (Nat.le_of_ble_eq_true rfl)) dX11_countFaults_9 ⟨Nat.le_of_ble_eq_true rfl, Nat.le_of_ble_eq_true rfl⟩) hP hD hK hS hA [1] [0] rfl rfl (by decide) (by decide) (fun r_1 u H locs hw_2 hP hD hK hS => ?_)
  obtain ⟨⟩ := u
  have hP : va_P (dC, dI) vwCl [(hh, .inr (13, [.ref aexpr, .ref achoo, .ref ameth, .ref aroom, .ref anod, .ref asort, .ref anote, .ref amet, .int 0, .int 1])), (aexpr, .inr (1, [.int 0, .ref eD, .int 0]))] H := hP
  have hD : va_D A [(hh, .inr (13, [.ref aexpr, .ref achoo, .ref ameth, .ref aroom, .ref anod, .ref asort, .ref anote, .ref amet, .int 0, .int 1])), (aexpr, .inr (1, [.int 0, .ref eD, .int 0]))] := hD
  have hK : va_K (dC, dI) vwCl [] s := by simpa using hK
  have hw_2 : r_1 = 0 := hw_2
  have hw_2 := hw_2.symm
  subst hw_2
  refine lv_icmp_ge (tgt := 41) hx hb dX11_countFaults_12 (by decide) (fun c_3 => ?_) (fun c_3 => ?_)
  rotate_left
  · exact absurd (by decide) c_3
  refine lv_iload_n hx hb dX11_countFaults_41 rfl (lv_at hl 1 rfl) ?_
  have hP9 := hP.sub (ws' := [(hh, .inr (13, [.ref aexpr, .ref achoo, .ref ameth, .ref aroom, .ref anod, .ref asort, .ref anote, .ref amet, .int 0, .int 1])), (aexpr, .inr (1, [.int 0, .ref eD, .int 0]))]) [0, 1] rfl
  have hD9 := hD.sub (ws' := [(hh, .inr (13, [.ref aexpr, .ref achoo, .ref ameth, .ref aroom, .ref anod, .ref asort, .ref anote, .ref amet, .int 0, .int 1])), (aexpr, .inr (1, [.int 0, .ref eD, .int 0]))]) [0, 1] (by decide) rfl
  have hK9 := hK.sub (tys' := []) [] rfl
  refine W.widen (k := 0) (n := 0) (Nat.le_of_ble_eq_true rfl) (Nat.le_of_ble_eq_true rfl) ?_
  exact W.iret (v := 0) hx hb hr (fun t ht hW => ⟨⟨0, (), rfl, rfl, ⟨by rw [ht]; exact hP9, va_K.moved hW.alike hK9, hD9⟩⟩, hS.F ht⟩) hS.2.2 dX11_countFaults_42

def wb_c_H_faultAt : List Cond := [.fieldLink RX11 12 "Hornbook" "expressions" "Ljava/util/ArrayList;", .code yJx4a65c_size_8abf5 cJx4a65c_size_8abf5 1 (some .int), .fieldLink RJx4a65c 48 "java/util/ArrayList" "size" "I", .methodLink RX11 73 yJx4a65c_size_8abf5, .instanceMethod yJx4a65c_size_8abf5, .selects RJx4a65c yJx4a65c_size_8abf5 yJx4a65c_size_8abf5, .initialized RJx4a65c] ++ u_ws RJx4a65c TJx4a65c 3 ++ u_ws RX11 TX11 10
def w_c_H_faultAt : List Cond := .code yX11_faultAt cX11_faultAt 5 (some (.object "Hornbook$Expression")) :: wb_c_H_faultAt
set_option maxRecDepth 100000 in
theorem g_c_H_faultAt_0 : GoodIn w_c_H_faultAt (wsV RX11 73 RJx4a65c yJx4a65c_size_8abf5 w_c_AL_size) := goodIn_app (goodIn_of _ (by decide +kernel)) (goodIn_p (big := w_c_H_faultAt) (.code yJx4a65c_size_8abf5 cJx4a65c_size_8abf5 1 (some .int) :: wb_c_AL_size) [2] rfl (by decide +kernel))
set_option maxHeartbeats 4000000 in
set_option maxRecDepth 100000 in
theorem c_H_faultAt (l : Launch) (eD eI : Nat) (ad : Nat → Nat) (dC : Nat → ClassId) (dI : Nat → Nat → Nat) (sz : Nat) (hh : Nat) (aexpr : Nat) (achoo : Nat) (ameth : Nat) (aroom : Nat) (anod : Nat) (asort : Nat) (anote : Nat) (amet : Nat) (v : Int32) : Met l yX11_faultAt w_c_H_faultAt ({ frames := 1, cells := 0, slots := 0, locals := 20 }) (va_Pc [.ref hh, .int v] (zPre eD eI ad (dC, dI) [(hh, .inr (13, [.ref aexpr, .ref achoo, .ref ameth, .ref aroom, .ref anod, .ref asort, .ref anote, .ref amet, .int 0, .int 1])), (aexpr, .inr (1, [.int 0, .ref eD, .int 0]))] [] sz)) (va_Qq (fun (r : Option Nat) (_ : Unit) => r = none) (fun (_ : Unit) => zEnd (dC, dI) (va_A [(hh, .inr (13, [.ref aexpr, .ref achoo, .ref ameth, .ref aroom, .ref anod, .ref asort, .ref anote, .ref amet, .int 0, .int 1])), (aexpr, .inr (1, [.int 0, .ref eD, .int 0]))] sz) [(hh, .inr (13, [.ref aexpr, .ref achoo, .ref ameth, .ref aroom, .ref anod, .ref asort, .ref anote, .ref amet, .int 0, .int 1])), (aexpr, .inr (1, [.int 0, .ref eD, .int 0]))] []) (va_A [(hh, .inr (13, [.ref aexpr, .ref achoo, .ref ameth, .ref aroom, .ref anod, .ref asort, .ref anote, .ref amet, .int 0, .int 1])), (aexpr, .inr (1, [.int 0, .ref eD, .int 0]))] sz)) 0 0 (va_A [(hh, .inr (13, [.ref aexpr, .ref achoo, .ref ameth, .ref aroom, .ref anod, .ref asort, .ref anote, .ref amet, .int 0, .int 1])), (aexpr, .inr (1, [.int 0, .ref eD, .int 0]))] sz) := by
  refine Met.ofW (cc := cX11_faultAt) (maxL := 5) (ret := (some (.object "Hornbook$Expression"))) (by decide) rfl ?_
  intro p e s m args below meth c s₁ B hml hv
  obtain ⟨rfl, hsz, hP, hK, hD0, hE⟩ := hv
  have hx := B.exec
  have hb := B.bytes
  have hr := B.returns
  have hts := atoms_spec (ws := w_c_H_faultAt) B.pre
  have hown : s.vm.findClass RX11 = some m.cls := findClass_of_methodNamed B.named
  have hlocks := B.notSynchronized
  subst hsz
  have hD := hD0.self (sz := s.heap.size)
  generalize hAe : va_A [(hh, .inr (13, [.ref aexpr, .ref achoo, .ref ameth, .ref aroom, .ref anod, .ref asort, .ref anote, .ref amet, .int 0, .int 1])), (aexpr, .inr (1, [.int 0, .ref eD, .int 0]))] s.heap.size = A at hD hE ⊢
  have hA : ∀ q : Nat, s.heap.size ≤ q → A q := fun q h => by rw [← hAe]; exact Or.inr h
  have hS : va_S A s.heap s.heap [] := va_S.rf
  have hP : va_P (dC, dI) vwCl [(hh, .inr (13, [.ref aexpr, .ref achoo, .ref ameth, .ref aroom, .ref anod, .ref asort, .ref anote, .ref amet, .int 0, .int 1])), (aexpr, .inr (1, [.int 0, .ref eD, .int 0]))] s.heap := hP
  have hl := lv_entry ([.ref hh, .int v]) (n := 5) (Nat.le_of_ble_eq_true rfl)
  rw [lg_entry_eq]
  generalize (lg_sl ([.ref hh, .int v]) ++ List.replicate (5 - (lg_sl ([.ref hh, .int v])).length) Slot.unset).toArray = ls at hl ⊢
  have hl : lv_has ls 5 [(0, .ref hh), (1, .int v)] := hl
  have in_RJx4a65c : ∀ w ∈ u_ws RJx4a65c TJx4a65c 3, w ∈ w_c_H_faultAt := by decide +kernel
  have in_RX11 : ∀ w ∈ u_ws RX11 TX11 10, w ∈ w_c_H_faultAt := by decide +kernel
  refine lv_iload_n hx hb dX11_faultAt_0 rfl (lv_at hl 1 rfl) ?_
  refine lv_istore_n (lv' := [(2, .int v), (0, .ref hh), (1, .int v)]) hx hb dX11_faultAt_1 rfl hl (by decide) rfl (fun ls hl => ?_)
  refine lv_iconst (v := 0) hx hb dX11_faultAt_2 (by decide) ?_
  refine lv_istore_n (lv' := [(3, .int 0), (2, .int v), (0, .ref hh), (1, .int v)]) hx hb dX11_faultAt_3 rfl hl (by decide) rfl (fun ls hl => ?_)
  refine lv_iload_n hx hb dX11_faultAt_4 rfl (lv_at hl 0 rfl) ?_
  refine lv_aload_n hx hb dX11_faultAt_5 rfl (lv_at hl 2 rfl) ?_
  refine va_get (D := (dC, dI)) (ci := 13) (v := .ref aexpr) (C := RX11) (T := TX11) (N := 10) hx hb hts in_RX11 hown hK hP 0 rfl rfl 0 (by decide) (hts (.fieldLink RX11 12 "Hornbook" "expressions" "Ljava/util/ArrayList;") (by decide +kernel)) (fun _ h9 => h9) rfl dX11_faultAt_6 ?_
  refine z_i (wr := [(hh, .inr (13, [.ref aexpr, .ref achoo, .ref ameth, .ref aroom, .ref anod, .ref asort, .ref anote, .ref amet, .int 0, .int 1]))]) (va_runV (As := []) (rest := [.int 0]) ⟨hx, hb, hml, hown, hts⟩ (c_AL_size l eD eI ad dC dI s.heap.size aexpr ((.int 0)) ((.ref eD)) 0) (cwV 0 hts g_c_H_faultAt_0 rfl rfl rfl (by decide +kernel) ⟨Nat.le_of_ble_eq_true rfl, Nat.le_of_ble_eq_true rfl⟩) (z_preV (wc := [(aexpr, .inr (1, [.int 0, .ref eD, .int 0]))]) hP hD hK hS hA hE [1] [] rfl (by decide) rfl (ci := 1) (q0 := 0) rfl rfl) rfl rfl hl.1 rfl (lv_room (Nat.le_of_ble_eq_true rfl)) dX11_faultAt_9 ⟨Nat.le_of_ble_eq_true rfl, Nat.le_of_ble_eq_true rfl⟩) hP hD hK hS hA [1] [0] rfl rfl (by decide) (by decide) (fun r_1 u H locs hw_2 hP hD hK hS => ?_)
  obtain ⟨⟩ := u
  have hP : va_P (dC, dI) vwCl [(hh, .inr (13, [.ref aexpr, .ref achoo, .ref ameth, .ref aroom, .ref anod, .ref asort, .ref anote, .ref amet, .int 0, .int 1])), (aexpr, .inr (1, [.int 0, .ref eD, .int 0]))] H := hP
  have hD : va_D A [(hh, .inr (13, [.ref aexpr, .ref achoo, .ref ameth, .ref aroom, .ref anod, .ref asort, .ref anote, .ref amet, .int 0, .int 1])), (aexpr, .inr (1, [.int 0, .ref eD, .int 0]))] := hD
  have hK : va_K (dC, dI) vwCl [] s := by simpa using hK
  have hw_2 : r_1 = 0 := hw_2
  have hw_2 := hw_2.symm
  subst hw_2
  refine lv_icmp_ge (tgt := 59) hx hb dX11_faultAt_12 (by decide) (fun c_3 => ?_) (fun c_3 => ?_)
  rotate_left
  · exact absurd (by decide) c_3
  refine lv_null hx hb dX11_faultAt_59 ?_
  have hP9 := hP.sub (ws' := [(hh, .inr (13, [.ref aexpr, .ref achoo, .ref ameth, .ref aroom, .ref anod, .ref asort, .ref anote, .ref amet, .int 0, .int 1])), (aexpr, .inr (1, [.int 0, .ref eD, .int 0]))]) [0, 1] rfl
  have hD9 := hD.sub (ws' := [(hh, .inr (13, [.ref aexpr, .ref achoo, .ref ameth, .ref aroom, .ref anod, .ref asort, .ref anote, .ref amet, .int 0, .int 1])), (aexpr, .inr (1, [.int 0, .ref eD, .int 0]))]) [0, 1] (by decide) rfl
  have hK9 := hK.sub (tys' := []) [] rfl
  refine W.widen (k := 0) (n := 0) (Nat.le_of_ble_eq_true rfl) (Nat.le_of_ble_eq_true rfl) ?_
  exact W.aret (v := .null) hx hb hr (Or.inl ⟨_, rfl⟩) (Or.inl rfl) (fun t ht hW => ⟨⟨none, (), rfl, rfl, ⟨by rw [ht]; exact hP9, va_K.moved hW.alike hK9, hD9⟩⟩, hS.F ht⟩) hS.2.2 dX11_faultAt_60

def wb_c_H_countOf_0 : List Cond := [.fieldLink RX11 42 "Hornbook" "sorts" "Ljava/util/ArrayList;", .code yJx4a65c_size_8abf5 cJx4a65c_size_8abf5 1 (some .int), .fieldLink RJx4a65c 48 "java/util/ArrayList" "size" "I", .methodLink RX11 73 yJx4a65c_size_8abf5, .instanceMethod yJx4a65c_size_8abf5, .selects RJx4a65c yJx4a65c_size_8abf5 yJx4a65c_size_8abf5, .initialized RJx4a65c] ++ u_ws RJx4a65c TJx4a65c 3 ++ u_ws RX11 TX11 10
def w_c_H_countOf_0 : List Cond := .code yX11_countOf cX11_countOf 2 (some .int) :: wb_c_H_countOf_0
set_option maxRecDepth 100000 in
theorem g_c_H_countOf_0_0 : GoodIn w_c_H_countOf_0 (wsV RX11 73 RJx4a65c yJx4a65c_size_8abf5 w_c_AL_size) := goodIn_app (goodIn_of _ (by decide +kernel)) (goodIn_p (big := w_c_H_countOf_0) (.code yJx4a65c_size_8abf5 cJx4a65c_size_8abf5 1 (some .int) :: wb_c_AL_size) [2] rfl (by decide +kernel))
set_option maxHeartbeats 4000000 in
set_option maxRecDepth 100000 in
theorem c_H_countOf_0 (l : Launch) (eD eI : Nat) (ad : Nat → Nat) (dC : Nat → ClassId) (dI : Nat → Nat → Nat) (sz : Nat) (hh : Nat) (aexpr : Nat) (achoo : Nat) (ameth : Nat) (aroom : Nat) (anod : Nat) (asort : Nat) (anote : Nat) (amet : Nat) : Met l yX11_countOf w_c_H_countOf_0 ({ frames := 1, cells := 0, slots := 0, locals := 20 }) (va_Pc [.ref hh, .int 0] (zPre eD eI ad (dC, dI) [(hh, .inr (13, [.ref aexpr, .ref achoo, .ref ameth, .ref aroom, .ref anod, .ref asort, .ref anote, .ref amet, .int 0, .int 1])), (asort, .inr (1, [.int 0, .ref eD, .int 0]))] [] sz)) (va_Qi (fun (r : Int32) (_ : Unit) => r = 0) (fun (_ : Unit) => zEnd (dC, dI) (va_A [(hh, .inr (13, [.ref aexpr, .ref achoo, .ref ameth, .ref aroom, .ref anod, .ref asort, .ref anote, .ref amet, .int 0, .int 1])), (asort, .inr (1, [.int 0, .ref eD, .int 0]))] sz) [(hh, .inr (13, [.ref aexpr, .ref achoo, .ref ameth, .ref aroom, .ref anod, .ref asort, .ref anote, .ref amet, .int 0, .int 1])), (asort, .inr (1, [.int 0, .ref eD, .int 0]))] []) (va_A [(hh, .inr (13, [.ref aexpr, .ref achoo, .ref ameth, .ref aroom, .ref anod, .ref asort, .ref anote, .ref amet, .int 0, .int 1])), (asort, .inr (1, [.int 0, .ref eD, .int 0]))] sz)) 0 0 (va_A [(hh, .inr (13, [.ref aexpr, .ref achoo, .ref ameth, .ref aroom, .ref anod, .ref asort, .ref anote, .ref amet, .int 0, .int 1])), (asort, .inr (1, [.int 0, .ref eD, .int 0]))] sz) := by
  refine Met.ofW (cc := cX11_countOf) (maxL := 2) (ret := (some .int)) (by decide) rfl ?_
  intro p e s m args below meth c s₁ B hml hv
  obtain ⟨rfl, hsz, hP, hK, hD0, hE⟩ := hv
  have hx := B.exec
  have hb := B.bytes
  have hr := B.returns
  have hts := atoms_spec (ws := w_c_H_countOf_0) B.pre
  have hown : s.vm.findClass RX11 = some m.cls := findClass_of_methodNamed B.named
  have hlocks := B.notSynchronized
  subst hsz
  have hD := hD0.self (sz := s.heap.size)
  generalize hAe : va_A [(hh, .inr (13, [.ref aexpr, .ref achoo, .ref ameth, .ref aroom, .ref anod, .ref asort, .ref anote, .ref amet, .int 0, .int 1])), (asort, .inr (1, [.int 0, .ref eD, .int 0]))] s.heap.size = A at hD hE ⊢
  have hA : ∀ q : Nat, s.heap.size ≤ q → A q := fun q h => by rw [← hAe]; exact Or.inr h
  have hS : va_S A s.heap s.heap [] := va_S.rf
  have hP : va_P (dC, dI) vwCl [(hh, .inr (13, [.ref aexpr, .ref achoo, .ref ameth, .ref aroom, .ref anod, .ref asort, .ref anote, .ref amet, .int 0, .int 1])), (asort, .inr (1, [.int 0, .ref eD, .int 0]))] s.heap := hP
  have hl := lv_entry ([.ref hh, .int 0]) (n := 2) (Nat.le_of_ble_eq_true rfl)
  rw [lg_entry_eq]
  generalize (lg_sl ([.ref hh, .int 0]) ++ List.replicate (2 - (lg_sl ([.ref hh, .int 0])).length) Slot.unset).toArray = ls at hl ⊢
  have hl : lv_has ls 2 [(0, .ref hh), (1, .int 0)] := hl
  have in_RJx4a65c : ∀ w ∈ u_ws RJx4a65c TJx4a65c 3, w ∈ w_c_H_countOf_0 := by decide +kernel
  have in_RX11 : ∀ w ∈ u_ws RX11 TX11 10, w ∈ w_c_H_countOf_0 := by decide +kernel
  refine lv_iload_n hx hb dX11_countOf_0 rfl (lv_at hl 1 rfl) ?_
  refine lv_tableIn (off := 27) (tgt := 28) hx hb dX11_countOf_1 (by decide) (by decide) (by decide) (by decide) ?_
  refine lv_aload_n hx hb dX11_countOf_28 rfl (lv_at hl 0 rfl) ?_
  refine va_get (D := (dC, dI)) (ci := 13) (v := .ref asort) (C := RX11) (T := TX11) (N := 10) hx hb hts in_RX11 hown hK hP 0 rfl rfl 5 (by decide) (hts (.fieldLink RX11 42 "Hornbook" "sorts" "Ljava/util/ArrayList;") (by decide +kernel)) (fun _ h9 => h9) rfl dX11_countOf_29 ?_
  refine z_i (wr := [(hh, .inr (13, [.ref aexpr, .ref achoo, .ref ameth, .ref aroom, .ref anod, .ref asort, .ref anote, .ref amet, .int 0, .int 1]))]) (va_runV (As := []) (rest := []) ⟨hx, hb, hml, hown, hts⟩ (c_AL_size l eD eI ad dC dI s.heap.size asort ((.int 0)) ((.ref eD)) 0) (cwV 0 hts g_c_H_countOf_0_0 rfl rfl rfl (by decide +kernel) ⟨Nat.le_of_ble_eq_true rfl, Nat.le_of_ble_eq_true rfl⟩) (z_preV (wc := [(asort, .inr (1, [.int 0, .ref eD, .int 0]))]) hP hD hK hS hA hE [1] [] rfl (by decide) rfl (ci := 1) (q0 := 0) rfl rfl) rfl rfl hl.1 rfl (lv_room (Nat.le_of_ble_eq_true rfl)) dX11_countOf_32 ⟨Nat.le_of_ble_eq_true rfl, Nat.le_of_ble_eq_true rfl⟩) hP hD hK hS hA [1] [0] rfl rfl (by decide) (by decide) (fun r_1 u H locs hw_2 hP hD hK hS => ?_)
  obtain ⟨⟩ := u
  have hP : va_P (dC, dI) vwCl [(hh, .inr (13, [.ref aexpr, .ref achoo, .ref ameth, .ref aroom, .ref anod, .ref asort, .ref anote, .ref amet, .int 0, .int 1])), (asort, .inr (1, [.int 0, .ref eD, .int 0]))] H := hP
  have hD : va_D A [(hh, .inr (13, [.ref aexpr, .ref achoo, .ref ameth, .ref aroom, .ref anod, .ref asort, .ref anote, .ref amet, .int 0, .int 1])), (asort, .inr (1, [.int 0, .ref eD, .int 0]))] := hD
  have hK : va_K (dC, dI) vwCl [] s := by simpa using hK
  have hw_2 : r_1 = 0 := hw_2
  have hw_2 := hw_2.symm
  subst hw_2
  have hP9 := hP.sub (ws' := [(hh, .inr (13, [.ref aexpr, .ref achoo, .ref ameth, .ref aroom, .ref anod, .ref asort, .ref anote, .ref amet, .int 0, .int 1])), (asort, .inr (1, [.int 0, .ref eD, .int 0]))]) [0, 1] rfl
  have hD9 := hD.sub (ws' := [(hh, .inr (13, [.ref aexpr, .ref achoo, .ref ameth, .ref aroom, .ref anod, .ref asort, .ref anote, .ref amet, .int 0, .int 1])), (asort, .inr (1, [.int 0, .ref eD, .int 0]))]) [0, 1] (by decide) rfl
  have hK9 := hK.sub (tys' := []) [] rfl
  refine W.widen (k := 0) (n := 0) (Nat.le_of_ble_eq_true rfl) (Nat.le_of_ble_eq_true rfl) ?_
  exact W.iret (v := 0) hx hb hr (fun t ht hW => ⟨⟨0, (), rfl, rfl, ⟨by rw [ht]; exact hP9, va_K.moved hW.alike hK9, hD9⟩⟩, hS.F ht⟩) hS.2.2 dX11_countOf_35

def wb_c_H_countOf_1 : List Cond := [.fieldLink RX11 31 "Hornbook" "room" "LHornbook$Room;", .fieldLink RX11 344 "Hornbook$Room" "tellings" "I"] ++ u_ws RX11 TX11 10 ++ u_ws RX7 TX7 14
def w_c_H_countOf_1 : List Cond := .code yX11_countOf cX11_countOf 2 (some .int) :: wb_c_H_countOf_1
set_option maxHeartbeats 4000000 in
set_option maxRecDepth 100000 in
theorem c_H_countOf_1 (l : Launch) (eD eI : Nat) (ad : Nat → Nat) (dC : Nat → ClassId) (dI : Nat → Nat → Nat) (sz : Nat) (hh : Nat) (aexpr : Nat) (achoo : Nat) (ameth : Nat) (aroom : Nat) (anod : Nat) (asort : Nat) (anote : Nat) (amet : Nat) (atold : Nat) (aheld : Nat) (apair : Nat) (astep : Nat) (asize : Nat) : Met l yX11_countOf w_c_H_countOf_1 ({ frames := 0, cells := 0, slots := 0, locals := 0 }) (va_Pc [.ref hh, .int 1] (zPre eD eI ad (dC, dI) [(hh, .inr (13, [.ref aexpr, .ref achoo, .ref ameth, .ref aroom, .ref anod, .ref asort, .ref anote, .ref amet, .int 0, .int 1])), (aroom, .inr (9, [.ref asort, .ref anod, .ref atold, .int 3, .ref aheld, .int 0, .ref apair, .ref astep, .int 0, .int 0, .int (-1), .int 0, .int 0, .ref asize]))] [] sz)) (va_Qi (fun (r : Int32) (_ : Unit) => r = 3) (fun (_ : Unit) => zEnd (dC, dI) (va_A [(hh, .inr (13, [.ref aexpr, .ref achoo, .ref ameth, .ref aroom, .ref anod, .ref asort, .ref anote, .ref amet, .int 0, .int 1])), (aroom, .inr (9, [.ref asort, .ref anod, .ref atold, .int 3, .ref aheld, .int 0, .ref apair, .ref astep, .int 0, .int 0, .int (-1), .int 0, .int 0, .ref asize]))] sz) [(hh, .inr (13, [.ref aexpr, .ref achoo, .ref ameth, .ref aroom, .ref anod, .ref asort, .ref anote, .ref amet, .int 0, .int 1])), (aroom, .inr (9, [.ref asort, .ref anod, .ref atold, .int 3, .ref aheld, .int 0, .ref apair, .ref astep, .int 0, .int 0, .int (-1), .int 0, .int 0, .ref asize]))] []) (va_A [(hh, .inr (13, [.ref aexpr, .ref achoo, .ref ameth, .ref aroom, .ref anod, .ref asort, .ref anote, .ref amet, .int 0, .int 1])), (aroom, .inr (9, [.ref asort, .ref anod, .ref atold, .int 3, .ref aheld, .int 0, .ref apair, .ref astep, .int 0, .int 0, .int (-1), .int 0, .int 0, .ref asize]))] sz)) 0 0 (va_A [(hh, .inr (13, [.ref aexpr, .ref achoo, .ref ameth, .ref aroom, .ref anod, .ref asort, .ref anote, .ref amet, .int 0, .int 1])), (aroom, .inr (9, [.ref asort, .ref anod, .ref atold, .int 3, .ref aheld, .int 0, .ref apair, .ref astep, .int 0, .int 0, .int (-1), .int 0, .int 0, .ref asize]))] sz) := by
  refine Met.ofW (cc := cX11_countOf) (maxL := 2) (ret := (some .int)) (by decide) rfl ?_
  intro p e s m args below meth c s₁ B hml hv
  obtain ⟨rfl, hsz, hP, hK, hD0, hE⟩ := hv
  have hx := B.exec
  have hb := B.bytes
  have hr := B.returns
  have hts := atoms_spec (ws := w_c_H_countOf_1) B.pre
  have hown : s.vm.findClass RX11 = some m.cls := findClass_of_methodNamed B.named
  have hlocks := B.notSynchronized
  subst hsz
  have hD := hD0.self (sz := s.heap.size)
  generalize hAe : va_A [(hh, .inr (13, [.ref aexpr, .ref achoo, .ref ameth, .ref aroom, .ref anod, .ref asort, .ref anote, .ref amet, .int 0, .int 1])), (aroom, .inr (9, [.ref asort, .ref anod, .ref atold, .int 3, .ref aheld, .int 0, .ref apair, .ref astep, .int 0, .int 0, .int (-1), .int 0, .int 0, .ref asize]))] s.heap.size = A at hD hE ⊢
  have hA : ∀ q : Nat, s.heap.size ≤ q → A q := fun q h => by rw [← hAe]; exact Or.inr h
  have hS : va_S A s.heap s.heap [] := va_S.rf
  have hP : va_P (dC, dI) vwCl [(hh, .inr (13, [.ref aexpr, .ref achoo, .ref ameth, .ref aroom, .ref anod, .ref asort, .ref anote, .ref amet, .int 0, .int 1])), (aroom, .inr (9, [.ref asort, .ref anod, .ref atold, .int 3, .ref aheld, .int 0, .ref apair, .ref astep, .int 0, .int 0, .int (-1), .int 0, .int 0, .ref asize]))] s.heap := hP
  have hl := lv_entry ([.ref hh, .int 1]) (n := 2) (Nat.le_of_ble_eq_true rfl)
  rw [lg_entry_eq]
  generalize (lg_sl ([.ref hh, .int 1]) ++ List.replicate (2 - (lg_sl ([.ref hh, .int 1])).length) Slot.unset).toArray = ls at hl ⊢
  have hl : lv_has ls 2 [(0, .ref hh), (1, .int 1)] := hl
  have in_RX11 : ∀ w ∈ u_ws RX11 TX11 10, w ∈ w_c_H_countOf_1 := by decide +kernel
  have in_RX7 : ∀ w ∈ u_ws RX7 TX7 14, w ∈ w_c_H_countOf_1 := by decide +kernel
  refine lv_iload_n hx hb dX11_countOf_0 rfl (lv_at hl 1 rfl) ?_
  refine lv_tableIn (off := 35) (tgt := 36) hx hb dX11_countOf_1 (by decide) (by decide) (by decide) (by decide) ?_
  refine lv_aload_n hx hb dX11_countOf_36 rfl (lv_at hl 0 rfl) ?_
  refine va_get (D := (dC, dI)) (ci := 13) (v := .ref aroom) (C := RX11) (T := TX11) (N := 10) hx hb hts in_RX11 hown hK hP 0 rfl rfl 3 (by decide) (hts (.fieldLink RX11 31 "Hornbook" "room" "LHornbook$Room;") (by decide +kernel)) (fun _ h9 => h9) rfl dX11_countOf_37 ?_
  refine va_get (D := (dC, dI)) (ci := 9) (v := .int 3) (C := RX7) (T := TX7) (N := 14) hx hb hts in_RX7 hown hK hP 1 rfl rfl 3 (by decide) (hts (.fieldLink RX11 344 "Hornbook$Room" "tellings" "I") (by decide +kernel)) (fun _ h9 => h9) rfl dX11_countOf_40 ?_
  have hP9 := hP.sub (ws' := [(hh, .inr (13, [.ref aexpr, .ref achoo, .ref ameth, .ref aroom, .ref anod, .ref asort, .ref anote, .ref amet, .int 0, .int 1])), (aroom, .inr (9, [.ref asort, .ref anod, .ref atold, .int 3, .ref aheld, .int 0, .ref apair, .ref astep, .int 0, .int 0, .int (-1), .int 0, .int 0, .ref asize]))]) [0, 1] rfl
  have hD9 := hD.sub (ws' := [(hh, .inr (13, [.ref aexpr, .ref achoo, .ref ameth, .ref aroom, .ref anod, .ref asort, .ref anote, .ref amet, .int 0, .int 1])), (aroom, .inr (9, [.ref asort, .ref anod, .ref atold, .int 3, .ref aheld, .int 0, .ref apair, .ref astep, .int 0, .int 0, .int (-1), .int 0, .int 0, .ref asize]))]) [0, 1] (by decide) rfl
  have hK9 := hK.sub (tys' := []) [] rfl
  refine W.widen (k := 0) (n := 0) (Nat.le_of_ble_eq_true rfl) (Nat.le_of_ble_eq_true rfl) ?_
  exact W.iret (v := 3) hx hb hr (fun t ht hW => ⟨⟨3, (), rfl, rfl, ⟨by rw [ht]; exact hP9, va_K.moved hW.alike hK9, hD9⟩⟩, hS.F ht⟩) hS.2.2 dX11_countOf_43

def wb_c_H_countOf_2 : List Cond := [.fieldLink RX11 26 "Hornbook" "methods" "Ljava/util/ArrayList;", .code yJx4a65c_size_8abf5 cJx4a65c_size_8abf5 1 (some .int), .fieldLink RJx4a65c 48 "java/util/ArrayList" "size" "I", .methodLink RX11 73 yJx4a65c_size_8abf5, .instanceMethod yJx4a65c_size_8abf5, .selects RJx4a65c yJx4a65c_size_8abf5 yJx4a65c_size_8abf5, .initialized RJx4a65c] ++ u_ws RJx4a65c TJx4a65c 3 ++ u_ws RX11 TX11 10
def w_c_H_countOf_2 : List Cond := .code yX11_countOf cX11_countOf 2 (some .int) :: wb_c_H_countOf_2
set_option maxRecDepth 100000 in
theorem g_c_H_countOf_2_0 : GoodIn w_c_H_countOf_2 (wsV RX11 73 RJx4a65c yJx4a65c_size_8abf5 w_c_AL_size) := goodIn_app (goodIn_of _ (by decide +kernel)) (goodIn_p (big := w_c_H_countOf_2) (.code yJx4a65c_size_8abf5 cJx4a65c_size_8abf5 1 (some .int) :: wb_c_AL_size) [2] rfl (by decide +kernel))
set_option maxHeartbeats 4000000 in
set_option maxRecDepth 100000 in
theorem c_H_countOf_2 (l : Launch) (eD eI : Nat) (ad : Nat → Nat) (dC : Nat → ClassId) (dI : Nat → Nat → Nat) (sz : Nat) (hh : Nat) (aexpr : Nat) (achoo : Nat) (ameth : Nat) (aroom : Nat) (anod : Nat) (asort : Nat) (anote : Nat) (amet : Nat) : Met l yX11_countOf w_c_H_countOf_2 ({ frames := 1, cells := 0, slots := 0, locals := 20 }) (va_Pc [.ref hh, .int 2] (zPre eD eI ad (dC, dI) [(hh, .inr (13, [.ref aexpr, .ref achoo, .ref ameth, .ref aroom, .ref anod, .ref asort, .ref anote, .ref amet, .int 0, .int 1])), (ameth, .inr (1, [.int 0, .ref eD, .int 0]))] [] sz)) (va_Qi (fun (r : Int32) (_ : Unit) => r = 0) (fun (_ : Unit) => zEnd (dC, dI) (va_A [(hh, .inr (13, [.ref aexpr, .ref achoo, .ref ameth, .ref aroom, .ref anod, .ref asort, .ref anote, .ref amet, .int 0, .int 1])), (ameth, .inr (1, [.int 0, .ref eD, .int 0]))] sz) [(hh, .inr (13, [.ref aexpr, .ref achoo, .ref ameth, .ref aroom, .ref anod, .ref asort, .ref anote, .ref amet, .int 0, .int 1])), (ameth, .inr (1, [.int 0, .ref eD, .int 0]))] []) (va_A [(hh, .inr (13, [.ref aexpr, .ref achoo, .ref ameth, .ref aroom, .ref anod, .ref asort, .ref anote, .ref amet, .int 0, .int 1])), (ameth, .inr (1, [.int 0, .ref eD, .int 0]))] sz)) 0 0 (va_A [(hh, .inr (13, [.ref aexpr, .ref achoo, .ref ameth, .ref aroom, .ref anod, .ref asort, .ref anote, .ref amet, .int 0, .int 1])), (ameth, .inr (1, [.int 0, .ref eD, .int 0]))] sz) := by
  refine Met.ofW (cc := cX11_countOf) (maxL := 2) (ret := (some .int)) (by decide) rfl ?_
  intro p e s m args below meth c s₁ B hml hv
  obtain ⟨rfl, hsz, hP, hK, hD0, hE⟩ := hv
  have hx := B.exec
  have hb := B.bytes
  have hr := B.returns
  have hts := atoms_spec (ws := w_c_H_countOf_2) B.pre
  have hown : s.vm.findClass RX11 = some m.cls := findClass_of_methodNamed B.named
  have hlocks := B.notSynchronized
  subst hsz
  have hD := hD0.self (sz := s.heap.size)
  generalize hAe : va_A [(hh, .inr (13, [.ref aexpr, .ref achoo, .ref ameth, .ref aroom, .ref anod, .ref asort, .ref anote, .ref amet, .int 0, .int 1])), (ameth, .inr (1, [.int 0, .ref eD, .int 0]))] s.heap.size = A at hD hE ⊢
  have hA : ∀ q : Nat, s.heap.size ≤ q → A q := fun q h => by rw [← hAe]; exact Or.inr h
  have hS : va_S A s.heap s.heap [] := va_S.rf
  have hP : va_P (dC, dI) vwCl [(hh, .inr (13, [.ref aexpr, .ref achoo, .ref ameth, .ref aroom, .ref anod, .ref asort, .ref anote, .ref amet, .int 0, .int 1])), (ameth, .inr (1, [.int 0, .ref eD, .int 0]))] s.heap := hP
  have hl := lv_entry ([.ref hh, .int 2]) (n := 2) (Nat.le_of_ble_eq_true rfl)
  rw [lg_entry_eq]
  generalize (lg_sl ([.ref hh, .int 2]) ++ List.replicate (2 - (lg_sl ([.ref hh, .int 2])).length) Slot.unset).toArray = ls at hl ⊢
  have hl : lv_has ls 2 [(0, .ref hh), (1, .int 2)] := hl
  have in_RJx4a65c : ∀ w ∈ u_ws RJx4a65c TJx4a65c 3, w ∈ w_c_H_countOf_2 := by decide +kernel
  have in_RX11 : ∀ w ∈ u_ws RX11 TX11 10, w ∈ w_c_H_countOf_2 := by decide +kernel
  refine lv_iload_n hx hb dX11_countOf_0 rfl (lv_at hl 1 rfl) ?_
  refine lv_tableIn (off := 43) (tgt := 44) hx hb dX11_countOf_1 (by decide) (by decide) (by decide) (by decide) ?_
  refine lv_aload_n hx hb dX11_countOf_44 rfl (lv_at hl 0 rfl) ?_
  refine va_get (D := (dC, dI)) (ci := 13) (v := .ref ameth) (C := RX11) (T := TX11) (N := 10) hx hb hts in_RX11 hown hK hP 0 rfl rfl 2 (by decide) (hts (.fieldLink RX11 26 "Hornbook" "methods" "Ljava/util/ArrayList;") (by decide +kernel)) (fun _ h9 => h9) rfl dX11_countOf_45 ?_
  refine z_i (wr := [(hh, .inr (13, [.ref aexpr, .ref achoo, .ref ameth, .ref aroom, .ref anod, .ref asort, .ref anote, .ref amet, .int 0, .int 1]))]) (va_runV (As := []) (rest := []) ⟨hx, hb, hml, hown, hts⟩ (c_AL_size l eD eI ad dC dI s.heap.size ameth ((.int 0)) ((.ref eD)) 0) (cwV 0 hts g_c_H_countOf_2_0 rfl rfl rfl (by decide +kernel) ⟨Nat.le_of_ble_eq_true rfl, Nat.le_of_ble_eq_true rfl⟩) (z_preV (wc := [(ameth, .inr (1, [.int 0, .ref eD, .int 0]))]) hP hD hK hS hA hE [1] [] rfl (by decide) rfl (ci := 1) (q0 := 0) rfl rfl) rfl rfl hl.1 rfl (lv_room (Nat.le_of_ble_eq_true rfl)) dX11_countOf_48 ⟨Nat.le_of_ble_eq_true rfl, Nat.le_of_ble_eq_true rfl⟩) hP hD hK hS hA [1] [0] rfl rfl (by decide) (by decide) (fun r_1 u H locs hw_2 hP hD hK hS => ?_)
  obtain ⟨⟩ := u
  have hP : va_P (dC, dI) vwCl [(hh, .inr (13, [.ref aexpr, .ref achoo, .ref ameth, .ref aroom, .ref anod, .ref asort, .ref anote, .ref amet, .int 0, .int 1])), (ameth, .inr (1, [.int 0, .ref eD, .int 0]))] H := hP
  have hD : va_D A [(hh, .inr (13, [.ref aexpr, .ref achoo, .ref ameth, .ref aroom, .ref anod, .ref asort, .ref anote, .ref amet, .int 0, .int 1])), (ameth, .inr (1, [.int 0, .ref eD, .int 0]))] := hD
  have hK : va_K (dC, dI) vwCl [] s := by simpa using hK
  have hw_2 : r_1 = 0 := hw_2
  have hw_2 := hw_2.symm
  subst hw_2
  have hP9 := hP.sub (ws' := [(hh, .inr (13, [.ref aexpr, .ref achoo, .ref ameth, .ref aroom, .ref anod, .ref asort, .ref anote, .ref amet, .int 0, .int 1])), (ameth, .inr (1, [.int 0, .ref eD, .int 0]))]) [0, 1] rfl
  have hD9 := hD.sub (ws' := [(hh, .inr (13, [.ref aexpr, .ref achoo, .ref ameth, .ref aroom, .ref anod, .ref asort, .ref anote, .ref amet, .int 0, .int 1])), (ameth, .inr (1, [.int 0, .ref eD, .int 0]))]) [0, 1] (by decide) rfl
  have hK9 := hK.sub (tys' := []) [] rfl
  refine W.widen (k := 0) (n := 0) (Nat.le_of_ble_eq_true rfl) (Nat.le_of_ble_eq_true rfl) ?_
  exact W.iret (v := 0) hx hb hr (fun t ht hW => ⟨⟨0, (), rfl, rfl, ⟨by rw [ht]; exact hP9, va_K.moved hW.alike hK9, hD9⟩⟩, hS.F ht⟩) hS.2.2 dX11_countOf_51

def wb_c_H_countOf_3 : List Cond := [.fieldLink RX11 12 "Hornbook" "expressions" "Ljava/util/ArrayList;", .code yJx4a65c_size_8abf5 cJx4a65c_size_8abf5 1 (some .int), .fieldLink RJx4a65c 48 "java/util/ArrayList" "size" "I", .methodLink RX11 73 yJx4a65c_size_8abf5, .instanceMethod yJx4a65c_size_8abf5, .selects RJx4a65c yJx4a65c_size_8abf5 yJx4a65c_size_8abf5, .initialized RJx4a65c] ++ u_ws RJx4a65c TJx4a65c 3 ++ u_ws RX11 TX11 10
def w_c_H_countOf_3 : List Cond := .code yX11_countOf cX11_countOf 2 (some .int) :: wb_c_H_countOf_3
set_option maxRecDepth 100000 in
theorem g_c_H_countOf_3_0 : GoodIn w_c_H_countOf_3 (wsV RX11 73 RJx4a65c yJx4a65c_size_8abf5 w_c_AL_size) := goodIn_app (goodIn_of _ (by decide +kernel)) (goodIn_p (big := w_c_H_countOf_3) (.code yJx4a65c_size_8abf5 cJx4a65c_size_8abf5 1 (some .int) :: wb_c_AL_size) [2] rfl (by decide +kernel))
set_option maxHeartbeats 4000000 in
set_option maxRecDepth 100000 in
theorem c_H_countOf_3 (l : Launch) (eD eI : Nat) (ad : Nat → Nat) (dC : Nat → ClassId) (dI : Nat → Nat → Nat) (sz : Nat) (hh : Nat) (aexpr : Nat) (achoo : Nat) (ameth : Nat) (aroom : Nat) (anod : Nat) (asort : Nat) (anote : Nat) (amet : Nat) : Met l yX11_countOf w_c_H_countOf_3 ({ frames := 1, cells := 0, slots := 0, locals := 20 }) (va_Pc [.ref hh, .int 3] (zPre eD eI ad (dC, dI) [(hh, .inr (13, [.ref aexpr, .ref achoo, .ref ameth, .ref aroom, .ref anod, .ref asort, .ref anote, .ref amet, .int 0, .int 1])), (aexpr, .inr (1, [.int 0, .ref eD, .int 0]))] [] sz)) (va_Qi (fun (r : Int32) (_ : Unit) => r = 0) (fun (_ : Unit) => zEnd (dC, dI) (va_A [(hh, .inr (13, [.ref aexpr, .ref achoo, .ref ameth, .ref aroom, .ref anod, .ref asort, .ref anote, .ref amet, .int 0, .int 1])), (aexpr, .inr (1, [.int 0, .ref eD, .int 0]))] sz) [(hh, .inr (13, [.ref aexpr, .ref achoo, .ref ameth, .ref aroom, .ref anod, .ref asort, .ref anote, .ref amet, .int 0, .int 1])), (aexpr, .inr (1, [.int 0, .ref eD, .int 0]))] []) (va_A [(hh, .inr (13, [.ref aexpr, .ref achoo, .ref ameth, .ref aroom, .ref anod, .ref asort, .ref anote, .ref amet, .int 0, .int 1])), (aexpr, .inr (1, [.int 0, .ref eD, .int 0]))] sz)) 0 0 (va_A [(hh, .inr (13, [.ref aexpr, .ref achoo, .ref ameth, .ref aroom, .ref anod, .ref asort, .ref anote, .ref amet, .int 0, .int 1])), (aexpr, .inr (1, [.int 0, .ref eD, .int 0]))] sz) := by
  refine Met.ofW (cc := cX11_countOf) (maxL := 2) (ret := (some .int)) (by decide) rfl ?_
  intro p e s m args below meth c s₁ B hml hv
  obtain ⟨rfl, hsz, hP, hK, hD0, hE⟩ := hv
  have hx := B.exec
  have hb := B.bytes
  have hr := B.returns
  have hts := atoms_spec (ws := w_c_H_countOf_3) B.pre
  have hown : s.vm.findClass RX11 = some m.cls := findClass_of_methodNamed B.named
  have hlocks := B.notSynchronized
  subst hsz
  have hD := hD0.self (sz := s.heap.size)
  generalize hAe : va_A [(hh, .inr (13, [.ref aexpr, .ref achoo, .ref ameth, .ref aroom, .ref anod, .ref asort, .ref anote, .ref amet, .int 0, .int 1])), (aexpr, .inr (1, [.int 0, .ref eD, .int 0]))] s.heap.size = A at hD hE ⊢
  have hA : ∀ q : Nat, s.heap.size ≤ q → A q := fun q h => by rw [← hAe]; exact Or.inr h
  have hS : va_S A s.heap s.heap [] := va_S.rf
  have hP : va_P (dC, dI) vwCl [(hh, .inr (13, [.ref aexpr, .ref achoo, .ref ameth, .ref aroom, .ref anod, .ref asort, .ref anote, .ref amet, .int 0, .int 1])), (aexpr, .inr (1, [.int 0, .ref eD, .int 0]))] s.heap := hP
  have hl := lv_entry ([.ref hh, .int 3]) (n := 2) (Nat.le_of_ble_eq_true rfl)
  rw [lg_entry_eq]
  generalize (lg_sl ([.ref hh, .int 3]) ++ List.replicate (2 - (lg_sl ([.ref hh, .int 3])).length) Slot.unset).toArray = ls at hl ⊢
  have hl : lv_has ls 2 [(0, .ref hh), (1, .int 3)] := hl
  have in_RJx4a65c : ∀ w ∈ u_ws RJx4a65c TJx4a65c 3, w ∈ w_c_H_countOf_3 := by decide +kernel
  have in_RX11 : ∀ w ∈ u_ws RX11 TX11 10, w ∈ w_c_H_countOf_3 := by decide +kernel
  refine lv_iload_n hx hb dX11_countOf_0 rfl (lv_at hl 1 rfl) ?_
  refine lv_tableOut (tgt := 52) hx hb dX11_countOf_1 (by decide) (by decide) ?_
  refine lv_aload_n hx hb dX11_countOf_52 rfl (lv_at hl 0 rfl) ?_
  refine va_get (D := (dC, dI)) (ci := 13) (v := .ref aexpr) (C := RX11) (T := TX11) (N := 10) hx hb hts in_RX11 hown hK hP 0 rfl rfl 0 (by decide) (hts (.fieldLink RX11 12 "Hornbook" "expressions" "Ljava/util/ArrayList;") (by decide +kernel)) (fun _ h9 => h9) rfl dX11_countOf_53 ?_
  refine z_i (wr := [(hh, .inr (13, [.ref aexpr, .ref achoo, .ref ameth, .ref aroom, .ref anod, .ref asort, .ref anote, .ref amet, .int 0, .int 1]))]) (va_runV (As := []) (rest := []) ⟨hx, hb, hml, hown, hts⟩ (c_AL_size l eD eI ad dC dI s.heap.size aexpr ((.int 0)) ((.ref eD)) 0) (cwV 0 hts g_c_H_countOf_3_0 rfl rfl rfl (by decide +kernel) ⟨Nat.le_of_ble_eq_true rfl, Nat.le_of_ble_eq_true rfl⟩) (z_preV (wc := [(aexpr, .inr (1, [.int 0, .ref eD, .int 0]))]) hP hD hK hS hA hE [1] [] rfl (by decide) rfl (ci := 1) (q0 := 0) rfl rfl) rfl rfl hl.1 rfl (lv_room (Nat.le_of_ble_eq_true rfl)) dX11_countOf_56 ⟨Nat.le_of_ble_eq_true rfl, Nat.le_of_ble_eq_true rfl⟩) hP hD hK hS hA [1] [0] rfl rfl (by decide) (by decide) (fun r_1 u H locs hw_2 hP hD hK hS => ?_)
  obtain ⟨⟩ := u
  have hP : va_P (dC, dI) vwCl [(hh, .inr (13, [.ref aexpr, .ref achoo, .ref ameth, .ref aroom, .ref anod, .ref asort, .ref anote, .ref amet, .int 0, .int 1])), (aexpr, .inr (1, [.int 0, .ref eD, .int 0]))] H := hP
  have hD : va_D A [(hh, .inr (13, [.ref aexpr, .ref achoo, .ref ameth, .ref aroom, .ref anod, .ref asort, .ref anote, .ref amet, .int 0, .int 1])), (aexpr, .inr (1, [.int 0, .ref eD, .int 0]))] := hD
  have hK : va_K (dC, dI) vwCl [] s := by simpa using hK
  have hw_2 : r_1 = 0 := hw_2
  have hw_2 := hw_2.symm
  subst hw_2
  have hP9 := hP.sub (ws' := [(hh, .inr (13, [.ref aexpr, .ref achoo, .ref ameth, .ref aroom, .ref anod, .ref asort, .ref anote, .ref amet, .int 0, .int 1])), (aexpr, .inr (1, [.int 0, .ref eD, .int 0]))]) [0, 1] rfl
  have hD9 := hD.sub (ws' := [(hh, .inr (13, [.ref aexpr, .ref achoo, .ref ameth, .ref aroom, .ref anod, .ref asort, .ref anote, .ref amet, .int 0, .int 1])), (aexpr, .inr (1, [.int 0, .ref eD, .int 0]))]) [0, 1] (by decide) rfl
  have hK9 := hK.sub (tys' := []) [] rfl
  refine W.widen (k := 0) (n := 0) (Nat.le_of_ble_eq_true rfl) (Nat.le_of_ble_eq_true rfl) ?_
  exact W.iret (v := 0) hx hb hr (fun t ht hW => ⟨⟨0, (), rfl, rfl, ⟨by rw [ht]; exact hP9, va_K.moved hW.alike hK9, hD9⟩⟩, hS.F ht⟩) hS.2.2 dX11_countOf_59

def wb_c_H_roadAt_0 : List Cond := [.fieldLink RX11 38 "Hornbook" "nodes" "LHornbook$Nodes;", .code yX5_formOf cX5_formOf 2 (some .int), .fieldLink RX5 28 "Hornbook$Nodes" "second" "[J", .methodLink RX11 127 yX5_formOf, .instanceMethod yX5_formOf, .selects RX5 yX5_formOf yX5_formOf, .initialized RX5, .fieldLink RX11 42 "Hornbook" "sorts" "Ljava/util/ArrayList;", .code yJx4a65c_size_8abf5 cJx4a65c_size_8abf5 1 (some .int), .fieldLink RJx4a65c 48 "java/util/ArrayList" "size" "I", .methodLink RX11 73 yJx4a65c_size_8abf5, .instanceMethod yJx4a65c_size_8abf5, .selects RJx4a65c yJx4a65c_size_8abf5 yJx4a65c_size_8abf5, .initialized RJx4a65c] ++ u_ws RJx4a65c TJx4a65c 3 ++ u_ws RX11 TX11 10 ++ u_ws RX5 TX5 14
def w_c_H_roadAt_0 : List Cond := .code yX11_roadAt cX11_roadAt 5 (some .int) :: wb_c_H_roadAt_0
set_option maxRecDepth 100000 in
theorem g_c_H_roadAt_0_0 : GoodIn w_c_H_roadAt_0 (wsV RX11 127 RX5 yX5_formOf w_c_N_form_0) := goodIn_app (goodIn_of _ (by decide +kernel)) (goodIn_p (big := w_c_H_roadAt_0) (.code yX5_formOf cX5_formOf 2 (some .int) :: wb_c_N_form_0) [2] rfl (by decide +kernel))
set_option maxRecDepth 100000 in
theorem g_c_H_roadAt_0_1 : GoodIn w_c_H_roadAt_0 (wsV RX11 73 RJx4a65c yJx4a65c_size_8abf5 w_c_AL_size) := goodIn_app (goodIn_of _ (by decide +kernel)) (goodIn_p (big := w_c_H_roadAt_0) (.code yJx4a65c_size_8abf5 cJx4a65c_size_8abf5 1 (some .int) :: wb_c_AL_size) [9] rfl (by decide +kernel))
set_option maxHeartbeats 4000000 in
set_option maxRecDepth 100000 in
theorem c_H_roadAt_0 (l : Launch) (eD eI : Nat) (ad : Nat → Nat) (dC : Nat → ClassId) (dI : Nat → Nat → Nat) (sz : Nat) (hh : Nat) (aexpr : Nat) (achoo : Nat) (ameth : Nat) (aroom : Nat) (anod : Nat) (asort : Nat) (anote : Nat) (amet : Nat) (nm : Nat) (nl : Nat) (n1 : Nat) (n2 : Nat) (nf : Nat) (ns : Nat) (nh : Nat) (nk : Nat) (np : Nat) (kL : ClassId) (v : Int32) : Met l yX11_roadAt w_c_H_roadAt_0 ({ frames := 1, cells := 0, slots := 0, locals := 21 }) (va_Pc [.ref hh, .int 0, .int v] (zPre eD eI ad (dC, dI) [(hh, .inr (13, [.ref aexpr, .ref achoo, .ref ameth, .ref aroom, .ref anod, .ref asort, .ref anote, .ref amet, .int 0, .int 1])), (anod, .inr (7, [.ref nm, .ref nl, .ref n1, .ref n2, .ref nf, .ref ns, .ref nh, .ref nk, .ref np, .int 16, .int 0, .int 16, .int 0, .int 0])), (ns, .inl (kL, 1024, .inr (.inl zSec))), (asort, .inr (1, [.int 0, .ref eD, .int 0]))] [(kL, .long)] sz)) (va_Qi (fun (r : Int32) (_ : Unit) => r = (-1)) (fun (_ : Unit) => zEnd (dC, dI) (va_A [(hh, .inr (13, [.ref aexpr, .ref achoo, .ref ameth, .ref aroom, .ref anod, .ref asort, .ref anote, .ref amet, .int 0, .int 1])), (anod, .inr (7, [.ref nm, .ref nl, .ref n1, .ref n2, .ref nf, .ref ns, .ref nh, .ref nk, .ref np, .int 16, .int 0, .int 16, .int 0, .int 0])), (ns, .inl (kL, 1024, .inr (.inl zSec))), (asort, .inr (1, [.int 0, .ref eD, .int 0]))] sz) [(hh, .inr (13, [.ref aexpr, .ref achoo, .ref ameth, .ref aroom, .ref anod, .ref asort, .ref anote, .ref amet, .int 0, .int 1])), (anod, .inr (7, [.ref nm, .ref nl, .ref n1, .ref n2, .ref nf, .ref ns, .ref nh, .ref nk, .ref np, .int 16, .int 0, .int 16, .int 0, .int 0])), (ns, .inl (kL, 1024, .inr (.inl zSec))), (asort, .inr (1, [.int 0, .ref eD, .int 0]))] [(kL, .long)]) (va_A [(hh, .inr (13, [.ref aexpr, .ref achoo, .ref ameth, .ref aroom, .ref anod, .ref asort, .ref anote, .ref amet, .int 0, .int 1])), (anod, .inr (7, [.ref nm, .ref nl, .ref n1, .ref n2, .ref nf, .ref ns, .ref nh, .ref nk, .ref np, .int 16, .int 0, .int 16, .int 0, .int 0])), (ns, .inl (kL, 1024, .inr (.inl zSec))), (asort, .inr (1, [.int 0, .ref eD, .int 0]))] sz)) 0 0 (va_A [(hh, .inr (13, [.ref aexpr, .ref achoo, .ref ameth, .ref aroom, .ref anod, .ref asort, .ref anote, .ref amet, .int 0, .int 1])), (anod, .inr (7, [.ref nm, .ref nl, .ref n1, .ref n2, .ref nf, .ref ns, .ref nh, .ref nk, .ref np, .int 16, .int 0, .int 16, .int 0, .int 0])), (ns, .inl (kL, 1024, .inr (.inl zSec))), (asort, .inr (1, [.int 0, .ref eD, .int 0]))] sz) := by
  refine Met.ofW (cc := cX11_roadAt) (maxL := 5) (ret := (some .int)) (by decide) rfl ?_
  intro p e s m args below meth c s₁ B hml hv
  obtain ⟨rfl, hsz, hP, hK, hD0, hE⟩ := hv
  have hx := B.exec
  have hb := B.bytes
  have hr := B.returns
  have hts := atoms_spec (ws := w_c_H_roadAt_0) B.pre
  have hown : s.vm.findClass RX11 = some m.cls := findClass_of_methodNamed B.named
  have hlocks := B.notSynchronized
  subst hsz
  have hD := hD0.self (sz := s.heap.size)
  generalize hAe : va_A [(hh, .inr (13, [.ref aexpr, .ref achoo, .ref ameth, .ref aroom, .ref anod, .ref asort, .ref anote, .ref amet, .int 0, .int 1])), (anod, .inr (7, [.ref nm, .ref nl, .ref n1, .ref n2, .ref nf, .ref ns, .ref nh, .ref nk, .ref np, .int 16, .int 0, .int 16, .int 0, .int 0])), (ns, .inl (kL, 1024, .inr (.inl zSec))), (asort, .inr (1, [.int 0, .ref eD, .int 0]))] s.heap.size = A at hD hE ⊢
  have hA : ∀ q : Nat, s.heap.size ≤ q → A q := fun q h => by rw [← hAe]; exact Or.inr h
  have hS : va_S A s.heap s.heap [] := va_S.rf
  have hP : va_P (dC, dI) vwCl [(hh, .inr (13, [.ref aexpr, .ref achoo, .ref ameth, .ref aroom, .ref anod, .ref asort, .ref anote, .ref amet, .int 0, .int 1])), (anod, .inr (7, [.ref nm, .ref nl, .ref n1, .ref n2, .ref nf, .ref ns, .ref nh, .ref nk, .ref np, .int 16, .int 0, .int 16, .int 0, .int 0])), (ns, .inl (kL, 1024, .inr (.inl zSec))), (asort, .inr (1, [.int 0, .ref eD, .int 0]))] s.heap := hP
  have hl := lv_entry ([.ref hh, .int 0, .int v]) (n := 5) (Nat.le_of_ble_eq_true rfl)
  rw [lg_entry_eq]
  generalize (lg_sl ([.ref hh, .int 0, .int v]) ++ List.replicate (5 - (lg_sl ([.ref hh, .int 0, .int v])).length) Slot.unset).toArray = ls at hl ⊢
  have hl : lv_has ls 5 [(0, .ref hh), (1, .int 0), (2, .int v)] := hl
  have in_RJx4a65c : ∀ w ∈ u_ws RJx4a65c TJx4a65c 3, w ∈ w_c_H_roadAt_0 := by decide +kernel
  have in_RX11 : ∀ w ∈ u_ws RX11 TX11 10, w ∈ w_c_H_roadAt_0 := by decide +kernel
  have in_RX5 : ∀ w ∈ u_ws RX5 TX5 14, w ∈ w_c_H_roadAt_0 := by decide +kernel
  refine lv_aload_n hx hb dX11_roadAt_0 rfl (lv_at hl 0 rfl) ?_
  refine va_get (D := (dC, dI)) (ci := 13) (v := .ref anod) (C := RX11) (T := TX11) (N := 10) hx hb hts in_RX11 hown hK hP 0 rfl rfl 4 (by decide) (hts (.fieldLink RX11 38 "Hornbook" "nodes" "LHornbook$Nodes;") (by decide +kernel)) (fun _ h9 => h9) rfl dX11_roadAt_1 ?_
  refine lv_iload_n hx hb dX11_roadAt_4 rfl (lv_at hl 1 rfl) ?_
  refine z_i (wr := [(hh, .inr (13, [.ref aexpr, .ref achoo, .ref ameth, .ref aroom, .ref anod, .ref asort, .ref anote, .ref amet, .int 0, .int 1])), (asort, .inr (1, [.int 0, .ref eD, .int 0]))]) (va_runV (As := [.int 0]) (rest := []) ⟨hx, hb, hml, hown, hts⟩ (c_N_form_0 l eD eI ad dC dI s.heap.size anod nm nl n1 n2 nf ns nh nk np kL) (cwV 1 hts g_c_H_roadAt_0_0 rfl rfl rfl (by decide +kernel) ⟨Nat.le_of_ble_eq_true rfl, Nat.le_of_ble_eq_true rfl⟩) (z_preV (wc := [(anod, .inr (7, [.ref nm, .ref nl, .ref n1, .ref n2, .ref nf, .ref ns, .ref nh, .ref nk, .ref np, .int 16, .int 0, .int 16, .int 0, .int 0])), (ns, .inl (kL, 1024, .inr (.inl zSec)))]) hP hD hK hS hA hE [1, 2] [0] rfl (by decide) rfl (ci := 7) (q0 := 0) rfl rfl) rfl rfl hl.1 rfl (lv_room (Nat.le_of_ble_eq_true rfl)) dX11_roadAt_5 ⟨Nat.le_of_ble_eq_true rfl, Nat.le_of_ble_eq_true rfl⟩) hP hD hK hS hA [1, 2] [0, 3] rfl rfl (by decide) (by decide) (fun r_1 u H locs hw_2 hP hD hK hS => ?_)
  obtain ⟨⟩ := u
  have hP : va_P (dC, dI) vwCl [(hh, .inr (13, [.ref aexpr, .ref achoo, .ref ameth, .ref aroom, .ref anod, .ref asort, .ref anote, .ref amet, .int 0, .int 1])), (asort, .inr (1, [.int 0, .ref eD, .int 0])), (anod, .inr (7, [.ref nm, .ref nl, .ref n1, .ref n2, .ref nf, .ref ns, .ref nh, .ref nk, .ref np, .int 16, .int 0, .int 16, .int 0, .int 0])), (ns, .inl (kL, 1024, .inr (.inl zSec)))] H := hP
  have hD : va_D A [(hh, .inr (13, [.ref aexpr, .ref achoo, .ref ameth, .ref aroom, .ref anod, .ref asort, .ref anote, .ref amet, .int 0, .int 1])), (asort, .inr (1, [.int 0, .ref eD, .int 0])), (anod, .inr (7, [.ref nm, .ref nl, .ref n1, .ref n2, .ref nf, .ref ns, .ref nh, .ref nk, .ref np, .int 16, .int 0, .int 16, .int 0, .int 0])), (ns, .inl (kL, 1024, .inr (.inl zSec)))] := hD
  have hK : va_K (dC, dI) vwCl [(kL, .long), (kL, .long)] s := hK
  have hw_2 : r_1 = 14 := hw_2
  have hw_2 := hw_2.symm
  subst hw_2
  refine lv_istore_n (lv' := [(3, .int 14), (0, .ref hh), (1, .int 0), (2, .int v)]) hx hb dX11_roadAt_8 rfl hl (by decide) rfl (fun ls hl => ?_)
  refine lv_iload_n hx hb dX11_roadAt_9 rfl (lv_at hl 0 rfl) ?_
  refine lv_aload_n hx hb dX11_roadAt_10 rfl (lv_at hl 1 rfl) ?_
  refine va_get (D := (dC, dI)) (ci := 13) (v := .ref asort) (C := RX11) (T := TX11) (N := 10) hx hb hts in_RX11 hown hK hP 0 rfl rfl 5 (by decide) (hts (.fieldLink RX11 42 "Hornbook" "sorts" "Ljava/util/ArrayList;") (by decide +kernel)) (fun _ h9 => h9) rfl dX11_roadAt_11 ?_
  refine z_i (wr := [(hh, .inr (13, [.ref aexpr, .ref achoo, .ref ameth, .ref aroom, .ref anod, .ref asort, .ref anote, .ref amet, .int 0, .int 1])), (anod, .inr (7, [.ref nm, .ref nl, .ref n1, .ref n2, .ref nf, .ref ns, .ref nh, .ref nk, .ref np, .int 16, .int 0, .int 16, .int 0, .int 0])), (ns, .inl (kL, 1024, .inr (.inl zSec)))]) (va_runV (As := []) (rest := [.int 14]) ⟨hx, hb, hml, hown, hts⟩ (c_AL_size l eD eI ad dC dI H.size asort ((.int 0)) ((.ref eD)) 0) (cwV 0 hts g_c_H_roadAt_0_1 rfl rfl rfl (by decide +kernel) ⟨Nat.le_of_ble_eq_true rfl, Nat.le_of_ble_eq_true rfl⟩) (z_preV (wc := [(asort, .inr (1, [.int 0, .ref eD, .int 0]))]) hP hD hK hS hA hE [1] [] rfl (by decide) rfl (ci := 1) (q0 := 0) rfl rfl) rfl rfl hl.1 rfl (lv_room (Nat.le_of_ble_eq_true rfl)) dX11_roadAt_14 ⟨Nat.le_of_ble_eq_true rfl, Nat.le_of_ble_eq_true rfl⟩) hP hD hK hS hA [1] [0, 2, 3] rfl rfl (by decide) (by decide) (fun r_3 u H locs hw_4 hP hD hK hS => ?_)
  obtain ⟨⟩ := u
  have hP : va_P (dC, dI) vwCl [(hh, .inr (13, [.ref aexpr, .ref achoo, .ref ameth, .ref aroom, .ref anod, .ref asort, .ref anote, .ref amet, .int 0, .int 1])), (anod, .inr (7, [.ref nm, .ref nl, .ref n1, .ref n2, .ref nf, .ref ns, .ref nh, .ref nk, .ref np, .int 16, .int 0, .int 16, .int 0, .int 0])), (ns, .inl (kL, 1024, .inr (.inl zSec))), (asort, .inr (1, [.int 0, .ref eD, .int 0]))] H := hP
  have hD : va_D A [(hh, .inr (13, [.ref aexpr, .ref achoo, .ref ameth, .ref aroom, .ref anod, .ref asort, .ref anote, .ref amet, .int 0, .int 1])), (anod, .inr (7, [.ref nm, .ref nl, .ref n1, .ref n2, .ref nf, .ref ns, .ref nh, .ref nk, .ref np, .int 16, .int 0, .int 16, .int 0, .int 0])), (ns, .inl (kL, 1024, .inr (.inl zSec))), (asort, .inr (1, [.int 0, .ref eD, .int 0]))] := hD
  have hK : va_K (dC, dI) vwCl [(kL, .long), (kL, .long)] s := by simpa using hK
  have hw_4 : r_3 = 0 := hw_4
  have hw_4 := hw_4.symm
  subst hw_4
  refine lv_icmp_lt (tgt := 24) hx hb dX11_roadAt_17 (by decide) (fun c_5 => ?_) (fun c_5 => ?_)
  · exact absurd c_5 (by decide)
  refine lv_iconst (v := (-1)) hx hb dX11_roadAt_20 (by decide) ?_
  refine lv_goto (tgt := 39) hx hb dX11_roadAt_21 (by decide) ?_
  refine lv_istore (lv' := [(4, .int (-1)), (3, .int 14), (0, .ref hh), (1, .int 0), (2, .int v)]) hx hb dX11_roadAt_39 hl (by decide) rfl (fun ls hl => ?_)
  refine lv_iload hx hb dX11_roadAt_41 (lv_at hl 0 rfl) ?_
  refine lv_iconst (v := (-1)) hx hb dX11_roadAt_43 (by decide) ?_
  refine lv_icmp_eq (tgt := 53) hx hb dX11_roadAt_44 (by decide) (fun c_6 => ?_) (fun c_6 => ?_)
  rotate_left
  · exact absurd (by decide) c_6
  refine lv_iload hx hb dX11_roadAt_53 (lv_at hl 0 rfl) ?_
  refine lv_iconst (v := (-1)) hx hb dX11_roadAt_55 (by decide) ?_
  refine lv_icmp_ne (tgt := 63) hx hb dX11_roadAt_56 (by decide) (fun c_7 => ?_) (fun c_7 => ?_)
  · exact absurd (by decide) c_7
  refine lv_iconst (v := (-1)) hx hb dX11_roadAt_59 (by decide) ?_
  refine lv_goto (tgt := 78) hx hb dX11_roadAt_60 (by decide) ?_
  have hP9 := hP.sub (ws' := [(hh, .inr (13, [.ref aexpr, .ref achoo, .ref ameth, .ref aroom, .ref anod, .ref asort, .ref anote, .ref amet, .int 0, .int 1])), (anod, .inr (7, [.ref nm, .ref nl, .ref n1, .ref n2, .ref nf, .ref ns, .ref nh, .ref nk, .ref np, .int 16, .int 0, .int 16, .int 0, .int 0])), (ns, .inl (kL, 1024, .inr (.inl zSec))), (asort, .inr (1, [.int 0, .ref eD, .int 0]))]) [0, 1, 2, 3] rfl
  have hD9 := hD.sub (ws' := [(hh, .inr (13, [.ref aexpr, .ref achoo, .ref ameth, .ref aroom, .ref anod, .ref asort, .ref anote, .ref amet, .int 0, .int 1])), (anod, .inr (7, [.ref nm, .ref nl, .ref n1, .ref n2, .ref nf, .ref ns, .ref nh, .ref nk, .ref np, .int 16, .int 0, .int 16, .int 0, .int 0])), (ns, .inl (kL, 1024, .inr (.inl zSec))), (asort, .inr (1, [.int 0, .ref eD, .int 0]))]) [0, 1, 2, 3] (by decide) rfl
  have hK9 := hK.sub (tys' := [(kL, .long)]) [0] rfl
  refine W.widen (k := 0) (n := 0) (Nat.le_of_ble_eq_true rfl) (Nat.le_of_ble_eq_true rfl) ?_
  exact W.iret (v := (-1)) hx hb hr (fun t ht hW => ⟨⟨(-1), (), rfl, rfl, ⟨by rw [ht]; exact hP9, va_K.moved hW.alike hK9, hD9⟩⟩, hS.F ht⟩) hS.2.2 dX11_roadAt_78

def wb_c_H_roadAt_1 : List Cond := [.fieldLink RX11 38 "Hornbook" "nodes" "LHornbook$Nodes;", .code yX5_formOf cX5_formOf 2 (some .int), .fieldLink RX5 28 "Hornbook$Nodes" "second" "[J", .methodLink RX11 127 yX5_formOf, .instanceMethod yX5_formOf, .selects RX5 yX5_formOf yX5_formOf, .initialized RX5, .fieldLink RX11 42 "Hornbook" "sorts" "Ljava/util/ArrayList;", .code yJx4a65c_size_8abf5 cJx4a65c_size_8abf5 1 (some .int), .fieldLink RJx4a65c 48 "java/util/ArrayList" "size" "I", .methodLink RX11 73 yJx4a65c_size_8abf5, .instanceMethod yJx4a65c_size_8abf5, .selects RJx4a65c yJx4a65c_size_8abf5 yJx4a65c_size_8abf5, .initialized RJx4a65c] ++ u_ws RJx4a65c TJx4a65c 3 ++ u_ws RX11 TX11 10 ++ u_ws RX5 TX5 14
def w_c_H_roadAt_1 : List Cond := .code yX11_roadAt cX11_roadAt 5 (some .int) :: wb_c_H_roadAt_1
set_option maxRecDepth 100000 in
theorem g_c_H_roadAt_1_0 : GoodIn w_c_H_roadAt_1 (wsV RX11 127 RX5 yX5_formOf w_c_N_form_1) := goodIn_app (goodIn_of _ (by decide +kernel)) (goodIn_p (big := w_c_H_roadAt_1) (.code yX5_formOf cX5_formOf 2 (some .int) :: wb_c_N_form_1) [2] rfl (by decide +kernel))
set_option maxRecDepth 100000 in
theorem g_c_H_roadAt_1_1 : GoodIn w_c_H_roadAt_1 (wsV RX11 73 RJx4a65c yJx4a65c_size_8abf5 w_c_AL_size) := goodIn_app (goodIn_of _ (by decide +kernel)) (goodIn_p (big := w_c_H_roadAt_1) (.code yJx4a65c_size_8abf5 cJx4a65c_size_8abf5 1 (some .int) :: wb_c_AL_size) [9] rfl (by decide +kernel))
set_option maxHeartbeats 4000000 in
set_option maxRecDepth 100000 in
theorem c_H_roadAt_1 (l : Launch) (eD eI : Nat) (ad : Nat → Nat) (dC : Nat → ClassId) (dI : Nat → Nat → Nat) (sz : Nat) (hh : Nat) (aexpr : Nat) (achoo : Nat) (ameth : Nat) (aroom : Nat) (anod : Nat) (asort : Nat) (anote : Nat) (amet : Nat) (nm : Nat) (nl : Nat) (n1 : Nat) (n2 : Nat) (nf : Nat) (ns : Nat) (nh : Nat) (nk : Nat) (np : Nat) (kL : ClassId) (v : Int32) : Met l yX11_roadAt w_c_H_roadAt_1 ({ frames := 1, cells := 0, slots := 0, locals := 21 }) (va_Pc [.ref hh, .int 1, .int v] (zPre eD eI ad (dC, dI) [(hh, .inr (13, [.ref aexpr, .ref achoo, .ref ameth, .ref aroom, .ref anod, .ref asort, .ref anote, .ref amet, .int 0, .int 1])), (anod, .inr (7, [.ref nm, .ref nl, .ref n1, .ref n2, .ref nf, .ref ns, .ref nh, .ref nk, .ref np, .int 16, .int 0, .int 16, .int 0, .int 0])), (ns, .inl (kL, 1024, .inr (.inl zSec))), (asort, .inr (1, [.int 0, .ref eD, .int 0]))] [(kL, .long)] sz)) (va_Qi (fun (r : Int32) (_ : Unit) => r = (-1)) (fun (_ : Unit) => zEnd (dC, dI) (va_A [(hh, .inr (13, [.ref aexpr, .ref achoo, .ref ameth, .ref aroom, .ref anod, .ref asort, .ref anote, .ref amet, .int 0, .int 1])), (anod, .inr (7, [.ref nm, .ref nl, .ref n1, .ref n2, .ref nf, .ref ns, .ref nh, .ref nk, .ref np, .int 16, .int 0, .int 16, .int 0, .int 0])), (ns, .inl (kL, 1024, .inr (.inl zSec))), (asort, .inr (1, [.int 0, .ref eD, .int 0]))] sz) [(hh, .inr (13, [.ref aexpr, .ref achoo, .ref ameth, .ref aroom, .ref anod, .ref asort, .ref anote, .ref amet, .int 0, .int 1])), (anod, .inr (7, [.ref nm, .ref nl, .ref n1, .ref n2, .ref nf, .ref ns, .ref nh, .ref nk, .ref np, .int 16, .int 0, .int 16, .int 0, .int 0])), (ns, .inl (kL, 1024, .inr (.inl zSec))), (asort, .inr (1, [.int 0, .ref eD, .int 0]))] [(kL, .long)]) (va_A [(hh, .inr (13, [.ref aexpr, .ref achoo, .ref ameth, .ref aroom, .ref anod, .ref asort, .ref anote, .ref amet, .int 0, .int 1])), (anod, .inr (7, [.ref nm, .ref nl, .ref n1, .ref n2, .ref nf, .ref ns, .ref nh, .ref nk, .ref np, .int 16, .int 0, .int 16, .int 0, .int 0])), (ns, .inl (kL, 1024, .inr (.inl zSec))), (asort, .inr (1, [.int 0, .ref eD, .int 0]))] sz)) 0 0 (va_A [(hh, .inr (13, [.ref aexpr, .ref achoo, .ref ameth, .ref aroom, .ref anod, .ref asort, .ref anote, .ref amet, .int 0, .int 1])), (anod, .inr (7, [.ref nm, .ref nl, .ref n1, .ref n2, .ref nf, .ref ns, .ref nh, .ref nk, .ref np, .int 16, .int 0, .int 16, .int 0, .int 0])), (ns, .inl (kL, 1024, .inr (.inl zSec))), (asort, .inr (1, [.int 0, .ref eD, .int 0]))] sz) := by
  refine Met.ofW (cc := cX11_roadAt) (maxL := 5) (ret := (some .int)) (by decide) rfl ?_
  intro p e s m args below meth c s₁ B hml hv
  obtain ⟨rfl, hsz, hP, hK, hD0, hE⟩ := hv
  have hx := B.exec
  have hb := B.bytes
  have hr := B.returns
  have hts := atoms_spec (ws := w_c_H_roadAt_1) B.pre
  have hown : s.vm.findClass RX11 = some m.cls := findClass_of_methodNamed B.named
  have hlocks := B.notSynchronized
  subst hsz
  have hD := hD0.self (sz := s.heap.size)
  generalize hAe : va_A [(hh, .inr (13, [.ref aexpr, .ref achoo, .ref ameth, .ref aroom, .ref anod, .ref asort, .ref anote, .ref amet, .int 0, .int 1])), (anod, .inr (7, [.ref nm, .ref nl, .ref n1, .ref n2, .ref nf, .ref ns, .ref nh, .ref nk, .ref np, .int 16, .int 0, .int 16, .int 0, .int 0])), (ns, .inl (kL, 1024, .inr (.inl zSec))), (asort, .inr (1, [.int 0, .ref eD, .int 0]))] s.heap.size = A at hD hE ⊢
  have hA : ∀ q : Nat, s.heap.size ≤ q → A q := fun q h => by rw [← hAe]; exact Or.inr h
  have hS : va_S A s.heap s.heap [] := va_S.rf
  have hP : va_P (dC, dI) vwCl [(hh, .inr (13, [.ref aexpr, .ref achoo, .ref ameth, .ref aroom, .ref anod, .ref asort, .ref anote, .ref amet, .int 0, .int 1])), (anod, .inr (7, [.ref nm, .ref nl, .ref n1, .ref n2, .ref nf, .ref ns, .ref nh, .ref nk, .ref np, .int 16, .int 0, .int 16, .int 0, .int 0])), (ns, .inl (kL, 1024, .inr (.inl zSec))), (asort, .inr (1, [.int 0, .ref eD, .int 0]))] s.heap := hP
  have hl := lv_entry ([.ref hh, .int 1, .int v]) (n := 5) (Nat.le_of_ble_eq_true rfl)
  rw [lg_entry_eq]
  generalize (lg_sl ([.ref hh, .int 1, .int v]) ++ List.replicate (5 - (lg_sl ([.ref hh, .int 1, .int v])).length) Slot.unset).toArray = ls at hl ⊢
  have hl : lv_has ls 5 [(0, .ref hh), (1, .int 1), (2, .int v)] := hl
  have in_RJx4a65c : ∀ w ∈ u_ws RJx4a65c TJx4a65c 3, w ∈ w_c_H_roadAt_1 := by decide +kernel
  have in_RX11 : ∀ w ∈ u_ws RX11 TX11 10, w ∈ w_c_H_roadAt_1 := by decide +kernel
  have in_RX5 : ∀ w ∈ u_ws RX5 TX5 14, w ∈ w_c_H_roadAt_1 := by decide +kernel
  refine lv_aload_n hx hb dX11_roadAt_0 rfl (lv_at hl 0 rfl) ?_
  refine va_get (D := (dC, dI)) (ci := 13) (v := .ref anod) (C := RX11) (T := TX11) (N := 10) hx hb hts in_RX11 hown hK hP 0 rfl rfl 4 (by decide) (hts (.fieldLink RX11 38 "Hornbook" "nodes" "LHornbook$Nodes;") (by decide +kernel)) (fun _ h9 => h9) rfl dX11_roadAt_1 ?_
  refine lv_iload_n hx hb dX11_roadAt_4 rfl (lv_at hl 1 rfl) ?_
  refine z_i (wr := [(hh, .inr (13, [.ref aexpr, .ref achoo, .ref ameth, .ref aroom, .ref anod, .ref asort, .ref anote, .ref amet, .int 0, .int 1])), (asort, .inr (1, [.int 0, .ref eD, .int 0]))]) (va_runV (As := [.int 1]) (rest := []) ⟨hx, hb, hml, hown, hts⟩ (c_N_form_1 l eD eI ad dC dI s.heap.size anod nm nl n1 n2 nf ns nh nk np kL) (cwV 1 hts g_c_H_roadAt_1_0 rfl rfl rfl (by decide +kernel) ⟨Nat.le_of_ble_eq_true rfl, Nat.le_of_ble_eq_true rfl⟩) (z_preV (wc := [(anod, .inr (7, [.ref nm, .ref nl, .ref n1, .ref n2, .ref nf, .ref ns, .ref nh, .ref nk, .ref np, .int 16, .int 0, .int 16, .int 0, .int 0])), (ns, .inl (kL, 1024, .inr (.inl zSec)))]) hP hD hK hS hA hE [1, 2] [0] rfl (by decide) rfl (ci := 7) (q0 := 0) rfl rfl) rfl rfl hl.1 rfl (lv_room (Nat.le_of_ble_eq_true rfl)) dX11_roadAt_5 ⟨Nat.le_of_ble_eq_true rfl, Nat.le_of_ble_eq_true rfl⟩) hP hD hK hS hA [1, 2] [0, 3] rfl rfl (by decide) (by decide) (fun r_1 u H locs hw_2 hP hD hK hS => ?_)
  obtain ⟨⟩ := u
  have hP : va_P (dC, dI) vwCl [(hh, .inr (13, [.ref aexpr, .ref achoo, .ref ameth, .ref aroom, .ref anod, .ref asort, .ref anote, .ref amet, .int 0, .int 1])), (asort, .inr (1, [.int 0, .ref eD, .int 0])), (anod, .inr (7, [.ref nm, .ref nl, .ref n1, .ref n2, .ref nf, .ref ns, .ref nh, .ref nk, .ref np, .int 16, .int 0, .int 16, .int 0, .int 0])), (ns, .inl (kL, 1024, .inr (.inl zSec)))] H := hP
  have hD : va_D A [(hh, .inr (13, [.ref aexpr, .ref achoo, .ref ameth, .ref aroom, .ref anod, .ref asort, .ref anote, .ref amet, .int 0, .int 1])), (asort, .inr (1, [.int 0, .ref eD, .int 0])), (anod, .inr (7, [.ref nm, .ref nl, .ref n1, .ref n2, .ref nf, .ref ns, .ref nh, .ref nk, .ref np, .int 16, .int 0, .int 16, .int 0, .int 0])), (ns, .inl (kL, 1024, .inr (.inl zSec)))] := hD
  have hK : va_K (dC, dI) vwCl [(kL, .long), (kL, .long)] s := hK
  have hw_2 : r_1 = 14 := hw_2
  have hw_2 := hw_2.symm
  subst hw_2
  refine lv_istore_n (lv' := [(3, .int 14), (0, .ref hh), (1, .int 1), (2, .int v)]) hx hb dX11_roadAt_8 rfl hl (by decide) rfl (fun ls hl => ?_)
  refine lv_iload_n hx hb dX11_roadAt_9 rfl (lv_at hl 0 rfl) ?_
  refine lv_aload_n hx hb dX11_roadAt_10 rfl (lv_at hl 1 rfl) ?_
  refine va_get (D := (dC, dI)) (ci := 13) (v := .ref asort) (C := RX11) (T := TX11) (N := 10) hx hb hts in_RX11 hown hK hP 0 rfl rfl 5 (by decide) (hts (.fieldLink RX11 42 "Hornbook" "sorts" "Ljava/util/ArrayList;") (by decide +kernel)) (fun _ h9 => h9) rfl dX11_roadAt_11 ?_
  refine z_i (wr := [(hh, .inr (13, [.ref aexpr, .ref achoo, .ref ameth, .ref aroom, .ref anod, .ref asort, .ref anote, .ref amet, .int 0, .int 1])), (anod, .inr (7, [.ref nm, .ref nl, .ref n1, .ref n2, .ref nf, .ref ns, .ref nh, .ref nk, .ref np, .int 16, .int 0, .int 16, .int 0, .int 0])), (ns, .inl (kL, 1024, .inr (.inl zSec)))]) (va_runV (As := []) (rest := [.int 14]) ⟨hx, hb, hml, hown, hts⟩ (c_AL_size l eD eI ad dC dI H.size asort ((.int 0)) ((.ref eD)) 0) (cwV 0 hts g_c_H_roadAt_1_1 rfl rfl rfl (by decide +kernel) ⟨Nat.le_of_ble_eq_true rfl, Nat.le_of_ble_eq_true rfl⟩) (z_preV (wc := [(asort, .inr (1, [.int 0, .ref eD, .int 0]))]) hP hD hK hS hA hE [1] [] rfl (by decide) rfl (ci := 1) (q0 := 0) rfl rfl) rfl rfl hl.1 rfl (lv_room (Nat.le_of_ble_eq_true rfl)) dX11_roadAt_14 ⟨Nat.le_of_ble_eq_true rfl, Nat.le_of_ble_eq_true rfl⟩) hP hD hK hS hA [1] [0, 2, 3] rfl rfl (by decide) (by decide) (fun r_3 u H locs hw_4 hP hD hK hS => ?_)
  obtain ⟨⟩ := u
  have hP : va_P (dC, dI) vwCl [(hh, .inr (13, [.ref aexpr, .ref achoo, .ref ameth, .ref aroom, .ref anod, .ref asort, .ref anote, .ref amet, .int 0, .int 1])), (anod, .inr (7, [.ref nm, .ref nl, .ref n1, .ref n2, .ref nf, .ref ns, .ref nh, .ref nk, .ref np, .int 16, .int 0, .int 16, .int 0, .int 0])), (ns, .inl (kL, 1024, .inr (.inl zSec))), (asort, .inr (1, [.int 0, .ref eD, .int 0]))] H := hP
  have hD : va_D A [(hh, .inr (13, [.ref aexpr, .ref achoo, .ref ameth, .ref aroom, .ref anod, .ref asort, .ref anote, .ref amet, .int 0, .int 1])), (anod, .inr (7, [.ref nm, .ref nl, .ref n1, .ref n2, .ref nf, .ref ns, .ref nh, .ref nk, .ref np, .int 16, .int 0, .int 16, .int 0, .int 0])), (ns, .inl (kL, 1024, .inr (.inl zSec))), (asort, .inr (1, [.int 0, .ref eD, .int 0]))] := hD
  have hK : va_K (dC, dI) vwCl [(kL, .long), (kL, .long)] s := by simpa using hK
  have hw_4 : r_3 = 0 := hw_4
  have hw_4 := hw_4.symm
  subst hw_4
  refine lv_icmp_lt (tgt := 24) hx hb dX11_roadAt_17 (by decide) (fun c_5 => ?_) (fun c_5 => ?_)
  · exact absurd c_5 (by decide)
  refine lv_iconst (v := (-1)) hx hb dX11_roadAt_20 (by decide) ?_
  refine lv_goto (tgt := 39) hx hb dX11_roadAt_21 (by decide) ?_
  refine lv_istore (lv' := [(4, .int (-1)), (3, .int 14), (0, .ref hh), (1, .int 1), (2, .int v)]) hx hb dX11_roadAt_39 hl (by decide) rfl (fun ls hl => ?_)
  refine lv_iload hx hb dX11_roadAt_41 (lv_at hl 0 rfl) ?_
  refine lv_iconst (v := (-1)) hx hb dX11_roadAt_43 (by decide) ?_
  refine lv_icmp_eq (tgt := 53) hx hb dX11_roadAt_44 (by decide) (fun c_6 => ?_) (fun c_6 => ?_)
  rotate_left
  · exact absurd (by decide) c_6
  refine lv_iload hx hb dX11_roadAt_53 (lv_at hl 0 rfl) ?_
  refine lv_iconst (v := (-1)) hx hb dX11_roadAt_55 (by decide) ?_
  refine lv_icmp_ne (tgt := 63) hx hb dX11_roadAt_56 (by decide) (fun c_7 => ?_) (fun c_7 => ?_)
  · exact absurd (by decide) c_7
  refine lv_iconst (v := (-1)) hx hb dX11_roadAt_59 (by decide) ?_
  refine lv_goto (tgt := 78) hx hb dX11_roadAt_60 (by decide) ?_
  have hP9 := hP.sub (ws' := [(hh, .inr (13, [.ref aexpr, .ref achoo, .ref ameth, .ref aroom, .ref anod, .ref asort, .ref anote, .ref amet, .int 0, .int 1])), (anod, .inr (7, [.ref nm, .ref nl, .ref n1, .ref n2, .ref nf, .ref ns, .ref nh, .ref nk, .ref np, .int 16, .int 0, .int 16, .int 0, .int 0])), (ns, .inl (kL, 1024, .inr (.inl zSec))), (asort, .inr (1, [.int 0, .ref eD, .int 0]))]) [0, 1, 2, 3] rfl
  have hD9 := hD.sub (ws' := [(hh, .inr (13, [.ref aexpr, .ref achoo, .ref ameth, .ref aroom, .ref anod, .ref asort, .ref anote, .ref amet, .int 0, .int 1])), (anod, .inr (7, [.ref nm, .ref nl, .ref n1, .ref n2, .ref nf, .ref ns, .ref nh, .ref nk, .ref np, .int 16, .int 0, .int 16, .int 0, .int 0])), (ns, .inl (kL, 1024, .inr (.inl zSec))), (asort, .inr (1, [.int 0, .ref eD, .int 0]))]) [0, 1, 2, 3] (by decide) rfl
  have hK9 := hK.sub (tys' := [(kL, .long)]) [0] rfl
  refine W.widen (k := 0) (n := 0) (Nat.le_of_ble_eq_true rfl) (Nat.le_of_ble_eq_true rfl) ?_
  exact W.iret (v := (-1)) hx hb hr (fun t ht hW => ⟨⟨(-1), (), rfl, rfl, ⟨by rw [ht]; exact hP9, va_K.moved hW.alike hK9, hD9⟩⟩, hS.F ht⟩) hS.2.2 dX11_roadAt_78

def wb_c_H_roadAt_2 : List Cond := [.fieldLink RX11 38 "Hornbook" "nodes" "LHornbook$Nodes;", .code yX5_formOf cX5_formOf 2 (some .int), .fieldLink RX5 28 "Hornbook$Nodes" "second" "[J", .methodLink RX11 127 yX5_formOf, .instanceMethod yX5_formOf, .selects RX5 yX5_formOf yX5_formOf, .initialized RX5, .fieldLink RX11 42 "Hornbook" "sorts" "Ljava/util/ArrayList;", .code yJx4a65c_size_8abf5 cJx4a65c_size_8abf5 1 (some .int), .fieldLink RJx4a65c 48 "java/util/ArrayList" "size" "I", .methodLink RX11 73 yJx4a65c_size_8abf5, .instanceMethod yJx4a65c_size_8abf5, .selects RJx4a65c yJx4a65c_size_8abf5 yJx4a65c_size_8abf5, .initialized RJx4a65c] ++ u_ws RJx4a65c TJx4a65c 3 ++ u_ws RX11 TX11 10 ++ u_ws RX5 TX5 14
def w_c_H_roadAt_2 : List Cond := .code yX11_roadAt cX11_roadAt 5 (some .int) :: wb_c_H_roadAt_2
set_option maxRecDepth 100000 in
theorem g_c_H_roadAt_2_0 : GoodIn w_c_H_roadAt_2 (wsV RX11 127 RX5 yX5_formOf w_c_N_form_2) := goodIn_app (goodIn_of _ (by decide +kernel)) (goodIn_p (big := w_c_H_roadAt_2) (.code yX5_formOf cX5_formOf 2 (some .int) :: wb_c_N_form_2) [2] rfl (by decide +kernel))
set_option maxRecDepth 100000 in
theorem g_c_H_roadAt_2_1 : GoodIn w_c_H_roadAt_2 (wsV RX11 73 RJx4a65c yJx4a65c_size_8abf5 w_c_AL_size) := goodIn_app (goodIn_of _ (by decide +kernel)) (goodIn_p (big := w_c_H_roadAt_2) (.code yJx4a65c_size_8abf5 cJx4a65c_size_8abf5 1 (some .int) :: wb_c_AL_size) [9] rfl (by decide +kernel))
set_option maxHeartbeats 4000000 in
set_option maxRecDepth 100000 in
theorem c_H_roadAt_2 (l : Launch) (eD eI : Nat) (ad : Nat → Nat) (dC : Nat → ClassId) (dI : Nat → Nat → Nat) (sz : Nat) (hh : Nat) (aexpr : Nat) (achoo : Nat) (ameth : Nat) (aroom : Nat) (anod : Nat) (asort : Nat) (anote : Nat) (amet : Nat) (nm : Nat) (nl : Nat) (n1 : Nat) (n2 : Nat) (nf : Nat) (ns : Nat) (nh : Nat) (nk : Nat) (np : Nat) (kL : ClassId) (v : Int32) : Met l yX11_roadAt w_c_H_roadAt_2 ({ frames := 1, cells := 0, slots := 0, locals := 21 }) (va_Pc [.ref hh, .int 2, .int v] (zPre eD eI ad (dC, dI) [(hh, .inr (13, [.ref aexpr, .ref achoo, .ref ameth, .ref aroom, .ref anod, .ref asort, .ref anote, .ref amet, .int 0, .int 1])), (anod, .inr (7, [.ref nm, .ref nl, .ref n1, .ref n2, .ref nf, .ref ns, .ref nh, .ref nk, .ref np, .int 16, .int 0, .int 16, .int 0, .int 0])), (ns, .inl (kL, 1024, .inr (.inl zSec))), (asort, .inr (1, [.int 0, .ref eD, .int 0]))] [(kL, .long)] sz)) (va_Qi (fun (r : Int32) (_ : Unit) => r = (-1)) (fun (_ : Unit) => zEnd (dC, dI) (va_A [(hh, .inr (13, [.ref aexpr, .ref achoo, .ref ameth, .ref aroom, .ref anod, .ref asort, .ref anote, .ref amet, .int 0, .int 1])), (anod, .inr (7, [.ref nm, .ref nl, .ref n1, .ref n2, .ref nf, .ref ns, .ref nh, .ref nk, .ref np, .int 16, .int 0, .int 16, .int 0, .int 0])), (ns, .inl (kL, 1024, .inr (.inl zSec))), (asort, .inr (1, [.int 0, .ref eD, .int 0]))] sz) [(hh, .inr (13, [.ref aexpr, .ref achoo, .ref ameth, .ref aroom, .ref anod, .ref asort, .ref anote, .ref amet, .int 0, .int 1])), (anod, .inr (7, [.ref nm, .ref nl, .ref n1, .ref n2, .ref nf, .ref ns, .ref nh, .ref nk, .ref np, .int 16, .int 0, .int 16, .int 0, .int 0])), (ns, .inl (kL, 1024, .inr (.inl zSec))), (asort, .inr (1, [.int 0, .ref eD, .int 0]))] [(kL, .long)]) (va_A [(hh, .inr (13, [.ref aexpr, .ref achoo, .ref ameth, .ref aroom, .ref anod, .ref asort, .ref anote, .ref amet, .int 0, .int 1])), (anod, .inr (7, [.ref nm, .ref nl, .ref n1, .ref n2, .ref nf, .ref ns, .ref nh, .ref nk, .ref np, .int 16, .int 0, .int 16, .int 0, .int 0])), (ns, .inl (kL, 1024, .inr (.inl zSec))), (asort, .inr (1, [.int 0, .ref eD, .int 0]))] sz)) 0 0 (va_A [(hh, .inr (13, [.ref aexpr, .ref achoo, .ref ameth, .ref aroom, .ref anod, .ref asort, .ref anote, .ref amet, .int 0, .int 1])), (anod, .inr (7, [.ref nm, .ref nl, .ref n1, .ref n2, .ref nf, .ref ns, .ref nh, .ref nk, .ref np, .int 16, .int 0, .int 16, .int 0, .int 0])), (ns, .inl (kL, 1024, .inr (.inl zSec))), (asort, .inr (1, [.int 0, .ref eD, .int 0]))] sz) := by
  refine Met.ofW (cc := cX11_roadAt) (maxL := 5) (ret := (some .int)) (by decide) rfl ?_
  intro p e s m args below meth c s₁ B hml hv
  obtain ⟨rfl, hsz, hP, hK, hD0, hE⟩ := hv
  have hx := B.exec
  have hb := B.bytes
  have hr := B.returns
  have hts := atoms_spec (ws := w_c_H_roadAt_2) B.pre
  have hown : s.vm.findClass RX11 = some m.cls := findClass_of_methodNamed B.named
  have hlocks := B.notSynchronized
  subst hsz
  have hD := hD0.self (sz := s.heap.size)
  generalize hAe : va_A [(hh, .inr (13, [.ref aexpr, .ref achoo, .ref ameth, .ref aroom, .ref anod, .ref asort, .ref anote, .ref amet, .int 0, .int 1])), (anod, .inr (7, [.ref nm, .ref nl, .ref n1, .ref n2, .ref nf, .ref ns, .ref nh, .ref nk, .ref np, .int 16, .int 0, .int 16, .int 0, .int 0])), (ns, .inl (kL, 1024, .inr (.inl zSec))), (asort, .inr (1, [.int 0, .ref eD, .int 0]))] s.heap.size = A at hD hE ⊢
  have hA : ∀ q : Nat, s.heap.size ≤ q → A q := fun q h => by rw [← hAe]; exact Or.inr h
  have hS : va_S A s.heap s.heap [] := va_S.rf
  have hP : va_P (dC, dI) vwCl [(hh, .inr (13, [.ref aexpr, .ref achoo, .ref ameth, .ref aroom, .ref anod, .ref asort, .ref anote, .ref amet, .int 0, .int 1])), (anod, .inr (7, [.ref nm, .ref nl, .ref n1, .ref n2, .ref nf, .ref ns, .ref nh, .ref nk, .ref np, .int 16, .int 0, .int 16, .int 0, .int 0])), (ns, .inl (kL, 1024, .inr (.inl zSec))), (asort, .inr (1, [.int 0, .ref eD, .int 0]))] s.heap := hP
  have hl := lv_entry ([.ref hh, .int 2, .int v]) (n := 5) (Nat.le_of_ble_eq_true rfl)
  rw [lg_entry_eq]
  generalize (lg_sl ([.ref hh, .int 2, .int v]) ++ List.replicate (5 - (lg_sl ([.ref hh, .int 2, .int v])).length) Slot.unset).toArray = ls at hl ⊢
  have hl : lv_has ls 5 [(0, .ref hh), (1, .int 2), (2, .int v)] := hl
  have in_RJx4a65c : ∀ w ∈ u_ws RJx4a65c TJx4a65c 3, w ∈ w_c_H_roadAt_2 := by decide +kernel
  have in_RX11 : ∀ w ∈ u_ws RX11 TX11 10, w ∈ w_c_H_roadAt_2 := by decide +kernel
  have in_RX5 : ∀ w ∈ u_ws RX5 TX5 14, w ∈ w_c_H_roadAt_2 := by decide +kernel
  refine lv_aload_n hx hb dX11_roadAt_0 rfl (lv_at hl 0 rfl) ?_
  refine va_get (D := (dC, dI)) (ci := 13) (v := .ref anod) (C := RX11) (T := TX11) (N := 10) hx hb hts in_RX11 hown hK hP 0 rfl rfl 4 (by decide) (hts (.fieldLink RX11 38 "Hornbook" "nodes" "LHornbook$Nodes;") (by decide +kernel)) (fun _ h9 => h9) rfl dX11_roadAt_1 ?_
  refine lv_iload_n hx hb dX11_roadAt_4 rfl (lv_at hl 1 rfl) ?_
  refine z_i (wr := [(hh, .inr (13, [.ref aexpr, .ref achoo, .ref ameth, .ref aroom, .ref anod, .ref asort, .ref anote, .ref amet, .int 0, .int 1])), (asort, .inr (1, [.int 0, .ref eD, .int 0]))]) (va_runV (As := [.int 2]) (rest := []) ⟨hx, hb, hml, hown, hts⟩ (c_N_form_2 l eD eI ad dC dI s.heap.size anod nm nl n1 n2 nf ns nh nk np kL) (cwV 1 hts g_c_H_roadAt_2_0 rfl rfl rfl (by decide +kernel) ⟨Nat.le_of_ble_eq_true rfl, Nat.le_of_ble_eq_true rfl⟩) (z_preV (wc := [(anod, .inr (7, [.ref nm, .ref nl, .ref n1, .ref n2, .ref nf, .ref ns, .ref nh, .ref nk, .ref np, .int 16, .int 0, .int 16, .int 0, .int 0])), (ns, .inl (kL, 1024, .inr (.inl zSec)))]) hP hD hK hS hA hE [1, 2] [0] rfl (by decide) rfl (ci := 7) (q0 := 0) rfl rfl) rfl rfl hl.1 rfl (lv_room (Nat.le_of_ble_eq_true rfl)) dX11_roadAt_5 ⟨Nat.le_of_ble_eq_true rfl, Nat.le_of_ble_eq_true rfl⟩) hP hD hK hS hA [1, 2] [0, 3] rfl rfl (by decide) (by decide) (fun r_1 u H locs hw_2 hP hD hK hS => ?_)
  obtain ⟨⟩ := u
  have hP : va_P (dC, dI) vwCl [(hh, .inr (13, [.ref aexpr, .ref achoo, .ref ameth, .ref aroom, .ref anod, .ref asort, .ref anote, .ref amet, .int 0, .int 1])), (asort, .inr (1, [.int 0, .ref eD, .int 0])), (anod, .inr (7, [.ref nm, .ref nl, .ref n1, .ref n2, .ref nf, .ref ns, .ref nh, .ref nk, .ref np, .int 16, .int 0, .int 16, .int 0, .int 0])), (ns, .inl (kL, 1024, .inr (.inl zSec)))] H := hP
  have hD : va_D A [(hh, .inr (13, [.ref aexpr, .ref achoo, .ref ameth, .ref aroom, .ref anod, .ref asort, .ref anote, .ref amet, .int 0, .int 1])), (asort, .inr (1, [.int 0, .ref eD, .int 0])), (anod, .inr (7, [.ref nm, .ref nl, .ref n1, .ref n2, .ref nf, .ref ns, .ref nh, .ref nk, .ref np, .int 16, .int 0, .int 16, .int 0, .int 0])), (ns, .inl (kL, 1024, .inr (.inl zSec)))] := hD
  have hK : va_K (dC, dI) vwCl [(kL, .long), (kL, .long)] s := hK
  have hw_2 : r_1 = 14 := hw_2
  have hw_2 := hw_2.symm
  subst hw_2
  refine lv_istore_n (lv' := [(3, .int 14), (0, .ref hh), (1, .int 2), (2, .int v)]) hx hb dX11_roadAt_8 rfl hl (by decide) rfl (fun ls hl => ?_)
  refine lv_iload_n hx hb dX11_roadAt_9 rfl (lv_at hl 0 rfl) ?_
  refine lv_aload_n hx hb dX11_roadAt_10 rfl (lv_at hl 1 rfl) ?_
  refine va_get (D := (dC, dI)) (ci := 13) (v := .ref asort) (C := RX11) (T := TX11) (N := 10) hx hb hts in_RX11 hown hK hP 0 rfl rfl 5 (by decide) (hts (.fieldLink RX11 42 "Hornbook" "sorts" "Ljava/util/ArrayList;") (by decide +kernel)) (fun _ h9 => h9) rfl dX11_roadAt_11 ?_
  refine z_i (wr := [(hh, .inr (13, [.ref aexpr, .ref achoo, .ref ameth, .ref aroom, .ref anod, .ref asort, .ref anote, .ref amet, .int 0, .int 1])), (anod, .inr (7, [.ref nm, .ref nl, .ref n1, .ref n2, .ref nf, .ref ns, .ref nh, .ref nk, .ref np, .int 16, .int 0, .int 16, .int 0, .int 0])), (ns, .inl (kL, 1024, .inr (.inl zSec)))]) (va_runV (As := []) (rest := [.int 14]) ⟨hx, hb, hml, hown, hts⟩ (c_AL_size l eD eI ad dC dI H.size asort ((.int 0)) ((.ref eD)) 0) (cwV 0 hts g_c_H_roadAt_2_1 rfl rfl rfl (by decide +kernel) ⟨Nat.le_of_ble_eq_true rfl, Nat.le_of_ble_eq_true rfl⟩) (z_preV (wc := [(asort, .inr (1, [.int 0, .ref eD, .int 0]))]) hP hD hK hS hA hE [1] [] rfl (by decide) rfl (ci := 1) (q0 := 0) rfl rfl) rfl rfl hl.1 rfl (lv_room (Nat.le_of_ble_eq_true rfl)) dX11_roadAt_14 ⟨Nat.le_of_ble_eq_true rfl, Nat.le_of_ble_eq_true rfl⟩) hP hD hK hS hA [1] [0, 2, 3] rfl rfl (by decide) (by decide) (fun r_3 u H locs hw_4 hP hD hK hS => ?_)
  obtain ⟨⟩ := u
  have hP : va_P (dC, dI) vwCl [(hh, .inr (13, [.ref aexpr, .ref achoo, .ref ameth, .ref aroom, .ref anod, .ref asort, .ref anote, .ref amet, .int 0, .int 1])), (anod, .inr (7, [.ref nm, .ref nl, .ref n1, .ref n2, .ref nf, .ref ns, .ref nh, .ref nk, .ref np, .int 16, .int 0, .int 16, .int 0, .int 0])), (ns, .inl (kL, 1024, .inr (.inl zSec))), (asort, .inr (1, [.int 0, .ref eD, .int 0]))] H := hP
  have hD : va_D A [(hh, .inr (13, [.ref aexpr, .ref achoo, .ref ameth, .ref aroom, .ref anod, .ref asort, .ref anote, .ref amet, .int 0, .int 1])), (anod, .inr (7, [.ref nm, .ref nl, .ref n1, .ref n2, .ref nf, .ref ns, .ref nh, .ref nk, .ref np, .int 16, .int 0, .int 16, .int 0, .int 0])), (ns, .inl (kL, 1024, .inr (.inl zSec))), (asort, .inr (1, [.int 0, .ref eD, .int 0]))] := hD
  have hK : va_K (dC, dI) vwCl [(kL, .long), (kL, .long)] s := by simpa using hK
  have hw_4 : r_3 = 0 := hw_4
  have hw_4 := hw_4.symm
  subst hw_4
  refine lv_icmp_lt (tgt := 24) hx hb dX11_roadAt_17 (by decide) (fun c_5 => ?_) (fun c_5 => ?_)
  · exact absurd c_5 (by decide)
  refine lv_iconst (v := (-1)) hx hb dX11_roadAt_20 (by decide) ?_
  refine lv_goto (tgt := 39) hx hb dX11_roadAt_21 (by decide) ?_
  refine lv_istore (lv' := [(4, .int (-1)), (3, .int 14), (0, .ref hh), (1, .int 2), (2, .int v)]) hx hb dX11_roadAt_39 hl (by decide) rfl (fun ls hl => ?_)
  refine lv_iload hx hb dX11_roadAt_41 (lv_at hl 0 rfl) ?_
  refine lv_iconst (v := (-1)) hx hb dX11_roadAt_43 (by decide) ?_
  refine lv_icmp_eq (tgt := 53) hx hb dX11_roadAt_44 (by decide) (fun c_6 => ?_) (fun c_6 => ?_)
  rotate_left
  · exact absurd (by decide) c_6
  refine lv_iload hx hb dX11_roadAt_53 (lv_at hl 0 rfl) ?_
  refine lv_iconst (v := (-1)) hx hb dX11_roadAt_55 (by decide) ?_
  refine lv_icmp_ne (tgt := 63) hx hb dX11_roadAt_56 (by decide) (fun c_7 => ?_) (fun c_7 => ?_)
  · exact absurd (by decide) c_7
  refine lv_iconst (v := (-1)) hx hb dX11_roadAt_59 (by decide) ?_
  refine lv_goto (tgt := 78) hx hb dX11_roadAt_60 (by decide) ?_
  have hP9 := hP.sub (ws' := [(hh, .inr (13, [.ref aexpr, .ref achoo, .ref ameth, .ref aroom, .ref anod, .ref asort, .ref anote, .ref amet, .int 0, .int 1])), (anod, .inr (7, [.ref nm, .ref nl, .ref n1, .ref n2, .ref nf, .ref ns, .ref nh, .ref nk, .ref np, .int 16, .int 0, .int 16, .int 0, .int 0])), (ns, .inl (kL, 1024, .inr (.inl zSec))), (asort, .inr (1, [.int 0, .ref eD, .int 0]))]) [0, 1, 2, 3] rfl
  have hD9 := hD.sub (ws' := [(hh, .inr (13, [.ref aexpr, .ref achoo, .ref ameth, .ref aroom, .ref anod, .ref asort, .ref anote, .ref amet, .int 0, .int 1])), (anod, .inr (7, [.ref nm, .ref nl, .ref n1, .ref n2, .ref nf, .ref ns, .ref nh, .ref nk, .ref np, .int 16, .int 0, .int 16, .int 0, .int 0])), (ns, .inl (kL, 1024, .inr (.inl zSec))), (asort, .inr (1, [.int 0, .ref eD, .int 0]))]) [0, 1, 2, 3] (by decide) rfl
  have hK9 := hK.sub (tys' := [(kL, .long)]) [0] rfl
  refine W.widen (k := 0) (n := 0) (Nat.le_of_ble_eq_true rfl) (Nat.le_of_ble_eq_true rfl) ?_
  exact W.iret (v := (-1)) hx hb hr (fun t ht hW => ⟨⟨(-1), (), rfl, rfl, ⟨by rw [ht]; exact hP9, va_K.moved hW.alike hK9, hD9⟩⟩, hS.F ht⟩) hS.2.2 dX11_roadAt_78

def wb_c_H_mixed : List Cond := [.constantLong RX11 444 (31)]
def w_c_H_mixed : List Cond := .code yX11_mixed cX11_mixed 4 (some .long) :: wb_c_H_mixed
set_option maxHeartbeats 4000000 in
set_option maxRecDepth 100000 in
theorem c_H_mixed (l : Launch) (eD eI : Nat) (ad : Nat → Nat) (dC : Nat → ClassId) (dI : Nat → Nat → Nat) (sz : Nat) (d1 : Int64) (w1 : Int64) (d2 : Int64) (h1 : d1 * 31 + w1 = d2) : Met l yX11_mixed w_c_H_mixed ({ frames := 0, cells := 0, slots := 0, locals := 0 }) (va_Pc [.long d1, .long w1] (zPre eD eI ad (dC, dI) [] [] sz)) (va_Ql (fun (r : Int64) (_ : Unit) => r = d2) (fun (_ : Unit) => zEnd (dC, dI) (va_A [] sz) [] []) (va_A [] sz)) 0 0 (va_A [] sz) := by
  refine Met.ofW (cc := cX11_mixed) (maxL := 4) (ret := (some .long)) (by decide) rfl ?_
  intro p e s m args below meth c s₁ B hml hv
  obtain ⟨rfl, hsz, hP, hK, hD0, hE⟩ := hv
  have hx := B.exec
  have hb := B.bytes
  have hr := B.returns
  have hts := atoms_spec (ws := w_c_H_mixed) B.pre
  have hown : s.vm.findClass RX11 = some m.cls := findClass_of_methodNamed B.named
  have hlocks := B.notSynchronized
  subst hsz
  have hD := hD0.self (sz := s.heap.size)
  generalize hAe : va_A [] s.heap.size = A at hD hE ⊢
  have hA : ∀ q : Nat, s.heap.size ≤ q → A q := fun q h => by rw [← hAe]; exact Or.inr h
  have hS : va_S A s.heap s.heap [] := va_S.rf
  have hP : va_P (dC, dI) vwCl [] s.heap := hP
  have hl := lv_entry ([.long d1, .long w1]) (n := 4) (Nat.le_of_ble_eq_true rfl)
  rw [lg_entry_eq]
  generalize (lg_sl ([.long d1, .long w1]) ++ List.replicate (4 - (lg_sl ([.long d1, .long w1])).length) Slot.unset).toArray = ls at hl ⊢
  have hl : lv_has ls 4 [(0, .long d1), (2, .long w1)] := hl
  refine lv_lload_n hx hb dX11_mixed_0 rfl (lv_at hl 0 rfl) ?_
  refine lv_ldc2 (v := 31) hx hb hown (hts (.constantLong RX11 444 (31)) (by decide +kernel)) dX11_mixed_1 ?_
  refine lv_lmul hx hb dX11_mixed_4 ?_
  refine lv_topl (fun x_1 ex_1 => ?_)
  refine lv_lload_n hx hb dX11_mixed_5 rfl (lv_at hl 1 rfl) ?_
  refine lv_ladd hx hb dX11_mixed_6 ?_
  refine z_top (v' := .long d2) (congrArg Value.long (by rw [ex_1]; exact h1)) ?_
  have hP9 := hP.sub (ws' := []) [] rfl
  have hD9 := hD.sub (ws' := []) [] (by decide) rfl
  have hK9 := hK.sub (tys' := []) [] rfl
  refine W.widen (k := 0) (n := 0) (Nat.le_of_ble_eq_true rfl) (Nat.le_of_ble_eq_true rfl) ?_
  exact W.lret (v := d2) hx hb hr (fun t ht hW => ⟨⟨d2, (), rfl, rfl, ⟨by rw [ht]; exact hP9, va_K.moved hW.alike hK9, hD9⟩⟩, hS.F ht⟩) hS.2.2 dX11_mixed_7

def wb_c_H_isHow_l : List Cond := []
def w_c_H_isHow_l : List Cond := .code yX11_isHow cX11_isHow 1 (some .boolean) :: wb_c_H_isHow_l
set_option maxHeartbeats 4000000 in
set_option maxRecDepth 100000 in
theorem c_H_isHow_l (l : Launch) (eD eI : Nat) (ad : Nat → Nat) (dC : Nat → ClassId) (dI : Nat → Nat → Nat) (sz : Nat) (v : Int32) (hv1 : v < 0) : Met l yX11_isHow w_c_H_isHow_l ({ frames := 0, cells := 0, slots := 0, locals := 0 }) (va_Pc [.int v] (zPre eD eI ad (dC, dI) [] [] sz)) (va_Qi (fun (r : Int32) (_ : Unit) => r = 0) (fun (_ : Unit) => zEnd (dC, dI) (va_A [] sz) [] []) (va_A [] sz)) 0 0 (va_A [] sz) := by
  refine Met.ofW (cc := cX11_isHow) (maxL := 1) (ret := (some .boolean)) (by decide) rfl ?_
  intro p e s m args below meth c s₁ B hml hv
  obtain ⟨rfl, hsz, hP, hK, hD0, hE⟩ := hv
  have hx := B.exec
  have hb := B.bytes
  have hr := B.returns
  have hts := atoms_spec (ws := w_c_H_isHow_l) B.pre
  have hown : s.vm.findClass RX11 = some m.cls := findClass_of_methodNamed B.named
  have hlocks := B.notSynchronized
  subst hsz
  have hD := hD0.self (sz := s.heap.size)
  generalize hAe : va_A [] s.heap.size = A at hD hE ⊢
  have hA : ∀ q : Nat, s.heap.size ≤ q → A q := fun q h => by rw [← hAe]; exact Or.inr h
  have hS : va_S A s.heap s.heap [] := va_S.rf
  have hP : va_P (dC, dI) vwCl [] s.heap := hP
  have hl := lv_entry ([.int v]) (n := 1) (Nat.le_of_ble_eq_true rfl)
  rw [lg_entry_eq]
  generalize (lg_sl ([.int v]) ++ List.replicate (1 - (lg_sl ([.int v])).length) Slot.unset).toArray = ls at hl ⊢
  have hl : lv_has ls 1 [(0, .int v)] := hl
  refine lv_iload_n hx hb dX11_isHow_0 rfl (lv_at hl 0 rfl) ?_
  refine lv_if_eq (tgt := 14) hx hb dX11_isHow_1 (by decide) (fun c_1 => ?_) (fun c_1 => ?_)
  · exact absurd c_1 ((Int32.ne_of_lt (Int32.lt_of_lt_of_le hv1 (by decide))))
  refine lv_iload_n hx hb dX11_isHow_4 rfl (lv_at hl 0 rfl) ?_
  refine lv_iconst (v := 1) hx hb dX11_isHow_5 (by decide) ?_
  refine lv_icmp_eq (tgt := 14) hx hb dX11_isHow_6 (by decide) (fun c_2 => ?_) (fun c_2 => ?_)
  · exact absurd c_2 ((Int32.ne_of_lt (Int32.lt_of_lt_of_le hv1 (by decide))))
  refine lv_iload_n hx hb dX11_isHow_9 rfl (lv_at hl 0 rfl) ?_
  refine lv_iconst (v := 2) hx hb dX11_isHow_10 (by decide) ?_
  refine lv_icmp_ne (tgt := 18) hx hb dX11_isHow_11 (by decide) (fun c_3 => ?_) (fun c_3 => ?_)
  rotate_left
  · exact absurd c_3 ((Int32.ne_of_lt (Int32.lt_of_lt_of_le hv1 (by decide))))
  refine lv_iconst (v := 0) hx hb dX11_isHow_18 (by decide) ?_
  have hP9 := hP.sub (ws' := []) [] rfl
  have hD9 := hD.sub (ws' := []) [] (by decide) rfl
  have hK9 := hK.sub (tys' := []) [] rfl
  refine W.widen (k := 0) (n := 0) (Nat.le_of_ble_eq_true rfl) (Nat.le_of_ble_eq_true rfl) ?_
  exact W.zret (v := 0) hx hb hr (by first | rfl | decide) (fun t ht hW => ⟨⟨0, (), rfl, rfl, ⟨by rw [ht]; exact hP9, va_K.moved hW.alike hK9, hD9⟩⟩, hS.F ht⟩) hS.2.2 dX11_isHow_19

def wb_c_H_isHow_h : List Cond := []
def w_c_H_isHow_h : List Cond := .code yX11_isHow cX11_isHow 1 (some .boolean) :: wb_c_H_isHow_h
set_option maxHeartbeats 4000000 in
set_option maxRecDepth 100000 in
theorem c_H_isHow_h (l : Launch) (eD eI : Nat) (ad : Nat → Nat) (dC : Nat → ClassId) (dI : Nat → Nat → Nat) (sz : Nat) (v : Int32) (hv0 : ¬ v < 0) (hv1 : 2 < v) : Met l yX11_isHow w_c_H_isHow_h ({ frames := 0, cells := 0, slots := 0, locals := 0 }) (va_Pc [.int v] (zPre eD eI ad (dC, dI) [] [] sz)) (va_Qi (fun (r : Int32) (_ : Unit) => r = 0) (fun (_ : Unit) => zEnd (dC, dI) (va_A [] sz) [] []) (va_A [] sz)) 0 0 (va_A [] sz) := by
  refine Met.ofW (cc := cX11_isHow) (maxL := 1) (ret := (some .boolean)) (by decide) rfl ?_
  intro p e s m args below meth c s₁ B hml hv
  obtain ⟨rfl, hsz, hP, hK, hD0, hE⟩ := hv
  have hx := B.exec
  have hb := B.bytes
  have hr := B.returns
  have hts := atoms_spec (ws := w_c_H_isHow_h) B.pre
  have hown : s.vm.findClass RX11 = some m.cls := findClass_of_methodNamed B.named
  have hlocks := B.notSynchronized
  subst hsz
  have hD := hD0.self (sz := s.heap.size)
  generalize hAe : va_A [] s.heap.size = A at hD hE ⊢
  have hA : ∀ q : Nat, s.heap.size ≤ q → A q := fun q h => by rw [← hAe]; exact Or.inr h
  have hS : va_S A s.heap s.heap [] := va_S.rf
  have hP : va_P (dC, dI) vwCl [] s.heap := hP
  have hl := lv_entry ([.int v]) (n := 1) (Nat.le_of_ble_eq_true rfl)
  rw [lg_entry_eq]
  generalize (lg_sl ([.int v]) ++ List.replicate (1 - (lg_sl ([.int v])).length) Slot.unset).toArray = ls at hl ⊢
  have hl : lv_has ls 1 [(0, .int v)] := hl
  refine lv_iload_n hx hb dX11_isHow_0 rfl (lv_at hl 0 rfl) ?_
  refine lv_if_eq (tgt := 14) hx hb dX11_isHow_1 (by decide) (fun c_1 => ?_) (fun c_1 => ?_)
  · exact absurd c_1 ((fun h => Int32.ne_of_lt (Int32.lt_of_le_of_lt (by decide) hv1) h.symm))
  refine lv_iload_n hx hb dX11_isHow_4 rfl (lv_at hl 0 rfl) ?_
  refine lv_iconst (v := 1) hx hb dX11_isHow_5 (by decide) ?_
  refine lv_icmp_eq (tgt := 14) hx hb dX11_isHow_6 (by decide) (fun c_2 => ?_) (fun c_2 => ?_)
  · exact absurd c_2 ((fun h => Int32.ne_of_lt (Int32.lt_of_le_of_lt (by decide) hv1) h.symm))
  refine lv_iload_n hx hb dX11_isHow_9 rfl (lv_at hl 0 rfl) ?_
  refine lv_iconst (v := 2) hx hb dX11_isHow_10 (by decide) ?_
  refine lv_icmp_ne (tgt := 18) hx hb dX11_isHow_11 (by decide) (fun c_3 => ?_) (fun c_3 => ?_)
  rotate_left
  · exact absurd c_3 ((fun h => Int32.ne_of_lt (Int32.lt_of_le_of_lt (by decide) hv1) h.symm))
  refine lv_iconst (v := 0) hx hb dX11_isHow_18 (by decide) ?_
  have hP9 := hP.sub (ws' := []) [] rfl
  have hD9 := hD.sub (ws' := []) [] (by decide) rfl
  have hK9 := hK.sub (tys' := []) [] rfl
  refine W.widen (k := 0) (n := 0) (Nat.le_of_ble_eq_true rfl) (Nat.le_of_ble_eq_true rfl) ?_
  exact W.zret (v := 0) hx hb hr (by first | rfl | decide) (fun t ht hW => ⟨⟨0, (), rfl, rfl, ⟨by rw [ht]; exact hP9, va_K.moved hW.alike hK9, hD9⟩⟩, hS.F ht⟩) hS.2.2 dX11_isHow_19

def wb_c_H_isHow_ok : List Cond := []
def w_c_H_isHow_ok : List Cond := .code yX11_isHow cX11_isHow 1 (some .boolean) :: wb_c_H_isHow_ok
set_option maxHeartbeats 4000000 in
set_option maxRecDepth 100000 in
theorem c_H_isHow_ok (l : Launch) (eD eI : Nat) (ad : Nat → Nat) (dC : Nat → ClassId) (dI : Nat → Nat → Nat) (sz : Nat) (v : Int32) (hw0 : ¬ v < 0) (hw1 : ¬ 2 < v) : Met l yX11_isHow w_c_H_isHow_ok ({ frames := 0, cells := 0, slots := 0, locals := 0 }) (va_Pc [.int v] (zPre eD eI ad (dC, dI) [] [] sz)) (va_Qi (fun (r : Int32) (_ : Unit) => r = 1) (fun (_ : Unit) => zEnd (dC, dI) (va_A [] sz) [] []) (va_A [] sz)) 0 0 (va_A [] sz) := by
  refine Met.ofW (cc := cX11_isHow) (maxL := 1) (ret := (some .boolean)) (by decide) rfl ?_
  intro p e s m args below meth c s₁ B hml hv
  obtain ⟨rfl, hsz, hP, hK, hD0, hE⟩ := hv
  have hx := B.exec
  have hb := B.bytes
  have hr := B.returns
  have hts := atoms_spec (ws := w_c_H_isHow_ok) B.pre
  have hown : s.vm.findClass RX11 = some m.cls := findClass_of_methodNamed B.named
  have hlocks := B.notSynchronized
  subst hsz
  have hD := hD0.self (sz := s.heap.size)
  generalize hAe : va_A [] s.heap.size = A at hD hE ⊢
  have hA : ∀ q : Nat, s.heap.size ≤ q → A q := fun q h => by rw [← hAe]; exact Or.inr h
  have hS : va_S A s.heap s.heap [] := va_S.rf
  have hP : va_P (dC, dI) vwCl [] s.heap := hP
  have hl := lv_entry ([.int v]) (n := 1) (Nat.le_of_ble_eq_true rfl)
  rw [lg_entry_eq]
  generalize (lg_sl ([.int v]) ++ List.replicate (1 - (lg_sl ([.int v])).length) Slot.unset).toArray = ls at hl ⊢
  have hl : lv_has ls 1 [(0, .int v)] := hl
  rcases z_split3 v with hv1 | ⟨hv0, hv1⟩ | rfl | rfl | rfl
  · exact absurd hv1 hw0
  · exact absurd hv1 hw1
  · refine lv_iload_n hx hb dX11_isHow_0 rfl (lv_at hl 0 rfl) ?_
    refine lv_if_eq (tgt := 14) hx hb dX11_isHow_1 (by decide) (fun c_1 => ?_) (fun c_1 => ?_)
    rotate_left
    · exact absurd (by decide) c_1
    refine lv_iconst (v := 1) hx hb dX11_isHow_14 (by decide) ?_
    refine lv_goto (tgt := 19) hx hb dX11_isHow_15 (by decide) ?_
    have hP9 := hP.sub (ws' := []) [] rfl
    have hD9 := hD.sub (ws' := []) [] (by decide) rfl
    have hK9 := hK.sub (tys' := []) [] rfl
    refine W.widen (k := 0) (n := 0) (Nat.le_of_ble_eq_true rfl) (Nat.le_of_ble_eq_true rfl) ?_
    exact W.zret (v := 1) hx hb hr (by first | rfl | decide) (fun t ht hW => ⟨⟨1, (), rfl, rfl, ⟨by rw [ht]; exact hP9, va_K.moved hW.alike hK9, hD9⟩⟩, hS.F ht⟩) hS.2.2 dX11_isHow_19
  · refine lv_iload_n hx hb dX11_isHow_0 rfl (lv_at hl 0 rfl) ?_
    refine lv_if_eq (tgt := 14) hx hb dX11_isHow_1 (by decide) (fun c_2 => ?_) (fun c_2 => ?_)
    · exact absurd c_2 (by decide)
    refine lv_iload_n hx hb dX11_isHow_4 rfl (lv_at hl 0 rfl) ?_
    refine lv_iconst (v := 1) hx hb dX11_isHow_5 (by decide) ?_
    refine lv_icmp_eq (tgt := 14) hx hb dX11_isHow_6 (by decide) (fun c_3 => ?_) (fun c_3 => ?_)
    rotate_left
    · exact absurd (by decide) c_3
    refine lv_iconst (v := 1) hx hb dX11_isHow_14 (by decide) ?_
    refine lv_goto (tgt := 19) hx hb dX11_isHow_15 (by decide) ?_
    have hP9 := hP.sub (ws' := []) [] rfl
    have hD9 := hD.sub (ws' := []) [] (by decide) rfl
    have hK9 := hK.sub (tys' := []) [] rfl
    refine W.widen (k := 0) (n := 0) (Nat.le_of_ble_eq_true rfl) (Nat.le_of_ble_eq_true rfl) ?_
    exact W.zret (v := 1) hx hb hr (by first | rfl | decide) (fun t ht hW => ⟨⟨1, (), rfl, rfl, ⟨by rw [ht]; exact hP9, va_K.moved hW.alike hK9, hD9⟩⟩, hS.F ht⟩) hS.2.2 dX11_isHow_19
  · refine lv_iload_n hx hb dX11_isHow_0 rfl (lv_at hl 0 rfl) ?_
    refine lv_if_eq (tgt := 14) hx hb dX11_isHow_1 (by decide) (fun c_4 => ?_) (fun c_4 => ?_)
    · exact absurd c_4 (by decide)
    refine lv_iload_n hx hb dX11_isHow_4 rfl (lv_at hl 0 rfl) ?_
    refine lv_iconst (v := 1) hx hb dX11_isHow_5 (by decide) ?_
    refine lv_icmp_eq (tgt := 14) hx hb dX11_isHow_6 (by decide) (fun c_5 => ?_) (fun c_5 => ?_)
    · exact absurd c_5 (by decide)
    refine lv_iload_n hx hb dX11_isHow_9 rfl (lv_at hl 0 rfl) ?_
    refine lv_iconst (v := 2) hx hb dX11_isHow_10 (by decide) ?_
    refine lv_icmp_ne (tgt := 18) hx hb dX11_isHow_11 (by decide) (fun c_6 => ?_) (fun c_6 => ?_)
    · exact absurd (by decide) c_6
    refine lv_iconst (v := 1) hx hb dX11_isHow_14 (by decide) ?_
    refine lv_goto (tgt := 19) hx hb dX11_isHow_15 (by decide) ?_
    have hP9 := hP.sub (ws' := []) [] rfl
    have hD9 := hD.sub (ws' := []) [] (by decide) rfl
    have hK9 := hK.sub (tys' := []) [] rfl
    refine W.widen (k := 0) (n := 0) (Nat.le_of_ble_eq_true rfl) (Nat.le_of_ble_eq_true rfl) ?_
    exact W.zret (v := 1) hx hb hr (by first | rfl | decide) (fun t ht hW => ⟨⟨1, (), rfl, rfl, ⟨by rw [ht]; exact hP9, va_K.moved hW.alike hK9, hD9⟩⟩, hS.F ht⟩) hS.2.2 dX11_isHow_19

def wb_c_S_new : List Cond := [.methodLink RX9 3 objectInit, .instanceMethod objectInit, .code objectInit ⟨#[0xb1]⟩ 1 none, .fieldLink RX9 9 "Hornbook$Sort" "first" "I", .fieldLink RX9 15 "Hornbook$Sort" "second" "I", .arrayClass .int, .fieldLink RX9 18 "Hornbook$Sort" "way" "[I"] ++ u_ws RX9 TX9 9
def w_c_S_new : List Cond := .code yX9_init cX9_init 1 none :: wb_c_S_new
set_option maxHeartbeats 4000000 in
set_option maxRecDepth 100000 in
theorem c_S_new (l : Launch) (eD eI : Nat) (ad : Nat → Nat) (dC : Nat → ClassId) (dI : Nat → Nat → Nat) (sz : Nat) (so : Nat) : Met l yX9_init w_c_S_new ({ frames := 1, cells := 1, slots := 12, locals := 12 }) (va_Pc [.ref so] (zPre eD eI ad (dC, dI) [(so, .inr (11, [.int 0, .int 0, .int 0, .int 0, .int 0, .int 0, .int 0, .null, .int 0]))] [] sz)) (va_Qv (fun (u : Nat × ClassId) => match u with | (sw, kw) => True) (fun (u : Nat × ClassId) => match u with | (sw, kw) => zEnd (dC, dI) (va_A [(so, .inr (11, [.int 0, .int 0, .int 0, .int 0, .int 0, .int 0, .int 0, .null, .int 0]))] sz) [(so, .inr (11, [.int 0, .int 0, .int 0, .int 0, .int (-1), .int (-1), .int 0, .ref sw, .int 0])), (sw, .inl (kw, 12, .inl (fun _ => 0)))] [(kw, .int)]) (va_A [(so, .inr (11, [.int 0, .int 0, .int 0, .int 0, .int 0, .int 0, .int 0, .null, .int 0]))] sz)) 1 12 (va_A [(so, .inr (11, [.int 0, .int 0, .int 0, .int 0, .int 0, .int 0, .int 0, .null, .int 0]))] sz) := by
  refine Met.ofW (cc := cX9_init) (maxL := 1) (ret := none) (by decide) rfl ?_
  intro p e s m args below meth c s₁ B hml hv
  obtain ⟨rfl, hsz, hP, hK, hD0, hE⟩ := hv
  have hx := B.exec
  have hb := B.bytes
  have hr := B.returns
  have hts := atoms_spec (ws := w_c_S_new) B.pre
  have hown : s.vm.findClass RX9 = some m.cls := findClass_of_methodNamed B.named
  have hlocks := B.notSynchronized
  have hin : meth.name = "<init>" := (name_of_methodNamed B.named B.method).1
  subst hsz
  have hD := hD0.self (sz := s.heap.size)
  generalize hAe : va_A [(so, .inr (11, [.int 0, .int 0, .int 0, .int 0, .int 0, .int 0, .int 0, .null, .int 0]))] s.heap.size = A at hD hE ⊢
  have hA : ∀ q : Nat, s.heap.size ≤ q → A q := fun q h => by rw [← hAe]; exact Or.inr h
  have hS : va_S A s.heap s.heap [] := va_S.rf
  have hP : va_P (dC, dI) vwCl [(so, .inr (11, [.int 0, .int 0, .int 0, .int 0, .int 0, .int 0, .int 0, .null, .int 0]))] s.heap := hP
  have hl := lv_entry ([.ref so]) (n := 1) (Nat.le_of_ble_eq_true rfl)
  rw [lg_entry_eq]
  generalize (lg_sl ([.ref so]) ++ List.replicate (1 - (lg_sl ([.ref so])).length) Slot.unset).toArray = ls at hl ⊢
  have hl : lv_has ls 1 [(0, .ref so)] := hl
  have in_RX9 : ∀ w ∈ u_ws RX9 TX9 9, w ∈ w_c_S_new := by decide +kernel
  refine lv_aload_n hx hb dX9_init_0 rfl (lv_at hl 0 rfl) ?_
  refine W.objInit hx hb hown (hts (.methodLink RX9 3 objectInit) (by decide +kernel)) (hts (.instanceMethod objectInit) (by decide +kernel)) (hts (.code objectInit ⟨#[0xb1]⟩ 1 none) (by decide +kernel)) rfl (by rw [hml]; exact hl.1) rfl dX9_init_1 (Nat.le_of_ble_eq_true rfl) (Nat.le_of_ble_eq_true rfl) ?_
  refine W.eq (g2 := F0 m 4 ls ([])) rfl ?_
  refine lv_aload_n hx hb dX9_init_4 rfl (lv_at hl 0 rfl) ?_
  refine lv_iconst (v := (-1)) hx hb dX9_init_5 (by decide) ?_
  refine va_put (D := (dC, dI)) (ci := 11) (v := .int (-1)) (ty := .int) (C := RX9) (T := TX9) (N := 9) hx hb hts in_RX9 tyX9 tyX9_ok nmX9 hown hK hP hD hS 0 rfl rfl 4 (by decide) (hts (.fieldLink RX9 9 "Hornbook$Sort" "first" "I") (by decide +kernel)) (fun _ h9 => h9) rfl (by decide +kernel) rfl rfl (Nat.le_of_ble_eq_true rfl) dX9_init_6 (fun H locs hP hD hS => ?_)
  have hP : va_P (dC, dI) vwCl [(so, .inr (11, [.int 0, .int 0, .int 0, .int 0, .int (-1), .int 0, .int 0, .null, .int 0]))] H := hP
  have hD : va_D A [(so, .inr (11, [.int 0, .int 0, .int 0, .int 0, .int (-1), .int 0, .int 0, .null, .int 0]))] := hD
  refine lv_aload_n hx hb dX9_init_9 rfl (lv_at hl 0 rfl) ?_
  refine lv_iconst (v := (-1)) hx hb dX9_init_10 (by decide) ?_
  refine va_put (D := (dC, dI)) (ci := 11) (v := .int (-1)) (ty := .int) (C := RX9) (T := TX9) (N := 9) hx hb hts in_RX9 tyX9 tyX9_ok nmX9 hown hK hP hD hS 0 rfl rfl 5 (by decide) (hts (.fieldLink RX9 15 "Hornbook$Sort" "second" "I") (by decide +kernel)) (fun _ h9 => h9) rfl (by decide +kernel) rfl rfl (Nat.le_of_ble_eq_true rfl) dX9_init_11 (fun H locs hP hD hS => ?_)
  have hP : va_P (dC, dI) vwCl [(so, .inr (11, [.int 0, .int 0, .int 0, .int 0, .int (-1), .int (-1), .int 0, .null, .int 0]))] H := hP
  have hD : va_D A [(so, .inr (11, [.int 0, .int 0, .int 0, .int 0, .int (-1), .int (-1), .int 0, .null, .int 0]))] := hD
  refine lv_aload_n hx hb dX9_init_14 rfl (lv_at hl 0 rfl) ?_
  refine lv_bipush (v := 12) hx hb dX9_init_15 (by decide) ?_
  refine va_newa (atype := .int) (ty := .int) (a0 := (12, .inl (fun _ => 0))) hx hb (hts (.arrayClass .int) (by decide +kernel)) rfl hK hP hD hS hA (fun _ => rfl) (by decide) (by decide) (Nat.le_of_ble_eq_true rfl) (Nat.le_of_ble_eq_true rfl) (Nat.le_of_ble_eq_true rfl) dX9_init_17 (fun q_1 k_2 H hK hP hD hS => ?_)
  have hP : va_P (dC, dI) vwCl [(so, .inr (11, [.int 0, .int 0, .int 0, .int 0, .int (-1), .int (-1), .int 0, .null, .int 0])), (q_1, .inl (k_2, 12, .inl (fun _ => 0)))] H := hP
  have hD : va_D A [(so, .inr (11, [.int 0, .int 0, .int 0, .int 0, .int (-1), .int (-1), .int 0, .null, .int 0])), (q_1, .inl (k_2, 12, .inl (fun _ => 0)))] := hD
  have hK : va_K (dC, dI) vwCl [(k_2, .int)] s := hK
  refine va_putF (D := (dC, dI)) (ci := 11) (v := .ref q_1) (ty := .array (.int)) (C := RX9) (T := TX9) (N := 9) hx hb hts in_RX9 tyX9 tyX9_ok nmX9 hown hK hP hD hS 0 rfl rfl 7 (by decide) (hts (.fieldLink RX9 18 "Hornbook$Sort" "way" "[I") (by decide +kernel)) (fun _ h9 => h9) rfl hin rfl (by decide +kernel) rfl rfl (Nat.le_of_ble_eq_true rfl) dX9_init_19 (fun H locs hP hD hS => ?_)
  have hP : va_P (dC, dI) vwCl [(so, .inr (11, [.int 0, .int 0, .int 0, .int 0, .int (-1), .int (-1), .int 0, .ref q_1, .int 0])), (q_1, .inl (k_2, 12, .inl (fun _ => 0)))] H := hP
  have hD : va_D A [(so, .inr (11, [.int 0, .int 0, .int 0, .int 0, .int (-1), .int (-1), .int 0, .ref q_1, .int 0])), (q_1, .inl (k_2, 12, .inl (fun _ => 0)))] := hD
  have hP9 := hP.sub (ws' := [(so, .inr (11, [.int 0, .int 0, .int 0, .int 0, .int (-1), .int (-1), .int 0, .ref q_1, .int 0])), (q_1, .inl (k_2, 12, .inl (fun _ => 0)))]) [0, 1] rfl
  have hD9 := hD.sub (ws' := [(so, .inr (11, [.int 0, .int 0, .int 0, .int 0, .int (-1), .int (-1), .int 0, .ref q_1, .int 0])), (q_1, .inl (k_2, 12, .inl (fun _ => 0)))]) [0, 1] (by decide) rfl
  have hK9 := hK.sub (tys' := [(k_2, .int)]) [0] rfl
  refine W.widen (k := 1) (n := 12) (Nat.le_of_ble_eq_true rfl) (Nat.le_of_ble_eq_true rfl) ?_
  exact W.vret hx hb hr (fun t ht hW => ⟨⟨(q_1, k_2), rfl, trivial, ⟨by rw [ht]; exact hP9, va_K.moved hW.alike hK9, hD9⟩⟩, hS.F ht⟩) hS.2.2 dX9_init_22

def wb_c_S_goesTo : List Cond := [.fieldLink RX9 28 "Hornbook$Sort" "above" "I"] ++ u_ws RX9 TX9 9
def w_c_S_goesTo : List Cond := .code yX9_goesTo cX9_goesTo 2 (some .boolean) :: wb_c_S_goesTo
set_option maxHeartbeats 4000000 in
set_option maxRecDepth 100000 in
theorem c_S_goesTo (l : Launch) (eD eI : Nat) (ad : Nat → Nat) (dC : Nat → ClassId) (dI : Nat → Nat → Nat) (sz : Nat) (so : Nat) (sw : Nat) (x1 : Int32) (x2 : Int32) (x3 : Int32) : Met l yX9_goesTo w_c_S_goesTo ({ frames := 0, cells := 0, slots := 0, locals := 0 }) (va_Pc [.ref so, .int 0] (zPre eD eI ad (dC, dI) [(so, .inr (11, [.int 0, .int x1, .int x2, .int x3, .int (-1), .int (-1), .int 0, .ref sw, .int 0]))] [] sz)) (va_Qi (fun (r : Int32) (_ : Unit) => r = 0) (fun (_ : Unit) => zEnd (dC, dI) (va_A [(so, .inr (11, [.int 0, .int x1, .int x2, .int x3, .int (-1), .int (-1), .int 0, .ref sw, .int 0]))] sz) [(so, .inr (11, [.int 0, .int x1, .int x2, .int x3, .int (-1), .int (-1), .int 0, .ref sw, .int 0]))] []) (va_A [(so, .inr (11, [.int 0, .int x1, .int x2, .int x3, .int (-1), .int (-1), .int 0, .ref sw, .int 0]))] sz)) 0 0 (va_A [(so, .inr (11, [.int 0, .int x1, .int x2, .int x3, .int (-1), .int (-1), .int 0, .ref sw, .int 0]))] sz) := by
  refine Met.ofW (cc := cX9_goesTo) (maxL := 2) (ret := (some .boolean)) (by decide) rfl ?_
  intro p e s m args below meth c s₁ B hml hv
  obtain ⟨rfl, hsz, hP, hK, hD0, hE⟩ := hv
  have hx := B.exec
  have hb := B.bytes
  have hr := B.returns
  have hts := atoms_spec (ws := w_c_S_goesTo) B.pre
  have hown : s.vm.findClass RX9 = some m.cls := findClass_of_methodNamed B.named
  have hlocks := B.notSynchronized
  subst hsz
  have hD := hD0.self (sz := s.heap.size)
  generalize hAe : va_A [(so, .inr (11, [.int 0, .int x1, .int x2, .int x3, .int (-1), .int (-1), .int 0, .ref sw, .int 0]))] s.heap.size = A at hD hE ⊢
  have hA : ∀ q : Nat, s.heap.size ≤ q → A q := fun q h => by rw [← hAe]; exact Or.inr h
  have hS : va_S A s.heap s.heap [] := va_S.rf
  have hP : va_P (dC, dI) vwCl [(so, .inr (11, [.int 0, .int x1, .int x2, .int x3, .int (-1), .int (-1), .int 0, .ref sw, .int 0]))] s.heap := hP
  have hl := lv_entry ([.ref so, .int 0]) (n := 2) (Nat.le_of_ble_eq_true rfl)
  rw [lg_entry_eq]
  generalize (lg_sl ([.ref so, .int 0]) ++ List.replicate (2 - (lg_sl ([.ref so, .int 0])).length) Slot.unset).toArray = ls at hl ⊢
  have hl : lv_has ls 2 [(0, .ref so), (1, .int 0)] := hl
  have in_RX9 : ∀ w ∈ u_ws RX9 TX9 9, w ∈ w_c_S_goesTo := by decide +kernel
  refine lv_iload_n hx hb dX9_goesTo_0 rfl (lv_at hl 1 rfl) ?_
  refine lv_if_lt (tgt := 26) hx hb dX9_goesTo_1 (by decide) (fun c_1 => ?_) (fun c_1 => ?_)
  · exact absurd c_1 (by decide)
  refine lv_iload_n hx hb dX9_goesTo_4 rfl (lv_at hl 1 rfl) ?_
  refine lv_bipush (v := 12) hx hb dX9_goesTo_5 (by decide) ?_
  refine lv_icmp_ge (tgt := 26) hx hb dX9_goesTo_7 (by decide) (fun c_2 => ?_) (fun c_2 => ?_)
  · exact absurd c_2 (by decide)
  refine lv_aload_n hx hb dX9_goesTo_10 rfl (lv_at hl 0 rfl) ?_
  refine va_get (D := (dC, dI)) (ci := 11) (v := .int 0) (C := RX9) (T := TX9) (N := 9) hx hb hts in_RX9 hown hK hP 0 rfl rfl 6 (by decide) (hts (.fieldLink RX9 28 "Hornbook$Sort" "above" "I") (by decide +kernel)) (fun _ h9 => h9) rfl dX9_goesTo_11 ?_
  refine lv_iload_n hx hb dX9_goesTo_14 rfl (lv_at hl 1 rfl) ?_
  refine lv_ishr hx hb dX9_goesTo_15 ?_
  refine z_top (v' := .int 0) (congrArg Value.int (by decide)) ?_
  refine lv_iconst (v := 1) hx hb dX9_goesTo_16 (by decide) ?_
  refine lv_iand hx hb dX9_goesTo_17 ?_
  refine z_top (v' := .int 0) (congrArg Value.int (by decide)) ?_
  refine lv_iconst (v := 1) hx hb dX9_goesTo_18 (by decide) ?_
  refine lv_icmp_ne (tgt := 26) hx hb dX9_goesTo_19 (by decide) (fun c_3 => ?_) (fun c_3 => ?_)
  rotate_left
  · exact absurd c_3 (by decide)
  refine lv_iconst (v := 0) hx hb dX9_goesTo_26 (by decide) ?_
  have hP9 := hP.sub (ws' := [(so, .inr (11, [.int 0, .int x1, .int x2, .int x3, .int (-1), .int (-1), .int 0, .ref sw, .int 0]))]) [0] rfl
  have hD9 := hD.sub (ws' := [(so, .inr (11, [.int 0, .int x1, .int x2, .int x3, .int (-1), .int (-1), .int 0, .ref sw, .int 0]))]) [0] (by decide) rfl
  have hK9 := hK.sub (tys' := []) [] rfl
  refine W.widen (k := 0) (n := 0) (Nat.le_of_ble_eq_true rfl) (Nat.le_of_ble_eq_true rfl) ?_
  exact W.zret (v := 0) hx hb hr (by first | rfl | decide) (fun t ht hW => ⟨⟨0, (), rfl, rfl, ⟨by rw [ht]; exact hP9, va_K.moved hW.alike hK9, hD9⟩⟩, hS.F ht⟩) hS.2.2 dX9_goesTo_27

def wb_c_S_pass : List Cond := [.code yX9_goesTo cX9_goesTo 2 (some .boolean), .fieldLink RX9 28 "Hornbook$Sort" "above" "I", .methodLink RX9 45 yX9_goesTo, .instanceMethod yX9_goesTo, .selects RX9 yX9_goesTo yX9_goesTo, .initialized RX9, .fieldLink RX9 31 "Hornbook$Sort" "length" "I", .fieldLink RX9 18 "Hornbook$Sort" "way" "[I"] ++ u_ws RX9 TX9 9
def w_c_S_pass : List Cond := .code yX9_pass cX9_pass 2 none :: wb_c_S_pass
set_option maxRecDepth 100000 in
theorem g_c_S_pass_0 : GoodIn w_c_S_pass (wsV RX9 45 RX9 yX9_goesTo w_c_S_goesTo) := goodIn_app (goodIn_of _ (by decide +kernel)) (goodIn_p (big := w_c_S_pass) (.code yX9_goesTo cX9_goesTo 2 (some .boolean) :: wb_c_S_goesTo) [1] rfl (by decide +kernel))
set_option maxHeartbeats 4000000 in
set_option maxRecDepth 100000 in
theorem c_S_pass (l : Launch) (eD eI : Nat) (ad : Nat → Nat) (dC : Nat → ClassId) (dI : Nat → Nat → Nat) (sz : Nat) (so : Nat) (sw : Nat) (kI : ClassId) (x1 : Int32) (x2 : Int32) (x3 : Int32) : Met l yX9_pass w_c_S_pass ({ frames := 1, cells := 0, slots := 0, locals := 21 }) (va_Pc [.ref so, .int 0] (zPre eD eI ad (dC, dI) [(so, .inr (11, [.int 0, .int x1, .int x2, .int x3, .int (-1), .int (-1), .int 0, .ref sw, .int 0])), (sw, .inl (kI, 12, .inl (fun _ => 0)))] [(kI, .int)] sz)) (va_Qv (fun (_ : Unit) => True) (fun (_ : Unit) => zEnd (dC, dI) (va_A [(so, .inr (11, [.int 0, .int x1, .int x2, .int x3, .int (-1), .int (-1), .int 0, .ref sw, .int 0])), (sw, .inl (kI, 12, .inl (fun _ => 0)))] sz) [(so, .inr (11, [.int 0, .int x1, .int x2, .int x3, .int (-1), .int (-1), .int 1, .ref sw, .int 1]))] []) (va_A [(so, .inr (11, [.int 0, .int x1, .int x2, .int x3, .int (-1), .int (-1), .int 0, .ref sw, .int 0])), (sw, .inl (kI, 12, .inl (fun _ => 0)))] sz)) 0 0 (va_A [(so, .inr (11, [.int 0, .int x1, .int x2, .int x3, .int (-1), .int (-1), .int 0, .ref sw, .int 0])), (sw, .inl (kI, 12, .inl (fun _ => 0)))] sz) := by
  refine Met.ofW (cc := cX9_pass) (maxL := 2) (ret := none) (by decide) rfl ?_
  intro p e s m args below meth c s₁ B hml hv
  obtain ⟨rfl, hsz, hP, hK, hD0, hE⟩ := hv
  have hx := B.exec
  have hb := B.bytes
  have hr := B.returns
  have hts := atoms_spec (ws := w_c_S_pass) B.pre
  have hown : s.vm.findClass RX9 = some m.cls := findClass_of_methodNamed B.named
  have hlocks := B.notSynchronized
  subst hsz
  have hD := hD0.self (sz := s.heap.size)
  generalize hAe : va_A [(so, .inr (11, [.int 0, .int x1, .int x2, .int x3, .int (-1), .int (-1), .int 0, .ref sw, .int 0])), (sw, .inl (kI, 12, .inl (fun _ => 0)))] s.heap.size = A at hD hE ⊢
  have hA : ∀ q : Nat, s.heap.size ≤ q → A q := fun q h => by rw [← hAe]; exact Or.inr h
  have hS : va_S A s.heap s.heap [] := va_S.rf
  have hP : va_P (dC, dI) vwCl [(so, .inr (11, [.int 0, .int x1, .int x2, .int x3, .int (-1), .int (-1), .int 0, .ref sw, .int 0])), (sw, .inl (kI, 12, .inl (fun _ => 0)))] s.heap := hP
  have hl := lv_entry ([.ref so, .int 0]) (n := 2) (Nat.le_of_ble_eq_true rfl)
  rw [lg_entry_eq]
  generalize (lg_sl ([.ref so, .int 0]) ++ List.replicate (2 - (lg_sl ([.ref so, .int 0])).length) Slot.unset).toArray = ls at hl ⊢
  have hl : lv_has ls 2 [(0, .ref so), (1, .int 0)] := hl
  have in_RX9 : ∀ w ∈ u_ws RX9 TX9 9, w ∈ w_c_S_pass := by decide +kernel
  refine lv_iload_n hx hb dX9_pass_0 rfl (lv_at hl 1 rfl) ?_
  refine lv_if_lt (tgt := 24) hx hb dX9_pass_1 (by decide) (fun c_1 => ?_) (fun c_1 => ?_)
  · exact absurd c_1 (by decide)
  refine lv_aload_n hx hb dX9_pass_4 rfl (lv_at hl 0 rfl) ?_
  refine lv_iload_n hx hb dX9_pass_5 rfl (lv_at hl 1 rfl) ?_
  refine z_i (wr := [(sw, .inl (kI, 12, .inl (fun _ => 0)))]) (va_runV (As := [.int 0]) (rest := []) ⟨hx, hb, hml, hown, hts⟩ (c_S_goesTo l eD eI ad dC dI s.heap.size so sw x1 x2 x3) (cwV 1 hts g_c_S_pass_0 rfl rfl rfl (by decide +kernel) ⟨Nat.le_of_ble_eq_true rfl, Nat.le_of_ble_eq_true rfl⟩) (z_preV (wc := [(so, .inr (11, [.int 0, .int x1, .int x2, .int x3, .int (-1), .int (-1), .int 0, .ref sw, .int 0]))]) hP hD hK hS hA hE [0] [] rfl (by decide) rfl (ci := 11) (q0 := 0) rfl rfl) rfl rfl hl.1 rfl (lv_room (Nat.le_of_ble_eq_true rfl)) dX9_pass_6 ⟨Nat.le_of_ble_eq_true rfl, Nat.le_of_ble_eq_true rfl⟩) hP hD hK hS hA [0] [1] rfl rfl (by decide) (by decide) (fun r_2 u H locs hw_3 hP hD hK hS => ?_)
  obtain ⟨⟩ := u
  have hP : va_P (dC, dI) vwCl [(sw, .inl (kI, 12, .inl (fun _ => 0))), (so, .inr (11, [.int 0, .int x1, .int x2, .int x3, .int (-1), .int (-1), .int 0, .ref sw, .int 0]))] H := hP
  have hD : va_D A [(sw, .inl (kI, 12, .inl (fun _ => 0))), (so, .inr (11, [.int 0, .int x1, .int x2, .int x3, .int (-1), .int (-1), .int 0, .ref sw, .int 0]))] := hD
  have hK : va_K (dC, dI) vwCl [(kI, .int)] s := by simpa using hK
  have hw_3 : r_2 = 0 := hw_3
  have hw_3 := hw_3.symm
  subst hw_3
  refine lv_if_ne (tgt := 24) hx hb dX9_pass_9 (by decide) (fun c_4 => ?_) (fun c_4 => ?_)
  · exact absurd (by decide) c_4
  refine lv_aload_n hx hb dX9_pass_12 rfl (lv_at hl 0 rfl) ?_
  refine va_get (D := (dC, dI)) (ci := 11) (v := .int 0) (C := RX9) (T := TX9) (N := 9) hx hb hts in_RX9 hown hK hP 1 rfl rfl 8 (by decide) (hts (.fieldLink RX9 31 "Hornbook$Sort" "length" "I") (by decide +kernel)) (fun _ h9 => h9) rfl dX9_pass_13 ?_
  refine lv_aload_n hx hb dX9_pass_16 rfl (lv_at hl 0 rfl) ?_
  refine va_get (D := (dC, dI)) (ci := 11) (v := .ref sw) (C := RX9) (T := TX9) (N := 9) hx hb hts in_RX9 hown hK hP 1 rfl rfl 7 (by decide) (hts (.fieldLink RX9 18 "Hornbook$Sort" "way" "[I") (by decide +kernel)) (fun _ h9 => h9) rfl dX9_pass_17 ?_
  refine va_alen (D := (dC, dI)) (v := 12) hx hb hK hP 0 0 rfl rfl rfl dX9_pass_20 ?_
  refine lv_icmp_lt (tgt := 25) hx hb dX9_pass_21 (by decide) (fun c_5 => ?_) (fun c_5 => ?_)
  rotate_left
  · exact absurd (by decide) c_5
  refine lv_aload_n hx hb dX9_pass_25 rfl (lv_at hl 0 rfl) ?_
  refine lv_dup hx hb dX9_pass_26 rfl ?_
  refine va_get (D := (dC, dI)) (ci := 11) (v := .int 0) (C := RX9) (T := TX9) (N := 9) hx hb hts in_RX9 hown hK hP 1 rfl rfl 6 (by decide) (hts (.fieldLink RX9 28 "Hornbook$Sort" "above" "I") (by decide +kernel)) (fun _ h9 => h9) rfl dX9_pass_27 ?_
  refine lv_iconst (v := 1) hx hb dX9_pass_30 (by decide) ?_
  refine lv_iload_n hx hb dX9_pass_31 rfl (lv_at hl 1 rfl) ?_
  refine lv_ishl hx hb dX9_pass_32 ?_
  refine z_top (v' := .int 1) (congrArg Value.int (by decide)) ?_
  refine lv_ior hx hb dX9_pass_33 ?_
  refine z_top (v' := .int 1) (congrArg Value.int (by decide)) ?_
  refine va_put (D := (dC, dI)) (ci := 11) (v := .int 1) (ty := .int) (C := RX9) (T := TX9) (N := 9) hx hb hts in_RX9 tyX9 tyX9_ok nmX9 hown hK hP hD hS 1 rfl rfl 6 (by decide) (hts (.fieldLink RX9 28 "Hornbook$Sort" "above" "I") (by decide +kernel)) (fun _ h9 => h9) rfl (by decide +kernel) rfl rfl (Nat.le_of_ble_eq_true rfl) dX9_pass_34 (fun H locs hP hD hS => ?_)
  have hP : va_P (dC, dI) vwCl [(sw, .inl (kI, 12, .inl (fun _ => 0))), (so, .inr (11, [.int 0, .int x1, .int x2, .int x3, .int (-1), .int (-1), .int 1, .ref sw, .int 0]))] H := hP
  have hD : va_D A [(sw, .inl (kI, 12, .inl (fun _ => 0))), (so, .inr (11, [.int 0, .int x1, .int x2, .int x3, .int (-1), .int (-1), .int 1, .ref sw, .int 0]))] := hD
  refine lv_aload_n hx hb dX9_pass_37 rfl (lv_at hl 0 rfl) ?_
  refine va_get (D := (dC, dI)) (ci := 11) (v := .ref sw) (C := RX9) (T := TX9) (N := 9) hx hb hts in_RX9 hown hK hP 1 rfl rfl 7 (by decide) (hts (.fieldLink RX9 18 "Hornbook$Sort" "way" "[I") (by decide +kernel)) (fun _ h9 => h9) rfl dX9_pass_38 ?_
  refine lv_aload_n hx hb dX9_pass_41 rfl (lv_at hl 0 rfl) ?_
  refine va_get (D := (dC, dI)) (ci := 11) (v := .int 0) (C := RX9) (T := TX9) (N := 9) hx hb hts in_RX9 hown hK hP 1 rfl rfl 8 (by decide) (hts (.fieldLink RX9 31 "Hornbook$Sort" "length" "I") (by decide +kernel)) (fun _ h9 => h9) rfl dX9_pass_42 ?_
  refine lv_iload_n hx hb dX9_pass_45 rfl (lv_at hl 1 rfl) ?_
  refine va_iast (D := (dC, dI)) hx hb hK hP hD hS 0 0 rfl rfl (by unfold vp_in; decide) dX9_pass_46 (fun H locs hP hD hS => ?_)
  have hP : va_P (dC, dI) vwCl [(sw, .inl (kI, 12, .inl (upd (fun _ => 0) (0 : Int32).toNatClampNeg 0))), (so, .inr (11, [.int 0, .int x1, .int x2, .int x3, .int (-1), .int (-1), .int 1, .ref sw, .int 0]))] H := hP
  have hD : va_D A [(sw, .inl (kI, 12, .inl (upd (fun _ => 0) (0 : Int32).toNatClampNeg 0))), (so, .inr (11, [.int 0, .int x1, .int x2, .int x3, .int (-1), .int (-1), .int 1, .ref sw, .int 0]))] := hD
  refine lv_aload_n hx hb dX9_pass_47 rfl (lv_at hl 0 rfl) ?_
  refine lv_dup hx hb dX9_pass_48 rfl ?_
  refine va_get (D := (dC, dI)) (ci := 11) (v := .int 0) (C := RX9) (T := TX9) (N := 9) hx hb hts in_RX9 hown hK hP 1 rfl rfl 8 (by decide) (hts (.fieldLink RX9 31 "Hornbook$Sort" "length" "I") (by decide +kernel)) (fun _ h9 => h9) rfl dX9_pass_49 ?_
  refine lv_iconst (v := 1) hx hb dX9_pass_52 (by decide) ?_
  refine lv_iadd hx hb dX9_pass_53 ?_
  refine z_top (v' := .int 1) (congrArg Value.int (by decide)) ?_
  refine va_put (D := (dC, dI)) (ci := 11) (v := .int 1) (ty := .int) (C := RX9) (T := TX9) (N := 9) hx hb hts in_RX9 tyX9 tyX9_ok nmX9 hown hK hP hD hS 1 rfl rfl 8 (by decide) (hts (.fieldLink RX9 31 "Hornbook$Sort" "length" "I") (by decide +kernel)) (fun _ h9 => h9) rfl (by decide +kernel) rfl rfl (Nat.le_of_ble_eq_true rfl) dX9_pass_54 (fun H locs hP hD hS => ?_)
  have hP : va_P (dC, dI) vwCl [(sw, .inl (kI, 12, .inl (upd (fun _ => 0) (0 : Int32).toNatClampNeg 0))), (so, .inr (11, [.int 0, .int x1, .int x2, .int x3, .int (-1), .int (-1), .int 1, .ref sw, .int 1]))] H := hP
  have hD : va_D A [(sw, .inl (kI, 12, .inl (upd (fun _ => 0) (0 : Int32).toNatClampNeg 0))), (so, .inr (11, [.int 0, .int x1, .int x2, .int x3, .int (-1), .int (-1), .int 1, .ref sw, .int 1]))] := hD
  have hP9 := hP.sub (ws' := [(so, .inr (11, [.int 0, .int x1, .int x2, .int x3, .int (-1), .int (-1), .int 1, .ref sw, .int 1]))]) [1] rfl
  have hD9 := hD.sub (ws' := [(so, .inr (11, [.int 0, .int x1, .int x2, .int x3, .int (-1), .int (-1), .int 1, .ref sw, .int 1]))]) [1] (by decide) rfl
  have hK9 := hK.sub (tys' := []) [] rfl
  refine W.widen (k := 0) (n := 0) (Nat.le_of_ble_eq_true rfl) (Nat.le_of_ble_eq_true rfl) ?_
  exact W.vret hx hb hr (fun t ht hW => ⟨⟨(), rfl, trivial, ⟨by rw [ht]; exact hP9, va_K.moved hW.alike hK9, hD9⟩⟩, hS.F ht⟩) hS.2.2 dX9_pass_57

def wb_c_S_startWay : List Cond := [.fieldLink RX9 31 "Hornbook$Sort" "length" "I", .fieldLink RX9 28 "Hornbook$Sort" "above" "I", .fieldLink RX9 34 "Hornbook$Sort" "number" "I", .code yX9_pass cX9_pass 2 none, .code yX9_goesTo cX9_goesTo 2 (some .boolean), .methodLink RX9 45 yX9_goesTo, .instanceMethod yX9_goesTo, .selects RX9 yX9_goesTo yX9_goesTo, .initialized RX9, .fieldLink RX9 18 "Hornbook$Sort" "way" "[I", .methodLink RX9 37 yX9_pass, .instanceMethod yX9_pass, .selects RX9 yX9_pass yX9_pass] ++ u_ws RX9 TX9 9
def w_c_S_startWay : List Cond := .code yX9_startWay cX9_startWay 1 none :: wb_c_S_startWay
set_option maxRecDepth 100000 in
theorem g_c_S_startWay_0 : GoodIn w_c_S_startWay (wsV RX9 37 RX9 yX9_pass w_c_S_pass) := goodIn_app (goodIn_of _ (by decide +kernel)) (goodIn_p (big := w_c_S_startWay) (.code yX9_pass cX9_pass 2 none :: wb_c_S_pass) [4, 5] rfl (by decide +kernel))
set_option maxHeartbeats 4000000 in
set_option maxRecDepth 100000 in
theorem c_S_startWay (l : Launch) (eD eI : Nat) (ad : Nat → Nat) (dC : Nat → ClassId) (dI : Nat → Nat → Nat) (sz : Nat) (so : Nat) (sw : Nat) (kI : ClassId) (x1 : Int32) (x2 : Int32) (x3 : Int32) : Met l yX9_startWay w_c_S_startWay ({ frames := 2, cells := 0, slots := 0, locals := 42 }) (va_Pc [.ref so] (zPre eD eI ad (dC, dI) [(so, .inr (11, [.int 0, .int x1, .int x2, .int x3, .int (-1), .int (-1), .int 0, .ref sw, .int 0])), (sw, .inl (kI, 12, .inl (fun _ => 0)))] [(kI, .int)] sz)) (va_Qv (fun (_ : Unit) => True) (fun (_ : Unit) => zEnd (dC, dI) (va_A [(so, .inr (11, [.int 0, .int x1, .int x2, .int x3, .int (-1), .int (-1), .int 0, .ref sw, .int 0])), (sw, .inl (kI, 12, .inl (fun _ => 0)))] sz) [(so, .inr (11, [.int 0, .int x1, .int x2, .int x3, .int (-1), .int (-1), .int 1, .ref sw, .int 1]))] []) (va_A [(so, .inr (11, [.int 0, .int x1, .int x2, .int x3, .int (-1), .int (-1), .int 0, .ref sw, .int 0])), (sw, .inl (kI, 12, .inl (fun _ => 0)))] sz)) 0 0 (va_A [(so, .inr (11, [.int 0, .int x1, .int x2, .int x3, .int (-1), .int (-1), .int 0, .ref sw, .int 0])), (sw, .inl (kI, 12, .inl (fun _ => 0)))] sz) := by
  refine Met.ofW (cc := cX9_startWay) (maxL := 1) (ret := none) (by decide) rfl ?_
  intro p e s m args below meth c s₁ B hml hv
  obtain ⟨rfl, hsz, hP, hK, hD0, hE⟩ := hv
  have hx := B.exec
  have hb := B.bytes
  have hr := B.returns
  have hts := atoms_spec (ws := w_c_S_startWay) B.pre
  have hown : s.vm.findClass RX9 = some m.cls := findClass_of_methodNamed B.named
  have hlocks := B.notSynchronized
  subst hsz
  have hD := hD0.self (sz := s.heap.size)
  generalize hAe : va_A [(so, .inr (11, [.int 0, .int x1, .int x2, .int x3, .int (-1), .int (-1), .int 0, .ref sw, .int 0])), (sw, .inl (kI, 12, .inl (fun _ => 0)))] s.heap.size = A at hD hE ⊢
  have hA : ∀ q : Nat, s.heap.size ≤ q → A q := fun q h => by rw [← hAe]; exact Or.inr h
  have hS : va_S A s.heap s.heap [] := va_S.rf
  have hP : va_P (dC, dI) vwCl [(so, .inr (11, [.int 0, .int x1, .int x2, .int x3, .int (-1), .int (-1), .int 0, .ref sw, .int 0])), (sw, .inl (kI, 12, .inl (fun _ => 0)))] s.heap := hP
  have hl := lv_entry ([.ref so]) (n := 1) (Nat.le_of_ble_eq_true rfl)
  rw [lg_entry_eq]
  generalize (lg_sl ([.ref so]) ++ List.replicate (1 - (lg_sl ([.ref so])).length) Slot.unset).toArray = ls at hl ⊢
  have hl : lv_has ls 1 [(0, .ref so)] := hl
  have in_RX9 : ∀ w ∈ u_ws RX9 TX9 9, w ∈ w_c_S_startWay := by decide +kernel
  refine lv_aload_n hx hb dX9_startWay_0 rfl (lv_at hl 0 rfl) ?_
  refine lv_iconst (v := 0) hx hb dX9_startWay_1 (by decide) ?_
  refine va_put (D := (dC, dI)) (ci := 11) (v := .int 0) (ty := .int) (C := RX9) (T := TX9) (N := 9) hx hb hts in_RX9 tyX9 tyX9_ok nmX9 hown hK hP hD hS 0 rfl rfl 8 (by decide) (hts (.fieldLink RX9 31 "Hornbook$Sort" "length" "I") (by decide +kernel)) (fun _ h9 => h9) rfl (by decide +kernel) rfl rfl (Nat.le_of_ble_eq_true rfl) dX9_startWay_2 (fun H locs hP hD hS => ?_)
  have hP : va_P (dC, dI) vwCl [(so, .inr (11, [.int 0, .int x1, .int x2, .int x3, .int (-1), .int (-1), .int 0, .ref sw, .int 0])), (sw, .inl (kI, 12, .inl (fun _ => 0)))] H := hP
  have hD : va_D A [(so, .inr (11, [.int 0, .int x1, .int x2, .int x3, .int (-1), .int (-1), .int 0, .ref sw, .int 0])), (sw, .inl (kI, 12, .inl (fun _ => 0)))] := hD
  refine lv_aload_n hx hb dX9_startWay_5 rfl (lv_at hl 0 rfl) ?_
  refine lv_iconst (v := 0) hx hb dX9_startWay_6 (by decide) ?_
  refine va_put (D := (dC, dI)) (ci := 11) (v := .int 0) (ty := .int) (C := RX9) (T := TX9) (N := 9) hx hb hts in_RX9 tyX9 tyX9_ok nmX9 hown hK hP hD hS 0 rfl rfl 6 (by decide) (hts (.fieldLink RX9 28 "Hornbook$Sort" "above" "I") (by decide +kernel)) (fun _ h9 => h9) rfl (by decide +kernel) rfl rfl (Nat.le_of_ble_eq_true rfl) dX9_startWay_7 (fun H locs hP hD hS => ?_)
  have hP : va_P (dC, dI) vwCl [(so, .inr (11, [.int 0, .int x1, .int x2, .int x3, .int (-1), .int (-1), .int 0, .ref sw, .int 0])), (sw, .inl (kI, 12, .inl (fun _ => 0)))] H := hP
  have hD : va_D A [(so, .inr (11, [.int 0, .int x1, .int x2, .int x3, .int (-1), .int (-1), .int 0, .ref sw, .int 0])), (sw, .inl (kI, 12, .inl (fun _ => 0)))] := hD
  refine lv_aload_n hx hb dX9_startWay_10 rfl (lv_at hl 0 rfl) ?_
  refine lv_aload_n hx hb dX9_startWay_11 rfl (lv_at hl 0 rfl) ?_
  refine va_get (D := (dC, dI)) (ci := 11) (v := .int 0) (C := RX9) (T := TX9) (N := 9) hx hb hts in_RX9 hown hK hP 0 rfl rfl 0 (by decide) (hts (.fieldLink RX9 34 "Hornbook$Sort" "number" "I") (by decide +kernel)) (fun _ h9 => h9) rfl dX9_startWay_12 ?_
  refine z_v (wr := []) (va_runV (As := [.int 0]) (rest := []) ⟨hx, hb, hml, hown, hts⟩ (c_S_pass l eD eI ad dC dI H.size so sw kI x1 x2 x3) (cwV 1 hts g_c_S_startWay_0 rfl rfl rfl (by decide +kernel) ⟨Nat.le_of_ble_eq_true rfl, Nat.le_of_ble_eq_true rfl⟩) (z_preV (wc := [(so, .inr (11, [.int 0, .int x1, .int x2, .int x3, .int (-1), .int (-1), .int 0, .ref sw, .int 0])), (sw, .inl (kI, 12, .inl (fun _ => 0)))]) hP hD hK hS hA hE [0, 1] [0] rfl (by decide) rfl (ci := 11) (q0 := 0) rfl rfl) rfl rfl hl.1 rfl (lv_room (Nat.le_of_ble_eq_true rfl)) dX9_startWay_15 ⟨Nat.le_of_ble_eq_true rfl, Nat.le_of_ble_eq_true rfl⟩) hP hD hK hS hA [0, 1] [] rfl rfl (by decide) (by decide) (fun u H locs hw_2 hP hD hK hS => ?_)
  obtain ⟨⟩ := u
  have hP : va_P (dC, dI) vwCl [(so, .inr (11, [.int 0, .int x1, .int x2, .int x3, .int (-1), .int (-1), .int 1, .ref sw, .int 1]))] H := hP
  have hD : va_D A [(so, .inr (11, [.int 0, .int x1, .int x2, .int x3, .int (-1), .int (-1), .int 1, .ref sw, .int 1]))] := hD
  have hK : va_K (dC, dI) vwCl [(kI, .int)] s := by simpa using hK
  have hP9 := hP.sub (ws' := [(so, .inr (11, [.int 0, .int x1, .int x2, .int x3, .int (-1), .int (-1), .int 1, .ref sw, .int 1]))]) [0] rfl
  have hD9 := hD.sub (ws' := [(so, .inr (11, [.int 0, .int x1, .int x2, .int x3, .int (-1), .int (-1), .int 1, .ref sw, .int 1]))]) [0] (by decide) rfl
  have hK9 := hK.sub (tys' := []) [] rfl
  refine W.widen (k := 0) (n := 0) (Nat.le_of_ble_eq_true rfl) (Nat.le_of_ble_eq_true rfl) ?_
  exact W.vret hx hb hr (fun t ht hW => ⟨⟨(), rfl, trivial, ⟨by rw [ht]; exact hP9, va_K.moved hW.alike hK9, hD9⟩⟩, hS.F ht⟩) hS.2.2 dX9_startWay_18

def wb_c_H_sort_l : List Cond := [.classLink RX11 66 "java/lang/IllegalArgumentException", .initialized "java/lang/IllegalArgumentException"]
def w_c_H_sort_l : List Cond := .code yX11_sort cX11_sort 6 (some .int) :: (wb_c_H_sort_l ++ zAt)
set_option maxHeartbeats 4000000 in
set_option maxRecDepth 100000 in
theorem c_H_sort_l (l : Launch) (hfl : l.flags = flags0) (eD eI : Nat) (ad : Nat → Nat) (dC : Nat → ClassId) (dI : Nat → Nat → Nat) (sz : Nat) (hh : Nat) (aexpr : Nat) (achoo : Nat) (ameth : Nat) (aroom : Nat) (anod : Nat) (asort : Nat) (anote : Nat) (amet : Nat) (nm : Nat) (nl : Nat) (n1 : Nat) (n2 : Nat) (nf : Nat) (ns : Nat) (nh : Nat) (nk : Nat) (np : Nat) (kI : ClassId) (kL : ClassId) (x1 : Int32) (x2 : Int32) (x3 : Int32) (hx11 : x1 < 0) : vx_Met l yX11_sort w_c_H_sort_l ({ frames := 6, cells := 1, slots := 6, locals := 82 }) (va_Pc [.ref hh, .int x1, .int x2, .int x3] (zPreD eD eI ad (dC, dI) [(hh, .inr (13, [.ref aexpr, .ref achoo, .ref ameth, .ref aroom, .ref anod, .ref asort, .ref anote, .ref amet, .int 0, .int 1])), (asort, .inr (1, [.int 0, .ref eD, .int 0])), (anod, .inr (7, [.ref nm, .ref nl, .ref n1, .ref n2, .ref nf, .ref ns, .ref nh, .ref nk, .ref np, .int 16, .int 0, .int 16, .int 0, .int 0])), (ns, .inl (kL, 1024, .inr (.inl zSec))), (nm, .inl (kI, 12, .inl (fun _ => 0))), (nl, .inl (kI, 12, .inl (fun _ => 0))), (n1, .inl (kI, 12, .inl (fun _ => 0))), (n2, .inl (kI, 12, .inl (fun _ => 0)))] [(kL, .long), (kI, .int)] sz)) (va_Qi (fun (r : Int32) (_ : Unit) => False) (fun (_ : Unit) => zEnd (dC, dI) (va_A [(hh, .inr (13, [.ref aexpr, .ref achoo, .ref ameth, .ref aroom, .ref anod, .ref asort, .ref anote, .ref amet, .int 0, .int 1])), (asort, .inr (1, [.int 0, .ref eD, .int 0])), (anod, .inr (7, [.ref nm, .ref nl, .ref n1, .ref n2, .ref nf, .ref ns, .ref nh, .ref nk, .ref np, .int 16, .int 0, .int 16, .int 0, .int 0])), (ns, .inl (kL, 1024, .inr (.inl zSec))), (nm, .inl (kI, 12, .inl (fun _ => 0))), (nl, .inl (kI, 12, .inl (fun _ => 0))), (n1, .inl (kI, 12, .inl (fun _ => 0))), (n2, .inl (kI, 12, .inl (fun _ => 0)))] sz) [(hh, .inr (13, [.ref aexpr, .ref achoo, .ref ameth, .ref aroom, .ref anod, .ref asort, .ref anote, .ref amet, .int 0, .int 1])), (asort, .inr (1, [.int 0, .ref eD, .int 0])), (anod, .inr (7, [.ref nm, .ref nl, .ref n1, .ref n2, .ref nf, .ref ns, .ref nh, .ref nk, .ref np, .int 16, .int 0, .int 16, .int 0, .int 0])), (ns, .inl (kL, 1024, .inr (.inl zSec))), (nm, .inl (kI, 12, .inl (fun _ => 0))), (nl, .inl (kI, 12, .inl (fun _ => 0))), (n1, .inl (kI, 12, .inl (fun _ => 0))), (n2, .inl (kI, 12, .inl (fun _ => 0)))] [(kL, .long), (kI, .int)]) (va_A [(hh, .inr (13, [.ref aexpr, .ref achoo, .ref ameth, .ref aroom, .ref anod, .ref asort, .ref anote, .ref amet, .int 0, .int 1])), (asort, .inr (1, [.int 0, .ref eD, .int 0])), (anod, .inr (7, [.ref nm, .ref nl, .ref n1, .ref n2, .ref nf, .ref ns, .ref nh, .ref nk, .ref np, .int 16, .int 0, .int 16, .int 0, .int 0])), (ns, .inl (kL, 1024, .inr (.inl zSec))), (nm, .inl (kI, 12, .inl (fun _ => 0))), (nl, .inl (kI, 12, .inl (fun _ => 0))), (n1, .inl (kI, 12, .inl (fun _ => 0))), (n2, .inl (kI, 12, .inl (fun _ => 0)))] sz)) (zX (fun E => E = "java/lang/IllegalArgumentException") (va_A [(hh, .inr (13, [.ref aexpr, .ref achoo, .ref ameth, .ref aroom, .ref anod, .ref asort, .ref anote, .ref amet, .int 0, .int 1])), (asort, .inr (1, [.int 0, .ref eD, .int 0])), (anod, .inr (7, [.ref nm, .ref nl, .ref n1, .ref n2, .ref nf, .ref ns, .ref nh, .ref nk, .ref np, .int 16, .int 0, .int 16, .int 0, .int 0])), (ns, .inl (kL, 1024, .inr (.inl zSec))), (nm, .inl (kI, 12, .inl (fun _ => 0))), (nl, .inl (kI, 12, .inl (fun _ => 0))), (n1, .inl (kI, 12, .inl (fun _ => 0))), (n2, .inl (kI, 12, .inl (fun _ => 0)))] sz)) 1 6 (va_A [(hh, .inr (13, [.ref aexpr, .ref achoo, .ref ameth, .ref aroom, .ref anod, .ref asort, .ref anote, .ref amet, .int 0, .int 1])), (asort, .inr (1, [.int 0, .ref eD, .int 0])), (anod, .inr (7, [.ref nm, .ref nl, .ref n1, .ref n2, .ref nf, .ref ns, .ref nh, .ref nk, .ref np, .int 16, .int 0, .int 16, .int 0, .int 0])), (ns, .inl (kL, 1024, .inr (.inl zSec))), (nm, .inl (kI, 12, .inl (fun _ => 0))), (nl, .inl (kI, 12, .inl (fun _ => 0))), (n1, .inl (kI, 12, .inl (fun _ => 0))), (n2, .inl (kI, 12, .inl (fun _ => 0)))] sz) := by
  refine vx_ofW (cc := cX11_sort) (maxL := 6) (ret := (some .int)) (by decide +kernel) rfl ?_
  intro p e s m args below meth c s₁ B hml htab hv
  obtain ⟨rfl, ⟨hsz, hP, hK, hD0, hE⟩, hDc⟩ := hv
  have hx := B.exec
  have hb := B.bytes
  have hr := B.returns
  have hts := atoms_spec (ws := w_c_H_sort_l) B.pre
  have hown : s.vm.findClass RX11 = some m.cls := findClass_of_methodNamed B.named
  have hlocks := B.notSynchronized
  subst hsz
  have hD := hD0.self (sz := s.heap.size)
  generalize hAe : va_A [(hh, .inr (13, [.ref aexpr, .ref achoo, .ref ameth, .ref aroom, .ref anod, .ref asort, .ref anote, .ref amet, .int 0, .int 1])), (asort, .inr (1, [.int 0, .ref eD, .int 0])), (anod, .inr (7, [.ref nm, .ref nl, .ref n1, .ref n2, .ref nf, .ref ns, .ref nh, .ref nk, .ref np, .int 16, .int 0, .int 16, .int 0, .int 0])), (ns, .inl (kL, 1024, .inr (.inl zSec))), (nm, .inl (kI, 12, .inl (fun _ => 0))), (nl, .inl (kI, 12, .inl (fun _ => 0))), (n1, .inl (kI, 12, .inl (fun _ => 0))), (n2, .inl (kI, 12, .inl (fun _ => 0)))] s.heap.size = A at hD hE ⊢
  have hA : ∀ q : Nat, s.heap.size ≤ q → A q := fun q h => by rw [← hAe]; exact Or.inr h
  have hS : va_S A s.heap s.heap [] := va_S.rf
  have hP : va_P (dC, dI) vwCl [(hh, .inr (13, [.ref aexpr, .ref achoo, .ref ameth, .ref aroom, .ref anod, .ref asort, .ref anote, .ref amet, .int 0, .int 1])), (asort, .inr (1, [.int 0, .ref eD, .int 0])), (anod, .inr (7, [.ref nm, .ref nl, .ref n1, .ref n2, .ref nf, .ref ns, .ref nh, .ref nk, .ref np, .int 16, .int 0, .int 16, .int 0, .int 0])), (ns, .inl (kL, 1024, .inr (.inl zSec))), (nm, .inl (kI, 12, .inl (fun _ => 0))), (nl, .inl (kI, 12, .inl (fun _ => 0))), (n1, .inl (kI, 12, .inl (fun _ => 0))), (n2, .inl (kI, 12, .inl (fun _ => 0)))] s.heap := hP
  have hl := lv_entry ([.ref hh, .int x1, .int x2, .int x3]) (n := 6) (Nat.le_of_ble_eq_true rfl)
  rw [lg_entry_eq]
  generalize (lg_sl ([.ref hh, .int x1, .int x2, .int x3]) ++ List.replicate (6 - (lg_sl ([.ref hh, .int x1, .int x2, .int x3])).length) Slot.unset).toArray = ls at hl ⊢
  have hl : lv_has ls 6 [(0, .ref hh), (1, .int x1), (2, .int x2), (3, .int x3)] := hl
  refine lv_iload_n hx hb dX11_sort_0 rfl (lv_at hl 1 rfl) ?_
  refine lv_if_lt (tgt := 37) hx hb dX11_sort_1 (by decide) (fun c_1 => ?_) (fun c_1 => ?_)
  rotate_left
  · exact absurd hx11 c_1
  refine lv_iconst (v := 0) hx hb dX11_sort_37 (by decide) ?_
  refine lv_istore (lv' := [(4, .int 0), (0, .ref hh), (1, .int x1), (2, .int x2), (3, .int x3)]) hx hb dX11_sort_38 hl (by decide) rfl (fun ls hl => ?_)
  refine lv_iload hx hb dX11_sort_40 (lv_at hl 0 rfl) ?_
  refine lv_if_ne (tgt := 55) hx hb dX11_sort_42 (by decide) (fun c_2 => ?_) (fun c_2 => ?_)
  · exact absurd (by decide) c_2
  obtain ⟨sa, hsa⟩ := hE.2.2.2.1 ("Hornbook", 68, "no such PARAMETERS") (by decide +kernel)
  have hsa : vk_R RX11 68 "no such PARAMETERS" sa s := hsa
  exact vx_throwS (A := A) (cls := "java/lang/IllegalArgumentException") (text := "no such PARAMETERS") (names := ["java/lang/RuntimeException", "java/lang/Exception"]) hx hb (z_traces hfl) hown (by decide +kernel) (by decide +kernel) (hts (.classLink RX11 66 "java/lang/IllegalArgumentException") (by decide +kernel)) (hts (.initialized "java/lang/IllegalArgumentException") (by decide +kernel)) hsa (vx_hat (B := Cond.castable "java/lang/IllegalArgumentException" "java/lang/IllegalArgumentException" :: zDecs) (fun w h => hts w (List.mem_cons_of_mem _ (List.mem_append_right _ (zAt_70 w h)))) (by decide +kernel) (vx_c (va_Nw.use rfl (hE.2.2.2.2.2.2.2.1 ("java/lang/IllegalArgumentException", "java/lang/IllegalArgumentException") (by decide +kernel))) hDc.use)) (by decide +kernel) hE.1 hE.2.1 hS (by rw [hml]; exact hl.1) dX11_sort_45 dX11_sort_48 dX11_sort_49 dX11_sort_51 dX11_sort_54 (fun x h => (htab x h).elim) (Nat.le_of_ble_eq_true rfl) (Nat.le_of_ble_eq_true rfl) (Nat.le_of_ble_eq_true rfl) (Nat.le_of_ble_eq_true rfl) hlocks (fun t hW h1 h2 => ⟨(), trivial, rfl, z_F hS h1 h2⟩) hS.2.2 (Nat.le_of_ble_eq_true rfl) (Nat.le_of_ble_eq_true rfl)

def wb_c_H_sort_h : List Cond := [.classLink RX11 66 "java/lang/IllegalArgumentException", .initialized "java/lang/IllegalArgumentException"]
def w_c_H_sort_h : List Cond := .code yX11_sort cX11_sort 6 (some .int) :: (wb_c_H_sort_h ++ zAt)
set_option maxHeartbeats 4000000 in
set_option maxRecDepth 100000 in
theorem c_H_sort_h (l : Launch) (hfl : l.flags = flags0) (eD eI : Nat) (ad : Nat → Nat) (dC : Nat → ClassId) (dI : Nat → Nat → Nat) (sz : Nat) (hh : Nat) (aexpr : Nat) (achoo : Nat) (ameth : Nat) (aroom : Nat) (anod : Nat) (asort : Nat) (anote : Nat) (amet : Nat) (nm : Nat) (nl : Nat) (n1 : Nat) (n2 : Nat) (nf : Nat) (ns : Nat) (nh : Nat) (nk : Nat) (np : Nat) (kI : ClassId) (kL : ClassId) (x1 : Int32) (x2 : Int32) (x3 : Int32) (hx10 : ¬ x1 < 0) (hx11 : 2 < x1) : vx_Met l yX11_sort w_c_H_sort_h ({ frames := 6, cells := 1, slots := 6, locals := 82 }) (va_Pc [.ref hh, .int x1, .int x2, .int x3] (zPreD eD eI ad (dC, dI) [(hh, .inr (13, [.ref aexpr, .ref achoo, .ref ameth, .ref aroom, .ref anod, .ref asort, .ref anote, .ref amet, .int 0, .int 1])), (asort, .inr (1, [.int 0, .ref eD, .int 0])), (anod, .inr (7, [.ref nm, .ref nl, .ref n1, .ref n2, .ref nf, .ref ns, .ref nh, .ref nk, .ref np, .int 16, .int 0, .int 16, .int 0, .int 0])), (ns, .inl (kL, 1024, .inr (.inl zSec))), (nm, .inl (kI, 12, .inl (fun _ => 0))), (nl, .inl (kI, 12, .inl (fun _ => 0))), (n1, .inl (kI, 12, .inl (fun _ => 0))), (n2, .inl (kI, 12, .inl (fun _ => 0)))] [(kL, .long), (kI, .int)] sz)) (va_Qi (fun (r : Int32) (_ : Unit) => False) (fun (_ : Unit) => zEnd (dC, dI) (va_A [(hh, .inr (13, [.ref aexpr, .ref achoo, .ref ameth, .ref aroom, .ref anod, .ref asort, .ref anote, .ref amet, .int 0, .int 1])), (asort, .inr (1, [.int 0, .ref eD, .int 0])), (anod, .inr (7, [.ref nm, .ref nl, .ref n1, .ref n2, .ref nf, .ref ns, .ref nh, .ref nk, .ref np, .int 16, .int 0, .int 16, .int 0, .int 0])), (ns, .inl (kL, 1024, .inr (.inl zSec))), (nm, .inl (kI, 12, .inl (fun _ => 0))), (nl, .inl (kI, 12, .inl (fun _ => 0))), (n1, .inl (kI, 12, .inl (fun _ => 0))), (n2, .inl (kI, 12, .inl (fun _ => 0)))] sz) [(hh, .inr (13, [.ref aexpr, .ref achoo, .ref ameth, .ref aroom, .ref anod, .ref asort, .ref anote, .ref amet, .int 0, .int 1])), (asort, .inr (1, [.int 0, .ref eD, .int 0])), (anod, .inr (7, [.ref nm, .ref nl, .ref n1, .ref n2, .ref nf, .ref ns, .ref nh, .ref nk, .ref np, .int 16, .int 0, .int 16, .int 0, .int 0])), (ns, .inl (kL, 1024, .inr (.inl zSec))), (nm, .inl (kI, 12, .inl (fun _ => 0))), (nl, .inl (kI, 12, .inl (fun _ => 0))), (n1, .inl (kI, 12, .inl (fun _ => 0))), (n2, .inl (kI, 12, .inl (fun _ => 0)))] [(kL, .long), (kI, .int)]) (va_A [(hh, .inr (13, [.ref aexpr, .ref achoo, .ref ameth, .ref aroom, .ref anod, .ref asort, .ref anote, .ref amet, .int 0, .int 1])), (asort, .inr (1, [.int 0, .ref eD, .int 0])), (anod, .inr (7, [.ref nm, .ref nl, .ref n1, .ref n2, .ref nf, .ref ns, .ref nh, .ref nk, .ref np, .int 16, .int 0, .int 16, .int 0, .int 0])), (ns, .inl (kL, 1024, .inr (.inl zSec))), (nm, .inl (kI, 12, .inl (fun _ => 0))), (nl, .inl (kI, 12, .inl (fun _ => 0))), (n1, .inl (kI, 12, .inl (fun _ => 0))), (n2, .inl (kI, 12, .inl (fun _ => 0)))] sz)) (zX (fun E => E = "java/lang/IllegalArgumentException") (va_A [(hh, .inr (13, [.ref aexpr, .ref achoo, .ref ameth, .ref aroom, .ref anod, .ref asort, .ref anote, .ref amet, .int 0, .int 1])), (asort, .inr (1, [.int 0, .ref eD, .int 0])), (anod, .inr (7, [.ref nm, .ref nl, .ref n1, .ref n2, .ref nf, .ref ns, .ref nh, .ref nk, .ref np, .int 16, .int 0, .int 16, .int 0, .int 0])), (ns, .inl (kL, 1024, .inr (.inl zSec))), (nm, .inl (kI, 12, .inl (fun _ => 0))), (nl, .inl (kI, 12, .inl (fun _ => 0))), (n1, .inl (kI, 12, .inl (fun _ => 0))), (n2, .inl (kI, 12, .inl (fun _ => 0)))] sz)) 1 6 (va_A [(hh, .inr (13, [.ref aexpr, .ref achoo, .ref ameth, .ref aroom, .ref anod, .ref asort, .ref anote, .ref amet, .int 0, .int 1])), (asort, .inr (1, [.int 0, .ref eD, .int 0])), (anod, .inr (7, [.ref nm, .ref nl, .ref n1, .ref n2, .ref nf, .ref ns, .ref nh, .ref nk, .ref np, .int 16, .int 0, .int 16, .int 0, .int 0])), (ns, .inl (kL, 1024, .inr (.inl zSec))), (nm, .inl (kI, 12, .inl (fun _ => 0))), (nl, .inl (kI, 12, .inl (fun _ => 0))), (n1, .inl (kI, 12, .inl (fun _ => 0))), (n2, .inl (kI, 12, .inl (fun _ => 0)))] sz) := by
  refine vx_ofW (cc := cX11_sort) (maxL := 6) (ret := (some .int)) (by decide +kernel) rfl ?_
  intro p e s m args below meth c s₁ B hml htab hv
  obtain ⟨rfl, ⟨hsz, hP, hK, hD0, hE⟩, hDc⟩ := hv
  have hx := B.exec
  have hb := B.bytes
  have hr := B.returns
  have hts := atoms_spec (ws := w_c_H_sort_h) B.pre
  have hown : s.vm.findClass RX11 = some m.cls := findClass_of_methodNamed B.named
  have hlocks := B.notSynchronized
  subst hsz
  have hD := hD0.self (sz := s.heap.size)
  generalize hAe : va_A [(hh, .inr (13, [.ref aexpr, .ref achoo, .ref ameth, .ref aroom, .ref anod, .ref asort, .ref anote, .ref amet, .int 0, .int 1])), (asort, .inr (1, [.int 0, .ref eD, .int 0])), (anod, .inr (7, [.ref nm, .ref nl, .ref n1, .ref n2, .ref nf, .ref ns, .ref nh, .ref nk, .ref np, .int 16, .int 0, .int 16, .int 0, .int 0])), (ns, .inl (kL, 1024, .inr (.inl zSec))), (nm, .inl (kI, 12, .inl (fun _ => 0))), (nl, .inl (kI, 12, .inl (fun _ => 0))), (n1, .inl (kI, 12, .inl (fun _ => 0))), (n2, .inl (kI, 12, .inl (fun _ => 0)))] s.heap.size = A at hD hE ⊢
  have hA : ∀ q : Nat, s.heap.size ≤ q → A q := fun q h => by rw [← hAe]; exact Or.inr h
  have hS : va_S A s.heap s.heap [] := va_S.rf
  have hP : va_P (dC, dI) vwCl [(hh, .inr (13, [.ref aexpr, .ref achoo, .ref ameth, .ref aroom, .ref anod, .ref asort, .ref anote, .ref amet, .int 0, .int 1])), (asort, .inr (1, [.int 0, .ref eD, .int 0])), (anod, .inr (7, [.ref nm, .ref nl, .ref n1, .ref n2, .ref nf, .ref ns, .ref nh, .ref nk, .ref np, .int 16, .int 0, .int 16, .int 0, .int 0])), (ns, .inl (kL, 1024, .inr (.inl zSec))), (nm, .inl (kI, 12, .inl (fun _ => 0))), (nl, .inl (kI, 12, .inl (fun _ => 0))), (n1, .inl (kI, 12, .inl (fun _ => 0))), (n2, .inl (kI, 12, .inl (fun _ => 0)))] s.heap := hP
  have hl := lv_entry ([.ref hh, .int x1, .int x2, .int x3]) (n := 6) (Nat.le_of_ble_eq_true rfl)
  rw [lg_entry_eq]
  generalize (lg_sl ([.ref hh, .int x1, .int x2, .int x3]) ++ List.replicate (6 - (lg_sl ([.ref hh, .int x1, .int x2, .int x3])).length) Slot.unset).toArray = ls at hl ⊢
  have hl : lv_has ls 6 [(0, .ref hh), (1, .int x1), (2, .int x2), (3, .int x3)] := hl
  refine lv_iload_n hx hb dX11_sort_0 rfl (lv_at hl 1 rfl) ?_
  refine lv_if_lt (tgt := 37) hx hb dX11_sort_1 (by decide) (fun c_1 => ?_) (fun c_1 => ?_)
  · exact absurd c_1 hx10
  refine lv_iload_n hx hb dX11_sort_4 rfl (lv_at hl 1 rfl) ?_
  refine lv_iconst (v := 2) hx hb dX11_sort_5 (by decide) ?_
  refine lv_icmp_gt (tgt := 37) hx hb dX11_sort_6 (by decide) (fun c_2 => ?_) (fun c_2 => ?_)
  rotate_left
  · exact absurd hx11 c_2
  refine lv_iconst (v := 0) hx hb dX11_sort_37 (by decide) ?_
  refine lv_istore (lv' := [(4, .int 0), (0, .ref hh), (1, .int x1), (2, .int x2), (3, .int x3)]) hx hb dX11_sort_38 hl (by decide) rfl (fun ls hl => ?_)
  refine lv_iload hx hb dX11_sort_40 (lv_at hl 0 rfl) ?_
  refine lv_if_ne (tgt := 55) hx hb dX11_sort_42 (by decide) (fun c_3 => ?_) (fun c_3 => ?_)
  · exact absurd (by decide) c_3
  obtain ⟨sa, hsa⟩ := hE.2.2.2.1 ("Hornbook", 68, "no such PARAMETERS") (by decide +kernel)
  have hsa : vk_R RX11 68 "no such PARAMETERS" sa s := hsa
  exact vx_throwS (A := A) (cls := "java/lang/IllegalArgumentException") (text := "no such PARAMETERS") (names := ["java/lang/RuntimeException", "java/lang/Exception"]) hx hb (z_traces hfl) hown (by decide +kernel) (by decide +kernel) (hts (.classLink RX11 66 "java/lang/IllegalArgumentException") (by decide +kernel)) (hts (.initialized "java/lang/IllegalArgumentException") (by decide +kernel)) hsa (vx_hat (B := Cond.castable "java/lang/IllegalArgumentException" "java/lang/IllegalArgumentException" :: zDecs) (fun w h => hts w (List.mem_cons_of_mem _ (List.mem_append_right _ (zAt_70 w h)))) (by decide +kernel) (vx_c (va_Nw.use rfl (hE.2.2.2.2.2.2.2.1 ("java/lang/IllegalArgumentException", "java/lang/IllegalArgumentException") (by decide +kernel))) hDc.use)) (by decide +kernel) hE.1 hE.2.1 hS (by rw [hml]; exact hl.1) dX11_sort_45 dX11_sort_48 dX11_sort_49 dX11_sort_51 dX11_sort_54 (fun x h => (htab x h).elim) (Nat.le_of_ble_eq_true rfl) (Nat.le_of_ble_eq_true rfl) (Nat.le_of_ble_eq_true rfl) (Nat.le_of_ble_eq_true rfl) hlocks (fun t hW h1 h2 => ⟨(), trivial, rfl, z_F hS h1 h2⟩) hS.2.2 (Nat.le_of_ble_eq_true rfl) (Nat.le_of_ble_eq_true rfl)

def wb_c_H_sort_0 : List Cond := [.fieldLink RX11 42 "Hornbook" "sorts" "Ljava/util/ArrayList;", .code yJx4a65c_size_8abf5 cJx4a65c_size_8abf5 1 (some .int), .fieldLink RJx4a65c 48 "java/util/ArrayList" "size" "I", .methodLink RX11 73 yJx4a65c_size_8abf5, .instanceMethod yJx4a65c_size_8abf5, .selects RJx4a65c yJx4a65c_size_8abf5 yJx4a65c_size_8abf5, .initialized RJx4a65c, .classLink RX11 82 RX9, .instantiable RX9 9, .initialized RX9, .code yX9_init cX9_init 1 none, .methodLink RX9 3 objectInit, .instanceMethod objectInit, .code objectInit ⟨#[0xb1]⟩ 1 none, .fieldLink RX9 9 "Hornbook$Sort" "first" "I", .fieldLink RX9 15 "Hornbook$Sort" "second" "I", .arrayClass .int, .fieldLink RX9 18 "Hornbook$Sort" "way" "[I", .instanceMethod yX9_init, .fieldLink RX11 85 "Hornbook$Sort" "number" "I", .fieldLink RX11 88 "Hornbook$Sort" "many" "I", .fieldLink RX11 91 "Hornbook$Sort" "howOne" "I", .fieldLink RX11 94 "Hornbook$Sort" "howOther" "I", .code yX9_startWay cX9_startWay 1 none, .fieldLink RX9 31 "Hornbook$Sort" "length" "I", .fieldLink RX9 28 "Hornbook$Sort" "above" "I", .fieldLink RX9 34 "Hornbook$Sort" "number" "I", .code yX9_pass cX9_pass 2 none, .code yX9_goesTo cX9_goesTo 2 (some .boolean), .methodLink RX9 45 yX9_goesTo, .instanceMethod yX9_goesTo, .selects RX9 yX9_goesTo yX9_goesTo, .methodLink RX9 37 yX9_pass, .instanceMethod yX9_pass, .selects RX9 yX9_pass yX9_pass, .methodLink RX11 97 yX9_startWay, .instanceMethod yX9_startWay, .selects RX9 yX9_startWay yX9_startWay, .fieldLink RX11 38 "Hornbook" "nodes" "LHornbook$Nodes;", .fieldLink RX11 100 "Hornbook$Nodes" "many" "[I", .code yX5_lift cX5_lift 6 none, .fieldLink RX5 9 "Hornbook$Nodes" "many" "[I", .fieldLink RX5 15 "Hornbook$Nodes" "alone" "[I", .code yX5_liftOf cX5_liftOf 6 (some .int), .code yX5_formOf cX5_formOf 2 (some .int), .methodLink RX5 100 yX5_formOf, .instanceMethod yX5_formOf, .selects RX5 yX5_formOf yX5_formOf, .initialized RX5, .methodLink RX5 96 yX5_liftOf, .instanceMethod yX5_liftOf, .selects RX5 yX5_liftOf yX5_liftOf, .methodLink RX5 78 Lib.Math.max.name, .static Lib.Math.max.name, .initialized "java/lang/Math", .code Lib.Math.max.name Lib.Math.max.code 2 (some .int), .methodLink RX11 104 yX5_lift, .instanceMethod yX5_lift, .selects RX5 yX5_lift yX5_lift, .code yJx4a65c_add_9ea2d cJx4a65c_add_9ea2d 2 (some .boolean), .sameField "java/util/ArrayList" "java/util/AbstractList" "modCount" "I", .fieldLink RJx4a65c 63 "java/util/ArrayList" "modCount" "I", .fieldLink RJx4a65c 9 "java/util/ArrayList" "elementData" "[Ljava/lang/Object;", .code yJx4a65c_add_72be8 cJx4a65c_add_72be8 4 none, .code yJx4a65c_grow_d5877 cJx4a65c_grow_d5877 1 (some (.array (.object "java/lang/Object"))), .code yJx4a65c_grow_92f84 cJx4a65c_grow_92f84 4 (some (.array (.object "java/lang/Object"))), .fieldLink RJx4a65c 39 "java/util/ArrayList" "DEFAULTCAPACITY_EMPTY_ELEMENTDATA" "[Ljava/lang/Object;", .methodLink RJx4a65c 79 Lib.Math.max.name, .classLink RJx4a65c 7 "java/lang/Object", .methodLink RJx4a65c 69 yJx4a65c_grow_92f84, .instanceMethod yJx4a65c_grow_92f84, .selects RJx4a65c yJx4a65c_grow_92f84 yJx4a65c_grow_92f84, .methodLink RJx4a65c 129 yJx4a65c_grow_d5877, .instanceMethod yJx4a65c_grow_d5877, .selects RJx4a65c yJx4a65c_grow_d5877 yJx4a65c_grow_d5877, .methodLink RJx4a65c 131 yJx4a65c_add_72be8, .instanceMethod yJx4a65c_add_72be8, .selects RJx4a65c yJx4a65c_add_72be8 yJx4a65c_add_72be8, .methodLink RX11 108 yJx4a65c_add_9ea2d, .instanceMethod yJx4a65c_add_9ea2d, .selects RJx4a65c yJx4a65c_add_9ea2d yJx4a65c_add_9ea2d, .fieldLink RX11 58 "Hornbook" "isNoted" "Z"] ++ u_ws RJx4a65c TJx4a65c 3 ++ u_ws RX11 TX11 10 ++ u_ws RX5 TX5 14 ++ u_ws RX9 TX9 9
def w_c_H_sort_0 : List Cond := .code yX11_sort cX11_sort 6 (some .int) :: wb_c_H_sort_0
set_option maxRecDepth 100000 in
theorem g_c_H_sort_0_0 : GoodIn w_c_H_sort_0 (wsV RX11 73 RJx4a65c yJx4a65c_size_8abf5 w_c_AL_size) := goodIn_app (goodIn_of _ (by decide +kernel)) (goodIn_p (big := w_c_H_sort_0) (.code yJx4a65c_size_8abf5 cJx4a65c_size_8abf5 1 (some .int) :: wb_c_AL_size) [2] rfl (by decide +kernel))
set_option maxRecDepth 100000 in
theorem g_c_H_sort_0_1 : GoodIn w_c_H_sort_0 (w_c_S_new) := goodIn_p (big := w_c_H_sort_0) (.code yX9_init cX9_init 1 none :: wb_c_S_new) [11, 14] rfl (by decide +kernel)
set_option maxRecDepth 100000 in
theorem g_c_H_sort_0_2 : GoodIn w_c_H_sort_0 (wsV RX11 97 RX9 yX9_startWay w_c_S_startWay) := goodIn_app (goodIn_of _ (by decide +kernel)) (goodIn_p (big := w_c_H_sort_0) (.code yX9_startWay cX9_startWay 1 none :: wb_c_S_startWay) [24, 28, 29] rfl (by decide +kernel))
set_option maxRecDepth 100000 in
theorem g_c_H_sort_0_3 : GoodIn w_c_H_sort_0 (wsV RX11 104 RX5 yX5_lift w_c_N_lift_0) := goodIn_app (goodIn_of _ (by decide +kernel)) (goodIn_p (big := w_c_H_sort_0) (.code yX5_lift cX5_lift 6 none :: wb_c_N_lift_0) [41, 44, 45, 56] rfl (by decide +kernel))
set_option maxRecDepth 100000 in
theorem g_c_H_sort_0_4 : GoodIn w_c_H_sort_0 (wsV RX11 108 RJx4a65c yJx4a65c_add_9ea2d w_c_AL_add0) := goodIn_app (goodIn_of _ (by decide +kernel)) (goodIn_p (big := w_c_H_sort_0) (.code yJx4a65c_add_9ea2d cJx4a65c_add_9ea2d 2 (some .boolean) :: wb_c_AL_add0) [60, 64, 65, 66, 56] rfl (by decide +kernel))
set_option maxHeartbeats 4000000 in
set_option maxRecDepth 100000 in
theorem c_H_sort_0 (l : Launch) (eD eI : Nat) (ad : Nat → Nat) (dC : Nat → ClassId) (dI : Nat → Nat → Nat) (sz : Nat) (hh : Nat) (aexpr : Nat) (achoo : Nat) (ameth : Nat) (aroom : Nat) (anod : Nat) (asort : Nat) (anote : Nat) (amet : Nat) (nm : Nat) (nl : Nat) (n1 : Nat) (n2 : Nat) (nf : Nat) (ns : Nat) (nh : Nat) (nk : Nat) (np : Nat) (kI : ClassId) (kL : ClassId) (x2 : Int32) (x3 : Int32) : Met l yX11_sort w_c_H_sort_0 ({ frames := 5, cells := 3, slots := 31, locals := 101 }) (va_Pc [.ref hh, .int 0, .int x2, .int x3] (zPre eD eI ad (dC, dI) [(hh, .inr (13, [.ref aexpr, .ref achoo, .ref ameth, .ref aroom, .ref anod, .ref asort, .ref anote, .ref amet, .int 0, .int 1])), (asort, .inr (1, [.int 0, .ref eD, .int 0])), (anod, .inr (7, [.ref nm, .ref nl, .ref n1, .ref n2, .ref nf, .ref ns, .ref nh, .ref nk, .ref np, .int 16, .int 0, .int 16, .int 0, .int 0])), (ns, .inl (kL, 1024, .inr (.inl zSec))), (nm, .inl (kI, 12, .inl (fun _ => 0))), (nl, .inl (kI, 12, .inl (fun _ => 0))), (n1, .inl (kI, 12, .inl (fun _ => 0))), (n2, .inl (kI, 12, .inl (fun _ => 0)))] [(kL, .long), (kI, .int)] sz)) (va_Qi (fun (r : Int32) (_ : Unit) => r = 0) (fun (_ : Unit) => zEnd (dC, dI) (va_A [(hh, .inr (13, [.ref aexpr, .ref achoo, .ref ameth, .ref aroom, .ref anod, .ref asort, .ref anote, .ref amet, .int 0, .int 1])), (asort, .inr (1, [.int 0, .ref eD, .int 0])), (anod, .inr (7, [.ref nm, .ref nl, .ref n1, .ref n2, .ref nf, .ref ns, .ref nh, .ref nk, .ref np, .int 16, .int 0, .int 16, .int 0, .int 0])), (ns, .inl (kL, 1024, .inr (.inl zSec))), (nm, .inl (kI, 12, .inl (fun _ => 0))), (nl, .inl (kI, 12, .inl (fun _ => 0))), (n1, .inl (kI, 12, .inl (fun _ => 0))), (n2, .inl (kI, 12, .inl (fun _ => 0)))] sz) [] []) (va_A [(hh, .inr (13, [.ref aexpr, .ref achoo, .ref ameth, .ref aroom, .ref anod, .ref asort, .ref anote, .ref amet, .int 0, .int 1])), (asort, .inr (1, [.int 0, .ref eD, .int 0])), (anod, .inr (7, [.ref nm, .ref nl, .ref n1, .ref n2, .ref nf, .ref ns, .ref nh, .ref nk, .ref np, .int 16, .int 0, .int 16, .int 0, .int 0])), (ns, .inl (kL, 1024, .inr (.inl zSec))), (nm, .inl (kI, 12, .inl (fun _ => 0))), (nl, .inl (kI, 12, .inl (fun _ => 0))), (n1, .inl (kI, 12, .inl (fun _ => 0))), (n2, .inl (kI, 12, .inl (fun _ => 0)))] sz)) 3 31 (va_A [(hh, .inr (13, [.ref aexpr, .ref achoo, .ref ameth, .ref aroom, .ref anod, .ref asort, .ref anote, .ref amet, .int 0, .int 1])), (asort, .inr (1, [.int 0, .ref eD, .int 0])), (anod, .inr (7, [.ref nm, .ref nl, .ref n1, .ref n2, .ref nf, .ref ns, .ref nh, .ref nk, .ref np, .int 16, .int 0, .int 16, .int 0, .int 0])), (ns, .inl (kL, 1024, .inr (.inl zSec))), (nm, .inl (kI, 12, .inl (fun _ => 0))), (nl, .inl (kI, 12, .inl (fun _ => 0))), (n1, .inl (kI, 12, .inl (fun _ => 0))), (n2, .inl (kI, 12, .inl (fun _ => 0)))] sz) := by
  refine Met.ofW (cc := cX11_sort) (maxL := 6) (ret := (some .int)) (by decide) rfl ?_
  intro p e s m args below meth c s₁ B hml hv
  obtain ⟨rfl, hsz, hP, hK, hD0, hE⟩ := hv
  have hx := B.exec
  have hb := B.bytes
  have hr := B.returns
  have hts := atoms_spec (ws := w_c_H_sort_0) B.pre
  have hown : s.vm.findClass RX11 = some m.cls := findClass_of_methodNamed B.named
  have hlocks := B.notSynchronized
  subst hsz
  have hD := hD0.self (sz := s.heap.size)
  generalize hAe : va_A [(hh, .inr (13, [.ref aexpr, .ref achoo, .ref ameth, .ref aroom, .ref anod, .ref asort, .ref anote, .ref amet, .int 0, .int 1])), (asort, .inr (1, [.int 0, .ref eD, .int 0])), (anod, .inr (7, [.ref nm, .ref nl, .ref n1, .ref n2, .ref nf, .ref ns, .ref nh, .ref nk, .ref np, .int 16, .int 0, .int 16, .int 0, .int 0])), (ns, .inl (kL, 1024, .inr (.inl zSec))), (nm, .inl (kI, 12, .inl (fun _ => 0))), (nl, .inl (kI, 12, .inl (fun _ => 0))), (n1, .inl (kI, 12, .inl (fun _ => 0))), (n2, .inl (kI, 12, .inl (fun _ => 0)))] s.heap.size = A at hD hE ⊢
  have hA : ∀ q : Nat, s.heap.size ≤ q → A q := fun q h => by rw [← hAe]; exact Or.inr h
  have hS : va_S A s.heap s.heap [] := va_S.rf
  have hP : va_P (dC, dI) vwCl [(hh, .inr (13, [.ref aexpr, .ref achoo, .ref ameth, .ref aroom, .ref anod, .ref asort, .ref anote, .ref amet, .int 0, .int 1])), (asort, .inr (1, [.int 0, .ref eD, .int 0])), (anod, .inr (7, [.ref nm, .ref nl, .ref n1, .ref n2, .ref nf, .ref ns, .ref nh, .ref nk, .ref np, .int 16, .int 0, .int 16, .int 0, .int 0])), (ns, .inl (kL, 1024, .inr (.inl zSec))), (nm, .inl (kI, 12, .inl (fun _ => 0))), (nl, .inl (kI, 12, .inl (fun _ => 0))), (n1, .inl (kI, 12, .inl (fun _ => 0))), (n2, .inl (kI, 12, .inl (fun _ => 0)))] s.heap := hP
  have hl := lv_entry ([.ref hh, .int 0, .int x2, .int x3]) (n := 6) (Nat.le_of_ble_eq_true rfl)
  rw [lg_entry_eq]
  generalize (lg_sl ([.ref hh, .int 0, .int x2, .int x3]) ++ List.replicate (6 - (lg_sl ([.ref hh, .int 0, .int x2, .int x3])).length) Slot.unset).toArray = ls at hl ⊢
  have hl : lv_has ls 6 [(0, .ref hh), (1, .int 0), (2, .int x2), (3, .int x3)] := hl
  have in_RJx4a65c : ∀ w ∈ u_ws RJx4a65c TJx4a65c 3, w ∈ w_c_H_sort_0 := by decide +kernel
  have in_RX11 : ∀ w ∈ u_ws RX11 TX11 10, w ∈ w_c_H_sort_0 := by decide +kernel
  have in_RX5 : ∀ w ∈ u_ws RX5 TX5 14, w ∈ w_c_H_sort_0 := by decide +kernel
  have in_RX9 : ∀ w ∈ u_ws RX9 TX9 9, w ∈ w_c_H_sort_0 := by decide +kernel
  refine lv_iload_n hx hb dX11_sort_0 rfl (lv_at hl 1 rfl) ?_
  refine lv_if_lt (tgt := 37) hx hb dX11_sort_1 (by decide) (fun c_1 => ?_) (fun c_1 => ?_)
  · exact absurd c_1 (by decide)
  refine lv_iload_n hx hb dX11_sort_4 rfl (lv_at hl 1 rfl) ?_
  refine lv_iconst (v := 2) hx hb dX11_sort_5 (by decide) ?_
  refine lv_icmp_gt (tgt := 37) hx hb dX11_sort_6 (by decide) (fun c_2 => ?_) (fun c_2 => ?_)
  · exact absurd c_2 (by decide)
  refine lv_iload_n hx hb dX11_sort_9 rfl (lv_at hl 1 rfl) ?_
  refine lv_iconst (v := 1) hx hb dX11_sort_10 (by decide) ?_
  refine lv_icmp_lt (tgt := 21) hx hb dX11_sort_11 (by decide) (fun c_3 => ?_) (fun c_3 => ?_)
  rotate_left
  · exact absurd (by decide) c_3
  refine lv_iload_n hx hb dX11_sort_21 rfl (lv_at hl 1 rfl) ?_
  refine lv_iconst (v := 2) hx hb dX11_sort_22 (by decide) ?_
  refine lv_icmp_lt (tgt := 33) hx hb dX11_sort_23 (by decide) (fun c_4 => ?_) (fun c_4 => ?_)
  rotate_left
  · exact absurd (by decide) c_4
  refine lv_iconst (v := 1) hx hb dX11_sort_33 (by decide) ?_
  refine lv_goto (tgt := 38) hx hb dX11_sort_34 (by decide) ?_
  refine lv_istore (lv' := [(4, .int 1), (0, .ref hh), (1, .int 0), (2, .int x2), (3, .int x3)]) hx hb dX11_sort_38 hl (by decide) rfl (fun ls hl => ?_)
  refine lv_iload hx hb dX11_sort_40 (lv_at hl 0 rfl) ?_
  refine lv_if_ne (tgt := 55) hx hb dX11_sort_42 (by decide) (fun c_5 => ?_) (fun c_5 => ?_)
  rotate_left
  · exact absurd c_5 (by decide)
  refine lv_aload_n hx hb dX11_sort_55 rfl (lv_at hl 1 rfl) ?_
  refine va_get (D := (dC, dI)) (ci := 13) (v := .ref asort) (C := RX11) (T := TX11) (N := 10) hx hb hts in_RX11 hown hK hP 0 rfl rfl 5 (by decide) (hts (.fieldLink RX11 42 "Hornbook" "sorts" "Ljava/util/ArrayList;") (by decide +kernel)) (fun _ h9 => h9) rfl dX11_sort_56 ?_
  refine z_i (wr := [(hh, .inr (13, [.ref aexpr, .ref achoo, .ref ameth, .ref aroom, .ref anod, .ref asort, .ref anote, .ref amet, .int 0, .int 1])), (anod, .inr (7, [.ref nm, .ref nl, .ref n1, .ref n2, .ref nf, .ref ns, .ref nh, .ref nk, .ref np, .int 16, .int 0, .int 16, .int 0, .int 0])), (ns, .inl (kL, 1024, .inr (.inl zSec))), (nm, .inl (kI, 12, .inl (fun _ => 0))), (nl, .inl (kI, 12, .inl (fun _ => 0))), (n1, .inl (kI, 12, .inl (fun _ => 0))), (n2, .inl (kI, 12, .inl (fun _ => 0)))]) (va_runV (As := []) (rest := []) ⟨hx, hb, hml, hown, hts⟩ (c_AL_size l eD eI ad dC dI s.heap.size asort ((.int 0)) ((.ref eD)) 0) (cwV 0 hts g_c_H_sort_0_0 rfl rfl rfl (by decide +kernel) ⟨Nat.le_of_ble_eq_true rfl, Nat.le_of_ble_eq_true rfl⟩) (z_preV (wc := [(asort, .inr (1, [.int 0, .ref eD, .int 0]))]) hP hD hK hS hA hE [1] [] rfl (by decide) rfl (ci := 1) (q0 := 0) rfl rfl) rfl rfl hl.1 rfl (lv_room (Nat.le_of_ble_eq_true rfl)) dX11_sort_59 ⟨Nat.le_of_ble_eq_true rfl, Nat.le_of_ble_eq_true rfl⟩) hP hD hK hS hA [1] [0, 2, 3, 4, 5, 6, 7] rfl rfl (by decide) (by decide) (fun r_6 u H locs hw_7 hP hD hK hS => ?_)
  obtain ⟨⟩ := u
  have hP : va_P (dC, dI) vwCl [(hh, .inr (13, [.ref aexpr, .ref achoo, .ref ameth, .ref aroom, .ref anod, .ref asort, .ref anote, .ref amet, .int 0, .int 1])), (anod, .inr (7, [.ref nm, .ref nl, .ref n1, .ref n2, .ref nf, .ref ns, .ref nh, .ref nk, .ref np, .int 16, .int 0, .int 16, .int 0, .int 0])), (ns, .inl (kL, 1024, .inr (.inl zSec))), (nm, .inl (kI, 12, .inl (fun _ => 0))), (nl, .inl (kI, 12, .inl (fun _ => 0))), (n1, .inl (kI, 12, .inl (fun _ => 0))), (n2, .inl (kI, 12, .inl (fun _ => 0))), (asort, .inr (1, [.int 0, .ref eD, .int 0]))] H := hP
  have hD : va_D A [(hh, .inr (13, [.ref aexpr, .ref achoo, .ref ameth, .ref aroom, .ref anod, .ref asort, .ref anote, .ref amet, .int 0, .int 1])), (anod, .inr (7, [.ref nm, .ref nl, .ref n1, .ref n2, .ref nf, .ref ns, .ref nh, .ref nk, .ref np, .int 16, .int 0, .int 16, .int 0, .int 0])), (ns, .inl (kL, 1024, .inr (.inl zSec))), (nm, .inl (kI, 12, .inl (fun _ => 0))), (nl, .inl (kI, 12, .inl (fun _ => 0))), (n1, .inl (kI, 12, .inl (fun _ => 0))), (n2, .inl (kI, 12, .inl (fun _ => 0))), (asort, .inr (1, [.int 0, .ref eD, .int 0]))] := hD
  have hK : va_K (dC, dI) vwCl [(kL, .long), (kI, .int)] s := by simpa using hK
  have hw_7 : r_6 = 0 := hw_7
  have hw_7 := hw_7.symm
  subst hw_7
  refine lv_bipush (v := 12) hx hb dX11_sort_62 (by decide) ?_
  refine lv_icmp_lt (tgt := 77) hx hb dX11_sort_64 (by decide) (fun c_8 => ?_) (fun c_8 => ?_)
  rotate_left
  · exact absurd (by decide) c_8
  refine va_new (ci := 11) (fs := [.int 0, .int 0, .int 0, .int 0, .int 0, .int 0, .int 0, .null, .int 0]) (C := RX9) (T := TX9) (N := 9) hx hb hts in_RX9 tyX9 tyX9_ok hown (hts (.classLink RX11 82 RX9) (by decide +kernel)) (hts (.instantiable RX9 9) (by decide +kernel)) (hts (.initialized RX9) (by decide +kernel)) hK hP hD hS hA rfl (fun j hj => by rcases (show j = 0 ∨ j = 1 ∨ j = 2 ∨ j = 3 ∨ j = 4 ∨ j = 5 ∨ j = 6 ∨ j = 7 ∨ j = 8 by omega) with rfl | rfl | rfl | rfl | rfl | rfl | rfl | rfl | rfl <;> rfl) (Nat.le_of_ble_eq_true rfl) (Nat.le_of_ble_eq_true rfl) dX11_sort_77 (fun q_9 H hP hD hS => ?_)
  have hP : va_P (dC, dI) vwCl [(hh, .inr (13, [.ref aexpr, .ref achoo, .ref ameth, .ref aroom, .ref anod, .ref asort, .ref anote, .ref amet, .int 0, .int 1])), (anod, .inr (7, [.ref nm, .ref nl, .ref n1, .ref n2, .ref nf, .ref ns, .ref nh, .ref nk, .ref np, .int 16, .int 0, .int 16, .int 0, .int 0])), (ns, .inl (kL, 1024, .inr (.inl zSec))), (nm, .inl (kI, 12, .inl (fun _ => 0))), (nl, .inl (kI, 12, .inl (fun _ => 0))), (n1, .inl (kI, 12, .inl (fun _ => 0))), (n2, .inl (kI, 12, .inl (fun _ => 0))), (asort, .inr (1, [.int 0, .ref eD, .int 0])), (q_9, .inr (11, [.int 0, .int 0, .int 0, .int 0, .int 0, .int 0, .int 0, .null, .int 0]))] H := hP
  have hD : va_D A [(hh, .inr (13, [.ref aexpr, .ref achoo, .ref ameth, .ref aroom, .ref anod, .ref asort, .ref anote, .ref amet, .int 0, .int 1])), (anod, .inr (7, [.ref nm, .ref nl, .ref n1, .ref n2, .ref nf, .ref ns, .ref nh, .ref nk, .ref np, .int 16, .int 0, .int 16, .int 0, .int 0])), (ns, .inl (kL, 1024, .inr (.inl zSec))), (nm, .inl (kI, 12, .inl (fun _ => 0))), (nl, .inl (kI, 12, .inl (fun _ => 0))), (n1, .inl (kI, 12, .inl (fun _ => 0))), (n2, .inl (kI, 12, .inl (fun _ => 0))), (asort, .inr (1, [.int 0, .ref eD, .int 0])), (q_9, .inr (11, [.int 0, .int 0, .int 0, .int 0, .int 0, .int 0, .int 0, .null, .int 0]))] := hD
  refine lv_dup hx hb dX11_sort_80 rfl ?_
  refine z_v (wr := [(hh, .inr (13, [.ref aexpr, .ref achoo, .ref ameth, .ref aroom, .ref anod, .ref asort, .ref anote, .ref amet, .int 0, .int 1])), (anod, .inr (7, [.ref nm, .ref nl, .ref n1, .ref n2, .ref nf, .ref ns, .ref nh, .ref nk, .ref np, .int 16, .int 0, .int 16, .int 0, .int 0])), (ns, .inl (kL, 1024, .inr (.inl zSec))), (nm, .inl (kI, 12, .inl (fun _ => 0))), (nl, .inl (kI, 12, .inl (fun _ => 0))), (n1, .inl (kI, 12, .inl (fun _ => 0))), (n2, .inl (kI, 12, .inl (fun _ => 0))), (asort, .inr (1, [.int 0, .ref eD, .int 0]))]) (va_runIN (As := []) (rest := [.ref q_9]) ⟨hx, hb, hml, hown, hts⟩ (c_S_new l eD eI ad dC dI H.size q_9) (⟨va_cnB 0 hts g_c_H_sort_0_1 rfl rfl rfl (hE.2.2.1 (.methodLinkNest RX11 84 yX9_init "Hornbook") (by decide +kernel)) (hts (.initialized RX9) (by decide +kernel)) (by decide +kernel) ⟨Nat.le_of_ble_eq_true rfl, Nat.le_of_ble_eq_true rfl⟩, rfl, (hts (.instanceMethod yX9_init) (by decide +kernel))⟩) (z_preS (wc := [(q_9, .inr (11, [.int 0, .int 0, .int 0, .int 0, .int 0, .int 0, .int 0, .null, .int 0]))]) hP hD hK hS hA hE [8] [] rfl (by decide) rfl) rfl rfl hl.1 rfl (lv_room (Nat.le_of_ble_eq_true rfl)) dX11_sort_81 ⟨Nat.le_of_ble_eq_true rfl, Nat.le_of_ble_eq_true rfl⟩) hP hD hK hS hA [8] [0, 1, 2, 3, 4, 5, 6, 7] rfl rfl (by decide) (by decide) (fun u H locs hw_13 hP hD hK hS => ?_)
  obtain ⟨u_10, u_11⟩ := u
  have hP : va_P (dC, dI) vwCl [(hh, .inr (13, [.ref aexpr, .ref achoo, .ref ameth, .ref aroom, .ref anod, .ref asort, .ref anote, .ref amet, .int 0, .int 1])), (anod, .inr (7, [.ref nm, .ref nl, .ref n1, .ref n2, .ref nf, .ref ns, .ref nh, .ref nk, .ref np, .int 16, .int 0, .int 16, .int 0, .int 0])), (ns, .inl (kL, 1024, .inr (.inl zSec))), (nm, .inl (kI, 12, .inl (fun _ => 0))), (nl, .inl (kI, 12, .inl (fun _ => 0))), (n1, .inl (kI, 12, .inl (fun _ => 0))), (n2, .inl (kI, 12, .inl (fun _ => 0))), (asort, .inr (1, [.int 0, .ref eD, .int 0])), (q_9, .inr (11, [.int 0, .int 0, .int 0, .int 0, .int (-1), .int (-1), .int 0, .ref u_10, .int 0])), (u_10, .inl (u_11, 12, .inl (fun _ => 0)))] H := hP
  have hD : va_D A [(hh, .inr (13, [.ref aexpr, .ref achoo, .ref ameth, .ref aroom, .ref anod, .ref asort, .ref anote, .ref amet, .int 0, .int 1])), (anod, .inr (7, [.ref nm, .ref nl, .ref n1, .ref n2, .ref nf, .ref ns, .ref nh, .ref nk, .ref np, .int 16, .int 0, .int 16, .int 0, .int 0])), (ns, .inl (kL, 1024, .inr (.inl zSec))), (nm, .inl (kI, 12, .inl (fun _ => 0))), (nl, .inl (kI, 12, .inl (fun _ => 0))), (n1, .inl (kI, 12, .inl (fun _ => 0))), (n2, .inl (kI, 12, .inl (fun _ => 0))), (asort, .inr (1, [.int 0, .ref eD, .int 0])), (q_9, .inr (11, [.int 0, .int 0, .int 0, .int 0, .int (-1), .int (-1), .int 0, .ref u_10, .int 0])), (u_10, .inl (u_11, 12, .inl (fun _ => 0)))] := hD
  have hK : va_K (dC, dI) vwCl [(kL, .long), (kI, .int), (u_11, .int)] s := hK
  refine lv_astore (lv' := [(5, .ref q_9), (4, .int 1), (0, .ref hh), (1, .int 0), (2, .int x2), (3, .int x3)]) hx hb dX11_sort_84 hl (by decide) rfl (fun ls hl => ?_)
  refine lv_aload hx hb dX11_sort_86 (lv_at hl 0 rfl) ?_
  refine lv_aload_n hx hb dX11_sort_88 rfl (lv_at hl 2 rfl) ?_
  refine va_get (D := (dC, dI)) (ci := 13) (v := .ref asort) (C := RX11) (T := TX11) (N := 10) hx hb hts in_RX11 hown hK hP 0 rfl rfl 5 (by decide) (hts (.fieldLink RX11 42 "Hornbook" "sorts" "Ljava/util/ArrayList;") (by decide +kernel)) (fun _ h9 => h9) rfl dX11_sort_89 ?_
  refine z_i (wr := [(hh, .inr (13, [.ref aexpr, .ref achoo, .ref ameth, .ref aroom, .ref anod, .ref asort, .ref anote, .ref amet, .int 0, .int 1])), (anod, .inr (7, [.ref nm, .ref nl, .ref n1, .ref n2, .ref nf, .ref ns, .ref nh, .ref nk, .ref np, .int 16, .int 0, .int 16, .int 0, .int 0])), (ns, .inl (kL, 1024, .inr (.inl zSec))), (nm, .inl (kI, 12, .inl (fun _ => 0))), (nl, .inl (kI, 12, .inl (fun _ => 0))), (n1, .inl (kI, 12, .inl (fun _ => 0))), (n2, .inl (kI, 12, .inl (fun _ => 0))), (q_9, .inr (11, [.int 0, .int 0, .int 0, .int 0, .int (-1), .int (-1), .int 0, .ref u_10, .int 0])), (u_10, .inl (u_11, 12, .inl (fun _ => 0)))]) (va_runV (As := []) (rest := [.ref q_9]) ⟨hx, hb, hml, hown, hts⟩ (c_AL_size l eD eI ad dC dI H.size asort ((.int 0)) ((.ref eD)) 0) (cwV 0 hts g_c_H_sort_0_0 rfl rfl rfl (by decide +kernel) ⟨Nat.le_of_ble_eq_true rfl, Nat.le_of_ble_eq_true rfl⟩) (z_preV (wc := [(asort, .inr (1, [.int 0, .ref eD, .int 0]))]) hP hD hK hS hA hE [7] [] rfl (by decide) rfl (ci := 1) (q0 := 0) rfl rfl) rfl rfl hl.1 rfl (lv_room (Nat.le_of_ble_eq_true rfl)) dX11_sort_92 ⟨Nat.le_of_ble_eq_true rfl, Nat.le_of_ble_eq_true rfl⟩) hP hD hK hS hA [7] [0, 1, 2, 3, 4, 5, 6, 8, 9] rfl rfl (by decide) (by decide) (fun r_14 u H locs hw_15 hP hD hK hS => ?_)
  obtain ⟨⟩ := u
  have hP : va_P (dC, dI) vwCl [(hh, .inr (13, [.ref aexpr, .ref achoo, .ref ameth, .ref aroom, .ref anod, .ref asort, .ref anote, .ref amet, .int 0, .int 1])), (anod, .inr (7, [.ref nm, .ref nl, .ref n1, .ref n2, .ref nf, .ref ns, .ref nh, .ref nk, .ref np, .int 16, .int 0, .int 16, .int 0, .int 0])), (ns, .inl (kL, 1024, .inr (.inl zSec))), (nm, .inl (kI, 12, .inl (fun _ => 0))), (nl, .inl (kI, 12, .inl (fun _ => 0))), (n1, .inl (kI, 12, .inl (fun _ => 0))), (n2, .inl (kI, 12, .inl (fun _ => 0))), (q_9, .inr (11, [.int 0, .int 0, .int 0, .int 0, .int (-1), .int (-1), .int 0, .ref u_10, .int 0])), (u_10, .inl (u_11, 12, .inl (fun _ => 0))), (asort, .inr (1, [.int 0, .ref eD, .int 0]))] H := hP
  have hD : va_D A [(hh, .inr (13, [.ref aexpr, .ref achoo, .ref ameth, .ref aroom, .ref anod, .ref asort, .ref anote, .ref amet, .int 0, .int 1])), (anod, .inr (7, [.ref nm, .ref nl, .ref n1, .ref n2, .ref nf, .ref ns, .ref nh, .ref nk, .ref np, .int 16, .int 0, .int 16, .int 0, .int 0])), (ns, .inl (kL, 1024, .inr (.inl zSec))), (nm, .inl (kI, 12, .inl (fun _ => 0))), (nl, .inl (kI, 12, .inl (fun _ => 0))), (n1, .inl (kI, 12, .inl (fun _ => 0))), (n2, .inl (kI, 12, .inl (fun _ => 0))), (q_9, .inr (11, [.int 0, .int 0, .int 0, .int 0, .int (-1), .int (-1), .int 0, .ref u_10, .int 0])), (u_10, .inl (u_11, 12, .inl (fun _ => 0))), (asort, .inr (1, [.int 0, .ref eD, .int 0]))] := hD
  have hK : va_K (dC, dI) vwCl [(kL, .long), (kI, .int), (u_11, .int)] s := by simpa using hK
  have hw_15 : r_14 = 0 := hw_15
  have hw_15 := hw_15.symm
  subst hw_15
  refine va_put (D := (dC, dI)) (ci := 11) (v := .int 0) (ty := .int) (C := RX9) (T := TX9) (N := 9) hx hb hts in_RX9 tyX9 tyX9_ok nmX9 hown hK hP hD hS 7 rfl rfl 0 (by decide) (hts (.fieldLink RX11 85 "Hornbook$Sort" "number" "I") (by decide +kernel)) (fun _ h9 => h9) rfl (by decide +kernel) rfl rfl (Nat.le_of_ble_eq_true rfl) dX11_sort_95 (fun H locs hP hD hS => ?_)
  have hP : va_P (dC, dI) vwCl [(hh, .inr (13, [.ref aexpr, .ref achoo, .ref ameth, .ref aroom, .ref anod, .ref asort, .ref anote, .ref amet, .int 0, .int 1])), (anod, .inr (7, [.ref nm, .ref nl, .ref n1, .ref n2, .ref nf, .ref ns, .ref nh, .ref nk, .ref np, .int 16, .int 0, .int 16, .int 0, .int 0])), (ns, .inl (kL, 1024, .inr (.inl zSec))), (nm, .inl (kI, 12, .inl (fun _ => 0))), (nl, .inl (kI, 12, .inl (fun _ => 0))), (n1, .inl (kI, 12, .inl (fun _ => 0))), (n2, .inl (kI, 12, .inl (fun _ => 0))), (q_9, .inr (11, [.int 0, .int 0, .int 0, .int 0, .int (-1), .int (-1), .int 0, .ref u_10, .int 0])), (u_10, .inl (u_11, 12, .inl (fun _ => 0))), (asort, .inr (1, [.int 0, .ref eD, .int 0]))] H := hP
  have hD : va_D A [(hh, .inr (13, [.ref aexpr, .ref achoo, .ref ameth, .ref aroom, .ref anod, .ref asort, .ref anote, .ref amet, .int 0, .int 1])), (anod, .inr (7, [.ref nm, .ref nl, .ref n1, .ref n2, .ref nf, .ref ns, .ref nh, .ref nk, .ref np, .int 16, .int 0, .int 16, .int 0, .int 0])), (ns, .inl (kL, 1024, .inr (.inl zSec))), (nm, .inl (kI, 12, .inl (fun _ => 0))), (nl, .inl (kI, 12, .inl (fun _ => 0))), (n1, .inl (kI, 12, .inl (fun _ => 0))), (n2, .inl (kI, 12, .inl (fun _ => 0))), (q_9, .inr (11, [.int 0, .int 0, .int 0, .int 0, .int (-1), .int (-1), .int 0, .ref u_10, .int 0])), (u_10, .inl (u_11, 12, .inl (fun _ => 0))), (asort, .inr (1, [.int 0, .ref eD, .int 0]))] := hD
  refine lv_aload hx hb dX11_sort_98 (lv_at hl 0 rfl) ?_
  refine lv_iload_n hx hb dX11_sort_100 rfl (lv_at hl 3 rfl) ?_
  refine va_put (D := (dC, dI)) (ci := 11) (v := .int 0) (ty := .int) (C := RX9) (T := TX9) (N := 9) hx hb hts in_RX9 tyX9 tyX9_ok nmX9 hown hK hP hD hS 7 rfl rfl 1 (by decide) (hts (.fieldLink RX11 88 "Hornbook$Sort" "many" "I") (by decide +kernel)) (fun _ h9 => h9) rfl (by decide +kernel) rfl rfl (Nat.le_of_ble_eq_true rfl) dX11_sort_101 (fun H locs hP hD hS => ?_)
  have hP : va_P (dC, dI) vwCl [(hh, .inr (13, [.ref aexpr, .ref achoo, .ref ameth, .ref aroom, .ref anod, .ref asort, .ref anote, .ref amet, .int 0, .int 1])), (anod, .inr (7, [.ref nm, .ref nl, .ref n1, .ref n2, .ref nf, .ref ns, .ref nh, .ref nk, .ref np, .int 16, .int 0, .int 16, .int 0, .int 0])), (ns, .inl (kL, 1024, .inr (.inl zSec))), (nm, .inl (kI, 12, .inl (fun _ => 0))), (nl, .inl (kI, 12, .inl (fun _ => 0))), (n1, .inl (kI, 12, .inl (fun _ => 0))), (n2, .inl (kI, 12, .inl (fun _ => 0))), (q_9, .inr (11, [.int 0, .int 0, .int 0, .int 0, .int (-1), .int (-1), .int 0, .ref u_10, .int 0])), (u_10, .inl (u_11, 12, .inl (fun _ => 0))), (asort, .inr (1, [.int 0, .ref eD, .int 0]))] H := hP
  have hD : va_D A [(hh, .inr (13, [.ref aexpr, .ref achoo, .ref ameth, .ref aroom, .ref anod, .ref asort, .ref anote, .ref amet, .int 0, .int 1])), (anod, .inr (7, [.ref nm, .ref nl, .ref n1, .ref n2, .ref nf, .ref ns, .ref nh, .ref nk, .ref np, .int 16, .int 0, .int 16, .int 0, .int 0])), (ns, .inl (kL, 1024, .inr (.inl zSec))), (nm, .inl (kI, 12, .inl (fun _ => 0))), (nl, .inl (kI, 12, .inl (fun _ => 0))), (n1, .inl (kI, 12, .inl (fun _ => 0))), (n2, .inl (kI, 12, .inl (fun _ => 0))), (q_9, .inr (11, [.int 0, .int 0, .int 0, .int 0, .int (-1), .int (-1), .int 0, .ref u_10, .int 0])), (u_10, .inl (u_11, 12, .inl (fun _ => 0))), (asort, .inr (1, [.int 0, .ref eD, .int 0]))] := hD
  refine lv_aload hx hb dX11_sort_104 (lv_at hl 0 rfl) ?_
  refine lv_iload_n hx hb dX11_sort_106 rfl (lv_at hl 3 rfl) ?_
  refine lv_iconst (v := 1) hx hb dX11_sort_107 (by decide) ?_
  refine lv_icmp_ge (tgt := 115) hx hb dX11_sort_108 (by decide) (fun c_16 => ?_) (fun c_16 => ?_)
  · exact absurd c_16 (by decide)
  refine lv_iconst (v := 0) hx hb dX11_sort_111 (by decide) ?_
  refine lv_goto (tgt := 116) hx hb dX11_sort_112 (by decide) ?_
  refine va_put (D := (dC, dI)) (ci := 11) (v := .int 0) (ty := .int) (C := RX9) (T := TX9) (N := 9) hx hb hts in_RX9 tyX9 tyX9_ok nmX9 hown hK hP hD hS 7 rfl rfl 2 (by decide) (hts (.fieldLink RX11 91 "Hornbook$Sort" "howOne" "I") (by decide +kernel)) (fun _ h9 => h9) rfl (by decide +kernel) rfl rfl (Nat.le_of_ble_eq_true rfl) dX11_sort_116 (fun H locs hP hD hS => ?_)
  have hP : va_P (dC, dI) vwCl [(hh, .inr (13, [.ref aexpr, .ref achoo, .ref ameth, .ref aroom, .ref anod, .ref asort, .ref anote, .ref amet, .int 0, .int 1])), (anod, .inr (7, [.ref nm, .ref nl, .ref n1, .ref n2, .ref nf, .ref ns, .ref nh, .ref nk, .ref np, .int 16, .int 0, .int 16, .int 0, .int 0])), (ns, .inl (kL, 1024, .inr (.inl zSec))), (nm, .inl (kI, 12, .inl (fun _ => 0))), (nl, .inl (kI, 12, .inl (fun _ => 0))), (n1, .inl (kI, 12, .inl (fun _ => 0))), (n2, .inl (kI, 12, .inl (fun _ => 0))), (q_9, .inr (11, [.int 0, .int 0, .int 0, .int 0, .int (-1), .int (-1), .int 0, .ref u_10, .int 0])), (u_10, .inl (u_11, 12, .inl (fun _ => 0))), (asort, .inr (1, [.int 0, .ref eD, .int 0]))] H := hP
  have hD : va_D A [(hh, .inr (13, [.ref aexpr, .ref achoo, .ref ameth, .ref aroom, .ref anod, .ref asort, .ref anote, .ref amet, .int 0, .int 1])), (anod, .inr (7, [.ref nm, .ref nl, .ref n1, .ref n2, .ref nf, .ref ns, .ref nh, .ref nk, .ref np, .int 16, .int 0, .int 16, .int 0, .int 0])), (ns, .inl (kL, 1024, .inr (.inl zSec))), (nm, .inl (kI, 12, .inl (fun _ => 0))), (nl, .inl (kI, 12, .inl (fun _ => 0))), (n1, .inl (kI, 12, .inl (fun _ => 0))), (n2, .inl (kI, 12, .inl (fun _ => 0))), (q_9, .inr (11, [.int 0, .int 0, .int 0, .int 0, .int (-1), .int (-1), .int 0, .ref u_10, .int 0])), (u_10, .inl (u_11, 12, .inl (fun _ => 0))), (asort, .inr (1, [.int 0, .ref eD, .int 0]))] := hD
  refine lv_aload hx hb dX11_sort_119 (lv_at hl 0 rfl) ?_
  refine lv_iload_n hx hb dX11_sort_121 rfl (lv_at hl 3 rfl) ?_
  refine lv_iconst (v := 2) hx hb dX11_sort_122 (by decide) ?_
  refine lv_icmp_ge (tgt := 130) hx hb dX11_sort_123 (by decide) (fun c_17 => ?_) (fun c_17 => ?_)
  · exact absurd c_17 (by decide)
  refine lv_iconst (v := 0) hx hb dX11_sort_126 (by decide) ?_
  refine lv_goto (tgt := 131) hx hb dX11_sort_127 (by decide) ?_
  refine va_put (D := (dC, dI)) (ci := 11) (v := .int 0) (ty := .int) (C := RX9) (T := TX9) (N := 9) hx hb hts in_RX9 tyX9 tyX9_ok nmX9 hown hK hP hD hS 7 rfl rfl 3 (by decide) (hts (.fieldLink RX11 94 "Hornbook$Sort" "howOther" "I") (by decide +kernel)) (fun _ h9 => h9) rfl (by decide +kernel) rfl rfl (Nat.le_of_ble_eq_true rfl) dX11_sort_131 (fun H locs hP hD hS => ?_)
  have hP : va_P (dC, dI) vwCl [(hh, .inr (13, [.ref aexpr, .ref achoo, .ref ameth, .ref aroom, .ref anod, .ref asort, .ref anote, .ref amet, .int 0, .int 1])), (anod, .inr (7, [.ref nm, .ref nl, .ref n1, .ref n2, .ref nf, .ref ns, .ref nh, .ref nk, .ref np, .int 16, .int 0, .int 16, .int 0, .int 0])), (ns, .inl (kL, 1024, .inr (.inl zSec))), (nm, .inl (kI, 12, .inl (fun _ => 0))), (nl, .inl (kI, 12, .inl (fun _ => 0))), (n1, .inl (kI, 12, .inl (fun _ => 0))), (n2, .inl (kI, 12, .inl (fun _ => 0))), (q_9, .inr (11, [.int 0, .int 0, .int 0, .int 0, .int (-1), .int (-1), .int 0, .ref u_10, .int 0])), (u_10, .inl (u_11, 12, .inl (fun _ => 0))), (asort, .inr (1, [.int 0, .ref eD, .int 0]))] H := hP
  have hD : va_D A [(hh, .inr (13, [.ref aexpr, .ref achoo, .ref ameth, .ref aroom, .ref anod, .ref asort, .ref anote, .ref amet, .int 0, .int 1])), (anod, .inr (7, [.ref nm, .ref nl, .ref n1, .ref n2, .ref nf, .ref ns, .ref nh, .ref nk, .ref np, .int 16, .int 0, .int 16, .int 0, .int 0])), (ns, .inl (kL, 1024, .inr (.inl zSec))), (nm, .inl (kI, 12, .inl (fun _ => 0))), (nl, .inl (kI, 12, .inl (fun _ => 0))), (n1, .inl (kI, 12, .inl (fun _ => 0))), (n2, .inl (kI, 12, .inl (fun _ => 0))), (q_9, .inr (11, [.int 0, .int 0, .int 0, .int 0, .int (-1), .int (-1), .int 0, .ref u_10, .int 0])), (u_10, .inl (u_11, 12, .inl (fun _ => 0))), (asort, .inr (1, [.int 0, .ref eD, .int 0]))] := hD
  refine lv_aload hx hb dX11_sort_134 (lv_at hl 0 rfl) ?_
  refine z_v (wr := [(hh, .inr (13, [.ref aexpr, .ref achoo, .ref ameth, .ref aroom, .ref anod, .ref asort, .ref anote, .ref amet, .int 0, .int 1])), (anod, .inr (7, [.ref nm, .ref nl, .ref n1, .ref n2, .ref nf, .ref ns, .ref nh, .ref nk, .ref np, .int 16, .int 0, .int 16, .int 0, .int 0])), (ns, .inl (kL, 1024, .inr (.inl zSec))), (nm, .inl (kI, 12, .inl (fun _ => 0))), (nl, .inl (kI, 12, .inl (fun _ => 0))), (n1, .inl (kI, 12, .inl (fun _ => 0))), (n2, .inl (kI, 12, .inl (fun _ => 0))), (asort, .inr (1, [.int 0, .ref eD, .int 0]))]) (va_runV (As := []) (rest := []) ⟨hx, hb, hml, hown, hts⟩ (c_S_startWay l eD eI ad dC dI H.size q_9 u_10 u_11 0 0 0) (cwV 0 hts g_c_H_sort_0_2 rfl rfl rfl (by decide +kernel) ⟨Nat.le_of_ble_eq_true rfl, Nat.le_of_ble_eq_true rfl⟩) (z_preV (wc := [(q_9, .inr (11, [.int 0, .int 0, .int 0, .int 0, .int (-1), .int (-1), .int 0, .ref u_10, .int 0])), (u_10, .inl (u_11, 12, .inl (fun _ => 0)))]) hP hD hK hS hA hE [7, 8] [2] rfl (by decide) rfl (ci := 11) (q0 := 0) rfl rfl) rfl rfl hl.1 rfl (lv_room (Nat.le_of_ble_eq_true rfl)) dX11_sort_136 ⟨Nat.le_of_ble_eq_true rfl, Nat.le_of_ble_eq_true rfl⟩) hP hD hK hS hA [7, 8] [0, 1, 2, 3, 4, 5, 6, 9] rfl rfl (by decide) (by decide) (fun u H locs hw_19 hP hD hK hS => ?_)
  obtain ⟨⟩ := u
  have hP : va_P (dC, dI) vwCl [(hh, .inr (13, [.ref aexpr, .ref achoo, .ref ameth, .ref aroom, .ref anod, .ref asort, .ref anote, .ref amet, .int 0, .int 1])), (anod, .inr (7, [.ref nm, .ref nl, .ref n1, .ref n2, .ref nf, .ref ns, .ref nh, .ref nk, .ref np, .int 16, .int 0, .int 16, .int 0, .int 0])), (ns, .inl (kL, 1024, .inr (.inl zSec))), (nm, .inl (kI, 12, .inl (fun _ => 0))), (nl, .inl (kI, 12, .inl (fun _ => 0))), (n1, .inl (kI, 12, .inl (fun _ => 0))), (n2, .inl (kI, 12, .inl (fun _ => 0))), (asort, .inr (1, [.int 0, .ref eD, .int 0])), (q_9, .inr (11, [.int 0, .int 0, .int 0, .int 0, .int (-1), .int (-1), .int 1, .ref u_10, .int 1]))] H := hP
  have hD : va_D A [(hh, .inr (13, [.ref aexpr, .ref achoo, .ref ameth, .ref aroom, .ref anod, .ref asort, .ref anote, .ref amet, .int 0, .int 1])), (anod, .inr (7, [.ref nm, .ref nl, .ref n1, .ref n2, .ref nf, .ref ns, .ref nh, .ref nk, .ref np, .int 16, .int 0, .int 16, .int 0, .int 0])), (ns, .inl (kL, 1024, .inr (.inl zSec))), (nm, .inl (kI, 12, .inl (fun _ => 0))), (nl, .inl (kI, 12, .inl (fun _ => 0))), (n1, .inl (kI, 12, .inl (fun _ => 0))), (n2, .inl (kI, 12, .inl (fun _ => 0))), (asort, .inr (1, [.int 0, .ref eD, .int 0])), (q_9, .inr (11, [.int 0, .int 0, .int 0, .int 0, .int (-1), .int (-1), .int 1, .ref u_10, .int 1]))] := hD
  have hK : va_K (dC, dI) vwCl [(kL, .long), (kI, .int), (u_11, .int)] s := by simpa using hK
  refine lv_aload_n hx hb dX11_sort_139 rfl (lv_at hl 2 rfl) ?_
  refine va_get (D := (dC, dI)) (ci := 13) (v := .ref anod) (C := RX11) (T := TX11) (N := 10) hx hb hts in_RX11 hown hK hP 0 rfl rfl 4 (by decide) (hts (.fieldLink RX11 38 "Hornbook" "nodes" "LHornbook$Nodes;") (by decide +kernel)) (fun _ h9 => h9) rfl dX11_sort_140 ?_
  refine va_get (D := (dC, dI)) (ci := 7) (v := .ref nm) (C := RX5) (T := TX5) (N := 14) hx hb hts in_RX5 hown hK hP 1 rfl rfl 0 (by decide) (hts (.fieldLink RX11 100 "Hornbook$Nodes" "many" "[I") (by decide +kernel)) (fun _ h9 => h9) rfl dX11_sort_143 ?_
  refine lv_aload hx hb dX11_sort_146 (lv_at hl 0 rfl) ?_
  refine va_get (D := (dC, dI)) (ci := 11) (v := .int 0) (C := RX9) (T := TX9) (N := 9) hx hb hts in_RX9 hown hK hP 8 rfl rfl 0 (by decide) (hts (.fieldLink RX11 85 "Hornbook$Sort" "number" "I") (by decide +kernel)) (fun _ h9 => h9) rfl dX11_sort_148 ?_
  refine lv_iload_n hx hb dX11_sort_151 rfl (lv_at hl 3 rfl) ?_
  refine va_iast (D := (dC, dI)) hx hb hK hP hD hS 3 1 rfl rfl (by unfold vp_in; decide) dX11_sort_152 (fun H locs hP hD hS => ?_)
  have hP : va_P (dC, dI) vwCl [(hh, .inr (13, [.ref aexpr, .ref achoo, .ref ameth, .ref aroom, .ref anod, .ref asort, .ref anote, .ref amet, .int 0, .int 1])), (anod, .inr (7, [.ref nm, .ref nl, .ref n1, .ref n2, .ref nf, .ref ns, .ref nh, .ref nk, .ref np, .int 16, .int 0, .int 16, .int 0, .int 0])), (ns, .inl (kL, 1024, .inr (.inl zSec))), (nm, .inl (kI, 12, .inl (upd (fun _ => 0) (0 : Int32).toNatClampNeg 0))), (nl, .inl (kI, 12, .inl (fun _ => 0))), (n1, .inl (kI, 12, .inl (fun _ => 0))), (n2, .inl (kI, 12, .inl (fun _ => 0))), (asort, .inr (1, [.int 0, .ref eD, .int 0])), (q_9, .inr (11, [.int 0, .int 0, .int 0, .int 0, .int (-1), .int (-1), .int 1, .ref u_10, .int 1]))] H := hP
  have hD : va_D A [(hh, .inr (13, [.ref aexpr, .ref achoo, .ref ameth, .ref aroom, .ref anod, .ref asort, .ref anote, .ref amet, .int 0, .int 1])), (anod, .inr (7, [.ref nm, .ref nl, .ref n1, .ref n2, .ref nf, .ref ns, .ref nh, .ref nk, .ref np, .int 16, .int 0, .int 16, .int 0, .int 0])), (ns, .inl (kL, 1024, .inr (.inl zSec))), (nm, .inl (kI, 12, .inl (upd (fun _ => 0) (0 : Int32).toNatClampNeg 0))), (nl, .inl (kI, 12, .inl (fun _ => 0))), (n1, .inl (kI, 12, .inl (fun _ => 0))), (n2, .inl (kI, 12, .inl (fun _ => 0))), (asort, .inr (1, [.int 0, .ref eD, .int 0])), (q_9, .inr (11, [.int 0, .int 0, .int 0, .int 0, .int (-1), .int (-1), .int 1, .ref u_10, .int 1]))] := hD
  refine lv_aload_n hx hb dX11_sort_153 rfl (lv_at hl 2 rfl) ?_
  refine va_get (D := (dC, dI)) (ci := 13) (v := .ref anod) (C := RX11) (T := TX11) (N := 10) hx hb hts in_RX11 hown hK hP 0 rfl rfl 4 (by decide) (hts (.fieldLink RX11 38 "Hornbook" "nodes" "LHornbook$Nodes;") (by decide +kernel)) (fun _ h9 => h9) rfl dX11_sort_154 ?_
  refine lv_aload hx hb dX11_sort_157 (lv_at hl 0 rfl) ?_
  refine va_get (D := (dC, dI)) (ci := 11) (v := .int 0) (C := RX9) (T := TX9) (N := 9) hx hb hts in_RX9 hown hK hP 8 rfl rfl 0 (by decide) (hts (.fieldLink RX11 85 "Hornbook$Sort" "number" "I") (by decide +kernel)) (fun _ h9 => h9) rfl dX11_sort_159 ?_
  refine lv_iconst (v := (-1)) hx hb dX11_sort_162 (by decide) ?_
  refine lv_iconst (v := (-1)) hx hb dX11_sort_163 (by decide) ?_
  refine z_v (wr := [(hh, .inr (13, [.ref aexpr, .ref achoo, .ref ameth, .ref aroom, .ref anod, .ref asort, .ref anote, .ref amet, .int 0, .int 1])), (asort, .inr (1, [.int 0, .ref eD, .int 0])), (q_9, .inr (11, [.int 0, .int 0, .int 0, .int 0, .int (-1), .int (-1), .int 1, .ref u_10, .int 1]))]) (va_runV (As := [.int 0, .int (-1), .int (-1)]) (rest := []) ⟨hx, hb, hml, hown, hts⟩ (c_N_lift_0 l eD eI ad dC dI H.size anod nm nl n1 n2 nf ns nh nk np kI kL) (cwV 3 hts g_c_H_sort_0_3 rfl rfl rfl (by decide +kernel) ⟨Nat.le_of_ble_eq_true rfl, Nat.le_of_ble_eq_true rfl⟩) (z_preV (wc := [(anod, .inr (7, [.ref nm, .ref nl, .ref n1, .ref n2, .ref nf, .ref ns, .ref nh, .ref nk, .ref np, .int 16, .int 0, .int 16, .int 0, .int 0])), (nm, .inl (kI, 12, .inl (upd (fun _ => 0) (0 : Int32).toNatClampNeg 0))), (nl, .inl (kI, 12, .inl (fun _ => 0))), (n1, .inl (kI, 12, .inl (fun _ => 0))), (n2, .inl (kI, 12, .inl (fun _ => 0))), (ns, .inl (kL, 1024, .inr (.inl zSec)))]) hP hD hK hS hA hE [1, 3, 4, 5, 6, 2] [1, 0] rfl (by decide) rfl (ci := 7) (q0 := 0) rfl rfl) rfl rfl hl.1 rfl (lv_room (Nat.le_of_ble_eq_true rfl)) dX11_sort_164 ⟨Nat.le_of_ble_eq_true rfl, Nat.le_of_ble_eq_true rfl⟩) hP hD hK hS hA [1, 3, 4, 5, 6, 2] [0, 7, 8] rfl rfl (by decide) (by decide) (fun u H locs hw_21 hP hD hK hS => ?_)
  obtain ⟨⟩ := u
  have hP : va_P (dC, dI) vwCl [(hh, .inr (13, [.ref aexpr, .ref achoo, .ref ameth, .ref aroom, .ref anod, .ref asort, .ref anote, .ref amet, .int 0, .int 1])), (asort, .inr (1, [.int 0, .ref eD, .int 0])), (q_9, .inr (11, [.int 0, .int 0, .int 0, .int 0, .int (-1), .int (-1), .int 1, .ref u_10, .int 1])), (anod, .inr (7, [.ref nm, .ref nl, .ref n1, .ref n2, .ref nf, .ref ns, .ref nh, .ref nk, .ref np, .int 16, .int 0, .int 16, .int 0, .int 0]))] H := hP
  have hD : va_D A [(hh, .inr (13, [.ref aexpr, .ref achoo, .ref ameth, .ref aroom, .ref anod, .ref asort, .ref anote, .ref amet, .int 0, .int 1])), (asort, .inr (1, [.int 0, .ref eD, .int 0])), (q_9, .inr (11, [.int 0, .int 0, .int 0, .int 0, .int (-1), .int (-1), .int 1, .ref u_10, .int 1])), (anod, .inr (7, [.ref nm, .ref nl, .ref n1, .ref n2, .ref nf, .ref ns, .ref nh, .ref nk, .ref np, .int 16, .int 0, .int 16, .int 0, .int 0]))] := hD
  have hK : va_K (dC, dI) vwCl [(kL, .long), (kI, .int), (u_11, .int)] s := by simpa using hK
  refine lv_aload_n hx hb dX11_sort_167 rfl (lv_at hl 2 rfl) ?_
  refine va_get (D := (dC, dI)) (ci := 13) (v := .ref asort) (C := RX11) (T := TX11) (N := 10) hx hb hts in_RX11 hown hK hP 0 rfl rfl 5 (by decide) (hts (.fieldLink RX11 42 "Hornbook" "sorts" "Ljava/util/ArrayList;") (by decide +kernel)) (fun _ h9 => h9) rfl dX11_sort_168 ?_
  refine lv_aload hx hb dX11_sort_171 (lv_at hl 0 rfl) ?_
  refine z_i (wr := [(hh, .inr (13, [.ref aexpr, .ref achoo, .ref ameth, .ref aroom, .ref anod, .ref asort, .ref anote, .ref amet, .int 0, .int 1])), (anod, .inr (7, [.ref nm, .ref nl, .ref n1, .ref n2, .ref nf, .ref ns, .ref nh, .ref nk, .ref np, .int 16, .int 0, .int 16, .int 0, .int 0]))]) (va_runV (As := [.ref q_9]) (rest := []) ⟨hx, hb, hml, hown, hts⟩ (c_AL_add0 l eD eI ad dC dI H.size asort 0 q_9 11 ((RX9, TX9, 9)) ([.int 0, .int 0, .int 0, .int 0, .int (-1), .int (-1), .int 1, .ref u_10, .int 1]) (rfl) (by decide +kernel)) (cwV 1 hts g_c_H_sort_0_4 rfl rfl rfl (by decide +kernel) ⟨Nat.le_of_ble_eq_true rfl, Nat.le_of_ble_eq_true rfl⟩) (z_preV (wc := [(asort, .inr (1, [.int 0, .ref eD, .int 0])), (q_9, .inr (11, [.int 0, .int 0, .int 0, .int 0, .int (-1), .int (-1), .int 1, .ref u_10, .int 1]))]) hP hD hK hS hA hE [1, 2] [] rfl (by decide) rfl (ci := 1) (q0 := 0) rfl rfl) rfl rfl hl.1 rfl (lv_room (Nat.le_of_ble_eq_true rfl)) dX11_sort_173 ⟨Nat.le_of_ble_eq_true rfl, Nat.le_of_ble_eq_true rfl⟩) hP hD hK hS hA [1, 2] [0, 3] rfl rfl (by decide) (by decide) (fun r_25 u H locs hw_26 hP hD hK hS => ?_)
  obtain ⟨u_22, u_23, u_24⟩ := u
  have hP : va_P (dC, dI) vwCl [(hh, .inr (13, [.ref aexpr, .ref achoo, .ref ameth, .ref aroom, .ref anod, .ref asort, .ref anote, .ref amet, .int 0, .int 1])), (anod, .inr (7, [.ref nm, .ref nl, .ref n1, .ref n2, .ref nf, .ref ns, .ref nh, .ref nk, .ref np, .int 16, .int 0, .int 16, .int 0, .int 0])), (asort, .inr (1, [.int u_24, .ref u_22, .int 1])), (q_9, .inr (11, [.int 0, .int 0, .int 0, .int 0, .int (-1), .int (-1), .int 1, .ref u_10, .int 1])), (u_22, .inl (u_23, 10, .inr (.inr (.inr (.inr (va_up (fun _ => none) (0 : Int32).toNatClampNeg (some q_9)))))))] H := hP
  have hD : va_D A [(hh, .inr (13, [.ref aexpr, .ref achoo, .ref ameth, .ref aroom, .ref anod, .ref asort, .ref anote, .ref amet, .int 0, .int 1])), (anod, .inr (7, [.ref nm, .ref nl, .ref n1, .ref n2, .ref nf, .ref ns, .ref nh, .ref nk, .ref np, .int 16, .int 0, .int 16, .int 0, .int 0])), (asort, .inr (1, [.int u_24, .ref u_22, .int 1])), (q_9, .inr (11, [.int 0, .int 0, .int 0, .int 0, .int (-1), .int (-1), .int 1, .ref u_10, .int 1])), (u_22, .inl (u_23, 10, .inr (.inr (.inr (.inr (va_up (fun _ => none) (0 : Int32).toNatClampNeg (some q_9)))))))] := hD
  have hK : va_K (dC, dI) vwCl [(kL, .long), (kI, .int), (u_11, .int), (u_23, .object "java/lang/Object")] s := hK
  have hw_26 : r_25 = 1 := hw_26
  have hw_26 := hw_26.symm
  subst hw_26
  refine lv_pop hx hb dX11_sort_176 rfl ?_
  refine lv_aload_n hx hb dX11_sort_177 rfl (lv_at hl 2 rfl) ?_
  refine lv_iconst (v := 0) hx hb dX11_sort_178 (by decide) ?_
  refine va_put (D := (dC, dI)) (ci := 13) (v := .int 0) (ty := .boolean) (C := RX11) (T := TX11) (N := 10) hx hb hts in_RX11 tyX11 tyX11_ok nmX11 hown hK hP hD hS 0 rfl rfl 9 (by decide) (hts (.fieldLink RX11 58 "Hornbook" "isNoted" "Z") (by decide +kernel)) (fun _ h9 => h9) rfl (by decide +kernel) rfl rfl (Nat.le_of_ble_eq_true rfl) dX11_sort_179 (fun H locs hP hD hS => ?_)
  have hP : va_P (dC, dI) vwCl [(hh, .inr (13, [.ref aexpr, .ref achoo, .ref ameth, .ref aroom, .ref anod, .ref asort, .ref anote, .ref amet, .int 0, .int 0])), (anod, .inr (7, [.ref nm, .ref nl, .ref n1, .ref n2, .ref nf, .ref ns, .ref nh, .ref nk, .ref np, .int 16, .int 0, .int 16, .int 0, .int 0])), (asort, .inr (1, [.int u_24, .ref u_22, .int 1])), (q_9, .inr (11, [.int 0, .int 0, .int 0, .int 0, .int (-1), .int (-1), .int 1, .ref u_10, .int 1])), (u_22, .inl (u_23, 10, .inr (.inr (.inr (.inr (va_up (fun _ => none) (0 : Int32).toNatClampNeg (some q_9)))))))] H := hP
  have hD : va_D A [(hh, .inr (13, [.ref aexpr, .ref achoo, .ref ameth, .ref aroom, .ref anod, .ref asort, .ref anote, .ref amet, .int 0, .int 0])), (anod, .inr (7, [.ref nm, .ref nl, .ref n1, .ref n2, .ref nf, .ref ns, .ref nh, .ref nk, .ref np, .int 16, .int 0, .int 16, .int 0, .int 0])), (asort, .inr (1, [.int u_24, .ref u_22, .int 1])), (q_9, .inr (11, [.int 0, .int 0, .int 0, .int 0, .int (-1), .int (-1), .int 1, .ref u_10, .int 1])), (u_22, .inl (u_23, 10, .inr (.inr (.inr (.inr (va_up (fun _ => none) (0 : Int32).toNatClampNeg (some q_9)))))))] := hD
  refine lv_aload hx hb dX11_sort_182 (lv_at hl 0 rfl) ?_
  refine va_get (D := (dC, dI)) (ci := 11) (v := .int 0) (C := RX9) (T := TX9) (N := 9) hx hb hts in_RX9 hown hK hP 3 rfl rfl 0 (by decide) (hts (.fieldLink RX11 85 "Hornbook$Sort" "number" "I") (by decide +kernel)) (fun _ h9 => h9) rfl dX11_sort_184 ?_
  have hP9 := hP.sub (ws' := []) [] rfl
  have hD9 := hD.sub (ws' := []) [] (by decide) rfl
  have hK9 := hK.sub (tys' := []) [] rfl
  refine W.widen (k := 3) (n := 31) (Nat.le_of_ble_eq_true rfl) (Nat.le_of_ble_eq_true rfl) ?_
  exact W.iret (v := 0) hx hb hr (fun t ht hW => ⟨⟨0, (), rfl, rfl, ⟨by rw [ht]; exact hP9, va_K.moved hW.alike hK9, hD9⟩⟩, hS.F ht⟩) hS.2.2 dX11_sort_187

def wb_c_H_sort_1l : List Cond := [.code yX11_isHow cX11_isHow 1 (some .boolean), .methodLink RX11 62 yX11_isHow, .static yX11_isHow, .initialized RX11, .classLink RX11 66 "java/lang/IllegalArgumentException", .initialized "java/lang/IllegalArgumentException"]
def w_c_H_sort_1l : List Cond := .code yX11_sort cX11_sort 6 (some .int) :: (wb_c_H_sort_1l ++ zAt)
set_option maxRecDepth 100000 in
theorem g_c_H_sort_1l_0 : GoodIn w_c_H_sort_1l (va_wsS RX11 62 yX11_isHow w_c_H_isHow_l) := goodIn_app (goodIn_of _ (by decide +kernel)) (goodIn_p (big := w_c_H_sort_1l) (.code yX11_isHow cX11_isHow 1 (some .boolean) :: wb_c_H_isHow_l) [1] rfl (by decide +kernel))
set_option maxHeartbeats 4000000 in
set_option maxRecDepth 100000 in
theorem c_H_sort_1l (l : Launch) (hfl : l.flags = flags0) (eD eI : Nat) (ad : Nat → Nat) (dC : Nat → ClassId) (dI : Nat → Nat → Nat) (sz : Nat) (hh : Nat) (aexpr : Nat) (achoo : Nat) (ameth : Nat) (aroom : Nat) (anod : Nat) (asort : Nat) (anote : Nat) (amet : Nat) (nm : Nat) (nl : Nat) (n1 : Nat) (n2 : Nat) (nf : Nat) (ns : Nat) (nh : Nat) (nk : Nat) (np : Nat) (kI : ClassId) (kL : ClassId) (x2 : Int32) (x3 : Int32) (hx21 : x2 < 0) : vx_Met l yX11_sort w_c_H_sort_1l ({ frames := 6, cells := 1, slots := 6, locals := 82 }) (va_Pc [.ref hh, .int 1, .int x2, .int x3] (zPreD eD eI ad (dC, dI) [(hh, .inr (13, [.ref aexpr, .ref achoo, .ref ameth, .ref aroom, .ref anod, .ref asort, .ref anote, .ref amet, .int 0, .int 1])), (asort, .inr (1, [.int 0, .ref eD, .int 0])), (anod, .inr (7, [.ref nm, .ref nl, .ref n1, .ref n2, .ref nf, .ref ns, .ref nh, .ref nk, .ref np, .int 16, .int 0, .int 16, .int 0, .int 0])), (ns, .inl (kL, 1024, .inr (.inl zSec))), (nm, .inl (kI, 12, .inl (fun _ => 0))), (nl, .inl (kI, 12, .inl (fun _ => 0))), (n1, .inl (kI, 12, .inl (fun _ => 0))), (n2, .inl (kI, 12, .inl (fun _ => 0)))] [(kL, .long), (kI, .int)] sz)) (va_Qi (fun (r : Int32) (_ : Unit) => False) (fun (_ : Unit) => zEnd (dC, dI) (va_A [(hh, .inr (13, [.ref aexpr, .ref achoo, .ref ameth, .ref aroom, .ref anod, .ref asort, .ref anote, .ref amet, .int 0, .int 1])), (asort, .inr (1, [.int 0, .ref eD, .int 0])), (anod, .inr (7, [.ref nm, .ref nl, .ref n1, .ref n2, .ref nf, .ref ns, .ref nh, .ref nk, .ref np, .int 16, .int 0, .int 16, .int 0, .int 0])), (ns, .inl (kL, 1024, .inr (.inl zSec))), (nm, .inl (kI, 12, .inl (fun _ => 0))), (nl, .inl (kI, 12, .inl (fun _ => 0))), (n1, .inl (kI, 12, .inl (fun _ => 0))), (n2, .inl (kI, 12, .inl (fun _ => 0)))] sz) [(hh, .inr (13, [.ref aexpr, .ref achoo, .ref ameth, .ref aroom, .ref anod, .ref asort, .ref anote, .ref amet, .int 0, .int 1])), (asort, .inr (1, [.int 0, .ref eD, .int 0])), (anod, .inr (7, [.ref nm, .ref nl, .ref n1, .ref n2, .ref nf, .ref ns, .ref nh, .ref nk, .ref np, .int 16, .int 0, .int 16, .int 0, .int 0])), (ns, .inl (kL, 1024, .inr (.inl zSec))), (nm, .inl (kI, 12, .inl (fun _ => 0))), (nl, .inl (kI, 12, .inl (fun _ => 0))), (n1, .inl (kI, 12, .inl (fun _ => 0))), (n2, .inl (kI, 12, .inl (fun _ => 0)))] [(kL, .long), (kI, .int)]) (va_A [(hh, .inr (13, [.ref aexpr, .ref achoo, .ref ameth, .ref aroom, .ref anod, .ref asort, .ref anote, .ref amet, .int 0, .int 1])), (asort, .inr (1, [.int 0, .ref eD, .int 0])), (anod, .inr (7, [.ref nm, .ref nl, .ref n1, .ref n2, .ref nf, .ref ns, .ref nh, .ref nk, .ref np, .int 16, .int 0, .int 16, .int 0, .int 0])), (ns, .inl (kL, 1024, .inr (.inl zSec))), (nm, .inl (kI, 12, .inl (fun _ => 0))), (nl, .inl (kI, 12, .inl (fun _ => 0))), (n1, .inl (kI, 12, .inl (fun _ => 0))), (n2, .inl (kI, 12, .inl (fun _ => 0)))] sz)) (zX (fun E => E = "java/lang/IllegalArgumentException") (va_A [(hh, .inr (13, [.ref aexpr, .ref achoo, .ref ameth, .ref aroom, .ref anod, .ref asort, .ref anote, .ref amet, .int 0, .int 1])), (asort, .inr (1, [.int 0, .ref eD, .int 0])), (anod, .inr (7, [.ref nm, .ref nl, .ref n1, .ref n2, .ref nf, .ref ns, .ref nh, .ref nk, .ref np, .int 16, .int 0, .int 16, .int 0, .int 0])), (ns, .inl (kL, 1024, .inr (.inl zSec))), (nm, .inl (kI, 12, .inl (fun _ => 0))), (nl, .inl (kI, 12, .inl (fun _ => 0))), (n1, .inl (kI, 12, .inl (fun _ => 0))), (n2, .inl (kI, 12, .inl (fun _ => 0)))] sz)) 1 6 (va_A [(hh, .inr (13, [.ref aexpr, .ref achoo, .ref ameth, .ref aroom, .ref anod, .ref asort, .ref anote, .ref amet, .int 0, .int 1])), (asort, .inr (1, [.int 0, .ref eD, .int 0])), (anod, .inr (7, [.ref nm, .ref nl, .ref n1, .ref n2, .ref nf, .ref ns, .ref nh, .ref nk, .ref np, .int 16, .int 0, .int 16, .int 0, .int 0])), (ns, .inl (kL, 1024, .inr (.inl zSec))), (nm, .inl (kI, 12, .inl (fun _ => 0))), (nl, .inl (kI, 12, .inl (fun _ => 0))), (n1, .inl (kI, 12, .inl (fun _ => 0))), (n2, .inl (kI, 12, .inl (fun _ => 0)))] sz) := by
  refine vx_ofW (cc := cX11_sort) (maxL := 6) (ret := (some .int)) (by decide +kernel) rfl ?_
  intro p e s m args below meth c s₁ B hml htab hv
  obtain ⟨rfl, ⟨hsz, hP, hK, hD0, hE⟩, hDc⟩ := hv
  have hx := B.exec
  have hb := B.bytes
  have hr := B.returns
  have hts := atoms_spec (ws := w_c_H_sort_1l) B.pre
  have hown : s.vm.findClass RX11 = some m.cls := findClass_of_methodNamed B.named
  have hlocks := B.notSynchronized
  subst hsz
  have hD := hD0.self (sz := s.heap.size)
  generalize hAe : va_A [(hh, .inr (13, [.ref aexpr, .ref achoo, .ref ameth, .ref aroom, .ref anod, .ref asort, .ref anote, .ref amet, .int 0, .int 1])), (asort, .inr (1, [.int 0, .ref eD, .int 0])), (anod, .inr (7, [.ref nm, .ref nl, .ref n1, .ref n2, .ref nf, .ref ns, .ref nh, .ref nk, .ref np, .int 16, .int 0, .int 16, .int 0, .int 0])), (ns, .inl (kL, 1024, .inr (.inl zSec))), (nm, .inl (kI, 12, .inl (fun _ => 0))), (nl, .inl (kI, 12, .inl (fun _ => 0))), (n1, .inl (kI, 12, .inl (fun _ => 0))), (n2, .inl (kI, 12, .inl (fun _ => 0)))] s.heap.size = A at hD hE ⊢
  have hA : ∀ q : Nat, s.heap.size ≤ q → A q := fun q h => by rw [← hAe]; exact Or.inr h
  have hS : va_S A s.heap s.heap [] := va_S.rf
  have hP : va_P (dC, dI) vwCl [(hh, .inr (13, [.ref aexpr, .ref achoo, .ref ameth, .ref aroom, .ref anod, .ref asort, .ref anote, .ref amet, .int 0, .int 1])), (asort, .inr (1, [.int 0, .ref eD, .int 0])), (anod, .inr (7, [.ref nm, .ref nl, .ref n1, .ref n2, .ref nf, .ref ns, .ref nh, .ref nk, .ref np, .int 16, .int 0, .int 16, .int 0, .int 0])), (ns, .inl (kL, 1024, .inr (.inl zSec))), (nm, .inl (kI, 12, .inl (fun _ => 0))), (nl, .inl (kI, 12, .inl (fun _ => 0))), (n1, .inl (kI, 12, .inl (fun _ => 0))), (n2, .inl (kI, 12, .inl (fun _ => 0)))] s.heap := hP
  have hl := lv_entry ([.ref hh, .int 1, .int x2, .int x3]) (n := 6) (Nat.le_of_ble_eq_true rfl)
  rw [lg_entry_eq]
  generalize (lg_sl ([.ref hh, .int 1, .int x2, .int x3]) ++ List.replicate (6 - (lg_sl ([.ref hh, .int 1, .int x2, .int x3])).length) Slot.unset).toArray = ls at hl ⊢
  have hl : lv_has ls 6 [(0, .ref hh), (1, .int 1), (2, .int x2), (3, .int x3)] := hl
  refine lv_iload_n hx hb dX11_sort_0 rfl (lv_at hl 1 rfl) ?_
  refine lv_if_lt (tgt := 37) hx hb dX11_sort_1 (by decide) (fun c_1 => ?_) (fun c_1 => ?_)
  · exact absurd c_1 (by decide)
  refine lv_iload_n hx hb dX11_sort_4 rfl (lv_at hl 1 rfl) ?_
  refine lv_iconst (v := 2) hx hb dX11_sort_5 (by decide) ?_
  refine lv_icmp_gt (tgt := 37) hx hb dX11_sort_6 (by decide) (fun c_2 => ?_) (fun c_2 => ?_)
  · exact absurd c_2 (by decide)
  refine lv_iload_n hx hb dX11_sort_9 rfl (lv_at hl 1 rfl) ?_
  refine lv_iconst (v := 1) hx hb dX11_sort_10 (by decide) ?_
  refine lv_icmp_lt (tgt := 21) hx hb dX11_sort_11 (by decide) (fun c_3 => ?_) (fun c_3 => ?_)
  · exact absurd c_3 (by decide)
  refine lv_iload_n hx hb dX11_sort_14 rfl (lv_at hl 2 rfl) ?_
  refine z_i (wr := [(hh, .inr (13, [.ref aexpr, .ref achoo, .ref ameth, .ref aroom, .ref anod, .ref asort, .ref anote, .ref amet, .int 0, .int 1])), (asort, .inr (1, [.int 0, .ref eD, .int 0])), (anod, .inr (7, [.ref nm, .ref nl, .ref n1, .ref n2, .ref nf, .ref ns, .ref nh, .ref nk, .ref np, .int 16, .int 0, .int 16, .int 0, .int 0])), (ns, .inl (kL, 1024, .inr (.inl zSec))), (nm, .inl (kI, 12, .inl (fun _ => 0))), (nl, .inl (kI, 12, .inl (fun _ => 0))), (n1, .inl (kI, 12, .inl (fun _ => 0))), (n2, .inl (kI, 12, .inl (fun _ => 0)))]) (va_runS (As := [.int x2]) (rest := []) ⟨hx, hb, hml, hown, hts⟩ (c_H_isHow_l l eD eI ad dC dI s.heap.size x2 (hx21)) (va_cwS 1 hts g_c_H_sort_1l_0 rfl rfl rfl (by decide +kernel) ⟨Nat.le_of_ble_eq_true rfl, Nat.le_of_ble_eq_true rfl⟩) (z_preS (wc := []) hP hD hK hS hA hE [] [] rfl (by decide) rfl) rfl rfl hl.1 rfl (lv_room (Nat.le_of_ble_eq_true rfl)) dX11_sort_15 ⟨Nat.le_of_ble_eq_true rfl, Nat.le_of_ble_eq_true rfl⟩) hP hD hK hS hA [] [0, 1, 2, 3, 4, 5, 6, 7] rfl rfl (by decide) (by decide) (fun r_4 u H locs hw_5 hP hD hK hS => ?_)
  obtain ⟨⟩ := u
  have hP : va_P (dC, dI) vwCl [(hh, .inr (13, [.ref aexpr, .ref achoo, .ref ameth, .ref aroom, .ref anod, .ref asort, .ref anote, .ref amet, .int 0, .int 1])), (asort, .inr (1, [.int 0, .ref eD, .int 0])), (anod, .inr (7, [.ref nm, .ref nl, .ref n1, .ref n2, .ref nf, .ref ns, .ref nh, .ref nk, .ref np, .int 16, .int 0, .int 16, .int 0, .int 0])), (ns, .inl (kL, 1024, .inr (.inl zSec))), (nm, .inl (kI, 12, .inl (fun _ => 0))), (nl, .inl (kI, 12, .inl (fun _ => 0))), (n1, .inl (kI, 12, .inl (fun _ => 0))), (n2, .inl (kI, 12, .inl (fun _ => 0)))] H := hP
  have hD : va_D A [(hh, .inr (13, [.ref aexpr, .ref achoo, .ref ameth, .ref aroom, .ref anod, .ref asort, .ref anote, .ref amet, .int 0, .int 1])), (asort, .inr (1, [.int 0, .ref eD, .int 0])), (anod, .inr (7, [.ref nm, .ref nl, .ref n1, .ref n2, .ref nf, .ref ns, .ref nh, .ref nk, .ref np, .int 16, .int 0, .int 16, .int 0, .int 0])), (ns, .inl (kL, 1024, .inr (.inl zSec))), (nm, .inl (kI, 12, .inl (fun _ => 0))), (nl, .inl (kI, 12, .inl (fun _ => 0))), (n1, .inl (kI, 12, .inl (fun _ => 0))), (n2, .inl (kI, 12, .inl (fun _ => 0)))] := hD
  have hK : va_K (dC, dI) vwCl [(kL, .long), (kI, .int)] s := by simpa using hK
  have hw_5 : r_4 = 0 := hw_5
  have hw_5 := hw_5.symm
  subst hw_5
  refine lv_if_eq (tgt := 37) hx hb dX11_sort_18 (by decide) (fun c_6 => ?_) (fun c_6 => ?_)
  rotate_left
  · exact absurd (by decide) c_6
  refine lv_iconst (v := 0) hx hb dX11_sort_37 (by decide) ?_
  refine lv_istore (lv' := [(4, .int 0), (0, .ref hh), (1, .int 1), (2, .int x2), (3, .int x3)]) hx hb dX11_sort_38 hl (by decide) rfl (fun ls hl => ?_)
  refine lv_iload hx hb dX11_sort_40 (lv_at hl 0 rfl) ?_
  refine lv_if_ne (tgt := 55) hx hb dX11_sort_42 (by decide) (fun c_7 => ?_) (fun c_7 => ?_)
  · exact absurd (by decide) c_7
  obtain ⟨sa, hsa⟩ := hE.2.2.2.1 ("Hornbook", 68, "no such PARAMETERS") (by decide +kernel)
  have hsa : vk_R RX11 68 "no such PARAMETERS" sa s := hsa
  exact vx_throwS (A := A) (cls := "java/lang/IllegalArgumentException") (text := "no such PARAMETERS") (names := ["java/lang/RuntimeException", "java/lang/Exception"]) hx hb (z_traces hfl) hown (by decide +kernel) (by decide +kernel) (hts (.classLink RX11 66 "java/lang/IllegalArgumentException") (by decide +kernel)) (hts (.initialized "java/lang/IllegalArgumentException") (by decide +kernel)) hsa (vx_hat (B := Cond.castable "java/lang/IllegalArgumentException" "java/lang/IllegalArgumentException" :: zDecs) (fun w h => hts w (List.mem_cons_of_mem _ (List.mem_append_right _ (zAt_70 w h)))) (by decide +kernel) (vx_c (va_Nw.use rfl (hE.2.2.2.2.2.2.2.1 ("java/lang/IllegalArgumentException", "java/lang/IllegalArgumentException") (by decide +kernel))) hDc.use)) (by decide +kernel) hE.1 hE.2.1 hS (by rw [hml]; exact hl.1) dX11_sort_45 dX11_sort_48 dX11_sort_49 dX11_sort_51 dX11_sort_54 (fun x h => (htab x h).elim) (Nat.le_of_ble_eq_true rfl) (Nat.le_of_ble_eq_true rfl) (Nat.le_of_ble_eq_true rfl) (Nat.le_of_ble_eq_true rfl) hlocks (fun t hW h1 h2 => ⟨(), trivial, rfl, z_F hS h1 h2⟩) hS.2.2 (Nat.le_of_ble_eq_true rfl) (Nat.le_of_ble_eq_true rfl)

def wb_c_H_sort_2l : List Cond := [.code yX11_isHow cX11_isHow 1 (some .boolean), .methodLink RX11 62 yX11_isHow, .static yX11_isHow, .initialized RX11, .classLink RX11 66 "java/lang/IllegalArgumentException", .initialized "java/lang/IllegalArgumentException"]
def w_c_H_sort_2l : List Cond := .code yX11_sort cX11_sort 6 (some .int) :: (wb_c_H_sort_2l ++ zAt)
set_option maxRecDepth 100000 in
theorem g_c_H_sort_2l_0 : GoodIn w_c_H_sort_2l (va_wsS RX11 62 yX11_isHow w_c_H_isHow_l) := goodIn_app (goodIn_of _ (by decide +kernel)) (goodIn_p (big := w_c_H_sort_2l) (.code yX11_isHow cX11_isHow 1 (some .boolean) :: wb_c_H_isHow_l) [1] rfl (by decide +kernel))
set_option maxHeartbeats 4000000 in
set_option maxRecDepth 100000 in
theorem c_H_sort_2l (l : Launch) (hfl : l.flags = flags0) (eD eI : Nat) (ad : Nat → Nat) (dC : Nat → ClassId) (dI : Nat → Nat → Nat) (sz : Nat) (hh : Nat) (aexpr : Nat) (achoo : Nat) (ameth : Nat) (aroom : Nat) (anod : Nat) (asort : Nat) (anote : Nat) (amet : Nat) (nm : Nat) (nl : Nat) (n1 : Nat) (n2 : Nat) (nf : Nat) (ns : Nat) (nh : Nat) (nk : Nat) (np : Nat) (kI : ClassId) (kL : ClassId) (x2 : Int32) (x3 : Int32) (hx21 : x2 < 0) : vx_Met l yX11_sort w_c_H_sort_2l ({ frames := 6, cells := 1, slots := 6, locals := 82 }) (va_Pc [.ref hh, .int 2, .int x2, .int x3] (zPreD eD eI ad (dC, dI) [(hh, .inr (13, [.ref aexpr, .ref achoo, .ref ameth, .ref aroom, .ref anod, .ref asort, .ref anote, .ref amet, .int 0, .int 1])), (asort, .inr (1, [.int 0, .ref eD, .int 0])), (anod, .inr (7, [.ref nm, .ref nl, .ref n1, .ref n2, .ref nf, .ref ns, .ref nh, .ref nk, .ref np, .int 16, .int 0, .int 16, .int 0, .int 0])), (ns, .inl (kL, 1024, .inr (.inl zSec))), (nm, .inl (kI, 12, .inl (fun _ => 0))), (nl, .inl (kI, 12, .inl (fun _ => 0))), (n1, .inl (kI, 12, .inl (fun _ => 0))), (n2, .inl (kI, 12, .inl (fun _ => 0)))] [(kL, .long), (kI, .int)] sz)) (va_Qi (fun (r : Int32) (_ : Unit) => False) (fun (_ : Unit) => zEnd (dC, dI) (va_A [(hh, .inr (13, [.ref aexpr, .ref achoo, .ref ameth, .ref aroom, .ref anod, .ref asort, .ref anote, .ref amet, .int 0, .int 1])), (asort, .inr (1, [.int 0, .ref eD, .int 0])), (anod, .inr (7, [.ref nm, .ref nl, .ref n1, .ref n2, .ref nf, .ref ns, .ref nh, .ref nk, .ref np, .int 16, .int 0, .int 16, .int 0, .int 0])), (ns, .inl (kL, 1024, .inr (.inl zSec))), (nm, .inl (kI, 12, .inl (fun _ => 0))), (nl, .inl (kI, 12, .inl (fun _ => 0))), (n1, .inl (kI, 12, .inl (fun _ => 0))), (n2, .inl (kI, 12, .inl (fun _ => 0)))] sz) [(hh, .inr (13, [.ref aexpr, .ref achoo, .ref ameth, .ref aroom, .ref anod, .ref asort, .ref anote, .ref amet, .int 0, .int 1])), (asort, .inr (1, [.int 0, .ref eD, .int 0])), (anod, .inr (7, [.ref nm, .ref nl, .ref n1, .ref n2, .ref nf, .ref ns, .ref nh, .ref nk, .ref np, .int 16, .int 0, .int 16, .int 0, .int 0])), (ns, .inl (kL, 1024, .inr (.inl zSec))), (nm, .inl (kI, 12, .inl (fun _ => 0))), (nl, .inl (kI, 12, .inl (fun _ => 0))), (n1, .inl (kI, 12, .inl (fun _ => 0))), (n2, .inl (kI, 12, .inl (fun _ => 0)))] [(kL, .long), (kI, .int)]) (va_A [(hh, .inr (13, [.ref aexpr, .ref achoo, .ref ameth, .ref aroom, .ref anod, .ref asort, .ref anote, .ref amet, .int 0, .int 1])), (asort, .inr (1, [.int 0, .ref eD, .int 0])), (anod, .inr (7, [.ref nm, .ref nl, .ref n1, .ref n2, .ref nf, .ref ns, .ref nh, .ref nk, .ref np, .int 16, .int 0, .int 16, .int 0, .int 0])), (ns, .inl (kL, 1024, .inr (.inl zSec))), (nm, .inl (kI, 12, .inl (fun _ => 0))), (nl, .inl (kI, 12, .inl (fun _ => 0))), (n1, .inl (kI, 12, .inl (fun _ => 0))), (n2, .inl (kI, 12, .inl (fun _ => 0)))] sz)) (zX (fun E => E = "java/lang/IllegalArgumentException") (va_A [(hh, .inr (13, [.ref aexpr, .ref achoo, .ref ameth, .ref aroom, .ref anod, .ref asort, .ref anote, .ref amet, .int 0, .int 1])), (asort, .inr (1, [.int 0, .ref eD, .int 0])), (anod, .inr (7, [.ref nm, .ref nl, .ref n1, .ref n2, .ref nf, .ref ns, .ref nh, .ref nk, .ref np, .int 16, .int 0, .int 16, .int 0, .int 0])), (ns, .inl (kL, 1024, .inr (.inl zSec))), (nm, .inl (kI, 12, .inl (fun _ => 0))), (nl, .inl (kI, 12, .inl (fun _ => 0))), (n1, .inl (kI, 12, .inl (fun _ => 0))), (n2, .inl (kI, 12, .inl (fun _ => 0)))] sz)) 1 6 (va_A [(hh, .inr (13, [.ref aexpr, .ref achoo, .ref ameth, .ref aroom, .ref anod, .ref asort, .ref anote, .ref amet, .int 0, .int 1])), (asort, .inr (1, [.int 0, .ref eD, .int 0])), (anod, .inr (7, [.ref nm, .ref nl, .ref n1, .ref n2, .ref nf, .ref ns, .ref nh, .ref nk, .ref np, .int 16, .int 0, .int 16, .int 0, .int 0])), (ns, .inl (kL, 1024, .inr (.inl zSec))), (nm, .inl (kI, 12, .inl (fun _ => 0))), (nl, .inl (kI, 12, .inl (fun _ => 0))), (n1, .inl (kI, 12, .inl (fun _ => 0))), (n2, .inl (kI, 12, .inl (fun _ => 0)))] sz) := by
  refine vx_ofW (cc := cX11_sort) (maxL := 6) (ret := (some .int)) (by decide +kernel) rfl ?_
  intro p e s m args below meth c s₁ B hml htab hv
  obtain ⟨rfl, ⟨hsz, hP, hK, hD0, hE⟩, hDc⟩ := hv
  have hx := B.exec
  have hb := B.bytes
  have hr := B.returns
  have hts := atoms_spec (ws := w_c_H_sort_2l) B.pre
  have hown : s.vm.findClass RX11 = some m.cls := findClass_of_methodNamed B.named
  have hlocks := B.notSynchronized
  subst hsz
  have hD := hD0.self (sz := s.heap.size)
  generalize hAe : va_A [(hh, .inr (13, [.ref aexpr, .ref achoo, .ref ameth, .ref aroom, .ref anod, .ref asort, .ref anote, .ref amet, .int 0, .int 1])), (asort, .inr (1, [.int 0, .ref eD, .int 0])), (anod, .inr (7, [.ref nm, .ref nl, .ref n1, .ref n2, .ref nf, .ref ns, .ref nh, .ref nk, .ref np, .int 16, .int 0, .int 16, .int 0, .int 0])), (ns, .inl (kL, 1024, .inr (.inl zSec))), (nm, .inl (kI, 12, .inl (fun _ => 0))), (nl, .inl (kI, 12, .inl (fun _ => 0))), (n1, .inl (kI, 12, .inl (fun _ => 0))), (n2, .inl (kI, 12, .inl (fun _ => 0)))] s.heap.size = A at hD hE ⊢
  have hA : ∀ q : Nat, s.heap.size ≤ q → A q := fun q h => by rw [← hAe]; exact Or.inr h
  have hS : va_S A s.heap s.heap [] := va_S.rf
  have hP : va_P (dC, dI) vwCl [(hh, .inr (13, [.ref aexpr, .ref achoo, .ref ameth, .ref aroom, .ref anod, .ref asort, .ref anote, .ref amet, .int 0, .int 1])), (asort, .inr (1, [.int 0, .ref eD, .int 0])), (anod, .inr (7, [.ref nm, .ref nl, .ref n1, .ref n2, .ref nf, .ref ns, .ref nh, .ref nk, .ref np, .int 16, .int 0, .int 16, .int 0, .int 0])), (ns, .inl (kL, 1024, .inr (.inl zSec))), (nm, .inl (kI, 12, .inl (fun _ => 0))), (nl, .inl (kI, 12, .inl (fun _ => 0))), (n1, .inl (kI, 12, .inl (fun _ => 0))), (n2, .inl (kI, 12, .inl (fun _ => 0)))] s.heap := hP
  have hl := lv_entry ([.ref hh, .int 2, .int x2, .int x3]) (n := 6) (Nat.le_of_ble_eq_true rfl)
  rw [lg_entry_eq]
  generalize (lg_sl ([.ref hh, .int 2, .int x2, .int x3]) ++ List.replicate (6 - (lg_sl ([.ref hh, .int 2, .int x2, .int x3])).length) Slot.unset).toArray = ls at hl ⊢
  have hl : lv_has ls 6 [(0, .ref hh), (1, .int 2), (2, .int x2), (3, .int x3)] := hl
  refine lv_iload_n hx hb dX11_sort_0 rfl (lv_at hl 1 rfl) ?_
  refine lv_if_lt (tgt := 37) hx hb dX11_sort_1 (by decide) (fun c_1 => ?_) (fun c_1 => ?_)
  · exact absurd c_1 (by decide)
  refine lv_iload_n hx hb dX11_sort_4 rfl (lv_at hl 1 rfl) ?_
  refine lv_iconst (v := 2) hx hb dX11_sort_5 (by decide) ?_
  refine lv_icmp_gt (tgt := 37) hx hb dX11_sort_6 (by decide) (fun c_2 => ?_) (fun c_2 => ?_)
  · exact absurd c_2 (by decide)
  refine lv_iload_n hx hb dX11_sort_9 rfl (lv_at hl 1 rfl) ?_
  refine lv_iconst (v := 1) hx hb dX11_sort_10 (by decide) ?_
  refine lv_icmp_lt (tgt := 21) hx hb dX11_sort_11 (by decide) (fun c_3 => ?_) (fun c_3 => ?_)
  · exact absurd c_3 (by decide)
  refine lv_iload_n hx hb dX11_sort_14 rfl (lv_at hl 2 rfl) ?_
  refine z_i (wr := [(hh, .inr (13, [.ref aexpr, .ref achoo, .ref ameth, .ref aroom, .ref anod, .ref asort, .ref anote, .ref amet, .int 0, .int 1])), (asort, .inr (1, [.int 0, .ref eD, .int 0])), (anod, .inr (7, [.ref nm, .ref nl, .ref n1, .ref n2, .ref nf, .ref ns, .ref nh, .ref nk, .ref np, .int 16, .int 0, .int 16, .int 0, .int 0])), (ns, .inl (kL, 1024, .inr (.inl zSec))), (nm, .inl (kI, 12, .inl (fun _ => 0))), (nl, .inl (kI, 12, .inl (fun _ => 0))), (n1, .inl (kI, 12, .inl (fun _ => 0))), (n2, .inl (kI, 12, .inl (fun _ => 0)))]) (va_runS (As := [.int x2]) (rest := []) ⟨hx, hb, hml, hown, hts⟩ (c_H_isHow_l l eD eI ad dC dI s.heap.size x2 (hx21)) (va_cwS 1 hts g_c_H_sort_2l_0 rfl rfl rfl (by decide +kernel) ⟨Nat.le_of_ble_eq_true rfl, Nat.le_of_ble_eq_true rfl⟩) (z_preS (wc := []) hP hD hK hS hA hE [] [] rfl (by decide) rfl) rfl rfl hl.1 rfl (lv_room (Nat.le_of_ble_eq_true rfl)) dX11_sort_15 ⟨Nat.le_of_ble_eq_true rfl, Nat.le_of_ble_eq_true rfl⟩) hP hD hK hS hA [] [0, 1, 2, 3, 4, 5, 6, 7] rfl rfl (by decide) (by decide) (fun r_4 u H locs hw_5 hP hD hK hS => ?_)
  obtain ⟨⟩ := u
  have hP : va_P (dC, dI) vwCl [(hh, .inr (13, [.ref aexpr, .ref achoo, .ref ameth, .ref aroom, .ref anod, .ref asort, .ref anote, .ref amet, .int 0, .int 1])), (asort, .inr (1, [.int 0, .ref eD, .int 0])), (anod, .inr (7, [.ref nm, .ref nl, .ref n1, .ref n2, .ref nf, .ref ns, .ref nh, .ref nk, .ref np, .int 16, .int 0, .int 16, .int 0, .int 0])), (ns, .inl (kL, 1024, .inr (.inl zSec))), (nm, .inl (kI, 12, .inl (fun _ => 0))), (nl, .inl (kI, 12, .inl (fun _ => 0))), (n1, .inl (kI, 12, .inl (fun _ => 0))), (n2, .inl (kI, 12, .inl (fun _ => 0)))] H := hP
  have hD : va_D A [(hh, .inr (13, [.ref aexpr, .ref achoo, .ref ameth, .ref aroom, .ref anod, .ref asort, .ref anote, .ref amet, .int 0, .int 1])), (asort, .inr (1, [.int 0, .ref eD, .int 0])), (anod, .inr (7, [.ref nm, .ref nl, .ref n1, .ref n2, .ref nf, .ref ns, .ref nh, .ref nk, .ref np, .int 16, .int 0, .int 16, .int 0, .int 0])), (ns, .inl (kL, 1024, .inr (.inl zSec))), (nm, .inl (kI, 12, .inl (fun _ => 0))), (nl, .inl (kI, 12, .inl (fun _ => 0))), (n1, .inl (kI, 12, .inl (fun _ => 0))), (n2, .inl (kI, 12, .inl (fun _ => 0)))] := hD
  have hK : va_K (dC, dI) vwCl [(kL, .long), (kI, .int)] s := by simpa using hK
  have hw_5 : r_4 = 0 := hw_5
  have hw_5 := hw_5.symm
  subst hw_5
  refine lv_if_eq (tgt := 37) hx hb dX11_sort_18 (by decide) (fun c_6 => ?_) (fun c_6 => ?_)
  rotate_left
  · exact absurd (by decide) c_6
  refine lv_iconst (v := 0) hx hb dX11_sort_37 (by decide) ?_
  refine lv_istore (lv' := [(4, .int 0), (0, .ref hh), (1, .int 2), (2, .int x2), (3, .int x3)]) hx hb dX11_sort_38 hl (by decide) rfl (fun ls hl => ?_)
  refine lv_iload hx hb dX11_sort_40 (lv_at hl 0 rfl) ?_
  refine lv_if_ne (tgt := 55) hx hb dX11_sort_42 (by decide) (fun c_7 => ?_) (fun c_7 => ?_)
  · exact absurd (by decide) c_7
  obtain ⟨sa, hsa⟩ := hE.2.2.2.1 ("Hornbook", 68, "no such PARAMETERS") (by decide +kernel)
  have hsa : vk_R RX11 68 "no such PARAMETERS" sa s := hsa
  exact vx_throwS (A := A) (cls := "java/lang/IllegalArgumentException") (text := "no such PARAMETERS") (names := ["java/lang/RuntimeException", "java/lang/Exception"]) hx hb (z_traces hfl) hown (by decide +kernel) (by decide +kernel) (hts (.classLink RX11 66 "java/lang/IllegalArgumentException") (by decide +kernel)) (hts (.initialized "java/lang/IllegalArgumentException") (by decide +kernel)) hsa (vx_hat (B := Cond.castable "java/lang/IllegalArgumentException" "java/lang/IllegalArgumentException" :: zDecs) (fun w h => hts w (List.mem_cons_of_mem _ (List.mem_append_right _ (zAt_70 w h)))) (by decide +kernel) (vx_c (va_Nw.use rfl (hE.2.2.2.2.2.2.2.1 ("java/lang/IllegalArgumentException", "java/lang/IllegalArgumentException") (by decide +kernel))) hDc.use)) (by decide +kernel) hE.1 hE.2.1 hS (by rw [hml]; exact hl.1) dX11_sort_45 dX11_sort_48 dX11_sort_49 dX11_sort_51 dX11_sort_54 (fun x h => (htab x h).elim) (Nat.le_of_ble_eq_true rfl) (Nat.le_of_ble_eq_true rfl) (Nat.le_of_ble_eq_true rfl) (Nat.le_of_ble_eq_true rfl) hlocks (fun t hW h1 h2 => ⟨(), trivial, rfl, z_F hS h1 h2⟩) hS.2.2 (Nat.le_of_ble_eq_true rfl) (Nat.le_of_ble_eq_true rfl)

def wb_c_H_sort_1h : List Cond := [.code yX11_isHow cX11_isHow 1 (some .boolean), .methodLink RX11 62 yX11_isHow, .static yX11_isHow, .initialized RX11, .classLink RX11 66 "java/lang/IllegalArgumentException", .initialized "java/lang/IllegalArgumentException"]
def w_c_H_sort_1h : List Cond := .code yX11_sort cX11_sort 6 (some .int) :: (wb_c_H_sort_1h ++ zAt)
set_option maxRecDepth 100000 in
theorem g_c_H_sort_1h_0 : GoodIn w_c_H_sort_1h (va_wsS RX11 62 yX11_isHow w_c_H_isHow_h) := goodIn_app (goodIn_of _ (by decide +kernel)) (goodIn_p (big := w_c_H_sort_1h) (.code yX11_isHow cX11_isHow 1 (some .boolean) :: wb_c_H_isHow_h) [1] rfl (by decide +kernel))
set_option maxHeartbeats 4000000 in
set_option maxRecDepth 100000 in
theorem c_H_sort_1h (l : Launch) (hfl : l.flags = flags0) (eD eI : Nat) (ad : Nat → Nat) (dC : Nat → ClassId) (dI : Nat → Nat → Nat) (sz : Nat) (hh : Nat) (aexpr : Nat) (achoo : Nat) (ameth : Nat) (aroom : Nat) (anod : Nat) (asort : Nat) (anote : Nat) (amet : Nat) (nm : Nat) (nl : Nat) (n1 : Nat) (n2 : Nat) (nf : Nat) (ns : Nat) (nh : Nat) (nk : Nat) (np : Nat) (kI : ClassId) (kL : ClassId) (x2 : Int32) (x3 : Int32) (hx20 : ¬ x2 < 0) (hx21 : 2 < x2) : vx_Met l yX11_sort w_c_H_sort_1h ({ frames := 6, cells := 1, slots := 6, locals := 82 }) (va_Pc [.ref hh, .int 1, .int x2, .int x3] (zPreD eD eI ad (dC, dI) [(hh, .inr (13, [.ref aexpr, .ref achoo, .ref ameth, .ref aroom, .ref anod, .ref asort, .ref anote, .ref amet, .int 0, .int 1])), (asort, .inr (1, [.int 0, .ref eD, .int 0])), (anod, .inr (7, [.ref nm, .ref nl, .ref n1, .ref n2, .ref nf, .ref ns, .ref nh, .ref nk, .ref np, .int 16, .int 0, .int 16, .int 0, .int 0])), (ns, .inl (kL, 1024, .inr (.inl zSec))), (nm, .inl (kI, 12, .inl (fun _ => 0))), (nl, .inl (kI, 12, .inl (fun _ => 0))), (n1, .inl (kI, 12, .inl (fun _ => 0))), (n2, .inl (kI, 12, .inl (fun _ => 0)))] [(kL, .long), (kI, .int)] sz)) (va_Qi (fun (r : Int32) (_ : Unit) => False) (fun (_ : Unit) => zEnd (dC, dI) (va_A [(hh, .inr (13, [.ref aexpr, .ref achoo, .ref ameth, .ref aroom, .ref anod, .ref asort, .ref anote, .ref amet, .int 0, .int 1])), (asort, .inr (1, [.int 0, .ref eD, .int 0])), (anod, .inr (7, [.ref nm, .ref nl, .ref n1, .ref n2, .ref nf, .ref ns, .ref nh, .ref nk, .ref np, .int 16, .int 0, .int 16, .int 0, .int 0])), (ns, .inl (kL, 1024, .inr (.inl zSec))), (nm, .inl (kI, 12, .inl (fun _ => 0))), (nl, .inl (kI, 12, .inl (fun _ => 0))), (n1, .inl (kI, 12, .inl (fun _ => 0))), (n2, .inl (kI, 12, .inl (fun _ => 0)))] sz) [(hh, .inr (13, [.ref aexpr, .ref achoo, .ref ameth, .ref aroom, .ref anod, .ref asort, .ref anote, .ref amet, .int 0, .int 1])), (asort, .inr (1, [.int 0, .ref eD, .int 0])), (anod, .inr (7, [.ref nm, .ref nl, .ref n1, .ref n2, .ref nf, .ref ns, .ref nh, .ref nk, .ref np, .int 16, .int 0, .int 16, .int 0, .int 0])), (ns, .inl (kL, 1024, .inr (.inl zSec))), (nm, .inl (kI, 12, .inl (fun _ => 0))), (nl, .inl (kI, 12, .inl (fun _ => 0))), (n1, .inl (kI, 12, .inl (fun _ => 0))), (n2, .inl (kI, 12, .inl (fun _ => 0)))] [(kL, .long), (kI, .int)]) (va_A [(hh, .inr (13, [.ref aexpr, .ref achoo, .ref ameth, .ref aroom, .ref anod, .ref asort, .ref anote, .ref amet, .int 0, .int 1])), (asort, .inr (1, [.int 0, .ref eD, .int 0])), (anod, .inr (7, [.ref nm, .ref nl, .ref n1, .ref n2, .ref nf, .ref ns, .ref nh, .ref nk, .ref np, .int 16, .int 0, .int 16, .int 0, .int 0])), (ns, .inl (kL, 1024, .inr (.inl zSec))), (nm, .inl (kI, 12, .inl (fun _ => 0))), (nl, .inl (kI, 12, .inl (fun _ => 0))), (n1, .inl (kI, 12, .inl (fun _ => 0))), (n2, .inl (kI, 12, .inl (fun _ => 0)))] sz)) (zX (fun E => E = "java/lang/IllegalArgumentException") (va_A [(hh, .inr (13, [.ref aexpr, .ref achoo, .ref ameth, .ref aroom, .ref anod, .ref asort, .ref anote, .ref amet, .int 0, .int 1])), (asort, .inr (1, [.int 0, .ref eD, .int 0])), (anod, .inr (7, [.ref nm, .ref nl, .ref n1, .ref n2, .ref nf, .ref ns, .ref nh, .ref nk, .ref np, .int 16, .int 0, .int 16, .int 0, .int 0])), (ns, .inl (kL, 1024, .inr (.inl zSec))), (nm, .inl (kI, 12, .inl (fun _ => 0))), (nl, .inl (kI, 12, .inl (fun _ => 0))), (n1, .inl (kI, 12, .inl (fun _ => 0))), (n2, .inl (kI, 12, .inl (fun _ => 0)))] sz)) 1 6 (va_A [(hh, .inr (13, [.ref aexpr, .ref achoo, .ref ameth, .ref aroom, .ref anod, .ref asort, .ref anote, .ref amet, .int 0, .int 1])), (asort, .inr (1, [.int 0, .ref eD, .int 0])), (anod, .inr (7, [.ref nm, .ref nl, .ref n1, .ref n2, .ref nf, .ref ns, .ref nh, .ref nk, .ref np, .int 16, .int 0, .int 16, .int 0, .int 0])), (ns, .inl (kL, 1024, .inr (.inl zSec))), (nm, .inl (kI, 12, .inl (fun _ => 0))), (nl, .inl (kI, 12, .inl (fun _ => 0))), (n1, .inl (kI, 12, .inl (fun _ => 0))), (n2, .inl (kI, 12, .inl (fun _ => 0)))] sz) := by
  refine vx_ofW (cc := cX11_sort) (maxL := 6) (ret := (some .int)) (by decide +kernel) rfl ?_
  intro p e s m args below meth c s₁ B hml htab hv
  obtain ⟨rfl, ⟨hsz, hP, hK, hD0, hE⟩, hDc⟩ := hv
  have hx := B.exec
  have hb := B.bytes
  have hr := B.returns
  have hts := atoms_spec (ws := w_c_H_sort_1h) B.pre
  have hown : s.vm.findClass RX11 = some m.cls := findClass_of_methodNamed B.named
  have hlocks := B.notSynchronized
  subst hsz
  have hD := hD0.self (sz := s.heap.size)
  generalize hAe : va_A [(hh, .inr (13, [.ref aexpr, .ref achoo, .ref ameth, .ref aroom, .ref anod, .ref asort, .ref anote, .ref amet, .int 0, .int 1])), (asort, .inr (1, [.int 0, .ref eD, .int 0])), (anod, .inr (7, [.ref nm, .ref nl, .ref n1, .ref n2, .ref nf, .ref ns, .ref nh, .ref nk, .ref np, .int 16, .int 0, .int 16, .int 0, .int 0])), (ns, .inl (kL, 1024, .inr (.inl zSec))), (nm, .inl (kI, 12, .inl (fun _ => 0))), (nl, .inl (kI, 12, .inl (fun _ => 0))), (n1, .inl (kI, 12, .inl (fun _ => 0))), (n2, .inl (kI, 12, .inl (fun _ => 0)))] s.heap.size = A at hD hE ⊢
  have hA : ∀ q : Nat, s.heap.size ≤ q → A q := fun q h => by rw [← hAe]; exact Or.inr h
  have hS : va_S A s.heap s.heap [] := va_S.rf
  have hP : va_P (dC, dI) vwCl [(hh, .inr (13, [.ref aexpr, .ref achoo, .ref ameth, .ref aroom, .ref anod, .ref asort, .ref anote, .ref amet, .int 0, .int 1])), (asort, .inr (1, [.int 0, .ref eD, .int 0])), (anod, .inr (7, [.ref nm, .ref nl, .ref n1, .ref n2, .ref nf, .ref ns, .ref nh, .ref nk, .ref np, .int 16, .int 0, .int 16, .int 0, .int 0])), (ns, .inl (kL, 1024, .inr (.inl zSec))), (nm, .inl (kI, 12, .inl (fun _ => 0))), (nl, .inl (kI, 12, .inl (fun _ => 0))), (n1, .inl (kI, 12, .inl (fun _ => 0))), (n2, .inl (kI, 12, .inl (fun _ => 0)))] s.heap := hP
  have hl := lv_entry ([.ref hh, .int 1, .int x2, .int x3]) (n := 6) (Nat.le_of_ble_eq_true rfl)
  rw [lg_entry_eq]
  generalize (lg_sl ([.ref hh, .int 1, .int x2, .int x3]) ++ List.replicate (6 - (lg_sl ([.ref hh, .int 1, .int x2, .int x3])).length) Slot.unset).toArray = ls at hl ⊢
  have hl : lv_has ls 6 [(0, .ref hh), (1, .int 1), (2, .int x2), (3, .int x3)] := hl
  refine lv_iload_n hx hb dX11_sort_0 rfl (lv_at hl 1 rfl) ?_
  refine lv_if_lt (tgt := 37) hx hb dX11_sort_1 (by decide) (fun c_1 => ?_) (fun c_1 => ?_)
  · exact absurd c_1 (by decide)
  refine lv_iload_n hx hb dX11_sort_4 rfl (lv_at hl 1 rfl) ?_
  refine lv_iconst (v := 2) hx hb dX11_sort_5 (by decide) ?_
  refine lv_icmp_gt (tgt := 37) hx hb dX11_sort_6 (by decide) (fun c_2 => ?_) (fun c_2 => ?_)
  · exact absurd c_2 (by decide)
  refine lv_iload_n hx hb dX11_sort_9 rfl (lv_at hl 1 rfl) ?_
  refine lv_iconst (v := 1) hx hb dX11_sort_10 (by decide) ?_
  refine lv_icmp_lt (tgt := 21) hx hb dX11_sort_11 (by decide) (fun c_3 => ?_) (fun c_3 => ?_)
  · exact absurd c_3 (by decide)
  refine lv_iload_n hx hb dX11_sort_14 rfl (lv_at hl 2 rfl) ?_
  refine z_i (wr := [(hh, .inr (13, [.ref aexpr, .ref achoo, .ref ameth, .ref aroom, .ref anod, .ref asort, .ref anote, .ref amet, .int 0, .int 1])), (asort, .inr (1, [.int 0, .ref eD, .int 0])), (anod, .inr (7, [.ref nm, .ref nl, .ref n1, .ref n2, .ref nf, .ref ns, .ref nh, .ref nk, .ref np, .int 16, .int 0, .int 16, .int 0, .int 0])), (ns, .inl (kL, 1024, .inr (.inl zSec))), (nm, .inl (kI, 12, .inl (fun _ => 0))), (nl, .inl (kI, 12, .inl (fun _ => 0))), (n1, .inl (kI, 12, .inl (fun _ => 0))), (n2, .inl (kI, 12, .inl (fun _ => 0)))]) (va_runS (As := [.int x2]) (rest := []) ⟨hx, hb, hml, hown, hts⟩ (c_H_isHow_h l eD eI ad dC dI s.heap.size x2 (hx20) (hx21)) (va_cwS 1 hts g_c_H_sort_1h_0 rfl rfl rfl (by decide +kernel) ⟨Nat.le_of_ble_eq_true rfl, Nat.le_of_ble_eq_true rfl⟩) (z_preS (wc := []) hP hD hK hS hA hE [] [] rfl (by decide) rfl) rfl rfl hl.1 rfl (lv_room (Nat.le_of_ble_eq_true rfl)) dX11_sort_15 ⟨Nat.le_of_ble_eq_true rfl, Nat.le_of_ble_eq_true rfl⟩) hP hD hK hS hA [] [0, 1, 2, 3, 4, 5, 6, 7] rfl rfl (by decide) (by decide) (fun r_4 u H locs hw_5 hP hD hK hS => ?_)
  obtain ⟨⟩ := u
  have hP : va_P (dC, dI) vwCl [(hh, .inr (13, [.ref aexpr, .ref achoo, .ref ameth, .ref aroom, .ref anod, .ref asort, .ref anote, .ref amet, .int 0, .int 1])), (asort, .inr (1, [.int 0, .ref eD, .int 0])), (anod, .inr (7, [.ref nm, .ref nl, .ref n1, .ref n2, .ref nf, .ref ns, .ref nh, .ref nk, .ref np, .int 16, .int 0, .int 16, .int 0, .int 0])), (ns, .inl (kL, 1024, .inr (.inl zSec))), (nm, .inl (kI, 12, .inl (fun _ => 0))), (nl, .inl (kI, 12, .inl (fun _ => 0))), (n1, .inl (kI, 12, .inl (fun _ => 0))), (n2, .inl (kI, 12, .inl (fun _ => 0)))] H := hP
  have hD : va_D A [(hh, .inr (13, [.ref aexpr, .ref achoo, .ref ameth, .ref aroom, .ref anod, .ref asort, .ref anote, .ref amet, .int 0, .int 1])), (asort, .inr (1, [.int 0, .ref eD, .int 0])), (anod, .inr (7, [.ref nm, .ref nl, .ref n1, .ref n2, .ref nf, .ref ns, .ref nh, .ref nk, .ref np, .int 16, .int 0, .int 16, .int 0, .int 0])), (ns, .inl (kL, 1024, .inr (.inl zSec))), (nm, .inl (kI, 12, .inl (fun _ => 0))), (nl, .inl (kI, 12, .inl (fun _ => 0))), (n1, .inl (kI, 12, .inl (fun _ => 0))), (n2, .inl (kI, 12, .inl (fun _ => 0)))] := hD
  have hK : va_K (dC, dI) vwCl [(kL, .long), (kI, .int)] s := by simpa using hK
  have hw_5 : r_4 = 0 := hw_5
  have hw_5 := hw_5.symm
  subst hw_5
  refine lv_if_eq (tgt := 37) hx hb dX11_sort_18 (by decide) (fun c_6 => ?_) (fun c_6 => ?_)
  rotate_left
  · exact absurd (by decide) c_6
  refine lv_iconst (v := 0) hx hb dX11_sort_37 (by decide) ?_
  refine lv_istore (lv' := [(4, .int 0), (0, .ref hh), (1, .int 1), (2, .int x2), (3, .int x3)]) hx hb dX11_sort_38 hl (by decide) rfl (fun ls hl => ?_)
  refine lv_iload hx hb dX11_sort_40 (lv_at hl 0 rfl) ?_
  refine lv_if_ne (tgt := 55) hx hb dX11_sort_42 (by decide) (fun c_7 => ?_) (fun c_7 => ?_)
  · exact absurd (by decide) c_7
  obtain ⟨sa, hsa⟩ := hE.2.2.2.1 ("Hornbook", 68, "no such PARAMETERS") (by decide +kernel)
  have hsa : vk_R RX11 68 "no such PARAMETERS" sa s := hsa
  exact vx_throwS (A := A) (cls := "java/lang/IllegalArgumentException") (text := "no such PARAMETERS") (names := ["java/lang/RuntimeException", "java/lang/Exception"]) hx hb (z_traces hfl) hown (by decide +kernel) (by decide +kernel) (hts (.classLink RX11 66 "java/lang/IllegalArgumentException") (by decide +kernel)) (hts (.initialized "java/lang/IllegalArgumentException") (by decide +kernel)) hsa (vx_hat (B := Cond.castable "java/lang/IllegalArgumentException" "java/lang/IllegalArgumentException" :: zDecs) (fun w h => hts w (List.mem_cons_of_mem _ (List.mem_append_right _ (zAt_70 w h)))) (by decide +kernel) (vx_c (va_Nw.use rfl (hE.2.2.2.2.2.2.2.1 ("java/lang/IllegalArgumentException", "java/lang/IllegalArgumentException") (by decide +kernel))) hDc.use)) (by decide +kernel) hE.1 hE.2.1 hS (by rw [hml]; exact hl.1) dX11_sort_45 dX11_sort_48 dX11_sort_49 dX11_sort_51 dX11_sort_54 (fun x h => (htab x h).elim) (Nat.le_of_ble_eq_true rfl) (Nat.le_of_ble_eq_true rfl) (Nat.le_of_ble_eq_true rfl) (Nat.le_of_ble_eq_true rfl) hlocks (fun t hW h1 h2 => ⟨(), trivial, rfl, z_F hS h1 h2⟩) hS.2.2 (Nat.le_of_ble_eq_true rfl) (Nat.le_of_ble_eq_true rfl)

def wb_c_H_sort_2h : List Cond := [.code yX11_isHow cX11_isHow 1 (some .boolean), .methodLink RX11 62 yX11_isHow, .static yX11_isHow, .initialized RX11, .classLink RX11 66 "java/lang/IllegalArgumentException", .initialized "java/lang/IllegalArgumentException"]
def w_c_H_sort_2h : List Cond := .code yX11_sort cX11_sort 6 (some .int) :: (wb_c_H_sort_2h ++ zAt)
set_option maxRecDepth 100000 in
theorem g_c_H_sort_2h_0 : GoodIn w_c_H_sort_2h (va_wsS RX11 62 yX11_isHow w_c_H_isHow_h) := goodIn_app (goodIn_of _ (by decide +kernel)) (goodIn_p (big := w_c_H_sort_2h) (.code yX11_isHow cX11_isHow 1 (some .boolean) :: wb_c_H_isHow_h) [1] rfl (by decide +kernel))
set_option maxHeartbeats 4000000 in
set_option maxRecDepth 100000 in
theorem c_H_sort_2h (l : Launch) (hfl : l.flags = flags0) (eD eI : Nat) (ad : Nat → Nat) (dC : Nat → ClassId) (dI : Nat → Nat → Nat) (sz : Nat) (hh : Nat) (aexpr : Nat) (achoo : Nat) (ameth : Nat) (aroom : Nat) (anod : Nat) (asort : Nat) (anote : Nat) (amet : Nat) (nm : Nat) (nl : Nat) (n1 : Nat) (n2 : Nat) (nf : Nat) (ns : Nat) (nh : Nat) (nk : Nat) (np : Nat) (kI : ClassId) (kL : ClassId) (x2 : Int32) (x3 : Int32) (hx20 : ¬ x2 < 0) (hx21 : 2 < x2) : vx_Met l yX11_sort w_c_H_sort_2h ({ frames := 6, cells := 1, slots := 6, locals := 82 }) (va_Pc [.ref hh, .int 2, .int x2, .int x3] (zPreD eD eI ad (dC, dI) [(hh, .inr (13, [.ref aexpr, .ref achoo, .ref ameth, .ref aroom, .ref anod, .ref asort, .ref anote, .ref amet, .int 0, .int 1])), (asort, .inr (1, [.int 0, .ref eD, .int 0])), (anod, .inr (7, [.ref nm, .ref nl, .ref n1, .ref n2, .ref nf, .ref ns, .ref nh, .ref nk, .ref np, .int 16, .int 0, .int 16, .int 0, .int 0])), (ns, .inl (kL, 1024, .inr (.inl zSec))), (nm, .inl (kI, 12, .inl (fun _ => 0))), (nl, .inl (kI, 12, .inl (fun _ => 0))), (n1, .inl (kI, 12, .inl (fun _ => 0))), (n2, .inl (kI, 12, .inl (fun _ => 0)))] [(kL, .long), (kI, .int)] sz)) (va_Qi (fun (r : Int32) (_ : Unit) => False) (fun (_ : Unit) => zEnd (dC, dI) (va_A [(hh, .inr (13, [.ref aexpr, .ref achoo, .ref ameth, .ref aroom, .ref anod, .ref asort, .ref anote, .ref amet, .int 0, .int 1])), (asort, .inr (1, [.int 0, .ref eD, .int 0])), (anod, .inr (7, [.ref nm, .ref nl, .ref n1, .ref n2, .ref nf, .ref ns, .ref nh, .ref nk, .ref np, .int 16, .int 0, .int 16, .int 0, .int 0])), (ns, .inl (kL, 1024, .inr (.inl zSec))), (nm, .inl (kI, 12, .inl (fun _ => 0))), (nl, .inl (kI, 12, .inl (fun _ => 0))), (n1, .inl (kI, 12, .inl (fun _ => 0))), (n2, .inl (kI, 12, .inl (fun _ => 0)))] sz) [(hh, .inr (13, [.ref aexpr, .ref achoo, .ref ameth, .ref aroom, .ref anod, .ref asort, .ref anote, .ref amet, .int 0, .int 1])), (asort, .inr (1, [.int 0, .ref eD, .int 0])), (anod, .inr (7, [.ref nm, .ref nl, .ref n1, .ref n2, .ref nf, .ref ns, .ref nh, .ref nk, .ref np, .int 16, .int 0, .int 16, .int 0, .int 0])), (ns, .inl (kL, 1024, .inr (.inl zSec))), (nm, .inl (kI, 12, .inl (fun _ => 0))), (nl, .inl (kI, 12, .inl (fun _ => 0))), (n1, .inl (kI, 12, .inl (fun _ => 0))), (n2, .inl (kI, 12, .inl (fun _ => 0)))] [(kL, .long), (kI, .int)]) (va_A [(hh, .inr (13, [.ref aexpr, .ref achoo, .ref ameth, .ref aroom, .ref anod, .ref asort, .ref anote, .ref amet, .int 0, .int 1])), (asort, .inr (1, [.int 0, .ref eD, .int 0])), (anod, .inr (7, [.ref nm, .ref nl, .ref n1, .ref n2, .ref nf, .ref ns, .ref nh, .ref nk, .ref np, .int 16, .int 0, .int 16, .int 0, .int 0])), (ns, .inl (kL, 1024, .inr (.inl zSec))), (nm, .inl (kI, 12, .inl (fun _ => 0))), (nl, .inl (kI, 12, .inl (fun _ => 0))), (n1, .inl (kI, 12, .inl (fun _ => 0))), (n2, .inl (kI, 12, .inl (fun _ => 0)))] sz)) (zX (fun E => E = "java/lang/IllegalArgumentException") (va_A [(hh, .inr (13, [.ref aexpr, .ref achoo, .ref ameth, .ref aroom, .ref anod, .ref asort, .ref anote, .ref amet, .int 0, .int 1])), (asort, .inr (1, [.int 0, .ref eD, .int 0])), (anod, .inr (7, [.ref nm, .ref nl, .ref n1, .ref n2, .ref nf, .ref ns, .ref nh, .ref nk, .ref np, .int 16, .int 0, .int 16, .int 0, .int 0])), (ns, .inl (kL, 1024, .inr (.inl zSec))), (nm, .inl (kI, 12, .inl (fun _ => 0))), (nl, .inl (kI, 12, .inl (fun _ => 0))), (n1, .inl (kI, 12, .inl (fun _ => 0))), (n2, .inl (kI, 12, .inl (fun _ => 0)))] sz)) 1 6 (va_A [(hh, .inr (13, [.ref aexpr, .ref achoo, .ref ameth, .ref aroom, .ref anod, .ref asort, .ref anote, .ref amet, .int 0, .int 1])), (asort, .inr (1, [.int 0, .ref eD, .int 0])), (anod, .inr (7, [.ref nm, .ref nl, .ref n1, .ref n2, .ref nf, .ref ns, .ref nh, .ref nk, .ref np, .int 16, .int 0, .int 16, .int 0, .int 0])), (ns, .inl (kL, 1024, .inr (.inl zSec))), (nm, .inl (kI, 12, .inl (fun _ => 0))), (nl, .inl (kI, 12, .inl (fun _ => 0))), (n1, .inl (kI, 12, .inl (fun _ => 0))), (n2, .inl (kI, 12, .inl (fun _ => 0)))] sz) := by
  refine vx_ofW (cc := cX11_sort) (maxL := 6) (ret := (some .int)) (by decide +kernel) rfl ?_
  intro p e s m args below meth c s₁ B hml htab hv
  obtain ⟨rfl, ⟨hsz, hP, hK, hD0, hE⟩, hDc⟩ := hv
  have hx := B.exec
  have hb := B.bytes
  have hr := B.returns
  have hts := atoms_spec (ws := w_c_H_sort_2h) B.pre
  have hown : s.vm.findClass RX11 = some m.cls := findClass_of_methodNamed B.named
  have hlocks := B.notSynchronized
  subst hsz
  have hD := hD0.self (sz := s.heap.size)
  generalize hAe : va_A [(hh, .inr (13, [.ref aexpr, .ref achoo, .ref ameth, .ref aroom, .ref anod, .ref asort, .ref anote, .ref amet, .int 0, .int 1])), (asort, .inr (1, [.int 0, .ref eD, .int 0])), (anod, .inr (7, [.ref nm, .ref nl, .ref n1, .ref n2, .ref nf, .ref ns, .ref nh, .ref nk, .ref np, .int 16, .int 0, .int 16, .int 0, .int 0])), (ns, .inl (kL, 1024, .inr (.inl zSec))), (nm, .inl (kI, 12, .inl (fun _ => 0))), (nl, .inl (kI, 12, .inl (fun _ => 0))), (n1, .inl (kI, 12, .inl (fun _ => 0))), (n2, .inl (kI, 12, .inl (fun _ => 0)))] s.heap.size = A at hD hE ⊢
  have hA : ∀ q : Nat, s.heap.size ≤ q → A q := fun q h => by rw [← hAe]; exact Or.inr h
  have hS : va_S A s.heap s.heap [] := va_S.rf
  have hP : va_P (dC, dI) vwCl [(hh, .inr (13, [.ref aexpr, .ref achoo, .ref ameth, .ref aroom, .ref anod, .ref asort, .ref anote, .ref amet, .int 0, .int 1])), (asort, .inr (1, [.int 0, .ref eD, .int 0])), (anod, .inr (7, [.ref nm, .ref nl, .ref n1, .ref n2, .ref nf, .ref ns, .ref nh, .ref nk, .ref np, .int 16, .int 0, .int 16, .int 0, .int 0])), (ns, .inl (kL, 1024, .inr (.inl zSec))), (nm, .inl (kI, 12, .inl (fun _ => 0))), (nl, .inl (kI, 12, .inl (fun _ => 0))), (n1, .inl (kI, 12, .inl (fun _ => 0))), (n2, .inl (kI, 12, .inl (fun _ => 0)))] s.heap := hP
  have hl := lv_entry ([.ref hh, .int 2, .int x2, .int x3]) (n := 6) (Nat.le_of_ble_eq_true rfl)
  rw [lg_entry_eq]
  generalize (lg_sl ([.ref hh, .int 2, .int x2, .int x3]) ++ List.replicate (6 - (lg_sl ([.ref hh, .int 2, .int x2, .int x3])).length) Slot.unset).toArray = ls at hl ⊢
  have hl : lv_has ls 6 [(0, .ref hh), (1, .int 2), (2, .int x2), (3, .int x3)] := hl
  refine lv_iload_n hx hb dX11_sort_0 rfl (lv_at hl 1 rfl) ?_
  refine lv_if_lt (tgt := 37) hx hb dX11_sort_1 (by decide) (fun c_1 => ?_) (fun c_1 => ?_)
  · exact absurd c_1 (by decide)
  refine lv_iload_n hx hb dX11_sort_4 rfl (lv_at hl 1 rfl) ?_
  refine lv_iconst (v := 2) hx hb dX11_sort_5 (by decide) ?_
  refine lv_icmp_gt (tgt := 37) hx hb dX11_sort_6 (by decide) (fun c_2 => ?_) (fun c_2 => ?_)
  · exact absurd c_2 (by decide)
  refine lv_iload_n hx hb dX11_sort_9 rfl (lv_at hl 1 rfl) ?_
  refine lv_iconst (v := 1) hx hb dX11_sort_10 (by decide) ?_
  refine lv_icmp_lt (tgt := 21) hx hb dX11_sort_11 (by decide) (fun c_3 => ?_) (fun c_3 => ?_)
  · exact absurd c_3 (by decide)
  refine lv_iload_n hx hb dX11_sort_14 rfl (lv_at hl 2 rfl) ?_
  refine z_i (wr := [(hh, .inr (13, [.ref aexpr, .ref achoo, .ref ameth, .ref aroom, .ref anod, .ref asort, .ref anote, .ref amet, .int 0, .int 1])), (asort, .inr (1, [.int 0, .ref eD, .int 0])), (anod, .inr (7, [.ref nm, .ref nl, .ref n1, .ref n2, .ref nf, .ref ns, .ref nh, .ref nk, .ref np, .int 16, .int 0, .int 16, .int 0, .int 0])), (ns, .inl (kL, 1024, .inr (.inl zSec))), (nm, .inl (kI, 12, .inl (fun _ => 0))), (nl, .inl (kI, 12, .inl (fun _ => 0))), (n1, .inl (kI, 12, .inl (fun _ => 0))), (n2, .inl (kI, 12, .inl (fun _ => 0)))]) (va_runS (As := [.int x2]) (rest := []) ⟨hx, hb, hml, hown, hts⟩ (c_H_isHow_h l eD eI ad dC dI s.heap.size x2 (hx20) (hx21)) (va_cwS 1 hts g_c_H_sort_2h_0 rfl rfl rfl (by decide +kernel) ⟨Nat.le_of_ble_eq_true rfl, Nat.le_of_ble_eq_true rfl⟩) (z_preS (wc := []) hP hD hK hS hA hE [] [] rfl (by decide) rfl) rfl rfl hl.1 rfl (lv_room (Nat.le_of_ble_eq_true rfl)) dX11_sort_15 ⟨Nat.le_of_ble_eq_true rfl, Nat.le_of_ble_eq_true rfl⟩) hP hD hK hS hA [] [0, 1, 2, 3, 4, 5, 6, 7] rfl rfl (by decide) (by decide) (fun r_4 u H locs hw_5 hP hD hK hS => ?_)
  obtain ⟨⟩ := u
  have hP : va_P (dC, dI) vwCl [(hh, .inr (13, [.ref aexpr, .ref achoo, .ref ameth, .ref aroom, .ref anod, .ref asort, .ref anote, .ref amet, .int 0, .int 1])), (asort, .inr (1, [.int 0, .ref eD, .int 0])), (anod, .inr (7, [.ref nm, .ref nl, .ref n1, .ref n2, .ref nf, .ref ns, .ref nh, .ref nk, .ref np, .int 16, .int 0, .int 16, .int 0, .int 0])), (ns, .inl (kL, 1024, .inr (.inl zSec))), (nm, .inl (kI, 12, .inl (fun _ => 0))), (nl, .inl (kI, 12, .inl (fun _ => 0))), (n1, .inl (kI, 12, .inl (fun _ => 0))), (n2, .inl (kI, 12, .inl (fun _ => 0)))] H := hP
  have hD : va_D A [(hh, .inr (13, [.ref aexpr, .ref achoo, .ref ameth, .ref aroom, .ref anod, .ref asort, .ref anote, .ref amet, .int 0, .int 1])), (asort, .inr (1, [.int 0, .ref eD, .int 0])), (anod, .inr (7, [.ref nm, .ref nl, .ref n1, .ref n2, .ref nf, .ref ns, .ref nh, .ref nk, .ref np, .int 16, .int 0, .int 16, .int 0, .int 0])), (ns, .inl (kL, 1024, .inr (.inl zSec))), (nm, .inl (kI, 12, .inl (fun _ => 0))), (nl, .inl (kI, 12, .inl (fun _ => 0))), (n1, .inl (kI, 12, .inl (fun _ => 0))), (n2, .inl (kI, 12, .inl (fun _ => 0)))] := hD
  have hK : va_K (dC, dI) vwCl [(kL, .long), (kI, .int)] s := by simpa using hK
  have hw_5 : r_4 = 0 := hw_5
  have hw_5 := hw_5.symm
  subst hw_5
  refine lv_if_eq (tgt := 37) hx hb dX11_sort_18 (by decide) (fun c_6 => ?_) (fun c_6 => ?_)
  rotate_left
  · exact absurd (by decide) c_6
  refine lv_iconst (v := 0) hx hb dX11_sort_37 (by decide) ?_
  refine lv_istore (lv' := [(4, .int 0), (0, .ref hh), (1, .int 2), (2, .int x2), (3, .int x3)]) hx hb dX11_sort_38 hl (by decide) rfl (fun ls hl => ?_)
  refine lv_iload hx hb dX11_sort_40 (lv_at hl 0 rfl) ?_
  refine lv_if_ne (tgt := 55) hx hb dX11_sort_42 (by decide) (fun c_7 => ?_) (fun c_7 => ?_)
  · exact absurd (by decide) c_7
  obtain ⟨sa, hsa⟩ := hE.2.2.2.1 ("Hornbook", 68, "no such PARAMETERS") (by decide +kernel)
  have hsa : vk_R RX11 68 "no such PARAMETERS" sa s := hsa
  exact vx_throwS (A := A) (cls := "java/lang/IllegalArgumentException") (text := "no such PARAMETERS") (names := ["java/lang/RuntimeException", "java/lang/Exception"]) hx hb (z_traces hfl) hown (by decide +kernel) (by decide +kernel) (hts (.classLink RX11 66 "java/lang/IllegalArgumentException") (by decide +kernel)) (hts (.initialized "java/lang/IllegalArgumentException") (by decide +kernel)) hsa (vx_hat (B := Cond.castable "java/lang/IllegalArgumentException" "java/lang/IllegalArgumentException" :: zDecs) (fun w h => hts w (List.mem_cons_of_mem _ (List.mem_append_right _ (zAt_70 w h)))) (by decide +kernel) (vx_c (va_Nw.use rfl (hE.2.2.2.2.2.2.2.1 ("java/lang/IllegalArgumentException", "java/lang/IllegalArgumentException") (by decide +kernel))) hDc.use)) (by decide +kernel) hE.1 hE.2.1 hS (by rw [hml]; exact hl.1) dX11_sort_45 dX11_sort_48 dX11_sort_49 dX11_sort_51 dX11_sort_54 (fun x h => (htab x h).elim) (Nat.le_of_ble_eq_true rfl) (Nat.le_of_ble_eq_true rfl) (Nat.le_of_ble_eq_true rfl) (Nat.le_of_ble_eq_true rfl) hlocks (fun t hW h1 h2 => ⟨(), trivial, rfl, z_F hS h1 h2⟩) hS.2.2 (Nat.le_of_ble_eq_true rfl) (Nat.le_of_ble_eq_true rfl)
