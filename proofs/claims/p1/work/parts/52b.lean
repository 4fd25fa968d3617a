theorem dX11_sort_115 : decode cX11_sort 115 = .ok (.iload_n 2, 1) := by decide +kernel
theorem dX11_sort_26 : decode cX11_sort 26 = .ok (.iload_n 3, 1) := by decide +kernel
theorem dX11_sort_27 : decode cX11_sort 27 = .ok (.invokestatic 62, 3) := by decide +kernel
theorem dX11_sort_30 : decode cX11_sort 30 = .ok (.ifCond .eq 7, 3) := by decide +kernel
theorem dX11_sort_130 : decode cX11_sort 130 = .ok (.iload_n 3, 1) := by decide +kernel
theorem dX11_parent_0 : decode cX11_parent 0 = .ok (.aload_n 0, 1) := by decide +kernel
theorem dX11_parent_1 : decode cX11_parent 1 = .ok (.iload_n 1, 1) := by decide +kernel
theorem dX11_parent_2 : decode cX11_parent 2 = .ok (.invokevirtual 112, 3) := by decide +kernel
theorem dX11_type_0 : decode cX11_type 0 = .ok (.aload_n 0, 1) := by decide +kernel
theorem dX11_type_1 : decode cX11_type 1 = .ok (.iload_n 1, 1) := by decide +kernel
theorem dX11_type_2 : decode cX11_type 2 = .ok (.invokevirtual 112, 3) := by decide +kernel
theorem dX11_method_0 : decode cX11_method 0 = .ok (.aload_n 0, 1) := by decide +kernel
theorem dX11_method_1 : decode cX11_method 1 = .ok (.iload_n 1, 1) := by decide +kernel
theorem dX11_method_2 : decode cX11_method 2 = .ok (.invokevirtual 112, 3) := by decide +kernel
theorem dX11_faultsWith_0 : decode cX11_faultsWith 0 = .ok (.aload_n 0, 1) := by decide +kernel
theorem dX11_faultsWith_1 : decode cX11_faultsWith 1 = .ok (.iload_n 1, 1) := by decide +kernel
theorem dX11_faultsWith_2 : decode cX11_faultsWith 2 = .ok (.iload_n 2, 1) := by decide +kernel
theorem dX11_faultsWith_3 : decode cX11_faultsWith 3 = .ok (.invokevirtual 321, 3) := by decide +kernel
theorem dX11_flawsWith_0 : decode cX11_flawsWith 0 = .ok (.aload_n 0, 1) := by decide +kernel
theorem dX11_flawsWith_1 : decode cX11_flawsWith 1 = .ok (.iload_n 1, 1) := by decide +kernel
theorem dX11_flawsWith_2 : decode cX11_flawsWith 2 = .ok (.iload_n 2, 1) := by decide +kernel
theorem dX11_flawsWith_3 : decode cX11_flawsWith 3 = .ok (.invokevirtual 321, 3) := by decide +kernel
theorem dX11_either_0 : decode cX11_either 0 = .ok (.aload_n 0, 1) := by decide +kernel
theorem dX11_either_1 : decode cX11_either 1 = .ok (.iload_n 1, 1) := by decide +kernel
theorem dX11_either_2 : decode cX11_either 2 = .ok (.invokevirtual 232, 3) := by decide +kernel
theorem dX11_as_0 : decode cX11_as 0 = .ok (.aload_n 0, 1) := by decide +kernel
theorem dX11_as_1 : decode cX11_as 1 = .ok (.iload_n 1, 1) := by decide +kernel
theorem dX11_as_2 : decode cX11_as 2 = .ok (.invokevirtual 232, 3) := by decide +kernel
theorem dX11_call_0 : decode cX11_call 0 = .ok (.aload_n 0, 1) := by decide +kernel
theorem dX11_call_1 : decode cX11_call 1 = .ok (.iload_n 1, 1) := by decide +kernel
theorem dX11_call_2 : decode cX11_call 2 = .ok (.invokevirtual 232, 3) := by decide +kernel
theorem dX11_line_0 : decode cX11_line 0 = .ok (.aload_n 0, 1) := by decide +kernel
theorem dX11_line_1 : decode cX11_line 1 = .ok (.iload_n 1, 1) := by decide +kernel
theorem dX11_line_2 : decode cX11_line 2 = .ok (.invokevirtual 232, 3) := by decide +kernel
theorem dX11_seen_0 : decode cX11_seen 0 = .ok (.aload_n 0, 1) := by decide +kernel
theorem dX11_seen_1 : decode cX11_seen 1 = .ok (.iload_n 1, 1) := by decide +kernel
theorem dX11_seen_2 : decode cX11_seen 2 = .ok (.invokevirtual 232, 3) := by decide +kernel
theorem dX11_taking_0 : decode cX11_taking 0 = .ok (.aload_n 0, 1) := by decide +kernel
theorem dX11_taking_1 : decode cX11_taking 1 = .ok (.iload_n 1, 1) := by decide +kernel
theorem dX11_taking_2 : decode cX11_taking 2 = .ok (.invokevirtual 232, 3) := by decide +kernel
theorem dX11_chosen_0 : decode cX11_chosen 0 = .ok (.aload_n 0, 1) := by decide +kernel
theorem dX11_chosen_1 : decode cX11_chosen 1 = .ok (.iload_n 1, 1) := by decide +kernel
theorem dX11_chosen_2 : decode cX11_chosen 2 = .ok (.invokevirtual 232, 3) := by decide +kernel
theorem dX11_own_0 : decode cX11_own 0 = .ok (.aload_n 0, 1) := by decide +kernel
theorem dX11_own_1 : decode cX11_own 1 = .ok (.iload_n 1, 1) := by decide +kernel
theorem dX11_own_2 : decode cX11_own 2 = .ok (.invokevirtual 232, 3) := by decide +kernel
theorem dX11_isFaulty_0 : decode cX11_isFaulty 0 = .ok (.aload_n 0, 1) := by decide +kernel
theorem dX11_isFaulty_1 : decode cX11_isFaulty 1 = .ok (.iload_n 1, 1) := by decide +kernel
theorem dX11_isFaulty_2 : decode cX11_isFaulty 2 = .ok (.invokevirtual 232, 3) := by decide +kernel
theorem dX11_faultsWithout_0 : decode cX11_faultsWithout 0 = .ok (.iload_n 1, 1) := by decide +kernel
theorem dX11_faultsWithout_1 : decode cX11_faultsWithout 1 = .ok (.ifCond .lt 14, 3) := by decide +kernel
theorem dX11_faultsWithout_15 : decode cX11_faultsWithout 15 = .ok (.new 277, 3) := by decide +kernel
theorem dX11_faultsWithout_18 : decode cX11_faultsWithout 18 = .ok (.dup, 1) := by decide +kernel
theorem dX11_faultsWithout_19 : decode cX11_faultsWithout 19 = .ok (.ldc_w 316, 3) := by decide +kernel
theorem dX11_faultsWithout_22 : decode cX11_faultsWithout 22 = .ok (.invokespecial 281, 3) := by decide +kernel
theorem dX11_faultsWithout_25 : decode cX11_faultsWithout 25 = .ok (.athrow, 1) := by decide +kernel
theorem dX11_faultsWithout_4 : decode cX11_faultsWithout 4 = .ok (.iload_n 1, 1) := by decide +kernel
theorem dX11_faultsWithout_5 : decode cX11_faultsWithout 5 = .ok (.aload_n 0, 1) := by decide +kernel
theorem dX11_faultsWithout_6 : decode cX11_faultsWithout 6 = .ok (.getfield 26, 3) := by decide +kernel
theorem dX11_faultsWithout_9 : decode cX11_faultsWithout 9 = .ok (.invokevirtual 73, 3) := by decide +kernel
theorem dX11_faultsWithout_12 : decode cX11_faultsWithout 12 = .ok (.if_icmp .lt 14, 3) := by decide +kernel
theorem dX11_ofFault_0 : decode cX11_ofFault 0 = .ok (.aload_n 0, 1) := by decide +kernel
theorem dX11_ofFault_1 : decode cX11_ofFault 1 = .ok (.invokevirtual 254, 3) := by decide +kernel
theorem dX11_ofFault_4 : decode cX11_ofFault 4 = .ok (.aload_n 0, 1) := by decide +kernel
theorem dX11_ofFault_5 : decode cX11_ofFault 5 = .ok (.iload_n 1, 1) := by decide +kernel
theorem dX11_ofFault_6 : decode cX11_ofFault 6 = .ok (.invokevirtual 273, 3) := by decide +kernel
theorem dX11_ofFault_9 : decode cX11_ofFault 9 = .ok (.astore_n 3, 1) := by decide +kernel
theorem dX11_ofFault_10 : decode cX11_ofFault 10 = .ok (.aload_n 3, 1) := by decide +kernel
theorem dX11_ofFault_11 : decode cX11_ofFault 11 = .ok (.ifnonnull 14, 3) := by decide +kernel
theorem dX11_ofFault_14 : decode cX11_ofFault 14 = .ok (.new 277, 3) := by decide +kernel
theorem dX11_ofFault_17 : decode cX11_ofFault 17 = .ok (.dup, 1) := by decide +kernel
theorem dX11_ofFault_18 : decode cX11_ofFault 18 = .ok (.ldc_w 279, 3) := by decide +kernel
theorem dX11_ofFault_21 : decode cX11_ofFault 21 = .ok (.invokespecial 281, 3) := by decide +kernel
theorem dX11_ofFault_24 : decode cX11_ofFault 24 = .ok (.athrow, 1) := by decide +kernel
theorem dX11_ofFlaw_0 : decode cX11_ofFlaw 0 = .ok (.aload_n 0, 1) := by decide +kernel
theorem dX11_ofFlaw_1 : decode cX11_ofFlaw 1 = .ok (.invokevirtual 291, 3) := by decide +kernel
theorem dX11_ofFlaw_4 : decode cX11_ofFlaw 4 = .ok (.iload_n 1, 1) := by decide +kernel
theorem dX11_ofFlaw_5 : decode cX11_ofFlaw 5 = .ok (.ifCond .lt 14, 3) := by decide +kernel
theorem dX11_ofFlaw_19 : decode cX11_ofFlaw 19 = .ok (.new 277, 3) := by decide +kernel
theorem dX11_ofFlaw_22 : decode cX11_ofFlaw 22 = .ok (.dup, 1) := by decide +kernel
theorem dX11_ofFlaw_23 : decode cX11_ofFlaw 23 = .ok (.ldc_w 297, 3) := by decide +kernel
theorem dX11_ofFlaw_26 : decode cX11_ofFlaw 26 = .ok (.invokespecial 281, 3) := by decide +kernel
theorem dX11_ofFlaw_29 : decode cX11_ofFlaw 29 = .ok (.athrow, 1) := by decide +kernel
theorem dX11_ofFlaw_8 : decode cX11_ofFlaw 8 = .ok (.iload_n 1, 1) := by decide +kernel
theorem dX11_ofFlaw_9 : decode cX11_ofFlaw 9 = .ok (.aload_n 0, 1) := by decide +kernel
theorem dX11_ofFlaw_10 : decode cX11_ofFlaw 10 = .ok (.getfield 46, 3) := by decide +kernel
theorem dX11_ofFlaw_13 : decode cX11_ofFlaw 13 = .ok (.getfield 294, 3) := by decide +kernel
theorem dX11_ofFlaw_16 : decode cX11_ofFlaw 16 = .ok (.if_icmp .lt 14, 3) := by decide +kernel
theorem dX11_parameter_0 : decode cX11_parameter 0 = .ok (.iload_n 1, 1) := by decide +kernel
theorem dX11_parameter_1 : decode cX11_parameter 1 = .ok (.ifCond .eq 18, 3) := by decide +kernel
theorem dX11_parameter_19 : decode cX11_parameter 19 = .ok (.aload_n 0, 1) := by decide +kernel
theorem dX11_parameter_20 : decode cX11_parameter 20 = .ok (.invokevirtual 172, 3) := by decide +kernel
theorem dX11_parameter_23 : decode cX11_parameter 23 = .ok (.aload_n 0, 1) := by decide +kernel
theorem dX11_parameter_24 : decode cX11_parameter 24 = .ok (.getfield 31, 3) := by decide +kernel
theorem dX11_parameter_27 : decode cX11_parameter 27 = .ok (.iload_n 1, 1) := by decide +kernel
theorem dX11_parameter_28 : decode cX11_parameter 28 = .ok (.ifCond .ne 7, 3) := by decide +kernel
theorem dX11_parameter_31 : decode cX11_parameter 31 = .ok (.iconst 3, 1) := by decide +kernel
theorem dX11_parameter_32 : decode cX11_parameter 32 = .ok (.goto 4, 3) := by decide +kernel
theorem dX11_parameter_36 : decode cX11_parameter 36 = .ok (.invokevirtual 188, 3) := by decide +kernel
theorem dX11_parameter_39 : decode cX11_parameter 39 = .ok (.ireturn, 1) := by decide +kernel
theorem dX11_parameter_4 : decode cX11_parameter 4 = .ok (.iload_n 1, 1) := by decide +kernel
theorem dX11_parameter_5 : decode cX11_parameter 5 = .ok (.iconst 1, 1) := by decide +kernel
theorem dX11_parameter_6 : decode cX11_parameter 6 = .ok (.if_icmp .eq 13, 3) := by decide +kernel
theorem dX11_parameter_35 : decode cX11_parameter 35 = .ok (.iconst 4, 1) := by decide +kernel
theorem dX11_parameter_9 : decode cX11_parameter 9 = .ok (.new 66, 3) := by decide +kernel
theorem dX11_parameter_12 : decode cX11_parameter 12 = .ok (.dup, 1) := by decide +kernel
theorem dX11_parameter_13 : decode cX11_parameter 13 = .ok (.ldc 191, 2) := by decide +kernel
theorem dX11_parameter_15 : decode cX11_parameter 15 = .ok (.invokespecial 70, 3) := by decide +kernel
theorem dX11_parameter_18 : decode cX11_parameter 18 = .ok (.athrow, 1) := by decide +kernel
theorem dX2_init_0 : decode cX2_init 0 = .ok (.aload_n 0, 1) := by decide +kernel
theorem dX2_init_1 : decode cX2_init 1 = .ok (.invokespecial 3, 3) := by decide +kernel
theorem dX2_init_4 : decode cX2_init 4 = .ok (.aload_n 0, 1) := by decide +kernel
theorem dX2_init_5 : decode cX2_init 5 = .ok (.iconst (-1), 1) := by decide +kernel
theorem dX2_init_6 : decode cX2_init 6 = .ok (.putfield 9, 3) := by decide +kernel
theorem dX2_init_9 : decode cX2_init 9 = .ok (.aload_n 0, 1) := by decide +kernel
theorem dX2_init_10 : decode cX2_init 10 = .ok (.iconst (-1), 1) := by decide +kernel
theorem dX2_init_11 : decode cX2_init 11 = .ok (.putfield 15, 3) := by decide +kernel
theorem dX2_init_14 : decode cX2_init 14 = .ok (.return_, 1) := by decide +kernel
theorem dX11_addExpression_0 : decode cX11_addExpression 0 = .ok (.aload_n 0, 1) := by decide +kernel
theorem dX11_addExpression_1 : decode cX11_addExpression 1 = .ok (.getfield 12, 3) := by decide +kernel
theorem dX11_addExpression_4 : decode cX11_addExpression 4 = .ok (.invokevirtual 73, 3) := by decide +kernel
theorem dX11_addExpression_7 : decode cX11_addExpression 7 = .ok (.bipush 40, 2) := by decide +kernel
theorem dX11_addExpression_9 : decode cX11_addExpression 9 = .ok (.if_icmp .lt 14, 3) := by decide +kernel
theorem dX11_addExpression_23 : decode cX11_addExpression 23 = .ok (.new 235, 3) := by decide +kernel
theorem dX11_addExpression_26 : decode cX11_addExpression 26 = .ok (.dup, 1) := by decide +kernel
theorem dX11_addExpression_27 : decode cX11_addExpression 27 = .ok (.invokespecial 375, 3) := by decide +kernel
theorem dX11_addExpression_30 : decode cX11_addExpression 30 = .ok (.astore 7, 2) := by decide +kernel
theorem dX11_addExpression_32 : decode cX11_addExpression 32 = .ok (.aload 7, 2) := by decide +kernel
theorem dX11_addExpression_34 : decode cX11_addExpression 34 = .ok (.aload_n 0, 1) := by decide +kernel
theorem dX11_addExpression_35 : decode cX11_addExpression 35 = .ok (.getfield 12, 3) := by decide +kernel
theorem dX11_addExpression_38 : decode cX11_addExpression 38 = .ok (.invokevirtual 73, 3) := by decide +kernel
theorem dX11_addExpression_41 : decode cX11_addExpression 41 = .ok (.putfield 284, 3) := by decide +kernel
theorem dX11_addExpression_44 : decode cX11_addExpression 44 = .ok (.aload 7, 2) := by decide +kernel
theorem dX11_addExpression_46 : decode cX11_addExpression 46 = .ok (.iload_n 1, 1) := by decide +kernel
theorem dX11_addExpression_47 : decode cX11_addExpression 47 = .ok (.putfield 376, 3) := by decide +kernel
theorem dX11_addExpression_50 : decode cX11_addExpression 50 = .ok (.aload 7, 2) := by decide +kernel
theorem dX11_addExpression_52 : decode cX11_addExpression 52 = .ok (.aload_n 2, 1) := by decide +kernel
theorem dX11_addExpression_53 : decode cX11_addExpression 53 = .ok (.putfield 379, 3) := by decide +kernel
theorem dX11_addExpression_56 : decode cX11_addExpression 56 = .ok (.aload 7, 2) := by decide +kernel
theorem dX11_addExpression_58 : decode cX11_addExpression 58 = .ok (.aload_n 3, 1) := by decide +kernel
theorem dX11_addExpression_59 : decode cX11_addExpression 59 = .ok (.putfield 383, 3) := by decide +kernel
theorem dX11_addExpression_62 : decode cX11_addExpression 62 = .ok (.aload 7, 2) := by decide +kernel
theorem dX11_addExpression_64 : decode cX11_addExpression 64 = .ok (.aload 4, 2) := by decide +kernel
theorem dX11_addExpression_66 : decode cX11_addExpression 66 = .ok (.putfield 386, 3) := by decide +kernel
theorem dX11_addExpression_69 : decode cX11_addExpression 69 = .ok (.aload 7, 2) := by decide +kernel
theorem dX11_addExpression_71 : decode cX11_addExpression 71 = .ok (.iload 5, 2) := by decide +kernel
theorem dX11_addExpression_73 : decode cX11_addExpression 73 = .ok (.putfield 389, 3) := by decide +kernel
theorem dX11_addExpression_76 : decode cX11_addExpression 76 = .ok (.aload 7, 2) := by decide +kernel
theorem dX11_addExpression_78 : decode cX11_addExpression 78 = .ok (.iload 6, 2) := by decide +kernel
theorem dX11_addExpression_80 : decode cX11_addExpression 80 = .ok (.putfield 390, 3) := by decide +kernel
theorem dX11_addExpression_83 : decode cX11_addExpression 83 = .ok (.aload_n 0, 1) := by decide +kernel
theorem dX11_addExpression_84 : decode cX11_addExpression 84 = .ok (.getfield 12, 3) := by decide +kernel
theorem dX11_addExpression_87 : decode cX11_addExpression 87 = .ok (.aload 7, 2) := by decide +kernel
theorem dX11_addExpression_89 : decode cX11_addExpression 89 = .ok (.invokevirtual 108, 3) := by decide +kernel
theorem dX11_addExpression_92 : decode cX11_addExpression 92 = .ok (.pop, 1) := by decide +kernel
theorem dX11_addExpression_93 : decode cX11_addExpression 93 = .ok (.aload 7, 2) := by decide +kernel
theorem dX11_addExpression_95 : decode cX11_addExpression 95 = .ok (.getfield 284, 3) := by decide +kernel
theorem dX11_addExpression_98 : decode cX11_addExpression 98 = .ok (.ireturn, 1) := by decide +kernel
theorem dX11_value_0 : decode cX11_value 0 = .ok (.aload_n 0, 1) := by decide +kernel
theorem dX11_value_1 : decode cX11_value 1 = .ok (.iload_n 1, 1) := by decide +kernel
theorem dX11_value_2 : decode cX11_value 2 = .ok (.invokevirtual 116, 3) := by decide +kernel
theorem dX11_value_5 : decode cX11_value 5 = .ok (.aload_n 0, 1) := by decide +kernel
theorem dX11_value_6 : decode cX11_value 6 = .ok (.iload_n 1, 1) := by decide +kernel
theorem dX11_value_7 : decode cX11_value 7 = .ok (.invokevirtual 225, 3) := by decide +kernel
theorem dX11_value_10 : decode cX11_value 10 = .ok (.aload_n 0, 1) := by decide +kernel
theorem dX11_value_11 : decode cX11_value 11 = .ok (.iconst 0, 1) := by decide +kernel
theorem dX11_value_12 : decode cX11_value 12 = .ok (.aconst_null, 1) := by decide +kernel
theorem dX11_value_13 : decode cX11_value 13 = .ok (.aconst_null, 1) := by decide +kernel
theorem dX11_value_14 : decode cX11_value 14 = .ok (.aconst_null, 1) := by decide +kernel
theorem dX11_value_15 : decode cX11_value 15 = .ok (.iconst 0, 1) := by decide +kernel
theorem dX11_value_16 : decode cX11_value 16 = .ok (.aload_n 0, 1) := by decide +kernel
theorem dX11_value_17 : decode cX11_value 17 = .ok (.getfield 31, 3) := by decide +kernel
theorem dX11_value_20 : decode cX11_value 20 = .ok (.iload_n 1, 1) := by decide +kernel
theorem dX11_value_21 : decode cX11_value 21 = .ok (.invokevirtual 123, 3) := by decide +kernel
theorem dX11_value_24 : decode cX11_value 24 = .ok (.invokevirtual 228, 3) := by decide +kernel
theorem dX11_value_27 : decode cX11_value 27 = .ok (.ireturn, 1) := by decide +kernel
theorem dX11_many_0 : decode cX11_many 0 = .ok (.iload_n 1, 1) := by decide +kernel
theorem dX11_many_1 : decode cX11_many 1 = .ok (.ifCond .lt 8, 3) := by decide +kernel
theorem dX11_many_9 : decode cX11_many 9 = .ok (.new 66, 3) := by decide +kernel
theorem dX11_many_12 : decode cX11_many 12 = .ok (.dup, 1) := by decide +kernel
theorem dX11_many_13 : decode cX11_many 13 = .ok (.ldc 237, 2) := by decide +kernel
theorem dX11_many_15 : decode cX11_many 15 = .ok (.invokespecial 70, 3) := by decide +kernel
theorem dX11_many_18 : decode cX11_many 18 = .ok (.athrow, 1) := by decide +kernel
theorem dX11_many_4 : decode cX11_many 4 = .ok (.iload_n 1, 1) := by decide +kernel
theorem dX11_many_5 : decode cX11_many 5 = .ok (.iconst 3, 1) := by decide +kernel
theorem dX11_many_6 : decode cX11_many 6 = .ok (.if_icmp .le 13, 3) := by decide +kernel
theorem dX11_many_19 : decode cX11_many 19 = .ok (.aload_n 0, 1) := by decide +kernel
theorem dX11_many_20 : decode cX11_many 20 = .ok (.iload_n 1, 1) := by decide +kernel
theorem dX11_many_21 : decode cX11_many 21 = .ok (.invokevirtual 239, 3) := by decide +kernel
theorem dX11_many_24 : decode cX11_many 24 = .ok (.ireturn, 1) := by decide +kernel
theorem dX11_faults_0 : decode cX11_faults 0 = .ok (.aload_n 0, 1) := by decide +kernel
theorem dX11_faults_1 : decode cX11_faults 1 = .ok (.invokevirtual 254, 3) := by decide +kernel
theorem dX11_faults_4 : decode cX11_faults 4 = .ok (.aload_n 0, 1) := by decide +kernel
theorem dX11_faults_5 : decode cX11_faults 5 = .ok (.invokevirtual 270, 3) := by decide +kernel
theorem dX11_faults_8 : decode cX11_faults 8 = .ok (.ireturn, 1) := by decide +kernel
theorem dX11_flaws_0 : decode cX11_flaws 0 = .ok (.aload_n 0, 1) := by decide +kernel
theorem dX11_flaws_1 : decode cX11_flaws 1 = .ok (.invokevirtual 291, 3) := by decide +kernel
theorem dX11_flaws_4 : decode cX11_flaws 4 = .ok (.aload_n 0, 1) := by decide +kernel
theorem dX11_flaws_5 : decode cX11_flaws 5 = .ok (.getfield 46, 3) := by decide +kernel
theorem dX11_flaws_8 : decode cX11_flaws 8 = .ok (.getfield 294, 3) := by decide +kernel
theorem dX11_flaws_11 : decode cX11_flaws 11 = .ok (.ireturn, 1) := by decide +kernel
theorem dX11_meanDepth_0 : decode cX11_meanDepth 0 = .ok (.aload_n 0, 1) := by decide +kernel
theorem dX11_meanDepth_1 : decode cX11_meanDepth 1 = .ok (.invokevirtual 254, 3) := by decide +kernel
theorem dX11_meanDepth_4 : decode cX11_meanDepth 4 = .ok (.aload_n 0, 1) := by decide +kernel
theorem dX11_meanDepth_5 : decode cX11_meanDepth 5 = .ok (.getfield 12, 3) := by decide +kernel
theorem dX11_meanDepth_8 : decode cX11_meanDepth 8 = .ok (.invokevirtual 73, 3) := by decide +kernel
theorem dX11_meanDepth_11 : decode cX11_meanDepth 11 = .ok (.istore_n 1, 1) := by decide +kernel
theorem dX11_meanDepth_12 : decode cX11_meanDepth 12 = .ok (.iload_n 1, 1) := by decide +kernel
theorem dX11_meanDepth_13 : decode cX11_meanDepth 13 = .ok (.ifCond .ne 5, 3) := by decide +kernel
theorem dX11_meanDepth_16 : decode cX11_meanDepth 16 = .ok (.dconst 0, 1) := by decide +kernel
theorem dX11_meanDepth_17 : decode cX11_meanDepth 17 = .ok (.dreturn, 1) := by decide +kernel
def wb_c_H_sort_1 : List Cond := [.code yX11_isHow cX11_isHow 1 (some .boolean), .methodLink RX11 62 yX11_isHow, .static yX11_isHow, .initialized RX11, .fieldLink RX11 42 "Hornbook" "sorts" "Ljava/util/ArrayList;", .code yJx4a65c_size_8abf5 cJx4a65c_size_8abf5 1 (some .int), .fieldLink RJx4a65c 48 "java/util/ArrayList" "size" "I", .methodLink RX11 73 yJx4a65c_size_8abf5, .instanceMethod yJx4a65c_size_8abf5, .selects RJx4a65c yJx4a65c_size_8abf5 yJx4a65c_size_8abf5, .initialized RJx4a65c, .classLink RX11 82 RX9, .instantiable RX9 9, .initialized RX9, .code yX9_init cX9_init 1 none, .methodLink RX9 3 objectInit, .instanceMethod objectInit, .code objectInit ⟨#[0xb1]⟩ 1 none, .fieldLink RX9 9 "Hornbook$Sort" "first" "I", .fieldLink RX9 15 "Hornbook$Sort" "second" "I", .arrayClass .int, .fieldLink RX9 18 "Hornbook$Sort" "way" "[I", .instanceMethod yX9_init, .fieldLink RX11 85 "Hornbook$Sort" "number" "I", .fieldLink RX11 88 "Hornbook$Sort" "many" "I", .fieldLink RX11 91 "Hornbook$Sort" "howOne" "I", .fieldLink RX11 94 "Hornbook$Sort" "howOther" "I", .code yX9_startWay cX9_startWay 1 none, .fieldLink RX9 31 "Hornbook$Sort" "length" "I", .fieldLink RX9 28 "Hornbook$Sort" "above" "I", .fieldLink RX9 34 "Hornbook$Sort" "number" "I", .code yX9_pass cX9_pass 2 none, .code yX9_goesTo cX9_goesTo 2 (some .boolean), .methodLink RX9 45 yX9_goesTo, .instanceMethod yX9_goesTo, .selects RX9 yX9_goesTo yX9_goesTo, .methodLink RX9 37 yX9_pass, .instanceMethod yX9_pass, .selects RX9 yX9_pass yX9_pass, .methodLink RX11 97 yX9_startWay, .instanceMethod yX9_startWay, .selects RX9 yX9_startWay yX9_startWay, .fieldLink RX11 38 "Hornbook" "nodes" "LHornbook$Nodes;", .fieldLink RX11 100 "Hornbook$Nodes" "many" "[I", .code yX5_lift cX5_lift 6 none, .fieldLink RX5 9 "Hornbook$Nodes" "many" "[I", .fieldLink RX5 15 "Hornbook$Nodes" "alone" "[I", .code yX5_liftOf cX5_liftOf 6 (some .int), .code yX5_formOf cX5_formOf 2 (some .int), .methodLink RX5 100 yX5_formOf, .instanceMethod yX5_formOf, .selects RX5 yX5_formOf yX5_formOf, .initialized RX5, .methodLink RX5 96 yX5_liftOf, .instanceMethod yX5_liftOf, .selects RX5 yX5_liftOf yX5_liftOf, .methodLink RX5 78 Lib.Math.max.name, .static Lib.Math.max.name, .initialized "java/lang/Math", .code Lib.Math.max.name Lib.Math.max.code 2 (some .int), .constant RX5 104 (-1048576), .fieldLink RX5 18 "Hornbook$Nodes" "overOne" "[I", .methodLink RX11 104 yX5_lift, .instanceMethod yX5_lift, .selects RX5 yX5_lift yX5_lift, .code yJx4a65c_add_9ea2d cJx4a65c_add_9ea2d 2 (some .boolean), .sameField "java/util/ArrayList" "java/util/AbstractList" "modCount" "I", .fieldLink RJx4a65c 63 "java/util/ArrayList" "modCount" "I", .fieldLink RJx4a65c 9 "java/util/ArrayList" "elementData" "[Ljava/lang/Object;", .code yJx4a65c_add_72be8 cJx4a65c_add_72be8 4 none, .code yJx4a65c_grow_d5877 cJx4a65c_grow_d5877 1 (some (.array (.object "java/lang/Object"))), .code yJx4a65c_grow_92f84 cJx4a65c_grow_92f84 4 (some (.array (.object "java/lang/Object"))), .fieldLink RJx4a65c 39 "java/util/ArrayList" "DEFAULTCAPACITY_EMPTY_ELEMENTDATA" "[Ljava/lang/Object;", .methodLink RJx4a65c 79 Lib.Math.max.name, .classLink RJx4a65c 7 "java/lang/Object", .methodLink RJx4a65c 69 yJx4a65c_grow_92f84, .instanceMethod yJx4a65c_grow_92f84, .selects RJx4a65c yJx4a65c_grow_92f84 yJx4a65c_grow_92f84, .methodLink RJx4a65c 129 yJx4a65c_grow_d5877, .instanceMethod yJx4a65c_grow_d5877, .selects RJx4a65c yJx4a65c_grow_d5877 yJx4a65c_grow_d5877, .methodLink RJx4a65c 131 yJx4a65c_add_72be8, .instanceMethod yJx4a65c_add_72be8, .selects RJx4a65c yJx4a65c_add_72be8 yJx4a65c_add_72be8, .methodLink RX11 108 yJx4a65c_add_9ea2d, .instanceMethod yJx4a65c_add_9ea2d, .selects RJx4a65c yJx4a65c_add_9ea2d yJx4a65c_add_9ea2d, .fieldLink RX11 58 "Hornbook" "isNoted" "Z"] ++ u_ws RJx4a65c TJx4a65c 3 ++ u_ws RX11 TX11 10 ++ u_ws RX5 TX5 14 ++ u_ws RX9 TX9 9
def w_c_H_sort_1 : List Cond := .code yX11_sort cX11_sort 6 (some .int) :: wb_c_H_sort_1
set_option maxRecDepth 100000 in
theorem g_c_H_sort_1_0 : GoodIn w_c_H_sort_1 (va_wsS RX11 62 yX11_isHow w_c_H_isHow_ok) := goodIn_app (goodIn_of _ (by decide +kernel)) (goodIn_p (big := w_c_H_sort_1) (.code yX11_isHow cX11_isHow 1 (some .boolean) :: wb_c_H_isHow_ok) [1] rfl (by decide +kernel))
set_option maxRecDepth 100000 in
theorem g_c_H_sort_1_1 : GoodIn w_c_H_sort_1 (wsV RX11 73 RJx4a65c yJx4a65c_size_8abf5 w_c_AL_size) := goodIn_app (goodIn_of _ (by decide +kernel)) (goodIn_p (big := w_c_H_sort_1) (.code yJx4a65c_size_8abf5 cJx4a65c_size_8abf5 1 (some .int) :: wb_c_AL_size) [6] rfl (by decide +kernel))
set_option maxRecDepth 100000 in
theorem g_c_H_sort_1_2 : GoodIn w_c_H_sort_1 (w_c_S_new) := goodIn_p (big := w_c_H_sort_1) (.code yX9_init cX9_init 1 none :: wb_c_S_new) [15, 18] rfl (by decide +kernel)
set_option maxRecDepth 100000 in
theorem g_c_H_sort_1_3 : GoodIn w_c_H_sort_1 (wsV RX11 97 RX9 yX9_startWay w_c_S_startWay) := goodIn_app (goodIn_of _ (by decide +kernel)) (goodIn_p (big := w_c_H_sort_1) (.code yX9_startWay cX9_startWay 1 none :: wb_c_S_startWay) [28, 32, 33] rfl (by decide +kernel))
set_option maxRecDepth 100000 in
theorem g_c_H_sort_1_4 : GoodIn w_c_H_sort_1 (wsV RX11 104 RX5 yX5_lift w_c_N_lift_1) := goodIn_app (goodIn_of _ (by decide +kernel)) (goodIn_p (big := w_c_H_sort_1) (.code yX5_lift cX5_lift 6 none :: wb_c_N_lift_1) [45, 48, 49, 60] rfl (by decide +kernel))
set_option maxRecDepth 100000 in
theorem g_c_H_sort_1_5 : GoodIn w_c_H_sort_1 (wsV RX11 108 RJx4a65c yJx4a65c_add_9ea2d w_c_AL_add0) := goodIn_app (goodIn_of _ (by decide +kernel)) (goodIn_p (big := w_c_H_sort_1) (.code yJx4a65c_add_9ea2d cJx4a65c_add_9ea2d 2 (some .boolean) :: wb_c_AL_add0) [66, 70, 71, 72, 60] rfl (by decide +kernel))
set_option maxHeartbeats 4000000 in
set_option maxRecDepth 100000 in
theorem c_H_sort_1 (l : Launch) (eD eI : Nat) (ad : Nat → Nat) (dC : Nat → ClassId) (dI : Nat → Nat → Nat) (sz : Nat) (hh : Nat) (aexpr : Nat) (achoo : Nat) (ameth : Nat) (aroom : Nat) (anod : Nat) (asort : Nat) (anote : Nat) (amet : Nat) (nm : Nat) (nl : Nat) (n1 : Nat) (n2 : Nat) (nf : Nat) (ns : Nat) (nh : Nat) (nk : Nat) (np : Nat) (kI : ClassId) (kL : ClassId) (x2 : Int32) (x3 : Int32) (hx20 : ¬ x2 < 0) (hx21 : ¬ 2 < x2) : Met l yX11_sort w_c_H_sort_1 ({ frames := 5, cells := 3, slots := 31, locals := 101 }) (va_Pc [.ref hh, .int 1, .int x2, .int x3] (zPre eD eI ad (dC, dI) [(hh, .inr (13, [.ref aexpr, .ref achoo, .ref ameth, .ref aroom, .ref anod, .ref asort, .ref anote, .ref amet, .int 0, .int 1])), (asort, .inr (1, [.int 0, .ref eD, .int 0])), (anod, .inr (7, [.ref nm, .ref nl, .ref n1, .ref n2, .ref nf, .ref ns, .ref nh, .ref nk, .ref np, .int 16, .int 0, .int 16, .int 0, .int 0])), (ns, .inl (kL, 1024, .inr (.inl zSec))), (nm, .inl (kI, 12, .inl (fun _ => 0))), (nl, .inl (kI, 12, .inl (fun _ => 0))), (n1, .inl (kI, 12, .inl (fun _ => 0))), (n2, .inl (kI, 12, .inl (fun _ => 0)))] [(kL, .long), (kI, .int)] sz)) (va_Qi (fun (r : Int32) (_ : Unit) => r = 0) (fun (_ : Unit) => zEnd (dC, dI) (va_A [(hh, .inr (13, [.ref aexpr, .ref achoo, .ref ameth, .ref aroom, .ref anod, .ref asort, .ref anote, .ref amet, .int 0, .int 1])), (asort, .inr (1, [.int 0, .ref eD, .int 0])), (anod, .inr (7, [.ref nm, .ref nl, .ref n1, .ref n2, .ref nf, .ref ns, .ref nh, .ref nk, .ref np, .int 16, .int 0, .int 16, .int 0, .int 0])), (ns, .inl (kL, 1024, .inr (.inl zSec))), (nm, .inl (kI, 12, .inl (fun _ => 0))), (nl, .inl (kI, 12, .inl (fun _ => 0))), (n1, .inl (kI, 12, .inl (fun _ => 0))), (n2, .inl (kI, 12, .inl (fun _ => 0)))] sz) [] []) (va_A [(hh, .inr (13, [.ref aexpr, .ref achoo, .ref ameth, .ref aroom, .ref anod, .ref asort, .ref anote, .ref amet, .int 0, .int 1])), (asort, .inr (1, [.int 0, .ref eD, .int 0])), (anod, .inr (7, [.ref nm, .ref nl, .ref n1, .ref n2, .ref nf, .ref ns, .ref nh, .ref nk, .ref np, .int 16, .int 0, .int 16, .int 0, .int 0])), (ns, .inl (kL, 1024, .inr (.inl zSec))), (nm, .inl (kI, 12, .inl (fun _ => 0))), (nl, .inl (kI, 12, .inl (fun _ => 0))), (n1, .inl (kI, 12, .inl (fun _ => 0))), (n2, .inl (kI, 12, .inl (fun _ => 0)))] sz)) 3 31 (va_A [(hh, .inr (13, [.ref aexpr, .ref achoo, .ref ameth, .ref aroom, .ref anod, .ref asort, .ref anote, .ref amet, .int 0, .int 1])), (asort, .inr (1, [.int 0, .ref eD, .int 0])), (anod, .inr (7, [.ref nm, .ref nl, .ref n1, .ref n2, .ref nf, .ref ns, .ref nh, .ref nk, .ref np, .int 16, .int 0, .int 16, .int 0, .int 0])), (ns, .inl (kL, 1024, .inr (.inl zSec))), (nm, .inl (kI, 12, .inl (fun _ => 0))), (nl, .inl (kI, 12, .inl (fun _ => 0))), (n1, .inl (kI, 12, .inl (fun _ => 0))), (n2, .inl (kI, 12, .inl (fun _ => 0)))] sz) := by
  refine Met.ofW (cc := cX11_sort) (maxL := 6) (ret := (some .int)) (by decide) rfl ?_
  intro p e s m args below meth c s₁ B hml hv
  obtain ⟨rfl, hsz, hP, hK, hD0, hE⟩ := hv
  have hx := B.exec
  have hb := B.bytes
  have hr := B.returns
  have hts := atoms_spec (ws := w_c_H_sort_1) B.pre
  have hown : s.vm.findClass RX11 = some m.cls := findClass_of_methodNamed B.named
  have hlocks := B.notSynchronized
  subst hsz
  have hD := hD0.self (sz := s.heap.size)
  generalize hAe : va_A [(hh, .inr (13, [.ref aexpr, .ref achoo, .ref ameth, .ref aroom, .ref anod, .ref asort, .ref anote, .ref amet, .int 0, .int 1])), (asort, .inr (1, [.int 0, .ref eD, .int 0])), (anod, .inr (7, [.ref nm, .ref nl, .ref n1, .ref n2, .ref nf, .ref ns, .ref nh, .ref nk, .ref np, .int 16, .int 0, .int 16, .int 0, .int 0])), (ns, .inl (kL, 1024, .inr (.inl zSec))), (nm, .inl (kI, 12, .inl (fun _ => 0))), (nl, .inl (kI, 12, .inl (fun _ => 0))), (n1, .inl (kI, 12, .inl (fun _ => 0))), (n2, .inl (kI, 12, .inl (fun _ => 0)))] s.heap.size = A at hD hE ⊢
  have hA : ∀ q : Nat, s.heap.size ≤ q → A q := fun q h => by rw [← hAe]; exact Or.inr h
  have hS : va_S A s.heap s.heap [] := va_S.rf
  have hP : va_P (dC, dI) vwCl [(hh, .inr (13, [.ref aexpr, .ref achoo, .ref ameth, .ref aroom, .ref anod, .ref asort, .ref anote, .ref amet, .int 0, .int 1])), (asort, .inr (1, [.int 0, .ref eD, .int 0])), (anod, .inr (7, [.ref nm, .ref nl, .ref n1, .ref n2, .ref nf, .ref ns, .ref nh, .ref nk, .ref np, .int 16, .int 0, .int 16, .int 0, .int 0])), (ns, .inl (kL, 1024, .inr (.inl zSec))), (nm, .inl (kI, 12, .inl (fun _ => 0))), (nl, .inl (kI, 12, .inl (fun _ => 0))), (n1, .inl (kI, 12, .inl (fun _ => 0))), (n2, .inl (kI, 12, .inl (fun _ => 0)))] s.heap := hP
  have hl := lv_entry ([.ref hh, .int 1, .int x2, .int x3]) (n := 6) (Nat.le_of_ble_eq_true rfl)
  rw [lg_entry_eq]
  generalize (lg_sl ([.ref hh, .int 1, .int x2, .int x3]) ++ List.replicate (6 - (lg_sl ([.ref hh, .int 1, .int x2, .int x3])).length) Slot.unset).toArray = ls at hl ⊢
  have hl : lv_has ls 6 [(0, .ref hh), (1, .int 1), (2, .int x2), (3, .int x3)] := hl
  have in_RJx4a65c : ∀ w ∈ u_ws RJx4a65c TJx4a65c 3, w ∈ w_c_H_sort_1 := by decide +kernel
  have in_RX11 : ∀ w ∈ u_ws RX11 TX11 10, w ∈ w_c_H_sort_1 := by decide +kernel
  have in_RX5 : ∀ w ∈ u_ws RX5 TX5 14, w ∈ w_c_H_sort_1 := by decide +kernel
  have in_RX9 : ∀ w ∈ u_ws RX9 TX9 9, w ∈ w_c_H_sort_1 := by decide +kernel
  refine lv_iload_n hx hb dX11_sort_0 rfl (lv_at hl 1 rfl) ?_
  refine lv_if_lt (tgt := 37) hx hb dX11_sort_1 (by decide) (fun c_1 => ?_) (fun c_1 => ?_)
  · exact absurd c_1 (by decide)
  refine lv_iload_n hx hb dX11_sort_4 rfl (lv_at hl 1 rfl) ?_
  refine lv_iconst (v := 2) hx hb dX11_sort_5 (by decide) ?_
  refine lv_icmp_gt (tgt := 37) hx hb dX11_sort_6 (by decide) (fun c_2 => ?_) (fun c_2 => ?_)
  · exact absurd c_2 (by decide)
  refine lv_iload_n hx hb dX11_sort_9 rfl (lv_at hl 1 rfl) ?_
  refine lv_iconst (v := 1) hx hb dX11_sort_10 (by decide) ?_
  refine lv_icmp_lt (tgt := 21) hx hb dX11_sort_11 (by decide) (fun c_3 => ?_) (fun c_3 => ?_)
  · exact absurd c_3 (by decide)
  refine lv_iload_n hx hb dX11_sort_14 rfl (lv_at hl 2 rfl) ?_
  refine z_i (wr := [(hh, .inr (13, [.ref aexpr, .ref achoo, .ref ameth, .ref aroom, .ref anod, .ref asort, .ref anote, .ref amet, .int 0, .int 1])), (asort, .inr (1, [.int 0, .ref eD, .int 0])), (anod, .inr (7, [.ref nm, .ref nl, .ref n1, .ref n2, .ref nf, .ref ns, .ref nh, .ref nk, .ref np, .int 16, .int 0, .int 16, .int 0, .int 0])), (ns, .inl (kL, 1024, .inr (.inl zSec))), (nm, .inl (kI, 12, .inl (fun _ => 0))), (nl, .inl (kI, 12, .inl (fun _ => 0))), (n1, .inl (kI, 12, .inl (fun _ => 0))), (n2, .inl (kI, 12, .inl (fun _ => 0)))]) (va_runS (As := [.int x2]) (rest := []) ⟨hx, hb, hml, hown, hts⟩ (c_H_isHow_ok l eD eI ad dC dI s.heap.size x2 (hx20) (hx21)) (va_cwS 1 hts g_c_H_sort_1_0 rfl rfl rfl (by decide +kernel) ⟨Nat.le_of_ble_eq_true rfl, Nat.le_of_ble_eq_true rfl⟩) (z_preS (wc := []) hP hD hK hS hA hE [] [] rfl (by decide) rfl) rfl rfl hl.1 rfl (lv_room (Nat.le_of_ble_eq_true rfl)) dX11_sort_15 ⟨Nat.le_of_ble_eq_true rfl, Nat.le_of_ble_eq_true rfl⟩) hP hD hK hS hA [] [0, 1, 2, 3, 4, 5, 6, 7] rfl rfl (by decide) (by decide) (fun r_4 u H locs hw_5 hP hD hK hS => ?_)
  obtain ⟨⟩ := u
  have hP : va_P (dC, dI) vwCl [(hh, .inr (13, [.ref aexpr, .ref achoo, .ref ameth, .ref aroom, .ref anod, .ref asort, .ref anote, .ref amet, .int 0, .int 1])), (asort, .inr (1, [.int 0, .ref eD, .int 0])), (anod, .inr (7, [.ref nm, .ref nl, .ref n1, .ref n2, .ref nf, .ref ns, .ref nh, .ref nk, .ref np, .int 16, .int 0, .int 16, .int 0, .int 0])), (ns, .inl (kL, 1024, .inr (.inl zSec))), (nm, .inl (kI, 12, .inl (fun _ => 0))), (nl, .inl (kI, 12, .inl (fun _ => 0))), (n1, .inl (kI, 12, .inl (fun _ => 0))), (n2, .inl (kI, 12, .inl (fun _ => 0)))] H := hP
  have hD : va_D A [(hh, .inr (13, [.ref aexpr, .ref achoo, .ref ameth, .ref aroom, .ref anod, .ref asort, .ref anote, .ref amet, .int 0, .int 1])), (asort, .inr (1, [.int 0, .ref eD, .int 0])), (anod, .inr (7, [.ref nm, .ref nl, .ref n1, .ref n2, .ref nf, .ref ns, .ref nh, .ref nk, .ref np, .int 16, .int 0, .int 16, .int 0, .int 0])), (ns, .inl (kL, 1024, .inr (.inl zSec))), (nm, .inl (kI, 12, .inl (fun _ => 0))), (nl, .inl (kI, 12, .inl (fun _ => 0))), (n1, .inl (kI, 12, .inl (fun _ => 0))), (n2, .inl (kI, 12, .inl (fun _ => 0)))] := hD
  have hK : va_K (dC, dI) vwCl [(kL, .long), (kI, .int)] s := by simpa using hK
  have hw_5 : r_4 = 1 := hw_5
  have hw_5 := hw_5.symm
  subst hw_5
  refine lv_if_eq (tgt := 37) hx hb dX11_sort_18 (by decide) (fun c_6 => ?_) (fun c_6 => ?_)
  · exact absurd c_6 (by decide)
  refine lv_iload_n hx hb dX11_sort_21 rfl (lv_at hl 1 rfl) ?_
  refine lv_iconst (v := 2) hx hb dX11_sort_22 (by decide) ?_
  refine lv_icmp_lt (tgt := 33) hx hb dX11_sort_23 (by decide) (fun c_7 => ?_) (fun c_7 => ?_)
  rotate_left
  · exact absurd (by decide) c_7
  refine lv_iconst (v := 1) hx hb dX11_sort_33 (by decide) ?_
  refine lv_goto (tgt := 38) hx hb dX11_sort_34 (by decide) ?_
  refine lv_istore (lv' := [(4, .int 1), (0, .ref hh), (1, .int 1), (2, .int x2), (3, .int x3)]) hx hb dX11_sort_38 hl (by decide) rfl (fun ls hl => ?_)
  refine lv_iload hx hb dX11_sort_40 (lv_at hl 0 rfl) ?_
  refine lv_if_ne (tgt := 55) hx hb dX11_sort_42 (by decide) (fun c_8 => ?_) (fun c_8 => ?_)
  rotate_left
  · exact absurd c_8 (by decide)
  refine lv_aload_n hx hb dX11_sort_55 rfl (lv_at hl 1 rfl) ?_
  refine va_get (D := (dC, dI)) (ci := 13) (v := .ref asort) (C := RX11) (T := TX11) (N := 10) hx hb hts in_RX11 hown hK hP 0 rfl rfl 5 (by decide) (hts (.fieldLink RX11 42 "Hornbook" "sorts" "Ljava/util/ArrayList;") (by decide +kernel)) (fun _ h9 => h9) rfl dX11_sort_56 ?_
  refine z_i (wr := [(hh, .inr (13, [.ref aexpr, .ref achoo, .ref ameth, .ref aroom, .ref anod, .ref asort, .ref anote, .ref amet, .int 0, .int 1])), (anod, .inr (7, [.ref nm, .ref nl, .ref n1, .ref n2, .ref nf, .ref ns, .ref nh, .ref nk, .ref np, .int 16, .int 0, .int 16, .int 0, .int 0])), (ns, .inl (kL, 1024, .inr (.inl zSec))), (nm, .inl (kI, 12, .inl (fun _ => 0))), (nl, .inl (kI, 12, .inl (fun _ => 0))), (n1, .inl (kI, 12, .inl (fun _ => 0))), (n2, .inl (kI, 12, .inl (fun _ => 0)))]) (va_runV (As := []) (rest := []) ⟨hx, hb, hml, hown, hts⟩ (c_AL_size l eD eI ad dC dI H.size asort ((.int 0)) ((.ref eD)) 0) (cwV 0 hts g_c_H_sort_1_1 rfl rfl rfl (by decide +kernel) ⟨Nat.le_of_ble_eq_true rfl, Nat.le_of_ble_eq_true rfl⟩) (z_preV (wc := [(asort, .inr (1, [.int 0, .ref eD, .int 0]))]) hP hD hK hS hA hE [1] [] rfl (by decide) rfl (ci := 1) (q0 := 0) rfl rfl) rfl rfl hl.1 rfl (lv_room (Nat.le_of_ble_eq_true rfl)) dX11_sort_59 ⟨Nat.le_of_ble_eq_true rfl, Nat.le_of_ble_eq_true rfl⟩) hP hD hK hS hA [1] [0, 2, 3, 4, 5, 6, 7] rfl rfl (by decide) (by decide) (fun r_9 u H locs hw_10 hP hD hK hS => ?_)
  obtain ⟨⟩ := u
  have hP : va_P (dC, dI) vwCl [(hh, .inr (13, [.ref aexpr, .ref achoo, .ref ameth, .ref aroom, .ref anod, .ref asort, .ref anote, .ref amet, .int 0, .int 1])), (anod, .inr (7, [.ref nm, .ref nl, .ref n1, .ref n2, .ref nf, .ref ns, .ref nh, .ref nk, .ref np, .int 16, .int 0, .int 16, .int 0, .int 0])), (ns, .inl (kL, 1024, .inr (.inl zSec))), (nm, .inl (kI, 12, .inl (fun _ => 0))), (nl, .inl (kI, 12, .inl (fun _ => 0))), (n1, .inl (kI, 12, .inl (fun _ => 0))), (n2, .inl (kI, 12, .inl (fun _ => 0))), (asort, .inr (1, [.int 0, .ref eD, .int 0]))] H := hP
  have hD : va_D A [(hh, .inr (13, [.ref aexpr, .ref achoo, .ref ameth, .ref aroom, .ref anod, .ref asort, .ref anote, .ref amet, .int 0, .int 1])), (anod, .inr (7, [.ref nm, .ref nl, .ref n1, .ref n2, .ref nf, .ref ns, .ref nh, .ref nk, .ref np, .int 16, .int 0, .int 16, .int 0, .int 0])), (ns, .inl (kL, 1024, .inr (.inl zSec))), (nm, .inl (kI, 12, .inl (fun _ => 0))), (nl, .inl (kI, 12, .inl (fun _ => 0))), (n1, .inl (kI, 12, .inl (fun _ => 0))), (n2, .inl (kI, 12, .inl (fun _ => 0))), (asort, .inr (1, [.int 0, .ref eD, .int 0]))] := hD
  have hK : va_K (dC, dI) vwCl [(kL, .long), (kI, .int)] s := by simpa using hK
  have hw_10 : r_9 = 0 := hw_10
  have hw_10 := hw_10.symm
  subst hw_10
  refine lv_bipush (v := 12) hx hb dX11_sort_62 (by decide) ?_
  refine lv_icmp_lt (tgt := 77) hx hb dX11_sort_64 (by decide) (fun c_11 => ?_) (fun c_11 => ?_)
  rotate_left
  · exact absurd (by decide) c_11
  refine va_new (ci := 11) (fs := [.int 0, .int 0, .int 0, .int 0, .int 0, .int 0, .int 0, .null, .int 0]) (C := RX9) (T := TX9) (N := 9) hx hb hts in_RX9 tyX9 tyX9_ok hown (hts (.classLink RX11 82 RX9) (by decide +kernel)) (hts (.instantiable RX9 9) (by decide +kernel)) (hts (.initialized RX9) (by decide +kernel)) hK hP hD hS hA rfl (fun j hj => by rcases (show j = 0 ∨ j = 1 ∨ j = 2 ∨ j = 3 ∨ j = 4 ∨ j = 5 ∨ j = 6 ∨ j = 7 ∨ j = 8 by omega) with rfl | rfl | rfl | rfl | rfl | rfl | rfl | rfl | rfl <;> rfl) (Nat.le_of_ble_eq_true rfl) (Nat.le_of_ble_eq_true rfl) dX11_sort_77 (fun q_12 H hP hD hS => ?_)
  have hP : va_P (dC, dI) vwCl [(hh, .inr (13, [.ref aexpr, .ref achoo, .ref ameth, .ref aroom, .ref anod, .ref asort, .ref anote, .ref amet, .int 0, .int 1])), (anod, .inr (7, [.ref nm, .ref nl, .ref n1, .ref n2, .ref nf, .ref ns, .ref nh, .ref nk, .ref np, .int 16, .int 0, .int 16, .int 0, .int 0])), (ns, .inl (kL, 1024, .inr (.inl zSec))), (nm, .inl (kI, 12, .inl (fun _ => 0))), (nl, .inl (kI, 12, .inl (fun _ => 0))), (n1, .inl (kI, 12, .inl (fun _ => 0))), (n2, .inl (kI, 12, .inl (fun _ => 0))), (asort, .inr (1, [.int 0, .ref eD, .int 0])), (q_12, .inr (11, [.int 0, .int 0, .int 0, .int 0, .int 0, .int 0, .int 0, .null, .int 0]))] H := hP
  have hD : va_D A [(hh, .inr (13, [.ref aexpr, .ref achoo, .ref ameth, .ref aroom, .ref anod, .ref asort, .ref anote, .ref amet, .int 0, .int 1])), (anod, .inr (7, [.ref nm, .ref nl, .ref n1, .ref n2, .ref nf, .ref ns, .ref nh, .ref nk, .ref np, .int 16, .int 0, .int 16, .int 0, .int 0])), (ns, .inl (kL, 1024, .inr (.inl zSec))), (nm, .inl (kI, 12, .inl (fun _ => 0))), (nl, .inl (kI, 12, .inl (fun _ => 0))), (n1, .inl (kI, 12, .inl (fun _ => 0))), (n2, .inl (kI, 12, .inl (fun _ => 0))), (asort, .inr (1, [.int 0, .ref eD, .int 0])), (q_12, .inr (11, [.int 0, .int 0, .int 0, .int 0, .int 0, .int 0, .int 0, .null, .int 0]))] := hD
  refine lv_dup hx hb dX11_sort_80 rfl ?_
  refine z_v (wr := [(hh, .inr (13, [.ref aexpr, .ref achoo, .ref ameth, .ref aroom, .ref anod, .ref asort, .ref anote, .ref amet, .int 0, .int 1])), (anod, .inr (7, [.ref nm, .ref nl, .ref n1, .ref n2, .ref nf, .ref ns, .ref nh, .ref nk, .ref np, .int 16, .int 0, .int 16, .int 0, .int 0])), (ns, .inl (kL, 1024, .inr (.inl zSec))), (nm, .inl (kI, 12, .inl (fun _ => 0))), (nl, .inl (kI, 12, .inl (fun _ => 0))), (n1, .inl (kI, 12, .inl (fun _ => 0))), (n2, .inl (kI, 12, .inl (fun _ => 0))), (asort, .inr (1, [.int 0, .ref eD, .int 0]))]) (va_runIN (As := []) (rest := [.ref q_12]) ⟨hx, hb, hml, hown, hts⟩ (c_S_new l eD eI ad dC dI H.size q_12) (⟨va_cnB 0 hts g_c_H_sort_1_2 rfl rfl rfl (hE.2.2.1 (.methodLinkNest RX11 84 yX9_init "Hornbook") (by decide +kernel)) (hts (.initialized RX9) (by decide +kernel)) (by decide +kernel) ⟨Nat.le_of_ble_eq_true rfl, Nat.le_of_ble_eq_true rfl⟩, rfl, (hts (.instanceMethod yX9_init) (by decide +kernel))⟩) (z_preS (wc := [(q_12, .inr (11, [.int 0, .int 0, .int 0, .int 0, .int 0, .int 0, .int 0, .null, .int 0]))]) hP hD hK hS hA hE [8] [] rfl (by decide) rfl) rfl rfl hl.1 rfl (lv_room (Nat.le_of_ble_eq_true rfl)) dX11_sort_81 ⟨Nat.le_of_ble_eq_true rfl, Nat.le_of_ble_eq_true rfl⟩) hP hD hK hS hA [8] [0, 1, 2, 3, 4, 5, 6, 7] rfl rfl (by decide) (by decide) (fun u H locs hw_16 hP hD hK hS => ?_)
  obtain ⟨u_13, u_14⟩ := u
  have hP : va_P (dC, dI) vwCl [(hh, .inr (13, [.ref aexpr, .ref achoo, .ref ameth, .ref aroom, .ref anod, .ref asort, .ref anote, .ref amet, .int 0, .int 1])), (anod, .inr (7, [.ref nm, .ref nl, .ref n1, .ref n2, .ref nf, .ref ns, .ref nh, .ref nk, .ref np, .int 16, .int 0, .int 16, .int 0, .int 0])), (ns, .inl (kL, 1024, .inr (.inl zSec))), (nm, .inl (kI, 12, .inl (fun _ => 0))), (nl, .inl (kI, 12, .inl (fun _ => 0))), (n1, .inl (kI, 12, .inl (fun _ => 0))), (n2, .inl (kI, 12, .inl (fun _ => 0))), (asort, .inr (1, [.int 0, .ref eD, .int 0])), (q_12, .inr (11, [.int 0, .int 0, .int 0, .int 0, .int (-1), .int (-1), .int 0, .ref u_13, .int 0])), (u_13, .inl (u_14, 12, .inl (fun _ => 0)))] H := hP
  have hD : va_D A [(hh, .inr (13, [.ref aexpr, .ref achoo, .ref ameth, .ref aroom, .ref anod, .ref asort, .ref anote, .ref amet, .int 0, .int 1])), (anod, .inr (7, [.ref nm, .ref nl, .ref n1, .ref n2, .ref nf, .ref ns, .ref nh, .ref nk, .ref np, .int 16, .int 0, .int 16, .int 0, .int 0])), (ns, .inl (kL, 1024, .inr (.inl zSec))), (nm, .inl (kI, 12, .inl (fun _ => 0))), (nl, .inl (kI, 12, .inl (fun _ => 0))), (n1, .inl (kI, 12, .inl (fun _ => 0))), (n2, .inl (kI, 12, .inl (fun _ => 0))), (asort, .inr (1, [.int 0, .ref eD, .int 0])), (q_12, .inr (11, [.int 0, .int 0, .int 0, .int 0, .int (-1), .int (-1), .int 0, .ref u_13, .int 0])), (u_13, .inl (u_14, 12, .inl (fun _ => 0)))] := hD
  have hK : va_K (dC, dI) vwCl [(kL, .long), (kI, .int), (u_14, .int)] s := hK
  refine lv_astore (lv' := [(5, .ref q_12), (4, .int 1), (0, .ref hh), (1, .int 1), (2, .int x2), (3, .int x3)]) hx hb dX11_sort_84 hl (by decide) rfl (fun ls hl => ?_)
  refine lv_aload hx hb dX11_sort_86 (lv_at hl 0 rfl) ?_
  refine lv_aload_n hx hb dX11_sort_88 rfl (lv_at hl 2 rfl) ?_
  refine va_get (D := (dC, dI)) (ci := 13) (v := .ref asort) (C := RX11) (T := TX11) (N := 10) hx hb hts in_RX11 hown hK hP 0 rfl rfl 5 (by decide) (hts (.fieldLink RX11 42 "Hornbook" "sorts" "Ljava/util/ArrayList;") (by decide +kernel)) (fun _ h9 => h9) rfl dX11_sort_89 ?_
  refine z_i (wr := [(hh, .inr (13, [.ref aexpr, .ref achoo, .ref ameth, .ref aroom, .ref anod, .ref asort, .ref anote, .ref amet, .int 0, .int 1])), (anod, .inr (7, [.ref nm, .ref nl, .ref n1, .ref n2, .ref nf, .ref ns, .ref nh, .ref nk, .ref np, .int 16, .int 0, .int 16, .int 0, .int 0])), (ns, .inl (kL, 1024, .inr (.inl zSec))), (nm, .inl (kI, 12, .inl (fun _ => 0))), (nl, .inl (kI, 12, .inl (fun _ => 0))), (n1, .inl (kI, 12, .inl (fun _ => 0))), (n2, .inl (kI, 12, .inl (fun _ => 0))), (q_12, .inr (11, [.int 0, .int 0, .int 0, .int 0, .int (-1), .int (-1), .int 0, .ref u_13, .int 0])), (u_13, .inl (u_14, 12, .inl (fun _ => 0)))]) (va_runV (As := []) (rest := [.ref q_12]) ⟨hx, hb, hml, hown, hts⟩ (c_AL_size l eD eI ad dC dI H.size asort ((.int 0)) ((.ref eD)) 0) (cwV 0 hts g_c_H_sort_1_1 rfl rfl rfl (by decide +kernel) ⟨Nat.le_of_ble_eq_true rfl, Nat.le_of_ble_eq_true rfl⟩) (z_preV (wc := [(asort, .inr (1, [.int 0, .ref eD, .int 0]))]) hP hD hK hS hA hE [7] [] rfl (by decide) rfl (ci := 1) (q0 := 0) rfl rfl) rfl rfl hl.1 rfl (lv_room (Nat.le_of_ble_eq_true rfl)) dX11_sort_92 ⟨Nat.le_of_ble_eq_true rfl, Nat.le_of_ble_eq_true rfl⟩) hP hD hK hS hA [7] [0, 1, 2, 3, 4, 5, 6, 8, 9] rfl rfl (by decide) (by decide) (fun r_17 u H locs hw_18 hP hD hK hS => ?_)
  obtain ⟨⟩ := u
  have hP : va_P (dC, dI) vwCl [(hh, .inr (13, [.ref aexpr, .ref achoo, .ref ameth, .ref aroom, .ref anod, .ref asort, .ref anote, .ref amet, .int 0, .int 1])), (anod, .inr (7, [.ref nm, .ref nl, .ref n1, .ref n2, .ref nf, .ref ns, .ref nh, .ref nk, .ref np, .int 16, .int 0, .int 16, .int 0, .int 0])), (ns, .inl (kL, 1024, .inr (.inl zSec))), (nm, .inl (kI, 12, .inl (fun _ => 0))), (nl, .inl (kI, 12, .inl (fun _ => 0))), (n1, .inl (kI, 12, .inl (fun _ => 0))), (n2, .inl (kI, 12, .inl (fun _ => 0))), (q_12, .inr (11, [.int 0, .int 0, .int 0, .int 0, .int (-1), .int (-1), .int 0, .ref u_13, .int 0])), (u_13, .inl (u_14, 12, .inl (fun _ => 0))), (asort, .inr (1, [.int 0, .ref eD, .int 0]))] H := hP
  have hD : va_D A [(hh, .inr (13, [.ref aexpr, .ref achoo, .ref ameth, .ref aroom, .ref anod, .ref asort, .ref anote, .ref amet, .int 0, .int 1])), (anod, .inr (7, [.ref nm, .ref nl, .ref n1, .ref n2, .ref nf, .ref ns, .ref nh, .ref nk, .ref np, .int 16, .int 0, .int 16, .int 0, .int 0])), (ns, .inl (kL, 1024, .inr (.inl zSec))), (nm, .inl (kI, 12, .inl (fun _ => 0))), (nl, .inl (kI, 12, .inl (fun _ => 0))), (n1, .inl (kI, 12, .inl (fun _ => 0))), (n2, .inl (kI, 12, .inl (fun _ => 0))), (q_12, .inr (11, [.int 0, .int 0, .int 0, .int 0, .int (-1), .int (-1), .int 0, .ref u_13, .int 0])), (u_13, .inl (u_14, 12, .inl (fun _ => 0))), (asort, .inr (1, [.int 0, .ref eD, .int 0]))] := hD
  have hK : va_K (dC, dI) vwCl [(kL, .long), (kI, .int), (u_14, .int)] s := by simpa using hK
  have hw_18 : r_17 = 0 := hw_18
  have hw_18 := hw_18.symm
  subst hw_18
  refine va_put (D := (dC, dI)) (ci := 11) (v := .int 0) (ty := .int) (C := RX9) (T := TX9) (N := 9) hx hb hts in_RX9 tyX9 tyX9_ok nmX9 hown hK hP hD hS 7 rfl rfl 0 (by decide) (hts (.fieldLink RX11 85 "Hornbook$Sort" "number" "I") (by decide +kernel)) (fun _ h9 => h9) rfl (by decide +kernel) rfl rfl (Nat.le_of_ble_eq_true rfl) dX11_sort_95 (fun H locs hP hD hS => ?_)
  have hP : va_P (dC, dI) vwCl [(hh, .inr (13, [.ref aexpr, .ref achoo, .ref ameth, .ref aroom, .ref anod, .ref asort, .ref anote, .ref amet, .int 0, .int 1])), (anod, .inr (7, [.ref nm, .ref nl, .ref n1, .ref n2, .ref nf, .ref ns, .ref nh, .ref nk, .ref np, .int 16, .int 0, .int 16, .int 0, .int 0])), (ns, .inl (kL, 1024, .inr (.inl zSec))), (nm, .inl (kI, 12, .inl (fun _ => 0))), (nl, .inl (kI, 12, .inl (fun _ => 0))), (n1, .inl (kI, 12, .inl (fun _ => 0))), (n2, .inl (kI, 12, .inl (fun _ => 0))), (q_12, .inr (11, [.int 0, .int 0, .int 0, .int 0, .int (-1), .int (-1), .int 0, .ref u_13, .int 0])), (u_13, .inl (u_14, 12, .inl (fun _ => 0))), (asort, .inr (1, [.int 0, .ref eD, .int 0]))] H := hP
  have hD : va_D A [(hh, .inr (13, [.ref aexpr, .ref achoo, .ref ameth, .ref aroom, .ref anod, .ref asort, .ref anote, .ref amet, .int 0, .int 1])), (anod, .inr (7, [.ref nm, .ref nl, .ref n1, .ref n2, .ref nf, .ref ns, .ref nh, .ref nk, .ref np, .int 16, .int 0, .int 16, .int 0, .int 0])), (ns, .inl (kL, 1024, .inr (.inl zSec))), (nm, .inl (kI, 12, .inl (fun _ => 0))), (nl, .inl (kI, 12, .inl (fun _ => 0))), (n1, .inl (kI, 12, .inl (fun _ => 0))), (n2, .inl (kI, 12, .inl (fun _ => 0))), (q_12, .inr (11, [.int 0, .int 0, .int 0, .int 0, .int (-1), .int (-1), .int 0, .ref u_13, .int 0])), (u_13, .inl (u_14, 12, .inl (fun _ => 0))), (asort, .inr (1, [.int 0, .ref eD, .int 0]))] := hD
  refine lv_aload hx hb dX11_sort_98 (lv_at hl 0 rfl) ?_
  refine lv_iload_n hx hb dX11_sort_100 rfl (lv_at hl 3 rfl) ?_
  refine va_put (D := (dC, dI)) (ci := 11) (v := .int 1) (ty := .int) (C := RX9) (T := TX9) (N := 9) hx hb hts in_RX9 tyX9 tyX9_ok nmX9 hown hK hP hD hS 7 rfl rfl 1 (by decide) (hts (.fieldLink RX11 88 "Hornbook$Sort" "many" "I") (by decide +kernel)) (fun _ h9 => h9) rfl (by decide +kernel) rfl rfl (Nat.le_of_ble_eq_true rfl) dX11_sort_101 (fun H locs hP hD hS => ?_)
  have hP : va_P (dC, dI) vwCl [(hh, .inr (13, [.ref aexpr, .ref achoo, .ref ameth, .ref aroom, .ref anod, .ref asort, .ref anote, .ref amet, .int 0, .int 1])), (anod, .inr (7, [.ref nm, .ref nl, .ref n1, .ref n2, .ref nf, .ref ns, .ref nh, .ref nk, .ref np, .int 16, .int 0, .int 16, .int 0, .int 0])), (ns, .inl (kL, 1024, .inr (.inl zSec))), (nm, .inl (kI, 12, .inl (fun _ => 0))), (nl, .inl (kI, 12, .inl (fun _ => 0))), (n1, .inl (kI, 12, .inl (fun _ => 0))), (n2, .inl (kI, 12, .inl (fun _ => 0))), (q_12, .inr (11, [.int 0, .int 1, .int 0, .int 0, .int (-1), .int (-1), .int 0, .ref u_13, .int 0])), (u_13, .inl (u_14, 12, .inl (fun _ => 0))), (asort, .inr (1, [.int 0, .ref eD, .int 0]))] H := hP
  have hD : va_D A [(hh, .inr (13, [.ref aexpr, .ref achoo, .ref ameth, .ref aroom, .ref anod, .ref asort, .ref anote, .ref amet, .int 0, .int 1])), (anod, .inr (7, [.ref nm, .ref nl, .ref n1, .ref n2, .ref nf, .ref ns, .ref nh, .ref nk, .ref np, .int 16, .int 0, .int 16, .int 0, .int 0])), (ns, .inl (kL, 1024, .inr (.inl zSec))), (nm, .inl (kI, 12, .inl (fun _ => 0))), (nl, .inl (kI, 12, .inl (fun _ => 0))), (n1, .inl (kI, 12, .inl (fun _ => 0))), (n2, .inl (kI, 12, .inl (fun _ => 0))), (q_12, .inr (11, [.int 0, .int 1, .int 0, .int 0, .int (-1), .int (-1), .int 0, .ref u_13, .int 0])), (u_13, .inl (u_14, 12, .inl (fun _ => 0))), (asort, .inr (1, [.int 0, .ref eD, .int 0]))] := hD
  refine lv_aload hx hb dX11_sort_104 (lv_at hl 0 rfl) ?_
  refine lv_iload_n hx hb dX11_sort_106 rfl (lv_at hl 3 rfl) ?_
  refine lv_iconst (v := 1) hx hb dX11_sort_107 (by decide) ?_
  refine lv_icmp_ge (tgt := 115) hx hb dX11_sort_108 (by decide) (fun c_19 => ?_) (fun c_19 => ?_)
  rotate_left
  · exact absurd (by decide) c_19
  refine lv_iload_n hx hb dX11_sort_115 rfl (lv_at hl 4 rfl) ?_
  refine va_put (D := (dC, dI)) (ci := 11) (v := .int x2) (ty := .int) (C := RX9) (T := TX9) (N := 9) hx hb hts in_RX9 tyX9 tyX9_ok nmX9 hown hK hP hD hS 7 rfl rfl 2 (by decide) (hts (.fieldLink RX11 91 "Hornbook$Sort" "howOne" "I") (by decide +kernel)) (fun _ h9 => h9) rfl (by decide +kernel) rfl rfl (Nat.le_of_ble_eq_true rfl) dX11_sort_116 (fun H locs hP hD hS => ?_)
  have hP : va_P (dC, dI) vwCl [(hh, .inr (13, [.ref aexpr, .ref achoo, .ref ameth, .ref aroom, .ref anod, .ref asort, .ref anote, .ref amet, .int 0, .int 1])), (anod, .inr (7, [.ref nm, .ref nl, .ref n1, .ref n2, .ref nf, .ref ns, .ref nh, .ref nk, .ref np, .int 16, .int 0, .int 16, .int 0, .int 0])), (ns, .inl (kL, 1024, .inr (.inl zSec))), (nm, .inl (kI, 12, .inl (fun _ => 0))), (nl, .inl (kI, 12, .inl (fun _ => 0))), (n1, .inl (kI, 12, .inl (fun _ => 0))), (n2, .inl (kI, 12, .inl (fun _ => 0))), (q_12, .inr (11, [.int 0, .int 1, .int x2, .int 0, .int (-1), .int (-1), .int 0, .ref u_13, .int 0])), (u_13, .inl (u_14, 12, .inl (fun _ => 0))), (asort, .inr (1, [.int 0, .ref eD, .int 0]))] H := hP
  have hD : va_D A [(hh, .inr (13, [.ref aexpr, .ref achoo, .ref ameth, .ref aroom, .ref anod, .ref asort, .ref anote, .ref amet, .int 0, .int 1])), (anod, .inr (7, [.ref nm, .ref nl, .ref n1, .ref n2, .ref nf, .ref ns, .ref nh, .ref nk, .ref np, .int 16, .int 0, .int 16, .int 0, .int 0])), (ns, .inl (kL, 1024, .inr (.inl zSec))), (nm, .inl (kI, 12, .inl (fun _ => 0))), (nl, .inl (kI, 12, .inl (fun _ => 0))), (n1, .inl (kI, 12, .inl (fun _ => 0))), (n2, .inl (kI, 12, .inl (fun _ => 0))), (q_12, .inr (11, [.int 0, .int 1, .int x2, .int 0, .int (-1), .int (-1), .int 0, .ref u_13, .int 0])), (u_13, .inl (u_14, 12, .inl (fun _ => 0))), (asort, .inr (1, [.int 0, .ref eD, .int 0]))] := hD
  refine lv_aload hx hb dX11_sort_119 (lv_at hl 0 rfl) ?_
  refine lv_iload_n hx hb dX11_sort_121 rfl (lv_at hl 3 rfl) ?_
  refine lv_iconst (v := 2) hx hb dX11_sort_122 (by decide) ?_
  refine lv_icmp_ge (tgt := 130) hx hb dX11_sort_123 (by decide) (fun c_20 => ?_) (fun c_20 => ?_)
  · exact absurd c_20 (by decide)
  refine lv_iconst (v := 0) hx hb dX11_sort_126 (by decide) ?_
  refine lv_goto (tgt := 131) hx hb dX11_sort_127 (by decide) ?_
  refine va_put (D := (dC, dI)) (ci := 11) (v := .int 0) (ty := .int) (C := RX9) (T := TX9) (N := 9) hx hb hts in_RX9 tyX9 tyX9_ok nmX9 hown hK hP hD hS 7 rfl rfl 3 (by decide) (hts (.fieldLink RX11 94 "Hornbook$Sort" "howOther" "I") (by decide +kernel)) (fun _ h9 => h9) rfl (by decide +kernel) rfl rfl (Nat.le_of_ble_eq_true rfl) dX11_sort_131 (fun H locs hP hD hS => ?_)
  have hP : va_P (dC, dI) vwCl [(hh, .inr (13, [.ref aexpr, .ref achoo, .ref ameth, .ref aroom, .ref anod, .ref asort, .ref anote, .ref amet, .int 0, .int 1])), (anod, .inr (7, [.ref nm, .ref nl, .ref n1, .ref n2, .ref nf, .ref ns, .ref nh, .ref nk, .ref np, .int 16, .int 0, .int 16, .int 0, .int 0])), (ns, .inl (kL, 1024, .inr (.inl zSec))), (nm, .inl (kI, 12, .inl (fun _ => 0))), (nl, .inl (kI, 12, .inl (fun _ => 0))), (n1, .inl (kI, 12, .inl (fun _ => 0))), (n2, .inl (kI, 12, .inl (fun _ => 0))), (q_12, .inr (11, [.int 0, .int 1, .int x2, .int 0, .int (-1), .int (-1), .int 0, .ref u_13, .int 0])), (u_13, .inl (u_14, 12, .inl (fun _ => 0))), (asort, .inr (1, [.int 0, .ref eD, .int 0]))] H := hP
  have hD : va_D A [(hh, .inr (13, [.ref aexpr, .ref achoo, .ref ameth, .ref aroom, .ref anod, .ref asort, .ref anote, .ref amet, .int 0, .int 1])), (anod, .inr (7, [.ref nm, .ref nl, .ref n1, .ref n2, .ref nf, .ref ns, .ref nh, .ref nk, .ref np, .int 16, .int 0, .int 16, .int 0, .int 0])), (ns, .inl (kL, 1024, .inr (.inl zSec))), (nm, .inl (kI, 12, .inl (fun _ => 0))), (nl, .inl (kI, 12, .inl (fun _ => 0))), (n1, .inl (kI, 12, .inl (fun _ => 0))), (n2, .inl (kI, 12, .inl (fun _ => 0))), (q_12, .inr (11, [.int 0, .int 1, .int x2, .int 0, .int (-1), .int (-1), .int 0, .ref u_13, .int 0])), (u_13, .inl (u_14, 12, .inl (fun _ => 0))), (asort, .inr (1, [.int 0, .ref eD, .int 0]))] := hD
  refine lv_aload hx hb dX11_sort_134 (lv_at hl 0 rfl) ?_
  refine z_v (wr := [(hh, .inr (13, [.ref aexpr, .ref achoo, .ref ameth, .ref aroom, .ref anod, .ref asort, .ref anote, .ref amet, .int 0, .int 1])), (anod, .inr (7, [.ref nm, .ref nl, .ref n1, .ref n2, .ref nf, .ref ns, .ref nh, .ref nk, .ref np, .int 16, .int 0, .int 16, .int 0, .int 0])), (ns, .inl (kL, 1024, .inr (.inl zSec))), (nm, .inl (kI, 12, .inl (fun _ => 0))), (nl, .inl (kI, 12, .inl (fun _ => 0))), (n1, .inl (kI, 12, .inl (fun _ => 0))), (n2, .inl (kI, 12, .inl (fun _ => 0))), (asort, .inr (1, [.int 0, .ref eD, .int 0]))]) (va_runV (As := []) (rest := []) ⟨hx, hb, hml, hown, hts⟩ (c_S_startWay l eD eI ad dC dI H.size q_12 u_13 u_14 1 x2 0) (cwV 0 hts g_c_H_sort_1_3 rfl rfl rfl (by decide +kernel) ⟨Nat.le_of_ble_eq_true rfl, Nat.le_of_ble_eq_true rfl⟩) (z_preV (wc := [(q_12, .inr (11, [.int 0, .int 1, .int x2, .int 0, .int (-1), .int (-1), .int 0, .ref u_13, .int 0])), (u_13, .inl (u_14, 12, .inl (fun _ => 0)))]) hP hD hK hS hA hE [7, 8] [2] rfl (by decide) rfl (ci := 11) (q0 := 0) rfl rfl) rfl rfl hl.1 rfl (lv_room (Nat.le_of_ble_eq_true rfl)) dX11_sort_136 ⟨Nat.le_of_ble_eq_true rfl, Nat.le_of_ble_eq_true rfl⟩) hP hD hK hS hA [7, 8] [0, 1, 2, 3, 4, 5, 6, 9] rfl rfl (by decide) (by decide) (fun u H locs hw_22 hP hD hK hS => ?_)
  obtain ⟨⟩ := u
  have hP : va_P (dC, dI) vwCl [(hh, .inr (13, [.ref aexpr, .ref achoo, .ref ameth, .ref aroom, .ref anod, .ref asort, .ref anote, .ref amet, .int 0, .int 1])), (anod, .inr (7, [.ref nm, .ref nl, .ref n1, .ref n2, .ref nf, .ref ns, .ref nh, .ref nk, .ref np, .int 16, .int 0, .int 16, .int 0, .int 0])), (ns, .inl (kL, 1024, .inr (.inl zSec))), (nm, .inl (kI, 12, .inl (fun _ => 0))), (nl, .inl (kI, 12, .inl (fun _ => 0))), (n1, .inl (kI, 12, .inl (fun _ => 0))), (n2, .inl (kI, 12, .inl (fun _ => 0))), (asort, .inr (1, [.int 0, .ref eD, .int 0])), (q_12, .inr (11, [.int 0, .int 1, .int x2, .int 0, .int (-1), .int (-1), .int 1, .ref u_13, .int 1]))] H := hP
  have hD : va_D A [(hh, .inr (13, [.ref aexpr, .ref achoo, .ref ameth, .ref aroom, .ref anod, .ref asort, .ref anote, .ref amet, .int 0, .int 1])), (anod, .inr (7, [.ref nm, .ref nl, .ref n1, .ref n2, .ref nf, .ref ns, .ref nh, .ref nk, .ref np, .int 16, .int 0, .int 16, .int 0, .int 0])), (ns, .inl (kL, 1024, .inr (.inl zSec))), (nm, .inl (kI, 12, .inl (fun _ => 0))), (nl, .inl (kI, 12, .inl (fun _ => 0))), (n1, .inl (kI, 12, .inl (fun _ => 0))), (n2, .inl (kI, 12, .inl (fun _ => 0))), (asort, .inr (1, [.int 0, .ref eD, .int 0])), (q_12, .inr (11, [.int 0, .int 1, .int x2, .int 0, .int (-1), .int (-1), .int 1, .ref u_13, .int 1]))] := hD
  have hK : va_K (dC, dI) vwCl [(kL, .long), (kI, .int), (u_14, .int)] s := by simpa using hK
  refine lv_aload_n hx hb dX11_sort_139 rfl (lv_at hl 2 rfl) ?_
  refine va_get (D := (dC, dI)) (ci := 13) (v := .ref anod) (C := RX11) (T := TX11) (N := 10) hx hb hts in_RX11 hown hK hP 0 rfl rfl 4 (by decide) (hts (.fieldLink RX11 38 "Hornbook" "nodes" "LHornbook$Nodes;") (by decide +kernel)) (fun _ h9 => h9) rfl dX11_sort_140 ?_
  refine va_get (D := (dC, dI)) (ci := 7) (v := .ref nm) (C := RX5) (T := TX5) (N := 14) hx hb hts in_RX5 hown hK hP 1 rfl rfl 0 (by decide) (hts (.fieldLink RX11 100 "Hornbook$Nodes" "many" "[I") (by decide +kernel)) (fun _ h9 => h9) rfl dX11_sort_143 ?_
  refine lv_aload hx hb dX11_sort_146 (lv_at hl 0 rfl) ?_
  refine va_get (D := (dC, dI)) (ci := 11) (v := .int 0) (C := RX9) (T := TX9) (N := 9) hx hb hts in_RX9 hown hK hP 8 rfl rfl 0 (by decide) (hts (.fieldLink RX11 85 "Hornbook$Sort" "number" "I") (by decide +kernel)) (fun _ h9 => h9) rfl dX11_sort_148 ?_
  refine lv_iload_n hx hb dX11_sort_151 rfl (lv_at hl 3 rfl) ?_
  refine va_iast (D := (dC, dI)) hx hb hK hP hD hS 3 1 rfl rfl (by unfold vp_in; decide) dX11_sort_152 (fun H locs hP hD hS => ?_)
  have hP : va_P (dC, dI) vwCl [(hh, .inr (13, [.ref aexpr, .ref achoo, .ref ameth, .ref aroom, .ref anod, .ref asort, .ref anote, .ref amet, .int 0, .int 1])), (anod, .inr (7, [.ref nm, .ref nl, .ref n1, .ref n2, .ref nf, .ref ns, .ref nh, .ref nk, .ref np, .int 16, .int 0, .int 16, .int 0, .int 0])), (ns, .inl (kL, 1024, .inr (.inl zSec))), (nm, .inl (kI, 12, .inl (upd (fun _ => 0) (0 : Int32).toNatClampNeg 1))), (nl, .inl (kI, 12, .inl (fun _ => 0))), (n1, .inl (kI, 12, .inl (fun _ => 0))), (n2, .inl (kI, 12, .inl (fun _ => 0))), (asort, .inr (1, [.int 0, .ref eD, .int 0])), (q_12, .inr (11, [.int 0, .int 1, .int x2, .int 0, .int (-1), .int (-1), .int 1, .ref u_13, .int 1]))] H := hP
  have hD : va_D A [(hh, .inr (13, [.ref aexpr, .ref achoo, .ref ameth, .ref aroom, .ref anod, .ref asort, .ref anote, .ref amet, .int 0, .int 1])), (anod, .inr (7, [.ref nm, .ref nl, .ref n1, .ref n2, .ref nf, .ref ns, .ref nh, .ref nk, .ref np, .int 16, .int 0, .int 16, .int 0, .int 0])), (ns, .inl (kL, 1024, .inr (.inl zSec))), (nm, .inl (kI, 12, .inl (upd (fun _ => 0) (0 : Int32).toNatClampNeg 1))), (nl, .inl (kI, 12, .inl (fun _ => 0))), (n1, .inl (kI, 12, .inl (fun _ => 0))), (n2, .inl (kI, 12, .inl (fun _ => 0))), (asort, .inr (1, [.int 0, .ref eD, .int 0])), (q_12, .inr (11, [.int 0, .int 1, .int x2, .int 0, .int (-1), .int (-1), .int 1, .ref u_13, .int 1]))] := hD
  refine lv_aload_n hx hb dX11_sort_153 rfl (lv_at hl 2 rfl) ?_
  refine va_get (D := (dC, dI)) (ci := 13) (v := .ref anod) (C := RX11) (T := TX11) (N := 10) hx hb hts in_RX11 hown hK hP 0 rfl rfl 4 (by decide) (hts (.fieldLink RX11 38 "Hornbook" "nodes" "LHornbook$Nodes;") (by decide +kernel)) (fun _ h9 => h9) rfl dX11_sort_154 ?_
  refine lv_aload hx hb dX11_sort_157 (lv_at hl 0 rfl) ?_
  refine va_get (D := (dC, dI)) (ci := 11) (v := .int 0) (C := RX9) (T := TX9) (N := 9) hx hb hts in_RX9 hown hK hP 8 rfl rfl 0 (by decide) (hts (.fieldLink RX11 85 "Hornbook$Sort" "number" "I") (by decide +kernel)) (fun _ h9 => h9) rfl dX11_sort_159 ?_
  refine lv_iconst (v := (-1)) hx hb dX11_sort_162 (by decide) ?_
  refine lv_iconst (v := (-1)) hx hb dX11_sort_163 (by decide) ?_
  refine z_v (wr := [(hh, .inr (13, [.ref aexpr, .ref achoo, .ref ameth, .ref aroom, .ref anod, .ref asort, .ref anote, .ref amet, .int 0, .int 1])), (asort, .inr (1, [.int 0, .ref eD, .int 0])), (q_12, .inr (11, [.int 0, .int 1, .int x2, .int 0, .int (-1), .int (-1), .int 1, .ref u_13, .int 1]))]) (va_runV (As := [.int 0, .int (-1), .int (-1)]) (rest := []) ⟨hx, hb, hml, hown, hts⟩ (c_N_lift_1 l eD eI ad dC dI H.size anod nm nl n1 n2 nf ns nh nk np kI kL) (cwV 3 hts g_c_H_sort_1_4 rfl rfl rfl (by decide +kernel) ⟨Nat.le_of_ble_eq_true rfl, Nat.le_of_ble_eq_true rfl⟩) (z_preV (wc := [(anod, .inr (7, [.ref nm, .ref nl, .ref n1, .ref n2, .ref nf, .ref ns, .ref nh, .ref nk, .ref np, .int 16, .int 0, .int 16, .int 0, .int 0])), (nm, .inl (kI, 12, .inl (upd (fun _ => 0) (0 : Int32).toNatClampNeg 1))), (nl, .inl (kI, 12, .inl (fun _ => 0))), (n1, .inl (kI, 12, .inl (fun _ => 0))), (n2, .inl (kI, 12, .inl (fun _ => 0))), (ns, .inl (kL, 1024, .inr (.inl zSec)))]) hP hD hK hS hA hE [1, 3, 4, 5, 6, 2] [1, 0] rfl (by decide) rfl (ci := 7) (q0 := 0) rfl rfl) rfl rfl hl.1 rfl (lv_room (Nat.le_of_ble_eq_true rfl)) dX11_sort_164 ⟨Nat.le_of_ble_eq_true rfl, Nat.le_of_ble_eq_true rfl⟩) hP hD hK hS hA [1, 3, 4, 5, 6, 2] [0, 7, 8] rfl rfl (by decide) (by decide) (fun u H locs hw_24 hP hD hK hS => ?_)
  obtain ⟨⟩ := u
  have hP : va_P (dC, dI) vwCl [(hh, .inr (13, [.ref aexpr, .ref achoo, .ref ameth, .ref aroom, .ref anod, .ref asort, .ref anote, .ref amet, .int 0, .int 1])), (asort, .inr (1, [.int 0, .ref eD, .int 0])), (q_12, .inr (11, [.int 0, .int 1, .int x2, .int 0, .int (-1), .int (-1), .int 1, .ref u_13, .int 1])), (anod, .inr (7, [.ref nm, .ref nl, .ref n1, .ref n2, .ref nf, .ref ns, .ref nh, .ref nk, .ref np, .int 16, .int 0, .int 16, .int 0, .int 0]))] H := hP
  have hD : va_D A [(hh, .inr (13, [.ref aexpr, .ref achoo, .ref ameth, .ref aroom, .ref anod, .ref asort, .ref anote, .ref amet, .int 0, .int 1])), (asort, .inr (1, [.int 0, .ref eD, .int 0])), (q_12, .inr (11, [.int 0, .int 1, .int x2, .int 0, .int (-1), .int (-1), .int 1, .ref u_13, .int 1])), (anod, .inr (7, [.ref nm, .ref nl, .ref n1, .ref n2, .ref nf, .ref ns, .ref nh, .ref nk, .ref np, .int 16, .int 0, .int 16, .int 0, .int 0]))] := hD
  have hK : va_K (dC, dI) vwCl [(kL, .long), (kI, .int), (u_14, .int)] s := by simpa using hK
  refine lv_aload_n hx hb dX11_sort_167 rfl (lv_at hl 2 rfl) ?_
  refine va_get (D := (dC, dI)) (ci := 13) (v := .ref asort) (C := RX11) (T := TX11) (N := 10) hx hb hts in_RX11 hown hK hP 0 rfl rfl 5 (by decide) (hts (.fieldLink RX11 42 "Hornbook" "sorts" "Ljava/util/ArrayList;") (by decide +kernel)) (fun _ h9 => h9) rfl dX11_sort_168 ?_
  refine lv_aload hx hb dX11_sort_171 (lv_at hl 0 rfl) ?_
  refine z_i (wr := [(hh, .inr (13, [.ref aexpr, .ref achoo, .ref ameth, .ref aroom, .ref anod, .ref asort, .ref anote, .ref amet, .int 0, .int 1])), (anod, .inr (7, [.ref nm, .ref nl, .ref n1, .ref n2, .ref nf, .ref ns, .ref nh, .ref nk, .ref np, .int 16, .int 0, .int 16, .int 0, .int 0]))]) (va_runV (As := [.ref q_12]) (rest := []) ⟨hx, hb, hml, hown, hts⟩ (c_AL_add0 l eD eI ad dC dI H.size asort 0 q_12 11 ((RX9, TX9, 9)) ([.int 0, .int 1, .int x2, .int 0, .int (-1), .int (-1), .int 1, .ref u_13, .int 1]) (rfl) (by decide +kernel)) (cwV 1 hts g_c_H_sort_1_5 rfl rfl rfl (by decide +kernel) ⟨Nat.le_of_ble_eq_true rfl, Nat.le_of_ble_eq_true rfl⟩) (z_preV (wc := [(asort, .inr (1, [.int 0, .ref eD, .int 0])), (q_12, .inr (11, [.int 0, .int 1, .int x2, .int 0, .int (-1), .int (-1), .int 1, .ref u_13, .int 1]))]) hP hD hK hS hA hE [1, 2] [] rfl (by decide) rfl (ci := 1) (q0 := 0) rfl rfl) rfl rfl hl.1 rfl (lv_room (Nat.le_of_ble_eq_true rfl)) dX11_sort_173 ⟨Nat.le_of_ble_eq_true rfl, Nat.le_of_ble_eq_true rfl⟩) hP hD hK hS hA [1, 2] [0, 3] rfl rfl (by decide) (by decide) (fun r_28 u H locs hw_29 hP hD hK hS => ?_)
  obtain ⟨u_25, u_26, u_27⟩ := u
  have hP : va_P (dC, dI) vwCl [(hh, .inr (13, [.ref aexpr, .ref achoo, .ref ameth, .ref aroom, .ref anod, .ref asort, .ref anote, .ref amet, .int 0, .int 1])), (anod, .inr (7, [.ref nm, .ref nl, .ref n1, .ref n2, .ref nf, .ref ns, .ref nh, .ref nk, .ref np, .int 16, .int 0, .int 16, .int 0, .int 0])), (asort, .inr (1, [.int u_27, .ref u_25, .int 1])), (q_12, .inr (11, [.int 0, .int 1, .int x2, .int 0, .int (-1), .int (-1), .int 1, .ref u_13, .int 1])), (u_25, .inl (u_26, 10, .inr (.inr (.inr (.inr (va_up (fun _ => none) (0 : Int32).toNatClampNeg (some q_12)))))))] H := hP
  have hD : va_D A [(hh, .inr (13, [.ref aexpr, .ref achoo, .ref ameth, .ref aroom, .ref anod, .ref asort, .ref anote, .ref amet, .int 0, .int 1])), (anod, .inr (7, [.ref nm, .ref nl, .ref n1, .ref n2, .ref nf, .ref ns, .ref nh, .ref nk, .ref np, .int 16, .int 0, .int 16, .int 0, .int 0])), (asort, .inr (1, [.int u_27, .ref u_25, .int 1])), (q_12, .inr (11, [.int 0, .int 1, .int x2, .int 0, .int (-1), .int (-1), .int 1, .ref u_13, .int 1])), (u_25, .inl (u_26, 10, .inr (.inr (.inr (.inr (va_up (fun _ => none) (0 : Int32).toNatClampNeg (some q_12)))))))] := hD
  have hK : va_K (dC, dI) vwCl [(kL, .long), (kI, .int), (u_14, .int), (u_26, .object "java/lang/Object")] s := hK
  have hw_29 : r_28 = 1 := hw_29
  have hw_29 := hw_29.symm
  subst hw_29
  refine lv_pop hx hb dX11_sort_176 rfl ?_
  refine lv_aload_n hx hb dX11_sort_177 rfl (lv_at hl 2 rfl) ?_
  refine lv_iconst (v := 0) hx hb dX11_sort_178 (by decide) ?_
  refine va_put (D := (dC, dI)) (ci := 13) (v := .int 0) (ty := .boolean) (C := RX11) (T := TX11) (N := 10) hx hb hts in_RX11 tyX11 tyX11_ok nmX11 hown hK hP hD hS 0 rfl rfl 9 (by decide) (hts (.fieldLink RX11 58 "Hornbook" "isNoted" "Z") (by decide +kernel)) (fun _ h9 => h9) rfl (by decide +kernel) rfl rfl (Nat.le_of_ble_eq_true rfl) dX11_sort_179 (fun H locs hP hD hS => ?_)
  have hP : va_P (dC, dI) vwCl [(hh, .inr (13, [.ref aexpr, .ref achoo, .ref ameth, .ref aroom, .ref anod, .ref asort, .ref anote, .ref amet, .int 0, .int 0])), (anod, .inr (7, [.ref nm, .ref nl, .ref n1, .ref n2, .ref nf, .ref ns, .ref nh, .ref nk, .ref np, .int 16, .int 0, .int 16, .int 0, .int 0])), (asort, .inr (1, [.int u_27, .ref u_25, .int 1])), (q_12, .inr (11, [.int 0, .int 1, .int x2, .int 0, .int (-1), .int (-1), .int 1, .ref u_13, .int 1])), (u_25, .inl (u_26, 10, .inr (.inr (.inr (.inr (va_up (fun _ => none) (0 : Int32).toNatClampNeg (some q_12)))))))] H := hP
  have hD : va_D A [(hh, .inr (13, [.ref aexpr, .ref achoo, .ref ameth, .ref aroom, .ref anod, .ref asort, .ref anote, .ref amet, .int 0, .int 0])), (anod, .inr (7, [.ref nm, .ref nl, .ref n1, .ref n2, .ref nf, .ref ns, .ref nh, .ref nk, .ref np, .int 16, .int 0, .int 16, .int 0, .int 0])), (asort, .inr (1, [.int u_27, .ref u_25, .int 1])), (q_12, .inr (11, [.int 0, .int 1, .int x2, .int 0, .int (-1), .int (-1), .int 1, .ref u_13, .int 1])), (u_25, .inl (u_26, 10, .inr (.inr (.inr (.inr (va_up (fun _ => none) (0 : Int32).toNatClampNeg (some q_12)))))))] := hD
  refine lv_aload hx hb dX11_sort_182 (lv_at hl 0 rfl) ?_
  refine va_get (D := (dC, dI)) (ci := 11) (v := .int 0) (C := RX9) (T := TX9) (N := 9) hx hb hts in_RX9 hown hK hP 3 rfl rfl 0 (by decide) (hts (.fieldLink RX11 85 "Hornbook$Sort" "number" "I") (by decide +kernel)) (fun _ h9 => h9) rfl dX11_sort_184 ?_
  have hP9 := hP.sub (ws' := []) [] rfl
  have hD9 := hD.sub (ws' := []) [] (by decide) rfl
  have hK9 := hK.sub (tys' := []) [] rfl
  refine W.widen (k := 3) (n := 31) (Nat.le_of_ble_eq_true rfl) (Nat.le_of_ble_eq_true rfl) ?_
  exact W.iret (v := 0) hx hb hr (fun t ht hW => ⟨⟨0, (), rfl, rfl, ⟨by rw [ht]; exact hP9, va_K.moved hW.alike hK9, hD9⟩⟩, hS.F ht⟩) hS.2.2 dX11_sort_187

def wb_c_H_sort_2l3 : List Cond := [.code yX11_isHow cX11_isHow 1 (some .boolean), .methodLink RX11 62 yX11_isHow, .static yX11_isHow, .initialized RX11, .classLink RX11 66 "java/lang/IllegalArgumentException", .initialized "java/lang/IllegalArgumentException"]
def w_c_H_sort_2l3 : List Cond := .code yX11_sort cX11_sort 6 (some .int) :: (wb_c_H_sort_2l3 ++ zAt)
set_option maxRecDepth 100000 in
theorem g_c_H_sort_2l3_0 : GoodIn w_c_H_sort_2l3 (va_wsS RX11 62 yX11_isHow w_c_H_isHow_ok) := goodIn_app (goodIn_of _ (by decide +kernel)) (goodIn_p (big := w_c_H_sort_2l3) (.code yX11_isHow cX11_isHow 1 (some .boolean) :: wb_c_H_isHow_ok) [1] rfl (by decide +kernel))
set_option maxRecDepth 100000 in
theorem g_c_H_sort_2l3_1 : GoodIn w_c_H_sort_2l3 (va_wsS RX11 62 yX11_isHow w_c_H_isHow_l) := goodIn_app (goodIn_of _ (by decide +kernel)) (goodIn_p (big := w_c_H_sort_2l3) (.code yX11_isHow cX11_isHow 1 (some .boolean) :: wb_c_H_isHow_l) [1] rfl (by decide +kernel))
set_option maxHeartbeats 4000000 in
set_option maxRecDepth 100000 in
theorem c_H_sort_2l3 (l : Launch) (hfl : l.flags = flags0) (eD eI : Nat) (ad : Nat → Nat) (dC : Nat → ClassId) (dI : Nat → Nat → Nat) (sz : Nat) (hh : Nat) (aexpr : Nat) (achoo : Nat) (ameth : Nat) (aroom : Nat) (anod : Nat) (asort : Nat) (anote : Nat) (amet : Nat) (nm : Nat) (nl : Nat) (n1 : Nat) (n2 : Nat) (nf : Nat) (ns : Nat) (nh : Nat) (nk : Nat) (np : Nat) (kI : ClassId) (kL : ClassId) (x2 : Int32) (x3 : Int32) (hx20 : ¬ x2 < 0) (hx21 : ¬ 2 < x2) (hx31 : x3 < 0) : vx_Met l yX11_sort w_c_H_sort_2l3 ({ frames := 6, cells := 1, slots := 6, locals := 82 }) (va_Pc [.ref hh, .int 2, .int x2, .int x3] (zPreD eD eI ad (dC, dI) [(hh, .inr (13, [.ref aexpr, .ref achoo, .ref ameth, .ref aroom, .ref anod, .ref asort, .ref anote, .ref amet, .int 0, .int 1])), (asort, .inr (1, [.int 0, .ref eD, .int 0])), (anod, .inr (7, [.ref nm, .ref nl, .ref n1, .ref n2, .ref nf, .ref ns, .ref nh, .ref nk, .ref np, .int 16, .int 0, .int 16, .int 0, .int 0])), (ns, .inl (kL, 1024, .inr (.inl zSec))), (nm, .inl (kI, 12, .inl (fun _ => 0))), (nl, .inl (kI, 12, .inl (fun _ => 0))), (n1, .inl (kI, 12, .inl (fun _ => 0))), (n2, .inl (kI, 12, .inl (fun _ => 0)))] [(kL, .long), (kI, .int)] sz)) (va_Qi (fun (r : Int32) (_ : Unit) => False) (fun (_ : Unit) => zEnd (dC, dI) (va_A [(hh, .inr (13, [.ref aexpr, .ref achoo, .ref ameth, .ref aroom, .ref anod, .ref asort, .ref anote, .ref amet, .int 0, .int 1])), (asort, .inr (1, [.int 0, .ref eD, .int 0])), (anod, .inr (7, [.ref nm, .ref nl, .ref n1, .ref n2, .ref nf, .ref ns, .ref nh, .ref nk, .ref np, .int 16, .int 0, .int 16, .int 0, .int 0])), (ns, .inl (kL, 1024, .inr (.inl zSec))), (nm, .inl (kI, 12, .inl (fun _ => 0))), (nl, .inl (kI, 12, .inl (fun _ => 0))), (n1, .inl (kI, 12, .inl (fun _ => 0))), (n2, .inl (kI, 12, .inl (fun _ => 0)))] sz) [(hh, .inr (13, [.ref aexpr, .ref achoo, .ref ameth, .ref aroom, .ref anod, .ref asort, .ref anote, .ref amet, .int 0, .int 1])), (asort, .inr (1, [.int 0, .ref eD, .int 0])), (anod, .inr (7, [.ref nm, .ref nl, .ref n1, .ref n2, .ref nf, .ref ns, .ref nh, .ref nk, .ref np, .int 16, .int 0, .int 16, .int 0, .int 0])), (ns, .inl (kL, 1024, .inr (.inl zSec))), (nm, .inl (kI, 12, .inl (fun _ => 0))), (nl, .inl (kI, 12, .inl (fun _ => 0))), (n1, .inl (kI, 12, .inl (fun _ => 0))), (n2, .inl (kI, 12, .inl (fun _ => 0)))] [(kL, .long), (kI, .int)]) (va_A [(hh, .inr (13, [.ref aexpr, .ref achoo, .ref ameth, .ref aroom, .ref anod, .ref asort, .ref anote, .ref amet, .int 0, .int 1])), (asort, .inr (1, [.int 0, .ref eD, .int 0])), (anod, .inr (7, [.ref nm, .ref nl, .ref n1, .ref n2, .ref nf, .ref ns, .ref nh, .ref nk, .ref np, .int 16, .int 0, .int 16, .int 0, .int 0])), (ns, .inl (kL, 1024, .inr (.inl zSec))), (nm, .inl (kI, 12, .inl (fun _ => 0))), (nl, .inl (kI, 12, .inl (fun _ => 0))), (n1, .inl (kI, 12, .inl (fun _ => 0))), (n2, .inl (kI, 12, .inl (fun _ => 0)))] sz)) (zX (fun E => E = "java/lang/IllegalArgumentException") (va_A [(hh, .inr (13, [.ref aexpr, .ref achoo, .ref ameth, .ref aroom, .ref anod, .ref asort, .ref anote, .ref amet, .int 0, .int 1])), (asort, .inr (1, [.int 0, .ref eD, .int 0])), (anod, .inr (7, [.ref nm, .ref nl, .ref n1, .ref n2, .ref nf, .ref ns, .ref nh, .ref nk, .ref np, .int 16, .int 0, .int 16, .int 0, .int 0])), (ns, .inl (kL, 1024, .inr (.inl zSec))), (nm, .inl (kI, 12, .inl (fun _ => 0))), (nl, .inl (kI, 12, .inl (fun _ => 0))), (n1, .inl (kI, 12, .inl (fun _ => 0))), (n2, .inl (kI, 12, .inl (fun _ => 0)))] sz)) 1 6 (va_A [(hh, .inr (13, [.ref aexpr, .ref achoo, .ref ameth, .ref aroom, .ref anod, .ref asort, .ref anote, .ref amet, .int 0, .int 1])), (asort, .inr (1, [.int 0, .ref eD, .int 0])), (anod, .inr (7, [.ref nm, .ref nl, .ref n1, .ref n2, .ref nf, .ref ns, .ref nh, .ref nk, .ref np, .int 16, .int 0, .int 16, .int 0, .int 0])), (ns, .inl (kL, 1024, .inr (.inl zSec))), (nm, .inl (kI, 12, .inl (fun _ => 0))), (nl, .inl (kI, 12, .inl (fun _ => 0))), (n1, .inl (kI, 12, .inl (fun _ => 0))), (n2, .inl (kI, 12, .inl (fun _ => 0)))] sz) := by
  refine vx_ofW (cc := cX11_sort) (maxL := 6) (ret := (some .int)) (by decide +kernel) rfl ?_
  intro p e s m args below meth c s₁ B hml htab hv
  obtain ⟨rfl, ⟨hsz, hP, hK, hD0, hE⟩, hDc⟩ := hv
  have hx := B.exec
  have hb := B.bytes
  have hr := B.returns
  have hts := atoms_spec (ws := w_c_H_sort_2l3) B.pre
  have hown : s.vm.findClass RX11 = some m.cls := findClass_of_methodNamed B.named
  have hlocks := B.notSynchronized
  subst hsz
  have hD := hD0.self (sz := s.heap.size)
  generalize hAe : va_A [(hh, .inr (13, [.ref aexpr, .ref achoo, .ref ameth, .ref aroom, .ref anod, .ref asort, .ref anote, .ref amet, .int 0, .int 1])), (asort, .inr (1, [.int 0, .ref eD, .int 0])), (anod, .inr (7, [.ref nm, .ref nl, .ref n1, .ref n2, .ref nf, .ref ns, .ref nh, .ref nk, .ref np, .int 16, .int 0, .int 16, .int 0, .int 0])), (ns, .inl (kL, 1024, .inr (.inl zSec))), (nm, .inl (kI, 12, .inl (fun _ => 0))), (nl, .inl (kI, 12, .inl (fun _ => 0))), (n1, .inl (kI, 12, .inl (fun _ => 0))), (n2, .inl (kI, 12, .inl (fun _ => 0)))] s.heap.size = A at hD hE ⊢
  have hA : ∀ q : Nat, s.heap.size ≤ q → A q := fun q h => by rw [← hAe]; exact Or.inr h
  have hS : va_S A s.heap s.heap [] := va_S.rf
  have hP : va_P (dC, dI) vwCl [(hh, .inr (13, [.ref aexpr, .ref achoo, .ref ameth, .ref aroom, .ref anod, .ref asort, .ref anote, .ref amet, .int 0, .int 1])), (asort, .inr (1, [.int 0, .ref eD, .int 0])), (anod, .inr (7, [.ref nm, .ref nl, .ref n1, .ref n2, .ref nf, .ref ns, .ref nh, .ref nk, .ref np, .int 16, .int 0, .int 16, .int 0, .int 0])), (ns, .inl (kL, 1024, .inr (.inl zSec))), (nm, .inl (kI, 12, .inl (fun _ => 0))), (nl, .inl (kI, 12, .inl (fun _ => 0))), (n1, .inl (kI, 12, .inl (fun _ => 0))), (n2, .inl (kI, 12, .inl (fun _ => 0)))] s.heap := hP
  have hl := lv_entry ([.ref hh, .int 2, .int x2, .int x3]) (n := 6) (Nat.le_of_ble_eq_true rfl)
  rw [lg_entry_eq]
  generalize (lg_sl ([.ref hh, .int 2, .int x2, .int x3]) ++ List.replicate (6 - (lg_sl ([.ref hh, .int 2, .int x2, .int x3])).length) Slot.unset).toArray = ls at hl ⊢
  have hl : lv_has ls 6 [(0, .ref hh), (1, .int 2), (2, .int x2), (3, .int x3)] := hl
  refine lv_iload_n hx hb dX11_sort_0 rfl (lv_at hl 1 rfl) ?_
  refine lv_if_lt (tgt := 37) hx hb dX11_sort_1 (by decide) (fun c_1 => ?_) (fun c_1 => ?_)
  · exact absurd c_1 (by decide)
  refine lv_iload_n hx hb dX11_sort_4 rfl (lv_at hl 1 rfl) ?_
  refine lv_iconst (v := 2) hx hb dX11_sort_5 (by decide) ?_
  refine lv_icmp_gt (tgt := 37) hx hb dX11_sort_6 (by decide) (fun c_2 => ?_) (fun c_2 => ?_)
  · exact absurd c_2 (by decide)
  refine lv_iload_n hx hb dX11_sort_9 rfl (lv_at hl 1 rfl) ?_
  refine lv_iconst (v := 1) hx hb dX11_sort_10 (by decide) ?_
  refine lv_icmp_lt (tgt := 21) hx hb dX11_sort_11 (by decide) (fun c_3 => ?_) (fun c_3 => ?_)
  · exact absurd c_3 (by decide)
  refine lv_iload_n hx hb dX11_sort_14 rfl (lv_at hl 2 rfl) ?_
  refine z_i (wr := [(hh, .inr (13, [.ref aexpr, .ref achoo, .ref ameth, .ref aroom, .ref anod, .ref asort, .ref anote, .ref amet, .int 0, .int 1])), (asort, .inr (1, [.int 0, .ref eD, .int 0])), (anod, .inr (7, [.ref nm, .ref nl, .ref n1, .ref n2, .ref nf, .ref ns, .ref nh, .ref nk, .ref np, .int 16, .int 0, .int 16, .int 0, .int 0])), (ns, .inl (kL, 1024, .inr (.inl zSec))), (nm, .inl (kI, 12, .inl (fun _ => 0))), (nl, .inl (kI, 12, .inl (fun _ => 0))), (n1, .inl (kI, 12, .inl (fun _ => 0))), (n2, .inl (kI, 12, .inl (fun _ => 0)))]) (va_runS (As := [.int x2]) (rest := []) ⟨hx, hb, hml, hown, hts⟩ (c_H_isHow_ok l eD eI ad dC dI s.heap.size x2 (hx20) (hx21)) (va_cwS 1 hts g_c_H_sort_2l3_0 rfl rfl rfl (by decide +kernel) ⟨Nat.le_of_ble_eq_true rfl, Nat.le_of_ble_eq_true rfl⟩) (z_preS (wc := []) hP hD hK hS hA hE [] [] rfl (by decide) rfl) rfl rfl hl.1 rfl (lv_room (Nat.le_of_ble_eq_true rfl)) dX11_sort_15 ⟨Nat.le_of_ble_eq_true rfl, Nat.le_of_ble_eq_true rfl⟩) hP hD hK hS hA [] [0, 1, 2, 3, 4, 5, 6, 7] rfl rfl (by decide) (by decide) (fun r_4 u H locs hw_5 hP hD hK hS => ?_)
  obtain ⟨⟩ := u
  have hP : va_P (dC, dI) vwCl [(hh, .inr (13, [.ref aexpr, .ref achoo, .ref ameth, .ref aroom, .ref anod, .ref asort, .ref anote, .ref amet, .int 0, .int 1])), (asort, .inr (1, [.int 0, .ref eD, .int 0])), (anod, .inr (7, [.ref nm, .ref nl, .ref n1, .ref n2, .ref nf, .ref ns, .ref nh, .ref nk, .ref np, .int 16, .int 0, .int 16, .int 0, .int 0])), (ns, .inl (kL, 1024, .inr (.inl zSec))), (nm, .inl (kI, 12, .inl (fun _ => 0))), (nl, .inl (kI, 12, .inl (fun _ => 0))), (n1, .inl (kI, 12, .inl (fun _ => 0))), (n2, .inl (kI, 12, .inl (fun _ => 0)))] H := hP
  have hD : va_D A [(hh, .inr (13, [.ref aexpr, .ref achoo, .ref ameth, .ref aroom, .ref anod, .ref asort, .ref anote, .ref amet, .int 0, .int 1])), (asort, .inr (1, [.int 0, .ref eD, .int 0])), (anod, .inr (7, [.ref nm, .ref nl, .ref n1, .ref n2, .ref nf, .ref ns, .ref nh, .ref nk, .ref np, .int 16, .int 0, .int 16, .int 0, .int 0])), (ns, .inl (kL, 1024, .inr (.inl zSec))), (nm, .inl (kI, 12, .inl (fun _ => 0))), (nl, .inl (kI, 12, .inl (fun _ => 0))), (n1, .inl (kI, 12, .inl (fun _ => 0))), (n2, .inl (kI, 12, .inl (fun _ => 0)))] := hD
  have hK : va_K (dC, dI) vwCl [(kL, .long), (kI, .int)] s := by simpa using hK
  have hw_5 : r_4 = 1 := hw_5
  have hw_5 := hw_5.symm
  subst hw_5
  refine lv_if_eq (tgt := 37) hx hb dX11_sort_18 (by decide) (fun c_6 => ?_) (fun c_6 => ?_)
  · exact absurd c_6 (by decide)
  refine lv_iload_n hx hb dX11_sort_21 rfl (lv_at hl 1 rfl) ?_
  refine lv_iconst (v := 2) hx hb dX11_sort_22 (by decide) ?_
  refine lv_icmp_lt (tgt := 33) hx hb dX11_sort_23 (by decide) (fun c_7 => ?_) (fun c_7 => ?_)
  · exact absurd c_7 (by decide)
  refine lv_iload_n hx hb dX11_sort_26 rfl (lv_at hl 3 rfl) ?_
  refine z_i (wr := [(hh, .inr (13, [.ref aexpr, .ref achoo, .ref ameth, .ref aroom, .ref anod, .ref asort, .ref anote, .ref amet, .int 0, .int 1])), (asort, .inr (1, [.int 0, .ref eD, .int 0])), (anod, .inr (7, [.ref nm, .ref nl, .ref n1, .ref n2, .ref nf, .ref ns, .ref nh, .ref nk, .ref np, .int 16, .int 0, .int 16, .int 0, .int 0])), (ns, .inl (kL, 1024, .inr (.inl zSec))), (nm, .inl (kI, 12, .inl (fun _ => 0))), (nl, .inl (kI, 12, .inl (fun _ => 0))), (n1, .inl (kI, 12, .inl (fun _ => 0))), (n2, .inl (kI, 12, .inl (fun _ => 0)))]) (va_runS (As := [.int x3]) (rest := []) ⟨hx, hb, hml, hown, hts⟩ (c_H_isHow_l l eD eI ad dC dI H.size x3 (hx31)) (va_cwS 1 hts g_c_H_sort_2l3_1 rfl rfl rfl (by decide +kernel) ⟨Nat.le_of_ble_eq_true rfl, Nat.le_of_ble_eq_true rfl⟩) (z_preS (wc := []) hP hD hK hS hA hE [] [] rfl (by decide) rfl) rfl rfl hl.1 rfl (lv_room (Nat.le_of_ble_eq_true rfl)) dX11_sort_27 ⟨Nat.le_of_ble_eq_true rfl, Nat.le_of_ble_eq_true rfl⟩) hP hD hK hS hA [] [0, 1, 2, 3, 4, 5, 6, 7] rfl rfl (by decide) (by decide) (fun r_8 u H locs hw_9 hP hD hK hS => ?_)
  obtain ⟨⟩ := u
  have hP : va_P (dC, dI) vwCl [(hh, .inr (13, [.ref aexpr, .ref achoo, .ref ameth, .ref aroom, .ref anod, .ref asort, .ref anote, .ref amet, .int 0, .int 1])), (asort, .inr (1, [.int 0, .ref eD, .int 0])), (anod, .inr (7, [.ref nm, .ref nl, .ref n1, .ref n2, .ref nf, .ref ns, .ref nh, .ref nk, .ref np, .int 16, .int 0, .int 16, .int 0, .int 0])), (ns, .inl (kL, 1024, .inr (.inl zSec))), (nm, .inl (kI, 12, .inl (fun _ => 0))), (nl, .inl (kI, 12, .inl (fun _ => 0))), (n1, .inl (kI, 12, .inl (fun _ => 0))), (n2, .inl (kI, 12, .inl (fun _ => 0)))] H := hP
  have hD : va_D A [(hh, .inr (13, [.ref aexpr, .ref achoo, .ref ameth, .ref aroom, .ref anod, .ref asort, .ref anote, .ref amet, .int 0, .int 1])), (asort, .inr (1, [.int 0, .ref eD, .int 0])), (anod, .inr (7, [.ref nm, .ref nl, .ref n1, .ref n2, .ref nf, .ref ns, .ref nh, .ref nk, .ref np, .int 16, .int 0, .int 16, .int 0, .int 0])), (ns, .inl (kL, 1024, .inr (.inl zSec))), (nm, .inl (kI, 12, .inl (fun _ => 0))), (nl, .inl (kI, 12, .inl (fun _ => 0))), (n1, .inl (kI, 12, .inl (fun _ => 0))), (n2, .inl (kI, 12, .inl (fun _ => 0)))] := hD
  have hK : va_K (dC, dI) vwCl [(kL, .long), (kI, .int)] s := by simpa using hK
  have hw_9 : r_8 = 0 := hw_9
  have hw_9 := hw_9.symm
  subst hw_9
  refine lv_if_eq (tgt := 37) hx hb dX11_sort_30 (by decide) (fun c_10 => ?_) (fun c_10 => ?_)
  rotate_left
  · exact absurd (by decide) c_10
  refine lv_iconst (v := 0) hx hb dX11_sort_37 (by decide) ?_
  refine lv_istore (lv' := [(4, .int 0), (0, .ref hh), (1, .int 2), (2, .int x2), (3, .int x3)]) hx hb dX11_sort_38 hl (by decide) rfl (fun ls hl => ?_)
  refine lv_iload hx hb dX11_sort_40 (lv_at hl 0 rfl) ?_
  refine lv_if_ne (tgt := 55) hx hb dX11_sort_42 (by decide) (fun c_11 => ?_) (fun c_11 => ?_)
  · exact absurd (by decide) c_11
  obtain ⟨sa, hsa⟩ := hE.2.2.2.1 ("Hornbook", 68, "no such PARAMETERS") (by decide +kernel)
  have hsa : vk_R RX11 68 "no such PARAMETERS" sa s := hsa
  exact vx_throwS (A := A) (cls := "java/lang/IllegalArgumentException") (text := "no such PARAMETERS") (names := ["java/lang/RuntimeException", "java/lang/Exception"]) hx hb (z_traces hfl) hown (by decide +kernel) (by decide +kernel) (hts (.classLink RX11 66 "java/lang/IllegalArgumentException") (by decide +kernel)) (hts (.initialized "java/lang/IllegalArgumentException") (by decide +kernel)) hsa (vx_hat (B := Cond.castable "java/lang/IllegalArgumentException" "java/lang/IllegalArgumentException" :: zDecs) (fun w h => hts w (List.mem_cons_of_mem _ (List.mem_append_right _ (zAt_70 w h)))) (by decide +kernel) (vx_c (va_Nw.use rfl (hE.2.2.2.2.2.2.2.1 ("java/lang/IllegalArgumentException", "java/lang/IllegalArgumentException") (by decide +kernel))) hDc.use)) (by decide +kernel) hE.1 hE.2.1 hS (by rw [hml]; exact hl.1) dX11_sort_45 dX11_sort_48 dX11_sort_49 dX11_sort_51 dX11_sort_54 (fun x h => (htab x h).elim) (Nat.le_of_ble_eq_true rfl) (Nat.le_of_ble_eq_true rfl) (Nat.le_of_ble_eq_true rfl) (Nat.le_of_ble_eq_true rfl) hlocks (fun t hW h1 h2 => ⟨(), trivial, rfl, z_F hS h1 h2⟩) hS.2.2 (Nat.le_of_ble_eq_true rfl) (Nat.le_of_ble_eq_true rfl)

def wb_c_H_sort_2h3 : List Cond := [.code yX11_isHow cX11_isHow 1 (some .boolean), .methodLink RX11 62 yX11_isHow, .static yX11_isHow, .initialized RX11, .classLink RX11 66 "java/lang/IllegalArgumentException", .initialized "java/lang/IllegalArgumentException"]
def w_c_H_sort_2h3 : List Cond := .code yX11_sort cX11_sort 6 (some .int) :: (wb_c_H_sort_2h3 ++ zAt)
set_option maxRecDepth 100000 in
theorem g_c_H_sort_2h3_0 : GoodIn w_c_H_sort_2h3 (va_wsS RX11 62 yX11_isHow w_c_H_isHow_ok) := goodIn_app (goodIn_of _ (by decide +kernel)) (goodIn_p (big := w_c_H_sort_2h3) (.code yX11_isHow cX11_isHow 1 (some .boolean) :: wb_c_H_isHow_ok) [1] rfl (by decide +kernel))
set_option maxRecDepth 100000 in
theorem g_c_H_sort_2h3_1 : GoodIn w_c_H_sort_2h3 (va_wsS RX11 62 yX11_isHow w_c_H_isHow_h) := goodIn_app (goodIn_of _ (by decide +kernel)) (goodIn_p (big := w_c_H_sort_2h3) (.code yX11_isHow cX11_isHow 1 (some .boolean) :: wb_c_H_isHow_h) [1] rfl (by decide +kernel))
set_option maxHeartbeats 4000000 in
set_option maxRecDepth 100000 in
theorem c_H_sort_2h3 (l : Launch) (hfl : l.flags = flags0) (eD eI : Nat) (ad : Nat → Nat) (dC : Nat → ClassId) (dI : Nat → Nat → Nat) (sz : Nat) (hh : Nat) (aexpr : Nat) (achoo : Nat) (ameth : Nat) (aroom : Nat) (anod : Nat) (asort : Nat) (anote : Nat) (amet : Nat) (nm : Nat) (nl : Nat) (n1 : Nat) (n2 : Nat) (nf : Nat) (ns : Nat) (nh : Nat) (nk : Nat) (np : Nat) (kI : ClassId) (kL : ClassId) (x2 : Int32) (x3 : Int32) (hx20 : ¬ x2 < 0) (hx21 : ¬ 2 < x2) (hx30 : ¬ x3 < 0) (hx31 : 2 < x3) : vx_Met l yX11_sort w_c_H_sort_2h3 ({ frames := 6, cells := 1, slots := 6, locals := 82 }) (va_Pc [.ref hh, .int 2, .int x2, .int x3] (zPreD eD eI ad (dC, dI) [(hh, .inr (13, [.ref aexpr, .ref achoo, .ref ameth, .ref aroom, .ref anod, .ref asort, .ref anote, .ref amet, .int 0, .int 1])), (asort, .inr (1, [.int 0, .ref eD, .int 0])), (anod, .inr (7, [.ref nm, .ref nl, .ref n1, .ref n2, .ref nf, .ref ns, .ref nh, .ref nk, .ref np, .int 16, .int 0, .int 16, .int 0, .int 0])), (ns, .inl (kL, 1024, .inr (.inl zSec))), (nm, .inl (kI, 12, .inl (fun _ => 0))), (nl, .inl (kI, 12, .inl (fun _ => 0))), (n1, .inl (kI, 12, .inl (fun _ => 0))), (n2, .inl (kI, 12, .inl (fun _ => 0)))] [(kL, .long), (kI, .int)] sz)) (va_Qi (fun (r : Int32) (_ : Unit) => False) (fun (_ : Unit) => zEnd (dC, dI) (va_A [(hh, .inr (13, [.ref aexpr, .ref achoo, .ref ameth, .ref aroom, .ref anod, .ref asort, .ref anote, .ref amet, .int 0, .int 1])), (asort, .inr (1, [.int 0, .ref eD, .int 0])), (anod, .inr (7, [.ref nm, .ref nl, .ref n1, .ref n2, .ref nf, .ref ns, .ref nh, .ref nk, .ref np, .int 16, .int 0, .int 16, .int 0, .int 0])), (ns, .inl (kL, 1024, .inr (.inl zSec))), (nm, .inl (kI, 12, .inl (fun _ => 0))), (nl, .inl (kI, 12, .inl (fun _ => 0))), (n1, .inl (kI, 12, .inl (fun _ => 0))), (n2, .inl (kI, 12, .inl (fun _ => 0)))] sz) [(hh, .inr (13, [.ref aexpr, .ref achoo, .ref ameth, .ref aroom, .ref anod, .ref asort, .ref anote, .ref amet, .int 0, .int 1])), (asort, .inr (1, [.int 0, .ref eD, .int 0])), (anod, .inr (7, [.ref nm, .ref nl, .ref n1, .ref n2, .ref nf, .ref ns, .ref nh, .ref nk, .ref np, .int 16, .int 0, .int 16, .int 0, .int 0])), (ns, .inl (kL, 1024, .inr (.inl zSec))), (nm, .inl (kI, 12, .inl (fun _ => 0))), (nl, .inl (kI, 12, .inl (fun _ => 0))), (n1, .inl (kI, 12, .inl (fun _ => 0))), (n2, .inl (kI, 12, .inl (fun _ => 0)))] [(kL, .long), (kI, .int)]) (va_A [(hh, .inr (13, [.ref aexpr, .ref achoo, .ref ameth, .ref aroom, .ref anod, .ref asort, .ref anote, .ref amet, .int 0, .int 1])), (asort, .inr (1, [.int 0, .ref eD, .int 0])), (anod, .inr (7, [.ref nm, .ref nl, .ref n1, .ref n2, .ref nf, .ref ns, .ref nh, .ref nk, .ref np, .int 16, .int 0, .int 16, .int 0, .int 0])), (ns, .inl (kL, 1024, .inr (.inl zSec))), (nm, .inl (kI, 12, .inl (fun _ => 0))), (nl, .inl (kI, 12, .inl (fun _ => 0))), (n1, .inl (kI, 12, .inl (fun _ => 0))), (n2, .inl (kI, 12, .inl (fun _ => 0)))] sz)) (zX (fun E => E = "java/lang/IllegalArgumentException") (va_A [(hh, .inr (13, [.ref aexpr, .ref achoo, .ref ameth, .ref aroom, .ref anod, .ref asort, .ref anote, .ref amet, .int 0, .int 1])), (asort, .inr (1, [.int 0, .ref eD, .int 0])), (anod, .inr (7, [.ref nm, .ref nl, .ref n1, .ref n2, .ref nf, .ref ns, .ref nh, .ref nk, .ref np, .int 16, .int 0, .int 16, .int 0, .int 0])), (ns, .inl (kL, 1024, .inr (.inl zSec))), (nm, .inl (kI, 12, .inl (fun _ => 0))), (nl, .inl (kI, 12, .inl (fun _ => 0))), (n1, .inl (kI, 12, .inl (fun _ => 0))), (n2, .inl (kI, 12, .inl (fun _ => 0)))] sz)) 1 6 (va_A [(hh, .inr (13, [.ref aexpr, .ref achoo, .ref ameth, .ref aroom, .ref anod, .ref asort, .ref anote, .ref amet, .int 0, .int 1])), (asort, .inr (1, [.int 0, .ref eD, .int 0])), (anod, .inr (7, [.ref nm, .ref nl, .ref n1, .ref n2, .ref nf, .ref ns, .ref nh, .ref nk, .ref np, .int 16, .int 0, .int 16, .int 0, .int 0])), (ns, .inl (kL, 1024, .inr (.inl zSec))), (nm, .inl (kI, 12, .inl (fun _ => 0))), (nl, .inl (kI, 12, .inl (fun _ => 0))), (n1, .inl (kI, 12, .inl (fun _ => 0))), (n2, .inl (kI, 12, .inl (fun _ => 0)))] sz) := by
  refine vx_ofW (cc := cX11_sort) (maxL := 6) (ret := (some .int)) (by decide +kernel) rfl ?_
  intro p e s m args below meth c s₁ B hml htab hv
  obtain ⟨rfl, ⟨hsz, hP, hK, hD0, hE⟩, hDc⟩ := hv
  have hx := B.exec
  have hb := B.bytes
  have hr := B.returns
  have hts := atoms_spec (ws := w_c_H_sort_2h3) B.pre
  have hown : s.vm.findClass RX11 = some m.cls := findClass_of_methodNamed B.named
  have hlocks := B.notSynchronized
  subst hsz
  have hD := hD0.self (sz := s.heap.size)
  generalize hAe : va_A [(hh, .inr (13, [.ref aexpr, .ref achoo, .ref ameth, .ref aroom, .ref anod, .ref asort, .ref anote, .ref amet, .int 0, .int 1])), (asort, .inr (1, [.int 0, .ref eD, .int 0])), (anod, .inr (7, [.ref nm, .ref nl, .ref n1, .ref n2, .ref nf, .ref ns, .ref nh, .ref nk, .ref np, .int 16, .int 0, .int 16, .int 0, .int 0])), (ns, .inl (kL, 1024, .inr (.inl zSec))), (nm, .inl (kI, 12, .inl (fun _ => 0))), (nl, .inl (kI, 12, .inl (fun _ => 0))), (n1, .inl (kI, 12, .inl (fun _ => 0))), (n2, .inl (kI, 12, .inl (fun _ => 0)))] s.heap.size = A at hD hE ⊢
  have hA : ∀ q : Nat, s.heap.size ≤ q → A q := fun q h => by rw [← hAe]; exact Or.inr h
  have hS : va_S A s.heap s.heap [] := va_S.rf
  have hP : va_P (dC, dI) vwCl [(hh, .inr (13, [.ref aexpr, .ref achoo, .ref ameth, .ref aroom, .ref anod, .ref asort, .ref anote, .ref amet, .int 0, .int 1])), (asort, .inr (1, [.int 0, .ref eD, .int 0])), (anod, .inr (7, [.ref nm, .ref nl, .ref n1, .ref n2, .ref nf, .ref ns, .ref nh, .ref nk, .ref np, .int 16, .int 0, .int 16, .int 0, .int 0])), (ns, .inl (kL, 1024, .inr (.inl zSec))), (nm, .inl (kI, 12, .inl (fun _ => 0))), (nl, .inl (kI, 12, .inl (fun _ => 0))), (n1, .inl (kI, 12, .inl (fun _ => 0))), (n2, .inl (kI, 12, .inl (fun _ => 0)))] s.heap := hP
  have hl := lv_entry ([.ref hh, .int 2, .int x2, .int x3]) (n := 6) (Nat.le_of_ble_eq_true rfl)
  rw [lg_entry_eq]
  generalize (lg_sl ([.ref hh, .int 2, .int x2, .int x3]) ++ List.replicate (6 - (lg_sl ([.ref hh, .int 2, .int x2, .int x3])).length) Slot.unset).toArray = ls at hl ⊢
  have hl : lv_has ls 6 [(0, .ref hh), (1, .int 2), (2, .int x2), (3, .int x3)] := hl
  refine lv_iload_n hx hb dX11_sort_0 rfl (lv_at hl 1 rfl) ?_
  refine lv_if_lt (tgt := 37) hx hb dX11_sort_1 (by decide) (fun c_1 => ?_) (fun c_1 => ?_)
  · exact absurd c_1 (by decide)
  refine lv_iload_n hx hb dX11_sort_4 rfl (lv_at hl 1 rfl) ?_
  refine lv_iconst (v := 2) hx hb dX11_sort_5 (by decide) ?_
  refine lv_icmp_gt (tgt := 37) hx hb dX11_sort_6 (by decide) (fun c_2 => ?_) (fun c_2 => ?_)
  · exact absurd c_2 (by decide)
  refine lv_iload_n hx hb dX11_sort_9 rfl (lv_at hl 1 rfl) ?_
  refine lv_iconst (v := 1) hx hb dX11_sort_10 (by decide) ?_
  refine lv_icmp_lt (tgt := 21) hx hb dX11_sort_11 (by decide) (fun c_3 => ?_) (fun c_3 => ?_)
  · exact absurd c_3 (by decide)
  refine lv_iload_n hx hb dX11_sort_14 rfl (lv_at hl 2 rfl) ?_
  refine z_i (wr := [(hh, .inr (13, [.ref aexpr, .ref achoo, .ref ameth, .ref aroom, .ref anod, .ref asort, .ref anote, .ref amet, .int 0, .int 1])), (asort, .inr (1, [.int 0, .ref eD, .int 0])), (anod, .inr (7, [.ref nm, .ref nl, .ref n1, .ref n2, .ref nf, .ref ns, .ref nh, .ref nk, .ref np, .int 16, .int 0, .int 16, .int 0, .int 0])), (ns, .inl (kL, 1024, .inr (.inl zSec))), (nm, .inl (kI, 12, .inl (fun _ => 0))), (nl, .inl (kI, 12, .inl (fun _ => 0))), (n1, .inl (kI, 12, .inl (fun _ => 0))), (n2, .inl (kI, 12, .inl (fun _ => 0)))]) (va_runS (As := [.int x2]) (rest := []) ⟨hx, hb, hml, hown, hts⟩ (c_H_isHow_ok l eD eI ad dC dI s.heap.size x2 (hx20) (hx21)) (va_cwS 1 hts g_c_H_sort_2h3_0 rfl rfl rfl (by decide +kernel) ⟨Nat.le_of_ble_eq_true rfl, Nat.le_of_ble_eq_true rfl⟩) (z_preS (wc := []) hP hD hK hS hA hE [] [] rfl (by decide) rfl) rfl rfl hl.1 rfl (lv_room (Nat.le_of_ble_eq_true rfl)) dX11_sort_15 ⟨Nat.le_of_ble_eq_true rfl, Nat.le_of_ble_eq_true rfl⟩) hP hD hK hS hA [] [0, 1, 2, 3, 4, 5, 6, 7] rfl rfl (by decide) (by decide) (fun r_4 u H locs hw_5 hP hD hK hS => ?_)
  obtain ⟨⟩ := u
  have hP : va_P (dC, dI) vwCl [(hh, .inr (13, [.ref aexpr, .ref achoo, .ref ameth, .ref aroom, .ref anod, .ref asort, .ref anote, .ref amet, .int 0, .int 1])), (asort, .inr (1, [.int 0, .ref eD, .int 0])), (anod, .inr (7, [.ref nm, .ref nl, .ref n1, .ref n2, .ref nf, .ref ns, .ref nh, .ref nk, .ref np, .int 16, .int 0, .int 16, .int 0, .int 0])), (ns, .inl (kL, 1024, .inr (.inl zSec))), (nm, .inl (kI, 12, .inl (fun _ => 0))), (nl, .inl (kI, 12, .inl (fun _ => 0))), (n1, .inl (kI, 12, .inl (fun _ => 0))), (n2, .inl (kI, 12, .inl (fun _ => 0)))] H := hP
  have hD : va_D A [(hh, .inr (13, [.ref aexpr, .ref achoo, .ref ameth, .ref aroom, .ref anod, .ref asort, .ref anote, .ref amet, .int 0, .int 1])), (asort, .inr (1, [.int 0, .ref eD, .int 0])), (anod, .inr (7, [.ref nm, .ref nl, .ref n1, .ref n2, .ref nf, .ref ns, .ref nh, .ref nk, .ref np, .int 16, .int 0, .int 16, .int 0, .int 0])), (ns, .inl (kL, 1024, .inr (.inl zSec))), (nm, .inl (kI, 12, .inl (fun _ => 0))), (nl, .inl (kI, 12, .inl (fun _ => 0))), (n1, .inl (kI, 12, .inl (fun _ => 0))), (n2, .inl (kI, 12, .inl (fun _ => 0)))] := hD
  have hK : va_K (dC, dI) vwCl [(kL, .long), (kI, .int)] s := by simpa using hK
  have hw_5 : r_4 = 1 := hw_5
  have hw_5 := hw_5.symm
  subst hw_5
  refine lv_if_eq (tgt := 37) hx hb dX11_sort_18 (by decide) (fun c_6 => ?_) (fun c_6 => ?_)
  · exact absurd c_6 (by decide)
  refine lv_iload_n hx hb dX11_sort_21 rfl (lv_at hl 1 rfl) ?_
  refine lv_iconst (v := 2) hx hb dX11_sort_22 (by decide) ?_
  refine lv_icmp_lt (tgt := 33) hx hb dX11_sort_23 (by decide) (fun c_7 => ?_) (fun c_7 => ?_)
  · exact absurd c_7 (by decide)
  refine lv_iload_n hx hb dX11_sort_26 rfl (lv_at hl 3 rfl) ?_
  refine z_i (wr := [(hh, .inr (13, [.ref aexpr, .ref achoo, .ref ameth, .ref aroom, .ref anod, .ref asort, .ref anote, .ref amet, .int 0, .int 1])), (asort, .inr (1, [.int 0, .ref eD, .int 0])), (anod, .inr (7, [.ref nm, .ref nl, .ref n1, .ref n2, .ref nf, .ref ns, .ref nh, .ref nk, .ref np, .int 16, .int 0, .int 16, .int 0, .int 0])), (ns, .inl (kL, 1024, .inr (.inl zSec))), (nm, .inl (kI, 12, .inl (fun _ => 0))), (nl, .inl (kI, 12, .inl (fun _ => 0))), (n1, .inl (kI, 12, .inl (fun _ => 0))), (n2, .inl (kI, 12, .inl (fun _ => 0)))]) (va_runS (As := [.int x3]) (rest := []) ⟨hx, hb, hml, hown, hts⟩ (c_H_isHow_h l eD eI ad dC dI H.size x3 (hx30) (hx31)) (va_cwS 1 hts g_c_H_sort_2h3_1 rfl rfl rfl (by decide +kernel) ⟨Nat.le_of_ble_eq_true rfl, Nat.le_of_ble_eq_true rfl⟩) (z_preS (wc := []) hP hD hK hS hA hE [] [] rfl (by decide) rfl) rfl rfl hl.1 rfl (lv_room (Nat.le_of_ble_eq_true rfl)) dX11_sort_27 ⟨Nat.le_of_ble_eq_true rfl, Nat.le_of_ble_eq_true rfl⟩) hP hD hK hS hA [] [0, 1, 2, 3, 4, 5, 6, 7] rfl rfl (by decide) (by decide) (fun r_8 u H locs hw_9 hP hD hK hS => ?_)
  obtain ⟨⟩ := u
  have hP : va_P (dC, dI) vwCl [(hh, .inr (13, [.ref aexpr, .ref achoo, .ref ameth, .ref aroom, .ref anod, .ref asort, .ref anote, .ref amet, .int 0, .int 1])), (asort, .inr (1, [.int 0, .ref eD, .int 0])), (anod, .inr (7, [.ref nm, .ref nl, .ref n1, .ref n2, .ref nf, .ref ns, .ref nh, .ref nk, .ref np, .int 16, .int 0, .int 16, .int 0, .int 0])), (ns, .inl (kL, 1024, .inr (.inl zSec))), (nm, .inl (kI, 12, .inl (fun _ => 0))), (nl, .inl (kI, 12, .inl (fun _ => 0))), (n1, .inl (kI, 12, .inl (fun _ => 0))), (n2, .inl (kI, 12, .inl (fun _ => 0)))] H := hP
  have hD : va_D A [(hh, .inr (13, [.ref aexpr, .ref achoo, .ref ameth, .ref aroom, .ref anod, .ref asort, .ref anote, .ref amet, .int 0, .int 1])), (asort, .inr (1, [.int 0, .ref eD, .int 0])), (anod, .inr (7, [.ref nm, .ref nl, .ref n1, .ref n2, .ref nf, .ref ns, .ref nh, .ref nk, .ref np, .int 16, .int 0, .int 16, .int 0, .int 0])), (ns, .inl (kL, 1024, .inr (.inl zSec))), (nm, .inl (kI, 12, .inl (fun _ => 0))), (nl, .inl (kI, 12, .inl (fun _ => 0))), (n1, .inl (kI, 12, .inl (fun _ => 0))), (n2, .inl (kI, 12, .inl (fun _ => 0)))] := hD
  have hK : va_K (dC, dI) vwCl [(kL, .long), (kI, .int)] s := by simpa using hK
  have hw_9 : r_8 = 0 := hw_9
  have hw_9 := hw_9.symm
  subst hw_9
  refine lv_if_eq (tgt := 37) hx hb dX11_sort_30 (by decide) (fun c_10 => ?_) (fun c_10 => ?_)
  rotate_left
  · exact absurd (by decide) c_10
  refine lv_iconst (v := 0) hx hb dX11_sort_37 (by decide) ?_
  refine lv_istore (lv' := [(4, .int 0), (0, .ref hh), (1, .int 2), (2, .int x2), (3, .int x3)]) hx hb dX11_sort_38 hl (by decide) rfl (fun ls hl => ?_)
  refine lv_iload hx hb dX11_sort_40 (lv_at hl 0 rfl) ?_
  refine lv_if_ne (tgt := 55) hx hb dX11_sort_42 (by decide) (fun c_11 => ?_) (fun c_11 => ?_)
  · exact absurd (by decide) c_11
  obtain ⟨sa, hsa⟩ := hE.2.2.2.1 ("Hornbook", 68, "no such PARAMETERS") (by decide +kernel)
  have hsa : vk_R RX11 68 "no such PARAMETERS" sa s := hsa
  exact vx_throwS (A := A) (cls := "java/lang/IllegalArgumentException") (text := "no such PARAMETERS") (names := ["java/lang/RuntimeException", "java/lang/Exception"]) hx hb (z_traces hfl) hown (by decide +kernel) (by decide +kernel) (hts (.classLink RX11 66 "java/lang/IllegalArgumentException") (by decide +kernel)) (hts (.initialized "java/lang/IllegalArgumentException") (by decide +kernel)) hsa (vx_hat (B := Cond.castable "java/lang/IllegalArgumentException" "java/lang/IllegalArgumentException" :: zDecs) (fun w h => hts w (List.mem_cons_of_mem _ (List.mem_append_right _ (zAt_70 w h)))) (by decide +kernel) (vx_c (va_Nw.use rfl (hE.2.2.2.2.2.2.2.1 ("java/lang/IllegalArgumentException", "java/lang/IllegalArgumentException") (by decide +kernel))) hDc.use)) (by decide +kernel) hE.1 hE.2.1 hS (by rw [hml]; exact hl.1) dX11_sort_45 dX11_sort_48 dX11_sort_49 dX11_sort_51 dX11_sort_54 (fun x h => (htab x h).elim) (Nat.le_of_ble_eq_true rfl) (Nat.le_of_ble_eq_true rfl) (Nat.le_of_ble_eq_true rfl) (Nat.le_of_ble_eq_true rfl) hlocks (fun t hW h1 h2 => ⟨(), trivial, rfl, z_F hS h1 h2⟩) hS.2.2 (Nat.le_of_ble_eq_true rfl) (Nat.le_of_ble_eq_true rfl)

def wb_c_H_sort_2 : List Cond := [.code yX11_isHow cX11_isHow 1 (some .boolean), .methodLink RX11 62 yX11_isHow, .static yX11_isHow, .initialized RX11, .fieldLink RX11 42 "Hornbook" "sorts" "Ljava/util/ArrayList;", .code yJx4a65c_size_8abf5 cJx4a65c_size_8abf5 1 (some .int), .fieldLink RJx4a65c 48 "java/util/ArrayList" "size" "I", .methodLink RX11 73 yJx4a65c_size_8abf5, .instanceMethod yJx4a65c_size_8abf5, .selects RJx4a65c yJx4a65c_size_8abf5 yJx4a65c_size_8abf5, .initialized RJx4a65c, .classLink RX11 82 RX9, .instantiable RX9 9, .initialized RX9, .code yX9_init cX9_init 1 none, .methodLink RX9 3 objectInit, .instanceMethod objectInit, .code objectInit ⟨#[0xb1]⟩ 1 none, .fieldLink RX9 9 "Hornbook$Sort" "first" "I", .fieldLink RX9 15 "Hornbook$Sort" "second" "I", .arrayClass .int, .fieldLink RX9 18 "Hornbook$Sort" "way" "[I", .instanceMethod yX9_init, .fieldLink RX11 85 "Hornbook$Sort" "number" "I", .fieldLink RX11 88 "Hornbook$Sort" "many" "I", .fieldLink RX11 91 "Hornbook$Sort" "howOne" "I", .fieldLink RX11 94 "Hornbook$Sort" "howOther" "I", .code yX9_startWay cX9_startWay 1 none, .fieldLink RX9 31 "Hornbook$Sort" "length" "I", .fieldLink RX9 28 "Hornbook$Sort" "above" "I", .fieldLink RX9 34 "Hornbook$Sort" "number" "I", .code yX9_pass cX9_pass 2 none, .code yX9_goesTo cX9_goesTo 2 (some .boolean), .methodLink RX9 45 yX9_goesTo, .instanceMethod yX9_goesTo, .selects RX9 yX9_goesTo yX9_goesTo, .methodLink RX9 37 yX9_pass, .instanceMethod yX9_pass, .selects RX9 yX9_pass yX9_pass, .methodLink RX11 97 yX9_startWay, .instanceMethod yX9_startWay, .selects RX9 yX9_startWay yX9_startWay, .fieldLink RX11 38 "Hornbook" "nodes" "LHornbook$Nodes;", .fieldLink RX11 100 "Hornbook$Nodes" "many" "[I", .code yX5_lift cX5_lift 6 none, .fieldLink RX5 9 "Hornbook$Nodes" "many" "[I", .fieldLink RX5 15 "Hornbook$Nodes" "alone" "[I", .code yX5_liftOf cX5_liftOf 6 (some .int), .code yX5_formOf cX5_formOf 2 (some .int), .methodLink RX5 100 yX5_formOf, .instanceMethod yX5_formOf, .selects RX5 yX5_formOf yX5_formOf, .initialized RX5, .methodLink RX5 96 yX5_liftOf, .instanceMethod yX5_liftOf, .selects RX5 yX5_liftOf yX5_liftOf, .methodLink RX5 78 Lib.Math.max.name, .static Lib.Math.max.name, .initialized "java/lang/Math", .code Lib.Math.max.name Lib.Math.max.code 2 (some .int), .constant RX5 104 (-1048576), .fieldLink RX5 18 "Hornbook$Nodes" "overOne" "[I", .fieldLink RX5 21 "Hornbook$Nodes" "overOther" "[I", .methodLink RX11 104 yX5_lift, .instanceMethod yX5_lift, .selects RX5 yX5_lift yX5_lift, .code yJx4a65c_add_9ea2d cJx4a65c_add_9ea2d 2 (some .boolean), .sameField "java/util/ArrayList" "java/util/AbstractList" "modCount" "I", .fieldLink RJx4a65c 63 "java/util/ArrayList" "modCount" "I", .fieldLink RJx4a65c 9 "java/util/ArrayList" "elementData" "[Ljava/lang/Object;", .code yJx4a65c_add_72be8 cJx4a65c_add_72be8 4 none, .code yJx4a65c_grow_d5877 cJx4a65c_grow_d5877 1 (some (.array (.object "java/lang/Object"))), .code yJx4a65c_grow_92f84 cJx4a65c_grow_92f84 4 (some (.array (.object "java/lang/Object"))), .fieldLink RJx4a65c 39 "java/util/ArrayList" "DEFAULTCAPACITY_EMPTY_ELEMENTDATA" "[Ljava/lang/Object;", .methodLink RJx4a65c 79 Lib.Math.max.name, .classLink RJx4a65c 7 "java/lang/Object", .methodLink RJx4a65c 69 yJx4a65c_grow_92f84, .instanceMethod yJx4a65c_grow_92f84, .selects RJx4a65c yJx4a65c_grow_92f84 yJx4a65c_grow_92f84, .methodLink RJx4a65c 129 yJx4a65c_grow_d5877, .instanceMethod yJx4a65c_grow_d5877, .selects RJx4a65c yJx4a65c_grow_d5877 yJx4a65c_grow_d5877, .methodLink RJx4a65c 131 yJx4a65c_add_72be8, .instanceMethod yJx4a65c_add_72be8, .selects RJx4a65c yJx4a65c_add_72be8 yJx4a65c_add_72be8, .methodLink RX11 108 yJx4a65c_add_9ea2d, .instanceMethod yJx4a65c_add_9ea2d, .selects RJx4a65c yJx4a65c_add_9ea2d yJx4a65c_add_9ea2d, .fieldLink RX11 58 "Hornbook" "isNoted" "Z"] ++ u_ws RJx4a65c TJx4a65c 3 ++ u_ws RX11 TX11 10 ++ u_ws RX5 TX5 14 ++ u_ws RX9 TX9 9
def w_c_H_sort_2 : List Cond := .code yX11_sort cX11_sort 6 (some .int) :: wb_c_H_sort_2
set_option maxRecDepth 100000 in
theorem g_c_H_sort_2_0 : GoodIn w_c_H_sort_2 (va_wsS RX11 62 yX11_isHow w_c_H_isHow_ok) := goodIn_app (goodIn_of _ (by decide +kernel)) (goodIn_p (big := w_c_H_sort_2) (.code yX11_isHow cX11_isHow 1 (some .boolean) :: wb_c_H_isHow_ok) [1] rfl (by decide +kernel))
set_option maxRecDepth 100000 in
theorem g_c_H_sort_2_1 : GoodIn w_c_H_sort_2 (wsV RX11 73 RJx4a65c yJx4a65c_size_8abf5 w_c_AL_size) := goodIn_app (goodIn_of _ (by decide +kernel)) (goodIn_p (big := w_c_H_sort_2) (.code yJx4a65c_size_8abf5 cJx4a65c_size_8abf5 1 (some .int) :: wb_c_AL_size) [6] rfl (by decide +kernel))
set_option maxRecDepth 100000 in
theorem g_c_H_sort_2_2 : GoodIn w_c_H_sort_2 (w_c_S_new) := goodIn_p (big := w_c_H_sort_2) (.code yX9_init cX9_init 1 none :: wb_c_S_new) [15, 18] rfl (by decide +kernel)
set_option maxRecDepth 100000 in
theorem g_c_H_sort_2_3 : GoodIn w_c_H_sort_2 (wsV RX11 97 RX9 yX9_startWay w_c_S_startWay) := goodIn_app (goodIn_of _ (by decide +kernel)) (goodIn_p (big := w_c_H_sort_2) (.code yX9_startWay cX9_startWay 1 none :: wb_c_S_startWay) [28, 32, 33] rfl (by decide +kernel))
set_option maxRecDepth 100000 in
theorem g_c_H_sort_2_4 : GoodIn w_c_H_sort_2 (wsV RX11 104 RX5 yX5_lift w_c_N_lift_2) := goodIn_app (goodIn_of _ (by decide +kernel)) (goodIn_p (big := w_c_H_sort_2) (.code yX5_lift cX5_lift 6 none :: wb_c_N_lift_2) [45, 48, 49, 60] rfl (by decide +kernel))
set_option maxRecDepth 100000 in
theorem g_c_H_sort_2_5 : GoodIn w_c_H_sort_2 (wsV RX11 108 RJx4a65c yJx4a65c_add_9ea2d w_c_AL_add0) := goodIn_app (goodIn_of _ (by decide +kernel)) (goodIn_p (big := w_c_H_sort_2) (.code yJx4a65c_add_9ea2d cJx4a65c_add_9ea2d 2 (some .boolean) :: wb_c_AL_add0) [67, 71, 72, 73, 60] rfl (by decide +kernel))
set_option maxHeartbeats 4000000 in
set_option maxRecDepth 100000 in
theorem c_H_sort_2 (l : Launch) (eD eI : Nat) (ad : Nat → Nat) (dC : Nat → ClassId) (dI : Nat → Nat → Nat) (sz : Nat) (hh : Nat) (aexpr : Nat) (achoo : Nat) (ameth : Nat) (aroom : Nat) (anod : Nat) (asort : Nat) (anote : Nat) (amet : Nat) (nm : Nat) (nl : Nat) (n1 : Nat) (n2 : Nat) (nf : Nat) (ns : Nat) (nh : Nat) (nk : Nat) (np : Nat) (kI : ClassId) (kL : ClassId) (x2 : Int32) (x3 : Int32) (hx20 : ¬ x2 < 0) (hx21 : ¬ 2 < x2) (hx30 : ¬ x3 < 0) (hx31 : ¬ 2 < x3) : Met l yX11_sort w_c_H_sort_2 ({ frames := 5, cells := 3, slots := 31, locals := 101 }) (va_Pc [.ref hh, .int 2, .int x2, .int x3] (zPre eD eI ad (dC, dI) [(hh, .inr (13, [.ref aexpr, .ref achoo, .ref ameth, .ref aroom, .ref anod, .ref asort, .ref anote, .ref amet, .int 0, .int 1])), (asort, .inr (1, [.int 0, .ref eD, .int 0])), (anod, .inr (7, [.ref nm, .ref nl, .ref n1, .ref n2, .ref nf, .ref ns, .ref nh, .ref nk, .ref np, .int 16, .int 0, .int 16, .int 0, .int 0])), (ns, .inl (kL, 1024, .inr (.inl zSec))), (nm, .inl (kI, 12, .inl (fun _ => 0))), (nl, .inl (kI, 12, .inl (fun _ => 0))), (n1, .inl (kI, 12, .inl (fun _ => 0))), (n2, .inl (kI, 12, .inl (fun _ => 0)))] [(kL, .long), (kI, .int)] sz)) (va_Qi (fun (r : Int32) (_ : Unit) => r = 0) (fun (_ : Unit) => zEnd (dC, dI) (va_A [(hh, .inr (13, [.ref aexpr, .ref achoo, .ref ameth, .ref aroom, .ref anod, .ref asort, .ref anote, .ref amet, .int 0, .int 1])), (asort, .inr (1, [.int 0, .ref eD, .int 0])), (anod, .inr (7, [.ref nm, .ref nl, .ref n1, .ref n2, .ref nf, .ref ns, .ref nh, .ref nk, .ref np, .int 16, .int 0, .int 16, .int 0, .int 0])), (ns, .inl (kL, 1024, .inr (.inl zSec))), (nm, .inl (kI, 12, .inl (fun _ => 0))), (nl, .inl (kI, 12, .inl (fun _ => 0))), (n1, .inl (kI, 12, .inl (fun _ => 0))), (n2, .inl (kI, 12, .inl (fun _ => 0)))] sz) [] []) (va_A [(hh, .inr (13, [.ref aexpr, .ref achoo, .ref ameth, .ref aroom, .ref anod, .ref asort, .ref anote, .ref amet, .int 0, .int 1])), (asort, .inr (1, [.int 0, .ref eD, .int 0])), (anod, .inr (7, [.ref nm, .ref nl, .ref n1, .ref n2, .ref nf, .ref ns, .ref nh, .ref nk, .ref np, .int 16, .int 0, .int 16, .int 0, .int 0])), (ns, .inl (kL, 1024, .inr (.inl zSec))), (nm, .inl (kI, 12, .inl (fun _ => 0))), (nl, .inl (kI, 12, .inl (fun _ => 0))), (n1, .inl (kI, 12, .inl (fun _ => 0))), (n2, .inl (kI, 12, .inl (fun _ => 0)))] sz)) 3 31 (va_A [(hh, .inr (13, [.ref aexpr, .ref achoo, .ref ameth, .ref aroom, .ref anod, .ref asort, .ref anote, .ref amet, .int 0, .int 1])), (asort, .inr (1, [.int 0, .ref eD, .int 0])), (anod, .inr (7, [.ref nm, .ref nl, .ref n1, .ref n2, .ref nf, .ref ns, .ref nh, .ref nk, .ref np, .int 16, .int 0, .int 16, .int 0, .int 0])), (ns, .inl (kL, 1024, .inr (.inl zSec))), (nm, .inl (kI, 12, .inl (fun _ => 0))), (nl, .inl (kI, 12, .inl (fun _ => 0))), (n1, .inl (kI, 12, .inl (fun _ => 0))), (n2, .inl (kI, 12, .inl (fun _ => 0)))] sz) := by
  refine Met.ofW (cc := cX11_sort) (maxL := 6) (ret := (some .int)) (by decide) rfl ?_
  intro p e s m args below meth c s₁ B hml hv
  obtain ⟨rfl, hsz, hP, hK, hD0, hE⟩ := hv
  have hx := B.exec
  have hb := B.bytes
  have hr := B.returns
  have hts := atoms_spec (ws := w_c_H_sort_2) B.pre
  have hown : s.vm.findClass RX11 = some m.cls := findClass_of_methodNamed B.named
  have hlocks := B.notSynchronized
  subst hsz
  have hD := hD0.self (sz := s.heap.size)
  generalize hAe : va_A [(hh, .inr (13, [.ref aexpr, .ref achoo, .ref ameth, .ref aroom, .ref anod, .ref asort, .ref anote, .ref amet, .int 0, .int 1])), (asort, .inr (1, [.int 0, .ref eD, .int 0])), (anod, .inr (7, [.ref nm, .ref nl, .ref n1, .ref n2, .ref nf, .ref ns, .ref nh, .ref nk, .ref np, .int 16, .int 0, .int 16, .int 0, .int 0])), (ns, .inl (kL, 1024, .inr (.inl zSec))), (nm, .inl (kI, 12, .inl (fun _ => 0))), (nl, .inl (kI, 12, .inl (fun _ => 0))), (n1, .inl (kI, 12, .inl (fun _ => 0))), (n2, .inl (kI, 12, .inl (fun _ => 0)))] s.heap.size = A at hD hE ⊢
  have hA : ∀ q : Nat, s.heap.size ≤ q → A q := fun q h => by rw [← hAe]; exact Or.inr h
  have hS : va_S A s.heap s.heap [] := va_S.rf
  have hP : va_P (dC, dI) vwCl [(hh, .inr (13, [.ref aexpr, .ref achoo, .ref ameth, .ref aroom, .ref anod, .ref asort, .ref anote, .ref amet, .int 0, .int 1])), (asort, .inr (1, [.int 0, .ref eD, .int 0])), (anod, .inr (7, [.ref nm, .ref nl, .ref n1, .ref n2, .ref nf, .ref ns, .ref nh, .ref nk, .ref np, .int 16, .int 0, .int 16, .int 0, .int 0])), (ns, .inl (kL, 1024, .inr (.inl zSec))), (nm, .inl (kI, 12, .inl (fun _ => 0))), (nl, .inl (kI, 12, .inl (fun _ => 0))), (n1, .inl (kI, 12, .inl (fun _ => 0))), (n2, .inl (kI, 12, .inl (fun _ => 0)))] s.heap := hP
  have hl := lv_entry ([.ref hh, .int 2, .int x2, .int x3]) (n := 6) (Nat.le_of_ble_eq_true rfl)
  rw [lg_entry_eq]
  generalize (lg_sl ([.ref hh, .int 2, .int x2, .int x3]) ++ List.replicate (6 - (lg_sl ([.ref hh, .int 2, .int x2, .int x3])).length) Slot.unset).toArray = ls at hl ⊢
  have hl : lv_has ls 6 [(0, .ref hh), (1, .int 2), (2, .int x2), (3, .int x3)] := hl
  have in_RJx4a65c : ∀ w ∈ u_ws RJx4a65c TJx4a65c 3, w ∈ w_c_H_sort_2 := by decide +kernel
  have in_RX11 : ∀ w ∈ u_ws RX11 TX11 10, w ∈ w_c_H_sort_2 := by decide +kernel
  have in_RX5 : ∀ w ∈ u_ws RX5 TX5 14, w ∈ w_c_H_sort_2 := by decide +kernel
  have in_RX9 : ∀ w ∈ u_ws RX9 TX9 9, w ∈ w_c_H_sort_2 := by decide +kernel
  refine lv_iload_n hx hb dX11_sort_0 rfl (lv_at hl 1 rfl) ?_
  refine lv_if_lt (tgt := 37) hx hb dX11_sort_1 (by decide) (fun c_1 => ?_) (fun c_1 => ?_)
  · exact absurd c_1 (by decide)
  refine lv_iload_n hx hb dX11_sort_4 rfl (lv_at hl 1 rfl) ?_
  refine lv_iconst (v := 2) hx hb dX11_sort_5 (by decide) ?_
  refine lv_icmp_gt (tgt := 37) hx hb dX11_sort_6 (by decide) (fun c_2 => ?_) (fun c_2 => ?_)
  · exact absurd c_2 (by decide)
  refine lv_iload_n hx hb dX11_sort_9 rfl (lv_at hl 1 rfl) ?_
  refine lv_iconst (v := 1) hx hb dX11_sort_10 (by decide) ?_
  refine lv_icmp_lt (tgt := 21) hx hb dX11_sort_11 (by decide) (fun c_3 => ?_) (fun c_3 => ?_)
  · exact absurd c_3 (by decide)
  refine lv_iload_n hx hb dX11_sort_14 rfl (lv_at hl 2 rfl) ?_
  refine z_i (wr := [(hh, .inr (13, [.ref aexpr, .ref achoo, .ref ameth, .ref aroom, .ref anod, .ref asort, .ref anote, .ref amet, .int 0, .int 1])), (asort, .inr (1, [.int 0, .ref eD, .int 0])), (anod, .inr (7, [.ref nm, .ref nl, .ref n1, .ref n2, .ref nf, .ref ns, .ref nh, .ref nk, .ref np, .int 16, .int 0, .int 16, .int 0, .int 0])), (ns, .inl (kL, 1024, .inr (.inl zSec))), (nm, .inl (kI, 12, .inl (fun _ => 0))), (nl, .inl (kI, 12, .inl (fun _ => 0))), (n1, .inl (kI, 12, .inl (fun _ => 0))), (n2, .inl (kI, 12, .inl (fun _ => 0)))]) (va_runS (As := [.int x2]) (rest := []) ⟨hx, hb, hml, hown, hts⟩ (c_H_isHow_ok l eD eI ad dC dI s.heap.size x2 (hx20) (hx21)) (va_cwS 1 hts g_c_H_sort_2_0 rfl rfl rfl (by decide +kernel) ⟨Nat.le_of_ble_eq_true rfl, Nat.le_of_ble_eq_true rfl⟩) (z_preS (wc := []) hP hD hK hS hA hE [] [] rfl (by decide) rfl) rfl rfl hl.1 rfl (lv_room (Nat.le_of_ble_eq_true rfl)) dX11_sort_15 ⟨Nat.le_of_ble_eq_true rfl, Nat.le_of_ble_eq_true rfl⟩) hP hD hK hS hA [] [0, 1, 2, 3, 4, 5, 6, 7] rfl rfl (by decide) (by decide) (fun r_4 u H locs hw_5 hP hD hK hS => ?_)
  obtain ⟨⟩ := u
  have hP : va_P (dC, dI) vwCl [(hh, .inr (13, [.ref aexpr, .ref achoo, .ref ameth, .ref aroom, .ref anod, .ref asort, .ref anote, .ref amet, .int 0, .int 1])), (asort, .inr (1, [.int 0, .ref eD, .int 0])), (anod, .inr (7, [.ref nm, .ref nl, .ref n1, .ref n2, .ref nf, .ref ns, .ref nh, .ref nk, .ref np, .int 16, .int 0, .int 16, .int 0, .int 0])), (ns, .inl (kL, 1024, .inr (.inl zSec))), (nm, .inl (kI, 12, .inl (fun _ => 0))), (nl, .inl (kI, 12, .inl (fun _ => 0))), (n1, .inl (kI, 12, .inl (fun _ => 0))), (n2, .inl (kI, 12, .inl (fun _ => 0)))] H := hP
  have hD : va_D A [(hh, .inr (13, [.ref aexpr, .ref achoo, .ref ameth, .ref aroom, .ref anod, .ref asort, .ref anote, .ref amet, .int 0, .int 1])), (asort, .inr (1, [.int 0, .ref eD, .int 0])), (anod, .inr (7, [.ref nm, .ref nl, .ref n1, .ref n2, .ref nf, .ref ns, .ref nh, .ref nk, .ref np, .int 16, .int 0, .int 16, .int 0, .int 0])), (ns, .inl (kL, 1024, .inr (.inl zSec))), (nm, .inl (kI, 12, .inl (fun _ => 0))), (nl, .inl (kI, 12, .inl (fun _ => 0))), (n1, .inl (kI, 12, .inl (fun _ => 0))), (n2, .inl (kI, 12, .inl (fun _ => 0)))] := hD
  have hK : va_K (dC, dI) vwCl [(kL, .long), (kI, .int)] s := by simpa using hK
  have hw_5 : r_4 = 1 := hw_5
  have hw_5 := hw_5.symm
  subst hw_5
  refine lv_if_eq (tgt := 37) hx hb dX11_sort_18 (by decide) (fun c_6 => ?_) (fun c_6 => ?_)
  · exact absurd c_6 (by decide)
  refine lv_iload_n hx hb dX11_sort_21 rfl (lv_at hl 1 rfl) ?_
  refine lv_iconst (v := 2) hx hb dX11_sort_22 (by decide) ?_
  refine lv_icmp_lt (tgt := 33) hx hb dX11_sort_23 (by decide) (fun c_7 => ?_) (fun c_7 => ?_)
  · exact absurd c_7 (by decide)
  refine lv_iload_n hx hb dX11_sort_26 rfl (lv_at hl 3 rfl) ?_
  refine z_i (wr := [(hh, .inr (13, [.ref aexpr, .ref achoo, .ref ameth, .ref aroom, .ref anod, .ref asort, .ref anote, .ref amet, .int 0, .int 1])), (asort, .inr (1, [.int 0, .ref eD, .int 0])), (anod, .inr (7, [.ref nm, .ref nl, .ref n1, .ref n2, .ref nf, .ref ns, .ref nh, .ref nk, .ref np, .int 16, .int 0, .int 16, .int 0, .int 0])), (ns, .inl (kL, 1024, .inr (.inl zSec))), (nm, .inl (kI, 12, .inl (fun _ => 0))), (nl, .inl (kI, 12, .inl (fun _ => 0))), (n1, .inl (kI, 12, .inl (fun _ => 0))), (n2, .inl (kI, 12, .inl (fun _ => 0)))]) (va_runS (As := [.int x3]) (rest := []) ⟨hx, hb, hml, hown, hts⟩ (c_H_isHow_ok l eD eI ad dC dI H.size x3 (hx30) (hx31)) (va_cwS 1 hts g_c_H_sort_2_0 rfl rfl rfl (by decide +kernel) ⟨Nat.le_of_ble_eq_true rfl, Nat.le_of_ble_eq_true rfl⟩) (z_preS (wc := []) hP hD hK hS hA hE [] [] rfl (by decide) rfl) rfl rfl hl.1 rfl (lv_room (Nat.le_of_ble_eq_true rfl)) dX11_sort_27 ⟨Nat.le_of_ble_eq_true rfl, Nat.le_of_ble_eq_true rfl⟩) hP hD hK hS hA [] [0, 1, 2, 3, 4, 5, 6, 7] rfl rfl (by decide) (by decide) (fun r_8 u H locs hw_9 hP hD hK hS => ?_)
  obtain ⟨⟩ := u
  have hP : va_P (dC, dI) vwCl [(hh, .inr (13, [.ref aexpr, .ref achoo, .ref ameth, .ref aroom, .ref anod, .ref asort, .ref anote, .ref amet, .int 0, .int 1])), (asort, .inr (1, [.int 0, .ref eD, .int 0])), (anod, .inr (7, [.ref nm, .ref nl, .ref n1, .ref n2, .ref nf, .ref ns, .ref nh, .ref nk, .ref np, .int 16, .int 0, .int 16, .int 0, .int 0])), (ns, .inl (kL, 1024, .inr (.inl zSec))), (nm, .inl (kI, 12, .inl (fun _ => 0))), (nl, .inl (kI, 12, .inl (fun _ => 0))), (n1, .inl (kI, 12, .inl (fun _ => 0))), (n2, .inl (kI, 12, .inl (fun _ => 0)))] H := hP
  have hD : va_D A [(hh, .inr (13, [.ref aexpr, .ref achoo, .ref ameth, .ref aroom, .ref anod, .ref asort, .ref anote, .ref amet, .int 0, .int 1])), (asort, .inr (1, [.int 0, .ref eD, .int 0])), (anod, .inr (7, [.ref nm, .ref nl, .ref n1, .ref n2, .ref nf, .ref ns, .ref nh, .ref nk, .ref np, .int 16, .int 0, .int 16, .int 0, .int 0])), (ns, .inl (kL, 1024, .inr (.inl zSec))), (nm, .inl (kI, 12, .inl (fun _ => 0))), (nl, .inl (kI, 12, .inl (fun _ => 0))), (n1, .inl (kI, 12, .inl (fun _ => 0))), (n2, .inl (kI, 12, .inl (fun _ => 0)))] := hD
  have hK : va_K (dC, dI) vwCl [(kL, .long), (kI, .int)] s := by simpa using hK
  have hw_9 : r_8 = 1 := hw_9
  have hw_9 := hw_9.symm
  subst hw_9
  refine lv_if_eq (tgt := 37) hx hb dX11_sort_30 (by decide) (fun c_10 => ?_) (fun c_10 => ?_)
  · exact absurd c_10 (by decide)
  refine lv_iconst (v := 1) hx hb dX11_sort_33 (by decide) ?_
  refine lv_goto (tgt := 38) hx hb dX11_sort_34 (by decide) ?_
  refine lv_istore (lv' := [(4, .int 1), (0, .ref hh), (1, .int 2), (2, .int x2), (3, .int x3)]) hx hb dX11_sort_38 hl (by decide) rfl (fun ls hl => ?_)
  refine lv_iload hx hb dX11_sort_40 (lv_at hl 0 rfl) ?_
  refine lv_if_ne (tgt := 55) hx hb dX11_sort_42 (by decide) (fun c_11 => ?_) (fun c_11 => ?_)
  rotate_left
  · exact absurd c_11 (by decide)
  refine lv_aload_n hx hb dX11_sort_55 rfl (lv_at hl 1 rfl) ?_
  refine va_get (D := (dC, dI)) (ci := 13) (v := .ref asort) (C := RX11) (T := TX11) (N := 10) hx hb hts in_RX11 hown hK hP 0 rfl rfl 5 (by decide) (hts (.fieldLink RX11 42 "Hornbook" "sorts" "Ljava/util/ArrayList;") (by decide +kernel)) (fun _ h9 => h9) rfl dX11_sort_56 ?_
  refine z_i (wr := [(hh, .inr (13, [.ref aexpr, .ref achoo, .ref ameth, .ref aroom, .ref anod, .ref asort, .ref anote, .ref amet, .int 0, .int 1])), (anod, .inr (7, [.ref nm, .ref nl, .ref n1, .ref n2, .ref nf, .ref ns, .ref nh, .ref nk, .ref np, .int 16, .int 0, .int 16, .int 0, .int 0])), (ns, .inl (kL, 1024, .inr (.inl zSec))), (nm, .inl (kI, 12, .inl (fun _ => 0))), (nl, .inl (kI, 12, .inl (fun _ => 0))), (n1, .inl (kI, 12, .inl (fun _ => 0))), (n2, .inl (kI, 12, .inl (fun _ => 0)))]) (va_runV (As := []) (rest := []) ⟨hx, hb, hml, hown, hts⟩ (c_AL_size l eD eI ad dC dI H.size asort ((.int 0)) ((.ref eD)) 0) (cwV 0 hts g_c_H_sort_2_1 rfl rfl rfl (by decide +kernel) ⟨Nat.le_of_ble_eq_true rfl, Nat.le_of_ble_eq_true rfl⟩) (z_preV (wc := [(asort, .inr (1, [.int 0, .ref eD, .int 0]))]) hP hD hK hS hA hE [1] [] rfl (by decide) rfl (ci := 1) (q0 := 0) rfl rfl) rfl rfl hl.1 rfl (lv_room (Nat.le_of_ble_eq_true rfl)) dX11_sort_59 ⟨Nat.le_of_ble_eq_true rfl, Nat.le_of_ble_eq_true rfl⟩) hP hD hK hS hA [1] [0, 2, 3, 4, 5, 6, 7] rfl rfl (by decide) (by decide) (fun r_12 u H locs hw_13 hP hD hK hS => ?_)
  obtain ⟨⟩ := u
  have hP : va_P (dC, dI) vwCl [(hh, .inr (13, [.ref aexpr, .ref achoo, .ref ameth, .ref aroom, .ref anod, .ref asort, .ref anote, .ref amet, .int 0, .int 1])), (anod, .inr (7, [.ref nm, .ref nl, .ref n1, .ref n2, .ref nf, .ref ns, .ref nh, .ref nk, .ref np, .int 16, .int 0, .int 16, .int 0, .int 0])), (ns, .inl (kL, 1024, .inr (.inl zSec))), (nm, .inl (kI, 12, .inl (fun _ => 0))), (nl, .inl (kI, 12, .inl (fun _ => 0))), (n1, .inl (kI, 12, .inl (fun _ => 0))), (n2, .inl (kI, 12, .inl (fun _ => 0))), (asort, .inr (1, [.int 0, .ref eD, .int 0]))] H := hP
  have hD : va_D A [(hh, .inr (13, [.ref aexpr, .ref achoo, .ref ameth, .ref aroom, .ref anod, .ref asort, .ref anote, .ref amet, .int 0, .int 1])), (anod, .inr (7, [.ref nm, .ref nl, .ref n1, .ref n2, .ref nf, .ref ns, .ref nh, .ref nk, .ref np, .int 16, .int 0, .int 16, .int 0, .int 0])), (ns, .inl (kL, 1024, .inr (.inl zSec))), (nm, .inl (kI, 12, .inl (fun _ => 0))), (nl, .inl (kI, 12, .inl (fun _ => 0))), (n1, .inl (kI, 12, .inl (fun _ => 0))), (n2, .inl (kI, 12, .inl (fun _ => 0))), (asort, .inr (1, [.int 0, .ref eD, .int 0]))] := hD
  have hK : va_K (dC, dI) vwCl [(kL, .long), (kI, .int)] s := by simpa using hK
  have hw_13 : r_12 = 0 := hw_13
  have hw_13 := hw_13.symm
  subst hw_13
  refine lv_bipush (v := 12) hx hb dX11_sort_62 (by decide) ?_
  refine lv_icmp_lt (tgt := 77) hx hb dX11_sort_64 (by decide) (fun c_14 => ?_) (fun c_14 => ?_)
  rotate_left
  · exact absurd (by decide) c_14
  refine va_new (ci := 11) (fs := [.int 0, .int 0, .int 0, .int 0, .int 0, .int 0, .int 0, .null, .int 0]) (C := RX9) (T := TX9) (N := 9) hx hb hts in_RX9 tyX9 tyX9_ok hown (hts (.classLink RX11 82 RX9) (by decide +kernel)) (hts (.instantiable RX9 9) (by decide +kernel)) (hts (.initialized RX9) (by decide +kernel)) hK hP hD hS hA rfl (fun j hj => by rcases (show j = 0 ∨ j = 1 ∨ j = 2 ∨ j = 3 ∨ j = 4 ∨ j = 5 ∨ j = 6 ∨ j = 7 ∨ j = 8 by omega) with rfl | rfl | rfl | rfl | rfl | rfl | rfl | rfl | rfl <;> rfl) (Nat.le_of_ble_eq_true rfl) (Nat.le_of_ble_eq_true rfl) dX11_sort_77 (fun q_15 H hP hD hS => ?_)
  have hP : va_P (dC, dI) vwCl [(hh, .inr (13, [.ref aexpr, .ref achoo, .ref ameth, .ref aroom, .ref anod, .ref asort, .ref anote, .ref amet, .int 0, .int 1])), (anod, .inr (7, [.ref nm, .ref nl, .ref n1, .ref n2, .ref nf, .ref ns, .ref nh, .ref nk, .ref np, .int 16, .int 0, .int 16, .int 0, .int 0])), (ns, .inl (kL, 1024, .inr (.inl zSec))), (nm, .inl (kI, 12, .inl (fun _ => 0))), (nl, .inl (kI, 12, .inl (fun _ => 0))), (n1, .inl (kI, 12, .inl (fun _ => 0))), (n2, .inl (kI, 12, .inl (fun _ => 0))), (asort, .inr (1, [.int 0, .ref eD, .int 0])), (q_15, .inr (11, [.int 0, .int 0, .int 0, .int 0, .int 0, .int 0, .int 0, .null, .int 0]))] H := hP
  have hD : va_D A [(hh, .inr (13, [.ref aexpr, .ref achoo, .ref ameth, .ref aroom, .ref anod, .ref asort, .ref anote, .ref amet, .int 0, .int 1])), (anod, .inr (7, [.ref nm, .ref nl, .ref n1, .ref n2, .ref nf, .ref ns, .ref nh, .ref nk, .ref np, .int 16, .int 0, .int 16, .int 0, .int 0])), (ns, .inl (kL, 1024, .inr (.inl zSec))), (nm, .inl (kI, 12, .inl (fun _ => 0))), (nl, .inl (kI, 12, .inl (fun _ => 0))), (n1, .inl (kI, 12, .inl (fun _ => 0))), (n2, .inl (kI, 12, .inl (fun _ => 0))), (asort, .inr (1, [.int 0, .ref eD, .int 0])), (q_15, .inr (11, [.int 0, .int 0, .int 0, .int 0, .int 0, .int 0, .int 0, .null, .int 0]))] := hD
  refine lv_dup hx hb dX11_sort_80 rfl ?_
  refine z_v (wr := [(hh, .inr (13, [.ref aexpr, .ref achoo, .ref ameth, .ref aroom, .ref anod, .ref asort, .ref anote, .ref amet, .int 0, .int 1])), (anod, .inr (7, [.ref nm, .ref nl, .ref n1, .ref n2, .ref nf, .ref ns, .ref nh, .ref nk, .ref np, .int 16, .int 0, .int 16, .int 0, .int 0])), (ns, .inl (kL, 1024, .inr (.inl zSec))), (nm, .inl (kI, 12, .inl (fun _ => 0))), (nl, .inl (kI, 12, .inl (fun _ => 0))), (n1, .inl (kI, 12, .inl (fun _ => 0))), (n2, .inl (kI, 12, .inl (fun _ => 0))), (asort, .inr (1, [.int 0, .ref eD, .int 0]))]) (va_runIN (As := []) (rest := [.ref q_15]) ⟨hx, hb, hml, hown, hts⟩ (c_S_new l eD eI ad dC dI H.size q_15) (⟨va_cnB 0 hts g_c_H_sort_2_2 rfl rfl rfl (hE.2.2.1 (.methodLinkNest RX11 84 yX9_init "Hornbook") (by decide +kernel)) (hts (.initialized RX9) (by decide +kernel)) (by decide +kernel) ⟨Nat.le_of_ble_eq_true rfl, Nat.le_of_ble_eq_true rfl⟩, rfl, (hts (.instanceMethod yX9_init) (by decide +kernel))⟩) (z_preS (wc := [(q_15, .inr (11, [.int 0, .int 0, .int 0, .int 0, .int 0, .int 0, .int 0, .null, .int 0]))]) hP hD hK hS hA hE [8] [] rfl (by decide) rfl) rfl rfl hl.1 rfl (lv_room (Nat.le_of_ble_eq_true rfl)) dX11_sort_81 ⟨Nat.le_of_ble_eq_true rfl, Nat.le_of_ble_eq_true rfl⟩) hP hD hK hS hA [8] [0, 1, 2, 3, 4, 5, 6, 7] rfl rfl (by decide) (by decide) (fun u H locs hw_19 hP hD hK hS => ?_)
  obtain ⟨u_16, u_17⟩ := u
  have hP : va_P (dC, dI) vwCl [(hh, .inr (13, [.ref aexpr, .ref achoo, .ref ameth, .ref aroom, .ref anod, .ref asort, .ref anote, .ref amet, .int 0, .int 1])), (anod, .inr (7, [.ref nm, .ref nl, .ref n1, .ref n2, .ref nf, .ref ns, .ref nh, .ref nk, .ref np, .int 16, .int 0, .int 16, .int 0, .int 0])), (ns, .inl (kL, 1024, .inr (.inl zSec))), (nm, .inl (kI, 12, .inl (fun _ => 0))), (nl, .inl (kI, 12, .inl (fun _ => 0))), (n1, .inl (kI, 12, .inl (fun _ => 0))), (n2, .inl (kI, 12, .inl (fun _ => 0))), (asort, .inr (1, [.int 0, .ref eD, .int 0])), (q_15, .inr (11, [.int 0, .int 0, .int 0, .int 0, .int (-1), .int (-1), .int 0, .ref u_16, .int 0])), (u_16, .inl (u_17, 12, .inl (fun _ => 0)))] H := hP
  have hD : va_D A [(hh, .inr (13, [.ref aexpr, .ref achoo, .ref ameth, .ref aroom, .ref anod, .ref asort, .ref anote, .ref amet, .int 0, .int 1])), (anod, .inr (7, [.ref nm, .ref nl, .ref n1, .ref n2, .ref nf, .ref ns, .ref nh, .ref nk, .ref np, .int 16, .int 0, .int 16, .int 0, .int 0])), (ns, .inl (kL, 1024, .inr (.inl zSec))), (nm, .inl (kI, 12, .inl (fun _ => 0))), (nl, .inl (kI, 12, .inl (fun _ => 0))), (n1, .inl (kI, 12, .inl (fun _ => 0))), (n2, .inl (kI, 12, .inl (fun _ => 0))), (asort, .inr (1, [.int 0, .ref eD, .int 0])), (q_15, .inr (11, [.int 0, .int 0, .int 0, .int 0, .int (-1), .int (-1), .int 0, .ref u_16, .int 0])), (u_16, .inl (u_17, 12, .inl (fun _ => 0)))] := hD
  have hK : va_K (dC, dI) vwCl [(kL, .long), (kI, .int), (u_17, .int)] s := hK
  refine lv_astore (lv' := [(5, .ref q_15), (4, .int 1), (0, .ref hh), (1, .int 2), (2, .int x2), (3, .int x3)]) hx hb dX11_sort_84 hl (by decide) rfl (fun ls hl => ?_)
  refine lv_aload hx hb dX11_sort_86 (lv_at hl 0 rfl) ?_
  refine lv_aload_n hx hb dX11_sort_88 rfl (lv_at hl 2 rfl) ?_
  refine va_get (D := (dC, dI)) (ci := 13) (v := .ref asort) (C := RX11) (T := TX11) (N := 10) hx hb hts in_RX11 hown hK hP 0 rfl rfl 5 (by decide) (hts (.fieldLink RX11 42 "Hornbook" "sorts" "Ljava/util/ArrayList;") (by decide +kernel)) (fun _ h9 => h9) rfl dX11_sort_89 ?_
  refine z_i (wr := [(hh, .inr (13, [.ref aexpr, .ref achoo, .ref ameth, .ref aroom, .ref anod, .ref asort, .ref anote, .ref amet, .int 0, .int 1])), (anod, .inr (7, [.ref nm, .ref nl, .ref n1, .ref n2, .ref nf, .ref ns, .ref nh, .ref nk, .ref np, .int 16, .int 0, .int 16, .int 0, .int 0])), (ns, .inl (kL, 1024, .inr (.inl zSec))), (nm, .inl (kI, 12, .inl (fun _ => 0))), (nl, .inl (kI, 12, .inl (fun _ => 0))), (n1, .inl (kI, 12, .inl (fun _ => 0))), (n2, .inl (kI, 12, .inl (fun _ => 0))), (q_15, .inr (11, [.int 0, .int 0, .int 0, .int 0, .int (-1), .int (-1), .int 0, .ref u_16, .int 0])), (u_16, .inl (u_17, 12, .inl (fun _ => 0)))]) (va_runV (As := []) (rest := [.ref q_15]) ⟨hx, hb, hml, hown, hts⟩ (c_AL_size l eD eI ad dC dI H.size asort ((.int 0)) ((.ref eD)) 0) (cwV 0 hts g_c_H_sort_2_1 rfl rfl rfl (by decide +kernel) ⟨Nat.le_of_ble_eq_true rfl, Nat.le_of_ble_eq_true rfl⟩) (z_preV (wc := [(asort, .inr (1, [.int 0, .ref eD, .int 0]))]) hP hD hK hS hA hE [7] [] rfl (by decide) rfl (ci := 1) (q0 := 0) rfl rfl) rfl rfl hl.1 rfl (lv_room (Nat.le_of_ble_eq_true rfl)) dX11_sort_92 ⟨Nat.le_of_ble_eq_true rfl, Nat.le_of_ble_eq_true rfl⟩) hP hD hK hS hA [7] [0, 1, 2, 3, 4, 5, 6, 8, 9] rfl rfl (by decide) (by decide) (fun r_20 u H locs hw_21 hP hD hK hS => ?_)
  obtain ⟨⟩ := u
  have hP : va_P (dC, dI) vwCl [(hh, .inr (13, [.ref aexpr, .ref achoo, .ref ameth, .ref aroom, .ref anod, .ref asort, .ref anote, .ref amet, .int 0, .int 1])), (anod, .inr (7, [.ref nm, .ref nl, .ref n1, .ref n2, .ref nf, .ref ns, .ref nh, .ref nk, .ref np, .int 16, .int 0, .int 16, .int 0, .int 0])), (ns, .inl (kL, 1024, .inr (.inl zSec))), (nm, .inl (kI, 12, .inl (fun _ => 0))), (nl, .inl (kI, 12, .inl (fun _ => 0))), (n1, .inl (kI, 12, .inl (fun _ => 0))), (n2, .inl (kI, 12, .inl (fun _ => 0))), (q_15, .inr (11, [.int 0, .int 0, .int 0, .int 0, .int (-1), .int (-1), .int 0, .ref u_16, .int 0])), (u_16, .inl (u_17, 12, .inl (fun _ => 0))), (asort, .inr (1, [.int 0, .ref eD, .int 0]))] H := hP
  have hD : va_D A [(hh, .inr (13, [.ref aexpr, .ref achoo, .ref ameth, .ref aroom, .ref anod, .ref asort, .ref anote, .ref amet, .int 0, .int 1])), (anod, .inr (7, [.ref nm, .ref nl, .ref n1, .ref n2, .ref nf, .ref ns, .ref nh, .ref nk, .ref np, .int 16, .int 0, .int 16, .int 0, .int 0])), (ns, .inl (kL, 1024, .inr (.inl zSec))), (nm, .inl (kI, 12, .inl (fun _ => 0))), (nl, .inl (kI, 12, .inl (fun _ => 0))), (n1, .inl (kI, 12, .inl (fun _ => 0))), (n2, .inl (kI, 12, .inl (fun _ => 0))), (q_15, .inr (11, [.int 0, .int 0, .int 0, .int 0, .int (-1), .int (-1), .int 0, .ref u_16, .int 0])), (u_16, .inl (u_17, 12, .inl (fun _ => 0))), (asort, .inr (1, [.int 0, .ref eD, .int 0]))] := hD
  have hK : va_K (dC, dI) vwCl [(kL, .long), (kI, .int), (u_17, .int)] s := by simpa using hK
  have hw_21 : r_20 = 0 := hw_21
  have hw_21 := hw_21.symm
  subst hw_21
  refine va_put (D := (dC, dI)) (ci := 11) (v := .int 0) (ty := .int) (C := RX9) (T := TX9) (N := 9) hx hb hts in_RX9 tyX9 tyX9_ok nmX9 hown hK hP hD hS 7 rfl rfl 0 (by decide) (hts (.fieldLink RX11 85 "Hornbook$Sort" "number" "I") (by decide +kernel)) (fun _ h9 => h9) rfl (by decide +kernel) rfl rfl (Nat.le_of_ble_eq_true rfl) dX11_sort_95 (fun H locs hP hD hS => ?_)
  have hP : va_P (dC, dI) vwCl [(hh, .inr (13, [.ref aexpr, .ref achoo, .ref ameth, .ref aroom, .ref anod, .ref asort, .ref anote, .ref amet, .int 0, .int 1])), (anod, .inr (7, [.ref nm, .ref nl, .ref n1, .ref n2, .ref nf, .ref ns, .ref nh, .ref nk, .ref np, .int 16, .int 0, .int 16, .int 0, .int 0])), (ns, .inl (kL, 1024, .inr (.inl zSec))), (nm, .inl (kI, 12, .inl (fun _ => 0))), (nl, .inl (kI, 12, .inl (fun _ => 0))), (n1, .inl (kI, 12, .inl (fun _ => 0))), (n2, .inl (kI, 12, .inl (fun _ => 0))), (q_15, .inr (11, [.int 0, .int 0, .int 0, .int 0, .int (-1), .int (-1), .int 0, .ref u_16, .int 0])), (u_16, .inl (u_17, 12, .inl (fun _ => 0))), (asort, .inr (1, [.int 0, .ref eD, .int 0]))] H := hP
  have hD : va_D A [(hh, .inr (13, [.ref aexpr, .ref achoo, .ref ameth, .ref aroom, .ref anod, .ref asort, .ref anote, .ref amet, .int 0, .int 1])), (anod, .inr (7, [.ref nm, .ref nl, .ref n1, .ref n2, .ref nf, .ref ns, .ref nh, .ref nk, .ref np, .int 16, .int 0, .int 16, .int 0, .int 0])), (ns, .inl (kL, 1024, .inr (.inl zSec))), (nm, .inl (kI, 12, .inl (fun _ => 0))), (nl, .inl (kI, 12, .inl (fun _ => 0))), (n1, .inl (kI, 12, .inl (fun _ => 0))), (n2, .inl (kI, 12, .inl (fun _ => 0))), (q_15, .inr (11, [.int 0, .int 0, .int 0, .int 0, .int (-1), .int (-1), .int 0, .ref u_16, .int 0])), (u_16, .inl (u_17, 12, .inl (fun _ => 0))), (asort, .inr (1, [.int 0, .ref eD, .int 0]))] := hD
  refine lv_aload hx hb dX11_sort_98 (lv_at hl 0 rfl) ?_
  refine lv_iload_n hx hb dX11_sort_100 rfl (lv_at hl 3 rfl) ?_
  refine va_put (D := (dC, dI)) (ci := 11) (v := .int 2) (ty := .int) (C := RX9) (T := TX9) (N := 9) hx hb hts in_RX9 tyX9 tyX9_ok nmX9 hown hK hP hD hS 7 rfl rfl 1 (by decide) (hts (.fieldLink RX11 88 "Hornbook$Sort" "many" "I") (by decide +kernel)) (fun _ h9 => h9) rfl (by decide +kernel) rfl rfl (Nat.le_of_ble_eq_true rfl) dX11_sort_101 (fun H locs hP hD hS => ?_)
  have hP : va_P (dC, dI) vwCl [(hh, .inr (13, [.ref aexpr, .ref achoo, .ref ameth, .ref aroom, .ref anod, .ref asort, .ref anote, .ref amet, .int 0, .int 1])), (anod, .inr (7, [.ref nm, .ref nl, .ref n1, .ref n2, .ref nf, .ref ns, .ref nh, .ref nk, .ref np, .int 16, .int 0, .int 16, .int 0, .int 0])), (ns, .inl (kL, 1024, .inr (.inl zSec))), (nm, .inl (kI, 12, .inl (fun _ => 0))), (nl, .inl (kI, 12, .inl (fun _ => 0))), (n1, .inl (kI, 12, .inl (fun _ => 0))), (n2, .inl (kI, 12, .inl (fun _ => 0))), (q_15, .inr (11, [.int 0, .int 2, .int 0, .int 0, .int (-1), .int (-1), .int 0, .ref u_16, .int 0])), (u_16, .inl (u_17, 12, .inl (fun _ => 0))), (asort, .inr (1, [.int 0, .ref eD, .int 0]))] H := hP
  have hD : va_D A [(hh, .inr (13, [.ref aexpr, .ref achoo, .ref ameth, .ref aroom, .ref anod, .ref asort, .ref anote, .ref amet, .int 0, .int 1])), (anod, .inr (7, [.ref nm, .ref nl, .ref n1, .ref n2, .ref nf, .ref ns, .ref nh, .ref nk, .ref np, .int 16, .int 0, .int 16, .int 0, .int 0])), (ns, .inl (kL, 1024, .inr (.inl zSec))), (nm, .inl (kI, 12, .inl (fun _ => 0))), (nl, .inl (kI, 12, .inl (fun _ => 0))), (n1, .inl (kI, 12, .inl (fun _ => 0))), (n2, .inl (kI, 12, .inl (fun _ => 0))), (q_15, .inr (11, [.int 0, .int 2, .int 0, .int 0, .int (-1), .int (-1), .int 0, .ref u_16, .int 0])), (u_16, .inl (u_17, 12, .inl (fun _ => 0))), (asort, .inr (1, [.int 0, .ref eD, .int 0]))] := hD
  refine lv_aload hx hb dX11_sort_104 (lv_at hl 0 rfl) ?_
  refine lv_iload_n hx hb dX11_sort_106 rfl (lv_at hl 3 rfl) ?_
  refine lv_iconst (v := 1) hx hb dX11_sort_107 (by decide) ?_
  refine lv_icmp_ge (tgt := 115) hx hb dX11_sort_108 (by decide) (fun c_22 => ?_) (fun c_22 => ?_)
  rotate_left
  · exact absurd (by decide) c_22
  refine lv_iload_n hx hb dX11_sort_115 rfl (lv_at hl 4 rfl) ?_
  refine va_put (D := (dC, dI)) (ci := 11) (v := .int x2) (ty := .int) (C := RX9) (T := TX9) (N := 9) hx hb hts in_RX9 tyX9 tyX9_ok nmX9 hown hK hP hD hS 7 rfl rfl 2 (by decide) (hts (.fieldLink RX11 91 "Hornbook$Sort" "howOne" "I") (by decide +kernel)) (fun _ h9 => h9) rfl (by decide +kernel) rfl rfl (Nat.le_of_ble_eq_true rfl) dX11_sort_116 (fun H locs hP hD hS => ?_)
  have hP : va_P (dC, dI) vwCl [(hh, .inr (13, [.ref aexpr, .ref achoo, .ref ameth, .ref aroom, .ref anod, .ref asort, .ref anote, .ref amet, .int 0, .int 1])), (anod, .inr (7, [.ref nm, .ref nl, .ref n1, .ref n2, .ref nf, .ref ns, .ref nh, .ref nk, .ref np, .int 16, .int 0, .int 16, .int 0, .int 0])), (ns, .inl (kL, 1024, .inr (.inl zSec))), (nm, .inl (kI, 12, .inl (fun _ => 0))), (nl, .inl (kI, 12, .inl (fun _ => 0))), (n1, .inl (kI, 12, .inl (fun _ => 0))), (n2, .inl (kI, 12, .inl (fun _ => 0))), (q_15, .inr (11, [.int 0, .int 2, .int x2, .int 0, .int (-1), .int (-1), .int 0, .ref u_16, .int 0])), (u_16, .inl (u_17, 12, .inl (fun _ => 0))), (asort, .inr (1, [.int 0, .ref eD, .int 0]))] H := hP
  have hD : va_D A [(hh, .inr (13, [.ref aexpr, .ref achoo, .ref ameth, .ref aroom, .ref anod, .ref asort, .ref anote, .ref amet, .int 0, .int 1])), (anod, .inr (7, [.ref nm, .ref nl, .ref n1, .ref n2, .ref nf, .ref ns, .ref nh, .ref nk, .ref np, .int 16, .int 0, .int 16, .int 0, .int 0])), (ns, .inl (kL, 1024, .inr (.inl zSec))), (nm, .inl (kI, 12, .inl (fun _ => 0))), (nl, .inl (kI, 12, .inl (fun _ => 0))), (n1, .inl (kI, 12, .inl (fun _ => 0))), (n2, .inl (kI, 12, .inl (fun _ => 0))), (q_15, .inr (11, [.int 0, .int 2, .int x2, .int 0, .int (-1), .int (-1), .int 0, .ref u_16, .int 0])), (u_16, .inl (u_17, 12, .inl (fun _ => 0))), (asort, .inr (1, [.int 0, .ref eD, .int 0]))] := hD
  refine lv_aload hx hb dX11_sort_119 (lv_at hl 0 rfl) ?_
  refine lv_iload_n hx hb dX11_sort_121 rfl (lv_at hl 3 rfl) ?_
  refine lv_iconst (v := 2) hx hb dX11_sort_122 (by decide) ?_
  refine lv_icmp_ge (tgt := 130) hx hb dX11_sort_123 (by decide) (fun c_23 => ?_) (fun c_23 => ?_)
  rotate_left
  · exact absurd (by decide) c_23
  refine lv_iload_n hx hb dX11_sort_130 rfl (lv_at hl 5 rfl) ?_
  refine va_put (D := (dC, dI)) (ci := 11) (v := .int x3) (ty := .int) (C := RX9) (T := TX9) (N := 9) hx hb hts in_RX9 tyX9 tyX9_ok nmX9 hown hK hP hD hS 7 rfl rfl 3 (by decide) (hts (.fieldLink RX11 94 "Hornbook$Sort" "howOther" "I") (by decide +kernel)) (fun _ h9 => h9) rfl (by decide +kernel) rfl rfl (Nat.le_of_ble_eq_true rfl) dX11_sort_131 (fun H locs hP hD hS => ?_)
  have hP : va_P (dC, dI) vwCl [(hh, .inr (13, [.ref aexpr, .ref achoo, .ref ameth, .ref aroom, .ref anod, .ref asort, .ref anote, .ref amet, .int 0, .int 1])), (anod, .inr (7, [.ref nm, .ref nl, .ref n1, .ref n2, .ref nf, .ref ns, .ref nh, .ref nk, .ref np, .int 16, .int 0, .int 16, .int 0, .int 0])), (ns, .inl (kL, 1024, .inr (.inl zSec))), (nm, .inl (kI, 12, .inl (fun _ => 0))), (nl, .inl (kI, 12, .inl (fun _ => 0))), (n1, .inl (kI, 12, .inl (fun _ => 0))), (n2, .inl (kI, 12, .inl (fun _ => 0))), (q_15, .inr (11, [.int 0, .int 2, .int x2, .int x3, .int (-1), .int (-1), .int 0, .ref u_16, .int 0])), (u_16, .inl (u_17, 12, .inl (fun _ => 0))), (asort, .inr (1, [.int 0, .ref eD, .int 0]))] H := hP
  have hD : va_D A [(hh, .inr (13, [.ref aexpr, .ref achoo, .ref ameth, .ref aroom, .ref anod, .ref asort, .ref anote, .ref amet, .int 0, .int 1])), (anod, .inr (7, [.ref nm, .ref nl, .ref n1, .ref n2, .ref nf, .ref ns, .ref nh, .ref nk, .ref np, .int 16, .int 0, .int 16, .int 0, .int 0])), (ns, .inl (kL, 1024, .inr (.inl zSec))), (nm, .inl (kI, 12, .inl (fun _ => 0))), (nl, .inl (kI, 12, .inl (fun _ => 0))), (n1, .inl (kI, 12, .inl (fun _ => 0))), (n2, .inl (kI, 12, .inl (fun _ => 0))), (q_15, .inr (11, [.int 0, .int 2, .int x2, .int x3, .int (-1), .int (-1), .int 0, .ref u_16, .int 0])), (u_16, .inl (u_17, 12, .inl (fun _ => 0))), (asort, .inr (1, [.int 0, .ref eD, .int 0]))] := hD
  refine lv_aload hx hb dX11_sort_134 (lv_at hl 0 rfl) ?_
  refine z_v (wr := [(hh, .inr (13, [.ref aexpr, .ref achoo, .ref ameth, .ref aroom, .ref anod, .ref asort, .ref anote, .ref amet, .int 0, .int 1])), (anod, .inr (7, [.ref nm, .ref nl, .ref n1, .ref n2, .ref nf, .ref ns, .ref nh, .ref nk, .ref np, .int 16, .int 0, .int 16, .int 0, .int 0])), (ns, .inl (kL, 1024, .inr (.inl zSec))), (nm, .inl (kI, 12, .inl (fun _ => 0))), (nl, .inl (kI, 12, .inl (fun _ => 0))), (n1, .inl (kI, 12, .inl (fun _ => 0))), (n2, .inl (kI, 12, .inl (fun _ => 0))), (asort, .inr (1, [.int 0, .ref eD, .int 0]))]) (va_runV (As := []) (rest := []) ⟨hx, hb, hml, hown, hts⟩ (c_S_startWay l eD eI ad dC dI H.size q_15 u_16 u_17 2 x2 x3) (cwV 0 hts g_c_H_sort_2_3 rfl rfl rfl (by decide +kernel) ⟨Nat.le_of_ble_eq_true rfl, Nat.le_of_ble_eq_true rfl⟩) (z_preV (wc := [(q_15, .inr (11, [.int 0, .int 2, .int x2, .int x3, .int (-1), .int (-1), .int 0, .ref u_16, .int 0])), (u_16, .inl (u_17, 12, .inl (fun _ => 0)))]) hP hD hK hS hA hE [7, 8] [2] rfl (by decide) rfl (ci := 11) (q0 := 0) rfl rfl) rfl rfl hl.1 rfl (lv_room (Nat.le_of_ble_eq_true rfl)) dX11_sort_136 ⟨Nat.le_of_ble_eq_true rfl, Nat.le_of_ble_eq_true rfl⟩) hP hD hK hS hA [7, 8] [0, 1, 2, 3, 4, 5, 6, 9] rfl rfl (by decide) (by decide) (fun u H locs hw_25 hP hD hK hS => ?_)
  obtain ⟨⟩ := u
  have hP : va_P (dC, dI) vwCl [(hh, .inr (13, [.ref aexpr, .ref achoo, .ref ameth, .ref aroom, .ref anod, .ref asort, .ref anote, .ref amet, .int 0, .int 1])), (anod, .inr (7, [.ref nm, .ref nl, .ref n1, .ref n2, .ref nf, .ref ns, .ref nh, .ref nk, .ref np, .int 16, .int 0, .int 16, .int 0, .int 0])), (ns, .inl (kL, 1024, .inr (.inl zSec))), (nm, .inl (kI, 12, .inl (fun _ => 0))), (nl, .inl (kI, 12, .inl (fun _ => 0))), (n1, .inl (kI, 12, .inl (fun _ => 0))), (n2, .inl (kI, 12, .inl (fun _ => 0))), (asort, .inr (1, [.int 0, .ref eD, .int 0])), (q_15, .inr (11, [.int 0, .int 2, .int x2, .int x3, .int (-1), .int (-1), .int 1, .ref u_16, .int 1]))] H := hP
  have hD : va_D A [(hh, .inr (13, [.ref aexpr, .ref achoo, .ref ameth, .ref aroom, .ref anod, .ref asort, .ref anote, .ref amet, .int 0, .int 1])), (anod, .inr (7, [.ref nm, .ref nl, .ref n1, .ref n2, .ref nf, .ref ns, .ref nh, .ref nk, .ref np, .int 16, .int 0, .int 16, .int 0, .int 0])), (ns, .inl (kL, 1024, .inr (.inl zSec))), (nm, .inl (kI, 12, .inl (fun _ => 0))), (nl, .inl (kI, 12, .inl (fun _ => 0))), (n1, .inl (kI, 12, .inl (fun _ => 0))), (n2, .inl (kI, 12, .inl (fun _ => 0))), (asort, .inr (1, [.int 0, .ref eD, .int 0])), (q_15, .inr (11, [.int 0, .int 2, .int x2, .int x3, .int (-1), .int (-1), .int 1, .ref u_16, .int 1]))] := hD
  have hK : va_K (dC, dI) vwCl [(kL, .long), (kI, .int), (u_17, .int)] s := by simpa using hK
  refine lv_aload_n hx hb dX11_sort_139 rfl (lv_at hl 2 rfl) ?_
  refine va_get (D := (dC, dI)) (ci := 13) (v := .ref anod) (C := RX11) (T := TX11) (N := 10) hx hb hts in_RX11 hown hK hP 0 rfl rfl 4 (by decide) (hts (.fieldLink RX11 38 "Hornbook" "nodes" "LHornbook$Nodes;") (by decide +kernel)) (fun _ h9 => h9) rfl dX11_sort_140 ?_
  refine va_get (D := (dC, dI)) (ci := 7) (v := .ref nm) (C := RX5) (T := TX5) (N := 14) hx hb hts in_RX5 hown hK hP 1 rfl rfl 0 (by decide) (hts (.fieldLink RX11 100 "Hornbook$Nodes" "many" "[I") (by decide +kernel)) (fun _ h9 => h9) rfl dX11_sort_143 ?_
  refine lv_aload hx hb dX11_sort_146 (lv_at hl 0 rfl) ?_
  refine va_get (D := (dC, dI)) (ci := 11) (v := .int 0) (C := RX9) (T := TX9) (N := 9) hx hb hts in_RX9 hown hK hP 8 rfl rfl 0 (by decide) (hts (.fieldLink RX11 85 "Hornbook$Sort" "number" "I") (by decide +kernel)) (fun _ h9 => h9) rfl dX11_sort_148 ?_
  refine lv_iload_n hx hb dX11_sort_151 rfl (lv_at hl 3 rfl) ?_
  refine va_iast (D := (dC, dI)) hx hb hK hP hD hS 3 1 rfl rfl (by unfold vp_in; decide) dX11_sort_152 (fun H locs hP hD hS => ?_)
  have hP : va_P (dC, dI) vwCl [(hh, .inr (13, [.ref aexpr, .ref achoo, .ref ameth, .ref aroom, .ref anod, .ref asort, .ref anote, .ref amet, .int 0, .int 1])), (anod, .inr (7, [.ref nm, .ref nl, .ref n1, .ref n2, .ref nf, .ref ns, .ref nh, .ref nk, .ref np, .int 16, .int 0, .int 16, .int 0, .int 0])), (ns, .inl (kL, 1024, .inr (.inl zSec))), (nm, .inl (kI, 12, .inl (upd (fun _ => 0) (0 : Int32).toNatClampNeg 2))), (nl, .inl (kI, 12, .inl (fun _ => 0))), (n1, .inl (kI, 12, .inl (fun _ => 0))), (n2, .inl (kI, 12, .inl (fun _ => 0))), (asort, .inr (1, [.int 0, .ref eD, .int 0])), (q_15, .inr (11, [.int 0, .int 2, .int x2, .int x3, .int (-1), .int (-1), .int 1, .ref u_16, .int 1]))] H := hP
  have hD : va_D A [(hh, .inr (13, [.ref aexpr, .ref achoo, .ref ameth, .ref aroom, .ref anod, .ref asort, .ref anote, .ref amet, .int 0, .int 1])), (anod, .inr (7, [.ref nm, .ref nl, .ref n1, .ref n2, .ref nf, .ref ns, .ref nh, .ref nk, .ref np, .int 16, .int 0, .int 16, .int 0, .int 0])), (ns, .inl (kL, 1024, .inr (.inl zSec))), (nm, .inl (kI, 12, .inl (upd (fun _ => 0) (0 : Int32).toNatClampNeg 2))), (nl, .inl (kI, 12, .inl (fun _ => 0))), (n1, .inl (kI, 12, .inl (fun _ => 0))), (n2, .inl (kI, 12, .inl (fun _ => 0))), (asort, .inr (1, [.int 0, .ref eD, .int 0])), (q_15, .inr (11, [.int 0, .int 2, .int x2, .int x3, .int (-1), .int (-1), .int 1, .ref u_16, .int 1]))] := hD
  refine lv_aload_n hx hb dX11_sort_153 rfl (lv_at hl 2 rfl) ?_
  refine va_get (D := (dC, dI)) (ci := 13) (v := .ref anod) (C := RX11) (T := TX11) (N := 10) hx hb hts in_RX11 hown hK hP 0 rfl rfl 4 (by decide) (hts (.fieldLink RX11 38 "Hornbook" "nodes" "LHornbook$Nodes;") (by decide +kernel)) (fun _ h9 => h9) rfl dX11_sort_154 ?_
  refine lv_aload hx hb dX11_sort_157 (lv_at hl 0 rfl) ?_
  refine va_get (D := (dC, dI)) (ci := 11) (v := .int 0) (C := RX9) (T := TX9) (N := 9) hx hb hts in_RX9 hown hK hP 8 rfl rfl 0 (by decide) (hts (.fieldLink RX11 85 "Hornbook$Sort" "number" "I") (by decide +kernel)) (fun _ h9 => h9) rfl dX11_sort_159 ?_
  refine lv_iconst (v := (-1)) hx hb dX11_sort_162 (by decide) ?_
  refine lv_iconst (v := (-1)) hx hb dX11_sort_163 (by decide) ?_
  refine z_v (wr := [(hh, .inr (13, [.ref aexpr, .ref achoo, .ref ameth, .ref aroom, .ref anod, .ref asort, .ref anote, .ref amet, .int 0, .int 1])), (asort, .inr (1, [.int 0, .ref eD, .int 0])), (q_15, .inr (11, [.int 0, .int 2, .int x2, .int x3, .int (-1), .int (-1), .int 1, .ref u_16, .int 1]))]) (va_runV (As := [.int 0, .int (-1), .int (-1)]) (rest := []) ⟨hx, hb, hml, hown, hts⟩ (c_N_lift_2 l eD eI ad dC dI H.size anod nm nl n1 n2 nf ns nh nk np kI kL) (cwV 3 hts g_c_H_sort_2_4 rfl rfl rfl (by decide +kernel) ⟨Nat.le_of_ble_eq_true rfl, Nat.le_of_ble_eq_true rfl⟩) (z_preV (wc := [(anod, .inr (7, [.ref nm, .ref nl, .ref n1, .ref n2, .ref nf, .ref ns, .ref nh, .ref nk, .ref np, .int 16, .int 0, .int 16, .int 0, .int 0])), (nm, .inl (kI, 12, .inl (upd (fun _ => 0) (0 : Int32).toNatClampNeg 2))), (nl, .inl (kI, 12, .inl (fun _ => 0))), (n1, .inl (kI, 12, .inl (fun _ => 0))), (n2, .inl (kI, 12, .inl (fun _ => 0))), (ns, .inl (kL, 1024, .inr (.inl zSec)))]) hP hD hK hS hA hE [1, 3, 4, 5, 6, 2] [1, 0] rfl (by decide) rfl (ci := 7) (q0 := 0) rfl rfl) rfl rfl hl.1 rfl (lv_room (Nat.le_of_ble_eq_true rfl)) dX11_sort_164 ⟨Nat.le_of_ble_eq_true rfl, Nat.le_of_ble_eq_true rfl⟩) hP hD hK hS hA [1, 3, 4, 5, 6, 2] [0, 7, 8] rfl rfl (by decide) (by decide) (fun u H locs hw_27 hP hD hK hS => ?_)
  obtain ⟨⟩ := u
  have hP : va_P (dC, dI) vwCl [(hh, .inr (13, [.ref aexpr, .ref achoo, .ref ameth, .ref aroom, .ref anod, .ref asort, .ref anote, .ref amet, .int 0, .int 1])), (asort, .inr (1, [.int 0, .ref eD, .int 0])), (q_15, .inr (11, [.int 0, .int 2, .int x2, .int x3, .int (-1), .int (-1), .int 1, .ref u_16, .int 1])), (anod, .inr (7, [.ref nm, .ref nl, .ref n1, .ref n2, .ref nf, .ref ns, .ref nh, .ref nk, .ref np, .int 16, .int 0, .int 16, .int 0, .int 0]))] H := hP
  have hD : va_D A [(hh, .inr (13, [.ref aexpr, .ref achoo, .ref ameth, .ref aroom, .ref anod, .ref asort, .ref anote, .ref amet, .int 0, .int 1])), (asort, .inr (1, [.int 0, .ref eD, .int 0])), (q_15, .inr (11, [.int 0, .int 2, .int x2, .int x3, .int (-1), .int (-1), .int 1, .ref u_16, .int 1])), (anod, .inr (7, [.ref nm, .ref nl, .ref n1, .ref n2, .ref nf, .ref ns, .ref nh, .ref nk, .ref np, .int 16, .int 0, .int 16, .int 0, .int 0]))] := hD
  have hK : va_K (dC, dI) vwCl [(kL, .long), (kI, .int), (u_17, .int)] s := by simpa using hK
  refine lv_aload_n hx hb dX11_sort_167 rfl (lv_at hl 2 rfl) ?_
  refine va_get (D := (dC, dI)) (ci := 13) (v := .ref asort) (C := RX11) (T := TX11) (N := 10) hx hb hts in_RX11 hown hK hP 0 rfl rfl 5 (by decide) (hts (.fieldLink RX11 42 "Hornbook" "sorts" "Ljava/util/ArrayList;") (by decide +kernel)) (fun _ h9 => h9) rfl dX11_sort_168 ?_
  refine lv_aload hx hb dX11_sort_171 (lv_at hl 0 rfl) ?_
  refine z_i (wr := [(hh, .inr (13, [.ref aexpr, .ref achoo, .ref ameth, .ref aroom, .ref anod, .ref asort, .ref anote, .ref amet, .int 0, .int 1])), (anod, .inr (7, [.ref nm, .ref nl, .ref n1, .ref n2, .ref nf, .ref ns, .ref nh, .ref nk, .ref np, .int 16, .int 0, .int 16, .int 0, .int 0]))]) (va_runV (As := [.ref q_15]) (rest := []) ⟨hx, hb, hml, hown, hts⟩ (c_AL_add0 l eD eI ad dC dI H.size asort 0 q_15 11 ((RX9, TX9, 9)) ([.int 0, .int 2, .int x2, .int x3, .int (-1), .int (-1), .int 1, .ref u_16, .int 1]) (rfl) (by decide +kernel)) (cwV 1 hts g_c_H_sort_2_5 rfl rfl rfl (by decide +kernel) ⟨Nat.le_of_ble_eq_true rfl, Nat.le_of_ble_eq_true rfl⟩) (z_preV (wc := [(asort, .inr (1, [.int 0, .ref eD, .int 0])), (q_15, .inr (11, [.int 0, .int 2, .int x2, .int x3, .int (-1), .int (-1), .int 1, .ref u_16, .int 1]))]) hP hD hK hS hA hE [1, 2] [] rfl (by decide) rfl (ci := 1) (q0 := 0) rfl rfl) rfl rfl hl.1 rfl (lv_room (Nat.le_of_ble_eq_true rfl)) dX11_sort_173 ⟨Nat.le_of_ble_eq_true rfl, Nat.le_of_ble_eq_true rfl⟩) hP hD hK hS hA [1, 2] [0, 3] rfl rfl (by decide) (by decide) (fun r_31 u H locs hw_32 hP hD hK hS => ?_)
  obtain ⟨u_28, u_29, u_30⟩ := u
  have hP : va_P (dC, dI) vwCl [(hh, .inr (13, [.ref aexpr, .ref achoo, .ref ameth, .ref aroom, .ref anod, .ref asort, .ref anote, .ref amet, .int 0, .int 1])), (anod, .inr (7, [.ref nm, .ref nl, .ref n1, .ref n2, .ref nf, .ref ns, .ref nh, .ref nk, .ref np, .int 16, .int 0, .int 16, .int 0, .int 0])), (asort, .inr (1, [.int u_30, .ref u_28, .int 1])), (q_15, .inr (11, [.int 0, .int 2, .int x2, .int x3, .int (-1), .int (-1), .int 1, .ref u_16, .int 1])), (u_28, .inl (u_29, 10, .inr (.inr (.inr (.inr (va_up (fun _ => none) (0 : Int32).toNatClampNeg (some q_15)))))))] H := hP
  have hD : va_D A [(hh, .inr (13, [.ref aexpr, .ref achoo, .ref ameth, .ref aroom, .ref anod, .ref asort, .ref anote, .ref amet, .int 0, .int 1])), (anod, .inr (7, [.ref nm, .ref nl, .ref n1, .ref n2, .ref nf, .ref ns, .ref nh, .ref nk, .ref np, .int 16, .int 0, .int 16, .int 0, .int 0])), (asort, .inr (1, [.int u_30, .ref u_28, .int 1])), (q_15, .inr (11, [.int 0, .int 2, .int x2, .int x3, .int (-1), .int (-1), .int 1, .ref u_16, .int 1])), (u_28, .inl (u_29, 10, .inr (.inr (.inr (.inr (va_up (fun _ => none) (0 : Int32).toNatClampNeg (some q_15)))))))] := hD
  have hK : va_K (dC, dI) vwCl [(kL, .long), (kI, .int), (u_17, .int), (u_29, .object "java/lang/Object")] s := hK
  have hw_32 : r_31 = 1 := hw_32
  have hw_32 := hw_32.symm
  subst hw_32
  refine lv_pop hx hb dX11_sort_176 rfl ?_
  refine lv_aload_n hx hb dX11_sort_177 rfl (lv_at hl 2 rfl) ?_
  refine lv_iconst (v := 0) hx hb dX11_sort_178 (by decide) ?_
  refine va_put (D := (dC, dI)) (ci := 13) (v := .int 0) (ty := .boolean) (C := RX11) (T := TX11) (N := 10) hx hb hts in_RX11 tyX11 tyX11_ok nmX11 hown hK hP hD hS 0 rfl rfl 9 (by decide) (hts (.fieldLink RX11 58 "Hornbook" "isNoted" "Z") (by decide +kernel)) (fun _ h9 => h9) rfl (by decide +kernel) rfl rfl (Nat.le_of_ble_eq_true rfl) dX11_sort_179 (fun H locs hP hD hS => ?_)
  have hP : va_P (dC, dI) vwCl [(hh, .inr (13, [.ref aexpr, .ref achoo, .ref ameth, .ref aroom, .ref anod, .ref asort, .ref anote, .ref amet, .int 0, .int 0])), (anod, .inr (7, [.ref nm, .ref nl, .ref n1, .ref n2, .ref nf, .ref ns, .ref nh, .ref nk, .ref np, .int 16, .int 0, .int 16, .int 0, .int 0])), (asort, .inr (1, [.int u_30, .ref u_28, .int 1])), (q_15, .inr (11, [.int 0, .int 2, .int x2, .int x3, .int (-1), .int (-1), .int 1, .ref u_16, .int 1])), (u_28, .inl (u_29, 10, .inr (.inr (.inr (.inr (va_up (fun _ => none) (0 : Int32).toNatClampNeg (some q_15)))))))] H := hP
  have hD : va_D A [(hh, .inr (13, [.ref aexpr, .ref achoo, .ref ameth, .ref aroom, .ref anod, .ref asort, .ref anote, .ref amet, .int 0, .int 0])), (anod, .inr (7, [.ref nm, .ref nl, .ref n1, .ref n2, .ref nf, .ref ns, .ref nh, .ref nk, .ref np, .int 16, .int 0, .int 16, .int 0, .int 0])), (asort, .inr (1, [.int u_30, .ref u_28, .int 1])), (q_15, .inr (11, [.int 0, .int 2, .int x2, .int x3, .int (-1), .int (-1), .int 1, .ref u_16, .int 1])), (u_28, .inl (u_29, 10, .inr (.inr (.inr (.inr (va_up (fun _ => none) (0 : Int32).toNatClampNeg (some q_15)))))))] := hD
  refine lv_aload hx hb dX11_sort_182 (lv_at hl 0 rfl) ?_
  refine va_get (D := (dC, dI)) (ci := 11) (v := .int 0) (C := RX9) (T := TX9) (N := 9) hx hb hts in_RX9 hown hK hP 3 rfl rfl 0 (by decide) (hts (.fieldLink RX11 85 "Hornbook$Sort" "number" "I") (by decide +kernel)) (fun _ h9 => h9) rfl dX11_sort_184 ?_
  have hP9 := hP.sub (ws' := []) [] rfl
  have hD9 := hD.sub (ws' := []) [] (by decide) rfl
  have hK9 := hK.sub (tys' := []) [] rfl
  refine W.widen (k := 3) (n := 31) (Nat.le_of_ble_eq_true rfl) (Nat.le_of_ble_eq_true rfl) ?_
  exact W.iret (v := 0) hx hb hr (fun t ht hW => ⟨⟨0, (), rfl, rfl, ⟨by rw [ht]; exact hP9, va_K.moved hW.alike hK9, hD9⟩⟩, hS.F ht⟩) hS.2.2 dX11_sort_187

def wb_c_H_parent : List Cond := [.code yX11_needSort cX11_needSort 2 none, .classLink RX11 277 "java/lang/IndexOutOfBoundsException", .initialized "java/lang/IndexOutOfBoundsException", .fieldLink RX11 42 "Hornbook" "sorts" "Ljava/util/ArrayList;", .code yJx4a65c_size_8abf5 cJx4a65c_size_8abf5 1 (some .int), .fieldLink RJx4a65c 48 "java/util/ArrayList" "size" "I", .methodLink RX11 73 yJx4a65c_size_8abf5, .instanceMethod yJx4a65c_size_8abf5, .selects RJx4a65c yJx4a65c_size_8abf5 yJx4a65c_size_8abf5, .initialized RJx4a65c, .methodLink RX11 112 yX11_needSort, .instanceMethod yX11_needSort, .selects RX11 yX11_needSort yX11_needSort, .initialized RX11] ++ u_ws RJx4a65c TJx4a65c 3 ++ u_ws RX11 TX11 10
def w_c_H_parent : List Cond := .code yX11_parent cX11_parent 7 (some .int) :: (wb_c_H_parent ++ zAt)
set_option maxRecDepth 100000 in
theorem g_c_H_parent_0 : GoodIn w_c_H_parent (wsV RX11 112 RX11 yX11_needSort w_c_H_needSort) := goodIn_app (goodIn_of _ (by decide +kernel)) (goodIn_ca (goodIn_p (big := w_c_H_parent) (.code yX11_needSort cX11_needSort 2 none :: wb_c_H_needSort) [1, 5] rfl (by decide +kernel)) (goodIn_sub (fun _ h => List.mem_cons_of_mem _ (List.mem_append_right _ h)) zAt_good))
set_option maxHeartbeats 4000000 in
set_option maxRecDepth 100000 in
theorem c_H_parent (l : Launch) (hfl : l.flags = flags0) (eD eI : Nat) (ad : Nat → Nat) (dC : Nat → ClassId) (dI : Nat → Nat → Nat) (sz : Nat) (hh : Nat) (aexpr : Nat) (achoo : Nat) (ameth : Nat) (aroom : Nat) (anod : Nat) (asort : Nat) (anote : Nat) (amet : Nat) (x1 : Int32) (x2 : Int32) : vx_Met l yX11_parent w_c_H_parent ({ frames := 7, cells := 1, slots := 6, locals := 103 }) (va_Pc [.ref hh, .int x1, .int x2] (zPreD eD eI ad (dC, dI) [(hh, .inr (13, [.ref aexpr, .ref achoo, .ref ameth, .ref aroom, .ref anod, .ref asort, .ref anote, .ref amet, .int 0, .int 1])), (asort, .inr (1, [.int 0, .ref eD, .int 0]))] [] sz)) (va_Qi (fun (r : Int32) (_ : Unit) => False) (fun (_ : Unit) => zEnd (dC, dI) (va_A [(hh, .inr (13, [.ref aexpr, .ref achoo, .ref ameth, .ref aroom, .ref anod, .ref asort, .ref anote, .ref amet, .int 0, .int 1])), (asort, .inr (1, [.int 0, .ref eD, .int 0]))] sz) [(hh, .inr (13, [.ref aexpr, .ref achoo, .ref ameth, .ref aroom, .ref anod, .ref asort, .ref anote, .ref amet, .int 0, .int 1])), (asort, .inr (1, [.int 0, .ref eD, .int 0]))] []) (va_A [(hh, .inr (13, [.ref aexpr, .ref achoo, .ref ameth, .ref aroom, .ref anod, .ref asort, .ref anote, .ref amet, .int 0, .int 1])), (asort, .inr (1, [.int 0, .ref eD, .int 0]))] sz)) (zX (fun E => E = "java/lang/IndexOutOfBoundsException") (va_A [(hh, .inr (13, [.ref aexpr, .ref achoo, .ref ameth, .ref aroom, .ref anod, .ref asort, .ref anote, .ref amet, .int 0, .int 1])), (asort, .inr (1, [.int 0, .ref eD, .int 0]))] sz)) 1 6 (va_A [(hh, .inr (13, [.ref aexpr, .ref achoo, .ref ameth, .ref aroom, .ref anod, .ref asort, .ref anote, .ref amet, .int 0, .int 1])), (asort, .inr (1, [.int 0, .ref eD, .int 0]))] sz) := by
  refine vx_ofW (cc := cX11_parent) (maxL := 7) (ret := (some .int)) (by decide +kernel) rfl ?_
  intro p e s m args below meth c s₁ B hml htab hv
  obtain ⟨rfl, ⟨hsz, hP, hK, hD0, hE⟩, hDc⟩ := hv
  have hx := B.exec
  have hb := B.bytes
  have hr := B.returns
  have hts := atoms_spec (ws := w_c_H_parent) B.pre
  have hown : s.vm.findClass RX11 = some m.cls := findClass_of_methodNamed B.named
  have hlocks := B.notSynchronized
  subst hsz
  have hD := hD0.self (sz := s.heap.size)
  generalize hAe : va_A [(hh, .inr (13, [.ref aexpr, .ref achoo, .ref ameth, .ref aroom, .ref anod, .ref asort, .ref anote, .ref amet, .int 0, .int 1])), (asort, .inr (1, [.int 0, .ref eD, .int 0]))] s.heap.size = A at hD hE ⊢
  have hA : ∀ q : Nat, s.heap.size ≤ q → A q := fun q h => by rw [← hAe]; exact Or.inr h
  have hS : va_S A s.heap s.heap [] := va_S.rf
  have hP : va_P (dC, dI) vwCl [(hh, .inr (13, [.ref aexpr, .ref achoo, .ref ameth, .ref aroom, .ref anod, .ref asort, .ref anote, .ref amet, .int 0, .int 1])), (asort, .inr (1, [.int 0, .ref eD, .int 0]))] s.heap := hP
  have hl := lv_entry ([.ref hh, .int x1, .int x2]) (n := 7) (Nat.le_of_ble_eq_true rfl)
  rw [lg_entry_eq]
  generalize (lg_sl ([.ref hh, .int x1, .int x2]) ++ List.replicate (7 - (lg_sl ([.ref hh, .int x1, .int x2])).length) Slot.unset).toArray = ls at hl ⊢
  have hl : lv_has ls 7 [(0, .ref hh), (1, .int x1), (2, .int x2)] := hl
  have in_RJx4a65c : ∀ w ∈ u_ws RJx4a65c TJx4a65c 3, w ∈ w_c_H_parent := by decide +kernel
  have in_RX11 : ∀ w ∈ u_ws RX11 TX11 10, w ∈ w_c_H_parent := by decide +kernel
  refine lv_aload_n hx hb dX11_parent_0 rfl (lv_at hl 0 rfl) ?_
  refine lv_iload_n hx hb dX11_parent_1 rfl (lv_at hl 1 rfl) ?_
  refine zx_v (wr := []) (vx_runV (As := [.int x1]) (rest := []) ⟨hx, hb, hml, hown, hts⟩ (c_H_needSort l hfl eD eI ad dC dI s.heap.size hh aexpr achoo ameth aroom anod asort anote amet x1) (cwV 1 hts g_c_H_parent_0 rfl rfl rfl (by decide +kernel) ⟨Nat.le_of_ble_eq_true rfl, Nat.le_of_ble_eq_true rfl⟩) (z_preVD (wc := [(hh, .inr (13, [.ref aexpr, .ref achoo, .ref ameth, .ref aroom, .ref anod, .ref asort, .ref anote, .ref amet, .int 0, .int 1])), (asort, .inr (1, [.int 0, .ref eD, .int 0]))]) hP hD hK hS hA hE [0, 1] [] rfl (by decide) rfl (ci := 13) (q0 := 0) rfl rfl hDc) rfl rfl hl.1 rfl (lv_room (Nat.le_of_ble_eq_true rfl)) dX11_parent_2 ⟨Nat.le_of_ble_eq_true rfl, Nat.le_of_ble_eq_true rfl⟩) hP hD hK hS hA [0, 1] [] rfl rfl (by decide) (by decide) (fun E ce q9 H locs hbad hP hD hS h91 h92 h93 => ?_) (fun u H locs hw_2 hP hD hK hS => ?_)
  · have hbad : (fun E => E = "java/lang/IndexOutOfBoundsException") E := hbad
    refine vx_widen (k := 1) (n := 6) (Nat.le_of_ble_eq_true rfl) (Nat.le_of_ble_eq_true rfl) ?_
    exact vx_out (fun x h => (htab x h).elim) hlocks h91 h92 h93 (fun t ht hW => ⟨(), trivial, hbad, hS.F ht⟩) hS.2.2 (Nat.le_refl _) (Nat.le_refl _)
  exact absurd hw_2 id

def wb_c_H_type : List Cond := [.code yX11_needSort cX11_needSort 2 none, .classLink RX11 277 "java/lang/IndexOutOfBoundsException", .initialized "java/lang/IndexOutOfBoundsException", .fieldLink RX11 42 "Hornbook" "sorts" "Ljava/util/ArrayList;", .code yJx4a65c_size_8abf5 cJx4a65c_size_8abf5 1 (some .int), .fieldLink RJx4a65c 48 "java/util/ArrayList" "size" "I", .methodLink RX11 73 yJx4a65c_size_8abf5, .instanceMethod yJx4a65c_size_8abf5, .selects RJx4a65c yJx4a65c_size_8abf5 yJx4a65c_size_8abf5, .initialized RJx4a65c, .methodLink RX11 112 yX11_needSort, .instanceMethod yX11_needSort, .selects RX11 yX11_needSort yX11_needSort, .initialized RX11] ++ u_ws RJx4a65c TJx4a65c 3 ++ u_ws RX11 TX11 10
def w_c_H_type : List Cond := .code yX11_type cX11_type 9 (some .int) :: (wb_c_H_type ++ zAt)
set_option maxRecDepth 100000 in
theorem g_c_H_type_0 : GoodIn w_c_H_type (wsV RX11 112 RX11 yX11_needSort w_c_H_needSort) := goodIn_app (goodIn_of _ (by decide +kernel)) (goodIn_ca (goodIn_p (big := w_c_H_type) (.code yX11_needSort cX11_needSort 2 none :: wb_c_H_needSort) [1, 5] rfl (by decide +kernel)) (goodIn_sub (fun _ h => List.mem_cons_of_mem _ (List.mem_append_right _ h)) zAt_good))
set_option maxHeartbeats 4000000 in
set_option maxRecDepth 100000 in
theorem c_H_type (l : Launch) (hfl : l.flags = flags0) (eD eI : Nat) (ad : Nat → Nat) (dC : Nat → ClassId) (dI : Nat → Nat → Nat) (sz : Nat) (hh : Nat) (aexpr : Nat) (achoo : Nat) (ameth : Nat) (aroom : Nat) (anod : Nat) (asort : Nat) (anote : Nat) (amet : Nat) (x1 : Int32) (x2 : Int32) (x3 : Int32) : vx_Met l yX11_type w_c_H_type ({ frames := 7, cells := 1, slots := 6, locals := 103 }) (va_Pc [.ref hh, .int x1, .int x2, .int x3] (zPreD eD eI ad (dC, dI) [(hh, .inr (13, [.ref aexpr, .ref achoo, .ref ameth, .ref aroom, .ref anod, .ref asort, .ref anote, .ref amet, .int 0, .int 1])), (asort, .inr (1, [.int 0, .ref eD, .int 0]))] [] sz)) (va_Qi (fun (r : Int32) (_ : Unit) => False) (fun (_ : Unit) => zEnd (dC, dI) (va_A [(hh, .inr (13, [.ref aexpr, .ref achoo, .ref ameth, .ref aroom, .ref anod, .ref asort, .ref anote, .ref amet, .int 0, .int 1])), (asort, .inr (1, [.int 0, .ref eD, .int 0]))] sz) [(hh, .inr (13, [.ref aexpr, .ref achoo, .ref ameth, .ref aroom, .ref anod, .ref asort, .ref anote, .ref amet, .int 0, .int 1])), (asort, .inr (1, [.int 0, .ref eD, .int 0]))] []) (va_A [(hh, .inr (13, [.ref aexpr, .ref achoo, .ref ameth, .ref aroom, .ref anod, .ref asort, .ref anote, .ref amet, .int 0, .int 1])), (asort, .inr (1, [.int 0, .ref eD, .int 0]))] sz)) (zX (fun E => E = "java/lang/IndexOutOfBoundsException") (va_A [(hh, .inr (13, [.ref aexpr, .ref achoo, .ref ameth, .ref aroom, .ref anod, .ref asort, .ref anote, .ref amet, .int 0, .int 1])), (asort, .inr (1, [.int 0, .ref eD, .int 0]))] sz)) 1 6 (va_A [(hh, .inr (13, [.ref aexpr, .ref achoo, .ref ameth, .ref aroom, .ref anod, .ref asort, .ref anote, .ref amet, .int 0, .int 1])), (asort, .inr (1, [.int 0, .ref eD, .int 0]))] sz) := by
  refine vx_ofW (cc := cX11_type) (maxL := 9) (ret := (some .int)) (by decide +kernel) rfl ?_
  intro p e s m args below meth c s₁ B hml htab hv
  obtain ⟨rfl, ⟨hsz, hP, hK, hD0, hE⟩, hDc⟩ := hv
  have hx := B.exec
  have hb := B.bytes
  have hr := B.returns
  have hts := atoms_spec (ws := w_c_H_type) B.pre
  have hown : s.vm.findClass RX11 = some m.cls := findClass_of_methodNamed B.named
  have hlocks := B.notSynchronized
  subst hsz
  have hD := hD0.self (sz := s.heap.size)
  generalize hAe : va_A [(hh, .inr (13, [.ref aexpr, .ref achoo, .ref ameth, .ref aroom, .ref anod, .ref asort, .ref anote, .ref amet, .int 0, .int 1])), (asort, .inr (1, [.int 0, .ref eD, .int 0]))] s.heap.size = A at hD hE ⊢
  have hA : ∀ q : Nat, s.heap.size ≤ q → A q := fun q h => by rw [← hAe]; exact Or.inr h
  have hS : va_S A s.heap s.heap [] := va_S.rf
  have hP : va_P (dC, dI) vwCl [(hh, .inr (13, [.ref aexpr, .ref achoo, .ref ameth, .ref aroom, .ref anod, .ref asort, .ref anote, .ref amet, .int 0, .int 1])), (asort, .inr (1, [.int 0, .ref eD, .int 0]))] s.heap := hP
  have hl := lv_entry ([.ref hh, .int x1, .int x2, .int x3]) (n := 9) (Nat.le_of_ble_eq_true rfl)
  rw [lg_entry_eq]
  generalize (lg_sl ([.ref hh, .int x1, .int x2, .int x3]) ++ List.replicate (9 - (lg_sl ([.ref hh, .int x1, .int x2, .int x3])).length) Slot.unset).toArray = ls at hl ⊢
  have hl : lv_has ls 9 [(0, .ref hh), (1, .int x1), (2, .int x2), (3, .int x3)] := hl
  have in_RJx4a65c : ∀ w ∈ u_ws RJx4a65c TJx4a65c 3, w ∈ w_c_H_type := by decide +kernel
  have in_RX11 : ∀ w ∈ u_ws RX11 TX11 10, w ∈ w_c_H_type := by decide +kernel
  refine lv_aload_n hx hb dX11_type_0 rfl (lv_at hl 0 rfl) ?_
  refine lv_iload_n hx hb dX11_type_1 rfl (lv_at hl 1 rfl) ?_
  refine zx_v (wr := []) (vx_runV (As := [.int x1]) (rest := []) ⟨hx, hb, hml, hown, hts⟩ (c_H_needSort l hfl eD eI ad dC dI s.heap.size hh aexpr achoo ameth aroom anod asort anote amet x1) (cwV 1 hts g_c_H_type_0 rfl rfl rfl (by decide +kernel) ⟨Nat.le_of_ble_eq_true rfl, Nat.le_of_ble_eq_true rfl⟩) (z_preVD (wc := [(hh, .inr (13, [.ref aexpr, .ref achoo, .ref ameth, .ref aroom, .ref anod, .ref asort, .ref anote, .ref amet, .int 0, .int 1])), (asort, .inr (1, [.int 0, .ref eD, .int 0]))]) hP hD hK hS hA hE [0, 1] [] rfl (by decide) rfl (ci := 13) (q0 := 0) rfl rfl hDc) rfl rfl hl.1 rfl (lv_room (Nat.le_of_ble_eq_true rfl)) dX11_type_2 ⟨Nat.le_of_ble_eq_true rfl, Nat.le_of_ble_eq_true rfl⟩) hP hD hK hS hA [0, 1] [] rfl rfl (by decide) (by decide) (fun E ce q9 H locs hbad hP hD hS h91 h92 h93 => ?_) (fun u H locs hw_2 hP hD hK hS => ?_)
  · have hbad : (fun E => E = "java/lang/IndexOutOfBoundsException") E := hbad
    refine vx_widen (k := 1) (n := 6) (Nat.le_of_ble_eq_true rfl) (Nat.le_of_ble_eq_true rfl) ?_
    exact vx_out (fun x h => (htab x h).elim) hlocks h91 h92 h93 (fun t ht hW => ⟨(), trivial, hbad, hS.F ht⟩) hS.2.2 (Nat.le_refl _) (Nat.le_refl _)
  exact absurd hw_2 id

def wb_c_H_method : List Cond := [.code yX11_needSort cX11_needSort 2 none, .classLink RX11 277 "java/lang/IndexOutOfBoundsException", .initialized "java/lang/IndexOutOfBoundsException", .fieldLink RX11 42 "Hornbook" "sorts" "Ljava/util/ArrayList;", .code yJx4a65c_size_8abf5 cJx4a65c_size_8abf5 1 (some .int), .fieldLink RJx4a65c 48 "java/util/ArrayList" "size" "I", .methodLink RX11 73 yJx4a65c_size_8abf5, .instanceMethod yJx4a65c_size_8abf5, .selects RJx4a65c yJx4a65c_size_8abf5 yJx4a65c_size_8abf5, .initialized RJx4a65c, .methodLink RX11 112 yX11_needSort, .instanceMethod yX11_needSort, .selects RX11 yX11_needSort yX11_needSort, .initialized RX11] ++ u_ws RJx4a65c TJx4a65c 3 ++ u_ws RX11 TX11 10
def w_c_H_method : List Cond := .code yX11_method cX11_method 14 (some .int) :: (wb_c_H_method ++ zAt)
set_option maxRecDepth 100000 in
theorem g_c_H_method_0 : GoodIn w_c_H_method (wsV RX11 112 RX11 yX11_needSort w_c_H_needSort) := goodIn_app (goodIn_of _ (by decide +kernel)) (goodIn_ca (goodIn_p (big := w_c_H_method) (.code yX11_needSort cX11_needSort 2 none :: wb_c_H_needSort) [1, 5] rfl (by decide +kernel)) (goodIn_sub (fun _ h => List.mem_cons_of_mem _ (List.mem_append_right _ h)) zAt_good))
set_option maxHeartbeats 4000000 in
set_option maxRecDepth 100000 in
theorem c_H_method (l : Launch) (hfl : l.flags = flags0) (eD eI : Nat) (ad : Nat → Nat) (dC : Nat → ClassId) (dI : Nat → Nat → Nat) (sz : Nat) (hh : Nat) (aexpr : Nat) (achoo : Nat) (ameth : Nat) (aroom : Nat) (anod : Nat) (asort : Nat) (anote : Nat) (amet : Nat) (x1 : Int32) (x2 : Int32) (x3 : Int32) (x4 : Int32) (x5 : Int32) (x6 : Int32) : vx_Met l yX11_method w_c_H_method ({ frames := 7, cells := 1, slots := 6, locals := 103 }) (va_Pc [.ref hh, .int x1, .int x2, .int x3, .int x4, .int x5, .int x6] (zPreD eD eI ad (dC, dI) [(hh, .inr (13, [.ref aexpr, .ref achoo, .ref ameth, .ref aroom, .ref anod, .ref asort, .ref anote, .ref amet, .int 0, .int 1])), (asort, .inr (1, [.int 0, .ref eD, .int 0]))] [] sz)) (va_Qi (fun (r : Int32) (_ : Unit) => False) (fun (_ : Unit) => zEnd (dC, dI) (va_A [(hh, .inr (13, [.ref aexpr, .ref achoo, .ref ameth, .ref aroom, .ref anod, .ref asort, .ref anote, .ref amet, .int 0, .int 1])), (asort, .inr (1, [.int 0, .ref eD, .int 0]))] sz) [(hh, .inr (13, [.ref aexpr, .ref achoo, .ref ameth, .ref aroom, .ref anod, .ref asort, .ref anote, .ref amet, .int 0, .int 1])), (asort, .inr (1, [.int 0, .ref eD, .int 0]))] []) (va_A [(hh, .inr (13, [.ref aexpr, .ref achoo, .ref ameth, .ref aroom, .ref anod, .ref asort, .ref anote, .ref amet, .int 0, .int 1])), (asort, .inr (1, [.int 0, .ref eD, .int 0]))] sz)) (zX (fun E => E = "java/lang/IndexOutOfBoundsException") (va_A [(hh, .inr (13, [.ref aexpr, .ref achoo, .ref ameth, .ref aroom, .ref anod, .ref asort, .ref anote, .ref amet, .int 0, .int 1])), (asort, .inr (1, [.int 0, .ref eD, .int 0]))] sz)) 1 6 (va_A [(hh, .inr (13, [.ref aexpr, .ref achoo, .ref ameth, .ref aroom, .ref anod, .ref asort, .ref anote, .ref amet, .int 0, .int 1])), (asort, .inr (1, [.int 0, .ref eD, .int 0]))] sz) := by
  refine vx_ofW (cc := cX11_method) (maxL := 14) (ret := (some .int)) (by decide +kernel) rfl ?_
  intro p e s m args below meth c s₁ B hml htab hv
  obtain ⟨rfl, ⟨hsz, hP, hK, hD0, hE⟩, hDc⟩ := hv
  have hx := B.exec
  have hb := B.bytes
  have hr := B.returns
  have hts := atoms_spec (ws := w_c_H_method) B.pre
  have hown : s.vm.findClass RX11 = some m.cls := findClass_of_methodNamed B.named
  have hlocks := B.notSynchronized
  subst hsz
  have hD := hD0.self (sz := s.heap.size)
  generalize hAe : va_A [(hh, .inr (13, [.ref aexpr, .ref achoo, .ref ameth, .ref aroom, .ref anod, .ref asort, .ref anote, .ref amet, .int 0, .int 1])), (asort, .inr (1, [.int 0, .ref eD, .int 0]))] s.heap.size = A at hD hE ⊢
  have hA : ∀ q : Nat, s.heap.size ≤ q → A q := fun q h => by rw [← hAe]; exact Or.inr h
  have hS : va_S A s.heap s.heap [] := va_S.rf
  have hP : va_P (dC, dI) vwCl [(hh, .inr (13, [.ref aexpr, .ref achoo, .ref ameth, .ref aroom, .ref anod, .ref asort, .ref anote, .ref amet, .int 0, .int 1])), (asort, .inr (1, [.int 0, .ref eD, .int 0]))] s.heap := hP
  have hl := lv_entry ([.ref hh, .int x1, .int x2, .int x3, .int x4, .int x5, .int x6]) (n := 14) (Nat.le_of_ble_eq_true rfl)
  rw [lg_entry_eq]
  generalize (lg_sl ([.ref hh, .int x1, .int x2, .int x3, .int x4, .int x5, .int x6]) ++ List.replicate (14 - (lg_sl ([.ref hh, .int x1, .int x2, .int x3, .int x4, .int x5, .int x6])).length) Slot.unset).toArray = ls at hl ⊢
  have hl : lv_has ls 14 [(0, .ref hh), (1, .int x1), (2, .int x2), (3, .int x3), (4, .int x4), (5, .int x5), (6, .int x6)] := hl
  have in_RJx4a65c : ∀ w ∈ u_ws RJx4a65c TJx4a65c 3, w ∈ w_c_H_method := by decide +kernel
  have in_RX11 : ∀ w ∈ u_ws RX11 TX11 10, w ∈ w_c_H_method := by decide +kernel
  refine lv_aload_n hx hb dX11_method_0 rfl (lv_at hl 0 rfl) ?_
  refine lv_iload_n hx hb dX11_method_1 rfl (lv_at hl 1 rfl) ?_
  refine zx_v (wr := []) (vx_runV (As := [.int x1]) (rest := []) ⟨hx, hb, hml, hown, hts⟩ (c_H_needSort l hfl eD eI ad dC dI s.heap.size hh aexpr achoo ameth aroom anod asort anote amet x1) (cwV 1 hts g_c_H_method_0 rfl rfl rfl (by decide +kernel) ⟨Nat.le_of_ble_eq_true rfl, Nat.le_of_ble_eq_true rfl⟩) (z_preVD (wc := [(hh, .inr (13, [.ref aexpr, .ref achoo, .ref ameth, .ref aroom, .ref anod, .ref asort, .ref anote, .ref amet, .int 0, .int 1])), (asort, .inr (1, [.int 0, .ref eD, .int 0]))]) hP hD hK hS hA hE [0, 1] [] rfl (by decide) rfl (ci := 13) (q0 := 0) rfl rfl hDc) rfl rfl hl.1 rfl (lv_room (Nat.le_of_ble_eq_true rfl)) dX11_method_2 ⟨Nat.le_of_ble_eq_true rfl, Nat.le_of_ble_eq_true rfl⟩) hP hD hK hS hA [0, 1] [] rfl rfl (by decide) (by decide) (fun E ce q9 H locs hbad hP hD hS h91 h92 h93 => ?_) (fun u H locs hw_2 hP hD hK hS => ?_)
  · have hbad : (fun E => E = "java/lang/IndexOutOfBoundsException") E := hbad
    refine vx_widen (k := 1) (n := 6) (Nat.le_of_ble_eq_true rfl) (Nat.le_of_ble_eq_true rfl) ?_
    exact vx_out (fun x h => (htab x h).elim) hlocks h91 h92 h93 (fun t ht hW => ⟨(), trivial, hbad, hS.F ht⟩) hS.2.2 (Nat.le_refl _) (Nat.le_refl _)
  exact absurd hw_2 id

def wb_c_H_faultsWith : List Cond := [.code yX11_needParameter cX11_needParameter 4 none, .code yX11_needSort cX11_needSort 2 none, .classLink RX11 277 "java/lang/IndexOutOfBoundsException", .initialized "java/lang/IndexOutOfBoundsException", .fieldLink RX11 42 "Hornbook" "sorts" "Ljava/util/ArrayList;", .code yJx4a65c_size_8abf5 cJx4a65c_size_8abf5 1 (some .int), .fieldLink RJx4a65c 48 "java/util/ArrayList" "size" "I", .methodLink RX11 73 yJx4a65c_size_8abf5, .instanceMethod yJx4a65c_size_8abf5, .selects RJx4a65c yJx4a65c_size_8abf5 yJx4a65c_size_8abf5, .initialized RJx4a65c, .methodLink RX11 112 yX11_needSort, .instanceMethod yX11_needSort, .selects RX11 yX11_needSort yX11_needSort, .initialized RX11, .methodLink RX11 321 yX11_needParameter, .instanceMethod yX11_needParameter, .selects RX11 yX11_needParameter yX11_needParameter] ++ u_ws RJx4a65c TJx4a65c 3 ++ u_ws RX11 TX11 10
def w_c_H_faultsWith : List Cond := .code yX11_faultsWith cX11_faultsWith 7 (some .int) :: (wb_c_H_faultsWith ++ zAt)
set_option maxRecDepth 100000 in
theorem g_c_H_faultsWith_0 : GoodIn w_c_H_faultsWith (wsV RX11 321 RX11 yX11_needParameter w_c_H_needPar) := goodIn_app (goodIn_of _ (by decide +kernel)) (goodIn_ca (goodIn_p (big := w_c_H_faultsWith) (.code yX11_needParameter cX11_needParameter 4 none :: wb_c_H_needPar) [1, 2, 6] rfl (by decide +kernel)) (goodIn_sub (fun _ h => List.mem_cons_of_mem _ (List.mem_append_right _ h)) zAt_good))
set_option maxHeartbeats 4000000 in
set_option maxRecDepth 100000 in
theorem c_H_faultsWith (l : Launch) (hfl : l.flags = flags0) (eD eI : Nat) (ad : Nat → Nat) (dC : Nat → ClassId) (dI : Nat → Nat → Nat) (sz : Nat) (hh : Nat) (aexpr : Nat) (achoo : Nat) (ameth : Nat) (aroom : Nat) (anod : Nat) (asort : Nat) (anote : Nat) (amet : Nat) (x1 : Int32) (x2 : Int32) (x3 : Int32) : vx_Met l yX11_faultsWith w_c_H_faultsWith ({ frames := 8, cells := 1, slots := 6, locals := 126 }) (va_Pc [.ref hh, .int x1, .int x2, .int x3] (zPreD eD eI ad (dC, dI) [(hh, .inr (13, [.ref aexpr, .ref achoo, .ref ameth, .ref aroom, .ref anod, .ref asort, .ref anote, .ref amet, .int 0, .int 1])), (asort, .inr (1, [.int 0, .ref eD, .int 0]))] [] sz)) (va_Qi (fun (r : Int32) (_ : Unit) => False) (fun (_ : Unit) => zEnd (dC, dI) (va_A [(hh, .inr (13, [.ref aexpr, .ref achoo, .ref ameth, .ref aroom, .ref anod, .ref asort, .ref anote, .ref amet, .int 0, .int 1])), (asort, .inr (1, [.int 0, .ref eD, .int 0]))] sz) [(hh, .inr (13, [.ref aexpr, .ref achoo, .ref ameth, .ref aroom, .ref anod, .ref asort, .ref anote, .ref amet, .int 0, .int 1])), (asort, .inr (1, [.int 0, .ref eD, .int 0]))] []) (va_A [(hh, .inr (13, [.ref aexpr, .ref achoo, .ref ameth, .ref aroom, .ref anod, .ref asort, .ref anote, .ref amet, .int 0, .int 1])), (asort, .inr (1, [.int 0, .ref eD, .int 0]))] sz)) (zX (fun E => E = "java/lang/IndexOutOfBoundsException") (va_A [(hh, .inr (13, [.ref aexpr, .ref achoo, .ref ameth, .ref aroom, .ref anod, .ref asort, .ref anote, .ref amet, .int 0, .int 1])), (asort, .inr (1, [.int 0, .ref eD, .int 0]))] sz)) 1 6 (va_A [(hh, .inr (13, [.ref aexpr, .ref achoo, .ref ameth, .ref aroom, .ref anod, .ref asort, .ref anote, .ref amet, .int 0, .int 1])), (asort, .inr (1, [.int 0, .ref eD, .int 0]))] sz) := by
  refine vx_ofW (cc := cX11_faultsWith) (maxL := 7) (ret := (some .int)) (by decide +kernel) rfl ?_
  intro p e s m args below meth c s₁ B hml htab hv
  obtain ⟨rfl, ⟨hsz, hP, hK, hD0, hE⟩, hDc⟩ := hv
  have hx := B.exec
  have hb := B.bytes
  have hr := B.returns
  have hts := atoms_spec (ws := w_c_H_faultsWith) B.pre
  have hown : s.vm.findClass RX11 = some m.cls := findClass_of_methodNamed B.named
  have hlocks := B.notSynchronized
  subst hsz
  have hD := hD0.self (sz := s.heap.size)
  generalize hAe : va_A [(hh, .inr (13, [.ref aexpr, .ref achoo, .ref ameth, .ref aroom, .ref anod, .ref asort, .ref anote, .ref amet, .int 0, .int 1])), (asort, .inr (1, [.int 0, .ref eD, .int 0]))] s.heap.size = A at hD hE ⊢
  have hA : ∀ q : Nat, s.heap.size ≤ q → A q := fun q h => by rw [← hAe]; exact Or.inr h
  have hS : va_S A s.heap s.heap [] := va_S.rf
  have hP : va_P (dC, dI) vwCl [(hh, .inr (13, [.ref aexpr, .ref achoo, .ref ameth, .ref aroom, .ref anod, .ref asort, .ref anote, .ref amet, .int 0, .int 1])), (asort, .inr (1, [.int 0, .ref eD, .int 0]))] s.heap := hP
  have hl := lv_entry ([.ref hh, .int x1, .int x2, .int x3]) (n := 7) (Nat.le_of_ble_eq_true rfl)
  rw [lg_entry_eq]
  generalize (lg_sl ([.ref hh, .int x1, .int x2, .int x3]) ++ List.replicate (7 - (lg_sl ([.ref hh, .int x1, .int x2, .int x3])).length) Slot.unset).toArray = ls at hl ⊢
  have hl : lv_has ls 7 [(0, .ref hh), (1, .int x1), (2, .int x2), (3, .int x3)] := hl
  have in_RJx4a65c : ∀ w ∈ u_ws RJx4a65c TJx4a65c 3, w ∈ w_c_H_faultsWith := by decide +kernel
  have in_RX11 : ∀ w ∈ u_ws RX11 TX11 10, w ∈ w_c_H_faultsWith := by decide +kernel
  refine lv_aload_n hx hb dX11_faultsWith_0 rfl (lv_at hl 0 rfl) ?_
  refine lv_iload_n hx hb dX11_faultsWith_1 rfl (lv_at hl 1 rfl) ?_
  refine lv_iload_n hx hb dX11_faultsWith_2 rfl (lv_at hl 2 rfl) ?_
  refine zx_v (wr := []) (vx_runV (As := [.int x1, .int x2]) (rest := []) ⟨hx, hb, hml, hown, hts⟩ (c_H_needPar l hfl eD eI ad dC dI s.heap.size hh aexpr achoo ameth aroom anod asort anote amet x1 x2) (cwV 2 hts g_c_H_faultsWith_0 rfl rfl rfl (by decide +kernel) ⟨Nat.le_of_ble_eq_true rfl, Nat.le_of_ble_eq_true rfl⟩) (z_preVD (wc := [(hh, .inr (13, [.ref aexpr, .ref achoo, .ref ameth, .ref aroom, .ref anod, .ref asort, .ref anote, .ref amet, .int 0, .int 1])), (asort, .inr (1, [.int 0, .ref eD, .int 0]))]) hP hD hK hS hA hE [0, 1] [] rfl (by decide) rfl (ci := 13) (q0 := 0) rfl rfl hDc) rfl rfl hl.1 rfl (lv_room (Nat.le_of_ble_eq_true rfl)) dX11_faultsWith_3 ⟨Nat.le_of_ble_eq_true rfl, Nat.le_of_ble_eq_true rfl⟩) hP hD hK hS hA [0, 1] [] rfl rfl (by decide) (by decide) (fun E ce q9 H locs hbad hP hD hS h91 h92 h93 => ?_) (fun u H locs hw_2 hP hD hK hS => ?_)
  · have hbad : (fun E => E = "java/lang/IndexOutOfBoundsException") E := hbad
    refine vx_widen (k := 1) (n := 6) (Nat.le_of_ble_eq_true rfl) (Nat.le_of_ble_eq_true rfl) ?_
    exact vx_out (fun x h => (htab x h).elim) hlocks h91 h92 h93 (fun t ht hW => ⟨(), trivial, hbad, hS.F ht⟩) hS.2.2 (Nat.le_refl _) (Nat.le_refl _)
  exact absurd hw_2 id

def wb_c_H_flawsWith : List Cond := [.code yX11_needParameter cX11_needParameter 4 none, .code yX11_needSort cX11_needSort 2 none, .classLink RX11 277 "java/lang/IndexOutOfBoundsException", .initialized "java/lang/IndexOutOfBoundsException", .fieldLink RX11 42 "Hornbook" "sorts" "Ljava/util/ArrayList;", .code yJx4a65c_size_8abf5 cJx4a65c_size_8abf5 1 (some .int), .fieldLink RJx4a65c 48 "java/util/ArrayList" "size" "I", .methodLink RX11 73 yJx4a65c_size_8abf5, .instanceMethod yJx4a65c_size_8abf5, .selects RJx4a65c yJx4a65c_size_8abf5 yJx4a65c_size_8abf5, .initialized RJx4a65c, .methodLink RX11 112 yX11_needSort, .instanceMethod yX11_needSort, .selects RX11 yX11_needSort yX11_needSort, .initialized RX11, .methodLink RX11 321 yX11_needParameter, .instanceMethod yX11_needParameter, .selects RX11 yX11_needParameter yX11_needParameter] ++ u_ws RJx4a65c TJx4a65c 3 ++ u_ws RX11 TX11 10
def w_c_H_flawsWith : List Cond := .code yX11_flawsWith cX11_flawsWith 7 (some .int) :: (wb_c_H_flawsWith ++ zAt)
set_option maxRecDepth 100000 in
theorem g_c_H_flawsWith_0 : GoodIn w_c_H_flawsWith (wsV RX11 321 RX11 yX11_needParameter w_c_H_needPar) := goodIn_app (goodIn_of _ (by decide +kernel)) (goodIn_ca (goodIn_p (big := w_c_H_flawsWith) (.code yX11_needParameter cX11_needParameter 4 none :: wb_c_H_needPar) [1, 2, 6] rfl (by decide +kernel)) (goodIn_sub (fun _ h => List.mem_cons_of_mem _ (List.mem_append_right _ h)) zAt_good))
set_option maxHeartbeats 4000000 in
set_option maxRecDepth 100000 in
theorem c_H_flawsWith (l : Launch) (hfl : l.flags = flags0) (eD eI : Nat) (ad : Nat → Nat) (dC : Nat → ClassId) (dI : Nat → Nat → Nat) (sz : Nat) (hh : Nat) (aexpr : Nat) (achoo : Nat) (ameth : Nat) (aroom : Nat) (anod : Nat) (asort : Nat) (anote : Nat) (amet : Nat) (x1 : Int32) (x2 : Int32) (x3 : Int32) : vx_Met l yX11_flawsWith w_c_H_flawsWith ({ frames := 8, cells := 1, slots := 6, locals := 126 }) (va_Pc [.ref hh, .int x1, .int x2, .int x3] (zPreD eD eI ad (dC, dI) [(hh, .inr (13, [.ref aexpr, .ref achoo, .ref ameth, .ref aroom, .ref anod, .ref asort, .ref anote, .ref amet, .int 0, .int 1])), (asort, .inr (1, [.int 0, .ref eD, .int 0]))] [] sz)) (va_Qi (fun (r : Int32) (_ : Unit) => False) (fun (_ : Unit) => zEnd (dC, dI) (va_A [(hh, .inr (13, [.ref aexpr, .ref achoo, .ref ameth, .ref aroom, .ref anod, .ref asort, .ref anote, .ref amet, .int 0, .int 1])), (asort, .inr (1, [.int 0, .ref eD, .int 0]))] sz) [(hh, .inr (13, [.ref aexpr, .ref achoo, .ref ameth, .ref aroom, .ref anod, .ref asort, .ref anote, .ref amet, .int 0, .int 1])), (asort, .inr (1, [.int 0, .ref eD, .int 0]))] []) (va_A [(hh, .inr (13, [.ref aexpr, .ref achoo, .ref ameth, .ref aroom, .ref anod, .ref asort, .ref anote, .ref amet, .int 0, .int 1])), (asort, .inr (1, [.int 0, .ref eD, .int 0]))] sz)) (zX (fun E => E = "java/lang/IndexOutOfBoundsException") (va_A [(hh, .inr (13, [.ref aexpr, .ref achoo, .ref ameth, .ref aroom, .ref anod, .ref asort, .ref anote, .ref amet, .int 0, .int 1])), (asort, .inr (1, [.int 0, .ref eD, .int 0]))] sz)) 1 6 (va_A [(hh, .inr (13, [.ref aexpr, .ref achoo, .ref ameth, .ref aroom, .ref anod, .ref asort, .ref anote, .ref amet, .int 0, .int 1])), (asort, .inr (1, [.int 0, .ref eD, .int 0]))] sz) := by
  refine vx_ofW (cc := cX11_flawsWith) (maxL := 7) (ret := (some .int)) (by decide +kernel) rfl ?_
  intro p e s m args below meth c s₁ B hml htab hv
  obtain ⟨rfl, ⟨hsz, hP, hK, hD0, hE⟩, hDc⟩ := hv
  have hx := B.exec
  have hb := B.bytes
  have hr := B.returns
  have hts := atoms_spec (ws := w_c_H_flawsWith) B.pre
  have hown : s.vm.findClass RX11 = some m.cls := findClass_of_methodNamed B.named
  have hlocks := B.notSynchronized
  subst hsz
  have hD := hD0.self (sz := s.heap.size)
  generalize hAe : va_A [(hh, .inr (13, [.ref aexpr, .ref achoo, .ref ameth, .ref aroom, .ref anod, .ref asort, .ref anote, .ref amet, .int 0, .int 1])), (asort, .inr (1, [.int 0, .ref eD, .int 0]))] s.heap.size = A at hD hE ⊢
  have hA : ∀ q : Nat, s.heap.size ≤ q → A q := fun q h => by rw [← hAe]; exact Or.inr h
  have hS : va_S A s.heap s.heap [] := va_S.rf
  have hP : va_P (dC, dI) vwCl [(hh, .inr (13, [.ref aexpr, .ref achoo, .ref ameth, .ref aroom, .ref anod, .ref asort, .ref anote, .ref amet, .int 0, .int 1])), (asort, .inr (1, [.int 0, .ref eD, .int 0]))] s.heap := hP
  have hl := lv_entry ([.ref hh, .int x1, .int x2, .int x3]) (n := 7) (Nat.le_of_ble_eq_true rfl)
  rw [lg_entry_eq]
  generalize (lg_sl ([.ref hh, .int x1, .int x2, .int x3]) ++ List.replicate (7 - (lg_sl ([.ref hh, .int x1, .int x2, .int x3])).length) Slot.unset).toArray = ls at hl ⊢
  have hl : lv_has ls 7 [(0, .ref hh), (1, .int x1), (2, .int x2), (3, .int x3)] := hl
  have in_RJx4a65c : ∀ w ∈ u_ws RJx4a65c TJx4a65c 3, w ∈ w_c_H_flawsWith := by decide +kernel
  have in_RX11 : ∀ w ∈ u_ws RX11 TX11 10, w ∈ w_c_H_flawsWith := by decide +kernel
  refine lv_aload_n hx hb dX11_flawsWith_0 rfl (lv_at hl 0 rfl) ?_
  refine lv_iload_n hx hb dX11_flawsWith_1 rfl (lv_at hl 1 rfl) ?_
  refine lv_iload_n hx hb dX11_flawsWith_2 rfl (lv_at hl 2 rfl) ?_
  refine zx_v (wr := []) (vx_runV (As := [.int x1, .int x2]) (rest := []) ⟨hx, hb, hml, hown, hts⟩ (c_H_needPar l hfl eD eI ad dC dI s.heap.size hh aexpr achoo ameth aroom anod asort anote amet x1 x2) (cwV 2 hts g_c_H_flawsWith_0 rfl rfl rfl (by decide +kernel) ⟨Nat.le_of_ble_eq_true rfl, Nat.le_of_ble_eq_true rfl⟩) (z_preVD (wc := [(hh, .inr (13, [.ref aexpr, .ref achoo, .ref ameth, .ref aroom, .ref anod, .ref asort, .ref anote, .ref amet, .int 0, .int 1])), (asort, .inr (1, [.int 0, .ref eD, .int 0]))]) hP hD hK hS hA hE [0, 1] [] rfl (by decide) rfl (ci := 13) (q0 := 0) rfl rfl hDc) rfl rfl hl.1 rfl (lv_room (Nat.le_of_ble_eq_true rfl)) dX11_flawsWith_3 ⟨Nat.le_of_ble_eq_true rfl, Nat.le_of_ble_eq_true rfl⟩) hP hD hK hS hA [0, 1] [] rfl rfl (by decide) (by decide) (fun E ce q9 H locs hbad hP hD hS h91 h92 h93 => ?_) (fun u H locs hw_2 hP hD hK hS => ?_)
  · have hbad : (fun E => E = "java/lang/IndexOutOfBoundsException") E := hbad
    refine vx_widen (k := 1) (n := 6) (Nat.le_of_ble_eq_true rfl) (Nat.le_of_ble_eq_true rfl) ?_
    exact vx_out (fun x h => (htab x h).elim) hlocks h91 h92 h93 (fun t ht hW => ⟨(), trivial, hbad, hS.F ht⟩) hS.2.2 (Nat.le_refl _) (Nat.le_refl _)
  exact absurd hw_2 id

def wb_c_H_either : List Cond := [.code yX11_needExpression cX11_needExpression 3 none, .classLink RX11 277 "java/lang/IndexOutOfBoundsException", .initialized "java/lang/IndexOutOfBoundsException", .fieldLink RX11 12 "Hornbook" "expressions" "Ljava/util/ArrayList;", .code yJx4a65c_size_8abf5 cJx4a65c_size_8abf5 1 (some .int), .fieldLink RJx4a65c 48 "java/util/ArrayList" "size" "I", .methodLink RX11 73 yJx4a65c_size_8abf5, .instanceMethod yJx4a65c_size_8abf5, .selects RJx4a65c yJx4a65c_size_8abf5 yJx4a65c_size_8abf5, .initialized RJx4a65c, .methodLink RX11 232 yX11_needExpression, .instanceMethod yX11_needExpression, .selects RX11 yX11_needExpression yX11_needExpression, .initialized RX11] ++ u_ws RJx4a65c TJx4a65c 3 ++ u_ws RX11 TX11 10
def w_c_H_either : List Cond := .code yX11_either cX11_either 3 (some .int) :: (wb_c_H_either ++ zAt)
set_option maxRecDepth 100000 in
theorem g_c_H_either_0 : GoodIn w_c_H_either (wsV RX11 232 RX11 yX11_needExpression w_c_H_needExpr) := goodIn_app (goodIn_of _ (by decide +kernel)) (goodIn_ca (goodIn_p (big := w_c_H_either) (.code yX11_needExpression cX11_needExpression 3 none :: wb_c_H_needExpr) [1, 5] rfl (by decide +kernel)) (goodIn_sub (fun _ h => List.mem_cons_of_mem _ (List.mem_append_right _ h)) zAt_good))
set_option maxHeartbeats 4000000 in
set_option maxRecDepth 100000 in
theorem c_H_either (l : Launch) (hfl : l.flags = flags0) (eD eI : Nat) (ad : Nat → Nat) (dC : Nat → ClassId) (dI : Nat → Nat → Nat) (sz : Nat) (hh : Nat) (aexpr : Nat) (achoo : Nat) (ameth : Nat) (aroom : Nat) (anod : Nat) (asort : Nat) (anote : Nat) (amet : Nat) (x1 : Int32) (x2 : Int32) : vx_Met l yX11_either w_c_H_either ({ frames := 7, cells := 1, slots := 6, locals := 104 }) (va_Pc [.ref hh, .int x1, .int x2] (zPreD eD eI ad (dC, dI) [(hh, .inr (13, [.ref aexpr, .ref achoo, .ref ameth, .ref aroom, .ref anod, .ref asort, .ref anote, .ref amet, .int 0, .int 1])), (aexpr, .inr (1, [.int 0, .ref eD, .int 0]))] [] sz)) (va_Qi (fun (r : Int32) (_ : Unit) => False) (fun (_ : Unit) => zEnd (dC, dI) (va_A [(hh, .inr (13, [.ref aexpr, .ref achoo, .ref ameth, .ref aroom, .ref anod, .ref asort, .ref anote, .ref amet, .int 0, .int 1])), (aexpr, .inr (1, [.int 0, .ref eD, .int 0]))] sz) [(hh, .inr (13, [.ref aexpr, .ref achoo, .ref ameth, .ref aroom, .ref anod, .ref asort, .ref anote, .ref amet, .int 0, .int 1])), (aexpr, .inr (1, [.int 0, .ref eD, .int 0]))] []) (va_A [(hh, .inr (13, [.ref aexpr, .ref achoo, .ref ameth, .ref aroom, .ref anod, .ref asort, .ref anote, .ref amet, .int 0, .int 1])), (aexpr, .inr (1, [.int 0, .ref eD, .int 0]))] sz)) (zX (fun E => E = "java/lang/IndexOutOfBoundsException") (va_A [(hh, .inr (13, [.ref aexpr, .ref achoo, .ref ameth, .ref aroom, .ref anod, .ref asort, .ref anote, .ref amet, .int 0, .int 1])), (aexpr, .inr (1, [.int 0, .ref eD, .int 0]))] sz)) 1 6 (va_A [(hh, .inr (13, [.ref aexpr, .ref achoo, .ref ameth, .ref aroom, .ref anod, .ref asort, .ref anote, .ref amet, .int 0, .int 1])), (aexpr, .inr (1, [.int 0, .ref eD, .int 0]))] sz) := by
  refine vx_ofW (cc := cX11_either) (maxL := 3) (ret := (some .int)) (by decide +kernel) rfl ?_
  intro p e s m args below meth c s₁ B hml htab hv
  obtain ⟨rfl, ⟨hsz, hP, hK, hD0, hE⟩, hDc⟩ := hv
  have hx := B.exec
  have hb := B.bytes
  have hr := B.returns
  have hts := atoms_spec (ws := w_c_H_either) B.pre
  have hown : s.vm.findClass RX11 = some m.cls := findClass_of_methodNamed B.named
  have hlocks := B.notSynchronized
  subst hsz
  have hD := hD0.self (sz := s.heap.size)
  generalize hAe : va_A [(hh, .inr (13, [.ref aexpr, .ref achoo, .ref ameth, .ref aroom, .ref anod, .ref asort, .ref anote, .ref amet, .int 0, .int 1])), (aexpr, .inr (1, [.int 0, .ref eD, .int 0]))] s.heap.size = A at hD hE ⊢
  have hA : ∀ q : Nat, s.heap.size ≤ q → A q := fun q h => by rw [← hAe]; exact Or.inr h
  have hS : va_S A s.heap s.heap [] := va_S.rf
  have hP : va_P (dC, dI) vwCl [(hh, .inr (13, [.ref aexpr, .ref achoo, .ref ameth, .ref aroom, .ref anod, .ref asort, .ref anote, .ref amet, .int 0, .int 1])), (aexpr, .inr (1, [.int 0, .ref eD, .int 0]))] s.heap := hP
  have hl := lv_entry ([.ref hh, .int x1, .int x2]) (n := 3) (Nat.le_of_ble_eq_true rfl)
  rw [lg_entry_eq]
  generalize (lg_sl ([.ref hh, .int x1, .int x2]) ++ List.replicate (3 - (lg_sl ([.ref hh, .int x1, .int x2])).length) Slot.unset).toArray = ls at hl ⊢
  have hl : lv_has ls 3 [(0, .ref hh), (1, .int x1), (2, .int x2)] := hl
  have in_RJx4a65c : ∀ w ∈ u_ws RJx4a65c TJx4a65c 3, w ∈ w_c_H_either := by decide +kernel
  have in_RX11 : ∀ w ∈ u_ws RX11 TX11 10, w ∈ w_c_H_either := by decide +kernel
  refine lv_aload_n hx hb dX11_either_0 rfl (lv_at hl 0 rfl) ?_
  refine lv_iload_n hx hb dX11_either_1 rfl (lv_at hl 1 rfl) ?_
  refine zx_v (wr := []) (vx_runV (As := [.int x1]) (rest := []) ⟨hx, hb, hml, hown, hts⟩ (c_H_needExpr l hfl eD eI ad dC dI s.heap.size hh aexpr achoo ameth aroom anod asort anote amet x1) (cwV 1 hts g_c_H_either_0 rfl rfl rfl (by decide +kernel) ⟨Nat.le_of_ble_eq_true rfl, Nat.le_of_ble_eq_true rfl⟩) (z_preVD (wc := [(hh, .inr (13, [.ref aexpr, .ref achoo, .ref ameth, .ref aroom, .ref anod, .ref asort, .ref anote, .ref amet, .int 0, .int 1])), (aexpr, .inr (1, [.int 0, .ref eD, .int 0]))]) hP hD hK hS hA hE [0, 1] [] rfl (by decide) rfl (ci := 13) (q0 := 0) rfl rfl hDc) rfl rfl hl.1 rfl (lv_room (Nat.le_of_ble_eq_true rfl)) dX11_either_2 ⟨Nat.le_of_ble_eq_true rfl, Nat.le_of_ble_eq_true rfl⟩) hP hD hK hS hA [0, 1] [] rfl rfl (by decide) (by decide) (fun E ce q9 H locs hbad hP hD hS h91 h92 h93 => ?_) (fun u H locs hw_2 hP hD hK hS => ?_)
  · have hbad : (fun E => E = "java/lang/IndexOutOfBoundsException") E := hbad
    refine vx_widen (k := 1) (n := 6) (Nat.le_of_ble_eq_true rfl) (Nat.le_of_ble_eq_true rfl) ?_
    exact vx_out (fun x h => (htab x h).elim) hlocks h91 h92 h93 (fun t ht hW => ⟨(), trivial, hbad, hS.F ht⟩) hS.2.2 (Nat.le_refl _) (Nat.le_refl _)
  exact absurd hw_2 id

def wb_c_H_as : List Cond := [.code yX11_needExpression cX11_needExpression 3 none, .classLink RX11 277 "java/lang/IndexOutOfBoundsException", .initialized "java/lang/IndexOutOfBoundsException", .fieldLink RX11 12 "Hornbook" "expressions" "Ljava/util/ArrayList;", .code yJx4a65c_size_8abf5 cJx4a65c_size_8abf5 1 (some .int), .fieldLink RJx4a65c 48 "java/util/ArrayList" "size" "I", .methodLink RX11 73 yJx4a65c_size_8abf5, .instanceMethod yJx4a65c_size_8abf5, .selects RJx4a65c yJx4a65c_size_8abf5 yJx4a65c_size_8abf5, .initialized RJx4a65c, .methodLink RX11 232 yX11_needExpression, .instanceMethod yX11_needExpression, .selects RX11 yX11_needExpression yX11_needExpression, .initialized RX11] ++ u_ws RJx4a65c TJx4a65c 3 ++ u_ws RX11 TX11 10
def w_c_H_as : List Cond := .code yX11_as cX11_as 3 (some .int) :: (wb_c_H_as ++ zAt)
set_option maxRecDepth 100000 in
theorem g_c_H_as_0 : GoodIn w_c_H_as (wsV RX11 232 RX11 yX11_needExpression w_c_H_needExpr) := goodIn_app (goodIn_of _ (by decide +kernel)) (goodIn_ca (goodIn_p (big := w_c_H_as) (.code yX11_needExpression cX11_needExpression 3 none :: wb_c_H_needExpr) [1, 5] rfl (by decide +kernel)) (goodIn_sub (fun _ h => List.mem_cons_of_mem _ (List.mem_append_right _ h)) zAt_good))
set_option maxHeartbeats 4000000 in
set_option maxRecDepth 100000 in
theorem c_H_as (l : Launch) (hfl : l.flags = flags0) (eD eI : Nat) (ad : Nat → Nat) (dC : Nat → ClassId) (dI : Nat → Nat → Nat) (sz : Nat) (hh : Nat) (aexpr : Nat) (achoo : Nat) (ameth : Nat) (aroom : Nat) (anod : Nat) (asort : Nat) (anote : Nat) (amet : Nat) (x1 : Int32) (x2 : Int32) : vx_Met l yX11_as w_c_H_as ({ frames := 7, cells := 1, slots := 6, locals := 104 }) (va_Pc [.ref hh, .int x1, .int x2] (zPreD eD eI ad (dC, dI) [(hh, .inr (13, [.ref aexpr, .ref achoo, .ref ameth, .ref aroom, .ref anod, .ref asort, .ref anote, .ref amet, .int 0, .int 1])), (aexpr, .inr (1, [.int 0, .ref eD, .int 0]))] [] sz)) (va_Qi (fun (r : Int32) (_ : Unit) => False) (fun (_ : Unit) => zEnd (dC, dI) (va_A [(hh, .inr (13, [.ref aexpr, .ref achoo, .ref ameth, .ref aroom, .ref anod, .ref asort, .ref anote, .ref amet, .int 0, .int 1])), (aexpr, .inr (1, [.int 0, .ref eD, .int 0]))] sz) [(hh, .inr (13, [.ref aexpr, .ref achoo, .ref ameth, .ref aroom, .ref anod, .ref asort, .ref anote, .ref amet, .int 0, .int 1])), (aexpr, .inr (1, [.int 0, .ref eD, .int 0]))] []) (va_A [(hh, .inr (13, [.ref aexpr, .ref achoo, .ref ameth, .ref aroom, .ref anod, .ref asort, .ref anote, .ref amet, .int 0, .int 1])), (aexpr, .inr (1, [.int 0, .ref eD, .int 0]))] sz)) (zX (fun E => E = "java/lang/IndexOutOfBoundsException") (va_A [(hh, .inr (13, [.ref aexpr, .ref achoo, .ref ameth, .ref aroom, .ref anod, .ref asort, .ref anote, .ref amet, .int 0, .int 1])), (aexpr, .inr (1, [.int 0, .ref eD, .int 0]))] sz)) 1 6 (va_A [(hh, .inr (13, [.ref aexpr, .ref achoo, .ref ameth, .ref aroom, .ref anod, .ref asort, .ref anote, .ref amet, .int 0, .int 1])), (aexpr, .inr (1, [.int 0, .ref eD, .int 0]))] sz) := by
  refine vx_ofW (cc := cX11_as) (maxL := 3) (ret := (some .int)) (by decide +kernel) rfl ?_
  intro p e s m args below meth c s₁ B hml htab hv
  obtain ⟨rfl, ⟨hsz, hP, hK, hD0, hE⟩, hDc⟩ := hv
  have hx := B.exec
  have hb := B.bytes
  have hr := B.returns
  have hts := atoms_spec (ws := w_c_H_as) B.pre
  have hown : s.vm.findClass RX11 = some m.cls := findClass_of_methodNamed B.named
  have hlocks := B.notSynchronized
  subst hsz
  have hD := hD0.self (sz := s.heap.size)
  generalize hAe : va_A [(hh, .inr (13, [.ref aexpr, .ref achoo, .ref ameth, .ref aroom, .ref anod, .ref asort, .ref anote, .ref amet, .int 0, .int 1])), (aexpr, .inr (1, [.int 0, .ref eD, .int 0]))] s.heap.size = A at hD hE ⊢
  have hA : ∀ q : Nat, s.heap.size ≤ q → A q := fun q h => by rw [← hAe]; exact Or.inr h
  have hS : va_S A s.heap s.heap [] := va_S.rf
  have hP : va_P (dC, dI) vwCl [(hh, .inr (13, [.ref aexpr, .ref achoo, .ref ameth, .ref aroom, .ref anod, .ref asort, .ref anote, .ref amet, .int 0, .int 1])), (aexpr, .inr (1, [.int 0, .ref eD, .int 0]))] s.heap := hP
  have hl := lv_entry ([.ref hh, .int x1, .int x2]) (n := 3) (Nat.le_of_ble_eq_true rfl)
  rw [lg_entry_eq]
  generalize (lg_sl ([.ref hh, .int x1, .int x2]) ++ List.replicate (3 - (lg_sl ([.ref hh, .int x1, .int x2])).length) Slot.unset).toArray = ls at hl ⊢
  have hl : lv_has ls 3 [(0, .ref hh), (1, .int x1), (2, .int x2)] := hl
  have in_RJx4a65c : ∀ w ∈ u_ws RJx4a65c TJx4a65c 3, w ∈ w_c_H_as := by decide +kernel
  have in_RX11 : ∀ w ∈ u_ws RX11 TX11 10, w ∈ w_c_H_as := by decide +kernel
  refine lv_aload_n hx hb dX11_as_0 rfl (lv_at hl 0 rfl) ?_
  refine lv_iload_n hx hb dX11_as_1 rfl (lv_at hl 1 rfl) ?_
  refine zx_v (wr := []) (vx_runV (As := [.int x1]) (rest := []) ⟨hx, hb, hml, hown, hts⟩ (c_H_needExpr l hfl eD eI ad dC dI s.heap.size hh aexpr achoo ameth aroom anod asort anote amet x1) (cwV 1 hts g_c_H_as_0 rfl rfl rfl (by decide +kernel) ⟨Nat.le_of_ble_eq_true rfl, Nat.le_of_ble_eq_true rfl⟩) (z_preVD (wc := [(hh, .inr (13, [.ref aexpr, .ref achoo, .ref ameth, .ref aroom, .ref anod, .ref asort, .ref anote, .ref amet, .int 0, .int 1])), (aexpr, .inr (1, [.int 0, .ref eD, .int 0]))]) hP hD hK hS hA hE [0, 1] [] rfl (by decide) rfl (ci := 13) (q0 := 0) rfl rfl hDc) rfl rfl hl.1 rfl (lv_room (Nat.le_of_ble_eq_true rfl)) dX11_as_2 ⟨Nat.le_of_ble_eq_true rfl, Nat.le_of_ble_eq_true rfl⟩) hP hD hK hS hA [0, 1] [] rfl rfl (by decide) (by decide) (fun E ce q9 H locs hbad hP hD hS h91 h92 h93 => ?_) (fun u H locs hw_2 hP hD hK hS => ?_)
  · have hbad : (fun E => E = "java/lang/IndexOutOfBoundsException") E := hbad
    refine vx_widen (k := 1) (n := 6) (Nat.le_of_ble_eq_true rfl) (Nat.le_of_ble_eq_true rfl) ?_
    exact vx_out (fun x h => (htab x h).elim) hlocks h91 h92 h93 (fun t ht hW => ⟨(), trivial, hbad, hS.F ht⟩) hS.2.2 (Nat.le_refl _) (Nat.le_refl _)
  exact absurd hw_2 id

def wb_c_H_call : List Cond := [.code yX11_needExpression cX11_needExpression 3 none, .classLink RX11 277 "java/lang/IndexOutOfBoundsException", .initialized "java/lang/IndexOutOfBoundsException", .fieldLink RX11 12 "Hornbook" "expressions" "Ljava/util/ArrayList;", .code yJx4a65c_size_8abf5 cJx4a65c_size_8abf5 1 (some .int), .fieldLink RJx4a65c 48 "java/util/ArrayList" "size" "I", .methodLink RX11 73 yJx4a65c_size_8abf5, .instanceMethod yJx4a65c_size_8abf5, .selects RJx4a65c yJx4a65c_size_8abf5 yJx4a65c_size_8abf5, .initialized RJx4a65c, .methodLink RX11 232 yX11_needExpression, .instanceMethod yX11_needExpression, .selects RX11 yX11_needExpression yX11_needExpression, .initialized RX11] ++ u_ws RJx4a65c TJx4a65c 3 ++ u_ws RX11 TX11 10
def w_c_H_call : List Cond := .code yX11_call cX11_call 7 (some .int) :: (wb_c_H_call ++ zAt)
set_option maxRecDepth 100000 in
theorem g_c_H_call_0 : GoodIn w_c_H_call (wsV RX11 232 RX11 yX11_needExpression w_c_H_needExpr) := goodIn_app (goodIn_of _ (by decide +kernel)) (goodIn_ca (goodIn_p (big := w_c_H_call) (.code yX11_needExpression cX11_needExpression 3 none :: wb_c_H_needExpr) [1, 5] rfl (by decide +kernel)) (goodIn_sub (fun _ h => List.mem_cons_of_mem _ (List.mem_append_right _ h)) zAt_good))
set_option maxHeartbeats 4000000 in
set_option maxRecDepth 100000 in
theorem c_H_call (l : Launch) (hfl : l.flags = flags0) (eD eI : Nat) (ad : Nat → Nat) (dC : Nat → ClassId) (dI : Nat → Nat → Nat) (sz : Nat) (hh : Nat) (aexpr : Nat) (achoo : Nat) (ameth : Nat) (aroom : Nat) (anod : Nat) (asort : Nat) (anote : Nat) (amet : Nat) (x1 : Int32) (x2 : Int32) (x3 : Int32) (x4 : Int32) : vx_Met l yX11_call w_c_H_call ({ frames := 7, cells := 1, slots := 6, locals := 104 }) (va_Pc [.ref hh, .int x1, .int x2, .int x3, .int x4] (zPreD eD eI ad (dC, dI) [(hh, .inr (13, [.ref aexpr, .ref achoo, .ref ameth, .ref aroom, .ref anod, .ref asort, .ref anote, .ref amet, .int 0, .int 1])), (aexpr, .inr (1, [.int 0, .ref eD, .int 0]))] [] sz)) (va_Qi (fun (r : Int32) (_ : Unit) => False) (fun (_ : Unit) => zEnd (dC, dI) (va_A [(hh, .inr (13, [.ref aexpr, .ref achoo, .ref ameth, .ref aroom, .ref anod, .ref asort, .ref anote, .ref amet, .int 0, .int 1])), (aexpr, .inr (1, [.int 0, .ref eD, .int 0]))] sz) [(hh, .inr (13, [.ref aexpr, .ref achoo, .ref ameth, .ref aroom, .ref anod, .ref asort, .ref anote, .ref amet, .int 0, .int 1])), (aexpr, .inr (1, [.int 0, .ref eD, .int 0]))] []) (va_A [(hh, .inr (13, [.ref aexpr, .ref achoo, .ref ameth, .ref aroom, .ref anod, .ref asort, .ref anote, .ref amet, .int 0, .int 1])), (aexpr, .inr (1, [.int 0, .ref eD, .int 0]))] sz)) (zX (fun E => E = "java/lang/IndexOutOfBoundsException") (va_A [(hh, .inr (13, [.ref aexpr, .ref achoo, .ref ameth, .ref aroom, .ref anod, .ref asort, .ref anote, .ref amet, .int 0, .int 1])), (aexpr, .inr (1, [.int 0, .ref eD, .int 0]))] sz)) 1 6 (va_A [(hh, .inr (13, [.ref aexpr, .ref achoo, .ref ameth, .ref aroom, .ref anod, .ref asort, .ref anote, .ref amet, .int 0, .int 1])), (aexpr, .inr (1, [.int 0, .ref eD, .int 0]))] sz) := by
  refine vx_ofW (cc := cX11_call) (maxL := 7) (ret := (some .int)) (by decide +kernel) rfl ?_
  intro p e s m args below meth c s₁ B hml htab hv
  obtain ⟨rfl, ⟨hsz, hP, hK, hD0, hE⟩, hDc⟩ := hv
  have hx := B.exec
  have hb := B.bytes
  have hr := B.returns
  have hts := atoms_spec (ws := w_c_H_call) B.pre
  have hown : s.vm.findClass RX11 = some m.cls := findClass_of_methodNamed B.named
  have hlocks := B.notSynchronized
  subst hsz
  have hD := hD0.self (sz := s.heap.size)
  generalize hAe : va_A [(hh, .inr (13, [.ref aexpr, .ref achoo, .ref ameth, .ref aroom, .ref anod, .ref asort, .ref anote, .ref amet, .int 0, .int 1])), (aexpr, .inr (1, [.int 0, .ref eD, .int 0]))] s.heap.size = A at hD hE ⊢
  have hA : ∀ q : Nat, s.heap.size ≤ q → A q := fun q h => by rw [← hAe]; exact Or.inr h
  have hS : va_S A s.heap s.heap [] := va_S.rf
  have hP : va_P (dC, dI) vwCl [(hh, .inr (13, [.ref aexpr, .ref achoo, .ref ameth, .ref aroom, .ref anod, .ref asort, .ref anote, .ref amet, .int 0, .int 1])), (aexpr, .inr (1, [.int 0, .ref eD, .int 0]))] s.heap := hP
  have hl := lv_entry ([.ref hh, .int x1, .int x2, .int x3, .int x4]) (n := 7) (Nat.le_of_ble_eq_true rfl)
  rw [lg_entry_eq]
  generalize (lg_sl ([.ref hh, .int x1, .int x2, .int x3, .int x4]) ++ List.replicate (7 - (lg_sl ([.ref hh, .int x1, .int x2, .int x3, .int x4])).length) Slot.unset).toArray = ls at hl ⊢
  have hl : lv_has ls 7 [(0, .ref hh), (1, .int x1), (2, .int x2), (3, .int x3), (4, .int x4)] := hl
  have in_RJx4a65c : ∀ w ∈ u_ws RJx4a65c TJx4a65c 3, w ∈ w_c_H_call := by decide +kernel
  have in_RX11 : ∀ w ∈ u_ws RX11 TX11 10, w ∈ w_c_H_call := by decide +kernel
  refine lv_aload_n hx hb dX11_call_0 rfl (lv_at hl 0 rfl) ?_
  refine lv_iload_n hx hb dX11_call_1 rfl (lv_at hl 1 rfl) ?_
  refine zx_v (wr := []) (vx_runV (As := [.int x1]) (rest := []) ⟨hx, hb, hml, hown, hts⟩ (c_H_needExpr l hfl eD eI ad dC dI s.heap.size hh aexpr achoo ameth aroom anod asort anote amet x1) (cwV 1 hts g_c_H_call_0 rfl rfl rfl (by decide +kernel) ⟨Nat.le_of_ble_eq_true rfl, Nat.le_of_ble_eq_true rfl⟩) (z_preVD (wc := [(hh, .inr (13, [.ref aexpr, .ref achoo, .ref ameth, .ref aroom, .ref anod, .ref asort, .ref anote, .ref amet, .int 0, .int 1])), (aexpr, .inr (1, [.int 0, .ref eD, .int 0]))]) hP hD hK hS hA hE [0, 1] [] rfl (by decide) rfl (ci := 13) (q0 := 0) rfl rfl hDc) rfl rfl hl.1 rfl (lv_room (Nat.le_of_ble_eq_true rfl)) dX11_call_2 ⟨Nat.le_of_ble_eq_true rfl, Nat.le_of_ble_eq_true rfl⟩) hP hD hK hS hA [0, 1] [] rfl rfl (by decide) (by decide) (fun E ce q9 H locs hbad hP hD hS h91 h92 h93 => ?_) (fun u H locs hw_2 hP hD hK hS => ?_)
  · have hbad : (fun E => E = "java/lang/IndexOutOfBoundsException") E := hbad
    refine vx_widen (k := 1) (n := 6) (Nat.le_of_ble_eq_true rfl) (Nat.le_of_ble_eq_true rfl) ?_
    exact vx_out (fun x h => (htab x h).elim) hlocks h91 h92 h93 (fun t ht hW => ⟨(), trivial, hbad, hS.F ht⟩) hS.2.2 (Nat.le_refl _) (Nat.le_refl _)
  exact absurd hw_2 id

def wb_c_H_line : List Cond := [.code yX11_needExpression cX11_needExpression 3 none, .classLink RX11 277 "java/lang/IndexOutOfBoundsException", .initialized "java/lang/IndexOutOfBoundsException", .fieldLink RX11 12 "Hornbook" "expressions" "Ljava/util/ArrayList;", .code yJx4a65c_size_8abf5 cJx4a65c_size_8abf5 1 (some .int), .fieldLink RJx4a65c 48 "java/util/ArrayList" "size" "I", .methodLink RX11 73 yJx4a65c_size_8abf5, .instanceMethod yJx4a65c_size_8abf5, .selects RJx4a65c yJx4a65c_size_8abf5 yJx4a65c_size_8abf5, .initialized RJx4a65c, .methodLink RX11 232 yX11_needExpression, .instanceMethod yX11_needExpression, .selects RX11 yX11_needExpression yX11_needExpression, .initialized RX11] ++ u_ws RJx4a65c TJx4a65c 3 ++ u_ws RX11 TX11 10
def w_c_H_line : List Cond := .code yX11_line cX11_line 3 (some .int) :: (wb_c_H_line ++ zAt)
set_option maxRecDepth 100000 in
theorem g_c_H_line_0 : GoodIn w_c_H_line (wsV RX11 232 RX11 yX11_needExpression w_c_H_needExpr) := goodIn_app (goodIn_of _ (by decide +kernel)) (goodIn_ca (goodIn_p (big := w_c_H_line) (.code yX11_needExpression cX11_needExpression 3 none :: wb_c_H_needExpr) [1, 5] rfl (by decide +kernel)) (goodIn_sub (fun _ h => List.mem_cons_of_mem _ (List.mem_append_right _ h)) zAt_good))
set_option maxHeartbeats 4000000 in
set_option maxRecDepth 100000 in
theorem c_H_line (l : Launch) (hfl : l.flags = flags0) (eD eI : Nat) (ad : Nat → Nat) (dC : Nat → ClassId) (dI : Nat → Nat → Nat) (sz : Nat) (hh : Nat) (aexpr : Nat) (achoo : Nat) (ameth : Nat) (aroom : Nat) (anod : Nat) (asort : Nat) (anote : Nat) (amet : Nat) (x1 : Int32) (x2 : Int32) : vx_Met l yX11_line w_c_H_line ({ frames := 7, cells := 1, slots := 6, locals := 104 }) (va_Pc [.ref hh, .int x1, .int x2] (zPreD eD eI ad (dC, dI) [(hh, .inr (13, [.ref aexpr, .ref achoo, .ref ameth, .ref aroom, .ref anod, .ref asort, .ref anote, .ref amet, .int 0, .int 1])), (aexpr, .inr (1, [.int 0, .ref eD, .int 0]))] [] sz)) (va_Qi (fun (r : Int32) (_ : Unit) => False) (fun (_ : Unit) => zEnd (dC, dI) (va_A [(hh, .inr (13, [.ref aexpr, .ref achoo, .ref ameth, .ref aroom, .ref anod, .ref asort, .ref anote, .ref amet, .int 0, .int 1])), (aexpr, .inr (1, [.int 0, .ref eD, .int 0]))] sz) [(hh, .inr (13, [.ref aexpr, .ref achoo, .ref ameth, .ref aroom, .ref anod, .ref asort, .ref anote, .ref amet, .int 0, .int 1])), (aexpr, .inr (1, [.int 0, .ref eD, .int 0]))] []) (va_A [(hh, .inr (13, [.ref aexpr, .ref achoo, .ref ameth, .ref aroom, .ref anod, .ref asort, .ref anote, .ref amet, .int 0, .int 1])), (aexpr, .inr (1, [.int 0, .ref eD, .int 0]))] sz)) (zX (fun E => E = "java/lang/IndexOutOfBoundsException") (va_A [(hh, .inr (13, [.ref aexpr, .ref achoo, .ref ameth, .ref aroom, .ref anod, .ref asort, .ref anote, .ref amet, .int 0, .int 1])), (aexpr, .inr (1, [.int 0, .ref eD, .int 0]))] sz)) 1 6 (va_A [(hh, .inr (13, [.ref aexpr, .ref achoo, .ref ameth, .ref aroom, .ref anod, .ref asort, .ref anote, .ref amet, .int 0, .int 1])), (aexpr, .inr (1, [.int 0, .ref eD, .int 0]))] sz) := by
  refine vx_ofW (cc := cX11_line) (maxL := 3) (ret := (some .int)) (by decide +kernel) rfl ?_
  intro p e s m args below meth c s₁ B hml htab hv
  obtain ⟨rfl, ⟨hsz, hP, hK, hD0, hE⟩, hDc⟩ := hv
  have hx := B.exec
  have hb := B.bytes
  have hr := B.returns
  have hts := atoms_spec (ws := w_c_H_line) B.pre
  have hown : s.vm.findClass RX11 = some m.cls := findClass_of_methodNamed B.named
  have hlocks := B.notSynchronized
  subst hsz
  have hD := hD0.self (sz := s.heap.size)
  generalize hAe : va_A [(hh, .inr (13, [.ref aexpr, .ref achoo, .ref ameth, .ref aroom, .ref anod, .ref asort, .ref anote, .ref amet, .int 0, .int 1])), (aexpr, .inr (1, [.int 0, .ref eD, .int 0]))] s.heap.size = A at hD hE ⊢
  have hA : ∀ q : Nat, s.heap.size ≤ q → A q := fun q h => by rw [← hAe]; exact Or.inr h
  have hS : va_S A s.heap s.heap [] := va_S.rf
  have hP : va_P (dC, dI) vwCl [(hh, .inr (13, [.ref aexpr, .ref achoo, .ref ameth, .ref aroom, .ref anod, .ref asort, .ref anote, .ref amet, .int 0, .int 1])), (aexpr, .inr (1, [.int 0, .ref eD, .int 0]))] s.heap := hP
  have hl := lv_entry ([.ref hh, .int x1, .int x2]) (n := 3) (Nat.le_of_ble_eq_true rfl)
  rw [lg_entry_eq]
  generalize (lg_sl ([.ref hh, .int x1, .int x2]) ++ List.replicate (3 - (lg_sl ([.ref hh, .int x1, .int x2])).length) Slot.unset).toArray = ls at hl ⊢
  have hl : lv_has ls 3 [(0, .ref hh), (1, .int x1), (2, .int x2)] := hl
  have in_RJx4a65c : ∀ w ∈ u_ws RJx4a65c TJx4a65c 3, w ∈ w_c_H_line := by decide +kernel
  have in_RX11 : ∀ w ∈ u_ws RX11 TX11 10, w ∈ w_c_H_line := by decide +kernel
  refine lv_aload_n hx hb dX11_line_0 rfl (lv_at hl 0 rfl) ?_
  refine lv_iload_n hx hb dX11_line_1 rfl (lv_at hl 1 rfl) ?_
  refine zx_v (wr := []) (vx_runV (As := [.int x1]) (rest := []) ⟨hx, hb, hml, hown, hts⟩ (c_H_needExpr l hfl eD eI ad dC dI s.heap.size hh aexpr achoo ameth aroom anod asort anote amet x1) (cwV 1 hts g_c_H_line_0 rfl rfl rfl (by decide +kernel) ⟨Nat.le_of_ble_eq_true rfl, Nat.le_of_ble_eq_true rfl⟩) (z_preVD (wc := [(hh, .inr (13, [.ref aexpr, .ref achoo, .ref ameth, .ref aroom, .ref anod, .ref asort, .ref anote, .ref amet, .int 0, .int 1])), (aexpr, .inr (1, [.int 0, .ref eD, .int 0]))]) hP hD hK hS hA hE [0, 1] [] rfl (by decide) rfl (ci := 13) (q0 := 0) rfl rfl hDc) rfl rfl hl.1 rfl (lv_room (Nat.le_of_ble_eq_true rfl)) dX11_line_2 ⟨Nat.le_of_ble_eq_true rfl, Nat.le_of_ble_eq_true rfl⟩) hP hD hK hS hA [0, 1] [] rfl rfl (by decide) (by decide) (fun E ce q9 H locs hbad hP hD hS h91 h92 h93 => ?_) (fun u H locs hw_2 hP hD hK hS => ?_)
  · have hbad : (fun E => E = "java/lang/IndexOutOfBoundsException") E := hbad
    refine vx_widen (k := 1) (n := 6) (Nat.le_of_ble_eq_true rfl) (Nat.le_of_ble_eq_true rfl) ?_
    exact vx_out (fun x h => (htab x h).elim) hlocks h91 h92 h93 (fun t ht hW => ⟨(), trivial, hbad, hS.F ht⟩) hS.2.2 (Nat.le_refl _) (Nat.le_refl _)
  exact absurd hw_2 id

def wb_c_H_seen : List Cond := [.code yX11_needExpression cX11_needExpression 3 none, .classLink RX11 277 "java/lang/IndexOutOfBoundsException", .initialized "java/lang/IndexOutOfBoundsException", .fieldLink RX11 12 "Hornbook" "expressions" "Ljava/util/ArrayList;", .code yJx4a65c_size_8abf5 cJx4a65c_size_8abf5 1 (some .int), .fieldLink RJx4a65c 48 "java/util/ArrayList" "size" "I", .methodLink RX11 73 yJx4a65c_size_8abf5, .instanceMethod yJx4a65c_size_8abf5, .selects RJx4a65c yJx4a65c_size_8abf5 yJx4a65c_size_8abf5, .initialized RJx4a65c, .methodLink RX11 232 yX11_needExpression, .instanceMethod yX11_needExpression, .selects RX11 yX11_needExpression yX11_needExpression, .initialized RX11] ++ u_ws RJx4a65c TJx4a65c 3 ++ u_ws RX11 TX11 10
def w_c_H_seen : List Cond := .code yX11_seen cX11_seen 2 (some .int) :: (wb_c_H_seen ++ zAt)
set_option maxRecDepth 100000 in
theorem g_c_H_seen_0 : GoodIn w_c_H_seen (wsV RX11 232 RX11 yX11_needExpression w_c_H_needExpr) := goodIn_app (goodIn_of _ (by decide +kernel)) (goodIn_ca (goodIn_p (big := w_c_H_seen) (.code yX11_needExpression cX11_needExpression 3 none :: wb_c_H_needExpr) [1, 5] rfl (by decide +kernel)) (goodIn_sub (fun _ h => List.mem_cons_of_mem _ (List.mem_append_right _ h)) zAt_good))
set_option maxHeartbeats 4000000 in
set_option maxRecDepth 100000 in
theorem c_H_seen (l : Launch) (hfl : l.flags = flags0) (eD eI : Nat) (ad : Nat → Nat) (dC : Nat → ClassId) (dI : Nat → Nat → Nat) (sz : Nat) (hh : Nat) (aexpr : Nat) (achoo : Nat) (ameth : Nat) (aroom : Nat) (anod : Nat) (asort : Nat) (anote : Nat) (amet : Nat) (x1 : Int32) : vx_Met l yX11_seen w_c_H_seen ({ frames := 7, cells := 1, slots := 6, locals := 104 }) (va_Pc [.ref hh, .int x1] (zPreD eD eI ad (dC, dI) [(hh, .inr (13, [.ref aexpr, .ref achoo, .ref ameth, .ref aroom, .ref anod, .ref asort, .ref anote, .ref amet, .int 0, .int 1])), (aexpr, .inr (1, [.int 0, .ref eD, .int 0]))] [] sz)) (va_Qi (fun (r : Int32) (_ : Unit) => False) (fun (_ : Unit) => zEnd (dC, dI) (va_A [(hh, .inr (13, [.ref aexpr, .ref achoo, .ref ameth, .ref aroom, .ref anod, .ref asort, .ref anote, .ref amet, .int 0, .int 1])), (aexpr, .inr (1, [.int 0, .ref eD, .int 0]))] sz) [(hh, .inr (13, [.ref aexpr, .ref achoo, .ref ameth, .ref aroom, .ref anod, .ref asort, .ref anote, .ref amet, .int 0, .int 1])), (aexpr, .inr (1, [.int 0, .ref eD, .int 0]))] []) (va_A [(hh, .inr (13, [.ref aexpr, .ref achoo, .ref ameth, .ref aroom, .ref anod, .ref asort, .ref anote, .ref amet, .int 0, .int 1])), (aexpr, .inr (1, [.int 0, .ref eD, .int 0]))] sz)) (zX (fun E => E = "java/lang/IndexOutOfBoundsException") (va_A [(hh, .inr (13, [.ref aexpr, .ref achoo, .ref ameth, .ref aroom, .ref anod, .ref asort, .ref anote, .ref amet, .int 0, .int 1])), (aexpr, .inr (1, [.int 0, .ref eD, .int 0]))] sz)) 1 6 (va_A [(hh, .inr (13, [.ref aexpr, .ref achoo, .ref ameth, .ref aroom, .ref anod, .ref asort, .ref anote, .ref amet, .int 0, .int 1])), (aexpr, .inr (1, [.int 0, .ref eD, .int 0]))] sz) := by
  refine vx_ofW (cc := cX11_seen) (maxL := 2) (ret := (some .int)) (by decide +kernel) rfl ?_
  intro p e s m args below meth c s₁ B hml htab hv
  obtain ⟨rfl, ⟨hsz, hP, hK, hD0, hE⟩, hDc⟩ := hv
  have hx := B.exec
  have hb := B.bytes
  have hr := B.returns
  have hts := atoms_spec (ws := w_c_H_seen) B.pre
  have hown : s.vm.findClass RX11 = some m.cls := findClass_of_methodNamed B.named
  have hlocks := B.notSynchronized
  subst hsz
  have hD := hD0.self (sz := s.heap.size)
  generalize hAe : va_A [(hh, .inr (13, [.ref aexpr, .ref achoo, .ref ameth, .ref aroom, .ref anod, .ref asort, .ref anote, .ref amet, .int 0, .int 1])), (aexpr, .inr (1, [.int 0, .ref eD, .int 0]))] s.heap.size = A at hD hE ⊢
  have hA : ∀ q : Nat, s.heap.size ≤ q → A q := fun q h => by rw [← hAe]; exact Or.inr h
  have hS : va_S A s.heap s.heap [] := va_S.rf
  have hP : va_P (dC, dI) vwCl [(hh, .inr (13, [.ref aexpr, .ref achoo, .ref ameth, .ref aroom, .ref anod, .ref asort, .ref anote, .ref amet, .int 0, .int 1])), (aexpr, .inr (1, [.int 0, .ref eD, .int 0]))] s.heap := hP
  have hl := lv_entry ([.ref hh, .int x1]) (n := 2) (Nat.le_of_ble_eq_true rfl)
  rw [lg_entry_eq]
  generalize (lg_sl ([.ref hh, .int x1]) ++ List.replicate (2 - (lg_sl ([.ref hh, .int x1])).length) Slot.unset).toArray = ls at hl ⊢
  have hl : lv_has ls 2 [(0, .ref hh), (1, .int x1)] := hl
  have in_RJx4a65c : ∀ w ∈ u_ws RJx4a65c TJx4a65c 3, w ∈ w_c_H_seen := by decide +kernel
  have in_RX11 : ∀ w ∈ u_ws RX11 TX11 10, w ∈ w_c_H_seen := by decide +kernel
  refine lv_aload_n hx hb dX11_seen_0 rfl (lv_at hl 0 rfl) ?_
  refine lv_iload_n hx hb dX11_seen_1 rfl (lv_at hl 1 rfl) ?_
  refine zx_v (wr := []) (vx_runV (As := [.int x1]) (rest := []) ⟨hx, hb, hml, hown, hts⟩ (c_H_needExpr l hfl eD eI ad dC dI s.heap.size hh aexpr achoo ameth aroom anod asort anote amet x1) (cwV 1 hts g_c_H_seen_0 rfl rfl rfl (by decide +kernel) ⟨Nat.le_of_ble_eq_true rfl, Nat.le_of_ble_eq_true rfl⟩) (z_preVD (wc := [(hh, .inr (13, [.ref aexpr, .ref achoo, .ref ameth, .ref aroom, .ref anod, .ref asort, .ref anote, .ref amet, .int 0, .int 1])), (aexpr, .inr (1, [.int 0, .ref eD, .int 0]))]) hP hD hK hS hA hE [0, 1] [] rfl (by decide) rfl (ci := 13) (q0 := 0) rfl rfl hDc) rfl rfl hl.1 rfl (lv_room (Nat.le_of_ble_eq_true rfl)) dX11_seen_2 ⟨Nat.le_of_ble_eq_true rfl, Nat.le_of_ble_eq_true rfl⟩) hP hD hK hS hA [0, 1] [] rfl rfl (by decide) (by decide) (fun E ce q9 H locs hbad hP hD hS h91 h92 h93 => ?_) (fun u H locs hw_2 hP hD hK hS => ?_)
  · have hbad : (fun E => E = "java/lang/IndexOutOfBoundsException") E := hbad
    refine vx_widen (k := 1) (n := 6) (Nat.le_of_ble_eq_true rfl) (Nat.le_of_ble_eq_true rfl) ?_
    exact vx_out (fun x h => (htab x h).elim) hlocks h91 h92 h93 (fun t ht hW => ⟨(), trivial, hbad, hS.F ht⟩) hS.2.2 (Nat.le_refl _) (Nat.le_refl _)
  exact absurd hw_2 id

def wb_c_H_taking : List Cond := [.code yX11_needExpression cX11_needExpression 3 none, .classLink RX11 277 "java/lang/IndexOutOfBoundsException", .initialized "java/lang/IndexOutOfBoundsException", .fieldLink RX11 12 "Hornbook" "expressions" "Ljava/util/ArrayList;", .code yJx4a65c_size_8abf5 cJx4a65c_size_8abf5 1 (some .int), .fieldLink RJx4a65c 48 "java/util/ArrayList" "size" "I", .methodLink RX11 73 yJx4a65c_size_8abf5, .instanceMethod yJx4a65c_size_8abf5, .selects RJx4a65c yJx4a65c_size_8abf5 yJx4a65c_size_8abf5, .initialized RJx4a65c, .methodLink RX11 232 yX11_needExpression, .instanceMethod yX11_needExpression, .selects RX11 yX11_needExpression yX11_needExpression, .initialized RX11] ++ u_ws RJx4a65c TJx4a65c 3 ++ u_ws RX11 TX11 10
def w_c_H_taking : List Cond := .code yX11_taking cX11_taking 2 (some .int) :: (wb_c_H_taking ++ zAt)
set_option maxRecDepth 100000 in
theorem g_c_H_taking_0 : GoodIn w_c_H_taking (wsV RX11 232 RX11 yX11_needExpression w_c_H_needExpr) := goodIn_app (goodIn_of _ (by decide +kernel)) (goodIn_ca (goodIn_p (big := w_c_H_taking) (.code yX11_needExpression cX11_needExpression 3 none :: wb_c_H_needExpr) [1, 5] rfl (by decide +kernel)) (goodIn_sub (fun _ h => List.mem_cons_of_mem _ (List.mem_append_right _ h)) zAt_good))
set_option maxHeartbeats 4000000 in
set_option maxRecDepth 100000 in
theorem c_H_taking (l : Launch) (hfl : l.flags = flags0) (eD eI : Nat) (ad : Nat → Nat) (dC : Nat → ClassId) (dI : Nat → Nat → Nat) (sz : Nat) (hh : Nat) (aexpr : Nat) (achoo : Nat) (ameth : Nat) (aroom : Nat) (anod : Nat) (asort : Nat) (anote : Nat) (amet : Nat) (x1 : Int32) : vx_Met l yX11_taking w_c_H_taking ({ frames := 7, cells := 1, slots := 6, locals := 104 }) (va_Pc [.ref hh, .int x1] (zPreD eD eI ad (dC, dI) [(hh, .inr (13, [.ref aexpr, .ref achoo, .ref ameth, .ref aroom, .ref anod, .ref asort, .ref anote, .ref amet, .int 0, .int 1])), (aexpr, .inr (1, [.int 0, .ref eD, .int 0]))] [] sz)) (va_Qi (fun (r : Int32) (_ : Unit) => False) (fun (_ : Unit) => zEnd (dC, dI) (va_A [(hh, .inr (13, [.ref aexpr, .ref achoo, .ref ameth, .ref aroom, .ref anod, .ref asort, .ref anote, .ref amet, .int 0, .int 1])), (aexpr, .inr (1, [.int 0, .ref eD, .int 0]))] sz) [(hh, .inr (13, [.ref aexpr, .ref achoo, .ref ameth, .ref aroom, .ref anod, .ref asort, .ref anote, .ref amet, .int 0, .int 1])), (aexpr, .inr (1, [.int 0, .ref eD, .int 0]))] []) (va_A [(hh, .inr (13, [.ref aexpr, .ref achoo, .ref ameth, .ref aroom, .ref anod, .ref asort, .ref anote, .ref amet, .int 0, .int 1])), (aexpr, .inr (1, [.int 0, .ref eD, .int 0]))] sz)) (zX (fun E => E = "java/lang/IndexOutOfBoundsException") (va_A [(hh, .inr (13, [.ref aexpr, .ref achoo, .ref ameth, .ref aroom, .ref anod, .ref asort, .ref anote, .ref amet, .int 0, .int 1])), (aexpr, .inr (1, [.int 0, .ref eD, .int 0]))] sz)) 1 6 (va_A [(hh, .inr (13, [.ref aexpr, .ref achoo, .ref ameth, .ref aroom, .ref anod, .ref asort, .ref anote, .ref amet, .int 0, .int 1])), (aexpr, .inr (1, [.int 0, .ref eD, .int 0]))] sz) := by
  refine vx_ofW (cc := cX11_taking) (maxL := 2) (ret := (some .int)) (by decide +kernel) rfl ?_
  intro p e s m args below meth c s₁ B hml htab hv
  obtain ⟨rfl, ⟨hsz, hP, hK, hD0, hE⟩, hDc⟩ := hv
  have hx := B.exec
  have hb := B.bytes
  have hr := B.returns
  have hts := atoms_spec (ws := w_c_H_taking) B.pre
  have hown : s.vm.findClass RX11 = some m.cls := findClass_of_methodNamed B.named
  have hlocks := B.notSynchronized
  subst hsz
  have hD := hD0.self (sz := s.heap.size)
  generalize hAe : va_A [(hh, .inr (13, [.ref aexpr, .ref achoo, .ref ameth, .ref aroom, .ref anod, .ref asort, .ref anote, .ref amet, .int 0, .int 1])), (aexpr, .inr (1, [.int 0, .ref eD, .int 0]))] s.heap.size = A at hD hE ⊢
  have hA : ∀ q : Nat, s.heap.size ≤ q → A q := fun q h => by rw [← hAe]; exact Or.inr h
  have hS : va_S A s.heap s.heap [] := va_S.rf
  have hP : va_P (dC, dI) vwCl [(hh, .inr (13, [.ref aexpr, .ref achoo, .ref ameth, .ref aroom, .ref anod, .ref asort, .ref anote, .ref amet, .int 0, .int 1])), (aexpr, .inr (1, [.int 0, .ref eD, .int 0]))] s.heap := hP
  have hl := lv_entry ([.ref hh, .int x1]) (n := 2) (Nat.le_of_ble_eq_true rfl)
  rw [lg_entry_eq]
  generalize (lg_sl ([.ref hh, .int x1]) ++ List.replicate (2 - (lg_sl ([.ref hh, .int x1])).length) Slot.unset).toArray = ls at hl ⊢
  have hl : lv_has ls 2 [(0, .ref hh), (1, .int x1)] := hl
  have in_RJx4a65c : ∀ w ∈ u_ws RJx4a65c TJx4a65c 3, w ∈ w_c_H_taking := by decide +kernel
  have in_RX11 : ∀ w ∈ u_ws RX11 TX11 10, w ∈ w_c_H_taking := by decide +kernel
  refine lv_aload_n hx hb dX11_taking_0 rfl (lv_at hl 0 rfl) ?_
  refine lv_iload_n hx hb dX11_taking_1 rfl (lv_at hl 1 rfl) ?_
  refine zx_v (wr := []) (vx_runV (As := [.int x1]) (rest := []) ⟨hx, hb, hml, hown, hts⟩ (c_H_needExpr l hfl eD eI ad dC dI s.heap.size hh aexpr achoo ameth aroom anod asort anote amet x1) (cwV 1 hts g_c_H_taking_0 rfl rfl rfl (by decide +kernel) ⟨Nat.le_of_ble_eq_true rfl, Nat.le_of_ble_eq_true rfl⟩) (z_preVD (wc := [(hh, .inr (13, [.ref aexpr, .ref achoo, .ref ameth, .ref aroom, .ref anod, .ref asort, .ref anote, .ref amet, .int 0, .int 1])), (aexpr, .inr (1, [.int 0, .ref eD, .int 0]))]) hP hD hK hS hA hE [0, 1] [] rfl (by decide) rfl (ci := 13) (q0 := 0) rfl rfl hDc) rfl rfl hl.1 rfl (lv_room (Nat.le_of_ble_eq_true rfl)) dX11_taking_2 ⟨Nat.le_of_ble_eq_true rfl, Nat.le_of_ble_eq_true rfl⟩) hP hD hK hS hA [0, 1] [] rfl rfl (by decide) (by decide) (fun E ce q9 H locs hbad hP hD hS h91 h92 h93 => ?_) (fun u H locs hw_2 hP hD hK hS => ?_)
  · have hbad : (fun E => E = "java/lang/IndexOutOfBoundsException") E := hbad
    refine vx_widen (k := 1) (n := 6) (Nat.le_of_ble_eq_true rfl) (Nat.le_of_ble_eq_true rfl) ?_
    exact vx_out (fun x h => (htab x h).elim) hlocks h91 h92 h93 (fun t ht hW => ⟨(), trivial, hbad, hS.F ht⟩) hS.2.2 (Nat.le_refl _) (Nat.le_refl _)
  exact absurd hw_2 id

def wb_c_H_chosen : List Cond := [.code yX11_needExpression cX11_needExpression 3 none, .classLink RX11 277 "java/lang/IndexOutOfBoundsException", .initialized "java/lang/IndexOutOfBoundsException", .fieldLink RX11 12 "Hornbook" "expressions" "Ljava/util/ArrayList;", .code yJx4a65c_size_8abf5 cJx4a65c_size_8abf5 1 (some .int), .fieldLink RJx4a65c 48 "java/util/ArrayList" "size" "I", .methodLink RX11 73 yJx4a65c_size_8abf5, .instanceMethod yJx4a65c_size_8abf5, .selects RJx4a65c yJx4a65c_size_8abf5 yJx4a65c_size_8abf5, .initialized RJx4a65c, .methodLink RX11 232 yX11_needExpression, .instanceMethod yX11_needExpression, .selects RX11 yX11_needExpression yX11_needExpression, .initialized RX11] ++ u_ws RJx4a65c TJx4a65c 3 ++ u_ws RX11 TX11 10
def w_c_H_chosen : List Cond := .code yX11_chosen cX11_chosen 2 (some .int) :: (wb_c_H_chosen ++ zAt)
set_option maxRecDepth 100000 in
theorem g_c_H_chosen_0 : GoodIn w_c_H_chosen (wsV RX11 232 RX11 yX11_needExpression w_c_H_needExpr) := goodIn_app (goodIn_of _ (by decide +kernel)) (goodIn_ca (goodIn_p (big := w_c_H_chosen) (.code yX11_needExpression cX11_needExpression 3 none :: wb_c_H_needExpr) [1, 5] rfl (by decide +kernel)) (goodIn_sub (fun _ h => List.mem_cons_of_mem _ (List.mem_append_right _ h)) zAt_good))
set_option maxHeartbeats 4000000 in
set_option maxRecDepth 100000 in
theorem c_H_chosen (l : Launch) (hfl : l.flags = flags0) (eD eI : Nat) (ad : Nat → Nat) (dC : Nat → ClassId) (dI : Nat → Nat → Nat) (sz : Nat) (hh : Nat) (aexpr : Nat) (achoo : Nat) (ameth : Nat) (aroom : Nat) (anod : Nat) (asort : Nat) (anote : Nat) (amet : Nat) (x1 : Int32) : vx_Met l yX11_chosen w_c_H_chosen ({ frames := 7, cells := 1, slots := 6, locals := 104 }) (va_Pc [.ref hh, .int x1] (zPreD eD eI ad (dC, dI) [(hh, .inr (13, [.ref aexpr, .ref achoo, .ref ameth, .ref aroom, .ref anod, .ref asort, .ref anote, .ref amet, .int 0, .int 1])), (aexpr, .inr (1, [.int 0, .ref eD, .int 0]))] [] sz)) (va_Qi (fun (r : Int32) (_ : Unit) => False) (fun (_ : Unit) => zEnd (dC, dI) (va_A [(hh, .inr (13, [.ref aexpr, .ref achoo, .ref ameth, .ref aroom, .ref anod, .ref asort, .ref anote, .ref amet, .int 0, .int 1])), (aexpr, .inr (1, [.int 0, .ref eD, .int 0]))] sz) [(hh, .inr (13, [.ref aexpr, .ref achoo, .ref ameth, .ref aroom, .ref anod, .ref asort, .ref anote, .ref amet, .int 0, .int 1])), (aexpr, .inr (1, [.int 0, .ref eD, .int 0]))] []) (va_A [(hh, .inr (13, [.ref aexpr, .ref achoo, .ref ameth, .ref aroom, .ref anod, .ref asort, .ref anote, .ref amet, .int 0, .int 1])), (aexpr, .inr (1, [.int 0, .ref eD, .int 0]))] sz)) (zX (fun E => E = "java/lang/IndexOutOfBoundsException") (va_A [(hh, .inr (13, [.ref aexpr, .ref achoo, .ref ameth, .ref aroom, .ref anod, .ref asort, .ref anote, .ref amet, .int 0, .int 1])), (aexpr, .inr (1, [.int 0, .ref eD, .int 0]))] sz)) 1 6 (va_A [(hh, .inr (13, [.ref aexpr, .ref achoo, .ref ameth, .ref aroom, .ref anod, .ref asort, .ref anote, .ref amet, .int 0, .int 1])), (aexpr, .inr (1, [.int 0, .ref eD, .int 0]))] sz) := by
  refine vx_ofW (cc := cX11_chosen) (maxL := 2) (ret := (some .int)) (by decide +kernel) rfl ?_
  intro p e s m args below meth c s₁ B hml htab hv
  obtain ⟨rfl, ⟨hsz, hP, hK, hD0, hE⟩, hDc⟩ := hv
  have hx := B.exec
  have hb := B.bytes
  have hr := B.returns
  have hts := atoms_spec (ws := w_c_H_chosen) B.pre
  have hown : s.vm.findClass RX11 = some m.cls := findClass_of_methodNamed B.named
  have hlocks := B.notSynchronized
  subst hsz
  have hD := hD0.self (sz := s.heap.size)
  generalize hAe : va_A [(hh, .inr (13, [.ref aexpr, .ref achoo, .ref ameth, .ref aroom, .ref anod, .ref asort, .ref anote, .ref amet, .int 0, .int 1])), (aexpr, .inr (1, [.int 0, .ref eD, .int 0]))] s.heap.size = A at hD hE ⊢
  have hA : ∀ q : Nat, s.heap.size ≤ q → A q := fun q h => by rw [← hAe]; exact Or.inr h
  have hS : va_S A s.heap s.heap [] := va_S.rf
  have hP : va_P (dC, dI) vwCl [(hh, .inr (13, [.ref aexpr, .ref achoo, .ref ameth, .ref aroom, .ref anod, .ref asort, .ref anote, .ref amet, .int 0, .int 1])), (aexpr, .inr (1, [.int 0, .ref eD, .int 0]))] s.heap := hP
  have hl := lv_entry ([.ref hh, .int x1]) (n := 2) (Nat.le_of_ble_eq_true rfl)
  rw [lg_entry_eq]
  generalize (lg_sl ([.ref hh, .int x1]) ++ List.replicate (2 - (lg_sl ([.ref hh, .int x1])).length) Slot.unset).toArray = ls at hl ⊢
  have hl : lv_has ls 2 [(0, .ref hh), (1, .int x1)] := hl
  have in_RJx4a65c : ∀ w ∈ u_ws RJx4a65c TJx4a65c 3, w ∈ w_c_H_chosen := by decide +kernel
  have in_RX11 : ∀ w ∈ u_ws RX11 TX11 10, w ∈ w_c_H_chosen := by decide +kernel
  refine lv_aload_n hx hb dX11_chosen_0 rfl (lv_at hl 0 rfl) ?_
  refine lv_iload_n hx hb dX11_chosen_1 rfl (lv_at hl 1 rfl) ?_
  refine zx_v (wr := []) (vx_runV (As := [.int x1]) (rest := []) ⟨hx, hb, hml, hown, hts⟩ (c_H_needExpr l hfl eD eI ad dC dI s.heap.size hh aexpr achoo ameth aroom anod asort anote amet x1) (cwV 1 hts g_c_H_chosen_0 rfl rfl rfl (by decide +kernel) ⟨Nat.le_of_ble_eq_true rfl, Nat.le_of_ble_eq_true rfl⟩) (z_preVD (wc := [(hh, .inr (13, [.ref aexpr, .ref achoo, .ref ameth, .ref aroom, .ref anod, .ref asort, .ref anote, .ref amet, .int 0, .int 1])), (aexpr, .inr (1, [.int 0, .ref eD, .int 0]))]) hP hD hK hS hA hE [0, 1] [] rfl (by decide) rfl (ci := 13) (q0 := 0) rfl rfl hDc) rfl rfl hl.1 rfl (lv_room (Nat.le_of_ble_eq_true rfl)) dX11_chosen_2 ⟨Nat.le_of_ble_eq_true rfl, Nat.le_of_ble_eq_true rfl⟩) hP hD hK hS hA [0, 1] [] rfl rfl (by decide) (by decide) (fun E ce q9 H locs hbad hP hD hS h91 h92 h93 => ?_) (fun u H locs hw_2 hP hD hK hS => ?_)
  · have hbad : (fun E => E = "java/lang/IndexOutOfBoundsException") E := hbad
    refine vx_widen (k := 1) (n := 6) (Nat.le_of_ble_eq_true rfl) (Nat.le_of_ble_eq_true rfl) ?_
    exact vx_out (fun x h => (htab x h).elim) hlocks h91 h92 h93 (fun t ht hW => ⟨(), trivial, hbad, hS.F ht⟩) hS.2.2 (Nat.le_refl _) (Nat.le_refl _)
  exact absurd hw_2 id

def wb_c_H_own : List Cond := [.code yX11_needExpression cX11_needExpression 3 none, .classLink RX11 277 "java/lang/IndexOutOfBoundsException", .initialized "java/lang/IndexOutOfBoundsException", .fieldLink RX11 12 "Hornbook" "expressions" "Ljava/util/ArrayList;", .code yJx4a65c_size_8abf5 cJx4a65c_size_8abf5 1 (some .int), .fieldLink RJx4a65c 48 "java/util/ArrayList" "size" "I", .methodLink RX11 73 yJx4a65c_size_8abf5, .instanceMethod yJx4a65c_size_8abf5, .selects RJx4a65c yJx4a65c_size_8abf5 yJx4a65c_size_8abf5, .initialized RJx4a65c, .methodLink RX11 232 yX11_needExpression, .instanceMethod yX11_needExpression, .selects RX11 yX11_needExpression yX11_needExpression, .initialized RX11] ++ u_ws RJx4a65c TJx4a65c 3 ++ u_ws RX11 TX11 10
def w_c_H_own : List Cond := .code yX11_own cX11_own 3 (some .int) :: (wb_c_H_own ++ zAt)
set_option maxRecDepth 100000 in
theorem g_c_H_own_0 : GoodIn w_c_H_own (wsV RX11 232 RX11 yX11_needExpression w_c_H_needExpr) := goodIn_app (goodIn_of _ (by decide +kernel)) (goodIn_ca (goodIn_p (big := w_c_H_own) (.code yX11_needExpression cX11_needExpression 3 none :: wb_c_H_needExpr) [1, 5] rfl (by decide +kernel)) (goodIn_sub (fun _ h => List.mem_cons_of_mem _ (List.mem_append_right _ h)) zAt_good))
set_option maxHeartbeats 4000000 in
set_option maxRecDepth 100000 in
theorem c_H_own (l : Launch) (hfl : l.flags = flags0) (eD eI : Nat) (ad : Nat → Nat) (dC : Nat → ClassId) (dI : Nat → Nat → Nat) (sz : Nat) (hh : Nat) (aexpr : Nat) (achoo : Nat) (ameth : Nat) (aroom : Nat) (anod : Nat) (asort : Nat) (anote : Nat) (amet : Nat) (x1 : Int32) (x2 : Int32) : vx_Met l yX11_own w_c_H_own ({ frames := 7, cells := 1, slots := 6, locals := 104 }) (va_Pc [.ref hh, .int x1, .int x2] (zPreD eD eI ad (dC, dI) [(hh, .inr (13, [.ref aexpr, .ref achoo, .ref ameth, .ref aroom, .ref anod, .ref asort, .ref anote, .ref amet, .int 0, .int 1])), (aexpr, .inr (1, [.int 0, .ref eD, .int 0]))] [] sz)) (va_Qi (fun (r : Int32) (_ : Unit) => False) (fun (_ : Unit) => zEnd (dC, dI) (va_A [(hh, .inr (13, [.ref aexpr, .ref achoo, .ref ameth, .ref aroom, .ref anod, .ref asort, .ref anote, .ref amet, .int 0, .int 1])), (aexpr, .inr (1, [.int 0, .ref eD, .int 0]))] sz) [(hh, .inr (13, [.ref aexpr, .ref achoo, .ref ameth, .ref aroom, .ref anod, .ref asort, .ref anote, .ref amet, .int 0, .int 1])), (aexpr, .inr (1, [.int 0, .ref eD, .int 0]))] []) (va_A [(hh, .inr (13, [.ref aexpr, .ref achoo, .ref ameth, .ref aroom, .ref anod, .ref asort, .ref anote, .ref amet, .int 0, .int 1])), (aexpr, .inr (1, [.int 0, .ref eD, .int 0]))] sz)) (zX (fun E => E = "java/lang/IndexOutOfBoundsException") (va_A [(hh, .inr (13, [.ref aexpr, .ref achoo, .ref ameth, .ref aroom, .ref anod, .ref asort, .ref anote, .ref amet, .int 0, .int 1])), (aexpr, .inr (1, [.int 0, .ref eD, .int 0]))] sz)) 1 6 (va_A [(hh, .inr (13, [.ref aexpr, .ref achoo, .ref ameth, .ref aroom, .ref anod, .ref asort, .ref anote, .ref amet, .int 0, .int 1])), (aexpr, .inr (1, [.int 0, .ref eD, .int 0]))] sz) := by
  refine vx_ofW (cc := cX11_own) (maxL := 3) (ret := (some .int)) (by decide +kernel) rfl ?_
  intro p e s m args below meth c s₁ B hml htab hv
  obtain ⟨rfl, ⟨hsz, hP, hK, hD0, hE⟩, hDc⟩ := hv
  have hx := B.exec
  have hb := B.bytes
  have hr := B.returns
  have hts := atoms_spec (ws := w_c_H_own) B.pre
  have hown : s.vm.findClass RX11 = some m.cls := findClass_of_methodNamed B.named
  have hlocks := B.notSynchronized
  subst hsz
  have hD := hD0.self (sz := s.heap.size)
  generalize hAe : va_A [(hh, .inr (13, [.ref aexpr, .ref achoo, .ref ameth, .ref aroom, .ref anod, .ref asort, .ref anote, .ref amet, .int 0, .int 1])), (aexpr, .inr (1, [.int 0, .ref eD, .int 0]))] s.heap.size = A at hD hE ⊢
  have hA : ∀ q : Nat, s.heap.size ≤ q → A q := fun q h => by rw [← hAe]; exact Or.inr h
  have hS : va_S A s.heap s.heap [] := va_S.rf
  have hP : va_P (dC, dI) vwCl [(hh, .inr (13, [.ref aexpr, .ref achoo, .ref ameth, .ref aroom, .ref anod, .ref asort, .ref anote, .ref amet, .int 0, .int 1])), (aexpr, .inr (1, [.int 0, .ref eD, .int 0]))] s.heap := hP
  have hl := lv_entry ([.ref hh, .int x1, .int x2]) (n := 3) (Nat.le_of_ble_eq_true rfl)
  rw [lg_entry_eq]
  generalize (lg_sl ([.ref hh, .int x1, .int x2]) ++ List.replicate (3 - (lg_sl ([.ref hh, .int x1, .int x2])).length) Slot.unset).toArray = ls at hl ⊢
  have hl : lv_has ls 3 [(0, .ref hh), (1, .int x1), (2, .int x2)] := hl
  have in_RJx4a65c : ∀ w ∈ u_ws RJx4a65c TJx4a65c 3, w ∈ w_c_H_own := by decide +kernel
  have in_RX11 : ∀ w ∈ u_ws RX11 TX11 10, w ∈ w_c_H_own := by decide +kernel
  refine lv_aload_n hx hb dX11_own_0 rfl (lv_at hl 0 rfl) ?_
  refine lv_iload_n hx hb dX11_own_1 rfl (lv_at hl 1 rfl) ?_
  refine zx_v (wr := []) (vx_runV (As := [.int x1]) (rest := []) ⟨hx, hb, hml, hown, hts⟩ (c_H_needExpr l hfl eD eI ad dC dI s.heap.size hh aexpr achoo ameth aroom anod asort anote amet x1) (cwV 1 hts g_c_H_own_0 rfl rfl rfl (by decide +kernel) ⟨Nat.le_of_ble_eq_true rfl, Nat.le_of_ble_eq_true rfl⟩) (z_preVD (wc := [(hh, .inr (13, [.ref aexpr, .ref achoo, .ref ameth, .ref aroom, .ref anod, .ref asort, .ref anote, .ref amet, .int 0, .int 1])), (aexpr, .inr (1, [.int 0, .ref eD, .int 0]))]) hP hD hK hS hA hE [0, 1] [] rfl (by decide) rfl (ci := 13) (q0 := 0) rfl rfl hDc) rfl rfl hl.1 rfl (lv_room (Nat.le_of_ble_eq_true rfl)) dX11_own_2 ⟨Nat.le_of_ble_eq_true rfl, Nat.le_of_ble_eq_true rfl⟩) hP hD hK hS hA [0, 1] [] rfl rfl (by decide) (by decide) (fun E ce q9 H locs hbad hP hD hS h91 h92 h93 => ?_) (fun u H locs hw_2 hP hD hK hS => ?_)
  · have hbad : (fun E => E = "java/lang/IndexOutOfBoundsException") E := hbad
    refine vx_widen (k := 1) (n := 6) (Nat.le_of_ble_eq_true rfl) (Nat.le_of_ble_eq_true rfl) ?_
    exact vx_out (fun x h => (htab x h).elim) hlocks h91 h92 h93 (fun t ht hW => ⟨(), trivial, hbad, hS.F ht⟩) hS.2.2 (Nat.le_refl _) (Nat.le_refl _)
  exact absurd hw_2 id

def wb_c_H_isFaulty : List Cond := [.code yX11_needExpression cX11_needExpression 3 none, .classLink RX11 277 "java/lang/IndexOutOfBoundsException", .initialized "java/lang/IndexOutOfBoundsException", .fieldLink RX11 12 "Hornbook" "expressions" "Ljava/util/ArrayList;", .code yJx4a65c_size_8abf5 cJx4a65c_size_8abf5 1 (some .int), .fieldLink RJx4a65c 48 "java/util/ArrayList" "size" "I", .methodLink RX11 73 yJx4a65c_size_8abf5, .instanceMethod yJx4a65c_size_8abf5, .selects RJx4a65c yJx4a65c_size_8abf5 yJx4a65c_size_8abf5, .initialized RJx4a65c, .methodLink RX11 232 yX11_needExpression, .instanceMethod yX11_needExpression, .selects RX11 yX11_needExpression yX11_needExpression, .initialized RX11] ++ u_ws RJx4a65c TJx4a65c 3 ++ u_ws RX11 TX11 10
def w_c_H_isFaulty : List Cond := .code yX11_isFaulty cX11_isFaulty 2 (some .boolean) :: (wb_c_H_isFaulty ++ zAt)
set_option maxRecDepth 100000 in
theorem g_c_H_isFaulty_0 : GoodIn w_c_H_isFaulty (wsV RX11 232 RX11 yX11_needExpression w_c_H_needExpr) := goodIn_app (goodIn_of _ (by decide +kernel)) (goodIn_ca (goodIn_p (big := w_c_H_isFaulty) (.code yX11_needExpression cX11_needExpression 3 none :: wb_c_H_needExpr) [1, 5] rfl (by decide +kernel)) (goodIn_sub (fun _ h => List.mem_cons_of_mem _ (List.mem_append_right _ h)) zAt_good))
set_option maxHeartbeats 4000000 in
set_option maxRecDepth 100000 in
theorem c_H_isFaulty (l : Launch) (hfl : l.flags = flags0) (eD eI : Nat) (ad : Nat → Nat) (dC : Nat → ClassId) (dI : Nat → Nat → Nat) (sz : Nat) (hh : Nat) (aexpr : Nat) (achoo : Nat) (ameth : Nat) (aroom : Nat) (anod : Nat) (asort : Nat) (anote : Nat) (amet : Nat) (x1 : Int32) : vx_Met l yX11_isFaulty w_c_H_isFaulty ({ frames := 7, cells := 1, slots := 6, locals := 104 }) (va_Pc [.ref hh, .int x1] (zPreD eD eI ad (dC, dI) [(hh, .inr (13, [.ref aexpr, .ref achoo, .ref ameth, .ref aroom, .ref anod, .ref asort, .ref anote, .ref amet, .int 0, .int 1])), (aexpr, .inr (1, [.int 0, .ref eD, .int 0]))] [] sz)) (va_Qi (fun (r : Int32) (_ : Unit) => False) (fun (_ : Unit) => zEnd (dC, dI) (va_A [(hh, .inr (13, [.ref aexpr, .ref achoo, .ref ameth, .ref aroom, .ref anod, .ref asort, .ref anote, .ref amet, .int 0, .int 1])), (aexpr, .inr (1, [.int 0, .ref eD, .int 0]))] sz) [(hh, .inr (13, [.ref aexpr, .ref achoo, .ref ameth, .ref aroom, .ref anod, .ref asort, .ref anote, .ref amet, .int 0, .int 1])), (aexpr, .inr (1, [.int 0, .ref eD, .int 0]))] []) (va_A [(hh, .inr (13, [.ref aexpr, .ref achoo, .ref ameth, .ref aroom, .ref anod, .ref asort, .ref anote, .ref amet, .int 0, .int 1])), (aexpr, .inr (1, [.int 0, .ref eD, .int 0]))] sz)) (zX (fun E => E = "java/lang/IndexOutOfBoundsException") (va_A [(hh, .inr (13, [.ref aexpr, .ref achoo, .ref ameth, .ref aroom, .ref anod, .ref asort, .ref anote, .ref amet, .int 0, .int 1])), (aexpr, .inr (1, [.int 0, .ref eD, .int 0]))] sz)) 1 6 (va_A [(hh, .inr (13, [.ref aexpr, .ref achoo, .ref ameth, .ref aroom, .ref anod, .ref asort, .ref anote, .ref amet, .int 0, .int 1])), (aexpr, .inr (1, [.int 0, .ref eD, .int 0]))] sz) := by
  refine vx_ofW (cc := cX11_isFaulty) (maxL := 2) (ret := (some .boolean)) (by decide +kernel) rfl ?_
  intro p e s m args below meth c s₁ B hml htab hv
  obtain ⟨rfl, ⟨hsz, hP, hK, hD0, hE⟩, hDc⟩ := hv
  have hx := B.exec
  have hb := B.bytes
  have hr := B.returns
  have hts := atoms_spec (ws := w_c_H_isFaulty) B.pre
  have hown : s.vm.findClass RX11 = some m.cls := findClass_of_methodNamed B.named
  have hlocks := B.notSynchronized
  subst hsz
  have hD := hD0.self (sz := s.heap.size)
  generalize hAe : va_A [(hh, .inr (13, [.ref aexpr, .ref achoo, .ref ameth, .ref aroom, .ref anod, .ref asort, .ref anote, .ref amet, .int 0, .int 1])), (aexpr, .inr (1, [.int 0, .ref eD, .int 0]))] s.heap.size = A at hD hE ⊢
  have hA : ∀ q : Nat, s.heap.size ≤ q → A q := fun q h => by rw [← hAe]; exact Or.inr h
  have hS : va_S A s.heap s.heap [] := va_S.rf
  have hP : va_P (dC, dI) vwCl [(hh, .inr (13, [.ref aexpr, .ref achoo, .ref ameth, .ref aroom, .ref anod, .ref asort, .ref anote, .ref amet, .int 0, .int 1])), (aexpr, .inr (1, [.int 0, .ref eD, .int 0]))] s.heap := hP
  have hl := lv_entry ([.ref hh, .int x1]) (n := 2) (Nat.le_of_ble_eq_true rfl)
  rw [lg_entry_eq]
  generalize (lg_sl ([.ref hh, .int x1]) ++ List.replicate (2 - (lg_sl ([.ref hh, .int x1])).length) Slot.unset).toArray = ls at hl ⊢
  have hl : lv_has ls 2 [(0, .ref hh), (1, .int x1)] := hl
  have in_RJx4a65c : ∀ w ∈ u_ws RJx4a65c TJx4a65c 3, w ∈ w_c_H_isFaulty := by decide +kernel
  have in_RX11 : ∀ w ∈ u_ws RX11 TX11 10, w ∈ w_c_H_isFaulty := by decide +kernel
  refine lv_aload_n hx hb dX11_isFaulty_0 rfl (lv_at hl 0 rfl) ?_
  refine lv_iload_n hx hb dX11_isFaulty_1 rfl (lv_at hl 1 rfl) ?_
  refine zx_v (wr := []) (vx_runV (As := [.int x1]) (rest := []) ⟨hx, hb, hml, hown, hts⟩ (c_H_needExpr l hfl eD eI ad dC dI s.heap.size hh aexpr achoo ameth aroom anod asort anote amet x1) (cwV 1 hts g_c_H_isFaulty_0 rfl rfl rfl (by decide +kernel) ⟨Nat.le_of_ble_eq_true rfl, Nat.le_of_ble_eq_true rfl⟩) (z_preVD (wc := [(hh, .inr (13, [.ref aexpr, .ref achoo, .ref ameth, .ref aroom, .ref anod, .ref asort, .ref anote, .ref amet, .int 0, .int 1])), (aexpr, .inr (1, [.int 0, .ref eD, .int 0]))]) hP hD hK hS hA hE [0, 1] [] rfl (by decide) rfl (ci := 13) (q0 := 0) rfl rfl hDc) rfl rfl hl.1 rfl (lv_room (Nat.le_of_ble_eq_true rfl)) dX11_isFaulty_2 ⟨Nat.le_of_ble_eq_true rfl, Nat.le_of_ble_eq_true rfl⟩) hP hD hK hS hA [0, 1] [] rfl rfl (by decide) (by decide) (fun E ce q9 H locs hbad hP hD hS h91 h92 h93 => ?_) (fun u H locs hw_2 hP hD hK hS => ?_)
  · have hbad : (fun E => E = "java/lang/IndexOutOfBoundsException") E := hbad
    refine vx_widen (k := 1) (n := 6) (Nat.le_of_ble_eq_true rfl) (Nat.le_of_ble_eq_true rfl) ?_
    exact vx_out (fun x h => (htab x h).elim) hlocks h91 h92 h93 (fun t ht hW => ⟨(), trivial, hbad, hS.F ht⟩) hS.2.2 (Nat.le_refl _) (Nat.le_refl _)
  exact absurd hw_2 id

def wb_c_H_faultsWithout : List Cond := [.classLink RX11 277 "java/lang/IndexOutOfBoundsException", .initialized "java/lang/IndexOutOfBoundsException", .fieldLink RX11 26 "Hornbook" "methods" "Ljava/util/ArrayList;", .code yJx4a65c_size_8abf5 cJx4a65c_size_8abf5 1 (some .int), .fieldLink RJx4a65c 48 "java/util/ArrayList" "size" "I", .methodLink RX11 73 yJx4a65c_size_8abf5, .instanceMethod yJx4a65c_size_8abf5, .selects RJx4a65c yJx4a65c_size_8abf5 yJx4a65c_size_8abf5, .initialized RJx4a65c] ++ u_ws RJx4a65c TJx4a65c 3 ++ u_ws RX11 TX11 10
def w_c_H_faultsWithout : List Cond := .code yX11_faultsWithout cX11_faultsWithout 3 (some .int) :: (wb_c_H_faultsWithout ++ zAt)
set_option maxRecDepth 100000 in
theorem g_c_H_faultsWithout_0 : GoodIn w_c_H_faultsWithout (wsV RX11 73 RJx4a65c yJx4a65c_size_8abf5 w_c_AL_size) := goodIn_app (goodIn_of _ (by decide +kernel)) (goodIn_p (big := w_c_H_faultsWithout) (.code yJx4a65c_size_8abf5 cJx4a65c_size_8abf5 1 (some .int) :: wb_c_AL_size) [4] rfl (by decide +kernel))
set_option maxHeartbeats 4000000 in
set_option maxRecDepth 100000 in
theorem c_H_faultsWithout (l : Launch) (hfl : l.flags = flags0) (eD eI : Nat) (ad : Nat → Nat) (dC : Nat → ClassId) (dI : Nat → Nat → Nat) (sz : Nat) (hh : Nat) (aexpr : Nat) (achoo : Nat) (ameth : Nat) (aroom : Nat) (anod : Nat) (asort : Nat) (anote : Nat) (amet : Nat) (x1 : Int32) : vx_Met l yX11_faultsWithout w_c_H_faultsWithout ({ frames := 6, cells := 1, slots := 6, locals := 82 }) (va_Pc [.ref hh, .int x1] (zPreD eD eI ad (dC, dI) [(hh, .inr (13, [.ref aexpr, .ref achoo, .ref ameth, .ref aroom, .ref anod, .ref asort, .ref anote, .ref amet, .int 0, .int 1])), (ameth, .inr (1, [.int 0, .ref eD, .int 0]))] [] sz)) (va_Qi (fun (r : Int32) (_ : Unit) => False) (fun (_ : Unit) => zEnd (dC, dI) (va_A [(hh, .inr (13, [.ref aexpr, .ref achoo, .ref ameth, .ref aroom, .ref anod, .ref asort, .ref anote, .ref amet, .int 0, .int 1])), (ameth, .inr (1, [.int 0, .ref eD, .int 0]))] sz) [(hh, .inr (13, [.ref aexpr, .ref achoo, .ref ameth, .ref aroom, .ref anod, .ref asort, .ref anote, .ref amet, .int 0, .int 1])), (ameth, .inr (1, [.int 0, .ref eD, .int 0]))] []) (va_A [(hh, .inr (13, [.ref aexpr, .ref achoo, .ref ameth, .ref aroom, .ref anod, .ref asort, .ref anote, .ref amet, .int 0, .int 1])), (ameth, .inr (1, [.int 0, .ref eD, .int 0]))] sz)) (zX (fun E => E = "java/lang/IndexOutOfBoundsException") (va_A [(hh, .inr (13, [.ref aexpr, .ref achoo, .ref ameth, .ref aroom, .ref anod, .ref asort, .ref anote, .ref amet, .int 0, .int 1])), (ameth, .inr (1, [.int 0, .ref eD, .int 0]))] sz)) 1 6 (va_A [(hh, .inr (13, [.ref aexpr, .ref achoo, .ref ameth, .ref aroom, .ref anod, .ref asort, .ref anote, .ref amet, .int 0, .int 1])), (ameth, .inr (1, [.int 0, .ref eD, .int 0]))] sz) := by
  refine vx_ofW (cc := cX11_faultsWithout) (maxL := 3) (ret := (some .int)) (by decide +kernel) rfl ?_
  intro p e s m args below meth c s₁ B hml htab hv
  obtain ⟨rfl, ⟨hsz, hP, hK, hD0, hE⟩, hDc⟩ := hv
  have hx := B.exec
  have hb := B.bytes
  have hr := B.returns
  have hts := atoms_spec (ws := w_c_H_faultsWithout) B.pre
  have hown : s.vm.findClass RX11 = some m.cls := findClass_of_methodNamed B.named
  have hlocks := B.notSynchronized
  subst hsz
  have hD := hD0.self (sz := s.heap.size)
  generalize hAe : va_A [(hh, .inr (13, [.ref aexpr, .ref achoo, .ref ameth, .ref aroom, .ref anod, .ref asort, .ref anote, .ref amet, .int 0, .int 1])), (ameth, .inr (1, [.int 0, .ref eD, .int 0]))] s.heap.size = A at hD hE ⊢
  have hA : ∀ q : Nat, s.heap.size ≤ q → A q := fun q h => by rw [← hAe]; exact Or.inr h
  have hS : va_S A s.heap s.heap [] := va_S.rf
  have hP : va_P (dC, dI) vwCl [(hh, .inr (13, [.ref aexpr, .ref achoo, .ref ameth, .ref aroom, .ref anod, .ref asort, .ref anote, .ref amet, .int 0, .int 1])), (ameth, .inr (1, [.int 0, .ref eD, .int 0]))] s.heap := hP
  have hl := lv_entry ([.ref hh, .int x1]) (n := 3) (Nat.le_of_ble_eq_true rfl)
  rw [lg_entry_eq]
  generalize (lg_sl ([.ref hh, .int x1]) ++ List.replicate (3 - (lg_sl ([.ref hh, .int x1])).length) Slot.unset).toArray = ls at hl ⊢
  have hl : lv_has ls 3 [(0, .ref hh), (1, .int x1)] := hl
  have in_RJx4a65c : ∀ w ∈ u_ws RJx4a65c TJx4a65c 3, w ∈ w_c_H_faultsWithout := by decide +kernel
  have in_RX11 : ∀ w ∈ u_ws RX11 TX11 10, w ∈ w_c_H_faultsWithout := by decide +kernel
  rcases z_splitS x1 with hx11 | hx10
  · refine lv_iload_n hx hb dX11_faultsWithout_0 rfl (lv_at hl 1 rfl) ?_
    refine lv_if_lt (tgt := 15) hx hb dX11_faultsWithout_1 (by decide) (fun c_1 => ?_) (fun c_1 => ?_)
    rotate_left
    · exact absurd hx11 c_1
    obtain ⟨sa, hsa⟩ := hE.2.2.2.1 ("Hornbook", 316, "no such METHOD") (by decide +kernel)
    have hsa : vk_R RX11 316 "no such METHOD" sa s := hsa
    exact vx_throwSW (A := A) (cls := "java/lang/IndexOutOfBoundsException") (text := "no such METHOD") (names := ["java/lang/RuntimeException", "java/lang/Exception"]) hx hb (z_traces hfl) hown (by decide +kernel) (by decide +kernel) (hts (.classLink RX11 277 "java/lang/IndexOutOfBoundsException") (by decide +kernel)) (hts (.initialized "java/lang/IndexOutOfBoundsException") (by decide +kernel)) hsa (vx_hat (B := Cond.castable "java/lang/IndexOutOfBoundsException" "java/lang/IndexOutOfBoundsException" :: zDecs) (fun w h => hts w (List.mem_cons_of_mem _ (List.mem_append_right _ (zAt_281 w h)))) (by decide +kernel) (vx_c (va_Nw.use rfl (hE.2.2.2.2.2.2.2.1 ("java/lang/IndexOutOfBoundsException", "java/lang/IndexOutOfBoundsException") (by decide +kernel))) hDc.use)) (by decide +kernel) hE.1 hE.2.1 hS (by rw [hml]; exact hl.1) dX11_faultsWithout_15 dX11_faultsWithout_18 dX11_faultsWithout_19 dX11_faultsWithout_22 dX11_faultsWithout_25 (fun x h => (htab x h).elim) (Nat.le_of_ble_eq_true rfl) (Nat.le_of_ble_eq_true rfl) (Nat.le_of_ble_eq_true rfl) (Nat.le_of_ble_eq_true rfl) hlocks (fun t hW h1 h2 => ⟨(), trivial, rfl, z_F hS h1 h2⟩) hS.2.2 (Nat.le_of_ble_eq_true rfl) (Nat.le_of_ble_eq_true rfl)
  · refine lv_iload_n hx hb dX11_faultsWithout_0 rfl (lv_at hl 1 rfl) ?_
    refine lv_if_lt (tgt := 15) hx hb dX11_faultsWithout_1 (by decide) (fun c_2 => ?_) (fun c_2 => ?_)
    · exact absurd c_2 hx10
    refine lv_iload_n hx hb dX11_faultsWithout_4 rfl (lv_at hl 1 rfl) ?_
    refine lv_aload_n hx hb dX11_faultsWithout_5 rfl (lv_at hl 0 rfl) ?_
    refine va_get (D := (dC, dI)) (ci := 13) (v := .ref ameth) (C := RX11) (T := TX11) (N := 10) hx hb hts in_RX11 hown hK hP 0 rfl rfl 2 (by decide) (hts (.fieldLink RX11 26 "Hornbook" "methods" "Ljava/util/ArrayList;") (by decide +kernel)) (fun _ h9 => h9) rfl dX11_faultsWithout_6 ?_
    refine z_i (wr := [(hh, .inr (13, [.ref aexpr, .ref achoo, .ref ameth, .ref aroom, .ref anod, .ref asort, .ref anote, .ref amet, .int 0, .int 1]))]) (va_runV (As := []) (rest := [.int x1]) ⟨hx, hb, hml, hown, hts⟩ (c_AL_size l eD eI ad dC dI s.heap.size ameth ((.int 0)) ((.ref eD)) 0) (cwV 0 hts g_c_H_faultsWithout_0 rfl rfl rfl (by decide +kernel) ⟨Nat.le_of_ble_eq_true rfl, Nat.le_of_ble_eq_true rfl⟩) (z_preV (wc := [(ameth, .inr (1, [.int 0, .ref eD, .int 0]))]) hP hD hK hS hA hE [1] [] rfl (by decide) rfl (ci := 1) (q0 := 0) rfl rfl) rfl rfl hl.1 rfl (lv_room (Nat.le_of_ble_eq_true rfl)) dX11_faultsWithout_9 ⟨Nat.le_of_ble_eq_true rfl, Nat.le_of_ble_eq_true rfl⟩) hP hD hK hS hA [1] [0] rfl rfl (by decide) (by decide) (fun r_3 u H locs hw_4 hP hD hK hS => ?_)
    obtain ⟨⟩ := u
    have hP : va_P (dC, dI) vwCl [(hh, .inr (13, [.ref aexpr, .ref achoo, .ref ameth, .ref aroom, .ref anod, .ref asort, .ref anote, .ref amet, .int 0, .int 1])), (ameth, .inr (1, [.int 0, .ref eD, .int 0]))] H := hP
    have hD : va_D A [(hh, .inr (13, [.ref aexpr, .ref achoo, .ref ameth, .ref aroom, .ref anod, .ref asort, .ref anote, .ref amet, .int 0, .int 1])), (ameth, .inr (1, [.int 0, .ref eD, .int 0]))] := hD
    have hK : va_K (dC, dI) vwCl [] s := by simpa using hK
    have hw_4 : r_3 = 0 := hw_4
    have hw_4 := hw_4.symm
    subst hw_4
    refine lv_icmp_lt (tgt := 26) hx hb dX11_faultsWithout_12 (by decide) (fun c_5 => ?_) (fun c_5 => ?_)
    · exact absurd c_5 hx10
    obtain ⟨sa, hsa⟩ := hE.2.2.2.1 ("Hornbook", 316, "no such METHOD") (by decide +kernel)
    have hsa : vk_R RX11 316 "no such METHOD" sa s := hsa
    exact vx_throwSW (A := A) (cls := "java/lang/IndexOutOfBoundsException") (text := "no such METHOD") (names := ["java/lang/RuntimeException", "java/lang/Exception"]) hx hb (z_traces hfl) hown (by decide +kernel) (by decide +kernel) (hts (.classLink RX11 277 "java/lang/IndexOutOfBoundsException") (by decide +kernel)) (hts (.initialized "java/lang/IndexOutOfBoundsException") (by decide +kernel)) hsa (vx_hat (B := Cond.castable "java/lang/IndexOutOfBoundsException" "java/lang/IndexOutOfBoundsException" :: zDecs) (fun w h => hts w (List.mem_cons_of_mem _ (List.mem_append_right _ (zAt_281 w h)))) (by decide +kernel) (vx_c (va_Nw.use rfl (hE.2.2.2.2.2.2.2.1 ("java/lang/IndexOutOfBoundsException", "java/lang/IndexOutOfBoundsException") (by decide +kernel))) hDc.use)) (by decide +kernel) hE.1 hE.2.1 hS (by rw [hml]; exact hl.1) dX11_faultsWithout_15 dX11_faultsWithout_18 dX11_faultsWithout_19 dX11_faultsWithout_22 dX11_faultsWithout_25 (fun x h => (htab x h).elim) (Nat.le_of_ble_eq_true rfl) (Nat.le_of_ble_eq_true rfl) (Nat.le_of_ble_eq_true rfl) (Nat.le_of_ble_eq_true rfl) hlocks (fun t hW h1 h2 => ⟨(), trivial, rfl, z_F hS h1 h2⟩) hS.2.2 (Nat.le_of_ble_eq_true rfl) (Nat.le_of_ble_eq_true rfl)

def wb_c_H_ofFault : List Cond := [.code yX11_freshen cX11_freshen 2 none, .fieldLink RX11 54 "Hornbook" "judged" "I", .fieldLink RX11 12 "Hornbook" "expressions" "Ljava/util/ArrayList;", .code yJx4a65c_size_8abf5 cJx4a65c_size_8abf5 1 (some .int), .fieldLink RJx4a65c 48 "java/util/ArrayList" "size" "I", .methodLink RX11 73 yJx4a65c_size_8abf5, .instanceMethod yJx4a65c_size_8abf5, .selects RJx4a65c yJx4a65c_size_8abf5 yJx4a65c_size_8abf5, .initialized RJx4a65c, .methodLink RX11 254 yX11_freshen, .instanceMethod yX11_freshen, .selects RX11 yX11_freshen yX11_freshen, .initialized RX11, .code yX11_faultAt cX11_faultAt 5 (some (.object "Hornbook$Expression")), .methodLink RX11 273 yX11_faultAt, .instanceMethod yX11_faultAt, .selects RX11 yX11_faultAt yX11_faultAt, .classLink RX11 277 "java/lang/IndexOutOfBoundsException", .initialized "java/lang/IndexOutOfBoundsException"] ++ u_ws RJx4a65c TJx4a65c 3 ++ u_ws RX11 TX11 10
def w_c_H_ofFault : List Cond := .code yX11_ofFault cX11_ofFault 4 (some .int) :: (wb_c_H_ofFault ++ zAt)
set_option maxRecDepth 100000 in
theorem g_c_H_ofFault_0 : GoodIn w_c_H_ofFault (wsV RX11 254 RX11 yX11_freshen w_c_H_freshen) := goodIn_app (goodIn_of _ (by decide +kernel)) (goodIn_p (big := w_c_H_ofFault) (.code yX11_freshen cX11_freshen 2 none :: wb_c_H_freshen) [1, 4] rfl (by decide +kernel))
set_option maxRecDepth 100000 in
theorem g_c_H_ofFault_1 : GoodIn w_c_H_ofFault (wsV RX11 273 RX11 yX11_faultAt w_c_H_faultAt) := goodIn_app (goodIn_of _ (by decide +kernel)) (goodIn_p (big := w_c_H_ofFault) (.code yX11_faultAt cX11_faultAt 5 (some (.object "Hornbook$Expression")) :: wb_c_H_faultAt) [14, 4] rfl (by decide +kernel))
set_option maxHeartbeats 4000000 in
set_option maxRecDepth 100000 in
theorem c_H_ofFault (l : Launch) (hfl : l.flags = flags0) (eD eI : Nat) (ad : Nat → Nat) (dC : Nat → ClassId) (dI : Nat → Nat → Nat) (sz : Nat) (hh : Nat) (aexpr : Nat) (achoo : Nat) (ameth : Nat) (aroom : Nat) (anod : Nat) (asort : Nat) (anote : Nat) (amet : Nat) (x1 : Int32) (x2 : Int32) : vx_Met l yX11_ofFault w_c_H_ofFault ({ frames := 6, cells := 1, slots := 6, locals := 82 }) (va_Pc [.ref hh, .int x1, .int x2] (zPreD eD eI ad (dC, dI) [(hh, .inr (13, [.ref aexpr, .ref achoo, .ref ameth, .ref aroom, .ref anod, .ref asort, .ref anote, .ref amet, .int 0, .int 1])), (aexpr, .inr (1, [.int 0, .ref eD, .int 0]))] [] sz)) (va_Qi (fun (r : Int32) (_ : Unit) => False) (fun (_ : Unit) => zEnd (dC, dI) (va_A [(hh, .inr (13, [.ref aexpr, .ref achoo, .ref ameth, .ref aroom, .ref anod, .ref asort, .ref anote, .ref amet, .int 0, .int 1])), (aexpr, .inr (1, [.int 0, .ref eD, .int 0]))] sz) [(hh, .inr (13, [.ref aexpr, .ref achoo, .ref ameth, .ref aroom, .ref anod, .ref asort, .ref anote, .ref amet, .int 0, .int 1])), (aexpr, .inr (1, [.int 0, .ref eD, .int 0]))] []) (va_A [(hh, .inr (13, [.ref aexpr, .ref achoo, .ref ameth, .ref aroom, .ref anod, .ref asort, .ref anote, .ref amet, .int 0, .int 1])), (aexpr, .inr (1, [.int 0, .ref eD, .int 0]))] sz)) (zX (fun E => E = "java/lang/IndexOutOfBoundsException") (va_A [(hh, .inr (13, [.ref aexpr, .ref achoo, .ref ameth, .ref aroom, .ref anod, .ref asort, .ref anote, .ref amet, .int 0, .int 1])), (aexpr, .inr (1, [.int 0, .ref eD, .int 0]))] sz)) 1 6 (va_A [(hh, .inr (13, [.ref aexpr, .ref achoo, .ref ameth, .ref aroom, .ref anod, .ref asort, .ref anote, .ref amet, .int 0, .int 1])), (aexpr, .inr (1, [.int 0, .ref eD, .int 0]))] sz) := by
  refine vx_ofW (cc := cX11_ofFault) (maxL := 4) (ret := (some .int)) (by decide +kernel) rfl ?_
  intro p e s m args below meth c s₁ B hml htab hv
  obtain ⟨rfl, ⟨hsz, hP, hK, hD0, hE⟩, hDc⟩ := hv
  have hx := B.exec
  have hb := B.bytes
  have hr := B.returns
  have hts := atoms_spec (ws := w_c_H_ofFault) B.pre
  have hown : s.vm.findClass RX11 = some m.cls := findClass_of_methodNamed B.named
  have hlocks := B.notSynchronized
  subst hsz
  have hD := hD0.self (sz := s.heap.size)
  generalize hAe : va_A [(hh, .inr (13, [.ref aexpr, .ref achoo, .ref ameth, .ref aroom, .ref anod, .ref asort, .ref anote, .ref amet, .int 0, .int 1])), (aexpr, .inr (1, [.int 0, .ref eD, .int 0]))] s.heap.size = A at hD hE ⊢
  have hA : ∀ q : Nat, s.heap.size ≤ q → A q := fun q h => by rw [← hAe]; exact Or.inr h
  have hS : va_S A s.heap s.heap [] := va_S.rf
  have hP : va_P (dC, dI) vwCl [(hh, .inr (13, [.ref aexpr, .ref achoo, .ref ameth, .ref aroom, .ref anod, .ref asort, .ref anote, .ref amet, .int 0, .int 1])), (aexpr, .inr (1, [.int 0, .ref eD, .int 0]))] s.heap := hP
  have hl := lv_entry ([.ref hh, .int x1, .int x2]) (n := 4) (Nat.le_of_ble_eq_true rfl)
  rw [lg_entry_eq]
  generalize (lg_sl ([.ref hh, .int x1, .int x2]) ++ List.replicate (4 - (lg_sl ([.ref hh, .int x1, .int x2])).length) Slot.unset).toArray = ls at hl ⊢
  have hl : lv_has ls 4 [(0, .ref hh), (1, .int x1), (2, .int x2)] := hl
  have in_RJx4a65c : ∀ w ∈ u_ws RJx4a65c TJx4a65c 3, w ∈ w_c_H_ofFault := by decide +kernel
  have in_RX11 : ∀ w ∈ u_ws RX11 TX11 10, w ∈ w_c_H_ofFault := by decide +kernel
  refine lv_aload_n hx hb dX11_ofFault_0 rfl (lv_at hl 0 rfl) ?_
  refine z_v (wr := []) (va_runV (As := []) (rest := []) ⟨hx, hb, hml, hown, hts⟩ (c_H_freshen l eD eI ad dC dI s.heap.size hh aexpr achoo ameth aroom anod asort anote amet) (cwV 0 hts g_c_H_ofFault_0 rfl rfl rfl (by decide +kernel) ⟨Nat.le_of_ble_eq_true rfl, Nat.le_of_ble_eq_true rfl⟩) (z_preV (wc := [(hh, .inr (13, [.ref aexpr, .ref achoo, .ref ameth, .ref aroom, .ref anod, .ref asort, .ref anote, .ref amet, .int 0, .int 1])), (aexpr, .inr (1, [.int 0, .ref eD, .int 0]))]) hP hD hK hS hA hE [0, 1] [] rfl (by decide) rfl (ci := 13) (q0 := 0) rfl rfl) rfl rfl hl.1 rfl (lv_room (Nat.le_of_ble_eq_true rfl)) dX11_ofFault_1 ⟨Nat.le_of_ble_eq_true rfl, Nat.le_of_ble_eq_true rfl⟩) hP hD hK hS hA [0, 1] [] rfl rfl (by decide) (by decide) (fun u H locs hw_2 hP hD hK hS => ?_)
  obtain ⟨⟩ := u
  have hP : va_P (dC, dI) vwCl [(hh, .inr (13, [.ref aexpr, .ref achoo, .ref ameth, .ref aroom, .ref anod, .ref asort, .ref anote, .ref amet, .int 0, .int 1])), (aexpr, .inr (1, [.int 0, .ref eD, .int 0]))] H := hP
  have hD : va_D A [(hh, .inr (13, [.ref aexpr, .ref achoo, .ref ameth, .ref aroom, .ref anod, .ref asort, .ref anote, .ref amet, .int 0, .int 1])), (aexpr, .inr (1, [.int 0, .ref eD, .int 0]))] := hD
  have hK : va_K (dC, dI) vwCl [] s := by simpa using hK
  refine lv_aload_n hx hb dX11_ofFault_4 rfl (lv_at hl 0 rfl) ?_
  refine lv_iload_n hx hb dX11_ofFault_5 rfl (lv_at hl 1 rfl) ?_
  refine z_q (wr := []) (va_runV (As := [.int x1]) (rest := []) ⟨hx, hb, hml, hown, hts⟩ (c_H_faultAt l eD eI ad dC dI H.size hh aexpr achoo ameth aroom anod asort anote amet x1) (cwV 1 hts g_c_H_ofFault_1 rfl rfl rfl (by decide +kernel) ⟨Nat.le_of_ble_eq_true rfl, Nat.le_of_ble_eq_true rfl⟩) (z_preV (wc := [(hh, .inr (13, [.ref aexpr, .ref achoo, .ref ameth, .ref aroom, .ref anod, .ref asort, .ref anote, .ref amet, .int 0, .int 1])), (aexpr, .inr (1, [.int 0, .ref eD, .int 0]))]) hP hD hK hS hA hE [0, 1] [] rfl (by decide) rfl (ci := 13) (q0 := 0) rfl rfl) rfl rfl hl.1 rfl (lv_room (Nat.le_of_ble_eq_true rfl)) dX11_ofFault_6 ⟨Nat.le_of_ble_eq_true rfl, Nat.le_of_ble_eq_true rfl⟩) hP hD hK hS hA [0, 1] [] rfl rfl (by decide) (by decide) (fun r_3 u H locs hw_4 hP hD hK hS => ?_)
  obtain ⟨⟩ := u
  have hP : va_P (dC, dI) vwCl [(hh, .inr (13, [.ref aexpr, .ref achoo, .ref ameth, .ref aroom, .ref anod, .ref asort, .ref anote, .ref amet, .int 0, .int 1])), (aexpr, .inr (1, [.int 0, .ref eD, .int 0]))] H := hP
  have hD : va_D A [(hh, .inr (13, [.ref aexpr, .ref achoo, .ref ameth, .ref aroom, .ref anod, .ref asort, .ref anote, .ref amet, .int 0, .int 1])), (aexpr, .inr (1, [.int 0, .ref eD, .int 0]))] := hD
  have hK : va_K (dC, dI) vwCl [] s := by simpa using hK
  have hw_4 : r_3 = none := hw_4
  have hw_4 := hw_4.symm
  subst hw_4
  refine W.eq (g2 := F0 m 9 ls (.null :: [])) rfl ?_
  refine lv_astore_nN (lv' := [(3, .null), (0, .ref hh), (1, .int x1), (2, .int x2)]) hx hb dX11_ofFault_9 rfl hl (by decide) rfl (fun ls hl => ?_)
  refine lv_aload_nN hx hb dX11_ofFault_10 rfl (lv_at hl 0 rfl) ?_
  refine lv_ifnonnullN hx hb dX11_ofFault_11 ?_
  obtain ⟨sa, hsa⟩ := hE.2.2.2.1 ("Hornbook", 279, "no such FAULT") (by decide +kernel)
  have hsa : vk_R RX11 279 "no such FAULT" sa s := hsa
  exact vx_throwSW (A := A) (cls := "java/lang/IndexOutOfBoundsException") (text := "no such FAULT") (names := ["java/lang/RuntimeException", "java/lang/Exception"]) hx hb (z_traces hfl) hown (by decide +kernel) (by decide +kernel) (hts (.classLink RX11 277 "java/lang/IndexOutOfBoundsException") (by decide +kernel)) (hts (.initialized "java/lang/IndexOutOfBoundsException") (by decide +kernel)) hsa (vx_hat (B := Cond.castable "java/lang/IndexOutOfBoundsException" "java/lang/IndexOutOfBoundsException" :: zDecs) (fun w h => hts w (List.mem_cons_of_mem _ (List.mem_append_right _ (zAt_281 w h)))) (by decide +kernel) (vx_c (va_Nw.use rfl (hE.2.2.2.2.2.2.2.1 ("java/lang/IndexOutOfBoundsException", "java/lang/IndexOutOfBoundsException") (by decide +kernel))) hDc.use)) (by decide +kernel) hE.1 hE.2.1 hS (by rw [hml]; exact hl.1) dX11_ofFault_14 dX11_ofFault_17 dX11_ofFault_18 dX11_ofFault_21 dX11_ofFault_24 (fun x h => (htab x h).elim) (Nat.le_of_ble_eq_true rfl) (Nat.le_of_ble_eq_true rfl) (Nat.le_of_ble_eq_true rfl) (Nat.le_of_ble_eq_true rfl) hlocks (fun t hW h1 h2 => ⟨(), trivial, rfl, z_F hS h1 h2⟩) hS.2.2 (Nat.le_of_ble_eq_true rfl) (Nat.le_of_ble_eq_true rfl)

def wb_c_H_ofFlaw : List Cond := [.code yX11_noteFlaws cX11_noteFlaws 2 none, .fieldLink RX11 58 "Hornbook" "isNoted" "Z", .methodLink RX11 291 yX11_noteFlaws, .instanceMethod yX11_noteFlaws, .selects RX11 yX11_noteFlaws yX11_noteFlaws, .initialized RX11, .classLink RX11 277 "java/lang/IndexOutOfBoundsException", .initialized "java/lang/IndexOutOfBoundsException", .fieldLink RX11 46 "Hornbook" "noted" "LHornbook$Flaws;", .fieldLink RX11 294 "Hornbook$Flaws" "count" "I"] ++ u_ws RX11 TX11 10 ++ u_ws RX3 TX3 4
def w_c_H_ofFlaw : List Cond := .code yX11_ofFlaw cX11_ofFlaw 3 (some .int) :: (wb_c_H_ofFlaw ++ zAt)
set_option maxRecDepth 100000 in
theorem g_c_H_ofFlaw_0 : GoodIn w_c_H_ofFlaw (wsV RX11 291 RX11 yX11_noteFlaws w_c_H_noteFlaws) := goodIn_app (goodIn_of _ (by decide +kernel)) (goodIn_p (big := w_c_H_ofFlaw) (.code yX11_noteFlaws cX11_noteFlaws 2 none :: wb_c_H_noteFlaws) [1] rfl (by decide +kernel))
set_option maxHeartbeats 4000000 in
set_option maxRecDepth 100000 in
theorem c_H_ofFlaw (l : Launch) (hfl : l.flags = flags0) (eD eI : Nat) (ad : Nat → Nat) (dC : Nat → ClassId) (dI : Nat → Nat → Nat) (sz : Nat) (hh : Nat) (aexpr : Nat) (achoo : Nat) (ameth : Nat) (aroom : Nat) (anod : Nat) (asort : Nat) (anote : Nat) (amet : Nat) (af1 : Nat) (af2 : Nat) (af3 : Nat) (x1 : Int32) (x2 : Int32) : vx_Met l yX11_ofFlaw w_c_H_ofFlaw ({ frames := 6, cells := 1, slots := 6, locals := 82 }) (va_Pc [.ref hh, .int x1, .int x2] (zPreD eD eI ad (dC, dI) [(hh, .inr (13, [.ref aexpr, .ref achoo, .ref ameth, .ref aroom, .ref anod, .ref asort, .ref anote, .ref amet, .int 0, .int 1])), (anote, .inr (5, [.ref af1, .ref af2, .ref af3, .int 0]))] [] sz)) (va_Qi (fun (r : Int32) (_ : Unit) => False) (fun (_ : Unit) => zEnd (dC, dI) (va_A [(hh, .inr (13, [.ref aexpr, .ref achoo, .ref ameth, .ref aroom, .ref anod, .ref asort, .ref anote, .ref amet, .int 0, .int 1])), (anote, .inr (5, [.ref af1, .ref af2, .ref af3, .int 0]))] sz) [(hh, .inr (13, [.ref aexpr, .ref achoo, .ref ameth, .ref aroom, .ref anod, .ref asort, .ref anote, .ref amet, .int 0, .int 1])), (anote, .inr (5, [.ref af1, .ref af2, .ref af3, .int 0]))] []) (va_A [(hh, .inr (13, [.ref aexpr, .ref achoo, .ref ameth, .ref aroom, .ref anod, .ref asort, .ref anote, .ref amet, .int 0, .int 1])), (anote, .inr (5, [.ref af1, .ref af2, .ref af3, .int 0]))] sz)) (zX (fun E => E = "java/lang/IndexOutOfBoundsException") (va_A [(hh, .inr (13, [.ref aexpr, .ref achoo, .ref ameth, .ref aroom, .ref anod, .ref asort, .ref anote, .ref amet, .int 0, .int 1])), (anote, .inr (5, [.ref af1, .ref af2, .ref af3, .int 0]))] sz)) 1 6 (va_A [(hh, .inr (13, [.ref aexpr, .ref achoo, .ref ameth, .ref aroom, .ref anod, .ref asort, .ref anote, .ref amet, .int 0, .int 1])), (anote, .inr (5, [.ref af1, .ref af2, .ref af3, .int 0]))] sz) := by
  refine vx_ofW (cc := cX11_ofFlaw) (maxL := 3) (ret := (some .int)) (by decide +kernel) rfl ?_
  intro p e s m args below meth c s₁ B hml htab hv
  obtain ⟨rfl, ⟨hsz, hP, hK, hD0, hE⟩, hDc⟩ := hv
  have hx := B.exec
  have hb := B.bytes
  have hr := B.returns
  have hts := atoms_spec (ws := w_c_H_ofFlaw) B.pre
  have hown : s.vm.findClass RX11 = some m.cls := findClass_of_methodNamed B.named
  have hlocks := B.notSynchronized
  subst hsz
  have hD := hD0.self (sz := s.heap.size)
  generalize hAe : va_A [(hh, .inr (13, [.ref aexpr, .ref achoo, .ref ameth, .ref aroom, .ref anod, .ref asort, .ref anote, .ref amet, .int 0, .int 1])), (anote, .inr (5, [.ref af1, .ref af2, .ref af3, .int 0]))] s.heap.size = A at hD hE ⊢
  have hA : ∀ q : Nat, s.heap.size ≤ q → A q := fun q h => by rw [← hAe]; exact Or.inr h
  have hS : va_S A s.heap s.heap [] := va_S.rf
  have hP : va_P (dC, dI) vwCl [(hh, .inr (13, [.ref aexpr, .ref achoo, .ref ameth, .ref aroom, .ref anod, .ref asort, .ref anote, .ref amet, .int 0, .int 1])), (anote, .inr (5, [.ref af1, .ref af2, .ref af3, .int 0]))] s.heap := hP
  have hl := lv_entry ([.ref hh, .int x1, .int x2]) (n := 3) (Nat.le_of_ble_eq_true rfl)
  rw [lg_entry_eq]
  generalize (lg_sl ([.ref hh, .int x1, .int x2]) ++ List.replicate (3 - (lg_sl ([.ref hh, .int x1, .int x2])).length) Slot.unset).toArray = ls at hl ⊢
  have hl : lv_has ls 3 [(0, .ref hh), (1, .int x1), (2, .int x2)] := hl
  have in_RX11 : ∀ w ∈ u_ws RX11 TX11 10, w ∈ w_c_H_ofFlaw := by decide +kernel
  have in_RX3 : ∀ w ∈ u_ws RX3 TX3 4, w ∈ w_c_H_ofFlaw := by decide +kernel
  rcases z_splitS x1 with hx11 | hx10
  · refine lv_aload_n hx hb dX11_ofFlaw_0 rfl (lv_at hl 0 rfl) ?_
    refine z_v (wr := [(anote, .inr (5, [.ref af1, .ref af2, .ref af3, .int 0]))]) (va_runV (As := []) (rest := []) ⟨hx, hb, hml, hown, hts⟩ (c_H_noteFlaws l eD eI ad dC dI s.heap.size hh aexpr achoo ameth aroom anod asort anote amet) (cwV 0 hts g_c_H_ofFlaw_0 rfl rfl rfl (by decide +kernel) ⟨Nat.le_of_ble_eq_true rfl, Nat.le_of_ble_eq_true rfl⟩) (z_preV (wc := [(hh, .inr (13, [.ref aexpr, .ref achoo, .ref ameth, .ref aroom, .ref anod, .ref asort, .ref anote, .ref amet, .int 0, .int 1]))]) hP hD hK hS hA hE [0] [] rfl (by decide) rfl (ci := 13) (q0 := 0) rfl rfl) rfl rfl hl.1 rfl (lv_room (Nat.le_of_ble_eq_true rfl)) dX11_ofFlaw_1 ⟨Nat.le_of_ble_eq_true rfl, Nat.le_of_ble_eq_true rfl⟩) hP hD hK hS hA [0] [1] rfl rfl (by decide) (by decide) (fun u H locs hw_2 hP hD hK hS => ?_)
    obtain ⟨⟩ := u
    have hP : va_P (dC, dI) vwCl [(anote, .inr (5, [.ref af1, .ref af2, .ref af3, .int 0])), (hh, .inr (13, [.ref aexpr, .ref achoo, .ref ameth, .ref aroom, .ref anod, .ref asort, .ref anote, .ref amet, .int 0, .int 1]))] H := hP
    have hD : va_D A [(anote, .inr (5, [.ref af1, .ref af2, .ref af3, .int 0])), (hh, .inr (13, [.ref aexpr, .ref achoo, .ref ameth, .ref aroom, .ref anod, .ref asort, .ref anote, .ref amet, .int 0, .int 1]))] := hD
    have hK : va_K (dC, dI) vwCl [] s := by simpa using hK
    refine lv_iload_n hx hb dX11_ofFlaw_4 rfl (lv_at hl 1 rfl) ?_
    refine lv_if_lt (tgt := 19) hx hb dX11_ofFlaw_5 (by decide) (fun c_3 => ?_) (fun c_3 => ?_)
    rotate_left
    · exact absurd hx11 c_3
    obtain ⟨sa, hsa⟩ := hE.2.2.2.1 ("Hornbook", 297, "no such FLAW") (by decide +kernel)
    have hsa : vk_R RX11 297 "no such FLAW" sa s := hsa
    exact vx_throwSW (A := A) (cls := "java/lang/IndexOutOfBoundsException") (text := "no such FLAW") (names := ["java/lang/RuntimeException", "java/lang/Exception"]) hx hb (z_traces hfl) hown (by decide +kernel) (by decide +kernel) (hts (.classLink RX11 277 "java/lang/IndexOutOfBoundsException") (by decide +kernel)) (hts (.initialized "java/lang/IndexOutOfBoundsException") (by decide +kernel)) hsa (vx_hat (B := Cond.castable "java/lang/IndexOutOfBoundsException" "java/lang/IndexOutOfBoundsException" :: zDecs) (fun w h => hts w (List.mem_cons_of_mem _ (List.mem_append_right _ (zAt_281 w h)))) (by decide +kernel) (vx_c (va_Nw.use rfl (hE.2.2.2.2.2.2.2.1 ("java/lang/IndexOutOfBoundsException", "java/lang/IndexOutOfBoundsException") (by decide +kernel))) hDc.use)) (by decide +kernel) hE.1 hE.2.1 hS (by rw [hml]; exact hl.1) dX11_ofFlaw_19 dX11_ofFlaw_22 dX11_ofFlaw_23 dX11_ofFlaw_26 dX11_ofFlaw_29 (fun x h => (htab x h).elim) (Nat.le_of_ble_eq_true rfl) (Nat.le_of_ble_eq_true rfl) (Nat.le_of_ble_eq_true rfl) (Nat.le_of_ble_eq_true rfl) hlocks (fun t hW h1 h2 => ⟨(), trivial, rfl, z_F hS h1 h2⟩) hS.2.2 (Nat.le_of_ble_eq_true rfl) (Nat.le_of_ble_eq_true rfl)
  · refine lv_aload_n hx hb dX11_ofFlaw_0 rfl (lv_at hl 0 rfl) ?_
    refine z_v (wr := [(anote, .inr (5, [.ref af1, .ref af2, .ref af3, .int 0]))]) (va_runV (As := []) (rest := []) ⟨hx, hb, hml, hown, hts⟩ (c_H_noteFlaws l eD eI ad dC dI s.heap.size hh aexpr achoo ameth aroom anod asort anote amet) (cwV 0 hts g_c_H_ofFlaw_0 rfl rfl rfl (by decide +kernel) ⟨Nat.le_of_ble_eq_true rfl, Nat.le_of_ble_eq_true rfl⟩) (z_preV (wc := [(hh, .inr (13, [.ref aexpr, .ref achoo, .ref ameth, .ref aroom, .ref anod, .ref asort, .ref anote, .ref amet, .int 0, .int 1]))]) hP hD hK hS hA hE [0] [] rfl (by decide) rfl (ci := 13) (q0 := 0) rfl rfl) rfl rfl hl.1 rfl (lv_room (Nat.le_of_ble_eq_true rfl)) dX11_ofFlaw_1 ⟨Nat.le_of_ble_eq_true rfl, Nat.le_of_ble_eq_true rfl⟩) hP hD hK hS hA [0] [1] rfl rfl (by decide) (by decide) (fun u H locs hw_5 hP hD hK hS => ?_)
    obtain ⟨⟩ := u
    have hP : va_P (dC, dI) vwCl [(anote, .inr (5, [.ref af1, .ref af2, .ref af3, .int 0])), (hh, .inr (13, [.ref aexpr, .ref achoo, .ref ameth, .ref aroom, .ref anod, .ref asort, .ref anote, .ref amet, .int 0, .int 1]))] H := hP
    have hD : va_D A [(anote, .inr (5, [.ref af1, .ref af2, .ref af3, .int 0])), (hh, .inr (13, [.ref aexpr, .ref achoo, .ref ameth, .ref aroom, .ref anod, .ref asort, .ref anote, .ref amet, .int 0, .int 1]))] := hD
    have hK : va_K (dC, dI) vwCl [] s := by simpa using hK
    refine lv_iload_n hx hb dX11_ofFlaw_4 rfl (lv_at hl 1 rfl) ?_
    refine lv_if_lt (tgt := 19) hx hb dX11_ofFlaw_5 (by decide) (fun c_6 => ?_) (fun c_6 => ?_)
    · exact absurd c_6 hx10
    refine lv_iload_n hx hb dX11_ofFlaw_8 rfl (lv_at hl 1 rfl) ?_
    refine lv_aload_n hx hb dX11_ofFlaw_9 rfl (lv_at hl 0 rfl) ?_
    refine va_get (D := (dC, dI)) (ci := 13) (v := .ref anote) (C := RX11) (T := TX11) (N := 10) hx hb hts in_RX11 hown hK hP 1 rfl rfl 6 (by decide) (hts (.fieldLink RX11 46 "Hornbook" "noted" "LHornbook$Flaws;") (by decide +kernel)) (fun _ h9 => h9) rfl dX11_ofFlaw_10 ?_
    refine va_get (D := (dC, dI)) (ci := 5) (v := .int 0) (C := RX3) (T := TX3) (N := 4) hx hb hts in_RX3 hown hK hP 0 rfl rfl 3 (by decide) (hts (.fieldLink RX11 294 "Hornbook$Flaws" "count" "I") (by decide +kernel)) (fun _ h9 => h9) rfl dX11_ofFlaw_13 ?_
    refine lv_icmp_lt (tgt := 30) hx hb dX11_ofFlaw_16 (by decide) (fun c_7 => ?_) (fun c_7 => ?_)
    · exact absurd c_7 hx10
    obtain ⟨sa, hsa⟩ := hE.2.2.2.1 ("Hornbook", 297, "no such FLAW") (by decide +kernel)
    have hsa : vk_R RX11 297 "no such FLAW" sa s := hsa
    exact vx_throwSW (A := A) (cls := "java/lang/IndexOutOfBoundsException") (text := "no such FLAW") (names := ["java/lang/RuntimeException", "java/lang/Exception"]) hx hb (z_traces hfl) hown (by decide +kernel) (by decide +kernel) (hts (.classLink RX11 277 "java/lang/IndexOutOfBoundsException") (by decide +kernel)) (hts (.initialized "java/lang/IndexOutOfBoundsException") (by decide +kernel)) hsa (vx_hat (B := Cond.castable "java/lang/IndexOutOfBoundsException" "java/lang/IndexOutOfBoundsException" :: zDecs) (fun w h => hts w (List.mem_cons_of_mem _ (List.mem_append_right _ (zAt_281 w h)))) (by decide +kernel) (vx_c (va_Nw.use rfl (hE.2.2.2.2.2.2.2.1 ("java/lang/IndexOutOfBoundsException", "java/lang/IndexOutOfBoundsException") (by decide +kernel))) hDc.use)) (by decide +kernel) hE.1 hE.2.1 hS (by rw [hml]; exact hl.1) dX11_ofFlaw_19 dX11_ofFlaw_22 dX11_ofFlaw_23 dX11_ofFlaw_26 dX11_ofFlaw_29 (fun x h => (htab x h).elim) (Nat.le_of_ble_eq_true rfl) (Nat.le_of_ble_eq_true rfl) (Nat.le_of_ble_eq_true rfl) (Nat.le_of_ble_eq_true rfl) hlocks (fun t hW h1 h2 => ⟨(), trivial, rfl, z_F hS h1 h2⟩) hS.2.2 (Nat.le_of_ble_eq_true rfl) (Nat.le_of_ble_eq_true rfl)

def wb_c_H_parameter_0 : List Cond := [.code yX11_needSpaceForType cX11_needSpaceForType 1 none, .fieldLink RX11 31 "Hornbook" "room" "LHornbook$Room;", .fieldLink RX11 344 "Hornbook$Room" "tellings" "I", .methodLink RX11 172 yX11_needSpaceForType, .instanceMethod yX11_needSpaceForType, .selects RX11 yX11_needSpaceForType yX11_needSpaceForType, .initialized RX11, .code yX7_tell cX7_tell 2 (some .int), .fieldLink RX7 29 "Hornbook$Room" "tellings" "I", .fieldLink RX7 25 "Hornbook$Room" "told" "[I", .methodLink RX11 188 yX7_tell, .instanceMethod yX7_tell, .selects RX7 yX7_tell yX7_tell, .initialized RX7] ++ u_ws RX11 TX11 10 ++ u_ws RX7 TX7 14
def w_c_H_parameter_0 : List Cond := .code yX11_parameter cX11_parameter 2 (some .int) :: wb_c_H_parameter_0
set_option maxRecDepth 100000 in
theorem g_c_H_parameter_0_0 : GoodIn w_c_H_parameter_0 (wsV RX11 172 RX11 yX11_needSpaceForType w_c_H_space) := goodIn_app (goodIn_of _ (by decide +kernel)) (goodIn_p (big := w_c_H_parameter_0) (.code yX11_needSpaceForType cX11_needSpaceForType 1 none :: wb_c_H_space) [1] rfl (by decide +kernel))
set_option maxRecDepth 100000 in
theorem g_c_H_parameter_0_1 : GoodIn w_c_H_parameter_0 (wsV RX11 188 RX7 yX7_tell w_c_R_tell_3) := goodIn_app (goodIn_of _ (by decide +kernel)) (goodIn_p (big := w_c_H_parameter_0) (.code yX7_tell cX7_tell 2 (some .int) :: wb_c_R_tell_3) [8] rfl (by decide +kernel))
set_option maxHeartbeats 4000000 in
set_option maxRecDepth 100000 in
theorem c_H_parameter_0 (l : Launch) (eD eI : Nat) (ad : Nat → Nat) (dC : Nat → ClassId) (dI : Nat → Nat → Nat) (sz : Nat) (hh : Nat) (aexpr : Nat) (achoo : Nat) (ameth : Nat) (aroom : Nat) (anod : Nat) (asort : Nat) (anote : Nat) (amet : Nat) (atold : Nat) (aheld : Nat) (apair : Nat) (astep : Nat) (asize : Nat) (kI : ClassId) : Met l yX11_parameter w_c_H_parameter_0 ({ frames := 1, cells := 0, slots := 0, locals := 21 }) (va_Pc [.ref hh, .int 0] (zPre eD eI ad (dC, dI) [(hh, .inr (13, [.ref aexpr, .ref achoo, .ref ameth, .ref aroom, .ref anod, .ref asort, .ref anote, .ref amet, .int 0, .int 1])), (aroom, .inr (9, [.ref asort, .ref anod, .ref atold, .int 3, .ref aheld, .int 0, .ref apair, .ref astep, .int 0, .int 0, .int (-1), .int 0, .int 0, .ref asize])), (atold, .inl (kI, 60, .inl zTold))] [(kI, .int)] sz)) (va_Qi (fun (r : Int32) (_ : Unit) => r = 3) (fun (_ : Unit) => zEnd (dC, dI) (va_A [(hh, .inr (13, [.ref aexpr, .ref achoo, .ref ameth, .ref aroom, .ref anod, .ref asort, .ref anote, .ref amet, .int 0, .int 1])), (aroom, .inr (9, [.ref asort, .ref anod, .ref atold, .int 3, .ref aheld, .int 0, .ref apair, .ref astep, .int 0, .int 0, .int (-1), .int 0, .int 0, .ref asize])), (atold, .inl (kI, 60, .inl zTold))] sz) [] []) (va_A [(hh, .inr (13, [.ref aexpr, .ref achoo, .ref ameth, .ref aroom, .ref anod, .ref asort, .ref anote, .ref amet, .int 0, .int 1])), (aroom, .inr (9, [.ref asort, .ref anod, .ref atold, .int 3, .ref aheld, .int 0, .ref apair, .ref astep, .int 0, .int 0, .int (-1), .int 0, .int 0, .ref asize])), (atold, .inl (kI, 60, .inl zTold))] sz)) 0 0 (va_A [(hh, .inr (13, [.ref aexpr, .ref achoo, .ref ameth, .ref aroom, .ref anod, .ref asort, .ref anote, .ref amet, .int 0, .int 1])), (aroom, .inr (9, [.ref asort, .ref anod, .ref atold, .int 3, .ref aheld, .int 0, .ref apair, .ref astep, .int 0, .int 0, .int (-1), .int 0, .int 0, .ref asize])), (atold, .inl (kI, 60, .inl zTold))] sz) := by
  refine Met.ofW (cc := cX11_parameter) (maxL := 2) (ret := (some .int)) (by decide) rfl ?_
  intro p e s m args below meth c s₁ B hml hv
  obtain ⟨rfl, hsz, hP, hK, hD0, hE⟩ := hv
  have hx := B.exec
  have hb := B.bytes
  have hr := B.returns
  have hts := atoms_spec (ws := w_c_H_parameter_0) B.pre
  have hown : s.vm.findClass RX11 = some m.cls := findClass_of_methodNamed B.named
  have hlocks := B.notSynchronized
  subst hsz
  have hD := hD0.self (sz := s.heap.size)
  generalize hAe : va_A [(hh, .inr (13, [.ref aexpr, .ref achoo, .ref ameth, .ref aroom, .ref anod, .ref asort, .ref anote, .ref amet, .int 0, .int 1])), (aroom, .inr (9, [.ref asort, .ref anod, .ref atold, .int 3, .ref aheld, .int 0, .ref apair, .ref astep, .int 0, .int 0, .int (-1), .int 0, .int 0, .ref asize])), (atold, .inl (kI, 60, .inl zTold))] s.heap.size = A at hD hE ⊢
  have hA : ∀ q : Nat, s.heap.size ≤ q → A q := fun q h => by rw [← hAe]; exact Or.inr h
  have hS : va_S A s.heap s.heap [] := va_S.rf
  have hP : va_P (dC, dI) vwCl [(hh, .inr (13, [.ref aexpr, .ref achoo, .ref ameth, .ref aroom, .ref anod, .ref asort, .ref anote, .ref amet, .int 0, .int 1])), (aroom, .inr (9, [.ref asort, .ref anod, .ref atold, .int 3, .ref aheld, .int 0, .ref apair, .ref astep, .int 0, .int 0, .int (-1), .int 0, .int 0, .ref asize])), (atold, .inl (kI, 60, .inl zTold))] s.heap := hP
  have hl := lv_entry ([.ref hh, .int 0]) (n := 2) (Nat.le_of_ble_eq_true rfl)
  rw [lg_entry_eq]
  generalize (lg_sl ([.ref hh, .int 0]) ++ List.replicate (2 - (lg_sl ([.ref hh, .int 0])).length) Slot.unset).toArray = ls at hl ⊢
  have hl : lv_has ls 2 [(0, .ref hh), (1, .int 0)] := hl
  have in_RX11 : ∀ w ∈ u_ws RX11 TX11 10, w ∈ w_c_H_parameter_0 := by decide +kernel
  have in_RX7 : ∀ w ∈ u_ws RX7 TX7 14, w ∈ w_c_H_parameter_0 := by decide +kernel
  refine lv_iload_n hx hb dX11_parameter_0 rfl (lv_at hl 1 rfl) ?_
  refine lv_if_eq (tgt := 19) hx hb dX11_parameter_1 (by decide) (fun c_1 => ?_) (fun c_1 => ?_)
  rotate_left
  · exact absurd (by decide) c_1
  refine lv_aload_n hx hb dX11_parameter_19 rfl (lv_at hl 0 rfl) ?_
  refine z_v (wr := [(atold, .inl (kI, 60, .inl zTold))]) (va_runV (As := []) (rest := []) ⟨hx, hb, hml, hown, hts⟩ (c_H_space l eD eI ad dC dI s.heap.size hh aexpr achoo ameth aroom anod asort anote amet atold aheld apair astep asize) (cwV 0 hts g_c_H_parameter_0_0 rfl rfl rfl (by decide +kernel) ⟨Nat.le_of_ble_eq_true rfl, Nat.le_of_ble_eq_true rfl⟩) (z_preV (wc := [(hh, .inr (13, [.ref aexpr, .ref achoo, .ref ameth, .ref aroom, .ref anod, .ref asort, .ref anote, .ref amet, .int 0, .int 1])), (aroom, .inr (9, [.ref asort, .ref anod, .ref atold, .int 3, .ref aheld, .int 0, .ref apair, .ref astep, .int 0, .int 0, .int (-1), .int 0, .int 0, .ref asize]))]) hP hD hK hS hA hE [0, 1] [] rfl (by decide) rfl (ci := 13) (q0 := 0) rfl rfl) rfl rfl hl.1 rfl (lv_room (Nat.le_of_ble_eq_true rfl)) dX11_parameter_20 ⟨Nat.le_of_ble_eq_true rfl, Nat.le_of_ble_eq_true rfl⟩) hP hD hK hS hA [0, 1] [2] rfl rfl (by decide) (by decide) (fun u H locs hw_3 hP hD hK hS => ?_)
  obtain ⟨⟩ := u
  have hP : va_P (dC, dI) vwCl [(atold, .inl (kI, 60, .inl zTold)), (hh, .inr (13, [.ref aexpr, .ref achoo, .ref ameth, .ref aroom, .ref anod, .ref asort, .ref anote, .ref amet, .int 0, .int 1])), (aroom, .inr (9, [.ref asort, .ref anod, .ref atold, .int 3, .ref aheld, .int 0, .ref apair, .ref astep, .int 0, .int 0, .int (-1), .int 0, .int 0, .ref asize]))] H := hP
  have hD : va_D A [(atold, .inl (kI, 60, .inl zTold)), (hh, .inr (13, [.ref aexpr, .ref achoo, .ref ameth, .ref aroom, .ref anod, .ref asort, .ref anote, .ref amet, .int 0, .int 1])), (aroom, .inr (9, [.ref asort, .ref anod, .ref atold, .int 3, .ref aheld, .int 0, .ref apair, .ref astep, .int 0, .int 0, .int (-1), .int 0, .int 0, .ref asize]))] := hD
  have hK : va_K (dC, dI) vwCl [(kI, .int)] s := by simpa using hK
  refine lv_aload_n hx hb dX11_parameter_23 rfl (lv_at hl 0 rfl) ?_
  refine va_get (D := (dC, dI)) (ci := 13) (v := .ref aroom) (C := RX11) (T := TX11) (N := 10) hx hb hts in_RX11 hown hK hP 1 rfl rfl 3 (by decide) (hts (.fieldLink RX11 31 "Hornbook" "room" "LHornbook$Room;") (by decide +kernel)) (fun _ h9 => h9) rfl dX11_parameter_24 ?_
  refine lv_iload_n hx hb dX11_parameter_27 rfl (lv_at hl 1 rfl) ?_
  refine lv_if_ne (tgt := 35) hx hb dX11_parameter_28 (by decide) (fun c_4 => ?_) (fun c_4 => ?_)
  · exact absurd (by decide) c_4
  refine lv_iconst (v := 3) hx hb dX11_parameter_31 (by decide) ?_
  refine lv_goto (tgt := 36) hx hb dX11_parameter_32 (by decide) ?_
  refine z_i (wr := [(hh, .inr (13, [.ref aexpr, .ref achoo, .ref ameth, .ref aroom, .ref anod, .ref asort, .ref anote, .ref amet, .int 0, .int 1]))]) (va_runV (As := [.int 3]) (rest := []) ⟨hx, hb, hml, hown, hts⟩ (c_R_tell_3 l eD eI ad dC dI H.size aroom anod asort atold aheld apair astep asize kI) (cwV 1 hts g_c_H_parameter_0_1 rfl rfl rfl (by decide +kernel) ⟨Nat.le_of_ble_eq_true rfl, Nat.le_of_ble_eq_true rfl⟩) (z_preV (wc := [(aroom, .inr (9, [.ref asort, .ref anod, .ref atold, .int 3, .ref aheld, .int 0, .ref apair, .ref astep, .int 0, .int 0, .int (-1), .int 0, .int 0, .ref asize])), (atold, .inl (kI, 60, .inl zTold))]) hP hD hK hS hA hE [2, 0] [0] rfl (by decide) rfl (ci := 9) (q0 := 0) rfl rfl) rfl rfl hl.1 rfl (lv_room (Nat.le_of_ble_eq_true rfl)) dX11_parameter_36 ⟨Nat.le_of_ble_eq_true rfl, Nat.le_of_ble_eq_true rfl⟩) hP hD hK hS hA [2, 0] [1] rfl rfl (by decide) (by decide) (fun r_5 u H locs hw_6 hP hD hK hS => ?_)
  obtain ⟨⟩ := u
  have hP : va_P (dC, dI) vwCl [(hh, .inr (13, [.ref aexpr, .ref achoo, .ref ameth, .ref aroom, .ref anod, .ref asort, .ref anote, .ref amet, .int 0, .int 1])), (aroom, .inr (9, [.ref asort, .ref anod, .ref atold, .int 4, .ref aheld, .int 0, .ref apair, .ref astep, .int 0, .int 0, .int (-1), .int 0, .int 0, .ref asize]))] H := hP
  have hD : va_D A [(hh, .inr (13, [.ref aexpr, .ref achoo, .ref ameth, .ref aroom, .ref anod, .ref asort, .ref anote, .ref amet, .int 0, .int 1])), (aroom, .inr (9, [.ref asort, .ref anod, .ref atold, .int 4, .ref aheld, .int 0, .ref apair, .ref astep, .int 0, .int 0, .int (-1), .int 0, .int 0, .ref asize]))] := hD
  have hK : va_K (dC, dI) vwCl [(kI, .int)] s := by simpa using hK
  have hw_6 : r_5 = 3 := hw_6
  have hw_6 := hw_6.symm
  subst hw_6
  have hP9 := hP.sub (ws' := []) [] rfl
  have hD9 := hD.sub (ws' := []) [] (by decide) rfl
  have hK9 := hK.sub (tys' := []) [] rfl
  refine W.widen (k := 0) (n := 0) (Nat.le_of_ble_eq_true rfl) (Nat.le_of_ble_eq_true rfl) ?_
  exact W.iret (v := 3) hx hb hr (fun t ht hW => ⟨⟨3, (), rfl, rfl, ⟨by rw [ht]; exact hP9, va_K.moved hW.alike hK9, hD9⟩⟩, hS.F ht⟩) hS.2.2 dX11_parameter_39

def wb_c_H_parameter_1 : List Cond := [.code yX11_needSpaceForType cX11_needSpaceForType 1 none, .fieldLink RX11 31 "Hornbook" "room" "LHornbook$Room;", .fieldLink RX11 344 "Hornbook$Room" "tellings" "I", .methodLink RX11 172 yX11_needSpaceForType, .instanceMethod yX11_needSpaceForType, .selects RX11 yX11_needSpaceForType yX11_needSpaceForType, .initialized RX11, .code yX7_tell cX7_tell 2 (some .int), .fieldLink RX7 29 "Hornbook$Room" "tellings" "I", .fieldLink RX7 25 "Hornbook$Room" "told" "[I", .methodLink RX11 188 yX7_tell, .instanceMethod yX7_tell, .selects RX7 yX7_tell yX7_tell, .initialized RX7] ++ u_ws RX11 TX11 10 ++ u_ws RX7 TX7 14
def w_c_H_parameter_1 : List Cond := .code yX11_parameter cX11_parameter 2 (some .int) :: wb_c_H_parameter_1
set_option maxRecDepth 100000 in
theorem g_c_H_parameter_1_0 : GoodIn w_c_H_parameter_1 (wsV RX11 172 RX11 yX11_needSpaceForType w_c_H_space) := goodIn_app (goodIn_of _ (by decide +kernel)) (goodIn_p (big := w_c_H_parameter_1) (.code yX11_needSpaceForType cX11_needSpaceForType 1 none :: wb_c_H_space) [1] rfl (by decide +kernel))
set_option maxRecDepth 100000 in
theorem g_c_H_parameter_1_1 : GoodIn w_c_H_parameter_1 (wsV RX11 188 RX7 yX7_tell w_c_R_tell_4) := goodIn_app (goodIn_of _ (by decide +kernel)) (goodIn_p (big := w_c_H_parameter_1) (.code yX7_tell cX7_tell 2 (some .int) :: wb_c_R_tell_4) [8] rfl (by decide +kernel))
set_option maxHeartbeats 4000000 in
set_option maxRecDepth 100000 in
theorem c_H_parameter_1 (l : Launch) (eD eI : Nat) (ad : Nat → Nat) (dC : Nat → ClassId) (dI : Nat → Nat → Nat) (sz : Nat) (hh : Nat) (aexpr : Nat) (achoo : Nat) (ameth : Nat) (aroom : Nat) (anod : Nat) (asort : Nat) (anote : Nat) (amet : Nat) (atold : Nat) (aheld : Nat) (apair : Nat) (astep : Nat) (asize : Nat) (kI : ClassId) : Met l yX11_parameter w_c_H_parameter_1 ({ frames := 1, cells := 0, slots := 0, locals := 21 }) (va_Pc [.ref hh, .int 1] (zPre eD eI ad (dC, dI) [(hh, .inr (13, [.ref aexpr, .ref achoo, .ref ameth, .ref aroom, .ref anod, .ref asort, .ref anote, .ref amet, .int 0, .int 1])), (aroom, .inr (9, [.ref asort, .ref anod, .ref atold, .int 3, .ref aheld, .int 0, .ref apair, .ref astep, .int 0, .int 0, .int (-1), .int 0, .int 0, .ref asize])), (atold, .inl (kI, 60, .inl zTold))] [(kI, .int)] sz)) (va_Qi (fun (r : Int32) (_ : Unit) => r = 3) (fun (_ : Unit) => zEnd (dC, dI) (va_A [(hh, .inr (13, [.ref aexpr, .ref achoo, .ref ameth, .ref aroom, .ref anod, .ref asort, .ref anote, .ref amet, .int 0, .int 1])), (aroom, .inr (9, [.ref asort, .ref anod, .ref atold, .int 3, .ref aheld, .int 0, .ref apair, .ref astep, .int 0, .int 0, .int (-1), .int 0, .int 0, .ref asize])), (atold, .inl (kI, 60, .inl zTold))] sz) [] []) (va_A [(hh, .inr (13, [.ref aexpr, .ref achoo, .ref ameth, .ref aroom, .ref anod, .ref asort, .ref anote, .ref amet, .int 0, .int 1])), (aroom, .inr (9, [.ref asort, .ref anod, .ref atold, .int 3, .ref aheld, .int 0, .ref apair, .ref astep, .int 0, .int 0, .int (-1), .int 0, .int 0, .ref asize])), (atold, .inl (kI, 60, .inl zTold))] sz)) 0 0 (va_A [(hh, .inr (13, [.ref aexpr, .ref achoo, .ref ameth, .ref aroom, .ref anod, .ref asort, .ref anote, .ref amet, .int 0, .int 1])), (aroom, .inr (9, [.ref asort, .ref anod, .ref atold, .int 3, .ref aheld, .int 0, .ref apair, .ref astep, .int 0, .int 0, .int (-1), .int 0, .int 0, .ref asize])), (atold, .inl (kI, 60, .inl zTold))] sz) := by
  refine Met.ofW (cc := cX11_parameter) (maxL := 2) (ret := (some .int)) (by decide) rfl ?_
  intro p e s m args below meth c s₁ B hml hv
  obtain ⟨rfl, hsz, hP, hK, hD0, hE⟩ := hv
  have hx := B.exec
  have hb := B.bytes
  have hr := B.returns
  have hts := atoms_spec (ws := w_c_H_parameter_1) B.pre
  have hown : s.vm.findClass RX11 = some m.cls := findClass_of_methodNamed B.named
  have hlocks := B.notSynchronized
  subst hsz
  have hD := hD0.self (sz := s.heap.size)
  generalize hAe : va_A [(hh, .inr (13, [.ref aexpr, .ref achoo, .ref ameth, .ref aroom, .ref anod, .ref asort, .ref anote, .ref amet, .int 0, .int 1])), (aroom, .inr (9, [.ref asort, .ref anod, .ref atold, .int 3, .ref aheld, .int 0, .ref apair, .ref astep, .int 0, .int 0, .int (-1), .int 0, .int 0, .ref asize])), (atold, .inl (kI, 60, .inl zTold))] s.heap.size = A at hD hE ⊢
  have hA : ∀ q : Nat, s.heap.size ≤ q → A q := fun q h => by rw [← hAe]; exact Or.inr h
  have hS : va_S A s.heap s.heap [] := va_S.rf
  have hP : va_P (dC, dI) vwCl [(hh, .inr (13, [.ref aexpr, .ref achoo, .ref ameth, .ref aroom, .ref anod, .ref asort, .ref anote, .ref amet, .int 0, .int 1])), (aroom, .inr (9, [.ref asort, .ref anod, .ref atold, .int 3, .ref aheld, .int 0, .ref apair, .ref astep, .int 0, .int 0, .int (-1), .int 0, .int 0, .ref asize])), (atold, .inl (kI, 60, .inl zTold))] s.heap := hP
  have hl := lv_entry ([.ref hh, .int 1]) (n := 2) (Nat.le_of_ble_eq_true rfl)
  rw [lg_entry_eq]
  generalize (lg_sl ([.ref hh, .int 1]) ++ List.replicate (2 - (lg_sl ([.ref hh, .int 1])).length) Slot.unset).toArray = ls at hl ⊢
  have hl : lv_has ls 2 [(0, .ref hh), (1, .int 1)] := hl
  have in_RX11 : ∀ w ∈ u_ws RX11 TX11 10, w ∈ w_c_H_parameter_1 := by decide +kernel
  have in_RX7 : ∀ w ∈ u_ws RX7 TX7 14, w ∈ w_c_H_parameter_1 := by decide +kernel
  refine lv_iload_n hx hb dX11_parameter_0 rfl (lv_at hl 1 rfl) ?_
  refine lv_if_eq (tgt := 19) hx hb dX11_parameter_1 (by decide) (fun c_1 => ?_) (fun c_1 => ?_)
  · exact absurd c_1 (by decide)
  refine lv_iload_n hx hb dX11_parameter_4 rfl (lv_at hl 1 rfl) ?_
  refine lv_iconst (v := 1) hx hb dX11_parameter_5 (by decide) ?_
  refine lv_icmp_eq (tgt := 19) hx hb dX11_parameter_6 (by decide) (fun c_2 => ?_) (fun c_2 => ?_)
  rotate_left
  · exact absurd (by decide) c_2
  refine lv_aload_n hx hb dX11_parameter_19 rfl (lv_at hl 0 rfl) ?_
  refine z_v (wr := [(atold, .inl (kI, 60, .inl zTold))]) (va_runV (As := []) (rest := []) ⟨hx, hb, hml, hown, hts⟩ (c_H_space l eD eI ad dC dI s.heap.size hh aexpr achoo ameth aroom anod asort anote amet atold aheld apair astep asize) (cwV 0 hts g_c_H_parameter_1_0 rfl rfl rfl (by decide +kernel) ⟨Nat.le_of_ble_eq_true rfl, Nat.le_of_ble_eq_true rfl⟩) (z_preV (wc := [(hh, .inr (13, [.ref aexpr, .ref achoo, .ref ameth, .ref aroom, .ref anod, .ref asort, .ref anote, .ref amet, .int 0, .int 1])), (aroom, .inr (9, [.ref asort, .ref anod, .ref atold, .int 3, .ref aheld, .int 0, .ref apair, .ref astep, .int 0, .int 0, .int (-1), .int 0, .int 0, .ref asize]))]) hP hD hK hS hA hE [0, 1] [] rfl (by decide) rfl (ci := 13) (q0 := 0) rfl rfl) rfl rfl hl.1 rfl (lv_room (Nat.le_of_ble_eq_true rfl)) dX11_parameter_20 ⟨Nat.le_of_ble_eq_true rfl, Nat.le_of_ble_eq_true rfl⟩) hP hD hK hS hA [0, 1] [2] rfl rfl (by decide) (by decide) (fun u H locs hw_4 hP hD hK hS => ?_)
  obtain ⟨⟩ := u
  have hP : va_P (dC, dI) vwCl [(atold, .inl (kI, 60, .inl zTold)), (hh, .inr (13, [.ref aexpr, .ref achoo, .ref ameth, .ref aroom, .ref anod, .ref asort, .ref anote, .ref amet, .int 0, .int 1])), (aroom, .inr (9, [.ref asort, .ref anod, .ref atold, .int 3, .ref aheld, .int 0, .ref apair, .ref astep, .int 0, .int 0, .int (-1), .int 0, .int 0, .ref asize]))] H := hP
  have hD : va_D A [(atold, .inl (kI, 60, .inl zTold)), (hh, .inr (13, [.ref aexpr, .ref achoo, .ref ameth, .ref aroom, .ref anod, .ref asort, .ref anote, .ref amet, .int 0, .int 1])), (aroom, .inr (9, [.ref asort, .ref anod, .ref atold, .int 3, .ref aheld, .int 0, .ref apair, .ref astep, .int 0, .int 0, .int (-1), .int 0, .int 0, .ref asize]))] := hD
  have hK : va_K (dC, dI) vwCl [(kI, .int)] s := by simpa using hK
  refine lv_aload_n hx hb dX11_parameter_23 rfl (lv_at hl 0 rfl) ?_
  refine va_get (D := (dC, dI)) (ci := 13) (v := .ref aroom) (C := RX11) (T := TX11) (N := 10) hx hb hts in_RX11 hown hK hP 1 rfl rfl 3 (by decide) (hts (.fieldLink RX11 31 "Hornbook" "room" "LHornbook$Room;") (by decide +kernel)) (fun _ h9 => h9) rfl dX11_parameter_24 ?_
  refine lv_iload_n hx hb dX11_parameter_27 rfl (lv_at hl 1 rfl) ?_
  refine lv_if_ne (tgt := 35) hx hb dX11_parameter_28 (by decide) (fun c_5 => ?_) (fun c_5 => ?_)
  rotate_left
  · exact absurd c_5 (by decide)
  refine lv_iconst (v := 4) hx hb dX11_parameter_35 (by decide) ?_
  refine z_i (wr := [(hh, .inr (13, [.ref aexpr, .ref achoo, .ref ameth, .ref aroom, .ref anod, .ref asort, .ref anote, .ref amet, .int 0, .int 1]))]) (va_runV (As := [.int 4]) (rest := []) ⟨hx, hb, hml, hown, hts⟩ (c_R_tell_4 l eD eI ad dC dI H.size aroom anod asort atold aheld apair astep asize kI) (cwV 1 hts g_c_H_parameter_1_1 rfl rfl rfl (by decide +kernel) ⟨Nat.le_of_ble_eq_true rfl, Nat.le_of_ble_eq_true rfl⟩) (z_preV (wc := [(aroom, .inr (9, [.ref asort, .ref anod, .ref atold, .int 3, .ref aheld, .int 0, .ref apair, .ref astep, .int 0, .int 0, .int (-1), .int 0, .int 0, .ref asize])), (atold, .inl (kI, 60, .inl zTold))]) hP hD hK hS hA hE [2, 0] [0] rfl (by decide) rfl (ci := 9) (q0 := 0) rfl rfl) rfl rfl hl.1 rfl (lv_room (Nat.le_of_ble_eq_true rfl)) dX11_parameter_36 ⟨Nat.le_of_ble_eq_true rfl, Nat.le_of_ble_eq_true rfl⟩) hP hD hK hS hA [2, 0] [1] rfl rfl (by decide) (by decide) (fun r_6 u H locs hw_7 hP hD hK hS => ?_)
  obtain ⟨⟩ := u
  have hP : va_P (dC, dI) vwCl [(hh, .inr (13, [.ref aexpr, .ref achoo, .ref ameth, .ref aroom, .ref anod, .ref asort, .ref anote, .ref amet, .int 0, .int 1])), (aroom, .inr (9, [.ref asort, .ref anod, .ref atold, .int 4, .ref aheld, .int 0, .ref apair, .ref astep, .int 0, .int 0, .int (-1), .int 0, .int 0, .ref asize]))] H := hP
  have hD : va_D A [(hh, .inr (13, [.ref aexpr, .ref achoo, .ref ameth, .ref aroom, .ref anod, .ref asort, .ref anote, .ref amet, .int 0, .int 1])), (aroom, .inr (9, [.ref asort, .ref anod, .ref atold, .int 4, .ref aheld, .int 0, .ref apair, .ref astep, .int 0, .int 0, .int (-1), .int 0, .int 0, .ref asize]))] := hD
  have hK : va_K (dC, dI) vwCl [(kI, .int)] s := by simpa using hK
  have hw_7 : r_6 = 3 := hw_7
  have hw_7 := hw_7.symm
  subst hw_7
  have hP9 := hP.sub (ws' := []) [] rfl
  have hD9 := hD.sub (ws' := []) [] (by decide) rfl
  have hK9 := hK.sub (tys' := []) [] rfl
  refine W.widen (k := 0) (n := 0) (Nat.le_of_ble_eq_true rfl) (Nat.le_of_ble_eq_true rfl) ?_
  exact W.iret (v := 3) hx hb hr (fun t ht hW => ⟨⟨3, (), rfl, rfl, ⟨by rw [ht]; exact hP9, va_K.moved hW.alike hK9, hD9⟩⟩, hS.F ht⟩) hS.2.2 dX11_parameter_39

def wb_c_H_parameter_l : List Cond := [.classLink RX11 66 "java/lang/IllegalArgumentException", .initialized "java/lang/IllegalArgumentException"]
def w_c_H_parameter_l : List Cond := .code yX11_parameter cX11_parameter 2 (some .int) :: (wb_c_H_parameter_l ++ zAt)
set_option maxHeartbeats 4000000 in
set_option maxRecDepth 100000 in
theorem c_H_parameter_l (l : Launch) (hfl : l.flags = flags0) (eD eI : Nat) (ad : Nat → Nat) (dC : Nat → ClassId) (dI : Nat → Nat → Nat) (sz : Nat) (hh : Nat) (aexpr : Nat) (achoo : Nat) (ameth : Nat) (aroom : Nat) (anod : Nat) (asort : Nat) (anote : Nat) (amet : Nat) (x1 : Int32) (h1 : x1 < 0) : vx_Met l yX11_parameter w_c_H_parameter_l ({ frames := 6, cells := 1, slots := 6, locals := 82 }) (va_Pc [.ref hh, .int x1] (zPreD eD eI ad (dC, dI) [(hh, .inr (13, [.ref aexpr, .ref achoo, .ref ameth, .ref aroom, .ref anod, .ref asort, .ref anote, .ref amet, .int 0, .int 1]))] [] sz)) (va_Qi (fun (r : Int32) (_ : Unit) => False) (fun (_ : Unit) => zEnd (dC, dI) (va_A [(hh, .inr (13, [.ref aexpr, .ref achoo, .ref ameth, .ref aroom, .ref anod, .ref asort, .ref anote, .ref amet, .int 0, .int 1]))] sz) [(hh, .inr (13, [.ref aexpr, .ref achoo, .ref ameth, .ref aroom, .ref anod, .ref asort, .ref anote, .ref amet, .int 0, .int 1]))] []) (va_A [(hh, .inr (13, [.ref aexpr, .ref achoo, .ref ameth, .ref aroom, .ref anod, .ref asort, .ref anote, .ref amet, .int 0, .int 1]))] sz)) (zX (fun E => E = "java/lang/IllegalArgumentException") (va_A [(hh, .inr (13, [.ref aexpr, .ref achoo, .ref ameth, .ref aroom, .ref anod, .ref asort, .ref anote, .ref amet, .int 0, .int 1]))] sz)) 1 6 (va_A [(hh, .inr (13, [.ref aexpr, .ref achoo, .ref ameth, .ref aroom, .ref anod, .ref asort, .ref anote, .ref amet, .int 0, .int 1]))] sz) := by
  refine vx_ofW (cc := cX11_parameter) (maxL := 2) (ret := (some .int)) (by decide +kernel) rfl ?_
  intro p e s m args below meth c s₁ B hml htab hv
  obtain ⟨rfl, ⟨hsz, hP, hK, hD0, hE⟩, hDc⟩ := hv
  have hx := B.exec
  have hb := B.bytes
  have hr := B.returns
  have hts := atoms_spec (ws := w_c_H_parameter_l) B.pre
  have hown : s.vm.findClass RX11 = some m.cls := findClass_of_methodNamed B.named
  have hlocks := B.notSynchronized
  subst hsz
  have hD := hD0.self (sz := s.heap.size)
  generalize hAe : va_A [(hh, .inr (13, [.ref aexpr, .ref achoo, .ref ameth, .ref aroom, .ref anod, .ref asort, .ref anote, .ref amet, .int 0, .int 1]))] s.heap.size = A at hD hE ⊢
  have hA : ∀ q : Nat, s.heap.size ≤ q → A q := fun q h => by rw [← hAe]; exact Or.inr h
  have hS : va_S A s.heap s.heap [] := va_S.rf
  have hP : va_P (dC, dI) vwCl [(hh, .inr (13, [.ref aexpr, .ref achoo, .ref ameth, .ref aroom, .ref anod, .ref asort, .ref anote, .ref amet, .int 0, .int 1]))] s.heap := hP
  have hl := lv_entry ([.ref hh, .int x1]) (n := 2) (Nat.le_of_ble_eq_true rfl)
  rw [lg_entry_eq]
  generalize (lg_sl ([.ref hh, .int x1]) ++ List.replicate (2 - (lg_sl ([.ref hh, .int x1])).length) Slot.unset).toArray = ls at hl ⊢
  have hl : lv_has ls 2 [(0, .ref hh), (1, .int x1)] := hl
  refine lv_iload_n hx hb dX11_parameter_0 rfl (lv_at hl 1 rfl) ?_
  refine lv_if_eq (tgt := 19) hx hb dX11_parameter_1 (by decide) (fun c_1 => ?_) (fun c_1 => ?_)
  · exact absurd c_1 ((Int32.ne_of_lt (Int32.lt_of_lt_of_le h1 (by decide))))
  refine lv_iload_n hx hb dX11_parameter_4 rfl (lv_at hl 1 rfl) ?_
  refine lv_iconst (v := 1) hx hb dX11_parameter_5 (by decide) ?_
  refine lv_icmp_eq (tgt := 19) hx hb dX11_parameter_6 (by decide) (fun c_2 => ?_) (fun c_2 => ?_)
  · exact absurd c_2 ((Int32.ne_of_lt (Int32.lt_of_lt_of_le h1 (by decide))))
  obtain ⟨sa, hsa⟩ := hE.2.2.2.1 ("Hornbook", 191, "no such PARAMETER") (by decide +kernel)
  have hsa : vk_R RX11 191 "no such PARAMETER" sa s := hsa
  exact vx_throwS (A := A) (cls := "java/lang/IllegalArgumentException") (text := "no such PARAMETER") (names := ["java/lang/RuntimeException", "java/lang/Exception"]) hx hb (z_traces hfl) hown (by decide +kernel) (by decide +kernel) (hts (.classLink RX11 66 "java/lang/IllegalArgumentException") (by decide +kernel)) (hts (.initialized "java/lang/IllegalArgumentException") (by decide +kernel)) hsa (vx_hat (B := Cond.castable "java/lang/IllegalArgumentException" "java/lang/IllegalArgumentException" :: zDecs) (fun w h => hts w (List.mem_cons_of_mem _ (List.mem_append_right _ (zAt_70 w h)))) (by decide +kernel) (vx_c (va_Nw.use rfl (hE.2.2.2.2.2.2.2.1 ("java/lang/IllegalArgumentException", "java/lang/IllegalArgumentException") (by decide +kernel))) hDc.use)) (by decide +kernel) hE.1 hE.2.1 hS (by rw [hml]; exact hl.1) dX11_parameter_9 dX11_parameter_12 dX11_parameter_13 dX11_parameter_15 dX11_parameter_18 (fun x h => (htab x h).elim) (Nat.le_of_ble_eq_true rfl) (Nat.le_of_ble_eq_true rfl) (Nat.le_of_ble_eq_true rfl) (Nat.le_of_ble_eq_true rfl) hlocks (fun t hW h1 h2 => ⟨(), trivial, rfl, z_F hS h1 h2⟩) hS.2.2 (Nat.le_of_ble_eq_true rfl) (Nat.le_of_ble_eq_true rfl)

def wb_c_H_parameter_h : List Cond := [.classLink RX11 66 "java/lang/IllegalArgumentException", .initialized "java/lang/IllegalArgumentException"]
def w_c_H_parameter_h : List Cond := .code yX11_parameter cX11_parameter 2 (some .int) :: (wb_c_H_parameter_h ++ zAt)
set_option maxHeartbeats 4000000 in
set_option maxRecDepth 100000 in
theorem c_H_parameter_h (l : Launch) (hfl : l.flags = flags0) (eD eI : Nat) (ad : Nat → Nat) (dC : Nat → ClassId) (dI : Nat → Nat → Nat) (sz : Nat) (hh : Nat) (aexpr : Nat) (achoo : Nat) (ameth : Nat) (aroom : Nat) (anod : Nat) (asort : Nat) (anote : Nat) (amet : Nat) (x1 : Int32) (h0 : ¬ x1 < 0) (h1 : 1 < x1) : vx_Met l yX11_parameter w_c_H_parameter_h ({ frames := 6, cells := 1, slots := 6, locals := 82 }) (va_Pc [.ref hh, .int x1] (zPreD eD eI ad (dC, dI) [(hh, .inr (13, [.ref aexpr, .ref achoo, .ref ameth, .ref aroom, .ref anod, .ref asort, .ref anote, .ref amet, .int 0, .int 1]))] [] sz)) (va_Qi (fun (r : Int32) (_ : Unit) => False) (fun (_ : Unit) => zEnd (dC, dI) (va_A [(hh, .inr (13, [.ref aexpr, .ref achoo, .ref ameth, .ref aroom, .ref anod, .ref asort, .ref anote, .ref amet, .int 0, .int 1]))] sz) [(hh, .inr (13, [.ref aexpr, .ref achoo, .ref ameth, .ref aroom, .ref anod, .ref asort, .ref anote, .ref amet, .int 0, .int 1]))] []) (va_A [(hh, .inr (13, [.ref aexpr, .ref achoo, .ref ameth, .ref aroom, .ref anod, .ref asort, .ref anote, .ref amet, .int 0, .int 1]))] sz)) (zX (fun E => E = "java/lang/IllegalArgumentException") (va_A [(hh, .inr (13, [.ref aexpr, .ref achoo, .ref ameth, .ref aroom, .ref anod, .ref asort, .ref anote, .ref amet, .int 0, .int 1]))] sz)) 1 6 (va_A [(hh, .inr (13, [.ref aexpr, .ref achoo, .ref ameth, .ref aroom, .ref anod, .ref asort, .ref anote, .ref amet, .int 0, .int 1]))] sz) := by
  refine vx_ofW (cc := cX11_parameter) (maxL := 2) (ret := (some .int)) (by decide +kernel) rfl ?_
  intro p e s m args below meth c s₁ B hml htab hv
  obtain ⟨rfl, ⟨hsz, hP, hK, hD0, hE⟩, hDc⟩ := hv
  have hx := B.exec
  have hb := B.bytes
  have hr := B.returns
  have hts := atoms_spec (ws := w_c_H_parameter_h) B.pre
  have hown : s.vm.findClass RX11 = some m.cls := findClass_of_methodNamed B.named
  have hlocks := B.notSynchronized
  subst hsz
  have hD := hD0.self (sz := s.heap.size)
  generalize hAe : va_A [(hh, .inr (13, [.ref aexpr, .ref achoo, .ref ameth, .ref aroom, .ref anod, .ref asort, .ref anote, .ref amet, .int 0, .int 1]))] s.heap.size = A at hD hE ⊢
  have hA : ∀ q : Nat, s.heap.size ≤ q → A q := fun q h => by rw [← hAe]; exact Or.inr h
  have hS : va_S A s.heap s.heap [] := va_S.rf
  have hP : va_P (dC, dI) vwCl [(hh, .inr (13, [.ref aexpr, .ref achoo, .ref ameth, .ref aroom, .ref anod, .ref asort, .ref anote, .ref amet, .int 0, .int 1]))] s.heap := hP
  have hl := lv_entry ([.ref hh, .int x1]) (n := 2) (Nat.le_of_ble_eq_true rfl)
  rw [lg_entry_eq]
  generalize (lg_sl ([.ref hh, .int x1]) ++ List.replicate (2 - (lg_sl ([.ref hh, .int x1])).length) Slot.unset).toArray = ls at hl ⊢
  have hl : lv_has ls 2 [(0, .ref hh), (1, .int x1)] := hl
  refine lv_iload_n hx hb dX11_parameter_0 rfl (lv_at hl 1 rfl) ?_
  refine lv_if_eq (tgt := 19) hx hb dX11_parameter_1 (by decide) (fun c_1 => ?_) (fun c_1 => ?_)
  · exact absurd c_1 ((fun h => Int32.ne_of_lt (Int32.lt_of_le_of_lt (by decide) h1) h.symm))
  refine lv_iload_n hx hb dX11_parameter_4 rfl (lv_at hl 1 rfl) ?_
  refine lv_iconst (v := 1) hx hb dX11_parameter_5 (by decide) ?_
  refine lv_icmp_eq (tgt := 19) hx hb dX11_parameter_6 (by decide) (fun c_2 => ?_) (fun c_2 => ?_)
  · exact absurd c_2 ((fun h => Int32.ne_of_lt (Int32.lt_of_le_of_lt (by decide) h1) h.symm))
  obtain ⟨sa, hsa⟩ := hE.2.2.2.1 ("Hornbook", 191, "no such PARAMETER") (by decide +kernel)
  have hsa : vk_R RX11 191 "no such PARAMETER" sa s := hsa
  exact vx_throwS (A := A) (cls := "java/lang/IllegalArgumentException") (text := "no such PARAMETER") (names := ["java/lang/RuntimeException", "java/lang/Exception"]) hx hb (z_traces hfl) hown (by decide +kernel) (by decide +kernel) (hts (.classLink RX11 66 "java/lang/IllegalArgumentException") (by decide +kernel)) (hts (.initialized "java/lang/IllegalArgumentException") (by decide +kernel)) hsa (vx_hat (B := Cond.castable "java/lang/IllegalArgumentException" "java/lang/IllegalArgumentException" :: zDecs) (fun w h => hts w (List.mem_cons_of_mem _ (List.mem_append_right _ (zAt_70 w h)))) (by decide +kernel) (vx_c (va_Nw.use rfl (hE.2.2.2.2.2.2.2.1 ("java/lang/IllegalArgumentException", "java/lang/IllegalArgumentException") (by decide +kernel))) hDc.use)) (by decide +kernel) hE.1 hE.2.1 hS (by rw [hml]; exact hl.1) dX11_parameter_9 dX11_parameter_12 dX11_parameter_13 dX11_parameter_15 dX11_parameter_18 (fun x h => (htab x h).elim) (Nat.le_of_ble_eq_true rfl) (Nat.le_of_ble_eq_true rfl) (Nat.le_of_ble_eq_true rfl) (Nat.le_of_ble_eq_true rfl) hlocks (fun t hW h1 h2 => ⟨(), trivial, rfl, z_F hS h1 h2⟩) hS.2.2 (Nat.le_of_ble_eq_true rfl) (Nat.le_of_ble_eq_true rfl)

def wb_c_X_new : List Cond := [.methodLink RX2 3 objectInit, .instanceMethod objectInit, .code objectInit ⟨#[0xb1]⟩ 1 none, .fieldLink RX2 9 "Hornbook$Expression" "result" "I", .fieldLink RX2 15 "Hornbook$Expression" "own" "I"] ++ u_ws RX2 TX2 15
def w_c_X_new : List Cond := .code yX2_init cX2_init 1 none :: wb_c_X_new
set_option maxHeartbeats 4000000 in
set_option maxRecDepth 100000 in
theorem c_X_new (l : Launch) (eD eI : Nat) (ad : Nat → Nat) (dC : Nat → ClassId) (dI : Nat → Nat → Nat) (sz : Nat) (ex : Nat) : Met l yX2_init w_c_X_new ({ frames := 1, cells := 0, slots := 0, locals := 12 }) (va_Pc [.ref ex] (zPre eD eI ad (dC, dI) [(ex, .inr (4, [.int 0, .int 0, .null, .null, .null, .int 0, .int 0, .int 0, .int 0, .int 0, .int 0, .int 0, .int 0, .int 0, .int 0]))] [] sz)) (va_Qv (fun (_ : Unit) => True) (fun (_ : Unit) => zEnd (dC, dI) (va_A [(ex, .inr (4, [.int 0, .int 0, .null, .null, .null, .int 0, .int 0, .int 0, .int 0, .int 0, .int 0, .int 0, .int 0, .int 0, .int 0]))] sz) [(ex, .inr (4, [.int 0, .int 0, .null, .null, .null, .int 0, .int 0, .int (-1), .int (-1), .int 0, .int 0, .int 0, .int 0, .int 0, .int 0]))] []) (va_A [(ex, .inr (4, [.int 0, .int 0, .null, .null, .null, .int 0, .int 0, .int 0, .int 0, .int 0, .int 0, .int 0, .int 0, .int 0, .int 0]))] sz)) 0 0 (va_A [(ex, .inr (4, [.int 0, .int 0, .null, .null, .null, .int 0, .int 0, .int 0, .int 0, .int 0, .int 0, .int 0, .int 0, .int 0, .int 0]))] sz) := by
  refine Met.ofW (cc := cX2_init) (maxL := 1) (ret := none) (by decide) rfl ?_
  intro p e s m args below meth c s₁ B hml hv
  obtain ⟨rfl, hsz, hP, hK, hD0, hE⟩ := hv
  have hx := B.exec
  have hb := B.bytes
  have hr := B.returns
  have hts := atoms_spec (ws := w_c_X_new) B.pre
  have hown : s.vm.findClass RX2 = some m.cls := findClass_of_methodNamed B.named
  have hlocks := B.notSynchronized
  have hin : meth.name = "<init>" := (name_of_methodNamed B.named B.method).1
  subst hsz
  have hD := hD0.self (sz := s.heap.size)
  generalize hAe : va_A [(ex, .inr (4, [.int 0, .int 0, .null, .null, .null, .int 0, .int 0, .int 0, .int 0, .int 0, .int 0, .int 0, .int 0, .int 0, .int 0]))] s.heap.size = A at hD hE ⊢
  have hA : ∀ q : Nat, s.heap.size ≤ q → A q := fun q h => by rw [← hAe]; exact Or.inr h
  have hS : va_S A s.heap s.heap [] := va_S.rf
  have hP : va_P (dC, dI) vwCl [(ex, .inr (4, [.int 0, .int 0, .null, .null, .null, .int 0, .int 0, .int 0, .int 0, .int 0, .int 0, .int 0, .int 0, .int 0, .int 0]))] s.heap := hP
  have hl := lv_entry ([.ref ex]) (n := 1) (Nat.le_of_ble_eq_true rfl)
  rw [lg_entry_eq]
  generalize (lg_sl ([.ref ex]) ++ List.replicate (1 - (lg_sl ([.ref ex])).length) Slot.unset).toArray = ls at hl ⊢
  have hl : lv_has ls 1 [(0, .ref ex)] := hl
  have in_RX2 : ∀ w ∈ u_ws RX2 TX2 15, w ∈ w_c_X_new := by decide +kernel
  refine lv_aload_n hx hb dX2_init_0 rfl (lv_at hl 0 rfl) ?_
  refine W.objInit hx hb hown (hts (.methodLink RX2 3 objectInit) (by decide +kernel)) (hts (.instanceMethod objectInit) (by decide +kernel)) (hts (.code objectInit ⟨#[0xb1]⟩ 1 none) (by decide +kernel)) rfl (by rw [hml]; exact hl.1) rfl dX2_init_1 (Nat.le_of_ble_eq_true rfl) (Nat.le_of_ble_eq_true rfl) ?_
  refine W.eq (g2 := F0 m 4 ls ([])) rfl ?_
  refine lv_aload_n hx hb dX2_init_4 rfl (lv_at hl 0 rfl) ?_
  refine lv_iconst (v := (-1)) hx hb dX2_init_5 (by decide) ?_
  refine va_put (D := (dC, dI)) (ci := 4) (v := .int (-1)) (ty := .int) (C := RX2) (T := TX2) (N := 15) hx hb hts in_RX2 tyX2 tyX2_ok nmX2 hown hK hP hD hS 0 rfl rfl 7 (by decide) (hts (.fieldLink RX2 9 "Hornbook$Expression" "result" "I") (by decide +kernel)) (fun _ h9 => h9) rfl (by decide +kernel) rfl rfl (Nat.le_of_ble_eq_true rfl) dX2_init_6 (fun H locs hP hD hS => ?_)
  have hP : va_P (dC, dI) vwCl [(ex, .inr (4, [.int 0, .int 0, .null, .null, .null, .int 0, .int 0, .int (-1), .int 0, .int 0, .int 0, .int 0, .int 0, .int 0, .int 0]))] H := hP
  have hD : va_D A [(ex, .inr (4, [.int 0, .int 0, .null, .null, .null, .int 0, .int 0, .int (-1), .int 0, .int 0, .int 0, .int 0, .int 0, .int 0, .int 0]))] := hD
  refine lv_aload_n hx hb dX2_init_9 rfl (lv_at hl 0 rfl) ?_
  refine lv_iconst (v := (-1)) hx hb dX2_init_10 (by decide) ?_
  refine va_put (D := (dC, dI)) (ci := 4) (v := .int (-1)) (ty := .int) (C := RX2) (T := TX2) (N := 15) hx hb hts in_RX2 tyX2 tyX2_ok nmX2 hown hK hP hD hS 0 rfl rfl 8 (by decide) (hts (.fieldLink RX2 15 "Hornbook$Expression" "own" "I") (by decide +kernel)) (fun _ h9 => h9) rfl (by decide +kernel) rfl rfl (Nat.le_of_ble_eq_true rfl) dX2_init_11 (fun H locs hP hD hS => ?_)
  have hP : va_P (dC, dI) vwCl [(ex, .inr (4, [.int 0, .int 0, .null, .null, .null, .int 0, .int 0, .int (-1), .int (-1), .int 0, .int 0, .int 0, .int 0, .int 0, .int 0]))] H := hP
  have hD : va_D A [(ex, .inr (4, [.int 0, .int 0, .null, .null, .null, .int 0, .int 0, .int (-1), .int (-1), .int 0, .int 0, .int 0, .int 0, .int 0, .int 0]))] := hD
  have hP9 := hP.sub (ws' := [(ex, .inr (4, [.int 0, .int 0, .null, .null, .null, .int 0, .int 0, .int (-1), .int (-1), .int 0, .int 0, .int 0, .int 0, .int 0, .int 0]))]) [0] rfl
  have hD9 := hD.sub (ws' := [(ex, .inr (4, [.int 0, .int 0, .null, .null, .null, .int 0, .int 0, .int (-1), .int (-1), .int 0, .int 0, .int 0, .int 0, .int 0, .int 0]))]) [0] (by decide) rfl
  have hK9 := hK.sub (tys' := []) [] rfl
  refine W.widen (k := 0) (n := 0) (Nat.le_of_ble_eq_true rfl) (Nat.le_of_ble_eq_true rfl) ?_
  exact W.vret hx hb hr (fun t ht hW => ⟨⟨(), rfl, trivial, ⟨by rw [ht]; exact hP9, va_K.moved hW.alike hK9, hD9⟩⟩, hS.F ht⟩) hS.2.2 dX2_init_14

def wb_c_H_addX : List Cond := [.fieldLink RX11 12 "Hornbook" "expressions" "Ljava/util/ArrayList;", .code yJx4a65c_size_8abf5 cJx4a65c_size_8abf5 1 (some .int), .fieldLink RJx4a65c 48 "java/util/ArrayList" "size" "I", .methodLink RX11 73 yJx4a65c_size_8abf5, .instanceMethod yJx4a65c_size_8abf5, .selects RJx4a65c yJx4a65c_size_8abf5 yJx4a65c_size_8abf5, .initialized RJx4a65c, .classLink RX11 235 RX2, .instantiable RX2 15, .initialized RX2, .code yX2_init cX2_init 1 none, .methodLink RX2 3 objectInit, .instanceMethod objectInit, .code objectInit ⟨#[0xb1]⟩ 1 none, .fieldLink RX2 9 "Hornbook$Expression" "result" "I", .fieldLink RX2 15 "Hornbook$Expression" "own" "I", .instanceMethod yX2_init, .fieldLink RX11 284 "Hornbook$Expression" "number" "I", .fieldLink RX11 376 "Hornbook$Expression" "kind" "I", .fieldLink RX11 379 "Hornbook$Expression" "a" "LHornbook$Expression;", .fieldLink RX11 383 "Hornbook$Expression" "b" "LHornbook$Expression;", .fieldLink RX11 386 "Hornbook$Expression" "c" "LHornbook$Expression;", .fieldLink RX11 389 "Hornbook$Expression" "name" "I", .fieldLink RX11 390 "Hornbook$Expression" "told" "I", .code yJx4a65c_add_9ea2d cJx4a65c_add_9ea2d 2 (some .boolean), .sameField "java/util/ArrayList" "java/util/AbstractList" "modCount" "I", .fieldLink RJx4a65c 63 "java/util/ArrayList" "modCount" "I", .fieldLink RJx4a65c 9 "java/util/ArrayList" "elementData" "[Ljava/lang/Object;", .code yJx4a65c_add_72be8 cJx4a65c_add_72be8 4 none, .code yJx4a65c_grow_d5877 cJx4a65c_grow_d5877 1 (some (.array (.object "java/lang/Object"))), .code yJx4a65c_grow_92f84 cJx4a65c_grow_92f84 4 (some (.array (.object "java/lang/Object"))), .fieldLink RJx4a65c 39 "java/util/ArrayList" "DEFAULTCAPACITY_EMPTY_ELEMENTDATA" "[Ljava/lang/Object;", .methodLink RJx4a65c 79 Lib.Math.max.name, .static Lib.Math.max.name, .initialized "java/lang/Math", .code Lib.Math.max.name Lib.Math.max.code 2 (some .int), .classLink RJx4a65c 7 "java/lang/Object", .methodLink RJx4a65c 69 yJx4a65c_grow_92f84, .instanceMethod yJx4a65c_grow_92f84, .selects RJx4a65c yJx4a65c_grow_92f84 yJx4a65c_grow_92f84, .methodLink RJx4a65c 129 yJx4a65c_grow_d5877, .instanceMethod yJx4a65c_grow_d5877, .selects RJx4a65c yJx4a65c_grow_d5877 yJx4a65c_grow_d5877, .methodLink RJx4a65c 131 yJx4a65c_add_72be8, .instanceMethod yJx4a65c_add_72be8, .selects RJx4a65c yJx4a65c_add_72be8 yJx4a65c_add_72be8, .methodLink RX11 108 yJx4a65c_add_9ea2d, .instanceMethod yJx4a65c_add_9ea2d, .selects RJx4a65c yJx4a65c_add_9ea2d yJx4a65c_add_9ea2d] ++ u_ws RJx4a65c TJx4a65c 3 ++ u_ws RX11 TX11 10 ++ u_ws RX2 TX2 15
def w_c_H_addX : List Cond := .code yX11_addExpression cX11_addExpression 8 (some .int) :: wb_c_H_addX
set_option maxRecDepth 100000 in
theorem g_c_H_addX_0 : GoodIn w_c_H_addX (wsV RX11 73 RJx4a65c yJx4a65c_size_8abf5 w_c_AL_size) := goodIn_app (goodIn_of _ (by decide +kernel)) (goodIn_p (big := w_c_H_addX) (.code yJx4a65c_size_8abf5 cJx4a65c_size_8abf5 1 (some .int) :: wb_c_AL_size) [2] rfl (by decide +kernel))
set_option maxRecDepth 100000 in
theorem g_c_H_addX_1 : GoodIn w_c_H_addX (w_c_X_new) := goodIn_p (big := w_c_H_addX) (.code yX2_init cX2_init 1 none :: wb_c_X_new) [11, 14] rfl (by decide +kernel)
set_option maxRecDepth 100000 in
theorem g_c_H_addX_2 : GoodIn w_c_H_addX (wsV RX11 108 RJx4a65c yJx4a65c_add_9ea2d w_c_AL_add0) := goodIn_app (goodIn_of _ (by decide +kernel)) (goodIn_p (big := w_c_H_addX) (.code yJx4a65c_add_9ea2d cJx4a65c_add_9ea2d 2 (some .boolean) :: wb_c_AL_add0) [25, 29, 30, 31, 36] rfl (by decide +kernel))
set_option maxHeartbeats 4000000 in
set_option maxRecDepth 100000 in
theorem c_H_addX (l : Launch) (eD eI : Nat) (ad : Nat → Nat) (dC : Nat → ClassId) (dI : Nat → Nat → Nat) (sz : Nat) (hh : Nat) (aexpr : Nat) (achoo : Nat) (ameth : Nat) (aroom : Nat) (anod : Nat) (asort : Nat) (anote : Nat) (amet : Nat) (v : Int32) : Met l yX11_addExpression w_c_H_addX ({ frames := 5, cells := 2, slots := 25, locals := 101 }) (va_Pc [.ref hh, .int 0, .null, .null, .null, .int 0, .int v] (zPre eD eI ad (dC, dI) [(hh, .inr (13, [.ref aexpr, .ref achoo, .ref ameth, .ref aroom, .ref anod, .ref asort, .ref anote, .ref amet, .int 0, .int 1])), (aexpr, .inr (1, [.int 0, .ref eD, .int 0]))] [] sz)) (va_Qi (fun (r : Int32) (_ : Unit) => r = 0) (fun (_ : Unit) => zEnd (dC, dI) (va_A [(hh, .inr (13, [.ref aexpr, .ref achoo, .ref ameth, .ref aroom, .ref anod, .ref asort, .ref anote, .ref amet, .int 0, .int 1])), (aexpr, .inr (1, [.int 0, .ref eD, .int 0]))] sz) [] []) (va_A [(hh, .inr (13, [.ref aexpr, .ref achoo, .ref ameth, .ref aroom, .ref anod, .ref asort, .ref anote, .ref amet, .int 0, .int 1])), (aexpr, .inr (1, [.int 0, .ref eD, .int 0]))] sz)) 2 25 (va_A [(hh, .inr (13, [.ref aexpr, .ref achoo, .ref ameth, .ref aroom, .ref anod, .ref asort, .ref anote, .ref amet, .int 0, .int 1])), (aexpr, .inr (1, [.int 0, .ref eD, .int 0]))] sz) := by
  refine Met.ofW (cc := cX11_addExpression) (maxL := 8) (ret := (some .int)) (by decide) rfl ?_
  intro p e s m args below meth c s₁ B hml hv
  obtain ⟨rfl, hsz, hP, hK, hD0, hE⟩ := hv
  have hx := B.exec
  have hb := B.bytes
  have hr := B.returns
  have hts := atoms_spec (ws := w_c_H_addX) B.pre
  have hown : s.vm.findClass RX11 = some m.cls := findClass_of_methodNamed B.named
  have hlocks := B.notSynchronized
  subst hsz
  have hD := hD0.self (sz := s.heap.size)
  generalize hAe : va_A [(hh, .inr (13, [.ref aexpr, .ref achoo, .ref ameth, .ref aroom, .ref anod, .ref asort, .ref anote, .ref amet, .int 0, .int 1])), (aexpr, .inr (1, [.int 0, .ref eD, .int 0]))] s.heap.size = A at hD hE ⊢
  have hA : ∀ q : Nat, s.heap.size ≤ q → A q := fun q h => by rw [← hAe]; exact Or.inr h
  have hS : va_S A s.heap s.heap [] := va_S.rf
  have hP : va_P (dC, dI) vwCl [(hh, .inr (13, [.ref aexpr, .ref achoo, .ref ameth, .ref aroom, .ref anod, .ref asort, .ref anote, .ref amet, .int 0, .int 1])), (aexpr, .inr (1, [.int 0, .ref eD, .int 0]))] s.heap := hP
  have hl := lv_entry ([.ref hh, .int 0, .null, .null, .null, .int 0, .int v]) (n := 8) (Nat.le_of_ble_eq_true rfl)
  rw [lg_entry_eq]
  generalize (lg_sl ([.ref hh, .int 0, .null, .null, .null, .int 0, .int v]) ++ List.replicate (8 - (lg_sl ([.ref hh, .int 0, .null, .null, .null, .int 0, .int v])).length) Slot.unset).toArray = ls at hl ⊢
  have hl : lv_has ls 8 [(0, .ref hh), (1, .int 0), (2, .null), (3, .null), (4, .null), (5, .int 0), (6, .int v)] := hl
  have in_RJx4a65c : ∀ w ∈ u_ws RJx4a65c TJx4a65c 3, w ∈ w_c_H_addX := by decide +kernel
  have in_RX11 : ∀ w ∈ u_ws RX11 TX11 10, w ∈ w_c_H_addX := by decide +kernel
  have in_RX2 : ∀ w ∈ u_ws RX2 TX2 15, w ∈ w_c_H_addX := by decide +kernel
  refine lv_aload_n hx hb dX11_addExpression_0 rfl (lv_at hl 0 rfl) ?_
  refine va_get (D := (dC, dI)) (ci := 13) (v := .ref aexpr) (C := RX11) (T := TX11) (N := 10) hx hb hts in_RX11 hown hK hP 0 rfl rfl 0 (by decide) (hts (.fieldLink RX11 12 "Hornbook" "expressions" "Ljava/util/ArrayList;") (by decide +kernel)) (fun _ h9 => h9) rfl dX11_addExpression_1 ?_
  refine z_i (wr := [(hh, .inr (13, [.ref aexpr, .ref achoo, .ref ameth, .ref aroom, .ref anod, .ref asort, .ref anote, .ref amet, .int 0, .int 1]))]) (va_runV (As := []) (rest := []) ⟨hx, hb, hml, hown, hts⟩ (c_AL_size l eD eI ad dC dI s.heap.size aexpr ((.int 0)) ((.ref eD)) 0) (cwV 0 hts g_c_H_addX_0 rfl rfl rfl (by decide +kernel) ⟨Nat.le_of_ble_eq_true rfl, Nat.le_of_ble_eq_true rfl⟩) (z_preV (wc := [(aexpr, .inr (1, [.int 0, .ref eD, .int 0]))]) hP hD hK hS hA hE [1] [] rfl (by decide) rfl (ci := 1) (q0 := 0) rfl rfl) rfl rfl hl.1 rfl (lv_room (Nat.le_of_ble_eq_true rfl)) dX11_addExpression_4 ⟨Nat.le_of_ble_eq_true rfl, Nat.le_of_ble_eq_true rfl⟩) hP hD hK hS hA [1] [0] rfl rfl (by decide) (by decide) (fun r_1 u H locs hw_2 hP hD hK hS => ?_)
  obtain ⟨⟩ := u
  have hP : va_P (dC, dI) vwCl [(hh, .inr (13, [.ref aexpr, .ref achoo, .ref ameth, .ref aroom, .ref anod, .ref asort, .ref anote, .ref amet, .int 0, .int 1])), (aexpr, .inr (1, [.int 0, .ref eD, .int 0]))] H := hP
  have hD : va_D A [(hh, .inr (13, [.ref aexpr, .ref achoo, .ref ameth, .ref aroom, .ref anod, .ref asort, .ref anote, .ref amet, .int 0, .int 1])), (aexpr, .inr (1, [.int 0, .ref eD, .int 0]))] := hD
  have hK : va_K (dC, dI) vwCl [] s := by simpa using hK
  have hw_2 : r_1 = 0 := hw_2
  have hw_2 := hw_2.symm
  subst hw_2
  refine lv_bipush (v := 40) hx hb dX11_addExpression_7 (by decide) ?_
  refine lv_icmp_lt (tgt := 23) hx hb dX11_addExpression_9 (by decide) (fun c_3 => ?_) (fun c_3 => ?_)
  rotate_left
  · exact absurd (by decide) c_3
  refine va_new (ci := 4) (fs := [.int 0, .int 0, .null, .null, .null, .int 0, .int 0, .int 0, .int 0, .int 0, .int 0, .int 0, .int 0, .int 0, .int 0]) (C := RX2) (T := TX2) (N := 15) hx hb hts in_RX2 tyX2 tyX2_ok hown (hts (.classLink RX11 235 RX2) (by decide +kernel)) (hts (.instantiable RX2 15) (by decide +kernel)) (hts (.initialized RX2) (by decide +kernel)) hK hP hD hS hA rfl (fun j hj => by rcases (show j = 0 ∨ j = 1 ∨ j = 2 ∨ j = 3 ∨ j = 4 ∨ j = 5 ∨ j = 6 ∨ j = 7 ∨ j = 8 ∨ j = 9 ∨ j = 10 ∨ j = 11 ∨ j = 12 ∨ j = 13 ∨ j = 14 by omega) with rfl | rfl | rfl | rfl | rfl | rfl | rfl | rfl | rfl | rfl | rfl | rfl | rfl | rfl | rfl <;> rfl) (Nat.le_of_ble_eq_true rfl) (Nat.le_of_ble_eq_true rfl) dX11_addExpression_23 (fun q_4 H hP hD hS => ?_)
  have hP : va_P (dC, dI) vwCl [(hh, .inr (13, [.ref aexpr, .ref achoo, .ref ameth, .ref aroom, .ref anod, .ref asort, .ref anote, .ref amet, .int 0, .int 1])), (aexpr, .inr (1, [.int 0, .ref eD, .int 0])), (q_4, .inr (4, [.int 0, .int 0, .null, .null, .null, .int 0, .int 0, .int 0, .int 0, .int 0, .int 0, .int 0, .int 0, .int 0, .int 0]))] H := hP
  have hD : va_D A [(hh, .inr (13, [.ref aexpr, .ref achoo, .ref ameth, .ref aroom, .ref anod, .ref asort, .ref anote, .ref amet, .int 0, .int 1])), (aexpr, .inr (1, [.int 0, .ref eD, .int 0])), (q_4, .inr (4, [.int 0, .int 0, .null, .null, .null, .int 0, .int 0, .int 0, .int 0, .int 0, .int 0, .int 0, .int 0, .int 0, .int 0]))] := hD
  refine lv_dup hx hb dX11_addExpression_26 rfl ?_
  refine z_v (wr := [(hh, .inr (13, [.ref aexpr, .ref achoo, .ref ameth, .ref aroom, .ref anod, .ref asort, .ref anote, .ref amet, .int 0, .int 1])), (aexpr, .inr (1, [.int 0, .ref eD, .int 0]))]) (va_runIN (As := []) (rest := [.ref q_4]) ⟨hx, hb, hml, hown, hts⟩ (c_X_new l eD eI ad dC dI H.size q_4) (⟨va_cnB 0 hts g_c_H_addX_1 rfl rfl rfl (hE.2.2.1 (.methodLinkNest RX11 375 yX2_init "Hornbook") (by decide +kernel)) (hts (.initialized RX2) (by decide +kernel)) (by decide +kernel) ⟨Nat.le_of_ble_eq_true rfl, Nat.le_of_ble_eq_true rfl⟩, rfl, (hts (.instanceMethod yX2_init) (by decide +kernel))⟩) (z_preS (wc := [(q_4, .inr (4, [.int 0, .int 0, .null, .null, .null, .int 0, .int 0, .int 0, .int 0, .int 0, .int 0, .int 0, .int 0, .int 0, .int 0]))]) hP hD hK hS hA hE [2] [] rfl (by decide) rfl) rfl rfl hl.1 rfl (lv_room (Nat.le_of_ble_eq_true rfl)) dX11_addExpression_27 ⟨Nat.le_of_ble_eq_true rfl, Nat.le_of_ble_eq_true rfl⟩) hP hD hK hS hA [2] [0, 1] rfl rfl (by decide) (by decide) (fun u H locs hw_6 hP hD hK hS => ?_)
  obtain ⟨⟩ := u
  have hP : va_P (dC, dI) vwCl [(hh, .inr (13, [.ref aexpr, .ref achoo, .ref ameth, .ref aroom, .ref anod, .ref asort, .ref anote, .ref amet, .int 0, .int 1])), (aexpr, .inr (1, [.int 0, .ref eD, .int 0])), (q_4, .inr (4, [.int 0, .int 0, .null, .null, .null, .int 0, .int 0, .int (-1), .int (-1), .int 0, .int 0, .int 0, .int 0, .int 0, .int 0]))] H := hP
  have hD : va_D A [(hh, .inr (13, [.ref aexpr, .ref achoo, .ref ameth, .ref aroom, .ref anod, .ref asort, .ref anote, .ref amet, .int 0, .int 1])), (aexpr, .inr (1, [.int 0, .ref eD, .int 0])), (q_4, .inr (4, [.int 0, .int 0, .null, .null, .null, .int 0, .int 0, .int (-1), .int (-1), .int 0, .int 0, .int 0, .int 0, .int 0, .int 0]))] := hD
  have hK : va_K (dC, dI) vwCl [] s := by simpa using hK
  refine lv_astore (lv' := [(7, .ref q_4), (0, .ref hh), (1, .int 0), (2, .null), (3, .null), (4, .null), (5, .int 0), (6, .int v)]) hx hb dX11_addExpression_30 hl (by decide) rfl (fun ls hl => ?_)
  refine lv_aload hx hb dX11_addExpression_32 (lv_at hl 0 rfl) ?_
  refine lv_aload_n hx hb dX11_addExpression_34 rfl (lv_at hl 1 rfl) ?_
  refine va_get (D := (dC, dI)) (ci := 13) (v := .ref aexpr) (C := RX11) (T := TX11) (N := 10) hx hb hts in_RX11 hown hK hP 0 rfl rfl 0 (by decide) (hts (.fieldLink RX11 12 "Hornbook" "expressions" "Ljava/util/ArrayList;") (by decide +kernel)) (fun _ h9 => h9) rfl dX11_addExpression_35 ?_
  refine z_i (wr := [(hh, .inr (13, [.ref aexpr, .ref achoo, .ref ameth, .ref aroom, .ref anod, .ref asort, .ref anote, .ref amet, .int 0, .int 1])), (q_4, .inr (4, [.int 0, .int 0, .null, .null, .null, .int 0, .int 0, .int (-1), .int (-1), .int 0, .int 0, .int 0, .int 0, .int 0, .int 0]))]) (va_runV (As := []) (rest := [.ref q_4]) ⟨hx, hb, hml, hown, hts⟩ (c_AL_size l eD eI ad dC dI H.size aexpr ((.int 0)) ((.ref eD)) 0) (cwV 0 hts g_c_H_addX_0 rfl rfl rfl (by decide +kernel) ⟨Nat.le_of_ble_eq_true rfl, Nat.le_of_ble_eq_true rfl⟩) (z_preV (wc := [(aexpr, .inr (1, [.int 0, .ref eD, .int 0]))]) hP hD hK hS hA hE [1] [] rfl (by decide) rfl (ci := 1) (q0 := 0) rfl rfl) rfl rfl hl.1 rfl (lv_room (Nat.le_of_ble_eq_true rfl)) dX11_addExpression_38 ⟨Nat.le_of_ble_eq_true rfl, Nat.le_of_ble_eq_true rfl⟩) hP hD hK hS hA [1] [0, 2] rfl rfl (by decide) (by decide) (fun r_7 u H locs hw_8 hP hD hK hS => ?_)
  obtain ⟨⟩ := u
  have hP : va_P (dC, dI) vwCl [(hh, .inr (13, [.ref aexpr, .ref achoo, .ref ameth, .ref aroom, .ref anod, .ref asort, .ref anote, .ref amet, .int 0, .int 1])), (q_4, .inr (4, [.int 0, .int 0, .null, .null, .null, .int 0, .int 0, .int (-1), .int (-1), .int 0, .int 0, .int 0, .int 0, .int 0, .int 0])), (aexpr, .inr (1, [.int 0, .ref eD, .int 0]))] H := hP
  have hD : va_D A [(hh, .inr (13, [.ref aexpr, .ref achoo, .ref ameth, .ref aroom, .ref anod, .ref asort, .ref anote, .ref amet, .int 0, .int 1])), (q_4, .inr (4, [.int 0, .int 0, .null, .null, .null, .int 0, .int 0, .int (-1), .int (-1), .int 0, .int 0, .int 0, .int 0, .int 0, .int 0])), (aexpr, .inr (1, [.int 0, .ref eD, .int 0]))] := hD
  have hK : va_K (dC, dI) vwCl [] s := by simpa using hK
  have hw_8 : r_7 = 0 := hw_8
  have hw_8 := hw_8.symm
  subst hw_8
  refine va_put (D := (dC, dI)) (ci := 4) (v := .int 0) (ty := .int) (C := RX2) (T := TX2) (N := 15) hx hb hts in_RX2 tyX2 tyX2_ok nmX2 hown hK hP hD hS 1 rfl rfl 0 (by decide) (hts (.fieldLink RX11 284 "Hornbook$Expression" "number" "I") (by decide +kernel)) (fun _ h9 => h9) rfl (by decide +kernel) rfl rfl (Nat.le_of_ble_eq_true rfl) dX11_addExpression_41 (fun H locs hP hD hS => ?_)
  have hP : va_P (dC, dI) vwCl [(hh, .inr (13, [.ref aexpr, .ref achoo, .ref ameth, .ref aroom, .ref anod, .ref asort, .ref anote, .ref amet, .int 0, .int 1])), (q_4, .inr (4, [.int 0, .int 0, .null, .null, .null, .int 0, .int 0, .int (-1), .int (-1), .int 0, .int 0, .int 0, .int 0, .int 0, .int 0])), (aexpr, .inr (1, [.int 0, .ref eD, .int 0]))] H := hP
  have hD : va_D A [(hh, .inr (13, [.ref aexpr, .ref achoo, .ref ameth, .ref aroom, .ref anod, .ref asort, .ref anote, .ref amet, .int 0, .int 1])), (q_4, .inr (4, [.int 0, .int 0, .null, .null, .null, .int 0, .int 0, .int (-1), .int (-1), .int 0, .int 0, .int 0, .int 0, .int 0, .int 0])), (aexpr, .inr (1, [.int 0, .ref eD, .int 0]))] := hD
  refine lv_aload hx hb dX11_addExpression_44 (lv_at hl 0 rfl) ?_
  refine lv_iload_n hx hb dX11_addExpression_46 rfl (lv_at hl 2 rfl) ?_
  refine va_put (D := (dC, dI)) (ci := 4) (v := .int 0) (ty := .int) (C := RX2) (T := TX2) (N := 15) hx hb hts in_RX2 tyX2 tyX2_ok nmX2 hown hK hP hD hS 1 rfl rfl 1 (by decide) (hts (.fieldLink RX11 376 "Hornbook$Expression" "kind" "I") (by decide +kernel)) (fun _ h9 => h9) rfl (by decide +kernel) rfl rfl (Nat.le_of_ble_eq_true rfl) dX11_addExpression_47 (fun H locs hP hD hS => ?_)
  have hP : va_P (dC, dI) vwCl [(hh, .inr (13, [.ref aexpr, .ref achoo, .ref ameth, .ref aroom, .ref anod, .ref asort, .ref anote, .ref amet, .int 0, .int 1])), (q_4, .inr (4, [.int 0, .int 0, .null, .null, .null, .int 0, .int 0, .int (-1), .int (-1), .int 0, .int 0, .int 0, .int 0, .int 0, .int 0])), (aexpr, .inr (1, [.int 0, .ref eD, .int 0]))] H := hP
  have hD : va_D A [(hh, .inr (13, [.ref aexpr, .ref achoo, .ref ameth, .ref aroom, .ref anod, .ref asort, .ref anote, .ref amet, .int 0, .int 1])), (q_4, .inr (4, [.int 0, .int 0, .null, .null, .null, .int 0, .int 0, .int (-1), .int (-1), .int 0, .int 0, .int 0, .int 0, .int 0, .int 0])), (aexpr, .inr (1, [.int 0, .ref eD, .int 0]))] := hD
  refine lv_aload hx hb dX11_addExpression_50 (lv_at hl 0 rfl) ?_
  refine lv_aload_nN hx hb dX11_addExpression_52 rfl (lv_at hl 3 rfl) ?_
  refine va_put (D := (dC, dI)) (ci := 4) (v := .null) (ty := .object "Hornbook$Expression") (C := RX2) (T := TX2) (N := 15) hx hb hts in_RX2 tyX2 tyX2_ok nmX2 hown hK hP hD hS 1 rfl rfl 2 (by decide) (hts (.fieldLink RX11 379 "Hornbook$Expression" "a" "LHornbook$Expression;") (by decide +kernel)) (fun _ h9 => h9) rfl (by decide +kernel) rfl rfl (Nat.le_of_ble_eq_true rfl) dX11_addExpression_53 (fun H locs hP hD hS => ?_)
  have hP : va_P (dC, dI) vwCl [(hh, .inr (13, [.ref aexpr, .ref achoo, .ref ameth, .ref aroom, .ref anod, .ref asort, .ref anote, .ref amet, .int 0, .int 1])), (q_4, .inr (4, [.int 0, .int 0, .null, .null, .null, .int 0, .int 0, .int (-1), .int (-1), .int 0, .int 0, .int 0, .int 0, .int 0, .int 0])), (aexpr, .inr (1, [.int 0, .ref eD, .int 0]))] H := hP
  have hD : va_D A [(hh, .inr (13, [.ref aexpr, .ref achoo, .ref ameth, .ref aroom, .ref anod, .ref asort, .ref anote, .ref amet, .int 0, .int 1])), (q_4, .inr (4, [.int 0, .int 0, .null, .null, .null, .int 0, .int 0, .int (-1), .int (-1), .int 0, .int 0, .int 0, .int 0, .int 0, .int 0])), (aexpr, .inr (1, [.int 0, .ref eD, .int 0]))] := hD
  refine lv_aload hx hb dX11_addExpression_56 (lv_at hl 0 rfl) ?_
  refine lv_aload_nN hx hb dX11_addExpression_58 rfl (lv_at hl 4 rfl) ?_
  refine va_put (D := (dC, dI)) (ci := 4) (v := .null) (ty := .object "Hornbook$Expression") (C := RX2) (T := TX2) (N := 15) hx hb hts in_RX2 tyX2 tyX2_ok nmX2 hown hK hP hD hS 1 rfl rfl 3 (by decide) (hts (.fieldLink RX11 383 "Hornbook$Expression" "b" "LHornbook$Expression;") (by decide +kernel)) (fun _ h9 => h9) rfl (by decide +kernel) rfl rfl (Nat.le_of_ble_eq_true rfl) dX11_addExpression_59 (fun H locs hP hD hS => ?_)
  have hP : va_P (dC, dI) vwCl [(hh, .inr (13, [.ref aexpr, .ref achoo, .ref ameth, .ref aroom, .ref anod, .ref asort, .ref anote, .ref amet, .int 0, .int 1])), (q_4, .inr (4, [.int 0, .int 0, .null, .null, .null, .int 0, .int 0, .int (-1), .int (-1), .int 0, .int 0, .int 0, .int 0, .int 0, .int 0])), (aexpr, .inr (1, [.int 0, .ref eD, .int 0]))] H := hP
  have hD : va_D A [(hh, .inr (13, [.ref aexpr, .ref achoo, .ref ameth, .ref aroom, .ref anod, .ref asort, .ref anote, .ref amet, .int 0, .int 1])), (q_4, .inr (4, [.int 0, .int 0, .null, .null, .null, .int 0, .int 0, .int (-1), .int (-1), .int 0, .int 0, .int 0, .int 0, .int 0, .int 0])), (aexpr, .inr (1, [.int 0, .ref eD, .int 0]))] := hD
  refine lv_aload hx hb dX11_addExpression_62 (lv_at hl 0 rfl) ?_
  refine lv_aloadN hx hb dX11_addExpression_64 (lv_at hl 5 rfl) ?_
  refine va_put (D := (dC, dI)) (ci := 4) (v := .null) (ty := .object "Hornbook$Expression") (C := RX2) (T := TX2) (N := 15) hx hb hts in_RX2 tyX2 tyX2_ok nmX2 hown hK hP hD hS 1 rfl rfl 4 (by decide) (hts (.fieldLink RX11 386 "Hornbook$Expression" "c" "LHornbook$Expression;") (by decide +kernel)) (fun _ h9 => h9) rfl (by decide +kernel) rfl rfl (Nat.le_of_ble_eq_true rfl) dX11_addExpression_66 (fun H locs hP hD hS => ?_)
  have hP : va_P (dC, dI) vwCl [(hh, .inr (13, [.ref aexpr, .ref achoo, .ref ameth, .ref aroom, .ref anod, .ref asort, .ref anote, .ref amet, .int 0, .int 1])), (q_4, .inr (4, [.int 0, .int 0, .null, .null, .null, .int 0, .int 0, .int (-1), .int (-1), .int 0, .int 0, .int 0, .int 0, .int 0, .int 0])), (aexpr, .inr (1, [.int 0, .ref eD, .int 0]))] H := hP
  have hD : va_D A [(hh, .inr (13, [.ref aexpr, .ref achoo, .ref ameth, .ref aroom, .ref anod, .ref asort, .ref anote, .ref amet, .int 0, .int 1])), (q_4, .inr (4, [.int 0, .int 0, .null, .null, .null, .int 0, .int 0, .int (-1), .int (-1), .int 0, .int 0, .int 0, .int 0, .int 0, .int 0])), (aexpr, .inr (1, [.int 0, .ref eD, .int 0]))] := hD
  refine lv_aload hx hb dX11_addExpression_69 (lv_at hl 0 rfl) ?_
  refine lv_iload hx hb dX11_addExpression_71 (lv_at hl 6 rfl) ?_
  refine va_put (D := (dC, dI)) (ci := 4) (v := .int 0) (ty := .int) (C := RX2) (T := TX2) (N := 15) hx hb hts in_RX2 tyX2 tyX2_ok nmX2 hown hK hP hD hS 1 rfl rfl 5 (by decide) (hts (.fieldLink RX11 389 "Hornbook$Expression" "name" "I") (by decide +kernel)) (fun _ h9 => h9) rfl (by decide +kernel) rfl rfl (Nat.le_of_ble_eq_true rfl) dX11_addExpression_73 (fun H locs hP hD hS => ?_)
  have hP : va_P (dC, dI) vwCl [(hh, .inr (13, [.ref aexpr, .ref achoo, .ref ameth, .ref aroom, .ref anod, .ref asort, .ref anote, .ref amet, .int 0, .int 1])), (q_4, .inr (4, [.int 0, .int 0, .null, .null, .null, .int 0, .int 0, .int (-1), .int (-1), .int 0, .int 0, .int 0, .int 0, .int 0, .int 0])), (aexpr, .inr (1, [.int 0, .ref eD, .int 0]))] H := hP
  have hD : va_D A [(hh, .inr (13, [.ref aexpr, .ref achoo, .ref ameth, .ref aroom, .ref anod, .ref asort, .ref anote, .ref amet, .int 0, .int 1])), (q_4, .inr (4, [.int 0, .int 0, .null, .null, .null, .int 0, .int 0, .int (-1), .int (-1), .int 0, .int 0, .int 0, .int 0, .int 0, .int 0])), (aexpr, .inr (1, [.int 0, .ref eD, .int 0]))] := hD
  refine lv_aload hx hb dX11_addExpression_76 (lv_at hl 0 rfl) ?_
  refine lv_iload hx hb dX11_addExpression_78 (lv_at hl 7 rfl) ?_
  refine va_put (D := (dC, dI)) (ci := 4) (v := .int v) (ty := .int) (C := RX2) (T := TX2) (N := 15) hx hb hts in_RX2 tyX2 tyX2_ok nmX2 hown hK hP hD hS 1 rfl rfl 6 (by decide) (hts (.fieldLink RX11 390 "Hornbook$Expression" "told" "I") (by decide +kernel)) (fun _ h9 => h9) rfl (by decide +kernel) rfl rfl (Nat.le_of_ble_eq_true rfl) dX11_addExpression_80 (fun H locs hP hD hS => ?_)
  have hP : va_P (dC, dI) vwCl [(hh, .inr (13, [.ref aexpr, .ref achoo, .ref ameth, .ref aroom, .ref anod, .ref asort, .ref anote, .ref amet, .int 0, .int 1])), (q_4, .inr (4, [.int 0, .int 0, .null, .null, .null, .int 0, .int v, .int (-1), .int (-1), .int 0, .int 0, .int 0, .int 0, .int 0, .int 0])), (aexpr, .inr (1, [.int 0, .ref eD, .int 0]))] H := hP
  have hD : va_D A [(hh, .inr (13, [.ref aexpr, .ref achoo, .ref ameth, .ref aroom, .ref anod, .ref asort, .ref anote, .ref amet, .int 0, .int 1])), (q_4, .inr (4, [.int 0, .int 0, .null, .null, .null, .int 0, .int v, .int (-1), .int (-1), .int 0, .int 0, .int 0, .int 0, .int 0, .int 0])), (aexpr, .inr (1, [.int 0, .ref eD, .int 0]))] := hD
  refine lv_aload_n hx hb dX11_addExpression_83 rfl (lv_at hl 1 rfl) ?_
  refine va_get (D := (dC, dI)) (ci := 13) (v := .ref aexpr) (C := RX11) (T := TX11) (N := 10) hx hb hts in_RX11 hown hK hP 0 rfl rfl 0 (by decide) (hts (.fieldLink RX11 12 "Hornbook" "expressions" "Ljava/util/ArrayList;") (by decide +kernel)) (fun _ h9 => h9) rfl dX11_addExpression_84 ?_
  refine lv_aload hx hb dX11_addExpression_87 (lv_at hl 0 rfl) ?_
  refine z_i (wr := [(hh, .inr (13, [.ref aexpr, .ref achoo, .ref ameth, .ref aroom, .ref anod, .ref asort, .ref anote, .ref amet, .int 0, .int 1]))]) (va_runV (As := [.ref q_4]) (rest := []) ⟨hx, hb, hml, hown, hts⟩ (c_AL_add0 l eD eI ad dC dI H.size aexpr 0 q_4 4 ((RX2, TX2, 15)) ([.int 0, .int 0, .null, .null, .null, .int 0, .int v, .int (-1), .int (-1), .int 0, .int 0, .int 0, .int 0, .int 0, .int 0]) (rfl) (by decide +kernel)) (cwV 1 hts g_c_H_addX_2 rfl rfl rfl (by decide +kernel) ⟨Nat.le_of_ble_eq_true rfl, Nat.le_of_ble_eq_true rfl⟩) (z_preV (wc := [(aexpr, .inr (1, [.int 0, .ref eD, .int 0])), (q_4, .inr (4, [.int 0, .int 0, .null, .null, .null, .int 0, .int v, .int (-1), .int (-1), .int 0, .int 0, .int 0, .int 0, .int 0, .int 0]))]) hP hD hK hS hA hE [2, 1] [] rfl (by decide) rfl (ci := 1) (q0 := 0) rfl rfl) rfl rfl hl.1 rfl (lv_room (Nat.le_of_ble_eq_true rfl)) dX11_addExpression_89 ⟨Nat.le_of_ble_eq_true rfl, Nat.le_of_ble_eq_true rfl⟩) hP hD hK hS hA [2, 1] [0] rfl rfl (by decide) (by decide) (fun r_12 u H locs hw_13 hP hD hK hS => ?_)
  obtain ⟨u_9, u_10, u_11⟩ := u
  have hP : va_P (dC, dI) vwCl [(hh, .inr (13, [.ref aexpr, .ref achoo, .ref ameth, .ref aroom, .ref anod, .ref asort, .ref anote, .ref amet, .int 0, .int 1])), (aexpr, .inr (1, [.int u_11, .ref u_9, .int 1])), (q_4, .inr (4, [.int 0, .int 0, .null, .null, .null, .int 0, .int v, .int (-1), .int (-1), .int 0, .int 0, .int 0, .int 0, .int 0, .int 0])), (u_9, .inl (u_10, 10, .inr (.inr (.inr (.inr (va_up (fun _ => none) (0 : Int32).toNatClampNeg (some q_4)))))))] H := hP
  have hD : va_D A [(hh, .inr (13, [.ref aexpr, .ref achoo, .ref ameth, .ref aroom, .ref anod, .ref asort, .ref anote, .ref amet, .int 0, .int 1])), (aexpr, .inr (1, [.int u_11, .ref u_9, .int 1])), (q_4, .inr (4, [.int 0, .int 0, .null, .null, .null, .int 0, .int v, .int (-1), .int (-1), .int 0, .int 0, .int 0, .int 0, .int 0, .int 0])), (u_9, .inl (u_10, 10, .inr (.inr (.inr (.inr (va_up (fun _ => none) (0 : Int32).toNatClampNeg (some q_4)))))))] := hD
  have hK : va_K (dC, dI) vwCl [(u_10, .object "java/lang/Object")] s := hK
  have hw_13 : r_12 = 1 := hw_13
  have hw_13 := hw_13.symm
  subst hw_13
  refine lv_pop hx hb dX11_addExpression_92 rfl ?_
  refine lv_aload hx hb dX11_addExpression_93 (lv_at hl 0 rfl) ?_
  refine va_get (D := (dC, dI)) (ci := 4) (v := .int 0) (C := RX2) (T := TX2) (N := 15) hx hb hts in_RX2 hown hK hP 2 rfl rfl 0 (by decide) (hts (.fieldLink RX11 284 "Hornbook$Expression" "number" "I") (by decide +kernel)) (fun _ h9 => h9) rfl dX11_addExpression_95 ?_
  have hP9 := hP.sub (ws' := []) [] rfl
  have hD9 := hD.sub (ws' := []) [] (by decide) rfl
  have hK9 := hK.sub (tys' := []) [] rfl
  refine W.widen (k := 2) (n := 25) (Nat.le_of_ble_eq_true rfl) (Nat.le_of_ble_eq_true rfl) ?_
  exact W.iret (v := 0) hx hb hr (fun t ht hW => ⟨⟨0, (), rfl, rfl, ⟨by rw [ht]; exact hP9, va_K.moved hW.alike hK9, hD9⟩⟩, hS.F ht⟩) hS.2.2 dX11_addExpression_98

def wb_c_H_value_l : List Cond := [.code yX11_needType cX11_needType 2 none, .classLink RX11 277 "java/lang/IndexOutOfBoundsException", .initialized "java/lang/IndexOutOfBoundsException", .methodLink RX11 116 yX11_needType, .instanceMethod yX11_needType, .selects RX11 yX11_needType yX11_needType, .initialized RX11]
def w_c_H_value_l : List Cond := .code yX11_value cX11_value 2 (some .int) :: (wb_c_H_value_l ++ zAt)
set_option maxRecDepth 100000 in
theorem g_c_H_value_l_0 : GoodIn w_c_H_value_l (wsV RX11 116 RX11 yX11_needType w_c_H_needType_l) := goodIn_app (goodIn_of _ (by decide +kernel)) (goodIn_ca (goodIn_p (big := w_c_H_value_l) (.code yX11_needType cX11_needType 2 none :: wb_c_H_needType_l) [1] rfl (by decide +kernel)) (goodIn_sub (fun _ h => List.mem_cons_of_mem _ (List.mem_append_right _ h)) zAt_good))
set_option maxHeartbeats 4000000 in
set_option maxRecDepth 100000 in
theorem c_H_value_l (l : Launch) (hfl : l.flags = flags0) (eD eI : Nat) (ad : Nat → Nat) (dC : Nat → ClassId) (dI : Nat → Nat → Nat) (sz : Nat) (hh : Nat) (aexpr : Nat) (achoo : Nat) (ameth : Nat) (aroom : Nat) (anod : Nat) (asort : Nat) (anote : Nat) (amet : Nat) (atold : Nat) (aheld : Nat) (apair : Nat) (astep : Nat) (asize : Nat) (nm : Nat) (nl : Nat) (n1 : Nat) (n2 : Nat) (nf : Nat) (ns : Nat) (nh : Nat) (nk : Nat) (np : Nat) (kI : ClassId) (kL : ClassId) (x1 : Int32) (hx11 : x1 < 0) : vx_Met l yX11_value w_c_H_value_l ({ frames := 7, cells := 1, slots := 6, locals := 103 }) (va_Pc [.ref hh, .int x1] (zPreD eD eI ad (dC, dI) [(hh, .inr (13, [.ref aexpr, .ref achoo, .ref ameth, .ref aroom, .ref anod, .ref asort, .ref anote, .ref amet, .int 0, .int 1])), (aroom, .inr (9, [.ref asort, .ref anod, .ref atold, .int 3, .ref aheld, .int 0, .ref apair, .ref astep, .int 0, .int 0, .int (-1), .int 0, .int 0, .ref asize])), (atold, .inl (kI, 60, .inl zTold)), (anod, .inr (7, [.ref nm, .ref nl, .ref n1, .ref n2, .ref nf, .ref ns, .ref nh, .ref nk, .ref np, .int 16, .int 0, .int 16, .int 0, .int 0])), (ns, .inl (kL, 1024, .inr (.inl zSec))), (nf, .inl (kL, 1024, .inr (.inl zFir))), (aexpr, .inr (1, [.int 0, .ref eD, .int 0]))] [(kI, .int), (kL, .long)] sz)) (va_Qi (fun (r : Int32) (_ : Unit) => False) (fun (_ : Unit) => zEnd (dC, dI) (va_A [(hh, .inr (13, [.ref aexpr, .ref achoo, .ref ameth, .ref aroom, .ref anod, .ref asort, .ref anote, .ref amet, .int 0, .int 1])), (aroom, .inr (9, [.ref asort, .ref anod, .ref atold, .int 3, .ref aheld, .int 0, .ref apair, .ref astep, .int 0, .int 0, .int (-1), .int 0, .int 0, .ref asize])), (atold, .inl (kI, 60, .inl zTold)), (anod, .inr (7, [.ref nm, .ref nl, .ref n1, .ref n2, .ref nf, .ref ns, .ref nh, .ref nk, .ref np, .int 16, .int 0, .int 16, .int 0, .int 0])), (ns, .inl (kL, 1024, .inr (.inl zSec))), (nf, .inl (kL, 1024, .inr (.inl zFir))), (aexpr, .inr (1, [.int 0, .ref eD, .int 0]))] sz) [(hh, .inr (13, [.ref aexpr, .ref achoo, .ref ameth, .ref aroom, .ref anod, .ref asort, .ref anote, .ref amet, .int 0, .int 1])), (aroom, .inr (9, [.ref asort, .ref anod, .ref atold, .int 3, .ref aheld, .int 0, .ref apair, .ref astep, .int 0, .int 0, .int (-1), .int 0, .int 0, .ref asize])), (atold, .inl (kI, 60, .inl zTold)), (anod, .inr (7, [.ref nm, .ref nl, .ref n1, .ref n2, .ref nf, .ref ns, .ref nh, .ref nk, .ref np, .int 16, .int 0, .int 16, .int 0, .int 0])), (ns, .inl (kL, 1024, .inr (.inl zSec))), (nf, .inl (kL, 1024, .inr (.inl zFir))), (aexpr, .inr (1, [.int 0, .ref eD, .int 0]))] [(kI, .int), (kL, .long)]) (va_A [(hh, .inr (13, [.ref aexpr, .ref achoo, .ref ameth, .ref aroom, .ref anod, .ref asort, .ref anote, .ref amet, .int 0, .int 1])), (aroom, .inr (9, [.ref asort, .ref anod, .ref atold, .int 3, .ref aheld, .int 0, .ref apair, .ref astep, .int 0, .int 0, .int (-1), .int 0, .int 0, .ref asize])), (atold, .inl (kI, 60, .inl zTold)), (anod, .inr (7, [.ref nm, .ref nl, .ref n1, .ref n2, .ref nf, .ref ns, .ref nh, .ref nk, .ref np, .int 16, .int 0, .int 16, .int 0, .int 0])), (ns, .inl (kL, 1024, .inr (.inl zSec))), (nf, .inl (kL, 1024, .inr (.inl zFir))), (aexpr, .inr (1, [.int 0, .ref eD, .int 0]))] sz)) (zX (fun E => E = "java/lang/IndexOutOfBoundsException") (va_A [(hh, .inr (13, [.ref aexpr, .ref achoo, .ref ameth, .ref aroom, .ref anod, .ref asort, .ref anote, .ref amet, .int 0, .int 1])), (aroom, .inr (9, [.ref asort, .ref anod, .ref atold, .int 3, .ref aheld, .int 0, .ref apair, .ref astep, .int 0, .int 0, .int (-1), .int 0, .int 0, .ref asize])), (atold, .inl (kI, 60, .inl zTold)), (anod, .inr (7, [.ref nm, .ref nl, .ref n1, .ref n2, .ref nf, .ref ns, .ref nh, .ref nk, .ref np, .int 16, .int 0, .int 16, .int 0, .int 0])), (ns, .inl (kL, 1024, .inr (.inl zSec))), (nf, .inl (kL, 1024, .inr (.inl zFir))), (aexpr, .inr (1, [.int 0, .ref eD, .int 0]))] sz)) 1 6 (va_A [(hh, .inr (13, [.ref aexpr, .ref achoo, .ref ameth, .ref aroom, .ref anod, .ref asort, .ref anote, .ref amet, .int 0, .int 1])), (aroom, .inr (9, [.ref asort, .ref anod, .ref atold, .int 3, .ref aheld, .int 0, .ref apair, .ref astep, .int 0, .int 0, .int (-1), .int 0, .int 0, .ref asize])), (atold, .inl (kI, 60, .inl zTold)), (anod, .inr (7, [.ref nm, .ref nl, .ref n1, .ref n2, .ref nf, .ref ns, .ref nh, .ref nk, .ref np, .int 16, .int 0, .int 16, .int 0, .int 0])), (ns, .inl (kL, 1024, .inr (.inl zSec))), (nf, .inl (kL, 1024, .inr (.inl zFir))), (aexpr, .inr (1, [.int 0, .ref eD, .int 0]))] sz) := by
  refine vx_ofW (cc := cX11_value) (maxL := 2) (ret := (some .int)) (by decide +kernel) rfl ?_
  intro p e s m args below meth c s₁ B hml htab hv
  obtain ⟨rfl, ⟨hsz, hP, hK, hD0, hE⟩, hDc⟩ := hv
  have hx := B.exec
  have hb := B.bytes
  have hr := B.returns
  have hts := atoms_spec (ws := w_c_H_value_l) B.pre
  have hown : s.vm.findClass RX11 = some m.cls := findClass_of_methodNamed B.named
  have hlocks := B.notSynchronized
  subst hsz
  have hD := hD0.self (sz := s.heap.size)
  generalize hAe : va_A [(hh, .inr (13, [.ref aexpr, .ref achoo, .ref ameth, .ref aroom, .ref anod, .ref asort, .ref anote, .ref amet, .int 0, .int 1])), (aroom, .inr (9, [.ref asort, .ref anod, .ref atold, .int 3, .ref aheld, .int 0, .ref apair, .ref astep, .int 0, .int 0, .int (-1), .int 0, .int 0, .ref asize])), (atold, .inl (kI, 60, .inl zTold)), (anod, .inr (7, [.ref nm, .ref nl, .ref n1, .ref n2, .ref nf, .ref ns, .ref nh, .ref nk, .ref np, .int 16, .int 0, .int 16, .int 0, .int 0])), (ns, .inl (kL, 1024, .inr (.inl zSec))), (nf, .inl (kL, 1024, .inr (.inl zFir))), (aexpr, .inr (1, [.int 0, .ref eD, .int 0]))] s.heap.size = A at hD hE ⊢
  have hA : ∀ q : Nat, s.heap.size ≤ q → A q := fun q h => by rw [← hAe]; exact Or.inr h
  have hS : va_S A s.heap s.heap [] := va_S.rf
  have hP : va_P (dC, dI) vwCl [(hh, .inr (13, [.ref aexpr, .ref achoo, .ref ameth, .ref aroom, .ref anod, .ref asort, .ref anote, .ref amet, .int 0, .int 1])), (aroom, .inr (9, [.ref asort, .ref anod, .ref atold, .int 3, .ref aheld, .int 0, .ref apair, .ref astep, .int 0, .int 0, .int (-1), .int 0, .int 0, .ref asize])), (atold, .inl (kI, 60, .inl zTold)), (anod, .inr (7, [.ref nm, .ref nl, .ref n1, .ref n2, .ref nf, .ref ns, .ref nh, .ref nk, .ref np, .int 16, .int 0, .int 16, .int 0, .int 0])), (ns, .inl (kL, 1024, .inr (.inl zSec))), (nf, .inl (kL, 1024, .inr (.inl zFir))), (aexpr, .inr (1, [.int 0, .ref eD, .int 0]))] s.heap := hP
  have hl := lv_entry ([.ref hh, .int x1]) (n := 2) (Nat.le_of_ble_eq_true rfl)
  rw [lg_entry_eq]
  generalize (lg_sl ([.ref hh, .int x1]) ++ List.replicate (2 - (lg_sl ([.ref hh, .int x1])).length) Slot.unset).toArray = ls at hl ⊢
  have hl : lv_has ls 2 [(0, .ref hh), (1, .int x1)] := hl
  refine lv_aload_n hx hb dX11_value_0 rfl (lv_at hl 0 rfl) ?_
  refine lv_iload_n hx hb dX11_value_1 rfl (lv_at hl 1 rfl) ?_
  refine zx_v (wr := [(atold, .inl (kI, 60, .inl zTold)), (anod, .inr (7, [.ref nm, .ref nl, .ref n1, .ref n2, .ref nf, .ref ns, .ref nh, .ref nk, .ref np, .int 16, .int 0, .int 16, .int 0, .int 0])), (ns, .inl (kL, 1024, .inr (.inl zSec))), (nf, .inl (kL, 1024, .inr (.inl zFir))), (aexpr, .inr (1, [.int 0, .ref eD, .int 0]))]) (vx_runV (As := [.int x1]) (rest := []) ⟨hx, hb, hml, hown, hts⟩ (c_H_needType_l l hfl eD eI ad dC dI s.heap.size hh aexpr achoo ameth aroom anod asort anote amet atold aheld apair astep asize x1 (hx11)) (cwV 1 hts g_c_H_value_l_0 rfl rfl rfl (by decide +kernel) ⟨Nat.le_of_ble_eq_true rfl, Nat.le_of_ble_eq_true rfl⟩) (z_preVD (wc := [(hh, .inr (13, [.ref aexpr, .ref achoo, .ref ameth, .ref aroom, .ref anod, .ref asort, .ref anote, .ref amet, .int 0, .int 1])), (aroom, .inr (9, [.ref asort, .ref anod, .ref atold, .int 3, .ref aheld, .int 0, .ref apair, .ref astep, .int 0, .int 0, .int (-1), .int 0, .int 0, .ref asize]))]) hP hD hK hS hA hE [0, 1] [] rfl (by decide) rfl (ci := 13) (q0 := 0) rfl rfl hDc) rfl rfl hl.1 rfl (lv_room (Nat.le_of_ble_eq_true rfl)) dX11_value_2 ⟨Nat.le_of_ble_eq_true rfl, Nat.le_of_ble_eq_true rfl⟩) hP hD hK hS hA [0, 1] [2, 3, 4, 5, 6] rfl rfl (by decide) (by decide) (fun E ce q9 H locs hbad hP hD hS h91 h92 h93 => ?_) (fun u H locs hw_2 hP hD hK hS => ?_)
  · have hbad : (fun E => E = "java/lang/IndexOutOfBoundsException") E := hbad
    refine vx_widen (k := 1) (n := 6) (Nat.le_of_ble_eq_true rfl) (Nat.le_of_ble_eq_true rfl) ?_
    exact vx_out (fun x h => (htab x h).elim) hlocks h91 h92 h93 (fun t ht hW => ⟨(), trivial, hbad, hS.F ht⟩) hS.2.2 (Nat.le_refl _) (Nat.le_refl _)
  exact absurd hw_2 id

def wb_c_H_value_h : List Cond := [.code yX11_needType cX11_needType 2 none, .fieldLink RX11 31 "Hornbook" "room" "LHornbook$Room;", .fieldLink RX11 344 "Hornbook$Room" "tellings" "I", .classLink RX11 277 "java/lang/IndexOutOfBoundsException", .initialized "java/lang/IndexOutOfBoundsException", .methodLink RX11 116 yX11_needType, .instanceMethod yX11_needType, .selects RX11 yX11_needType yX11_needType, .initialized RX11] ++ u_ws RX11 TX11 10 ++ u_ws RX7 TX7 14
def w_c_H_value_h : List Cond := .code yX11_value cX11_value 2 (some .int) :: (wb_c_H_value_h ++ zAt)
set_option maxRecDepth 100000 in
theorem g_c_H_value_h_0 : GoodIn w_c_H_value_h (wsV RX11 116 RX11 yX11_needType w_c_H_needType_h) := goodIn_app (goodIn_of _ (by decide +kernel)) (goodIn_ca (goodIn_p (big := w_c_H_value_h) (.code yX11_needType cX11_needType 2 none :: wb_c_H_needType_h) [1] rfl (by decide +kernel)) (goodIn_sub (fun _ h => List.mem_cons_of_mem _ (List.mem_append_right _ h)) zAt_good))
set_option maxHeartbeats 4000000 in
set_option maxRecDepth 100000 in
theorem c_H_value_h (l : Launch) (hfl : l.flags = flags0) (eD eI : Nat) (ad : Nat → Nat) (dC : Nat → ClassId) (dI : Nat → Nat → Nat) (sz : Nat) (hh : Nat) (aexpr : Nat) (achoo : Nat) (ameth : Nat) (aroom : Nat) (anod : Nat) (asort : Nat) (anote : Nat) (amet : Nat) (atold : Nat) (aheld : Nat) (apair : Nat) (astep : Nat) (asize : Nat) (nm : Nat) (nl : Nat) (n1 : Nat) (n2 : Nat) (nf : Nat) (ns : Nat) (nh : Nat) (nk : Nat) (np : Nat) (kI : ClassId) (kL : ClassId) (x1 : Int32) (hx10 : ¬ x1 < 0) (hx11 : 2 < x1) : vx_Met l yX11_value w_c_H_value_h ({ frames := 7, cells := 1, slots := 6, locals := 103 }) (va_Pc [.ref hh, .int x1] (zPreD eD eI ad (dC, dI) [(hh, .inr (13, [.ref aexpr, .ref achoo, .ref ameth, .ref aroom, .ref anod, .ref asort, .ref anote, .ref amet, .int 0, .int 1])), (aroom, .inr (9, [.ref asort, .ref anod, .ref atold, .int 3, .ref aheld, .int 0, .ref apair, .ref astep, .int 0, .int 0, .int (-1), .int 0, .int 0, .ref asize])), (atold, .inl (kI, 60, .inl zTold)), (anod, .inr (7, [.ref nm, .ref nl, .ref n1, .ref n2, .ref nf, .ref ns, .ref nh, .ref nk, .ref np, .int 16, .int 0, .int 16, .int 0, .int 0])), (ns, .inl (kL, 1024, .inr (.inl zSec))), (nf, .inl (kL, 1024, .inr (.inl zFir))), (aexpr, .inr (1, [.int 0, .ref eD, .int 0]))] [(kI, .int), (kL, .long)] sz)) (va_Qi (fun (r : Int32) (_ : Unit) => False) (fun (_ : Unit) => zEnd (dC, dI) (va_A [(hh, .inr (13, [.ref aexpr, .ref achoo, .ref ameth, .ref aroom, .ref anod, .ref asort, .ref anote, .ref amet, .int 0, .int 1])), (aroom, .inr (9, [.ref asort, .ref anod, .ref atold, .int 3, .ref aheld, .int 0, .ref apair, .ref astep, .int 0, .int 0, .int (-1), .int 0, .int 0, .ref asize])), (atold, .inl (kI, 60, .inl zTold)), (anod, .inr (7, [.ref nm, .ref nl, .ref n1, .ref n2, .ref nf, .ref ns, .ref nh, .ref nk, .ref np, .int 16, .int 0, .int 16, .int 0, .int 0])), (ns, .inl (kL, 1024, .inr (.inl zSec))), (nf, .inl (kL, 1024, .inr (.inl zFir))), (aexpr, .inr (1, [.int 0, .ref eD, .int 0]))] sz) [(hh, .inr (13, [.ref aexpr, .ref achoo, .ref ameth, .ref aroom, .ref anod, .ref asort, .ref anote, .ref amet, .int 0, .int 1])), (aroom, .inr (9, [.ref asort, .ref anod, .ref atold, .int 3, .ref aheld, .int 0, .ref apair, .ref astep, .int 0, .int 0, .int (-1), .int 0, .int 0, .ref asize])), (atold, .inl (kI, 60, .inl zTold)), (anod, .inr (7, [.ref nm, .ref nl, .ref n1, .ref n2, .ref nf, .ref ns, .ref nh, .ref nk, .ref np, .int 16, .int 0, .int 16, .int 0, .int 0])), (ns, .inl (kL, 1024, .inr (.inl zSec))), (nf, .inl (kL, 1024, .inr (.inl zFir))), (aexpr, .inr (1, [.int 0, .ref eD, .int 0]))] [(kI, .int), (kL, .long)]) (va_A [(hh, .inr (13, [.ref aexpr, .ref achoo, .ref ameth, .ref aroom, .ref anod, .ref asort, .ref anote, .ref amet, .int 0, .int 1])), (aroom, .inr (9, [.ref asort, .ref anod, .ref atold, .int 3, .ref aheld, .int 0, .ref apair, .ref astep, .int 0, .int 0, .int (-1), .int 0, .int 0, .ref asize])), (atold, .inl (kI, 60, .inl zTold)), (anod, .inr (7, [.ref nm, .ref nl, .ref n1, .ref n2, .ref nf, .ref ns, .ref nh, .ref nk, .ref np, .int 16, .int 0, .int 16, .int 0, .int 0])), (ns, .inl (kL, 1024, .inr (.inl zSec))), (nf, .inl (kL, 1024, .inr (.inl zFir))), (aexpr, .inr (1, [.int 0, .ref eD, .int 0]))] sz)) (zX (fun E => E = "java/lang/IndexOutOfBoundsException") (va_A [(hh, .inr (13, [.ref aexpr, .ref achoo, .ref ameth, .ref aroom, .ref anod, .ref asort, .ref anote, .ref amet, .int 0, .int 1])), (aroom, .inr (9, [.ref asort, .ref anod, .ref atold, .int 3, .ref aheld, .int 0, .ref apair, .ref astep, .int 0, .int 0, .int (-1), .int 0, .int 0, .ref asize])), (atold, .inl (kI, 60, .inl zTold)), (anod, .inr (7, [.ref nm, .ref nl, .ref n1, .ref n2, .ref nf, .ref ns, .ref nh, .ref nk, .ref np, .int 16, .int 0, .int 16, .int 0, .int 0])), (ns, .inl (kL, 1024, .inr (.inl zSec))), (nf, .inl (kL, 1024, .inr (.inl zFir))), (aexpr, .inr (1, [.int 0, .ref eD, .int 0]))] sz)) 1 6 (va_A [(hh, .inr (13, [.ref aexpr, .ref achoo, .ref ameth, .ref aroom, .ref anod, .ref asort, .ref anote, .ref amet, .int 0, .int 1])), (aroom, .inr (9, [.ref asort, .ref anod, .ref atold, .int 3, .ref aheld, .int 0, .ref apair, .ref astep, .int 0, .int 0, .int (-1), .int 0, .int 0, .ref asize])), (atold, .inl (kI, 60, .inl zTold)), (anod, .inr (7, [.ref nm, .ref nl, .ref n1, .ref n2, .ref nf, .ref ns, .ref nh, .ref nk, .ref np, .int 16, .int 0, .int 16, .int 0, .int 0])), (ns, .inl (kL, 1024, .inr (.inl zSec))), (nf, .inl (kL, 1024, .inr (.inl zFir))), (aexpr, .inr (1, [.int 0, .ref eD, .int 0]))] sz) := by
  refine vx_ofW (cc := cX11_value) (maxL := 2) (ret := (some .int)) (by decide +kernel) rfl ?_
  intro p e s m args below meth c s₁ B hml htab hv
  obtain ⟨rfl, ⟨hsz, hP, hK, hD0, hE⟩, hDc⟩ := hv
  have hx := B.exec
  have hb := B.bytes
  have hr := B.returns
  have hts := atoms_spec (ws := w_c_H_value_h) B.pre
  have hown : s.vm.findClass RX11 = some m.cls := findClass_of_methodNamed B.named
  have hlocks := B.notSynchronized
  subst hsz
  have hD := hD0.self (sz := s.heap.size)
  generalize hAe : va_A [(hh, .inr (13, [.ref aexpr, .ref achoo, .ref ameth, .ref aroom, .ref anod, .ref asort, .ref anote, .ref amet, .int 0, .int 1])), (aroom, .inr (9, [.ref asort, .ref anod, .ref atold, .int 3, .ref aheld, .int 0, .ref apair, .ref astep, .int 0, .int 0, .int (-1), .int 0, .int 0, .ref asize])), (atold, .inl (kI, 60, .inl zTold)), (anod, .inr (7, [.ref nm, .ref nl, .ref n1, .ref n2, .ref nf, .ref ns, .ref nh, .ref nk, .ref np, .int 16, .int 0, .int 16, .int 0, .int 0])), (ns, .inl (kL, 1024, .inr (.inl zSec))), (nf, .inl (kL, 1024, .inr (.inl zFir))), (aexpr, .inr (1, [.int 0, .ref eD, .int 0]))] s.heap.size = A at hD hE ⊢
  have hA : ∀ q : Nat, s.heap.size ≤ q → A q := fun q h => by rw [← hAe]; exact Or.inr h
  have hS : va_S A s.heap s.heap [] := va_S.rf
  have hP : va_P (dC, dI) vwCl [(hh, .inr (13, [.ref aexpr, .ref achoo, .ref ameth, .ref aroom, .ref anod, .ref asort, .ref anote, .ref amet, .int 0, .int 1])), (aroom, .inr (9, [.ref asort, .ref anod, .ref atold, .int 3, .ref aheld, .int 0, .ref apair, .ref astep, .int 0, .int 0, .int (-1), .int 0, .int 0, .ref asize])), (atold, .inl (kI, 60, .inl zTold)), (anod, .inr (7, [.ref nm, .ref nl, .ref n1, .ref n2, .ref nf, .ref ns, .ref nh, .ref nk, .ref np, .int 16, .int 0, .int 16, .int 0, .int 0])), (ns, .inl (kL, 1024, .inr (.inl zSec))), (nf, .inl (kL, 1024, .inr (.inl zFir))), (aexpr, .inr (1, [.int 0, .ref eD, .int 0]))] s.heap := hP
  have hl := lv_entry ([.ref hh, .int x1]) (n := 2) (Nat.le_of_ble_eq_true rfl)
  rw [lg_entry_eq]
  generalize (lg_sl ([.ref hh, .int x1]) ++ List.replicate (2 - (lg_sl ([.ref hh, .int x1])).length) Slot.unset).toArray = ls at hl ⊢
  have hl : lv_has ls 2 [(0, .ref hh), (1, .int x1)] := hl
  have in_RX11 : ∀ w ∈ u_ws RX11 TX11 10, w ∈ w_c_H_value_h := by decide +kernel
  have in_RX7 : ∀ w ∈ u_ws RX7 TX7 14, w ∈ w_c_H_value_h := by decide +kernel
  refine lv_aload_n hx hb dX11_value_0 rfl (lv_at hl 0 rfl) ?_
  refine lv_iload_n hx hb dX11_value_1 rfl (lv_at hl 1 rfl) ?_
  refine zx_v (wr := [(atold, .inl (kI, 60, .inl zTold)), (anod, .inr (7, [.ref nm, .ref nl, .ref n1, .ref n2, .ref nf, .ref ns, .ref nh, .ref nk, .ref np, .int 16, .int 0, .int 16, .int 0, .int 0])), (ns, .inl (kL, 1024, .inr (.inl zSec))), (nf, .inl (kL, 1024, .inr (.inl zFir))), (aexpr, .inr (1, [.int 0, .ref eD, .int 0]))]) (vx_runV (As := [.int x1]) (rest := []) ⟨hx, hb, hml, hown, hts⟩ (c_H_needType_h l hfl eD eI ad dC dI s.heap.size hh aexpr achoo ameth aroom anod asort anote amet atold aheld apair astep asize x1 (hx10) (hx11)) (cwV 1 hts g_c_H_value_h_0 rfl rfl rfl (by decide +kernel) ⟨Nat.le_of_ble_eq_true rfl, Nat.le_of_ble_eq_true rfl⟩) (z_preVD (wc := [(hh, .inr (13, [.ref aexpr, .ref achoo, .ref ameth, .ref aroom, .ref anod, .ref asort, .ref anote, .ref amet, .int 0, .int 1])), (aroom, .inr (9, [.ref asort, .ref anod, .ref atold, .int 3, .ref aheld, .int 0, .ref apair, .ref astep, .int 0, .int 0, .int (-1), .int 0, .int 0, .ref asize]))]) hP hD hK hS hA hE [0, 1] [] rfl (by decide) rfl (ci := 13) (q0 := 0) rfl rfl hDc) rfl rfl hl.1 rfl (lv_room (Nat.le_of_ble_eq_true rfl)) dX11_value_2 ⟨Nat.le_of_ble_eq_true rfl, Nat.le_of_ble_eq_true rfl⟩) hP hD hK hS hA [0, 1] [2, 3, 4, 5, 6] rfl rfl (by decide) (by decide) (fun E ce q9 H locs hbad hP hD hS h91 h92 h93 => ?_) (fun u H locs hw_2 hP hD hK hS => ?_)
  · have hbad : (fun E => E = "java/lang/IndexOutOfBoundsException") E := hbad
    refine vx_widen (k := 1) (n := 6) (Nat.le_of_ble_eq_true rfl) (Nat.le_of_ble_eq_true rfl) ?_
    exact vx_out (fun x h => (htab x h).elim) hlocks h91 h92 h93 (fun t ht hW => ⟨(), trivial, hbad, hS.F ht⟩) hS.2.2 (Nat.le_refl _) (Nat.le_refl _)
  exact absurd hw_2 id

def wb_c_H_value_0 : List Cond := [.code yX11_needType cX11_needType 2 none, .fieldLink RX11 31 "Hornbook" "room" "LHornbook$Room;", .fieldLink RX11 344 "Hornbook$Room" "tellings" "I", .methodLink RX11 116 yX11_needType, .instanceMethod yX11_needType, .selects RX11 yX11_needType yX11_needType, .initialized RX11, .code yX11_needClosed cX11_needClosed 2 none, .code yX7_toldAt cX7_toldAt 2 (some .int), .fieldLink RX7 29 "Hornbook$Room" "tellings" "I", .fieldLink RX7 25 "Hornbook$Room" "told" "[I", .methodLink RX11 123 yX7_toldAt, .instanceMethod yX7_toldAt, .selects RX7 yX7_toldAt yX7_toldAt, .initialized RX7, .code yX11_has cX11_has 3 (some .boolean), .fieldLink RX11 38 "Hornbook" "nodes" "LHornbook$Nodes;", .code yX5_openOf cX5_openOf 2 (some .int), .fieldLink RX5 28 "Hornbook$Nodes" "second" "[J", .fieldLink RX5 24 "Hornbook$Nodes" "first" "[J", .methodLink RX11 367 yX5_openOf, .instanceMethod yX5_openOf, .selects RX5 yX5_openOf yX5_openOf, .initialized RX5, .methodLink RX11 138 yX11_has, .instanceMethod yX11_has, .selects RX11 yX11_has yX11_has, .methodLink RX11 225 yX11_needClosed, .instanceMethod yX11_needClosed, .selects RX11 yX11_needClosed yX11_needClosed, .code yX11_addExpression cX11_addExpression 8 (some .int), .fieldLink RX11 12 "Hornbook" "expressions" "Ljava/util/ArrayList;", .code yJx4a65c_size_8abf5 cJx4a65c_size_8abf5 1 (some .int), .fieldLink RJx4a65c 48 "java/util/ArrayList" "size" "I", .methodLink RX11 73 yJx4a65c_size_8abf5, .instanceMethod yJx4a65c_size_8abf5, .selects RJx4a65c yJx4a65c_size_8abf5 yJx4a65c_size_8abf5, .initialized RJx4a65c, .classLink RX11 235 RX2, .instantiable RX2 15, .initialized RX2, .code yX2_init cX2_init 1 none, .methodLink RX2 3 objectInit, .instanceMethod objectInit, .code objectInit ⟨#[0xb1]⟩ 1 none, .fieldLink RX2 9 "Hornbook$Expression" "result" "I", .fieldLink RX2 15 "Hornbook$Expression" "own" "I", .instanceMethod yX2_init, .fieldLink RX11 284 "Hornbook$Expression" "number" "I", .fieldLink RX11 376 "Hornbook$Expression" "kind" "I", .fieldLink RX11 379 "Hornbook$Expression" "a" "LHornbook$Expression;", .fieldLink RX11 383 "Hornbook$Expression" "b" "LHornbook$Expression;", .fieldLink RX11 386 "Hornbook$Expression" "c" "LHornbook$Expression;", .fieldLink RX11 389 "Hornbook$Expression" "name" "I", .fieldLink RX11 390 "Hornbook$Expression" "told" "I", .code yJx4a65c_add_9ea2d cJx4a65c_add_9ea2d 2 (some .boolean), .sameField "java/util/ArrayList" "java/util/AbstractList" "modCount" "I", .fieldLink RJx4a65c 63 "java/util/ArrayList" "modCount" "I", .fieldLink RJx4a65c 9 "java/util/ArrayList" "elementData" "[Ljava/lang/Object;", .code yJx4a65c_add_72be8 cJx4a65c_add_72be8 4 none, .code yJx4a65c_grow_d5877 cJx4a65c_grow_d5877 1 (some (.array (.object "java/lang/Object"))), .code yJx4a65c_grow_92f84 cJx4a65c_grow_92f84 4 (some (.array (.object "java/lang/Object"))), .fieldLink RJx4a65c 39 "java/util/ArrayList" "DEFAULTCAPACITY_EMPTY_ELEMENTDATA" "[Ljava/lang/Object;", .methodLink RJx4a65c 79 Lib.Math.max.name, .static Lib.Math.max.name, .initialized "java/lang/Math", .code Lib.Math.max.name Lib.Math.max.code 2 (some .int), .classLink RJx4a65c 7 "java/lang/Object", .methodLink RJx4a65c 69 yJx4a65c_grow_92f84, .instanceMethod yJx4a65c_grow_92f84, .selects RJx4a65c yJx4a65c_grow_92f84 yJx4a65c_grow_92f84, .methodLink RJx4a65c 129 yJx4a65c_grow_d5877, .instanceMethod yJx4a65c_grow_d5877, .selects RJx4a65c yJx4a65c_grow_d5877 yJx4a65c_grow_d5877, .methodLink RJx4a65c 131 yJx4a65c_add_72be8, .instanceMethod yJx4a65c_add_72be8, .selects RJx4a65c yJx4a65c_add_72be8 yJx4a65c_add_72be8, .methodLink RX11 108 yJx4a65c_add_9ea2d, .instanceMethod yJx4a65c_add_9ea2d, .selects RJx4a65c yJx4a65c_add_9ea2d yJx4a65c_add_9ea2d, .methodLink RX11 228 yX11_addExpression, .instanceMethod yX11_addExpression, .selects RX11 yX11_addExpression yX11_addExpression] ++ u_ws RJx4a65c TJx4a65c 3 ++ u_ws RX11 TX11 10 ++ u_ws RX2 TX2 15 ++ u_ws RX5 TX5 14 ++ u_ws RX7 TX7 14
def w_c_H_value_0 : List Cond := .code yX11_value cX11_value 2 (some .int) :: wb_c_H_value_0
set_option maxRecDepth 100000 in
theorem g_c_H_value_0_0 : GoodIn w_c_H_value_0 (wsV RX11 116 RX11 yX11_needType w_c_H_needType_ok) := goodIn_app (goodIn_of _ (by decide +kernel)) (goodIn_p (big := w_c_H_value_0) (.code yX11_needType cX11_needType 2 none :: wb_c_H_needType_ok) [1] rfl (by decide +kernel))
set_option maxRecDepth 100000 in
theorem g_c_H_value_0_1 : GoodIn w_c_H_value_0 (wsV RX11 225 RX11 yX11_needClosed w_c_H_closed_0) := goodIn_app (goodIn_of _ (by decide +kernel)) (goodIn_p (big := w_c_H_value_0) (.code yX11_needClosed cX11_needClosed 2 none :: wb_c_H_closed_0) [8, 9, 16, 18] rfl (by decide +kernel))
set_option maxRecDepth 100000 in
theorem g_c_H_value_0_2 : GoodIn w_c_H_value_0 (wsV RX11 123 RX7 yX7_toldAt w_c_R_told_0) := goodIn_app (goodIn_of _ (by decide +kernel)) (goodIn_p (big := w_c_H_value_0) (.code yX7_toldAt cX7_toldAt 2 (some .int) :: wb_c_R_told_0) [9] rfl (by decide +kernel))
set_option maxRecDepth 100000 in
theorem g_c_H_value_0_3 : GoodIn w_c_H_value_0 (wsV RX11 228 RX11 yX11_addExpression w_c_H_addX) := goodIn_app (goodIn_of _ (by decide +kernel)) (goodIn_p (big := w_c_H_value_0) (.code yX11_addExpression cX11_addExpression 8 (some .int) :: wb_c_H_addX) [31, 33, 42, 45, 56, 60, 61, 62, 67] rfl (by decide +kernel))
set_option maxHeartbeats 4000000 in
set_option maxRecDepth 100000 in
theorem c_H_value_0 (l : Launch) (eD eI : Nat) (ad : Nat → Nat) (dC : Nat → ClassId) (dI : Nat → Nat → Nat) (sz : Nat) (hh : Nat) (aexpr : Nat) (achoo : Nat) (ameth : Nat) (aroom : Nat) (anod : Nat) (asort : Nat) (anote : Nat) (amet : Nat) (atold : Nat) (aheld : Nat) (apair : Nat) (astep : Nat) (asize : Nat) (nm : Nat) (nl : Nat) (n1 : Nat) (n2 : Nat) (nf : Nat) (ns : Nat) (nh : Nat) (nk : Nat) (np : Nat) (kI : ClassId) (kL : ClassId) : Met l yX11_value w_c_H_value_0 ({ frames := 6, cells := 2, slots := 25, locals := 128 }) (va_Pc [.ref hh, .int 0] (zPre eD eI ad (dC, dI) [(hh, .inr (13, [.ref aexpr, .ref achoo, .ref ameth, .ref aroom, .ref anod, .ref asort, .ref anote, .ref amet, .int 0, .int 1])), (aroom, .inr (9, [.ref asort, .ref anod, .ref atold, .int 3, .ref aheld, .int 0, .ref apair, .ref astep, .int 0, .int 0, .int (-1), .int 0, .int 0, .ref asize])), (atold, .inl (kI, 60, .inl zTold)), (anod, .inr (7, [.ref nm, .ref nl, .ref n1, .ref n2, .ref nf, .ref ns, .ref nh, .ref nk, .ref np, .int 16, .int 0, .int 16, .int 0, .int 0])), (ns, .inl (kL, 1024, .inr (.inl zSec))), (nf, .inl (kL, 1024, .inr (.inl zFir))), (aexpr, .inr (1, [.int 0, .ref eD, .int 0]))] [(kI, .int), (kL, .long)] sz)) (va_Qi (fun (r : Int32) (_ : Unit) => r = 0) (fun (_ : Unit) => zEnd (dC, dI) (va_A [(hh, .inr (13, [.ref aexpr, .ref achoo, .ref ameth, .ref aroom, .ref anod, .ref asort, .ref anote, .ref amet, .int 0, .int 1])), (aroom, .inr (9, [.ref asort, .ref anod, .ref atold, .int 3, .ref aheld, .int 0, .ref apair, .ref astep, .int 0, .int 0, .int (-1), .int 0, .int 0, .ref asize])), (atold, .inl (kI, 60, .inl zTold)), (anod, .inr (7, [.ref nm, .ref nl, .ref n1, .ref n2, .ref nf, .ref ns, .ref nh, .ref nk, .ref np, .int 16, .int 0, .int 16, .int 0, .int 0])), (ns, .inl (kL, 1024, .inr (.inl zSec))), (nf, .inl (kL, 1024, .inr (.inl zFir))), (aexpr, .inr (1, [.int 0, .ref eD, .int 0]))] sz) [] []) (va_A [(hh, .inr (13, [.ref aexpr, .ref achoo, .ref ameth, .ref aroom, .ref anod, .ref asort, .ref anote, .ref amet, .int 0, .int 1])), (aroom, .inr (9, [.ref asort, .ref anod, .ref atold, .int 3, .ref aheld, .int 0, .ref apair, .ref astep, .int 0, .int 0, .int (-1), .int 0, .int 0, .ref asize])), (atold, .inl (kI, 60, .inl zTold)), (anod, .inr (7, [.ref nm, .ref nl, .ref n1, .ref n2, .ref nf, .ref ns, .ref nh, .ref nk, .ref np, .int 16, .int 0, .int 16, .int 0, .int 0])), (ns, .inl (kL, 1024, .inr (.inl zSec))), (nf, .inl (kL, 1024, .inr (.inl zFir))), (aexpr, .inr (1, [.int 0, .ref eD, .int 0]))] sz)) 2 25 (va_A [(hh, .inr (13, [.ref aexpr, .ref achoo, .ref ameth, .ref aroom, .ref anod, .ref asort, .ref anote, .ref amet, .int 0, .int 1])), (aroom, .inr (9, [.ref asort, .ref anod, .ref atold, .int 3, .ref aheld, .int 0, .ref apair, .ref astep, .int 0, .int 0, .int (-1), .int 0, .int 0, .ref asize])), (atold, .inl (kI, 60, .inl zTold)), (anod, .inr (7, [.ref nm, .ref nl, .ref n1, .ref n2, .ref nf, .ref ns, .ref nh, .ref nk, .ref np, .int 16, .int 0, .int 16, .int 0, .int 0])), (ns, .inl (kL, 1024, .inr (.inl zSec))), (nf, .inl (kL, 1024, .inr (.inl zFir))), (aexpr, .inr (1, [.int 0, .ref eD, .int 0]))] sz) := by
  refine Met.ofW (cc := cX11_value) (maxL := 2) (ret := (some .int)) (by decide) rfl ?_
  intro p e s m args below meth c s₁ B hml hv
  obtain ⟨rfl, hsz, hP, hK, hD0, hE⟩ := hv
  have hx := B.exec
  have hb := B.bytes
  have hr := B.returns
  have hts := atoms_spec (ws := w_c_H_value_0) B.pre
  have hown : s.vm.findClass RX11 = some m.cls := findClass_of_methodNamed B.named
  have hlocks := B.notSynchronized
  subst hsz
  have hD := hD0.self (sz := s.heap.size)
  generalize hAe : va_A [(hh, .inr (13, [.ref aexpr, .ref achoo, .ref ameth, .ref aroom, .ref anod, .ref asort, .ref anote, .ref amet, .int 0, .int 1])), (aroom, .inr (9, [.ref asort, .ref anod, .ref atold, .int 3, .ref aheld, .int 0, .ref apair, .ref astep, .int 0, .int 0, .int (-1), .int 0, .int 0, .ref asize])), (atold, .inl (kI, 60, .inl zTold)), (anod, .inr (7, [.ref nm, .ref nl, .ref n1, .ref n2, .ref nf, .ref ns, .ref nh, .ref nk, .ref np, .int 16, .int 0, .int 16, .int 0, .int 0])), (ns, .inl (kL, 1024, .inr (.inl zSec))), (nf, .inl (kL, 1024, .inr (.inl zFir))), (aexpr, .inr (1, [.int 0, .ref eD, .int 0]))] s.heap.size = A at hD hE ⊢
  have hA : ∀ q : Nat, s.heap.size ≤ q → A q := fun q h => by rw [← hAe]; exact Or.inr h
  have hS : va_S A s.heap s.heap [] := va_S.rf
  have hP : va_P (dC, dI) vwCl [(hh, .inr (13, [.ref aexpr, .ref achoo, .ref ameth, .ref aroom, .ref anod, .ref asort, .ref anote, .ref amet, .int 0, .int 1])), (aroom, .inr (9, [.ref asort, .ref anod, .ref atold, .int 3, .ref aheld, .int 0, .ref apair, .ref astep, .int 0, .int 0, .int (-1), .int 0, .int 0, .ref asize])), (atold, .inl (kI, 60, .inl zTold)), (anod, .inr (7, [.ref nm, .ref nl, .ref n1, .ref n2, .ref nf, .ref ns, .ref nh, .ref nk, .ref np, .int 16, .int 0, .int 16, .int 0, .int 0])), (ns, .inl (kL, 1024, .inr (.inl zSec))), (nf, .inl (kL, 1024, .inr (.inl zFir))), (aexpr, .inr (1, [.int 0, .ref eD, .int 0]))] s.heap := hP
  have hl := lv_entry ([.ref hh, .int 0]) (n := 2) (Nat.le_of_ble_eq_true rfl)
  rw [lg_entry_eq]
  generalize (lg_sl ([.ref hh, .int 0]) ++ List.replicate (2 - (lg_sl ([.ref hh, .int 0])).length) Slot.unset).toArray = ls at hl ⊢
  have hl : lv_has ls 2 [(0, .ref hh), (1, .int 0)] := hl
  have in_RJx4a65c : ∀ w ∈ u_ws RJx4a65c TJx4a65c 3, w ∈ w_c_H_value_0 := by decide +kernel
  have in_RX11 : ∀ w ∈ u_ws RX11 TX11 10, w ∈ w_c_H_value_0 := by decide +kernel
  have in_RX2 : ∀ w ∈ u_ws RX2 TX2 15, w ∈ w_c_H_value_0 := by decide +kernel
  have in_RX5 : ∀ w ∈ u_ws RX5 TX5 14, w ∈ w_c_H_value_0 := by decide +kernel
  have in_RX7 : ∀ w ∈ u_ws RX7 TX7 14, w ∈ w_c_H_value_0 := by decide +kernel
  refine lv_aload_n hx hb dX11_value_0 rfl (lv_at hl 0 rfl) ?_
  refine lv_iload_n hx hb dX11_value_1 rfl (lv_at hl 1 rfl) ?_
  refine z_v (wr := [(atold, .inl (kI, 60, .inl zTold)), (anod, .inr (7, [.ref nm, .ref nl, .ref n1, .ref n2, .ref nf, .ref ns, .ref nh, .ref nk, .ref np, .int 16, .int 0, .int 16, .int 0, .int 0])), (ns, .inl (kL, 1024, .inr (.inl zSec))), (nf, .inl (kL, 1024, .inr (.inl zFir))), (aexpr, .inr (1, [.int 0, .ref eD, .int 0]))]) (va_runV (As := [.int 0]) (rest := []) ⟨hx, hb, hml, hown, hts⟩ (c_H_needType_ok l eD eI ad dC dI s.heap.size hh aexpr achoo ameth aroom anod asort anote amet atold aheld apair astep asize 0 (by decide) (by decide)) (cwV 1 hts g_c_H_value_0_0 rfl rfl rfl (by decide +kernel) ⟨Nat.le_of_ble_eq_true rfl, Nat.le_of_ble_eq_true rfl⟩) (z_preV (wc := [(hh, .inr (13, [.ref aexpr, .ref achoo, .ref ameth, .ref aroom, .ref anod, .ref asort, .ref anote, .ref amet, .int 0, .int 1])), (aroom, .inr (9, [.ref asort, .ref anod, .ref atold, .int 3, .ref aheld, .int 0, .ref apair, .ref astep, .int 0, .int 0, .int (-1), .int 0, .int 0, .ref asize]))]) hP hD hK hS hA hE [0, 1] [] rfl (by decide) rfl (ci := 13) (q0 := 0) rfl rfl) rfl rfl hl.1 rfl (lv_room (Nat.le_of_ble_eq_true rfl)) dX11_value_2 ⟨Nat.le_of_ble_eq_true rfl, Nat.le_of_ble_eq_true rfl⟩) hP hD hK hS hA [0, 1] [2, 3, 4, 5, 6] rfl rfl (by decide) (by decide) (fun u H locs hw_2 hP hD hK hS => ?_)
  obtain ⟨⟩ := u
  have hP : va_P (dC, dI) vwCl [(atold, .inl (kI, 60, .inl zTold)), (anod, .inr (7, [.ref nm, .ref nl, .ref n1, .ref n2, .ref nf, .ref ns, .ref nh, .ref nk, .ref np, .int 16, .int 0, .int 16, .int 0, .int 0])), (ns, .inl (kL, 1024, .inr (.inl zSec))), (nf, .inl (kL, 1024, .inr (.inl zFir))), (aexpr, .inr (1, [.int 0, .ref eD, .int 0])), (hh, .inr (13, [.ref aexpr, .ref achoo, .ref ameth, .ref aroom, .ref anod, .ref asort, .ref anote, .ref amet, .int 0, .int 1])), (aroom, .inr (9, [.ref asort, .ref anod, .ref atold, .int 3, .ref aheld, .int 0, .ref apair, .ref astep, .int 0, .int 0, .int (-1), .int 0, .int 0, .ref asize]))] H := hP
  have hD : va_D A [(atold, .inl (kI, 60, .inl zTold)), (anod, .inr (7, [.ref nm, .ref nl, .ref n1, .ref n2, .ref nf, .ref ns, .ref nh, .ref nk, .ref np, .int 16, .int 0, .int 16, .int 0, .int 0])), (ns, .inl (kL, 1024, .inr (.inl zSec))), (nf, .inl (kL, 1024, .inr (.inl zFir))), (aexpr, .inr (1, [.int 0, .ref eD, .int 0])), (hh, .inr (13, [.ref aexpr, .ref achoo, .ref ameth, .ref aroom, .ref anod, .ref asort, .ref anote, .ref amet, .int 0, .int 1])), (aroom, .inr (9, [.ref asort, .ref anod, .ref atold, .int 3, .ref aheld, .int 0, .ref apair, .ref astep, .int 0, .int 0, .int (-1), .int 0, .int 0, .ref asize]))] := hD
  have hK : va_K (dC, dI) vwCl [(kI, .int), (kL, .long)] s := by simpa using hK
  refine lv_aload_n hx hb dX11_value_5 rfl (lv_at hl 0 rfl) ?_
  refine lv_iload_n hx hb dX11_value_6 rfl (lv_at hl 1 rfl) ?_
  refine z_v (wr := [(aexpr, .inr (1, [.int 0, .ref eD, .int 0]))]) (va_runV (As := [.int 0]) (rest := []) ⟨hx, hb, hml, hown, hts⟩ (c_H_closed_0 l eD eI ad dC dI H.size hh aexpr achoo ameth aroom anod asort anote amet atold aheld apair astep asize nm nl n1 n2 nf ns nh nk np kI kL) (cwV 1 hts g_c_H_value_0_1 rfl rfl rfl (by decide +kernel) ⟨Nat.le_of_ble_eq_true rfl, Nat.le_of_ble_eq_true rfl⟩) (z_preV (wc := [(hh, .inr (13, [.ref aexpr, .ref achoo, .ref ameth, .ref aroom, .ref anod, .ref asort, .ref anote, .ref amet, .int 0, .int 1])), (aroom, .inr (9, [.ref asort, .ref anod, .ref atold, .int 3, .ref aheld, .int 0, .ref apair, .ref astep, .int 0, .int 0, .int (-1), .int 0, .int 0, .ref asize])), (atold, .inl (kI, 60, .inl zTold)), (anod, .inr (7, [.ref nm, .ref nl, .ref n1, .ref n2, .ref nf, .ref ns, .ref nh, .ref nk, .ref np, .int 16, .int 0, .int 16, .int 0, .int 0])), (ns, .inl (kL, 1024, .inr (.inl zSec))), (nf, .inl (kL, 1024, .inr (.inl zFir)))]) hP hD hK hS hA hE [5, 6, 0, 1, 2, 3] [0, 1] rfl (by decide) rfl (ci := 13) (q0 := 0) rfl rfl) rfl rfl hl.1 rfl (lv_room (Nat.le_of_ble_eq_true rfl)) dX11_value_7 ⟨Nat.le_of_ble_eq_true rfl, Nat.le_of_ble_eq_true rfl⟩) hP hD hK hS hA [5, 6, 0, 1, 2, 3] [4] rfl rfl (by decide) (by decide) (fun u H locs hw_4 hP hD hK hS => ?_)
  obtain ⟨⟩ := u
  have hP : va_P (dC, dI) vwCl [(aexpr, .inr (1, [.int 0, .ref eD, .int 0])), (hh, .inr (13, [.ref aexpr, .ref achoo, .ref ameth, .ref aroom, .ref anod, .ref asort, .ref anote, .ref amet, .int 0, .int 1])), (aroom, .inr (9, [.ref asort, .ref anod, .ref atold, .int 3, .ref aheld, .int 0, .ref apair, .ref astep, .int 0, .int 0, .int (-1), .int 0, .int 0, .ref asize])), (atold, .inl (kI, 60, .inl zTold)), (anod, .inr (7, [.ref nm, .ref nl, .ref n1, .ref n2, .ref nf, .ref ns, .ref nh, .ref nk, .ref np, .int 16, .int 0, .int 16, .int 0, .int 0])), (ns, .inl (kL, 1024, .inr (.inl zSec))), (nf, .inl (kL, 1024, .inr (.inl zFir)))] H := hP
  have hD : va_D A [(aexpr, .inr (1, [.int 0, .ref eD, .int 0])), (hh, .inr (13, [.ref aexpr, .ref achoo, .ref ameth, .ref aroom, .ref anod, .ref asort, .ref anote, .ref amet, .int 0, .int 1])), (aroom, .inr (9, [.ref asort, .ref anod, .ref atold, .int 3, .ref aheld, .int 0, .ref apair, .ref astep, .int 0, .int 0, .int (-1), .int 0, .int 0, .ref asize])), (atold, .inl (kI, 60, .inl zTold)), (anod, .inr (7, [.ref nm, .ref nl, .ref n1, .ref n2, .ref nf, .ref ns, .ref nh, .ref nk, .ref np, .int 16, .int 0, .int 16, .int 0, .int 0])), (ns, .inl (kL, 1024, .inr (.inl zSec))), (nf, .inl (kL, 1024, .inr (.inl zFir)))] := hD
  have hK : va_K (dC, dI) vwCl [(kI, .int), (kL, .long), (kI, .int), (kL, .long)] s := hK
  refine lv_aload_n hx hb dX11_value_10 rfl (lv_at hl 0 rfl) ?_
  refine lv_iconst (v := 0) hx hb dX11_value_11 (by decide) ?_
  refine lv_null hx hb dX11_value_12 ?_
  refine lv_null hx hb dX11_value_13 ?_
  refine lv_null hx hb dX11_value_14 ?_
  refine lv_iconst (v := 0) hx hb dX11_value_15 (by decide) ?_
  refine lv_aload_n hx hb dX11_value_16 rfl (lv_at hl 0 rfl) ?_
  refine va_get (D := (dC, dI)) (ci := 13) (v := .ref aroom) (C := RX11) (T := TX11) (N := 10) hx hb hts in_RX11 hown hK hP 1 rfl rfl 3 (by decide) (hts (.fieldLink RX11 31 "Hornbook" "room" "LHornbook$Room;") (by decide +kernel)) (fun _ h9 => h9) rfl dX11_value_17 ?_
  refine lv_iload_n hx hb dX11_value_20 rfl (lv_at hl 1 rfl) ?_
  refine z_i (wr := [(aexpr, .inr (1, [.int 0, .ref eD, .int 0])), (hh, .inr (13, [.ref aexpr, .ref achoo, .ref ameth, .ref aroom, .ref anod, .ref asort, .ref anote, .ref amet, .int 0, .int 1])), (anod, .inr (7, [.ref nm, .ref nl, .ref n1, .ref n2, .ref nf, .ref ns, .ref nh, .ref nk, .ref np, .int 16, .int 0, .int 16, .int 0, .int 0])), (ns, .inl (kL, 1024, .inr (.inl zSec))), (nf, .inl (kL, 1024, .inr (.inl zFir)))]) (va_runV (As := [.int 0]) (rest := [.int 0, .null, .null, .null, .int 0, .ref hh]) ⟨hx, hb, hml, hown, hts⟩ (c_R_told_0 l eD eI ad dC dI H.size aroom anod asort atold aheld apair astep asize kI) (cwV 1 hts g_c_H_value_0_2 rfl rfl rfl (by decide +kernel) ⟨Nat.le_of_ble_eq_true rfl, Nat.le_of_ble_eq_true rfl⟩) (z_preV (wc := [(aroom, .inr (9, [.ref asort, .ref anod, .ref atold, .int 3, .ref aheld, .int 0, .ref apair, .ref astep, .int 0, .int 0, .int (-1), .int 0, .int 0, .ref asize])), (atold, .inl (kI, 60, .inl zTold))]) hP hD hK hS hA hE [2, 3] [0] rfl (by decide) rfl (ci := 9) (q0 := 0) rfl rfl) rfl rfl hl.1 rfl (lv_room (Nat.le_of_ble_eq_true rfl)) dX11_value_21 ⟨Nat.le_of_ble_eq_true rfl, Nat.le_of_ble_eq_true rfl⟩) hP hD hK hS hA [2, 3] [0, 1, 4, 5, 6] rfl rfl (by decide) (by decide) (fun r_5 u H locs hw_6 hP hD hK hS => ?_)
  obtain ⟨⟩ := u
  have hP : va_P (dC, dI) vwCl [(aexpr, .inr (1, [.int 0, .ref eD, .int 0])), (hh, .inr (13, [.ref aexpr, .ref achoo, .ref ameth, .ref aroom, .ref anod, .ref asort, .ref anote, .ref amet, .int 0, .int 1])), (anod, .inr (7, [.ref nm, .ref nl, .ref n1, .ref n2, .ref nf, .ref ns, .ref nh, .ref nk, .ref np, .int 16, .int 0, .int 16, .int 0, .int 0])), (ns, .inl (kL, 1024, .inr (.inl zSec))), (nf, .inl (kL, 1024, .inr (.inl zFir))), (aroom, .inr (9, [.ref asort, .ref anod, .ref atold, .int 3, .ref aheld, .int 0, .ref apair, .ref astep, .int 0, .int 0, .int (-1), .int 0, .int 0, .ref asize])), (atold, .inl (kI, 60, .inl zTold))] H := hP
  have hD : va_D A [(aexpr, .inr (1, [.int 0, .ref eD, .int 0])), (hh, .inr (13, [.ref aexpr, .ref achoo, .ref ameth, .ref aroom, .ref anod, .ref asort, .ref anote, .ref amet, .int 0, .int 1])), (anod, .inr (7, [.ref nm, .ref nl, .ref n1, .ref n2, .ref nf, .ref ns, .ref nh, .ref nk, .ref np, .int 16, .int 0, .int 16, .int 0, .int 0])), (ns, .inl (kL, 1024, .inr (.inl zSec))), (nf, .inl (kL, 1024, .inr (.inl zFir))), (aroom, .inr (9, [.ref asort, .ref anod, .ref atold, .int 3, .ref aheld, .int 0, .ref apair, .ref astep, .int 0, .int 0, .int (-1), .int 0, .int 0, .ref asize])), (atold, .inl (kI, 60, .inl zTold))] := hD
  have hK : va_K (dC, dI) vwCl [(kI, .int), (kL, .long), (kI, .int), (kL, .long), (kI, .int)] s := hK
  have hw_6 : r_5 = 0 := hw_6
  have hw_6 := hw_6.symm
  subst hw_6
  refine z_i (wr := [(anod, .inr (7, [.ref nm, .ref nl, .ref n1, .ref n2, .ref nf, .ref ns, .ref nh, .ref nk, .ref np, .int 16, .int 0, .int 16, .int 0, .int 0])), (ns, .inl (kL, 1024, .inr (.inl zSec))), (nf, .inl (kL, 1024, .inr (.inl zFir))), (aroom, .inr (9, [.ref asort, .ref anod, .ref atold, .int 3, .ref aheld, .int 0, .ref apair, .ref astep, .int 0, .int 0, .int (-1), .int 0, .int 0, .ref asize])), (atold, .inl (kI, 60, .inl zTold))]) (va_runV (As := [.int 0, .null, .null, .null, .int 0, .int 0]) (rest := []) ⟨hx, hb, hml, hown, hts⟩ (c_H_addX l eD eI ad dC dI H.size hh aexpr achoo ameth aroom anod asort anote amet 0) (cwV 6 hts g_c_H_value_0_3 rfl rfl rfl (by decide +kernel) ⟨Nat.le_of_ble_eq_true rfl, Nat.le_of_ble_eq_true rfl⟩) (z_preV (wc := [(hh, .inr (13, [.ref aexpr, .ref achoo, .ref ameth, .ref aroom, .ref anod, .ref asort, .ref anote, .ref amet, .int 0, .int 1])), (aexpr, .inr (1, [.int 0, .ref eD, .int 0]))]) hP hD hK hS hA hE [1, 0] [] rfl (by decide) rfl (ci := 13) (q0 := 0) rfl rfl) rfl rfl hl.1 rfl (lv_room (Nat.le_of_ble_eq_true rfl)) dX11_value_24 ⟨Nat.le_of_ble_eq_true rfl, Nat.le_of_ble_eq_true rfl⟩) hP hD hK hS hA [1, 0] [2, 3, 4, 5, 6] rfl rfl (by decide) (by decide) (fun r_7 u H locs hw_8 hP hD hK hS => ?_)
  obtain ⟨⟩ := u
  have hP : va_P (dC, dI) vwCl [(anod, .inr (7, [.ref nm, .ref nl, .ref n1, .ref n2, .ref nf, .ref ns, .ref nh, .ref nk, .ref np, .int 16, .int 0, .int 16, .int 0, .int 0])), (ns, .inl (kL, 1024, .inr (.inl zSec))), (nf, .inl (kL, 1024, .inr (.inl zFir))), (aroom, .inr (9, [.ref asort, .ref anod, .ref atold, .int 3, .ref aheld, .int 0, .ref apair, .ref astep, .int 0, .int 0, .int (-1), .int 0, .int 0, .ref asize])), (atold, .inl (kI, 60, .inl zTold))] H := hP
  have hD : va_D A [(anod, .inr (7, [.ref nm, .ref nl, .ref n1, .ref n2, .ref nf, .ref ns, .ref nh, .ref nk, .ref np, .int 16, .int 0, .int 16, .int 0, .int 0])), (ns, .inl (kL, 1024, .inr (.inl zSec))), (nf, .inl (kL, 1024, .inr (.inl zFir))), (aroom, .inr (9, [.ref asort, .ref anod, .ref atold, .int 3, .ref aheld, .int 0, .ref apair, .ref astep, .int 0, .int 0, .int (-1), .int 0, .int 0, .ref asize])), (atold, .inl (kI, 60, .inl zTold))] := hD
  have hK : va_K (dC, dI) vwCl [(kI, .int), (kL, .long), (kI, .int), (kL, .long), (kI, .int)] s := by simpa using hK
  have hw_8 : r_7 = 0 := hw_8
  have hw_8 := hw_8.symm
  subst hw_8
  have hP9 := hP.sub (ws' := []) [] rfl
  have hD9 := hD.sub (ws' := []) [] (by decide) rfl
  have hK9 := hK.sub (tys' := []) [] rfl
  refine W.widen (k := 2) (n := 25) (Nat.le_of_ble_eq_true rfl) (Nat.le_of_ble_eq_true rfl) ?_
  exact W.iret (v := 0) hx hb hr (fun t ht hW => ⟨⟨0, (), rfl, rfl, ⟨by rw [ht]; exact hP9, va_K.moved hW.alike hK9, hD9⟩⟩, hS.F ht⟩) hS.2.2 dX11_value_27

def wb_c_H_value_1 : List Cond := [.code yX11_needType cX11_needType 2 none, .fieldLink RX11 31 "Hornbook" "room" "LHornbook$Room;", .fieldLink RX11 344 "Hornbook$Room" "tellings" "I", .methodLink RX11 116 yX11_needType, .instanceMethod yX11_needType, .selects RX11 yX11_needType yX11_needType, .initialized RX11, .code yX11_needClosed cX11_needClosed 2 none, .code yX7_toldAt cX7_toldAt 2 (some .int), .fieldLink RX7 29 "Hornbook$Room" "tellings" "I", .fieldLink RX7 25 "Hornbook$Room" "told" "[I", .methodLink RX11 123 yX7_toldAt, .instanceMethod yX7_toldAt, .selects RX7 yX7_toldAt yX7_toldAt, .initialized RX7, .code yX11_has cX11_has 3 (some .boolean), .fieldLink RX11 38 "Hornbook" "nodes" "LHornbook$Nodes;", .code yX5_openOf cX5_openOf 2 (some .int), .fieldLink RX5 28 "Hornbook$Nodes" "second" "[J", .fieldLink RX5 24 "Hornbook$Nodes" "first" "[J", .methodLink RX11 367 yX5_openOf, .instanceMethod yX5_openOf, .selects RX5 yX5_openOf yX5_openOf, .initialized RX5, .methodLink RX11 138 yX11_has, .instanceMethod yX11_has, .selects RX11 yX11_has yX11_has, .methodLink RX11 225 yX11_needClosed, .instanceMethod yX11_needClosed, .selects RX11 yX11_needClosed yX11_needClosed, .code yX11_addExpression cX11_addExpression 8 (some .int), .fieldLink RX11 12 "Hornbook" "expressions" "Ljava/util/ArrayList;", .code yJx4a65c_size_8abf5 cJx4a65c_size_8abf5 1 (some .int), .fieldLink RJx4a65c 48 "java/util/ArrayList" "size" "I", .methodLink RX11 73 yJx4a65c_size_8abf5, .instanceMethod yJx4a65c_size_8abf5, .selects RJx4a65c yJx4a65c_size_8abf5 yJx4a65c_size_8abf5, .initialized RJx4a65c, .classLink RX11 235 RX2, .instantiable RX2 15, .initialized RX2, .code yX2_init cX2_init 1 none, .methodLink RX2 3 objectInit, .instanceMethod objectInit, .code objectInit ⟨#[0xb1]⟩ 1 none, .fieldLink RX2 9 "Hornbook$Expression" "result" "I", .fieldLink RX2 15 "Hornbook$Expression" "own" "I", .instanceMethod yX2_init, .fieldLink RX11 284 "Hornbook$Expression" "number" "I", .fieldLink RX11 376 "Hornbook$Expression" "kind" "I", .fieldLink RX11 379 "Hornbook$Expression" "a" "LHornbook$Expression;", .fieldLink RX11 383 "Hornbook$Expression" "b" "LHornbook$Expression;", .fieldLink RX11 386 "Hornbook$Expression" "c" "LHornbook$Expression;", .fieldLink RX11 389 "Hornbook$Expression" "name" "I", .fieldLink RX11 390 "Hornbook$Expression" "told" "I", .code yJx4a65c_add_9ea2d cJx4a65c_add_9ea2d 2 (some .boolean), .sameField "java/util/ArrayList" "java/util/AbstractList" "modCount" "I", .fieldLink RJx4a65c 63 "java/util/ArrayList" "modCount" "I", .fieldLink RJx4a65c 9 "java/util/ArrayList" "elementData" "[Ljava/lang/Object;", .code yJx4a65c_add_72be8 cJx4a65c_add_72be8 4 none, .code yJx4a65c_grow_d5877 cJx4a65c_grow_d5877 1 (some (.array (.object "java/lang/Object"))), .code yJx4a65c_grow_92f84 cJx4a65c_grow_92f84 4 (some (.array (.object "java/lang/Object"))), .fieldLink RJx4a65c 39 "java/util/ArrayList" "DEFAULTCAPACITY_EMPTY_ELEMENTDATA" "[Ljava/lang/Object;", .methodLink RJx4a65c 79 Lib.Math.max.name, .static Lib.Math.max.name, .initialized "java/lang/Math", .code Lib.Math.max.name Lib.Math.max.code 2 (some .int), .classLink RJx4a65c 7 "java/lang/Object", .methodLink RJx4a65c 69 yJx4a65c_grow_92f84, .instanceMethod yJx4a65c_grow_92f84, .selects RJx4a65c yJx4a65c_grow_92f84 yJx4a65c_grow_92f84, .methodLink RJx4a65c 129 yJx4a65c_grow_d5877, .instanceMethod yJx4a65c_grow_d5877, .selects RJx4a65c yJx4a65c_grow_d5877 yJx4a65c_grow_d5877, .methodLink RJx4a65c 131 yJx4a65c_add_72be8, .instanceMethod yJx4a65c_add_72be8, .selects RJx4a65c yJx4a65c_add_72be8 yJx4a65c_add_72be8, .methodLink RX11 108 yJx4a65c_add_9ea2d, .instanceMethod yJx4a65c_add_9ea2d, .selects RJx4a65c yJx4a65c_add_9ea2d yJx4a65c_add_9ea2d, .methodLink RX11 228 yX11_addExpression, .instanceMethod yX11_addExpression, .selects RX11 yX11_addExpression yX11_addExpression] ++ u_ws RJx4a65c TJx4a65c 3 ++ u_ws RX11 TX11 10 ++ u_ws RX2 TX2 15 ++ u_ws RX5 TX5 14 ++ u_ws RX7 TX7 14
def w_c_H_value_1 : List Cond := .code yX11_value cX11_value 2 (some .int) :: wb_c_H_value_1
set_option maxRecDepth 100000 in
theorem g_c_H_value_1_0 : GoodIn w_c_H_value_1 (wsV RX11 116 RX11 yX11_needType w_c_H_needType_ok) := goodIn_app (goodIn_of _ (by decide +kernel)) (goodIn_p (big := w_c_H_value_1) (.code yX11_needType cX11_needType 2 none :: wb_c_H_needType_ok) [1] rfl (by decide +kernel))
set_option maxRecDepth 100000 in
theorem g_c_H_value_1_1 : GoodIn w_c_H_value_1 (wsV RX11 225 RX11 yX11_needClosed w_c_H_closed_1) := goodIn_app (goodIn_of _ (by decide +kernel)) (goodIn_p (big := w_c_H_value_1) (.code yX11_needClosed cX11_needClosed 2 none :: wb_c_H_closed_1) [8, 9, 16, 18] rfl (by decide +kernel))
set_option maxRecDepth 100000 in
theorem g_c_H_value_1_2 : GoodIn w_c_H_value_1 (wsV RX11 123 RX7 yX7_toldAt w_c_R_told_1) := goodIn_app (goodIn_of _ (by decide +kernel)) (goodIn_p (big := w_c_H_value_1) (.code yX7_toldAt cX7_toldAt 2 (some .int) :: wb_c_R_told_1) [9] rfl (by decide +kernel))
set_option maxRecDepth 100000 in
theorem g_c_H_value_1_3 : GoodIn w_c_H_value_1 (wsV RX11 228 RX11 yX11_addExpression w_c_H_addX) := goodIn_app (goodIn_of _ (by decide +kernel)) (goodIn_p (big := w_c_H_value_1) (.code yX11_addExpression cX11_addExpression 8 (some .int) :: wb_c_H_addX) [31, 33, 42, 45, 56, 60, 61, 62, 67] rfl (by decide +kernel))
set_option maxHeartbeats 4000000 in
set_option maxRecDepth 100000 in
theorem c_H_value_1 (l : Launch) (eD eI : Nat) (ad : Nat → Nat) (dC : Nat → ClassId) (dI : Nat → Nat → Nat) (sz : Nat) (hh : Nat) (aexpr : Nat) (achoo : Nat) (ameth : Nat) (aroom : Nat) (anod : Nat) (asort : Nat) (anote : Nat) (amet : Nat) (atold : Nat) (aheld : Nat) (apair : Nat) (astep : Nat) (asize : Nat) (nm : Nat) (nl : Nat) (n1 : Nat) (n2 : Nat) (nf : Nat) (ns : Nat) (nh : Nat) (nk : Nat) (np : Nat) (kI : ClassId) (kL : ClassId) : Met l yX11_value w_c_H_value_1 ({ frames := 6, cells := 2, slots := 25, locals := 128 }) (va_Pc [.ref hh, .int 1] (zPre eD eI ad (dC, dI) [(hh, .inr (13, [.ref aexpr, .ref achoo, .ref ameth, .ref aroom, .ref anod, .ref asort, .ref anote, .ref amet, .int 0, .int 1])), (aroom, .inr (9, [.ref asort, .ref anod, .ref atold, .int 3, .ref aheld, .int 0, .ref apair, .ref astep, .int 0, .int 0, .int (-1), .int 0, .int 0, .ref asize])), (atold, .inl (kI, 60, .inl zTold)), (anod, .inr (7, [.ref nm, .ref nl, .ref n1, .ref n2, .ref nf, .ref ns, .ref nh, .ref nk, .ref np, .int 16, .int 0, .int 16, .int 0, .int 0])), (ns, .inl (kL, 1024, .inr (.inl zSec))), (nf, .inl (kL, 1024, .inr (.inl zFir))), (aexpr, .inr (1, [.int 0, .ref eD, .int 0]))] [(kI, .int), (kL, .long)] sz)) (va_Qi (fun (r : Int32) (_ : Unit) => r = 0) (fun (_ : Unit) => zEnd (dC, dI) (va_A [(hh, .inr (13, [.ref aexpr, .ref achoo, .ref ameth, .ref aroom, .ref anod, .ref asort, .ref anote, .ref amet, .int 0, .int 1])), (aroom, .inr (9, [.ref asort, .ref anod, .ref atold, .int 3, .ref aheld, .int 0, .ref apair, .ref astep, .int 0, .int 0, .int (-1), .int 0, .int 0, .ref asize])), (atold, .inl (kI, 60, .inl zTold)), (anod, .inr (7, [.ref nm, .ref nl, .ref n1, .ref n2, .ref nf, .ref ns, .ref nh, .ref nk, .ref np, .int 16, .int 0, .int 16, .int 0, .int 0])), (ns, .inl (kL, 1024, .inr (.inl zSec))), (nf, .inl (kL, 1024, .inr (.inl zFir))), (aexpr, .inr (1, [.int 0, .ref eD, .int 0]))] sz) [] []) (va_A [(hh, .inr (13, [.ref aexpr, .ref achoo, .ref ameth, .ref aroom, .ref anod, .ref asort, .ref anote, .ref amet, .int 0, .int 1])), (aroom, .inr (9, [.ref asort, .ref anod, .ref atold, .int 3, .ref aheld, .int 0, .ref apair, .ref astep, .int 0, .int 0, .int (-1), .int 0, .int 0, .ref asize])), (atold, .inl (kI, 60, .inl zTold)), (anod, .inr (7, [.ref nm, .ref nl, .ref n1, .ref n2, .ref nf, .ref ns, .ref nh, .ref nk, .ref np, .int 16, .int 0, .int 16, .int 0, .int 0])), (ns, .inl (kL, 1024, .inr (.inl zSec))), (nf, .inl (kL, 1024, .inr (.inl zFir))), (aexpr, .inr (1, [.int 0, .ref eD, .int 0]))] sz)) 2 25 (va_A [(hh, .inr (13, [.ref aexpr, .ref achoo, .ref ameth, .ref aroom, .ref anod, .ref asort, .ref anote, .ref amet, .int 0, .int 1])), (aroom, .inr (9, [.ref asort, .ref anod, .ref atold, .int 3, .ref aheld, .int 0, .ref apair, .ref astep, .int 0, .int 0, .int (-1), .int 0, .int 0, .ref asize])), (atold, .inl (kI, 60, .inl zTold)), (anod, .inr (7, [.ref nm, .ref nl, .ref n1, .ref n2, .ref nf, .ref ns, .ref nh, .ref nk, .ref np, .int 16, .int 0, .int 16, .int 0, .int 0])), (ns, .inl (kL, 1024, .inr (.inl zSec))), (nf, .inl (kL, 1024, .inr (.inl zFir))), (aexpr, .inr (1, [.int 0, .ref eD, .int 0]))] sz) := by
  refine Met.ofW (cc := cX11_value) (maxL := 2) (ret := (some .int)) (by decide) rfl ?_
  intro p e s m args below meth c s₁ B hml hv
  obtain ⟨rfl, hsz, hP, hK, hD0, hE⟩ := hv
  have hx := B.exec
  have hb := B.bytes
  have hr := B.returns
  have hts := atoms_spec (ws := w_c_H_value_1) B.pre
  have hown : s.vm.findClass RX11 = some m.cls := findClass_of_methodNamed B.named
  have hlocks := B.notSynchronized
  subst hsz
  have hD := hD0.self (sz := s.heap.size)
  generalize hAe : va_A [(hh, .inr (13, [.ref aexpr, .ref achoo, .ref ameth, .ref aroom, .ref anod, .ref asort, .ref anote, .ref amet, .int 0, .int 1])), (aroom, .inr (9, [.ref asort, .ref anod, .ref atold, .int 3, .ref aheld, .int 0, .ref apair, .ref astep, .int 0, .int 0, .int (-1), .int 0, .int 0, .ref asize])), (atold, .inl (kI, 60, .inl zTold)), (anod, .inr (7, [.ref nm, .ref nl, .ref n1, .ref n2, .ref nf, .ref ns, .ref nh, .ref nk, .ref np, .int 16, .int 0, .int 16, .int 0, .int 0])), (ns, .inl (kL, 1024, .inr (.inl zSec))), (nf, .inl (kL, 1024, .inr (.inl zFir))), (aexpr, .inr (1, [.int 0, .ref eD, .int 0]))] s.heap.size = A at hD hE ⊢
  have hA : ∀ q : Nat, s.heap.size ≤ q → A q := fun q h => by rw [← hAe]; exact Or.inr h
  have hS : va_S A s.heap s.heap [] := va_S.rf
  have hP : va_P (dC, dI) vwCl [(hh, .inr (13, [.ref aexpr, .ref achoo, .ref ameth, .ref aroom, .ref anod, .ref asort, .ref anote, .ref amet, .int 0, .int 1])), (aroom, .inr (9, [.ref asort, .ref anod, .ref atold, .int 3, .ref aheld, .int 0, .ref apair, .ref astep, .int 0, .int 0, .int (-1), .int 0, .int 0, .ref asize])), (atold, .inl (kI, 60, .inl zTold)), (anod, .inr (7, [.ref nm, .ref nl, .ref n1, .ref n2, .ref nf, .ref ns, .ref nh, .ref nk, .ref np, .int 16, .int 0, .int 16, .int 0, .int 0])), (ns, .inl (kL, 1024, .inr (.inl zSec))), (nf, .inl (kL, 1024, .inr (.inl zFir))), (aexpr, .inr (1, [.int 0, .ref eD, .int 0]))] s.heap := hP
  have hl := lv_entry ([.ref hh, .int 1]) (n := 2) (Nat.le_of_ble_eq_true rfl)
  rw [lg_entry_eq]
  generalize (lg_sl ([.ref hh, .int 1]) ++ List.replicate (2 - (lg_sl ([.ref hh, .int 1])).length) Slot.unset).toArray = ls at hl ⊢
  have hl : lv_has ls 2 [(0, .ref hh), (1, .int 1)] := hl
  have in_RJx4a65c : ∀ w ∈ u_ws RJx4a65c TJx4a65c 3, w ∈ w_c_H_value_1 := by decide +kernel
  have in_RX11 : ∀ w ∈ u_ws RX11 TX11 10, w ∈ w_c_H_value_1 := by decide +kernel
  have in_RX2 : ∀ w ∈ u_ws RX2 TX2 15, w ∈ w_c_H_value_1 := by decide +kernel
  have in_RX5 : ∀ w ∈ u_ws RX5 TX5 14, w ∈ w_c_H_value_1 := by decide +kernel
  have in_RX7 : ∀ w ∈ u_ws RX7 TX7 14, w ∈ w_c_H_value_1 := by decide +kernel
  refine lv_aload_n hx hb dX11_value_0 rfl (lv_at hl 0 rfl) ?_
  refine lv_iload_n hx hb dX11_value_1 rfl (lv_at hl 1 rfl) ?_
  refine z_v (wr := [(atold, .inl (kI, 60, .inl zTold)), (anod, .inr (7, [.ref nm, .ref nl, .ref n1, .ref n2, .ref nf, .ref ns, .ref nh, .ref nk, .ref np, .int 16, .int 0, .int 16, .int 0, .int 0])), (ns, .inl (kL, 1024, .inr (.inl zSec))), (nf, .inl (kL, 1024, .inr (.inl zFir))), (aexpr, .inr (1, [.int 0, .ref eD, .int 0]))]) (va_runV (As := [.int 1]) (rest := []) ⟨hx, hb, hml, hown, hts⟩ (c_H_needType_ok l eD eI ad dC dI s.heap.size hh aexpr achoo ameth aroom anod asort anote amet atold aheld apair astep asize 1 (by decide) (by decide)) (cwV 1 hts g_c_H_value_1_0 rfl rfl rfl (by decide +kernel) ⟨Nat.le_of_ble_eq_true rfl, Nat.le_of_ble_eq_true rfl⟩) (z_preV (wc := [(hh, .inr (13, [.ref aexpr, .ref achoo, .ref ameth, .ref aroom, .ref anod, .ref asort, .ref anote, .ref amet, .int 0, .int 1])), (aroom, .inr (9, [.ref asort, .ref anod, .ref atold, .int 3, .ref aheld, .int 0, .ref apair, .ref astep, .int 0, .int 0, .int (-1), .int 0, .int 0, .ref asize]))]) hP hD hK hS hA hE [0, 1] [] rfl (by decide) rfl (ci := 13) (q0 := 0) rfl rfl) rfl rfl hl.1 rfl (lv_room (Nat.le_of_ble_eq_true rfl)) dX11_value_2 ⟨Nat.le_of_ble_eq_true rfl, Nat.le_of_ble_eq_true rfl⟩) hP hD hK hS hA [0, 1] [2, 3, 4, 5, 6] rfl rfl (by decide) (by decide) (fun u H locs hw_2 hP hD hK hS => ?_)
  obtain ⟨⟩ := u
  have hP : va_P (dC, dI) vwCl [(atold, .inl (kI, 60, .inl zTold)), (anod, .inr (7, [.ref nm, .ref nl, .ref n1, .ref n2, .ref nf, .ref ns, .ref nh, .ref nk, .ref np, .int 16, .int 0, .int 16, .int 0, .int 0])), (ns, .inl (kL, 1024, .inr (.inl zSec))), (nf, .inl (kL, 1024, .inr (.inl zFir))), (aexpr, .inr (1, [.int 0, .ref eD, .int 0])), (hh, .inr (13, [.ref aexpr, .ref achoo, .ref ameth, .ref aroom, .ref anod, .ref asort, .ref anote, .ref amet, .int 0, .int 1])), (aroom, .inr (9, [.ref asort, .ref anod, .ref atold, .int 3, .ref aheld, .int 0, .ref apair, .ref astep, .int 0, .int 0, .int (-1), .int 0, .int 0, .ref asize]))] H := hP
  have hD : va_D A [(atold, .inl (kI, 60, .inl zTold)), (anod, .inr (7, [.ref nm, .ref nl, .ref n1, .ref n2, .ref nf, .ref ns, .ref nh, .ref nk, .ref np, .int 16, .int 0, .int 16, .int 0, .int 0])), (ns, .inl (kL, 1024, .inr (.inl zSec))), (nf, .inl (kL, 1024, .inr (.inl zFir))), (aexpr, .inr (1, [.int 0, .ref eD, .int 0])), (hh, .inr (13, [.ref aexpr, .ref achoo, .ref ameth, .ref aroom, .ref anod, .ref asort, .ref anote, .ref amet, .int 0, .int 1])), (aroom, .inr (9, [.ref asort, .ref anod, .ref atold, .int 3, .ref aheld, .int 0, .ref apair, .ref astep, .int 0, .int 0, .int (-1), .int 0, .int 0, .ref asize]))] := hD
  have hK : va_K (dC, dI) vwCl [(kI, .int), (kL, .long)] s := by simpa using hK
  refine lv_aload_n hx hb dX11_value_5 rfl (lv_at hl 0 rfl) ?_
  refine lv_iload_n hx hb dX11_value_6 rfl (lv_at hl 1 rfl) ?_
  refine z_v (wr := [(aexpr, .inr (1, [.int 0, .ref eD, .int 0]))]) (va_runV (As := [.int 1]) (rest := []) ⟨hx, hb, hml, hown, hts⟩ (c_H_closed_1 l eD eI ad dC dI H.size hh aexpr achoo ameth aroom anod asort anote amet atold aheld apair astep asize nm nl n1 n2 nf ns nh nk np kI kL) (cwV 1 hts g_c_H_value_1_1 rfl rfl rfl (by decide +kernel) ⟨Nat.le_of_ble_eq_true rfl, Nat.le_of_ble_eq_true rfl⟩) (z_preV (wc := [(hh, .inr (13, [.ref aexpr, .ref achoo, .ref ameth, .ref aroom, .ref anod, .ref asort, .ref anote, .ref amet, .int 0, .int 1])), (aroom, .inr (9, [.ref asort, .ref anod, .ref atold, .int 3, .ref aheld, .int 0, .ref apair, .ref astep, .int 0, .int 0, .int (-1), .int 0, .int 0, .ref asize])), (atold, .inl (kI, 60, .inl zTold)), (anod, .inr (7, [.ref nm, .ref nl, .ref n1, .ref n2, .ref nf, .ref ns, .ref nh, .ref nk, .ref np, .int 16, .int 0, .int 16, .int 0, .int 0])), (ns, .inl (kL, 1024, .inr (.inl zSec))), (nf, .inl (kL, 1024, .inr (.inl zFir)))]) hP hD hK hS hA hE [5, 6, 0, 1, 2, 3] [0, 1] rfl (by decide) rfl (ci := 13) (q0 := 0) rfl rfl) rfl rfl hl.1 rfl (lv_room (Nat.le_of_ble_eq_true rfl)) dX11_value_7 ⟨Nat.le_of_ble_eq_true rfl, Nat.le_of_ble_eq_true rfl⟩) hP hD hK hS hA [5, 6, 0, 1, 2, 3] [4] rfl rfl (by decide) (by decide) (fun u H locs hw_4 hP hD hK hS => ?_)
  obtain ⟨⟩ := u
  have hP : va_P (dC, dI) vwCl [(aexpr, .inr (1, [.int 0, .ref eD, .int 0])), (hh, .inr (13, [.ref aexpr, .ref achoo, .ref ameth, .ref aroom, .ref anod, .ref asort, .ref anote, .ref amet, .int 0, .int 1])), (aroom, .inr (9, [.ref asort, .ref anod, .ref atold, .int 3, .ref aheld, .int 0, .ref apair, .ref astep, .int 0, .int 0, .int (-1), .int 0, .int 0, .ref asize])), (atold, .inl (kI, 60, .inl zTold)), (anod, .inr (7, [.ref nm, .ref nl, .ref n1, .ref n2, .ref nf, .ref ns, .ref nh, .ref nk, .ref np, .int 16, .int 0, .int 16, .int 0, .int 0])), (ns, .inl (kL, 1024, .inr (.inl zSec))), (nf, .inl (kL, 1024, .inr (.inl zFir)))] H := hP
  have hD : va_D A [(aexpr, .inr (1, [.int 0, .ref eD, .int 0])), (hh, .inr (13, [.ref aexpr, .ref achoo, .ref ameth, .ref aroom, .ref anod, .ref asort, .ref anote, .ref amet, .int 0, .int 1])), (aroom, .inr (9, [.ref asort, .ref anod, .ref atold, .int 3, .ref aheld, .int 0, .ref apair, .ref astep, .int 0, .int 0, .int (-1), .int 0, .int 0, .ref asize])), (atold, .inl (kI, 60, .inl zTold)), (anod, .inr (7, [.ref nm, .ref nl, .ref n1, .ref n2, .ref nf, .ref ns, .ref nh, .ref nk, .ref np, .int 16, .int 0, .int 16, .int 0, .int 0])), (ns, .inl (kL, 1024, .inr (.inl zSec))), (nf, .inl (kL, 1024, .inr (.inl zFir)))] := hD
  have hK : va_K (dC, dI) vwCl [(kI, .int), (kL, .long), (kI, .int), (kL, .long)] s := hK
  refine lv_aload_n hx hb dX11_value_10 rfl (lv_at hl 0 rfl) ?_
  refine lv_iconst (v := 0) hx hb dX11_value_11 (by decide) ?_
  refine lv_null hx hb dX11_value_12 ?_
  refine lv_null hx hb dX11_value_13 ?_
  refine lv_null hx hb dX11_value_14 ?_
  refine lv_iconst (v := 0) hx hb dX11_value_15 (by decide) ?_
  refine lv_aload_n hx hb dX11_value_16 rfl (lv_at hl 0 rfl) ?_
  refine va_get (D := (dC, dI)) (ci := 13) (v := .ref aroom) (C := RX11) (T := TX11) (N := 10) hx hb hts in_RX11 hown hK hP 1 rfl rfl 3 (by decide) (hts (.fieldLink RX11 31 "Hornbook" "room" "LHornbook$Room;") (by decide +kernel)) (fun _ h9 => h9) rfl dX11_value_17 ?_
  refine lv_iload_n hx hb dX11_value_20 rfl (lv_at hl 1 rfl) ?_
  refine z_i (wr := [(aexpr, .inr (1, [.int 0, .ref eD, .int 0])), (hh, .inr (13, [.ref aexpr, .ref achoo, .ref ameth, .ref aroom, .ref anod, .ref asort, .ref anote, .ref amet, .int 0, .int 1])), (anod, .inr (7, [.ref nm, .ref nl, .ref n1, .ref n2, .ref nf, .ref ns, .ref nh, .ref nk, .ref np, .int 16, .int 0, .int 16, .int 0, .int 0])), (ns, .inl (kL, 1024, .inr (.inl zSec))), (nf, .inl (kL, 1024, .inr (.inl zFir)))]) (va_runV (As := [.int 1]) (rest := [.int 0, .null, .null, .null, .int 0, .ref hh]) ⟨hx, hb, hml, hown, hts⟩ (c_R_told_1 l eD eI ad dC dI H.size aroom anod asort atold aheld apair astep asize kI) (cwV 1 hts g_c_H_value_1_2 rfl rfl rfl (by decide +kernel) ⟨Nat.le_of_ble_eq_true rfl, Nat.le_of_ble_eq_true rfl⟩) (z_preV (wc := [(aroom, .inr (9, [.ref asort, .ref anod, .ref atold, .int 3, .ref aheld, .int 0, .ref apair, .ref astep, .int 0, .int 0, .int (-1), .int 0, .int 0, .ref asize])), (atold, .inl (kI, 60, .inl zTold))]) hP hD hK hS hA hE [2, 3] [0] rfl (by decide) rfl (ci := 9) (q0 := 0) rfl rfl) rfl rfl hl.1 rfl (lv_room (Nat.le_of_ble_eq_true rfl)) dX11_value_21 ⟨Nat.le_of_ble_eq_true rfl, Nat.le_of_ble_eq_true rfl⟩) hP hD hK hS hA [2, 3] [0, 1, 4, 5, 6] rfl rfl (by decide) (by decide) (fun r_5 u H locs hw_6 hP hD hK hS => ?_)
  obtain ⟨⟩ := u
  have hP : va_P (dC, dI) vwCl [(aexpr, .inr (1, [.int 0, .ref eD, .int 0])), (hh, .inr (13, [.ref aexpr, .ref achoo, .ref ameth, .ref aroom, .ref anod, .ref asort, .ref anote, .ref amet, .int 0, .int 1])), (anod, .inr (7, [.ref nm, .ref nl, .ref n1, .ref n2, .ref nf, .ref ns, .ref nh, .ref nk, .ref np, .int 16, .int 0, .int 16, .int 0, .int 0])), (ns, .inl (kL, 1024, .inr (.inl zSec))), (nf, .inl (kL, 1024, .inr (.inl zFir))), (aroom, .inr (9, [.ref asort, .ref anod, .ref atold, .int 3, .ref aheld, .int 0, .ref apair, .ref astep, .int 0, .int 0, .int (-1), .int 0, .int 0, .ref asize])), (atold, .inl (kI, 60, .inl zTold))] H := hP
  have hD : va_D A [(aexpr, .inr (1, [.int 0, .ref eD, .int 0])), (hh, .inr (13, [.ref aexpr, .ref achoo, .ref ameth, .ref aroom, .ref anod, .ref asort, .ref anote, .ref amet, .int 0, .int 1])), (anod, .inr (7, [.ref nm, .ref nl, .ref n1, .ref n2, .ref nf, .ref ns, .ref nh, .ref nk, .ref np, .int 16, .int 0, .int 16, .int 0, .int 0])), (ns, .inl (kL, 1024, .inr (.inl zSec))), (nf, .inl (kL, 1024, .inr (.inl zFir))), (aroom, .inr (9, [.ref asort, .ref anod, .ref atold, .int 3, .ref aheld, .int 0, .ref apair, .ref astep, .int 0, .int 0, .int (-1), .int 0, .int 0, .ref asize])), (atold, .inl (kI, 60, .inl zTold))] := hD
  have hK : va_K (dC, dI) vwCl [(kI, .int), (kL, .long), (kI, .int), (kL, .long), (kI, .int)] s := hK
  have hw_6 : r_5 = 1 := hw_6
  have hw_6 := hw_6.symm
  subst hw_6
  refine z_i (wr := [(anod, .inr (7, [.ref nm, .ref nl, .ref n1, .ref n2, .ref nf, .ref ns, .ref nh, .ref nk, .ref np, .int 16, .int 0, .int 16, .int 0, .int 0])), (ns, .inl (kL, 1024, .inr (.inl zSec))), (nf, .inl (kL, 1024, .inr (.inl zFir))), (aroom, .inr (9, [.ref asort, .ref anod, .ref atold, .int 3, .ref aheld, .int 0, .ref apair, .ref astep, .int 0, .int 0, .int (-1), .int 0, .int 0, .ref asize])), (atold, .inl (kI, 60, .inl zTold))]) (va_runV (As := [.int 0, .null, .null, .null, .int 0, .int 1]) (rest := []) ⟨hx, hb, hml, hown, hts⟩ (c_H_addX l eD eI ad dC dI H.size hh aexpr achoo ameth aroom anod asort anote amet 1) (cwV 6 hts g_c_H_value_1_3 rfl rfl rfl (by decide +kernel) ⟨Nat.le_of_ble_eq_true rfl, Nat.le_of_ble_eq_true rfl⟩) (z_preV (wc := [(hh, .inr (13, [.ref aexpr, .ref achoo, .ref ameth, .ref aroom, .ref anod, .ref asort, .ref anote, .ref amet, .int 0, .int 1])), (aexpr, .inr (1, [.int 0, .ref eD, .int 0]))]) hP hD hK hS hA hE [1, 0] [] rfl (by decide) rfl (ci := 13) (q0 := 0) rfl rfl) rfl rfl hl.1 rfl (lv_room (Nat.le_of_ble_eq_true rfl)) dX11_value_24 ⟨Nat.le_of_ble_eq_true rfl, Nat.le_of_ble_eq_true rfl⟩) hP hD hK hS hA [1, 0] [2, 3, 4, 5, 6] rfl rfl (by decide) (by decide) (fun r_7 u H locs hw_8 hP hD hK hS => ?_)
  obtain ⟨⟩ := u
  have hP : va_P (dC, dI) vwCl [(anod, .inr (7, [.ref nm, .ref nl, .ref n1, .ref n2, .ref nf, .ref ns, .ref nh, .ref nk, .ref np, .int 16, .int 0, .int 16, .int 0, .int 0])), (ns, .inl (kL, 1024, .inr (.inl zSec))), (nf, .inl (kL, 1024, .inr (.inl zFir))), (aroom, .inr (9, [.ref asort, .ref anod, .ref atold, .int 3, .ref aheld, .int 0, .ref apair, .ref astep, .int 0, .int 0, .int (-1), .int 0, .int 0, .ref asize])), (atold, .inl (kI, 60, .inl zTold))] H := hP
  have hD : va_D A [(anod, .inr (7, [.ref nm, .ref nl, .ref n1, .ref n2, .ref nf, .ref ns, .ref nh, .ref nk, .ref np, .int 16, .int 0, .int 16, .int 0, .int 0])), (ns, .inl (kL, 1024, .inr (.inl zSec))), (nf, .inl (kL, 1024, .inr (.inl zFir))), (aroom, .inr (9, [.ref asort, .ref anod, .ref atold, .int 3, .ref aheld, .int 0, .ref apair, .ref astep, .int 0, .int 0, .int (-1), .int 0, .int 0, .ref asize])), (atold, .inl (kI, 60, .inl zTold))] := hD
  have hK : va_K (dC, dI) vwCl [(kI, .int), (kL, .long), (kI, .int), (kL, .long), (kI, .int)] s := by simpa using hK
  have hw_8 : r_7 = 0 := hw_8
  have hw_8 := hw_8.symm
  subst hw_8
  have hP9 := hP.sub (ws' := []) [] rfl
  have hD9 := hD.sub (ws' := []) [] (by decide) rfl
  have hK9 := hK.sub (tys' := []) [] rfl
  refine W.widen (k := 2) (n := 25) (Nat.le_of_ble_eq_true rfl) (Nat.le_of_ble_eq_true rfl) ?_
  exact W.iret (v := 0) hx hb hr (fun t ht hW => ⟨⟨0, (), rfl, rfl, ⟨by rw [ht]; exact hP9, va_K.moved hW.alike hK9, hD9⟩⟩, hS.F ht⟩) hS.2.2 dX11_value_27

def wb_c_H_value_2 : List Cond := [.code yX11_needType cX11_needType 2 none, .fieldLink RX11 31 "Hornbook" "room" "LHornbook$Room;", .fieldLink RX11 344 "Hornbook$Room" "tellings" "I", .methodLink RX11 116 yX11_needType, .instanceMethod yX11_needType, .selects RX11 yX11_needType yX11_needType, .initialized RX11, .code yX11_needClosed cX11_needClosed 2 none, .code yX7_toldAt cX7_toldAt 2 (some .int), .fieldLink RX7 29 "Hornbook$Room" "tellings" "I", .fieldLink RX7 25 "Hornbook$Room" "told" "[I", .methodLink RX11 123 yX7_toldAt, .instanceMethod yX7_toldAt, .selects RX7 yX7_toldAt yX7_toldAt, .initialized RX7, .code yX11_has cX11_has 3 (some .boolean), .fieldLink RX11 38 "Hornbook" "nodes" "LHornbook$Nodes;", .code yX5_openOf cX5_openOf 2 (some .int), .fieldLink RX5 28 "Hornbook$Nodes" "second" "[J", .fieldLink RX5 24 "Hornbook$Nodes" "first" "[J", .methodLink RX11 367 yX5_openOf, .instanceMethod yX5_openOf, .selects RX5 yX5_openOf yX5_openOf, .initialized RX5, .methodLink RX11 138 yX11_has, .instanceMethod yX11_has, .selects RX11 yX11_has yX11_has, .classLink RX11 66 "java/lang/IllegalArgumentException", .initialized "java/lang/IllegalArgumentException", .methodLink RX11 225 yX11_needClosed, .instanceMethod yX11_needClosed, .selects RX11 yX11_needClosed yX11_needClosed] ++ u_ws RX11 TX11 10 ++ u_ws RX5 TX5 14 ++ u_ws RX7 TX7 14
def w_c_H_value_2 : List Cond := .code yX11_value cX11_value 2 (some .int) :: (wb_c_H_value_2 ++ zAt)
set_option maxRecDepth 100000 in
theorem g_c_H_value_2_0 : GoodIn w_c_H_value_2 (wsV RX11 116 RX11 yX11_needType w_c_H_needType_ok) := goodIn_app (goodIn_of _ (by decide +kernel)) (goodIn_p (big := w_c_H_value_2) (.code yX11_needType cX11_needType 2 none :: wb_c_H_needType_ok) [1] rfl (by decide +kernel))
set_option maxRecDepth 100000 in
theorem g_c_H_value_2_1 : GoodIn w_c_H_value_2 (wsV RX11 225 RX11 yX11_needClosed w_c_H_closed_2) := goodIn_app (goodIn_of _ (by decide +kernel)) (goodIn_ca (goodIn_p (big := w_c_H_value_2) (.code yX11_needClosed cX11_needClosed 2 none :: wb_c_H_closed_2) [8, 9, 16, 18] rfl (by decide +kernel)) (goodIn_sub (fun _ h => List.mem_cons_of_mem _ (List.mem_append_right _ h)) zAt_good))
set_option maxHeartbeats 4000000 in
set_option maxRecDepth 100000 in
theorem c_H_value_2 (l : Launch) (hfl : l.flags = flags0) (eD eI : Nat) (ad : Nat → Nat) (dC : Nat → ClassId) (dI : Nat → Nat → Nat) (sz : Nat) (hh : Nat) (aexpr : Nat) (achoo : Nat) (ameth : Nat) (aroom : Nat) (anod : Nat) (asort : Nat) (anote : Nat) (amet : Nat) (atold : Nat) (aheld : Nat) (apair : Nat) (astep : Nat) (asize : Nat) (nm : Nat) (nl : Nat) (n1 : Nat) (n2 : Nat) (nf : Nat) (ns : Nat) (nh : Nat) (nk : Nat) (np : Nat) (kI : ClassId) (kL : ClassId) : vx_Met l yX11_value w_c_H_value_2 ({ frames := 7, cells := 1, slots := 6, locals := 103 }) (va_Pc [.ref hh, .int 2] (zPreD eD eI ad (dC, dI) [(hh, .inr (13, [.ref aexpr, .ref achoo, .ref ameth, .ref aroom, .ref anod, .ref asort, .ref anote, .ref amet, .int 0, .int 1])), (aroom, .inr (9, [.ref asort, .ref anod, .ref atold, .int 3, .ref aheld, .int 0, .ref apair, .ref astep, .int 0, .int 0, .int (-1), .int 0, .int 0, .ref asize])), (atold, .inl (kI, 60, .inl zTold)), (anod, .inr (7, [.ref nm, .ref nl, .ref n1, .ref n2, .ref nf, .ref ns, .ref nh, .ref nk, .ref np, .int 16, .int 0, .int 16, .int 0, .int 0])), (ns, .inl (kL, 1024, .inr (.inl zSec))), (nf, .inl (kL, 1024, .inr (.inl zFir))), (aexpr, .inr (1, [.int 0, .ref eD, .int 0]))] [(kI, .int), (kL, .long)] sz)) (va_Qi (fun (r : Int32) (_ : Unit) => False) (fun (_ : Unit) => zEnd (dC, dI) (va_A [(hh, .inr (13, [.ref aexpr, .ref achoo, .ref ameth, .ref aroom, .ref anod, .ref asort, .ref anote, .ref amet, .int 0, .int 1])), (aroom, .inr (9, [.ref asort, .ref anod, .ref atold, .int 3, .ref aheld, .int 0, .ref apair, .ref astep, .int 0, .int 0, .int (-1), .int 0, .int 0, .ref asize])), (atold, .inl (kI, 60, .inl zTold)), (anod, .inr (7, [.ref nm, .ref nl, .ref n1, .ref n2, .ref nf, .ref ns, .ref nh, .ref nk, .ref np, .int 16, .int 0, .int 16, .int 0, .int 0])), (ns, .inl (kL, 1024, .inr (.inl zSec))), (nf, .inl (kL, 1024, .inr (.inl zFir))), (aexpr, .inr (1, [.int 0, .ref eD, .int 0]))] sz) [(hh, .inr (13, [.ref aexpr, .ref achoo, .ref ameth, .ref aroom, .ref anod, .ref asort, .ref anote, .ref amet, .int 0, .int 1])), (aroom, .inr (9, [.ref asort, .ref anod, .ref atold, .int 3, .ref aheld, .int 0, .ref apair, .ref astep, .int 0, .int 0, .int (-1), .int 0, .int 0, .ref asize])), (atold, .inl (kI, 60, .inl zTold)), (anod, .inr (7, [.ref nm, .ref nl, .ref n1, .ref n2, .ref nf, .ref ns, .ref nh, .ref nk, .ref np, .int 16, .int 0, .int 16, .int 0, .int 0])), (ns, .inl (kL, 1024, .inr (.inl zSec))), (nf, .inl (kL, 1024, .inr (.inl zFir))), (aexpr, .inr (1, [.int 0, .ref eD, .int 0]))] [(kI, .int), (kL, .long)]) (va_A [(hh, .inr (13, [.ref aexpr, .ref achoo, .ref ameth, .ref aroom, .ref anod, .ref asort, .ref anote, .ref amet, .int 0, .int 1])), (aroom, .inr (9, [.ref asort, .ref anod, .ref atold, .int 3, .ref aheld, .int 0, .ref apair, .ref astep, .int 0, .int 0, .int (-1), .int 0, .int 0, .ref asize])), (atold, .inl (kI, 60, .inl zTold)), (anod, .inr (7, [.ref nm, .ref nl, .ref n1, .ref n2, .ref nf, .ref ns, .ref nh, .ref nk, .ref np, .int 16, .int 0, .int 16, .int 0, .int 0])), (ns, .inl (kL, 1024, .inr (.inl zSec))), (nf, .inl (kL, 1024, .inr (.inl zFir))), (aexpr, .inr (1, [.int 0, .ref eD, .int 0]))] sz)) (zX (fun E => E = "java/lang/IllegalArgumentException") (va_A [(hh, .inr (13, [.ref aexpr, .ref achoo, .ref ameth, .ref aroom, .ref anod, .ref asort, .ref anote, .ref amet, .int 0, .int 1])), (aroom, .inr (9, [.ref asort, .ref anod, .ref atold, .int 3, .ref aheld, .int 0, .ref apair, .ref astep, .int 0, .int 0, .int (-1), .int 0, .int 0, .ref asize])), (atold, .inl (kI, 60, .inl zTold)), (anod, .inr (7, [.ref nm, .ref nl, .ref n1, .ref n2, .ref nf, .ref ns, .ref nh, .ref nk, .ref np, .int 16, .int 0, .int 16, .int 0, .int 0])), (ns, .inl (kL, 1024, .inr (.inl zSec))), (nf, .inl (kL, 1024, .inr (.inl zFir))), (aexpr, .inr (1, [.int 0, .ref eD, .int 0]))] sz)) 1 6 (va_A [(hh, .inr (13, [.ref aexpr, .ref achoo, .ref ameth, .ref aroom, .ref anod, .ref asort, .ref anote, .ref amet, .int 0, .int 1])), (aroom, .inr (9, [.ref asort, .ref anod, .ref atold, .int 3, .ref aheld, .int 0, .ref apair, .ref astep, .int 0, .int 0, .int (-1), .int 0, .int 0, .ref asize])), (atold, .inl (kI, 60, .inl zTold)), (anod, .inr (7, [.ref nm, .ref nl, .ref n1, .ref n2, .ref nf, .ref ns, .ref nh, .ref nk, .ref np, .int 16, .int 0, .int 16, .int 0, .int 0])), (ns, .inl (kL, 1024, .inr (.inl zSec))), (nf, .inl (kL, 1024, .inr (.inl zFir))), (aexpr, .inr (1, [.int 0, .ref eD, .int 0]))] sz) := by
  refine vx_ofW (cc := cX11_value) (maxL := 2) (ret := (some .int)) (by decide +kernel) rfl ?_
  intro p e s m args below meth c s₁ B hml htab hv
  obtain ⟨rfl, ⟨hsz, hP, hK, hD0, hE⟩, hDc⟩ := hv
  have hx := B.exec
  have hb := B.bytes
  have hr := B.returns
  have hts := atoms_spec (ws := w_c_H_value_2) B.pre
  have hown : s.vm.findClass RX11 = some m.cls := findClass_of_methodNamed B.named
  have hlocks := B.notSynchronized
  subst hsz
  have hD := hD0.self (sz := s.heap.size)
  generalize hAe : va_A [(hh, .inr (13, [.ref aexpr, .ref achoo, .ref ameth, .ref aroom, .ref anod, .ref asort, .ref anote, .ref amet, .int 0, .int 1])), (aroom, .inr (9, [.ref asort, .ref anod, .ref atold, .int 3, .ref aheld, .int 0, .ref apair, .ref astep, .int 0, .int 0, .int (-1), .int 0, .int 0, .ref asize])), (atold, .inl (kI, 60, .inl zTold)), (anod, .inr (7, [.ref nm, .ref nl, .ref n1, .ref n2, .ref nf, .ref ns, .ref nh, .ref nk, .ref np, .int 16, .int 0, .int 16, .int 0, .int 0])), (ns, .inl (kL, 1024, .inr (.inl zSec))), (nf, .inl (kL, 1024, .inr (.inl zFir))), (aexpr, .inr (1, [.int 0, .ref eD, .int 0]))] s.heap.size = A at hD hE ⊢
  have hA : ∀ q : Nat, s.heap.size ≤ q → A q := fun q h => by rw [← hAe]; exact Or.inr h
  have hS : va_S A s.heap s.heap [] := va_S.rf
  have hP : va_P (dC, dI) vwCl [(hh, .inr (13, [.ref aexpr, .ref achoo, .ref ameth, .ref aroom, .ref anod, .ref asort, .ref anote, .ref amet, .int 0, .int 1])), (aroom, .inr (9, [.ref asort, .ref anod, .ref atold, .int 3, .ref aheld, .int 0, .ref apair, .ref astep, .int 0, .int 0, .int (-1), .int 0, .int 0, .ref asize])), (atold, .inl (kI, 60, .inl zTold)), (anod, .inr (7, [.ref nm, .ref nl, .ref n1, .ref n2, .ref nf, .ref ns, .ref nh, .ref nk, .ref np, .int 16, .int 0, .int 16, .int 0, .int 0])), (ns, .inl (kL, 1024, .inr (.inl zSec))), (nf, .inl (kL, 1024, .inr (.inl zFir))), (aexpr, .inr (1, [.int 0, .ref eD, .int 0]))] s.heap := hP
  have hl := lv_entry ([.ref hh, .int 2]) (n := 2) (Nat.le_of_ble_eq_true rfl)
  rw [lg_entry_eq]
  generalize (lg_sl ([.ref hh, .int 2]) ++ List.replicate (2 - (lg_sl ([.ref hh, .int 2])).length) Slot.unset).toArray = ls at hl ⊢
  have hl : lv_has ls 2 [(0, .ref hh), (1, .int 2)] := hl
  have in_RX11 : ∀ w ∈ u_ws RX11 TX11 10, w ∈ w_c_H_value_2 := by decide +kernel
  have in_RX5 : ∀ w ∈ u_ws RX5 TX5 14, w ∈ w_c_H_value_2 := by decide +kernel
  have in_RX7 : ∀ w ∈ u_ws RX7 TX7 14, w ∈ w_c_H_value_2 := by decide +kernel
  refine lv_aload_n hx hb dX11_value_0 rfl (lv_at hl 0 rfl) ?_
  refine lv_iload_n hx hb dX11_value_1 rfl (lv_at hl 1 rfl) ?_
  refine z_v (wr := [(atold, .inl (kI, 60, .inl zTold)), (anod, .inr (7, [.ref nm, .ref nl, .ref n1, .ref n2, .ref nf, .ref ns, .ref nh, .ref nk, .ref np, .int 16, .int 0, .int 16, .int 0, .int 0])), (ns, .inl (kL, 1024, .inr (.inl zSec))), (nf, .inl (kL, 1024, .inr (.inl zFir))), (aexpr, .inr (1, [.int 0, .ref eD, .int 0]))]) (va_runV (As := [.int 2]) (rest := []) ⟨hx, hb, hml, hown, hts⟩ (c_H_needType_ok l eD eI ad dC dI s.heap.size hh aexpr achoo ameth aroom anod asort anote amet atold aheld apair astep asize 2 (by decide) (by decide)) (cwV 1 hts g_c_H_value_2_0 rfl rfl rfl (by decide +kernel) ⟨Nat.le_of_ble_eq_true rfl, Nat.le_of_ble_eq_true rfl⟩) (z_preV (wc := [(hh, .inr (13, [.ref aexpr, .ref achoo, .ref ameth, .ref aroom, .ref anod, .ref asort, .ref anote, .ref amet, .int 0, .int 1])), (aroom, .inr (9, [.ref asort, .ref anod, .ref atold, .int 3, .ref aheld, .int 0, .ref apair, .ref astep, .int 0, .int 0, .int (-1), .int 0, .int 0, .ref asize]))]) hP hD hK hS hA hE [0, 1] [] rfl (by decide) rfl (ci := 13) (q0 := 0) rfl rfl) rfl rfl hl.1 rfl (lv_room (Nat.le_of_ble_eq_true rfl)) dX11_value_2 ⟨Nat.le_of_ble_eq_true rfl, Nat.le_of_ble_eq_true rfl⟩) hP hD hK hS hA [0, 1] [2, 3, 4, 5, 6] rfl rfl (by decide) (by decide) (fun u H locs hw_2 hP hD hK hS => ?_)
  obtain ⟨⟩ := u
  have hP : va_P (dC, dI) vwCl [(atold, .inl (kI, 60, .inl zTold)), (anod, .inr (7, [.ref nm, .ref nl, .ref n1, .ref n2, .ref nf, .ref ns, .ref nh, .ref nk, .ref np, .int 16, .int 0, .int 16, .int 0, .int 0])), (ns, .inl (kL, 1024, .inr (.inl zSec))), (nf, .inl (kL, 1024, .inr (.inl zFir))), (aexpr, .inr (1, [.int 0, .ref eD, .int 0])), (hh, .inr (13, [.ref aexpr, .ref achoo, .ref ameth, .ref aroom, .ref anod, .ref asort, .ref anote, .ref amet, .int 0, .int 1])), (aroom, .inr (9, [.ref asort, .ref anod, .ref atold, .int 3, .ref aheld, .int 0, .ref apair, .ref astep, .int 0, .int 0, .int (-1), .int 0, .int 0, .ref asize]))] H := hP
  have hD : va_D A [(atold, .inl (kI, 60, .inl zTold)), (anod, .inr (7, [.ref nm, .ref nl, .ref n1, .ref n2, .ref nf, .ref ns, .ref nh, .ref nk, .ref np, .int 16, .int 0, .int 16, .int 0, .int 0])), (ns, .inl (kL, 1024, .inr (.inl zSec))), (nf, .inl (kL, 1024, .inr (.inl zFir))), (aexpr, .inr (1, [.int 0, .ref eD, .int 0])), (hh, .inr (13, [.ref aexpr, .ref achoo, .ref ameth, .ref aroom, .ref anod, .ref asort, .ref anote, .ref amet, .int 0, .int 1])), (aroom, .inr (9, [.ref asort, .ref anod, .ref atold, .int 3, .ref aheld, .int 0, .ref apair, .ref astep, .int 0, .int 0, .int (-1), .int 0, .int 0, .ref asize]))] := hD
  have hK : va_K (dC, dI) vwCl [(kI, .int), (kL, .long)] s := by simpa using hK
  refine lv_aload_n hx hb dX11_value_5 rfl (lv_at hl 0 rfl) ?_
  refine lv_iload_n hx hb dX11_value_6 rfl (lv_at hl 1 rfl) ?_
  refine zx_v (wr := [(aexpr, .inr (1, [.int 0, .ref eD, .int 0]))]) (vx_runV (As := [.int 2]) (rest := []) ⟨hx, hb, hml, hown, hts⟩ (c_H_closed_2 l hfl eD eI ad dC dI H.size hh aexpr achoo ameth aroom anod asort anote amet atold aheld apair astep asize nm nl n1 n2 nf ns nh nk np kI kL) (cwV 1 hts g_c_H_value_2_1 rfl rfl rfl (by decide +kernel) ⟨Nat.le_of_ble_eq_true rfl, Nat.le_of_ble_eq_true rfl⟩) (z_preVD (wc := [(hh, .inr (13, [.ref aexpr, .ref achoo, .ref ameth, .ref aroom, .ref anod, .ref asort, .ref anote, .ref amet, .int 0, .int 1])), (aroom, .inr (9, [.ref asort, .ref anod, .ref atold, .int 3, .ref aheld, .int 0, .ref apair, .ref astep, .int 0, .int 0, .int (-1), .int 0, .int 0, .ref asize])), (atold, .inl (kI, 60, .inl zTold)), (anod, .inr (7, [.ref nm, .ref nl, .ref n1, .ref n2, .ref nf, .ref ns, .ref nh, .ref nk, .ref np, .int 16, .int 0, .int 16, .int 0, .int 0])), (ns, .inl (kL, 1024, .inr (.inl zSec))), (nf, .inl (kL, 1024, .inr (.inl zFir)))]) hP hD hK hS hA hE [5, 6, 0, 1, 2, 3] [0, 1] rfl (by decide) rfl (ci := 13) (q0 := 0) rfl rfl hDc) rfl rfl hl.1 rfl (lv_room (Nat.le_of_ble_eq_true rfl)) dX11_value_7 ⟨Nat.le_of_ble_eq_true rfl, Nat.le_of_ble_eq_true rfl⟩) hP hD hK hS hA [5, 6, 0, 1, 2, 3] [4] rfl rfl (by decide) (by decide) (fun E ce q9 H locs hbad hP hD hS h91 h92 h93 => ?_) (fun u H locs hw_4 hP hD hK hS => ?_)
  · have hbad : (fun E => E = "java/lang/IllegalArgumentException") E := hbad
    refine vx_widen (k := 1) (n := 6) (Nat.le_of_ble_eq_true rfl) (Nat.le_of_ble_eq_true rfl) ?_
    exact vx_out (fun x h => (htab x h).elim) hlocks h91 h92 h93 (fun t ht hW => ⟨(), trivial, hbad, hS.F ht⟩) hS.2.2 (Nat.le_refl _) (Nat.le_refl _)
  exact absurd hw_4 id

def wb_c_H_many_l : List Cond := [.classLink RX11 66 "java/lang/IllegalArgumentException", .initialized "java/lang/IllegalArgumentException"]
def w_c_H_many_l : List Cond := .code yX11_many cX11_many 2 (some .int) :: (wb_c_H_many_l ++ zAt)
set_option maxHeartbeats 4000000 in
set_option maxRecDepth 100000 in
theorem c_H_many_l (l : Launch) (hfl : l.flags = flags0) (eD eI : Nat) (ad : Nat → Nat) (dC : Nat → ClassId) (dI : Nat → Nat → Nat) (sz : Nat) (hh : Nat) (aexpr : Nat) (achoo : Nat) (ameth : Nat) (aroom : Nat) (anod : Nat) (asort : Nat) (anote : Nat) (amet : Nat) (x1 : Int32) (h1 : x1 < 0) : vx_Met l yX11_many w_c_H_many_l ({ frames := 6, cells := 1, slots := 6, locals := 82 }) (va_Pc [.ref hh, .int x1] (zPreD eD eI ad (dC, dI) [(hh, .inr (13, [.ref aexpr, .ref achoo, .ref ameth, .ref aroom, .ref anod, .ref asort, .ref anote, .ref amet, .int 0, .int 1]))] [] sz)) (va_Qi (fun (r : Int32) (_ : Unit) => False) (fun (_ : Unit) => zEnd (dC, dI) (va_A [(hh, .inr (13, [.ref aexpr, .ref achoo, .ref ameth, .ref aroom, .ref anod, .ref asort, .ref anote, .ref amet, .int 0, .int 1]))] sz) [(hh, .inr (13, [.ref aexpr, .ref achoo, .ref ameth, .ref aroom, .ref anod, .ref asort, .ref anote, .ref amet, .int 0, .int 1]))] []) (va_A [(hh, .inr (13, [.ref aexpr, .ref achoo, .ref ameth, .ref aroom, .ref anod, .ref asort, .ref anote, .ref amet, .int 0, .int 1]))] sz)) (zX (fun E => E = "java/lang/IllegalArgumentException") (va_A [(hh, .inr (13, [.ref aexpr, .ref achoo, .ref ameth, .ref aroom, .ref anod, .ref asort, .ref anote, .ref amet, .int 0, .int 1]))] sz)) 1 6 (va_A [(hh, .inr (13, [.ref aexpr, .ref achoo, .ref ameth, .ref aroom, .ref anod, .ref asort, .ref anote, .ref amet, .int 0, .int 1]))] sz) := by
  refine vx_ofW (cc := cX11_many) (maxL := 2) (ret := (some .int)) (by decide +kernel) rfl ?_
  intro p e s m args below meth c s₁ B hml htab hv
  obtain ⟨rfl, ⟨hsz, hP, hK, hD0, hE⟩, hDc⟩ := hv
  have hx := B.exec
  have hb := B.bytes
  have hr := B.returns
  have hts := atoms_spec (ws := w_c_H_many_l) B.pre
  have hown : s.vm.findClass RX11 = some m.cls := findClass_of_methodNamed B.named
  have hlocks := B.notSynchronized
  subst hsz
  have hD := hD0.self (sz := s.heap.size)
  generalize hAe : va_A [(hh, .inr (13, [.ref aexpr, .ref achoo, .ref ameth, .ref aroom, .ref anod, .ref asort, .ref anote, .ref amet, .int 0, .int 1]))] s.heap.size = A at hD hE ⊢
  have hA : ∀ q : Nat, s.heap.size ≤ q → A q := fun q h => by rw [← hAe]; exact Or.inr h
  have hS : va_S A s.heap s.heap [] := va_S.rf
  have hP : va_P (dC, dI) vwCl [(hh, .inr (13, [.ref aexpr, .ref achoo, .ref ameth, .ref aroom, .ref anod, .ref asort, .ref anote, .ref amet, .int 0, .int 1]))] s.heap := hP
  have hl := lv_entry ([.ref hh, .int x1]) (n := 2) (Nat.le_of_ble_eq_true rfl)
  rw [lg_entry_eq]
  generalize (lg_sl ([.ref hh, .int x1]) ++ List.replicate (2 - (lg_sl ([.ref hh, .int x1])).length) Slot.unset).toArray = ls at hl ⊢
  have hl : lv_has ls 2 [(0, .ref hh), (1, .int x1)] := hl
  refine lv_iload_n hx hb dX11_many_0 rfl (lv_at hl 1 rfl) ?_
  refine lv_if_lt (tgt := 9) hx hb dX11_many_1 (by decide) (fun c_1 => ?_) (fun c_1 => ?_)
  rotate_left
  · exact absurd h1 c_1
  obtain ⟨sa, hsa⟩ := hE.2.2.2.1 ("Hornbook", 237, "no such thing to count") (by decide +kernel)
  have hsa : vk_R RX11 237 "no such thing to count" sa s := hsa
  exact vx_throwS (A := A) (cls := "java/lang/IllegalArgumentException") (text := "no such thing to count") (names := ["java/lang/RuntimeException", "java/lang/Exception"]) hx hb (z_traces hfl) hown (by decide +kernel) (by decide +kernel) (hts (.classLink RX11 66 "java/lang/IllegalArgumentException") (by decide +kernel)) (hts (.initialized "java/lang/IllegalArgumentException") (by decide +kernel)) hsa (vx_hat (B := Cond.castable "java/lang/IllegalArgumentException" "java/lang/IllegalArgumentException" :: zDecs) (fun w h => hts w (List.mem_cons_of_mem _ (List.mem_append_right _ (zAt_70 w h)))) (by decide +kernel) (vx_c (va_Nw.use rfl (hE.2.2.2.2.2.2.2.1 ("java/lang/IllegalArgumentException", "java/lang/IllegalArgumentException") (by decide +kernel))) hDc.use)) (by decide +kernel) hE.1 hE.2.1 hS (by rw [hml]; exact hl.1) dX11_many_9 dX11_many_12 dX11_many_13 dX11_many_15 dX11_many_18 (fun x h => (htab x h).elim) (Nat.le_of_ble_eq_true rfl) (Nat.le_of_ble_eq_true rfl) (Nat.le_of_ble_eq_true rfl) (Nat.le_of_ble_eq_true rfl) hlocks (fun t hW h1 h2 => ⟨(), trivial, rfl, z_F hS h1 h2⟩) hS.2.2 (Nat.le_of_ble_eq_true rfl) (Nat.le_of_ble_eq_true rfl)

def wb_c_H_many_h : List Cond := [.classLink RX11 66 "java/lang/IllegalArgumentException", .initialized "java/lang/IllegalArgumentException"]
def w_c_H_many_h : List Cond := .code yX11_many cX11_many 2 (some .int) :: (wb_c_H_many_h ++ zAt)
set_option maxHeartbeats 4000000 in
set_option maxRecDepth 100000 in
theorem c_H_many_h (l : Launch) (hfl : l.flags = flags0) (eD eI : Nat) (ad : Nat → Nat) (dC : Nat → ClassId) (dI : Nat → Nat → Nat) (sz : Nat) (hh : Nat) (aexpr : Nat) (achoo : Nat) (ameth : Nat) (aroom : Nat) (anod : Nat) (asort : Nat) (anote : Nat) (amet : Nat) (x1 : Int32) (h0 : ¬ x1 < 0) (h1 : 3 < x1) : vx_Met l yX11_many w_c_H_many_h ({ frames := 6, cells := 1, slots := 6, locals := 82 }) (va_Pc [.ref hh, .int x1] (zPreD eD eI ad (dC, dI) [(hh, .inr (13, [.ref aexpr, .ref achoo, .ref ameth, .ref aroom, .ref anod, .ref asort, .ref anote, .ref amet, .int 0, .int 1]))] [] sz)) (va_Qi (fun (r : Int32) (_ : Unit) => False) (fun (_ : Unit) => zEnd (dC, dI) (va_A [(hh, .inr (13, [.ref aexpr, .ref achoo, .ref ameth, .ref aroom, .ref anod, .ref asort, .ref anote, .ref amet, .int 0, .int 1]))] sz) [(hh, .inr (13, [.ref aexpr, .ref achoo, .ref ameth, .ref aroom, .ref anod, .ref asort, .ref anote, .ref amet, .int 0, .int 1]))] []) (va_A [(hh, .inr (13, [.ref aexpr, .ref achoo, .ref ameth, .ref aroom, .ref anod, .ref asort, .ref anote, .ref amet, .int 0, .int 1]))] sz)) (zX (fun E => E = "java/lang/IllegalArgumentException") (va_A [(hh, .inr (13, [.ref aexpr, .ref achoo, .ref ameth, .ref aroom, .ref anod, .ref asort, .ref anote, .ref amet, .int 0, .int 1]))] sz)) 1 6 (va_A [(hh, .inr (13, [.ref aexpr, .ref achoo, .ref ameth, .ref aroom, .ref anod, .ref asort, .ref anote, .ref amet, .int 0, .int 1]))] sz) := by
  refine vx_ofW (cc := cX11_many) (maxL := 2) (ret := (some .int)) (by decide +kernel) rfl ?_
  intro p e s m args below meth c s₁ B hml htab hv
  obtain ⟨rfl, ⟨hsz, hP, hK, hD0, hE⟩, hDc⟩ := hv
  have hx := B.exec
  have hb := B.bytes
  have hr := B.returns
  have hts := atoms_spec (ws := w_c_H_many_h) B.pre
  have hown : s.vm.findClass RX11 = some m.cls := findClass_of_methodNamed B.named
  have hlocks := B.notSynchronized
  subst hsz
  have hD := hD0.self (sz := s.heap.size)
  generalize hAe : va_A [(hh, .inr (13, [.ref aexpr, .ref achoo, .ref ameth, .ref aroom, .ref anod, .ref asort, .ref anote, .ref amet, .int 0, .int 1]))] s.heap.size = A at hD hE ⊢
  have hA : ∀ q : Nat, s.heap.size ≤ q → A q := fun q h => by rw [← hAe]; exact Or.inr h
  have hS : va_S A s.heap s.heap [] := va_S.rf
  have hP : va_P (dC, dI) vwCl [(hh, .inr (13, [.ref aexpr, .ref achoo, .ref ameth, .ref aroom, .ref anod, .ref asort, .ref anote, .ref amet, .int 0, .int 1]))] s.heap := hP
  have hl := lv_entry ([.ref hh, .int x1]) (n := 2) (Nat.le_of_ble_eq_true rfl)
  rw [lg_entry_eq]
  generalize (lg_sl ([.ref hh, .int x1]) ++ List.replicate (2 - (lg_sl ([.ref hh, .int x1])).length) Slot.unset).toArray = ls at hl ⊢
  have hl : lv_has ls 2 [(0, .ref hh), (1, .int x1)] := hl
  refine lv_iload_n hx hb dX11_many_0 rfl (lv_at hl 1 rfl) ?_
  refine lv_if_lt (tgt := 9) hx hb dX11_many_1 (by decide) (fun c_1 => ?_) (fun c_1 => ?_)
  · exact absurd c_1 h0
  refine lv_iload_n hx hb dX11_many_4 rfl (lv_at hl 1 rfl) ?_
  refine lv_iconst (v := 3) hx hb dX11_many_5 (by decide) ?_
  refine lv_icmp_le (tgt := 19) hx hb dX11_many_6 (by decide) (fun c_2 => ?_) (fun c_2 => ?_)
  · exact absurd c_2 ((Int32.not_le.mpr h1))
  obtain ⟨sa, hsa⟩ := hE.2.2.2.1 ("Hornbook", 237, "no such thing to count") (by decide +kernel)
  have hsa : vk_R RX11 237 "no such thing to count" sa s := hsa
  exact vx_throwS (A := A) (cls := "java/lang/IllegalArgumentException") (text := "no such thing to count") (names := ["java/lang/RuntimeException", "java/lang/Exception"]) hx hb (z_traces hfl) hown (by decide +kernel) (by decide +kernel) (hts (.classLink RX11 66 "java/lang/IllegalArgumentException") (by decide +kernel)) (hts (.initialized "java/lang/IllegalArgumentException") (by decide +kernel)) hsa (vx_hat (B := Cond.castable "java/lang/IllegalArgumentException" "java/lang/IllegalArgumentException" :: zDecs) (fun w h => hts w (List.mem_cons_of_mem _ (List.mem_append_right _ (zAt_70 w h)))) (by decide +kernel) (vx_c (va_Nw.use rfl (hE.2.2.2.2.2.2.2.1 ("java/lang/IllegalArgumentException", "java/lang/IllegalArgumentException") (by decide +kernel))) hDc.use)) (by decide +kernel) hE.1 hE.2.1 hS (by rw [hml]; exact hl.1) dX11_many_9 dX11_many_12 dX11_many_13 dX11_many_15 dX11_many_18 (fun x h => (htab x h).elim) (Nat.le_of_ble_eq_true rfl) (Nat.le_of_ble_eq_true rfl) (Nat.le_of_ble_eq_true rfl) (Nat.le_of_ble_eq_true rfl) hlocks (fun t hW h1 h2 => ⟨(), trivial, rfl, z_F hS h1 h2⟩) hS.2.2 (Nat.le_of_ble_eq_true rfl) (Nat.le_of_ble_eq_true rfl)

def wb_c_H_many_0 : List Cond := [.code yX11_countOf cX11_countOf 2 (some .int), .fieldLink RX11 42 "Hornbook" "sorts" "Ljava/util/ArrayList;", .code yJx4a65c_size_8abf5 cJx4a65c_size_8abf5 1 (some .int), .fieldLink RJx4a65c 48 "java/util/ArrayList" "size" "I", .methodLink RX11 73 yJx4a65c_size_8abf5, .instanceMethod yJx4a65c_size_8abf5, .selects RJx4a65c yJx4a65c_size_8abf5 yJx4a65c_size_8abf5, .initialized RJx4a65c, .methodLink RX11 239 yX11_countOf, .instanceMethod yX11_countOf, .selects RX11 yX11_countOf yX11_countOf, .initialized RX11] ++ u_ws RJx4a65c TJx4a65c 3 ++ u_ws RX11 TX11 10
def w_c_H_many_0 : List Cond := .code yX11_many cX11_many 2 (some .int) :: wb_c_H_many_0
set_option maxRecDepth 100000 in
theorem g_c_H_many_0_0 : GoodIn w_c_H_many_0 (wsV RX11 239 RX11 yX11_countOf w_c_H_countOf_0) := goodIn_app (goodIn_of _ (by decide +kernel)) (goodIn_p (big := w_c_H_many_0) (.code yX11_countOf cX11_countOf 2 (some .int) :: wb_c_H_countOf_0) [1, 3] rfl (by decide +kernel))
set_option maxHeartbeats 4000000 in
set_option maxRecDepth 100000 in
theorem c_H_many_0 (l : Launch) (eD eI : Nat) (ad : Nat → Nat) (dC : Nat → ClassId) (dI : Nat → Nat → Nat) (sz : Nat) (hh : Nat) (aexpr : Nat) (achoo : Nat) (ameth : Nat) (aroom : Nat) (anod : Nat) (asort : Nat) (anote : Nat) (amet : Nat) : Met l yX11_many w_c_H_many_0 ({ frames := 2, cells := 0, slots := 0, locals := 41 }) (va_Pc [.ref hh, .int 0] (zPre eD eI ad (dC, dI) [(hh, .inr (13, [.ref aexpr, .ref achoo, .ref ameth, .ref aroom, .ref anod, .ref asort, .ref anote, .ref amet, .int 0, .int 1])), (asort, .inr (1, [.int 0, .ref eD, .int 0]))] [] sz)) (va_Qi (fun (r : Int32) (_ : Unit) => r = 0) (fun (_ : Unit) => zEnd (dC, dI) (va_A [(hh, .inr (13, [.ref aexpr, .ref achoo, .ref ameth, .ref aroom, .ref anod, .ref asort, .ref anote, .ref amet, .int 0, .int 1])), (asort, .inr (1, [.int 0, .ref eD, .int 0]))] sz) [(hh, .inr (13, [.ref aexpr, .ref achoo, .ref ameth, .ref aroom, .ref anod, .ref asort, .ref anote, .ref amet, .int 0, .int 1])), (asort, .inr (1, [.int 0, .ref eD, .int 0]))] []) (va_A [(hh, .inr (13, [.ref aexpr, .ref achoo, .ref ameth, .ref aroom, .ref anod, .ref asort, .ref anote, .ref amet, .int 0, .int 1])), (asort, .inr (1, [.int 0, .ref eD, .int 0]))] sz)) 0 0 (va_A [(hh, .inr (13, [.ref aexpr, .ref achoo, .ref ameth, .ref aroom, .ref anod, .ref asort, .ref anote, .ref amet, .int 0, .int 1])), (asort, .inr (1, [.int 0, .ref eD, .int 0]))] sz) := by
  refine Met.ofW (cc := cX11_many) (maxL := 2) (ret := (some .int)) (by decide) rfl ?_
  intro p e s m args below meth c s₁ B hml hv
  obtain ⟨rfl, hsz, hP, hK, hD0, hE⟩ := hv
  have hx := B.exec
  have hb := B.bytes
  have hr := B.returns
  have hts := atoms_spec (ws := w_c_H_many_0) B.pre
  have hown : s.vm.findClass RX11 = some m.cls := findClass_of_methodNamed B.named
  have hlocks := B.notSynchronized
  subst hsz
  have hD := hD0.self (sz := s.heap.size)
  generalize hAe : va_A [(hh, .inr (13, [.ref aexpr, .ref achoo, .ref ameth, .ref aroom, .ref anod, .ref asort, .ref anote, .ref amet, .int 0, .int 1])), (asort, .inr (1, [.int 0, .ref eD, .int 0]))] s.heap.size = A at hD hE ⊢
  have hA : ∀ q : Nat, s.heap.size ≤ q → A q := fun q h => by rw [← hAe]; exact Or.inr h
  have hS : va_S A s.heap s.heap [] := va_S.rf
  have hP : va_P (dC, dI) vwCl [(hh, .inr (13, [.ref aexpr, .ref achoo, .ref ameth, .ref aroom, .ref anod, .ref asort, .ref anote, .ref amet, .int 0, .int 1])), (asort, .inr (1, [.int 0, .ref eD, .int 0]))] s.heap := hP
  have hl := lv_entry ([.ref hh, .int 0]) (n := 2) (Nat.le_of_ble_eq_true rfl)
  rw [lg_entry_eq]
  generalize (lg_sl ([.ref hh, .int 0]) ++ List.replicate (2 - (lg_sl ([.ref hh, .int 0])).length) Slot.unset).toArray = ls at hl ⊢
  have hl : lv_has ls 2 [(0, .ref hh), (1, .int 0)] := hl
  have in_RJx4a65c : ∀ w ∈ u_ws RJx4a65c TJx4a65c 3, w ∈ w_c_H_many_0 := by decide +kernel
  have in_RX11 : ∀ w ∈ u_ws RX11 TX11 10, w ∈ w_c_H_many_0 := by decide +kernel
  refine lv_iload_n hx hb dX11_many_0 rfl (lv_at hl 1 rfl) ?_
  refine lv_if_lt (tgt := 9) hx hb dX11_many_1 (by decide) (fun c_1 => ?_) (fun c_1 => ?_)
  · exact absurd c_1 (by decide)
  refine lv_iload_n hx hb dX11_many_4 rfl (lv_at hl 1 rfl) ?_
  refine lv_iconst (v := 3) hx hb dX11_many_5 (by decide) ?_
  refine lv_icmp_le (tgt := 19) hx hb dX11_many_6 (by decide) (fun c_2 => ?_) (fun c_2 => ?_)
  rotate_left
  · exact absurd (by decide) c_2
  refine lv_aload_n hx hb dX11_many_19 rfl (lv_at hl 0 rfl) ?_
  refine lv_iload_n hx hb dX11_many_20 rfl (lv_at hl 1 rfl) ?_
  refine z_i (wr := []) (va_runV (As := [.int 0]) (rest := []) ⟨hx, hb, hml, hown, hts⟩ (c_H_countOf_0 l eD eI ad dC dI s.heap.size hh aexpr achoo ameth aroom anod asort anote amet) (cwV 1 hts g_c_H_many_0_0 rfl rfl rfl (by decide +kernel) ⟨Nat.le_of_ble_eq_true rfl, Nat.le_of_ble_eq_true rfl⟩) (z_preV (wc := [(hh, .inr (13, [.ref aexpr, .ref achoo, .ref ameth, .ref aroom, .ref anod, .ref asort, .ref anote, .ref amet, .int 0, .int 1])), (asort, .inr (1, [.int 0, .ref eD, .int 0]))]) hP hD hK hS hA hE [0, 1] [] rfl (by decide) rfl (ci := 13) (q0 := 0) rfl rfl) rfl rfl hl.1 rfl (lv_room (Nat.le_of_ble_eq_true rfl)) dX11_many_21 ⟨Nat.le_of_ble_eq_true rfl, Nat.le_of_ble_eq_true rfl⟩) hP hD hK hS hA [0, 1] [] rfl rfl (by decide) (by decide) (fun r_3 u H locs hw_4 hP hD hK hS => ?_)
  obtain ⟨⟩ := u
  have hP : va_P (dC, dI) vwCl [(hh, .inr (13, [.ref aexpr, .ref achoo, .ref ameth, .ref aroom, .ref anod, .ref asort, .ref anote, .ref amet, .int 0, .int 1])), (asort, .inr (1, [.int 0, .ref eD, .int 0]))] H := hP
  have hD : va_D A [(hh, .inr (13, [.ref aexpr, .ref achoo, .ref ameth, .ref aroom, .ref anod, .ref asort, .ref anote, .ref amet, .int 0, .int 1])), (asort, .inr (1, [.int 0, .ref eD, .int 0]))] := hD
  have hK : va_K (dC, dI) vwCl [] s := by simpa using hK
  have hw_4 : r_3 = 0 := hw_4
  have hw_4 := hw_4.symm
  subst hw_4
  have hP9 := hP.sub (ws' := [(hh, .inr (13, [.ref aexpr, .ref achoo, .ref ameth, .ref aroom, .ref anod, .ref asort, .ref anote, .ref amet, .int 0, .int 1])), (asort, .inr (1, [.int 0, .ref eD, .int 0]))]) [0, 1] rfl
  have hD9 := hD.sub (ws' := [(hh, .inr (13, [.ref aexpr, .ref achoo, .ref ameth, .ref aroom, .ref anod, .ref asort, .ref anote, .ref amet, .int 0, .int 1])), (asort, .inr (1, [.int 0, .ref eD, .int 0]))]) [0, 1] (by decide) rfl
  have hK9 := hK.sub (tys' := []) [] rfl
  refine W.widen (k := 0) (n := 0) (Nat.le_of_ble_eq_true rfl) (Nat.le_of_ble_eq_true rfl) ?_
  exact W.iret (v := 0) hx hb hr (fun t ht hW => ⟨⟨0, (), rfl, rfl, ⟨by rw [ht]; exact hP9, va_K.moved hW.alike hK9, hD9⟩⟩, hS.F ht⟩) hS.2.2 dX11_many_24

def wb_c_H_many_1 : List Cond := [.code yX11_countOf cX11_countOf 2 (some .int), .fieldLink RX11 31 "Hornbook" "room" "LHornbook$Room;", .fieldLink RX11 344 "Hornbook$Room" "tellings" "I", .methodLink RX11 239 yX11_countOf, .instanceMethod yX11_countOf, .selects RX11 yX11_countOf yX11_countOf, .initialized RX11] ++ u_ws RX11 TX11 10 ++ u_ws RX7 TX7 14
def w_c_H_many_1 : List Cond := .code yX11_many cX11_many 2 (some .int) :: wb_c_H_many_1
set_option maxRecDepth 100000 in
theorem g_c_H_many_1_0 : GoodIn w_c_H_many_1 (wsV RX11 239 RX11 yX11_countOf w_c_H_countOf_1) := goodIn_app (goodIn_of _ (by decide +kernel)) (goodIn_p (big := w_c_H_many_1) (.code yX11_countOf cX11_countOf 2 (some .int) :: wb_c_H_countOf_1) [1] rfl (by decide +kernel))
set_option maxHeartbeats 4000000 in
set_option maxRecDepth 100000 in
theorem c_H_many_1 (l : Launch) (eD eI : Nat) (ad : Nat → Nat) (dC : Nat → ClassId) (dI : Nat → Nat → Nat) (sz : Nat) (hh : Nat) (aexpr : Nat) (achoo : Nat) (ameth : Nat) (aroom : Nat) (anod : Nat) (asort : Nat) (anote : Nat) (amet : Nat) (atold : Nat) (aheld : Nat) (apair : Nat) (astep : Nat) (asize : Nat) : Met l yX11_many w_c_H_many_1 ({ frames := 1, cells := 0, slots := 0, locals := 21 }) (va_Pc [.ref hh, .int 1] (zPre eD eI ad (dC, dI) [(hh, .inr (13, [.ref aexpr, .ref achoo, .ref ameth, .ref aroom, .ref anod, .ref asort, .ref anote, .ref amet, .int 0, .int 1])), (aroom, .inr (9, [.ref asort, .ref anod, .ref atold, .int 3, .ref aheld, .int 0, .ref apair, .ref astep, .int 0, .int 0, .int (-1), .int 0, .int 0, .ref asize]))] [] sz)) (va_Qi (fun (r : Int32) (_ : Unit) => r = 3) (fun (_ : Unit) => zEnd (dC, dI) (va_A [(hh, .inr (13, [.ref aexpr, .ref achoo, .ref ameth, .ref aroom, .ref anod, .ref asort, .ref anote, .ref amet, .int 0, .int 1])), (aroom, .inr (9, [.ref asort, .ref anod, .ref atold, .int 3, .ref aheld, .int 0, .ref apair, .ref astep, .int 0, .int 0, .int (-1), .int 0, .int 0, .ref asize]))] sz) [(hh, .inr (13, [.ref aexpr, .ref achoo, .ref ameth, .ref aroom, .ref anod, .ref asort, .ref anote, .ref amet, .int 0, .int 1])), (aroom, .inr (9, [.ref asort, .ref anod, .ref atold, .int 3, .ref aheld, .int 0, .ref apair, .ref astep, .int 0, .int 0, .int (-1), .int 0, .int 0, .ref asize]))] []) (va_A [(hh, .inr (13, [.ref aexpr, .ref achoo, .ref ameth, .ref aroom, .ref anod, .ref asort, .ref anote, .ref amet, .int 0, .int 1])), (aroom, .inr (9, [.ref asort, .ref anod, .ref atold, .int 3, .ref aheld, .int 0, .ref apair, .ref astep, .int 0, .int 0, .int (-1), .int 0, .int 0, .ref asize]))] sz)) 0 0 (va_A [(hh, .inr (13, [.ref aexpr, .ref achoo, .ref ameth, .ref aroom, .ref anod, .ref asort, .ref anote, .ref amet, .int 0, .int 1])), (aroom, .inr (9, [.ref asort, .ref anod, .ref atold, .int 3, .ref aheld, .int 0, .ref apair, .ref astep, .int 0, .int 0, .int (-1), .int 0, .int 0, .ref asize]))] sz) := by
  refine Met.ofW (cc := cX11_many) (maxL := 2) (ret := (some .int)) (by decide) rfl ?_
  intro p e s m args below meth c s₁ B hml hv
  obtain ⟨rfl, hsz, hP, hK, hD0, hE⟩ := hv
  have hx := B.exec
  have hb := B.bytes
  have hr := B.returns
  have hts := atoms_spec (ws := w_c_H_many_1) B.pre
  have hown : s.vm.findClass RX11 = some m.cls := findClass_of_methodNamed B.named
  have hlocks := B.notSynchronized
  subst hsz
  have hD := hD0.self (sz := s.heap.size)
  generalize hAe : va_A [(hh, .inr (13, [.ref aexpr, .ref achoo, .ref ameth, .ref aroom, .ref anod, .ref asort, .ref anote, .ref amet, .int 0, .int 1])), (aroom, .inr (9, [.ref asort, .ref anod, .ref atold, .int 3, .ref aheld, .int 0, .ref apair, .ref astep, .int 0, .int 0, .int (-1), .int 0, .int 0, .ref asize]))] s.heap.size = A at hD hE ⊢
  have hA : ∀ q : Nat, s.heap.size ≤ q → A q := fun q h => by rw [← hAe]; exact Or.inr h
  have hS : va_S A s.heap s.heap [] := va_S.rf
  have hP : va_P (dC, dI) vwCl [(hh, .inr (13, [.ref aexpr, .ref achoo, .ref ameth, .ref aroom, .ref anod, .ref asort, .ref anote, .ref amet, .int 0, .int 1])), (aroom, .inr (9, [.ref asort, .ref anod, .ref atold, .int 3, .ref aheld, .int 0, .ref apair, .ref astep, .int 0, .int 0, .int (-1), .int 0, .int 0, .ref asize]))] s.heap := hP
  have hl := lv_entry ([.ref hh, .int 1]) (n := 2) (Nat.le_of_ble_eq_true rfl)
  rw [lg_entry_eq]
  generalize (lg_sl ([.ref hh, .int 1]) ++ List.replicate (2 - (lg_sl ([.ref hh, .int 1])).length) Slot.unset).toArray = ls at hl ⊢
  have hl : lv_has ls 2 [(0, .ref hh), (1, .int 1)] := hl
  have in_RX11 : ∀ w ∈ u_ws RX11 TX11 10, w ∈ w_c_H_many_1 := by decide +kernel
  have in_RX7 : ∀ w ∈ u_ws RX7 TX7 14, w ∈ w_c_H_many_1 := by decide +kernel
  refine lv_iload_n hx hb dX11_many_0 rfl (lv_at hl 1 rfl) ?_
  refine lv_if_lt (tgt := 9) hx hb dX11_many_1 (by decide) (fun c_1 => ?_) (fun c_1 => ?_)
  · exact absurd c_1 (by decide)
  refine lv_iload_n hx hb dX11_many_4 rfl (lv_at hl 1 rfl) ?_
  refine lv_iconst (v := 3) hx hb dX11_many_5 (by decide) ?_
  refine lv_icmp_le (tgt := 19) hx hb dX11_many_6 (by decide) (fun c_2 => ?_) (fun c_2 => ?_)
  rotate_left
  · exact absurd (by decide) c_2
  refine lv_aload_n hx hb dX11_many_19 rfl (lv_at hl 0 rfl) ?_
  refine lv_iload_n hx hb dX11_many_20 rfl (lv_at hl 1 rfl) ?_
  refine z_i (wr := []) (va_runV (As := [.int 1]) (rest := []) ⟨hx, hb, hml, hown, hts⟩ (c_H_countOf_1 l eD eI ad dC dI s.heap.size hh aexpr achoo ameth aroom anod asort anote amet atold aheld apair astep asize) (cwV 1 hts g_c_H_many_1_0 rfl rfl rfl (by decide +kernel) ⟨Nat.le_of_ble_eq_true rfl, Nat.le_of_ble_eq_true rfl⟩) (z_preV (wc := [(hh, .inr (13, [.ref aexpr, .ref achoo, .ref ameth, .ref aroom, .ref anod, .ref asort, .ref anote, .ref amet, .int 0, .int 1])), (aroom, .inr (9, [.ref asort, .ref anod, .ref atold, .int 3, .ref aheld, .int 0, .ref apair, .ref astep, .int 0, .int 0, .int (-1), .int 0, .int 0, .ref asize]))]) hP hD hK hS hA hE [0, 1] [] rfl (by decide) rfl (ci := 13) (q0 := 0) rfl rfl) rfl rfl hl.1 rfl (lv_room (Nat.le_of_ble_eq_true rfl)) dX11_many_21 ⟨Nat.le_of_ble_eq_true rfl, Nat.le_of_ble_eq_true rfl⟩) hP hD hK hS hA [0, 1] [] rfl rfl (by decide) (by decide) (fun r_3 u H locs hw_4 hP hD hK hS => ?_)
  obtain ⟨⟩ := u
  have hP : va_P (dC, dI) vwCl [(hh, .inr (13, [.ref aexpr, .ref achoo, .ref ameth, .ref aroom, .ref anod, .ref asort, .ref anote, .ref amet, .int 0, .int 1])), (aroom, .inr (9, [.ref asort, .ref anod, .ref atold, .int 3, .ref aheld, .int 0, .ref apair, .ref astep, .int 0, .int 0, .int (-1), .int 0, .int 0, .ref asize]))] H := hP
  have hD : va_D A [(hh, .inr (13, [.ref aexpr, .ref achoo, .ref ameth, .ref aroom, .ref anod, .ref asort, .ref anote, .ref amet, .int 0, .int 1])), (aroom, .inr (9, [.ref asort, .ref anod, .ref atold, .int 3, .ref aheld, .int 0, .ref apair, .ref astep, .int 0, .int 0, .int (-1), .int 0, .int 0, .ref asize]))] := hD
  have hK : va_K (dC, dI) vwCl [] s := by simpa using hK
  have hw_4 : r_3 = 3 := hw_4
  have hw_4 := hw_4.symm
  subst hw_4
  have hP9 := hP.sub (ws' := [(hh, .inr (13, [.ref aexpr, .ref achoo, .ref ameth, .ref aroom, .ref anod, .ref asort, .ref anote, .ref amet, .int 0, .int 1])), (aroom, .inr (9, [.ref asort, .ref anod, .ref atold, .int 3, .ref aheld, .int 0, .ref apair, .ref astep, .int 0, .int 0, .int (-1), .int 0, .int 0, .ref asize]))]) [0, 1] rfl
  have hD9 := hD.sub (ws' := [(hh, .inr (13, [.ref aexpr, .ref achoo, .ref ameth, .ref aroom, .ref anod, .ref asort, .ref anote, .ref amet, .int 0, .int 1])), (aroom, .inr (9, [.ref asort, .ref anod, .ref atold, .int 3, .ref aheld, .int 0, .ref apair, .ref astep, .int 0, .int 0, .int (-1), .int 0, .int 0, .ref asize]))]) [0, 1] (by decide) rfl
  have hK9 := hK.sub (tys' := []) [] rfl
  refine W.widen (k := 0) (n := 0) (Nat.le_of_ble_eq_true rfl) (Nat.le_of_ble_eq_true rfl) ?_
  exact W.iret (v := 3) hx hb hr (fun t ht hW => ⟨⟨3, (), rfl, rfl, ⟨by rw [ht]; exact hP9, va_K.moved hW.alike hK9, hD9⟩⟩, hS.F ht⟩) hS.2.2 dX11_many_24

def wb_c_H_many_2 : List Cond := [.code yX11_countOf cX11_countOf 2 (some .int), .fieldLink RX11 26 "Hornbook" "methods" "Ljava/util/ArrayList;", .code yJx4a65c_size_8abf5 cJx4a65c_size_8abf5 1 (some .int), .fieldLink RJx4a65c 48 "java/util/ArrayList" "size" "I", .methodLink RX11 73 yJx4a65c_size_8abf5, .instanceMethod yJx4a65c_size_8abf5, .selects RJx4a65c yJx4a65c_size_8abf5 yJx4a65c_size_8abf5, .initialized RJx4a65c, .methodLink RX11 239 yX11_countOf, .instanceMethod yX11_countOf, .selects RX11 yX11_countOf yX11_countOf, .initialized RX11] ++ u_ws RJx4a65c TJx4a65c 3 ++ u_ws RX11 TX11 10
def w_c_H_many_2 : List Cond := .code yX11_many cX11_many 2 (some .int) :: wb_c_H_many_2
set_option maxRecDepth 100000 in
theorem g_c_H_many_2_0 : GoodIn w_c_H_many_2 (wsV RX11 239 RX11 yX11_countOf w_c_H_countOf_2) := goodIn_app (goodIn_of _ (by decide +kernel)) (goodIn_p (big := w_c_H_many_2) (.code yX11_countOf cX11_countOf 2 (some .int) :: wb_c_H_countOf_2) [1, 3] rfl (by decide +kernel))
set_option maxHeartbeats 4000000 in
set_option maxRecDepth 100000 in
theorem c_H_many_2 (l : Launch) (eD eI : Nat) (ad : Nat → Nat) (dC : Nat → ClassId) (dI : Nat → Nat → Nat) (sz : Nat) (hh : Nat) (aexpr : Nat) (achoo : Nat) (ameth : Nat) (aroom : Nat) (anod : Nat) (asort : Nat) (anote : Nat) (amet : Nat) : Met l yX11_many w_c_H_many_2 ({ frames := 2, cells := 0, slots := 0, locals := 41 }) (va_Pc [.ref hh, .int 2] (zPre eD eI ad (dC, dI) [(hh, .inr (13, [.ref aexpr, .ref achoo, .ref ameth, .ref aroom, .ref anod, .ref asort, .ref anote, .ref amet, .int 0, .int 1])), (ameth, .inr (1, [.int 0, .ref eD, .int 0]))] [] sz)) (va_Qi (fun (r : Int32) (_ : Unit) => r = 0) (fun (_ : Unit) => zEnd (dC, dI) (va_A [(hh, .inr (13, [.ref aexpr, .ref achoo, .ref ameth, .ref aroom, .ref anod, .ref asort, .ref anote, .ref amet, .int 0, .int 1])), (ameth, .inr (1, [.int 0, .ref eD, .int 0]))] sz) [(hh, .inr (13, [.ref aexpr, .ref achoo, .ref ameth, .ref aroom, .ref anod, .ref asort, .ref anote, .ref amet, .int 0, .int 1])), (ameth, .inr (1, [.int 0, .ref eD, .int 0]))] []) (va_A [(hh, .inr (13, [.ref aexpr, .ref achoo, .ref ameth, .ref aroom, .ref anod, .ref asort, .ref anote, .ref amet, .int 0, .int 1])), (ameth, .inr (1, [.int 0, .ref eD, .int 0]))] sz)) 0 0 (va_A [(hh, .inr (13, [.ref aexpr, .ref achoo, .ref ameth, .ref aroom, .ref anod, .ref asort, .ref anote, .ref amet, .int 0, .int 1])), (ameth, .inr (1, [.int 0, .ref eD, .int 0]))] sz) := by
  refine Met.ofW (cc := cX11_many) (maxL := 2) (ret := (some .int)) (by decide) rfl ?_
  intro p e s m args below meth c s₁ B hml hv
  obtain ⟨rfl, hsz, hP, hK, hD0, hE⟩ := hv
  have hx := B.exec
  have hb := B.bytes
  have hr := B.returns
  have hts := atoms_spec (ws := w_c_H_many_2) B.pre
  have hown : s.vm.findClass RX11 = some m.cls := findClass_of_methodNamed B.named
  have hlocks := B.notSynchronized
  subst hsz
  have hD := hD0.self (sz := s.heap.size)
  generalize hAe : va_A [(hh, .inr (13, [.ref aexpr, .ref achoo, .ref ameth, .ref aroom, .ref anod, .ref asort, .ref anote, .ref amet, .int 0, .int 1])), (ameth, .inr (1, [.int 0, .ref eD, .int 0]))] s.heap.size = A at hD hE ⊢
  have hA : ∀ q : Nat, s.heap.size ≤ q → A q := fun q h => by rw [← hAe]; exact Or.inr h
  have hS : va_S A s.heap s.heap [] := va_S.rf
  have hP : va_P (dC, dI) vwCl [(hh, .inr (13, [.ref aexpr, .ref achoo, .ref ameth, .ref aroom, .ref anod, .ref asort, .ref anote, .ref amet, .int 0, .int 1])), (ameth, .inr (1, [.int 0, .ref eD, .int 0]))] s.heap := hP
  have hl := lv_entry ([.ref hh, .int 2]) (n := 2) (Nat.le_of_ble_eq_true rfl)
  rw [lg_entry_eq]
  generalize (lg_sl ([.ref hh, .int 2]) ++ List.replicate (2 - (lg_sl ([.ref hh, .int 2])).length) Slot.unset).toArray = ls at hl ⊢
  have hl : lv_has ls 2 [(0, .ref hh), (1, .int 2)] := hl
  have in_RJx4a65c : ∀ w ∈ u_ws RJx4a65c TJx4a65c 3, w ∈ w_c_H_many_2 := by decide +kernel
  have in_RX11 : ∀ w ∈ u_ws RX11 TX11 10, w ∈ w_c_H_many_2 := by decide +kernel
  refine lv_iload_n hx hb dX11_many_0 rfl (lv_at hl 1 rfl) ?_
  refine lv_if_lt (tgt := 9) hx hb dX11_many_1 (by decide) (fun c_1 => ?_) (fun c_1 => ?_)
  · exact absurd c_1 (by decide)
  refine lv_iload_n hx hb dX11_many_4 rfl (lv_at hl 1 rfl) ?_
  refine lv_iconst (v := 3) hx hb dX11_many_5 (by decide) ?_
  refine lv_icmp_le (tgt := 19) hx hb dX11_many_6 (by decide) (fun c_2 => ?_) (fun c_2 => ?_)
  rotate_left
  · exact absurd (by decide) c_2
  refine lv_aload_n hx hb dX11_many_19 rfl (lv_at hl 0 rfl) ?_
  refine lv_iload_n hx hb dX11_many_20 rfl (lv_at hl 1 rfl) ?_
  refine z_i (wr := []) (va_runV (As := [.int 2]) (rest := []) ⟨hx, hb, hml, hown, hts⟩ (c_H_countOf_2 l eD eI ad dC dI s.heap.size hh aexpr achoo ameth aroom anod asort anote amet) (cwV 1 hts g_c_H_many_2_0 rfl rfl rfl (by decide +kernel) ⟨Nat.le_of_ble_eq_true rfl, Nat.le_of_ble_eq_true rfl⟩) (z_preV (wc := [(hh, .inr (13, [.ref aexpr, .ref achoo, .ref ameth, .ref aroom, .ref anod, .ref asort, .ref anote, .ref amet, .int 0, .int 1])), (ameth, .inr (1, [.int 0, .ref eD, .int 0]))]) hP hD hK hS hA hE [0, 1] [] rfl (by decide) rfl (ci := 13) (q0 := 0) rfl rfl) rfl rfl hl.1 rfl (lv_room (Nat.le_of_ble_eq_true rfl)) dX11_many_21 ⟨Nat.le_of_ble_eq_true rfl, Nat.le_of_ble_eq_true rfl⟩) hP hD hK hS hA [0, 1] [] rfl rfl (by decide) (by decide) (fun r_3 u H locs hw_4 hP hD hK hS => ?_)
  obtain ⟨⟩ := u
  have hP : va_P (dC, dI) vwCl [(hh, .inr (13, [.ref aexpr, .ref achoo, .ref ameth, .ref aroom, .ref anod, .ref asort, .ref anote, .ref amet, .int 0, .int 1])), (ameth, .inr (1, [.int 0, .ref eD, .int 0]))] H := hP
  have hD : va_D A [(hh, .inr (13, [.ref aexpr, .ref achoo, .ref ameth, .ref aroom, .ref anod, .ref asort, .ref anote, .ref amet, .int 0, .int 1])), (ameth, .inr (1, [.int 0, .ref eD, .int 0]))] := hD
  have hK : va_K (dC, dI) vwCl [] s := by simpa using hK
  have hw_4 : r_3 = 0 := hw_4
  have hw_4 := hw_4.symm
  subst hw_4
  have hP9 := hP.sub (ws' := [(hh, .inr (13, [.ref aexpr, .ref achoo, .ref ameth, .ref aroom, .ref anod, .ref asort, .ref anote, .ref amet, .int 0, .int 1])), (ameth, .inr (1, [.int 0, .ref eD, .int 0]))]) [0, 1] rfl
  have hD9 := hD.sub (ws' := [(hh, .inr (13, [.ref aexpr, .ref achoo, .ref ameth, .ref aroom, .ref anod, .ref asort, .ref anote, .ref amet, .int 0, .int 1])), (ameth, .inr (1, [.int 0, .ref eD, .int 0]))]) [0, 1] (by decide) rfl
  have hK9 := hK.sub (tys' := []) [] rfl
  refine W.widen (k := 0) (n := 0) (Nat.le_of_ble_eq_true rfl) (Nat.le_of_ble_eq_true rfl) ?_
  exact W.iret (v := 0) hx hb hr (fun t ht hW => ⟨⟨0, (), rfl, rfl, ⟨by rw [ht]; exact hP9, va_K.moved hW.alike hK9, hD9⟩⟩, hS.F ht⟩) hS.2.2 dX11_many_24

def wb_c_H_many_3 : List Cond := [.code yX11_countOf cX11_countOf 2 (some .int), .fieldLink RX11 12 "Hornbook" "expressions" "Ljava/util/ArrayList;", .code yJx4a65c_size_8abf5 cJx4a65c_size_8abf5 1 (some .int), .fieldLink RJx4a65c 48 "java/util/ArrayList" "size" "I", .methodLink RX11 73 yJx4a65c_size_8abf5, .instanceMethod yJx4a65c_size_8abf5, .selects RJx4a65c yJx4a65c_size_8abf5 yJx4a65c_size_8abf5, .initialized RJx4a65c, .methodLink RX11 239 yX11_countOf, .instanceMethod yX11_countOf, .selects RX11 yX11_countOf yX11_countOf, .initialized RX11] ++ u_ws RJx4a65c TJx4a65c 3 ++ u_ws RX11 TX11 10
def w_c_H_many_3 : List Cond := .code yX11_many cX11_many 2 (some .int) :: wb_c_H_many_3
set_option maxRecDepth 100000 in
theorem g_c_H_many_3_0 : GoodIn w_c_H_many_3 (wsV RX11 239 RX11 yX11_countOf w_c_H_countOf_3) := goodIn_app (goodIn_of _ (by decide +kernel)) (goodIn_p (big := w_c_H_many_3) (.code yX11_countOf cX11_countOf 2 (some .int) :: wb_c_H_countOf_3) [1, 3] rfl (by decide +kernel))
set_option maxHeartbeats 4000000 in
set_option maxRecDepth 100000 in
theorem c_H_many_3 (l : Launch) (eD eI : Nat) (ad : Nat → Nat) (dC : Nat → ClassId) (dI : Nat → Nat → Nat) (sz : Nat) (hh : Nat) (aexpr : Nat) (achoo : Nat) (ameth : Nat) (aroom : Nat) (anod : Nat) (asort : Nat) (anote : Nat) (amet : Nat) : Met l yX11_many w_c_H_many_3 ({ frames := 2, cells := 0, slots := 0, locals := 41 }) (va_Pc [.ref hh, .int 3] (zPre eD eI ad (dC, dI) [(hh, .inr (13, [.ref aexpr, .ref achoo, .ref ameth, .ref aroom, .ref anod, .ref asort, .ref anote, .ref amet, .int 0, .int 1])), (aexpr, .inr (1, [.int 0, .ref eD, .int 0]))] [] sz)) (va_Qi (fun (r : Int32) (_ : Unit) => r = 0) (fun (_ : Unit) => zEnd (dC, dI) (va_A [(hh, .inr (13, [.ref aexpr, .ref achoo, .ref ameth, .ref aroom, .ref anod, .ref asort, .ref anote, .ref amet, .int 0, .int 1])), (aexpr, .inr (1, [.int 0, .ref eD, .int 0]))] sz) [(hh, .inr (13, [.ref aexpr, .ref achoo, .ref ameth, .ref aroom, .ref anod, .ref asort, .ref anote, .ref amet, .int 0, .int 1])), (aexpr, .inr (1, [.int 0, .ref eD, .int 0]))] []) (va_A [(hh, .inr (13, [.ref aexpr, .ref achoo, .ref ameth, .ref aroom, .ref anod, .ref asort, .ref anote, .ref amet, .int 0, .int 1])), (aexpr, .inr (1, [.int 0, .ref eD, .int 0]))] sz)) 0 0 (va_A [(hh, .inr (13, [.ref aexpr, .ref achoo, .ref ameth, .ref aroom, .ref anod, .ref asort, .ref anote, .ref amet, .int 0, .int 1])), (aexpr, .inr (1, [.int 0, .ref eD, .int 0]))] sz) := by
  refine Met.ofW (cc := cX11_many) (maxL := 2) (ret := (some .int)) (by decide) rfl ?_
  intro p e s m args below meth c s₁ B hml hv
  obtain ⟨rfl, hsz, hP, hK, hD0, hE⟩ := hv
  have hx := B.exec
  have hb := B.bytes
  have hr := B.returns
  have hts := atoms_spec (ws := w_c_H_many_3) B.pre
  have hown : s.vm.findClass RX11 = some m.cls := findClass_of_methodNamed B.named
  have hlocks := B.notSynchronized
  subst hsz
  have hD := hD0.self (sz := s.heap.size)
  generalize hAe : va_A [(hh, .inr (13, [.ref aexpr, .ref achoo, .ref ameth, .ref aroom, .ref anod, .ref asort, .ref anote, .ref amet, .int 0, .int 1])), (aexpr, .inr (1, [.int 0, .ref eD, .int 0]))] s.heap.size = A at hD hE ⊢
  have hA : ∀ q : Nat, s.heap.size ≤ q → A q := fun q h => by rw [← hAe]; exact Or.inr h
  have hS : va_S A s.heap s.heap [] := va_S.rf
  have hP : va_P (dC, dI) vwCl [(hh, .inr (13, [.ref aexpr, .ref achoo, .ref ameth, .ref aroom, .ref anod, .ref asort, .ref anote, .ref amet, .int 0, .int 1])), (aexpr, .inr (1, [.int 0, .ref eD, .int 0]))] s.heap := hP
  have hl := lv_entry ([.ref hh, .int 3]) (n := 2) (Nat.le_of_ble_eq_true rfl)
  rw [lg_entry_eq]
  generalize (lg_sl ([.ref hh, .int 3]) ++ List.replicate (2 - (lg_sl ([.ref hh, .int 3])).length) Slot.unset).toArray = ls at hl ⊢
  have hl : lv_has ls 2 [(0, .ref hh), (1, .int 3)] := hl
  have in_RJx4a65c : ∀ w ∈ u_ws RJx4a65c TJx4a65c 3, w ∈ w_c_H_many_3 := by decide +kernel
  have in_RX11 : ∀ w ∈ u_ws RX11 TX11 10, w ∈ w_c_H_many_3 := by decide +kernel
  refine lv_iload_n hx hb dX11_many_0 rfl (lv_at hl 1 rfl) ?_
  refine lv_if_lt (tgt := 9) hx hb dX11_many_1 (by decide) (fun c_1 => ?_) (fun c_1 => ?_)
  · exact absurd c_1 (by decide)
  refine lv_iload_n hx hb dX11_many_4 rfl (lv_at hl 1 rfl) ?_
  refine lv_iconst (v := 3) hx hb dX11_many_5 (by decide) ?_
  refine lv_icmp_le (tgt := 19) hx hb dX11_many_6 (by decide) (fun c_2 => ?_) (fun c_2 => ?_)
  rotate_left
  · exact absurd (by decide) c_2
  refine lv_aload_n hx hb dX11_many_19 rfl (lv_at hl 0 rfl) ?_
  refine lv_iload_n hx hb dX11_many_20 rfl (lv_at hl 1 rfl) ?_
  refine z_i (wr := []) (va_runV (As := [.int 3]) (rest := []) ⟨hx, hb, hml, hown, hts⟩ (c_H_countOf_3 l eD eI ad dC dI s.heap.size hh aexpr achoo ameth aroom anod asort anote amet) (cwV 1 hts g_c_H_many_3_0 rfl rfl rfl (by decide +kernel) ⟨Nat.le_of_ble_eq_true rfl, Nat.le_of_ble_eq_true rfl⟩) (z_preV (wc := [(hh, .inr (13, [.ref aexpr, .ref achoo, .ref ameth, .ref aroom, .ref anod, .ref asort, .ref anote, .ref amet, .int 0, .int 1])), (aexpr, .inr (1, [.int 0, .ref eD, .int 0]))]) hP hD hK hS hA hE [0, 1] [] rfl (by decide) rfl (ci := 13) (q0 := 0) rfl rfl) rfl rfl hl.1 rfl (lv_room (Nat.le_of_ble_eq_true rfl)) dX11_many_21 ⟨Nat.le_of_ble_eq_true rfl, Nat.le_of_ble_eq_true rfl⟩) hP hD hK hS hA [0, 1] [] rfl rfl (by decide) (by decide) (fun r_3 u H locs hw_4 hP hD hK hS => ?_)
  obtain ⟨⟩ := u
  have hP : va_P (dC, dI) vwCl [(hh, .inr (13, [.ref aexpr, .ref achoo, .ref ameth, .ref aroom, .ref anod, .ref asort, .ref anote, .ref amet, .int 0, .int 1])), (aexpr, .inr (1, [.int 0, .ref eD, .int 0]))] H := hP
  have hD : va_D A [(hh, .inr (13, [.ref aexpr, .ref achoo, .ref ameth, .ref aroom, .ref anod, .ref asort, .ref anote, .ref amet, .int 0, .int 1])), (aexpr, .inr (1, [.int 0, .ref eD, .int 0]))] := hD
  have hK : va_K (dC, dI) vwCl [] s := by simpa using hK
  have hw_4 : r_3 = 0 := hw_4
  have hw_4 := hw_4.symm
  subst hw_4
  have hP9 := hP.sub (ws' := [(hh, .inr (13, [.ref aexpr, .ref achoo, .ref ameth, .ref aroom, .ref anod, .ref asort, .ref anote, .ref amet, .int 0, .int 1])), (aexpr, .inr (1, [.int 0, .ref eD, .int 0]))]) [0, 1] rfl
  have hD9 := hD.sub (ws' := [(hh, .inr (13, [.ref aexpr, .ref achoo, .ref ameth, .ref aroom, .ref anod, .ref asort, .ref anote, .ref amet, .int 0, .int 1])), (aexpr, .inr (1, [.int 0, .ref eD, .int 0]))]) [0, 1] (by decide) rfl
  have hK9 := hK.sub (tys' := []) [] rfl
  refine W.widen (k := 0) (n := 0) (Nat.le_of_ble_eq_true rfl) (Nat.le_of_ble_eq_true rfl) ?_
  exact W.iret (v := 0) hx hb hr (fun t ht hW => ⟨⟨0, (), rfl, rfl, ⟨by rw [ht]; exact hP9, va_K.moved hW.alike hK9, hD9⟩⟩, hS.F ht⟩) hS.2.2 dX11_many_24

def wb_c_H_faults : List Cond := [.code yX11_freshen cX11_freshen 2 none, .fieldLink RX11 54 "Hornbook" "judged" "I", .fieldLink RX11 12 "Hornbook" "expressions" "Ljava/util/ArrayList;", .code yJx4a65c_size_8abf5 cJx4a65c_size_8abf5 1 (some .int), .fieldLink RJx4a65c 48 "java/util/ArrayList" "size" "I", .methodLink RX11 73 yJx4a65c_size_8abf5, .instanceMethod yJx4a65c_size_8abf5, .selects RJx4a65c yJx4a65c_size_8abf5 yJx4a65c_size_8abf5, .initialized RJx4a65c, .methodLink RX11 254 yX11_freshen, .instanceMethod yX11_freshen, .selects RX11 yX11_freshen yX11_freshen, .initialized RX11, .code yX11_countFaults cX11_countFaults 3 (some .int), .methodLink RX11 270 yX11_countFaults, .instanceMethod yX11_countFaults, .selects RX11 yX11_countFaults yX11_countFaults] ++ u_ws RJx4a65c TJx4a65c 3 ++ u_ws RX11 TX11 10
def w_c_H_faults : List Cond := .code yX11_faults cX11_faults 1 (some .int) :: wb_c_H_faults
set_option maxRecDepth 100000 in
theorem g_c_H_faults_0 : GoodIn w_c_H_faults (wsV RX11 254 RX11 yX11_freshen w_c_H_freshen) := goodIn_app (goodIn_of _ (by decide +kernel)) (goodIn_p (big := w_c_H_faults) (.code yX11_freshen cX11_freshen 2 none :: wb_c_H_freshen) [1, 4] rfl (by decide +kernel))
set_option maxRecDepth 100000 in
theorem g_c_H_faults_1 : GoodIn w_c_H_faults (wsV RX11 270 RX11 yX11_countFaults w_c_H_countFaults) := goodIn_app (goodIn_of _ (by decide +kernel)) (goodIn_p (big := w_c_H_faults) (.code yX11_countFaults cX11_countFaults 3 (some .int) :: wb_c_H_countFaults) [14, 4] rfl (by decide +kernel))
set_option maxHeartbeats 4000000 in
set_option maxRecDepth 100000 in
theorem c_H_faults (l : Launch) (eD eI : Nat) (ad : Nat → Nat) (dC : Nat → ClassId) (dI : Nat → Nat → Nat) (sz : Nat) (hh : Nat) (aexpr : Nat) (achoo : Nat) (ameth : Nat) (aroom : Nat) (anod : Nat) (asort : Nat) (anote : Nat) (amet : Nat) : Met l yX11_faults w_c_H_faults ({ frames := 2, cells := 0, slots := 0, locals := 42 }) (va_Pc [.ref hh] (zPre eD eI ad (dC, dI) [(hh, .inr (13, [.ref aexpr, .ref achoo, .ref ameth, .ref aroom, .ref anod, .ref asort, .ref anote, .ref amet, .int 0, .int 1])), (aexpr, .inr (1, [.int 0, .ref eD, .int 0]))] [] sz)) (va_Qi (fun (r : Int32) (_ : Unit) => r = 0) (fun (_ : Unit) => zEnd (dC, dI) (va_A [(hh, .inr (13, [.ref aexpr, .ref achoo, .ref ameth, .ref aroom, .ref anod, .ref asort, .ref anote, .ref amet, .int 0, .int 1])), (aexpr, .inr (1, [.int 0, .ref eD, .int 0]))] sz) [(hh, .inr (13, [.ref aexpr, .ref achoo, .ref ameth, .ref aroom, .ref anod, .ref asort, .ref anote, .ref amet, .int 0, .int 1])), (aexpr, .inr (1, [.int 0, .ref eD, .int 0]))] []) (va_A [(hh, .inr (13, [.ref aexpr, .ref achoo, .ref ameth, .ref aroom, .ref anod, .ref asort, .ref anote, .ref amet, .int 0, .int 1])), (aexpr, .inr (1, [.int 0, .ref eD, .int 0]))] sz)) 0 0 (va_A [(hh, .inr (13, [.ref aexpr, .ref achoo, .ref ameth, .ref aroom, .ref anod, .ref asort, .ref anote, .ref amet, .int 0, .int 1])), (aexpr, .inr (1, [.int 0, .ref eD, .int 0]))] sz) := by
  refine Met.ofW (cc := cX11_faults) (maxL := 1) (ret := (some .int)) (by decide) rfl ?_
  intro p e s m args below meth c s₁ B hml hv
  obtain ⟨rfl, hsz, hP, hK, hD0, hE⟩ := hv
  have hx := B.exec
  have hb := B.bytes
  have hr := B.returns
  have hts := atoms_spec (ws := w_c_H_faults) B.pre
  have hown : s.vm.findClass RX11 = some m.cls := findClass_of_methodNamed B.named
  have hlocks := B.notSynchronized
  subst hsz
  have hD := hD0.self (sz := s.heap.size)
  generalize hAe : va_A [(hh, .inr (13, [.ref aexpr, .ref achoo, .ref ameth, .ref aroom, .ref anod, .ref asort, .ref anote, .ref amet, .int 0, .int 1])), (aexpr, .inr (1, [.int 0, .ref eD, .int 0]))] s.heap.size = A at hD hE ⊢
  have hA : ∀ q : Nat, s.heap.size ≤ q → A q := fun q h => by rw [← hAe]; exact Or.inr h
  have hS : va_S A s.heap s.heap [] := va_S.rf
  have hP : va_P (dC, dI) vwCl [(hh, .inr (13, [.ref aexpr, .ref achoo, .ref ameth, .ref aroom, .ref anod, .ref asort, .ref anote, .ref amet, .int 0, .int 1])), (aexpr, .inr (1, [.int 0, .ref eD, .int 0]))] s.heap := hP
  have hl := lv_entry ([.ref hh]) (n := 1) (Nat.le_of_ble_eq_true rfl)
  rw [lg_entry_eq]
  generalize (lg_sl ([.ref hh]) ++ List.replicate (1 - (lg_sl ([.ref hh])).length) Slot.unset).toArray = ls at hl ⊢
  have hl : lv_has ls 1 [(0, .ref hh)] := hl
  have in_RJx4a65c : ∀ w ∈ u_ws RJx4a65c TJx4a65c 3, w ∈ w_c_H_faults := by decide +kernel
  have in_RX11 : ∀ w ∈ u_ws RX11 TX11 10, w ∈ w_c_H_faults := by decide +kernel
  refine lv_aload_n hx hb dX11_faults_0 rfl (lv_at hl 0 rfl) ?_
  refine z_v (wr := []) (va_runV (As := []) (rest := []) ⟨hx, hb, hml, hown, hts⟩ (c_H_freshen l eD eI ad dC dI s.heap.size hh aexpr achoo ameth aroom anod asort anote amet) (cwV 0 hts g_c_H_faults_0 rfl rfl rfl (by decide +kernel) ⟨Nat.le_of_ble_eq_true rfl, Nat.le_of_ble_eq_true rfl⟩) (z_preV (wc := [(hh, .inr (13, [.ref aexpr, .ref achoo, .ref ameth, .ref aroom, .ref anod, .ref asort, .ref anote, .ref amet, .int 0, .int 1])), (aexpr, .inr (1, [.int 0, .ref eD, .int 0]))]) hP hD hK hS hA hE [0, 1] [] rfl (by decide) rfl (ci := 13) (q0 := 0) rfl rfl) rfl rfl hl.1 rfl (lv_room (Nat.le_of_ble_eq_true rfl)) dX11_faults_1 ⟨Nat.le_of_ble_eq_true rfl, Nat.le_of_ble_eq_true rfl⟩) hP hD hK hS hA [0, 1] [] rfl rfl (by decide) (by decide) (fun u H locs hw_2 hP hD hK hS => ?_)
  obtain ⟨⟩ := u
  have hP : va_P (dC, dI) vwCl [(hh, .inr (13, [.ref aexpr, .ref achoo, .ref ameth, .ref aroom, .ref anod, .ref asort, .ref anote, .ref amet, .int 0, .int 1])), (aexpr, .inr (1, [.int 0, .ref eD, .int 0]))] H := hP
  have hD : va_D A [(hh, .inr (13, [.ref aexpr, .ref achoo, .ref ameth, .ref aroom, .ref anod, .ref asort, .ref anote, .ref amet, .int 0, .int 1])), (aexpr, .inr (1, [.int 0, .ref eD, .int 0]))] := hD
  have hK : va_K (dC, dI) vwCl [] s := by simpa using hK
  refine lv_aload_n hx hb dX11_faults_4 rfl (lv_at hl 0 rfl) ?_
  refine z_i (wr := []) (va_runV (As := []) (rest := []) ⟨hx, hb, hml, hown, hts⟩ (c_H_countFaults l eD eI ad dC dI H.size hh aexpr achoo ameth aroom anod asort anote amet) (cwV 0 hts g_c_H_faults_1 rfl rfl rfl (by decide +kernel) ⟨Nat.le_of_ble_eq_true rfl, Nat.le_of_ble_eq_true rfl⟩) (z_preV (wc := [(hh, .inr (13, [.ref aexpr, .ref achoo, .ref ameth, .ref aroom, .ref anod, .ref asort, .ref anote, .ref amet, .int 0, .int 1])), (aexpr, .inr (1, [.int 0, .ref eD, .int 0]))]) hP hD hK hS hA hE [0, 1] [] rfl (by decide) rfl (ci := 13) (q0 := 0) rfl rfl) rfl rfl hl.1 rfl (lv_room (Nat.le_of_ble_eq_true rfl)) dX11_faults_5 ⟨Nat.le_of_ble_eq_true rfl, Nat.le_of_ble_eq_true rfl⟩) hP hD hK hS hA [0, 1] [] rfl rfl (by decide) (by decide) (fun r_3 u H locs hw_4 hP hD hK hS => ?_)
  obtain ⟨⟩ := u
  have hP : va_P (dC, dI) vwCl [(hh, .inr (13, [.ref aexpr, .ref achoo, .ref ameth, .ref aroom, .ref anod, .ref asort, .ref anote, .ref amet, .int 0, .int 1])), (aexpr, .inr (1, [.int 0, .ref eD, .int 0]))] H := hP
  have hD : va_D A [(hh, .inr (13, [.ref aexpr, .ref achoo, .ref ameth, .ref aroom, .ref anod, .ref asort, .ref anote, .ref amet, .int 0, .int 1])), (aexpr, .inr (1, [.int 0, .ref eD, .int 0]))] := hD
  have hK : va_K (dC, dI) vwCl [] s := by simpa using hK
  have hw_4 : r_3 = 0 := hw_4
  have hw_4 := hw_4.symm
  subst hw_4
  have hP9 := hP.sub (ws' := [(hh, .inr (13, [.ref aexpr, .ref achoo, .ref ameth, .ref aroom, .ref anod, .ref asort, .ref anote, .ref amet, .int 0, .int 1])), (aexpr, .inr (1, [.int 0, .ref eD, .int 0]))]) [0, 1] rfl
  have hD9 := hD.sub (ws' := [(hh, .inr (13, [.ref aexpr, .ref achoo, .ref ameth, .ref aroom, .ref anod, .ref asort, .ref anote, .ref amet, .int 0, .int 1])), (aexpr, .inr (1, [.int 0, .ref eD, .int 0]))]) [0, 1] (by decide) rfl
  have hK9 := hK.sub (tys' := []) [] rfl
  refine W.widen (k := 0) (n := 0) (Nat.le_of_ble_eq_true rfl) (Nat.le_of_ble_eq_true rfl) ?_
  exact W.iret (v := 0) hx hb hr (fun t ht hW => ⟨⟨0, (), rfl, rfl, ⟨by rw [ht]; exact hP9, va_K.moved hW.alike hK9, hD9⟩⟩, hS.F ht⟩) hS.2.2 dX11_faults_8

def wb_c_H_flaws : List Cond := [.code yX11_noteFlaws cX11_noteFlaws 2 none, .fieldLink RX11 58 "Hornbook" "isNoted" "Z", .methodLink RX11 291 yX11_noteFlaws, .instanceMethod yX11_noteFlaws, .selects RX11 yX11_noteFlaws yX11_noteFlaws, .initialized RX11, .fieldLink RX11 46 "Hornbook" "noted" "LHornbook$Flaws;", .fieldLink RX11 294 "Hornbook$Flaws" "count" "I"] ++ u_ws RX11 TX11 10 ++ u_ws RX3 TX3 4
def w_c_H_flaws : List Cond := .code yX11_flaws cX11_flaws 1 (some .int) :: wb_c_H_flaws
set_option maxRecDepth 100000 in
theorem g_c_H_flaws_0 : GoodIn w_c_H_flaws (wsV RX11 291 RX11 yX11_noteFlaws w_c_H_noteFlaws) := goodIn_app (goodIn_of _ (by decide +kernel)) (goodIn_p (big := w_c_H_flaws) (.code yX11_noteFlaws cX11_noteFlaws 2 none :: wb_c_H_noteFlaws) [1] rfl (by decide +kernel))
set_option maxHeartbeats 4000000 in
set_option maxRecDepth 100000 in
theorem c_H_flaws (l : Launch) (eD eI : Nat) (ad : Nat → Nat) (dC : Nat → ClassId) (dI : Nat → Nat → Nat) (sz : Nat) (hh : Nat) (aexpr : Nat) (achoo : Nat) (ameth : Nat) (aroom : Nat) (anod : Nat) (asort : Nat) (anote : Nat) (amet : Nat) (af1 : Nat) (af2 : Nat) (af3 : Nat) : Met l yX11_flaws w_c_H_flaws ({ frames := 1, cells := 0, slots := 0, locals := 21 }) (va_Pc [.ref hh] (zPre eD eI ad (dC, dI) [(hh, .inr (13, [.ref aexpr, .ref achoo, .ref ameth, .ref aroom, .ref anod, .ref asort, .ref anote, .ref amet, .int 0, .int 1])), (anote, .inr (5, [.ref af1, .ref af2, .ref af3, .int 0]))] [] sz)) (va_Qi (fun (r : Int32) (_ : Unit) => r = 0) (fun (_ : Unit) => zEnd (dC, dI) (va_A [(hh, .inr (13, [.ref aexpr, .ref achoo, .ref ameth, .ref aroom, .ref anod, .ref asort, .ref anote, .ref amet, .int 0, .int 1])), (anote, .inr (5, [.ref af1, .ref af2, .ref af3, .int 0]))] sz) [(hh, .inr (13, [.ref aexpr, .ref achoo, .ref ameth, .ref aroom, .ref anod, .ref asort, .ref anote, .ref amet, .int 0, .int 1])), (anote, .inr (5, [.ref af1, .ref af2, .ref af3, .int 0]))] []) (va_A [(hh, .inr (13, [.ref aexpr, .ref achoo, .ref ameth, .ref aroom, .ref anod, .ref asort, .ref anote, .ref amet, .int 0, .int 1])), (anote, .inr (5, [.ref af1, .ref af2, .ref af3, .int 0]))] sz)) 0 0 (va_A [(hh, .inr (13, [.ref aexpr, .ref achoo, .ref ameth, .ref aroom, .ref anod, .ref asort, .ref anote, .ref amet, .int 0, .int 1])), (anote, .inr (5, [.ref af1, .ref af2, .ref af3, .int 0]))] sz) := by
  refine Met.ofW (cc := cX11_flaws) (maxL := 1) (ret := (some .int)) (by decide) rfl ?_
  intro p e s m args below meth c s₁ B hml hv
  obtain ⟨rfl, hsz, hP, hK, hD0, hE⟩ := hv
  have hx := B.exec
  have hb := B.bytes
  have hr := B.returns
  have hts := atoms_spec (ws := w_c_H_flaws) B.pre
  have hown : s.vm.findClass RX11 = some m.cls := findClass_of_methodNamed B.named
  have hlocks := B.notSynchronized
  subst hsz
  have hD := hD0.self (sz := s.heap.size)
  generalize hAe : va_A [(hh, .inr (13, [.ref aexpr, .ref achoo, .ref ameth, .ref aroom, .ref anod, .ref asort, .ref anote, .ref amet, .int 0, .int 1])), (anote, .inr (5, [.ref af1, .ref af2, .ref af3, .int 0]))] s.heap.size = A at hD hE ⊢
  have hA : ∀ q : Nat, s.heap.size ≤ q → A q := fun q h => by rw [← hAe]; exact Or.inr h
  have hS : va_S A s.heap s.heap [] := va_S.rf
  have hP : va_P (dC, dI) vwCl [(hh, .inr (13, [.ref aexpr, .ref achoo, .ref ameth, .ref aroom, .ref anod, .ref asort, .ref anote, .ref amet, .int 0, .int 1])), (anote, .inr (5, [.ref af1, .ref af2, .ref af3, .int 0]))] s.heap := hP
  have hl := lv_entry ([.ref hh]) (n := 1) (Nat.le_of_ble_eq_true rfl)
  rw [lg_entry_eq]
  generalize (lg_sl ([.ref hh]) ++ List.replicate (1 - (lg_sl ([.ref hh])).length) Slot.unset).toArray = ls at hl ⊢
  have hl : lv_has ls 1 [(0, .ref hh)] := hl
  have in_RX11 : ∀ w ∈ u_ws RX11 TX11 10, w ∈ w_c_H_flaws := by decide +kernel
  have in_RX3 : ∀ w ∈ u_ws RX3 TX3 4, w ∈ w_c_H_flaws := by decide +kernel
  refine lv_aload_n hx hb dX11_flaws_0 rfl (lv_at hl 0 rfl) ?_
  refine z_v (wr := [(anote, .inr (5, [.ref af1, .ref af2, .ref af3, .int 0]))]) (va_runV (As := []) (rest := []) ⟨hx, hb, hml, hown, hts⟩ (c_H_noteFlaws l eD eI ad dC dI s.heap.size hh aexpr achoo ameth aroom anod asort anote amet) (cwV 0 hts g_c_H_flaws_0 rfl rfl rfl (by decide +kernel) ⟨Nat.le_of_ble_eq_true rfl, Nat.le_of_ble_eq_true rfl⟩) (z_preV (wc := [(hh, .inr (13, [.ref aexpr, .ref achoo, .ref ameth, .ref aroom, .ref anod, .ref asort, .ref anote, .ref amet, .int 0, .int 1]))]) hP hD hK hS hA hE [0] [] rfl (by decide) rfl (ci := 13) (q0 := 0) rfl rfl) rfl rfl hl.1 rfl (lv_room (Nat.le_of_ble_eq_true rfl)) dX11_flaws_1 ⟨Nat.le_of_ble_eq_true rfl, Nat.le_of_ble_eq_true rfl⟩) hP hD hK hS hA [0] [1] rfl rfl (by decide) (by decide) (fun u H locs hw_2 hP hD hK hS => ?_)
  obtain ⟨⟩ := u
  have hP : va_P (dC, dI) vwCl [(anote, .inr (5, [.ref af1, .ref af2, .ref af3, .int 0])), (hh, .inr (13, [.ref aexpr, .ref achoo, .ref ameth, .ref aroom, .ref anod, .ref asort, .ref anote, .ref amet, .int 0, .int 1]))] H := hP
  have hD : va_D A [(anote, .inr (5, [.ref af1, .ref af2, .ref af3, .int 0])), (hh, .inr (13, [.ref aexpr, .ref achoo, .ref ameth, .ref aroom, .ref anod, .ref asort, .ref anote, .ref amet, .int 0, .int 1]))] := hD
  have hK : va_K (dC, dI) vwCl [] s := by simpa using hK
  refine lv_aload_n hx hb dX11_flaws_4 rfl (lv_at hl 0 rfl) ?_
  refine va_get (D := (dC, dI)) (ci := 13) (v := .ref anote) (C := RX11) (T := TX11) (N := 10) hx hb hts in_RX11 hown hK hP 1 rfl rfl 6 (by decide) (hts (.fieldLink RX11 46 "Hornbook" "noted" "LHornbook$Flaws;") (by decide +kernel)) (fun _ h9 => h9) rfl dX11_flaws_5 ?_
  refine va_get (D := (dC, dI)) (ci := 5) (v := .int 0) (C := RX3) (T := TX3) (N := 4) hx hb hts in_RX3 hown hK hP 0 rfl rfl 3 (by decide) (hts (.fieldLink RX11 294 "Hornbook$Flaws" "count" "I") (by decide +kernel)) (fun _ h9 => h9) rfl dX11_flaws_8 ?_
  have hP9 := hP.sub (ws' := [(hh, .inr (13, [.ref aexpr, .ref achoo, .ref ameth, .ref aroom, .ref anod, .ref asort, .ref anote, .ref amet, .int 0, .int 1])), (anote, .inr (5, [.ref af1, .ref af2, .ref af3, .int 0]))]) [1, 0] rfl
  have hD9 := hD.sub (ws' := [(hh, .inr (13, [.ref aexpr, .ref achoo, .ref ameth, .ref aroom, .ref anod, .ref asort, .ref anote, .ref amet, .int 0, .int 1])), (anote, .inr (5, [.ref af1, .ref af2, .ref af3, .int 0]))]) [1, 0] (by decide) rfl
  have hK9 := hK.sub (tys' := []) [] rfl
  refine W.widen (k := 0) (n := 0) (Nat.le_of_ble_eq_true rfl) (Nat.le_of_ble_eq_true rfl) ?_
  exact W.iret (v := 0) hx hb hr (fun t ht hW => ⟨⟨0, (), rfl, rfl, ⟨by rw [ht]; exact hP9, va_K.moved hW.alike hK9, hD9⟩⟩, hS.F ht⟩) hS.2.2 dX11_flaws_11

def wb_c_H_meanDepth : List Cond := [.code yX11_freshen cX11_freshen 2 none, .fieldLink RX11 54 "Hornbook" "judged" "I", .fieldLink RX11 12 "Hornbook" "expressions" "Ljava/util/ArrayList;", .code yJx4a65c_size_8abf5 cJx4a65c_size_8abf5 1 (some .int), .fieldLink RJx4a65c 48 "java/util/ArrayList" "size" "I", .methodLink RX11 73 yJx4a65c_size_8abf5, .instanceMethod yJx4a65c_size_8abf5, .selects RJx4a65c yJx4a65c_size_8abf5 yJx4a65c_size_8abf5, .initialized RJx4a65c, .methodLink RX11 254 yX11_freshen, .instanceMethod yX11_freshen, .selects RX11 yX11_freshen yX11_freshen, .initialized RX11] ++ u_ws RJx4a65c TJx4a65c 3 ++ u_ws RX11 TX11 10
def w_c_H_meanDepth : List Cond := .code yX11_meanDepth cX11_meanDepth 5 (some .double) :: wb_c_H_meanDepth
set_option maxRecDepth 100000 in
theorem g_c_H_meanDepth_0 : GoodIn w_c_H_meanDepth (wsV RX11 254 RX11 yX11_freshen w_c_H_freshen) := goodIn_app (goodIn_of _ (by decide +kernel)) (goodIn_p (big := w_c_H_meanDepth) (.code yX11_freshen cX11_freshen 2 none :: wb_c_H_freshen) [1, 4] rfl (by decide +kernel))
set_option maxRecDepth 100000 in
theorem g_c_H_meanDepth_1 : GoodIn w_c_H_meanDepth (wsV RX11 73 RJx4a65c yJx4a65c_size_8abf5 w_c_AL_size) := goodIn_app (goodIn_of _ (by decide +kernel)) (goodIn_p (big := w_c_H_meanDepth) (.code yJx4a65c_size_8abf5 cJx4a65c_size_8abf5 1 (some .int) :: wb_c_AL_size) [4] rfl (by decide +kernel))
set_option maxHeartbeats 4000000 in
set_option maxRecDepth 100000 in
theorem c_H_meanDepth (l : Launch) (eD eI : Nat) (ad : Nat → Nat) (dC : Nat → ClassId) (dI : Nat → Nat → Nat) (sz : Nat) (hh : Nat) (aexpr : Nat) (achoo : Nat) (ameth : Nat) (aroom : Nat) (anod : Nat) (asort : Nat) (anote : Nat) (amet : Nat) : Met l yX11_meanDepth w_c_H_meanDepth ({ frames := 2, cells := 0, slots := 0, locals := 41 }) (va_Pc [.ref hh] (zPre eD eI ad (dC, dI) [(hh, .inr (13, [.ref aexpr, .ref achoo, .ref ameth, .ref aroom, .ref anod, .ref asort, .ref anote, .ref amet, .int 0, .int 1])), (aexpr, .inr (1, [.int 0, .ref eD, .int 0]))] [] sz)) (va_Qd (fun (r : UInt64) (_ : Unit) => r = FP.dconst0) (fun (_ : Unit) => zEnd (dC, dI) (va_A [(hh, .inr (13, [.ref aexpr, .ref achoo, .ref ameth, .ref aroom, .ref anod, .ref asort, .ref anote, .ref amet, .int 0, .int 1])), (aexpr, .inr (1, [.int 0, .ref eD, .int 0]))] sz) [(hh, .inr (13, [.ref aexpr, .ref achoo, .ref ameth, .ref aroom, .ref anod, .ref asort, .ref anote, .ref amet, .int 0, .int 1])), (aexpr, .inr (1, [.int 0, .ref eD, .int 0]))] []) (va_A [(hh, .inr (13, [.ref aexpr, .ref achoo, .ref ameth, .ref aroom, .ref anod, .ref asort, .ref anote, .ref amet, .int 0, .int 1])), (aexpr, .inr (1, [.int 0, .ref eD, .int 0]))] sz)) 0 0 (va_A [(hh, .inr (13, [.ref aexpr, .ref achoo, .ref ameth, .ref aroom, .ref anod, .ref asort, .ref anote, .ref amet, .int 0, .int 1])), (aexpr, .inr (1, [.int 0, .ref eD, .int 0]))] sz) := by
  refine Met.ofW (cc := cX11_meanDepth) (maxL := 5) (ret := (some .double)) (by decide) rfl ?_
  intro p e s m args below meth c s₁ B hml hv
  obtain ⟨rfl, hsz, hP, hK, hD0, hE⟩ := hv
  have hx := B.exec
  have hb := B.bytes
  have hr := B.returns
  have hts := atoms_spec (ws := w_c_H_meanDepth) B.pre
  have hown : s.vm.findClass RX11 = some m.cls := findClass_of_methodNamed B.named
  have hlocks := B.notSynchronized
  subst hsz
  have hD := hD0.self (sz := s.heap.size)
  generalize hAe : va_A [(hh, .inr (13, [.ref aexpr, .ref achoo, .ref ameth, .ref aroom, .ref anod, .ref asort, .ref anote, .ref amet, .int 0, .int 1])), (aexpr, .inr (1, [.int 0, .ref eD, .int 0]))] s.heap.size = A at hD hE ⊢
  have hA : ∀ q : Nat, s.heap.size ≤ q → A q := fun q h => by rw [← hAe]; exact Or.inr h
  have hS : va_S A s.heap s.heap [] := va_S.rf
  have hP : va_P (dC, dI) vwCl [(hh, .inr (13, [.ref aexpr, .ref achoo, .ref ameth, .ref aroom, .ref anod, .ref asort, .ref anote, .ref amet, .int 0, .int 1])), (aexpr, .inr (1, [.int 0, .ref eD, .int 0]))] s.heap := hP
  have hl := lv_entry ([.ref hh]) (n := 5) (Nat.le_of_ble_eq_true rfl)
  rw [lg_entry_eq]
  generalize (lg_sl ([.ref hh]) ++ List.replicate (5 - (lg_sl ([.ref hh])).length) Slot.unset).toArray = ls at hl ⊢
  have hl : lv_has ls 5 [(0, .ref hh)] := hl
  have in_RJx4a65c : ∀ w ∈ u_ws RJx4a65c TJx4a65c 3, w ∈ w_c_H_meanDepth := by decide +kernel
  have in_RX11 : ∀ w ∈ u_ws RX11 TX11 10, w ∈ w_c_H_meanDepth := by decide +kernel
  refine lv_aload_n hx hb dX11_meanDepth_0 rfl (lv_at hl 0 rfl) ?_
  refine z_v (wr := []) (va_runV (As := []) (rest := []) ⟨hx, hb, hml, hown, hts⟩ (c_H_freshen l eD eI ad dC dI s.heap.size hh aexpr achoo ameth aroom anod asort anote amet) (cwV 0 hts g_c_H_meanDepth_0 rfl rfl rfl (by decide +kernel) ⟨Nat.le_of_ble_eq_true rfl, Nat.le_of_ble_eq_true rfl⟩) (z_preV (wc := [(hh, .inr (13, [.ref aexpr, .ref achoo, .ref ameth, .ref aroom, .ref anod, .ref asort, .ref anote, .ref amet, .int 0, .int 1])), (aexpr, .inr (1, [.int 0, .ref eD, .int 0]))]) hP hD hK hS hA hE [0, 1] [] rfl (by decide) rfl (ci := 13) (q0 := 0) rfl rfl) rfl rfl hl.1 rfl (lv_room (Nat.le_of_ble_eq_true rfl)) dX11_meanDepth_1 ⟨Nat.le_of_ble_eq_true rfl, Nat.le_of_ble_eq_true rfl⟩) hP hD hK hS hA [0, 1] [] rfl rfl (by decide) (by decide) (fun u H locs hw_2 hP hD hK hS => ?_)
  obtain ⟨⟩ := u
  have hP : va_P (dC, dI) vwCl [(hh, .inr (13, [.ref aexpr, .ref achoo, .ref ameth, .ref aroom, .ref anod, .ref asort, .ref anote, .ref amet, .int 0, .int 1])), (aexpr, .inr (1, [.int 0, .ref eD, .int 0]))] H := hP
  have hD : va_D A [(hh, .inr (13, [.ref aexpr, .ref achoo, .ref ameth, .ref aroom, .ref anod, .ref asort, .ref anote, .ref amet, .int 0, .int 1])), (aexpr, .inr (1, [.int 0, .ref eD, .int 0]))] := hD
  have hK : va_K (dC, dI) vwCl [] s := by simpa using hK
  refine lv_aload_n hx hb dX11_meanDepth_4 rfl (lv_at hl 0 rfl) ?_
  refine va_get (D := (dC, dI)) (ci := 13) (v := .ref aexpr) (C := RX11) (T := TX11) (N := 10) hx hb hts in_RX11 hown hK hP 0 rfl rfl 0 (by decide) (hts (.fieldLink RX11 12 "Hornbook" "expressions" "Ljava/util/ArrayList;") (by decide +kernel)) (fun _ h9 => h9) rfl dX11_meanDepth_5 ?_
  refine z_i (wr := [(hh, .inr (13, [.ref aexpr, .ref achoo, .ref ameth, .ref aroom, .ref anod, .ref asort, .ref anote, .ref amet, .int 0, .int 1]))]) (va_runV (As := []) (rest := []) ⟨hx, hb, hml, hown, hts⟩ (c_AL_size l eD eI ad dC dI H.size aexpr ((.int 0)) ((.ref eD)) 0) (cwV 0 hts g_c_H_meanDepth_1 rfl rfl rfl (by decide +kernel) ⟨Nat.le_of_ble_eq_true rfl, Nat.le_of_ble_eq_true rfl⟩) (z_preV (wc := [(aexpr, .inr (1, [.int 0, .ref eD, .int 0]))]) hP hD hK hS hA hE [1] [] rfl (by decide) rfl (ci := 1) (q0 := 0) rfl rfl) rfl rfl hl.1 rfl (lv_room (Nat.le_of_ble_eq_true rfl)) dX11_meanDepth_8 ⟨Nat.le_of_ble_eq_true rfl, Nat.le_of_ble_eq_true rfl⟩) hP hD hK hS hA [1] [0] rfl rfl (by decide) (by decide) (fun r_3 u H locs hw_4 hP hD hK hS => ?_)
  obtain ⟨⟩ := u
  have hP : va_P (dC, dI) vwCl [(hh, .inr (13, [.ref aexpr, .ref achoo, .ref ameth, .ref aroom, .ref anod, .ref asort, .ref anote, .ref amet, .int 0, .int 1])), (aexpr, .inr (1, [.int 0, .ref eD, .int 0]))] H := hP
  have hD : va_D A [(hh, .inr (13, [.ref aexpr, .ref achoo, .ref ameth, .ref aroom, .ref anod, .ref asort, .ref anote, .ref amet, .int 0, .int 1])), (aexpr, .inr (1, [.int 0, .ref eD, .int 0]))] := hD
  have hK : va_K (dC, dI) vwCl [] s := by simpa using hK
  have hw_4 : r_3 = 0 := hw_4
  have hw_4 := hw_4.symm
  subst hw_4
  refine lv_istore_n (lv' := [(1, .int 0), (0, .ref hh)]) hx hb dX11_meanDepth_11 rfl hl (by decide) rfl (fun ls hl => ?_)
  refine lv_iload_n hx hb dX11_meanDepth_12 rfl (lv_at hl 0 rfl) ?_
  refine lv_if_ne (tgt := 18) hx hb dX11_meanDepth_13 (by decide) (fun c_5 => ?_) (fun c_5 => ?_)
  · exact absurd (by decide) c_5
  refine lv_dconst0 hx hb dX11_meanDepth_16 ?_
  have hP9 := hP.sub (ws' := [(hh, .inr (13, [.ref aexpr, .ref achoo, .ref ameth, .ref aroom, .ref anod, .ref asort, .ref anote, .ref amet, .int 0, .int 1])), (aexpr, .inr (1, [.int 0, .ref eD, .int 0]))]) [0, 1] rfl
  have hD9 := hD.sub (ws' := [(hh, .inr (13, [.ref aexpr, .ref achoo, .ref ameth, .ref aroom, .ref anod, .ref asort, .ref anote, .ref amet, .int 0, .int 1])), (aexpr, .inr (1, [.int 0, .ref eD, .int 0]))]) [0, 1] (by decide) rfl
  have hK9 := hK.sub (tys' := []) [] rfl
  refine W.widen (k := 0) (n := 0) (Nat.le_of_ble_eq_true rfl) (Nat.le_of_ble_eq_true rfl) ?_
  exact W.dret (v := FP.dconst0) hx hb hr (fun t ht hW => ⟨⟨FP.dconst0, (), rfl, rfl, ⟨by rw [ht]; exact hP9, va_K.moved hW.alike hK9, hD9⟩⟩, hS.F ht⟩) hS.2.2 dX11_meanDepth_17
