theorem dL_parent_0 : decode cL_parent 0 = .ok (.aload_n 3, 1) := by decide +kernel
theorem dL_parent_1 : decode cL_parent 1 = .ok (.iconst 0, 1) := by decide +kernel
theorem dL_parent_2 : decode cL_parent 2 = .ok (.aload_n 0, 1) := by decide +kernel
theorem dL_parent_3 : decode cL_parent 3 = .ok (.iload_n 1, 1) := by decide +kernel
theorem dL_parent_4 : decode cL_parent 4 = .ok (.iload_n 2, 1) := by decide +kernel
theorem dL_parent_5 : decode cL_parent 5 = .ok (.invokevirtual 17, 3) := by decide +kernel
theorem dL_parent_13 : decode cL_parent 13 = .ok (.astore 4, 2) := by decide +kernel
theorem dL_parent_15 : decode cL_parent 15 = .ok (.iconst 1, 1) := by decide +kernel
theorem dL_parent_16 : decode cL_parent 16 = .ok (.ireturn, 1) := by decide +kernel
theorem dL_type_0 : decode cL_type 0 = .ok (.aload 4, 2) := by decide +kernel
theorem dL_type_2 : decode cL_type 2 = .ok (.iconst 0, 1) := by decide +kernel
theorem dL_type_3 : decode cL_type 3 = .ok (.aload_n 0, 1) := by decide +kernel
theorem dL_type_4 : decode cL_type 4 = .ok (.iload_n 1, 1) := by decide +kernel
theorem dL_type_5 : decode cL_type 5 = .ok (.iload_n 2, 1) := by decide +kernel
theorem dL_type_6 : decode cL_type 6 = .ok (.iload_n 3, 1) := by decide +kernel
theorem dL_type_7 : decode cL_type 7 = .ok (.invokevirtual 23, 3) := by decide +kernel
theorem dL_type_15 : decode cL_type 15 = .ok (.astore 5, 2) := by decide +kernel
theorem dL_type_17 : decode cL_type 17 = .ok (.iconst 1, 1) := by decide +kernel
theorem dL_type_18 : decode cL_type 18 = .ok (.ireturn, 1) := by decide +kernel
theorem dL_method_0 : decode cL_method 0 = .ok (.aload 7, 2) := by decide +kernel
theorem dL_method_2 : decode cL_method 2 = .ok (.iconst 0, 1) := by decide +kernel
theorem dL_method_3 : decode cL_method 3 = .ok (.aload_n 0, 1) := by decide +kernel
theorem dL_method_4 : decode cL_method 4 = .ok (.iload_n 1, 1) := by decide +kernel
theorem dL_method_5 : decode cL_method 5 = .ok (.iload_n 2, 1) := by decide +kernel
theorem dL_method_6 : decode cL_method 6 = .ok (.iload_n 3, 1) := by decide +kernel
theorem dL_method_7 : decode cL_method 7 = .ok (.iload 4, 2) := by decide +kernel
theorem dL_method_9 : decode cL_method 9 = .ok (.iload 5, 2) := by decide +kernel
theorem dL_method_11 : decode cL_method 11 = .ok (.iload 6, 2) := by decide +kernel
theorem dL_method_13 : decode cL_method 13 = .ok (.invokevirtual 30, 3) := by decide +kernel
theorem dL_method_21 : decode cL_method 21 = .ok (.astore 8, 2) := by decide +kernel
theorem dL_method_23 : decode cL_method 23 = .ok (.iconst 1, 1) := by decide +kernel
theorem dL_method_24 : decode cL_method 24 = .ok (.ireturn, 1) := by decide +kernel
theorem dL_faultsWith_0 : decode cL_faultsWith 0 = .ok (.aload 4, 2) := by decide +kernel
theorem dL_faultsWith_2 : decode cL_faultsWith 2 = .ok (.iconst 0, 1) := by decide +kernel
theorem dL_faultsWith_3 : decode cL_faultsWith 3 = .ok (.aload_n 0, 1) := by decide +kernel
theorem dL_faultsWith_4 : decode cL_faultsWith 4 = .ok (.iload_n 1, 1) := by decide +kernel
theorem dL_faultsWith_5 : decode cL_faultsWith 5 = .ok (.iload_n 2, 1) := by decide +kernel
theorem dL_faultsWith_6 : decode cL_faultsWith 6 = .ok (.iload_n 3, 1) := by decide +kernel
theorem dL_faultsWith_7 : decode cL_faultsWith 7 = .ok (.invokevirtual 97, 3) := by decide +kernel
theorem dL_faultsWith_15 : decode cL_faultsWith 15 = .ok (.astore 5, 2) := by decide +kernel
theorem dL_faultsWith_17 : decode cL_faultsWith 17 = .ok (.iconst 1, 1) := by decide +kernel
theorem dL_faultsWith_18 : decode cL_faultsWith 18 = .ok (.ireturn, 1) := by decide +kernel
theorem dL_flawsWith_0 : decode cL_flawsWith 0 = .ok (.aload 4, 2) := by decide +kernel
theorem dL_flawsWith_2 : decode cL_flawsWith 2 = .ok (.iconst 0, 1) := by decide +kernel
theorem dL_flawsWith_3 : decode cL_flawsWith 3 = .ok (.aload_n 0, 1) := by decide +kernel
theorem dL_flawsWith_4 : decode cL_flawsWith 4 = .ok (.iload_n 1, 1) := by decide +kernel
theorem dL_flawsWith_5 : decode cL_flawsWith 5 = .ok (.iload_n 2, 1) := by decide +kernel
theorem dL_flawsWith_6 : decode cL_flawsWith 6 = .ok (.iload_n 3, 1) := by decide +kernel
theorem dL_flawsWith_7 : decode cL_flawsWith 7 = .ok (.invokevirtual 100, 3) := by decide +kernel
theorem dL_flawsWith_15 : decode cL_flawsWith 15 = .ok (.astore 5, 2) := by decide +kernel
theorem dL_flawsWith_17 : decode cL_flawsWith 17 = .ok (.iconst 1, 1) := by decide +kernel
theorem dL_flawsWith_18 : decode cL_flawsWith 18 = .ok (.ireturn, 1) := by decide +kernel
theorem dL_either_0 : decode cL_either 0 = .ok (.aload_n 3, 1) := by decide +kernel
theorem dL_either_1 : decode cL_either 1 = .ok (.iconst 0, 1) := by decide +kernel
theorem dL_either_2 : decode cL_either 2 = .ok (.aload_n 0, 1) := by decide +kernel
theorem dL_either_3 : decode cL_either 3 = .ok (.iload_n 1, 1) := by decide +kernel
theorem dL_either_4 : decode cL_either 4 = .ok (.iload_n 2, 1) := by decide +kernel
theorem dL_either_5 : decode cL_either 5 = .ok (.invokevirtual 37, 3) := by decide +kernel
theorem dL_either_13 : decode cL_either 13 = .ok (.astore 4, 2) := by decide +kernel
theorem dL_either_15 : decode cL_either 15 = .ok (.iconst 1, 1) := by decide +kernel
theorem dL_either_16 : decode cL_either 16 = .ok (.ireturn, 1) := by decide +kernel
theorem dL_as_0 : decode cL_as 0 = .ok (.aload_n 3, 1) := by decide +kernel
theorem dL_as_1 : decode cL_as 1 = .ok (.iconst 0, 1) := by decide +kernel
theorem dL_as_2 : decode cL_as 2 = .ok (.aload_n 0, 1) := by decide +kernel
theorem dL_as_3 : decode cL_as 3 = .ok (.iload_n 1, 1) := by decide +kernel
theorem dL_as_4 : decode cL_as 4 = .ok (.iload_n 2, 1) := by decide +kernel
theorem dL_as_5 : decode cL_as 5 = .ok (.invokevirtual 40, 3) := by decide +kernel
theorem dL_as_13 : decode cL_as 13 = .ok (.astore 4, 2) := by decide +kernel
theorem dL_as_15 : decode cL_as 15 = .ok (.iconst 1, 1) := by decide +kernel
theorem dL_as_16 : decode cL_as 16 = .ok (.ireturn, 1) := by decide +kernel
theorem dL_call_0 : decode cL_call 0 = .ok (.aload 5, 2) := by decide +kernel
theorem dL_call_2 : decode cL_call 2 = .ok (.iconst 0, 1) := by decide +kernel
theorem dL_call_3 : decode cL_call 3 = .ok (.aload_n 0, 1) := by decide +kernel
theorem dL_call_4 : decode cL_call 4 = .ok (.iload_n 1, 1) := by decide +kernel
theorem dL_call_5 : decode cL_call 5 = .ok (.iload_n 2, 1) := by decide +kernel
theorem dL_call_6 : decode cL_call 6 = .ok (.iload_n 3, 1) := by decide +kernel
theorem dL_call_7 : decode cL_call 7 = .ok (.iload 4, 2) := by decide +kernel
theorem dL_call_9 : decode cL_call 9 = .ok (.invokevirtual 43, 3) := by decide +kernel
theorem dL_call_17 : decode cL_call 17 = .ok (.astore 6, 2) := by decide +kernel
theorem dL_call_19 : decode cL_call 19 = .ok (.iconst 1, 1) := by decide +kernel
theorem dL_call_20 : decode cL_call 20 = .ok (.ireturn, 1) := by decide +kernel
theorem dL_line_0 : decode cL_line 0 = .ok (.aload_n 3, 1) := by decide +kernel
theorem dL_line_1 : decode cL_line 1 = .ok (.iconst 0, 1) := by decide +kernel
theorem dL_line_2 : decode cL_line 2 = .ok (.aload_n 0, 1) := by decide +kernel
theorem dL_line_3 : decode cL_line 3 = .ok (.iload_n 1, 1) := by decide +kernel
theorem dL_line_4 : decode cL_line 4 = .ok (.iload_n 2, 1) := by decide +kernel
theorem dL_line_5 : decode cL_line 5 = .ok (.invokevirtual 66, 3) := by decide +kernel
theorem dL_line_13 : decode cL_line 13 = .ok (.astore 4, 2) := by decide +kernel
theorem dL_line_15 : decode cL_line 15 = .ok (.iconst 1, 1) := by decide +kernel
theorem dL_line_16 : decode cL_line 16 = .ok (.ireturn, 1) := by decide +kernel
theorem dL_seen_0 : decode cL_seen 0 = .ok (.aload_n 2, 1) := by decide +kernel
theorem dL_seen_1 : decode cL_seen 1 = .ok (.iconst 0, 1) := by decide +kernel
theorem dL_seen_2 : decode cL_seen 2 = .ok (.aload_n 0, 1) := by decide +kernel
theorem dL_seen_3 : decode cL_seen 3 = .ok (.iload_n 1, 1) := by decide +kernel
theorem dL_seen_4 : decode cL_seen 4 = .ok (.invokevirtual 69, 3) := by decide +kernel
theorem dL_seen_12 : decode cL_seen 12 = .ok (.astore_n 3, 1) := by decide +kernel
theorem dL_seen_13 : decode cL_seen 13 = .ok (.iconst 1, 1) := by decide +kernel
theorem dL_seen_14 : decode cL_seen 14 = .ok (.ireturn, 1) := by decide +kernel
theorem dL_taking_0 : decode cL_taking 0 = .ok (.aload_n 2, 1) := by decide +kernel
theorem dL_taking_1 : decode cL_taking 1 = .ok (.iconst 0, 1) := by decide +kernel
theorem dL_taking_2 : decode cL_taking 2 = .ok (.aload_n 0, 1) := by decide +kernel
theorem dL_taking_3 : decode cL_taking 3 = .ok (.iload_n 1, 1) := by decide +kernel
theorem dL_taking_4 : decode cL_taking 4 = .ok (.invokevirtual 72, 3) := by decide +kernel
theorem dL_taking_12 : decode cL_taking 12 = .ok (.astore_n 3, 1) := by decide +kernel
theorem dL_taking_13 : decode cL_taking 13 = .ok (.iconst 1, 1) := by decide +kernel
theorem dL_taking_14 : decode cL_taking 14 = .ok (.ireturn, 1) := by decide +kernel
theorem dL_chosen_0 : decode cL_chosen 0 = .ok (.aload_n 2, 1) := by decide +kernel
theorem dL_chosen_1 : decode cL_chosen 1 = .ok (.iconst 0, 1) := by decide +kernel
theorem dL_chosen_2 : decode cL_chosen 2 = .ok (.aload_n 0, 1) := by decide +kernel
theorem dL_chosen_3 : decode cL_chosen 3 = .ok (.iload_n 1, 1) := by decide +kernel
theorem dL_chosen_4 : decode cL_chosen 4 = .ok (.invokevirtual 75, 3) := by decide +kernel
theorem dL_chosen_12 : decode cL_chosen 12 = .ok (.astore_n 3, 1) := by decide +kernel
theorem dL_chosen_13 : decode cL_chosen 13 = .ok (.iconst 1, 1) := by decide +kernel
theorem dL_chosen_14 : decode cL_chosen 14 = .ok (.ireturn, 1) := by decide +kernel
theorem dL_own_0 : decode cL_own 0 = .ok (.aload_n 3, 1) := by decide +kernel
theorem dL_own_1 : decode cL_own 1 = .ok (.iconst 0, 1) := by decide +kernel
theorem dL_own_2 : decode cL_own 2 = .ok (.aload_n 0, 1) := by decide +kernel
theorem dL_own_3 : decode cL_own 3 = .ok (.iload_n 1, 1) := by decide +kernel
theorem dL_own_4 : decode cL_own 4 = .ok (.iload_n 2, 1) := by decide +kernel
theorem dL_own_5 : decode cL_own 5 = .ok (.invokevirtual 78, 3) := by decide +kernel
theorem dL_own_13 : decode cL_own 13 = .ok (.astore 4, 2) := by decide +kernel
theorem dL_own_15 : decode cL_own 15 = .ok (.iconst 1, 1) := by decide +kernel
theorem dL_own_16 : decode cL_own 16 = .ok (.ireturn, 1) := by decide +kernel
theorem dL_isFaulty_0 : decode cL_isFaulty 0 = .ok (.aload_n 2, 1) := by decide +kernel
theorem dL_isFaulty_1 : decode cL_isFaulty 1 = .ok (.iconst 0, 1) := by decide +kernel
theorem dL_isFaulty_2 : decode cL_isFaulty 2 = .ok (.aload_n 0, 1) := by decide +kernel
theorem dL_isFaulty_3 : decode cL_isFaulty 3 = .ok (.iload_n 1, 1) := by decide +kernel
theorem dL_isFaulty_4 : decode cL_isFaulty 4 = .ok (.invokevirtual 84, 3) := by decide +kernel
theorem dL_isFaulty_19 : decode cL_isFaulty 19 = .ok (.astore_n 3, 1) := by decide +kernel
theorem dL_isFaulty_20 : decode cL_isFaulty 20 = .ok (.iconst 1, 1) := by decide +kernel
theorem dL_isFaulty_21 : decode cL_isFaulty 21 = .ok (.ireturn, 1) := by decide +kernel
theorem dL_faultsWithout_0 : decode cL_faultsWithout 0 = .ok (.aload_n 2, 1) := by decide +kernel
theorem dL_faultsWithout_1 : decode cL_faultsWithout 1 = .ok (.iconst 0, 1) := by decide +kernel
theorem dL_faultsWithout_2 : decode cL_faultsWithout 2 = .ok (.aload_n 0, 1) := by decide +kernel
theorem dL_faultsWithout_3 : decode cL_faultsWithout 3 = .ok (.iload_n 1, 1) := by decide +kernel
theorem dL_faultsWithout_4 : decode cL_faultsWithout 4 = .ok (.invokevirtual 94, 3) := by decide +kernel
theorem dL_faultsWithout_12 : decode cL_faultsWithout 12 = .ok (.astore_n 3, 1) := by decide +kernel
theorem dL_faultsWithout_13 : decode cL_faultsWithout 13 = .ok (.iconst 1, 1) := by decide +kernel
theorem dL_faultsWithout_14 : decode cL_faultsWithout 14 = .ok (.ireturn, 1) := by decide +kernel
theorem dL_ofFault_0 : decode cL_ofFault 0 = .ok (.aload_n 3, 1) := by decide +kernel
theorem dL_ofFault_1 : decode cL_ofFault 1 = .ok (.iconst 0, 1) := by decide +kernel
theorem dL_ofFault_2 : decode cL_ofFault 2 = .ok (.aload_n 0, 1) := by decide +kernel
theorem dL_ofFault_3 : decode cL_ofFault 3 = .ok (.iload_n 1, 1) := by decide +kernel
theorem dL_ofFault_4 : decode cL_ofFault 4 = .ok (.iload_n 2, 1) := by decide +kernel
theorem dL_ofFault_5 : decode cL_ofFault 5 = .ok (.invokevirtual 81, 3) := by decide +kernel
theorem dL_ofFault_13 : decode cL_ofFault 13 = .ok (.astore 4, 2) := by decide +kernel
theorem dL_ofFault_15 : decode cL_ofFault 15 = .ok (.iconst 1, 1) := by decide +kernel
theorem dL_ofFault_16 : decode cL_ofFault 16 = .ok (.ireturn, 1) := by decide +kernel
theorem dL_ofFlaw_0 : decode cL_ofFlaw 0 = .ok (.aload_n 3, 1) := by decide +kernel
theorem dL_ofFlaw_1 : decode cL_ofFlaw 1 = .ok (.iconst 0, 1) := by decide +kernel
theorem dL_ofFlaw_2 : decode cL_ofFlaw 2 = .ok (.aload_n 0, 1) := by decide +kernel
theorem dL_ofFlaw_3 : decode cL_ofFlaw 3 = .ok (.iload_n 1, 1) := by decide +kernel
theorem dL_ofFlaw_4 : decode cL_ofFlaw 4 = .ok (.iload_n 2, 1) := by decide +kernel
theorem dL_ofFlaw_5 : decode cL_ofFlaw 5 = .ok (.invokevirtual 88, 3) := by decide +kernel
theorem dL_ofFlaw_13 : decode cL_ofFlaw 13 = .ok (.astore 4, 2) := by decide +kernel
theorem dL_ofFlaw_15 : decode cL_ofFlaw 15 = .ok (.iconst 1, 1) := by decide +kernel
theorem dL_ofFlaw_16 : decode cL_ofFlaw 16 = .ok (.ireturn, 1) := by decide +kernel
theorem dL_sort_0 : decode cL_sort 0 = .ok (.aload 4, 2) := by decide +kernel
theorem dL_sort_2 : decode cL_sort 2 = .ok (.iconst 0, 1) := by decide +kernel
theorem dL_sort_3 : decode cL_sort 3 = .ok (.aload_n 0, 1) := by decide +kernel
theorem dL_sort_4 : decode cL_sort 4 = .ok (.iload_n 1, 1) := by decide +kernel
theorem dL_sort_5 : decode cL_sort 5 = .ok (.iload_n 2, 1) := by decide +kernel
theorem dL_sort_6 : decode cL_sort 6 = .ok (.iload_n 3, 1) := by decide +kernel
theorem dL_sort_7 : decode cL_sort 7 = .ok (.invokevirtual 7, 3) := by decide +kernel
theorem dL_sort_15 : decode cL_sort 15 = .ok (.astore 5, 2) := by decide +kernel
theorem dL_sort_17 : decode cL_sort 17 = .ok (.iconst 1, 1) := by decide +kernel
theorem dL_sort_18 : decode cL_sort 18 = .ok (.ireturn, 1) := by decide +kernel
theorem dL_sort_10 : decode cL_sort 10 = .ok (.i2l, 1) := by decide +kernel
theorem dL_sort_11 : decode cL_sort 11 = .ok (.lastore, 1) := by decide +kernel
theorem dL_sort_12 : decode cL_sort 12 = .ok (.goto 11, 3) := by decide +kernel
theorem dL_sort_23 : decode cL_sort 23 = .ok (.iconst 0, 1) := by decide +kernel
theorem dL_sort_24 : decode cL_sort 24 = .ok (.ireturn, 1) := by decide +kernel
theorem dL_parameter_0 : decode cL_parameter 0 = .ok (.aload_n 2, 1) := by decide +kernel
theorem dL_parameter_1 : decode cL_parameter 1 = .ok (.iconst 0, 1) := by decide +kernel
theorem dL_parameter_2 : decode cL_parameter 2 = .ok (.aload_n 0, 1) := by decide +kernel
theorem dL_parameter_3 : decode cL_parameter 3 = .ok (.iload_n 1, 1) := by decide +kernel
theorem dL_parameter_4 : decode cL_parameter 4 = .ok (.invokevirtual 26, 3) := by decide +kernel
theorem dL_parameter_12 : decode cL_parameter 12 = .ok (.astore_n 3, 1) := by decide +kernel
theorem dL_parameter_13 : decode cL_parameter 13 = .ok (.iconst 1, 1) := by decide +kernel
theorem dL_parameter_14 : decode cL_parameter 14 = .ok (.ireturn, 1) := by decide +kernel
theorem dL_parameter_7 : decode cL_parameter 7 = .ok (.i2l, 1) := by decide +kernel
theorem dL_parameter_8 : decode cL_parameter 8 = .ok (.lastore, 1) := by decide +kernel
theorem dL_parameter_9 : decode cL_parameter 9 = .ok (.goto 9, 3) := by decide +kernel
theorem dL_parameter_18 : decode cL_parameter 18 = .ok (.iconst 0, 1) := by decide +kernel
theorem dL_parameter_19 : decode cL_parameter 19 = .ok (.ireturn, 1) := by decide +kernel
theorem dL_value_0 : decode cL_value 0 = .ok (.aload_n 2, 1) := by decide +kernel
theorem dL_value_1 : decode cL_value 1 = .ok (.iconst 0, 1) := by decide +kernel
theorem dL_value_2 : decode cL_value 2 = .ok (.aload_n 0, 1) := by decide +kernel
theorem dL_value_3 : decode cL_value 3 = .ok (.iload_n 1, 1) := by decide +kernel
theorem dL_value_4 : decode cL_value 4 = .ok (.invokevirtual 34, 3) := by decide +kernel
theorem dL_value_12 : decode cL_value 12 = .ok (.astore_n 3, 1) := by decide +kernel
theorem dL_value_13 : decode cL_value 13 = .ok (.iconst 1, 1) := by decide +kernel
theorem dL_value_14 : decode cL_value 14 = .ok (.ireturn, 1) := by decide +kernel
theorem dL_value_7 : decode cL_value 7 = .ok (.i2l, 1) := by decide +kernel
theorem dL_value_8 : decode cL_value 8 = .ok (.lastore, 1) := by decide +kernel
theorem dL_value_9 : decode cL_value 9 = .ok (.goto 12, 3) := by decide +kernel
theorem dL_value_21 : decode cL_value 21 = .ok (.iconst 0, 1) := by decide +kernel
theorem dL_value_22 : decode cL_value 22 = .ok (.ireturn, 1) := by decide +kernel
theorem dL_value_15 : decode cL_value 15 = .ok (.astore_n 3, 1) := by decide +kernel
theorem dL_value_16 : decode cL_value 16 = .ok (.iconst 2, 1) := by decide +kernel
theorem dL_value_17 : decode cL_value 17 = .ok (.ireturn, 1) := by decide +kernel
theorem dL_many_0 : decode cL_many 0 = .ok (.aload_n 2, 1) := by decide +kernel
theorem dL_many_1 : decode cL_many 1 = .ok (.iconst 0, 1) := by decide +kernel
theorem dL_many_2 : decode cL_many 2 = .ok (.aload_n 0, 1) := by decide +kernel
theorem dL_many_3 : decode cL_many 3 = .ok (.iload_n 1, 1) := by decide +kernel
theorem dL_many_4 : decode cL_many 4 = .ok (.invokevirtual 47, 3) := by decide +kernel
theorem dL_many_12 : decode cL_many 12 = .ok (.astore_n 3, 1) := by decide +kernel
theorem dL_many_13 : decode cL_many 13 = .ok (.iconst 1, 1) := by decide +kernel
theorem dL_many_14 : decode cL_many 14 = .ok (.ireturn, 1) := by decide +kernel
theorem dL_many_7 : decode cL_many 7 = .ok (.i2l, 1) := by decide +kernel
theorem dL_many_8 : decode cL_many 8 = .ok (.lastore, 1) := by decide +kernel
theorem dL_many_9 : decode cL_many 9 = .ok (.goto 6, 3) := by decide +kernel
theorem dL_many_15 : decode cL_many 15 = .ok (.iconst 0, 1) := by decide +kernel
theorem dL_many_16 : decode cL_many 16 = .ok (.ireturn, 1) := by decide +kernel
theorem dL_depth_0 : decode cL_depth 0 = .ok (.aload_n 2, 1) := by decide +kernel
theorem dL_depth_1 : decode cL_depth 1 = .ok (.iconst 0, 1) := by decide +kernel
theorem dL_depth_2 : decode cL_depth 2 = .ok (.aload_n 0, 1) := by decide +kernel
theorem dL_depth_3 : decode cL_depth 3 = .ok (.iload_n 1, 1) := by decide +kernel
theorem dL_depth_4 : decode cL_depth 4 = .ok (.invokevirtual 50, 3) := by decide +kernel
theorem dL_depth_12 : decode cL_depth 12 = .ok (.astore_n 3, 1) := by decide +kernel
theorem dL_depth_13 : decode cL_depth 13 = .ok (.iconst 1, 1) := by decide +kernel
theorem dL_depth_14 : decode cL_depth 14 = .ok (.ireturn, 1) := by decide +kernel
theorem dL_depth_7 : decode cL_depth 7 = .ok (.i2l, 1) := by decide +kernel
theorem dL_depth_8 : decode cL_depth 8 = .ok (.lastore, 1) := by decide +kernel
theorem dL_depth_9 : decode cL_depth 9 = .ok (.goto 6, 3) := by decide +kernel
theorem dL_depth_15 : decode cL_depth 15 = .ok (.iconst 0, 1) := by decide +kernel
theorem dL_depth_16 : decode cL_depth 16 = .ok (.ireturn, 1) := by decide +kernel
theorem dL_isSame_0 : decode cL_isSame 0 = .ok (.aload_n 3, 1) := by decide +kernel
theorem dL_isSame_1 : decode cL_isSame 1 = .ok (.iconst 0, 1) := by decide +kernel
theorem dL_isSame_2 : decode cL_isSame 2 = .ok (.aload_n 0, 1) := by decide +kernel
theorem dL_isSame_3 : decode cL_isSame 3 = .ok (.iload_n 1, 1) := by decide +kernel
theorem dL_isSame_4 : decode cL_isSame 4 = .ok (.iload_n 2, 1) := by decide +kernel
theorem dL_isSame_5 : decode cL_isSame 5 = .ok (.invokevirtual 53, 3) := by decide +kernel
theorem dL_isSame_20 : decode cL_isSame 20 = .ok (.astore 4, 2) := by decide +kernel
theorem dL_isSame_22 : decode cL_isSame 22 = .ok (.iconst 1, 1) := by decide +kernel
theorem dL_isSame_23 : decode cL_isSame 23 = .ok (.ireturn, 1) := by decide +kernel
theorem dL_isSame_8 : decode cL_isSame 8 = .ok (.ifCond .eq 7, 3) := by decide +kernel
theorem dL_isSame_11 : decode cL_isSame 11 = .ok (.lconst 1, 1) := by decide +kernel
theorem dL_isSame_12 : decode cL_isSame 12 = .ok (.goto 4, 3) := by decide +kernel
theorem dL_isSame_16 : decode cL_isSame 16 = .ok (.lastore, 1) := by decide +kernel
theorem dL_isSame_17 : decode cL_isSame 17 = .ok (.goto 7, 3) := by decide +kernel
theorem dL_isSame_24 : decode cL_isSame 24 = .ok (.iconst 0, 1) := by decide +kernel
theorem dL_isSame_25 : decode cL_isSame 25 = .ok (.ireturn, 1) := by decide +kernel
theorem dL_isSame_15 : decode cL_isSame 15 = .ok (.lconst 0, 1) := by decide +kernel
def wb_c_L_parent : List Cond := [.code yX11_parent cX11_parent 7 (some .int), .code yX11_needSort cX11_needSort 2 none, .classLink RX11 277 "java/lang/IndexOutOfBoundsException", .initialized "java/lang/IndexOutOfBoundsException", .fieldLink RX11 42 "Hornbook" "sorts" "Ljava/util/ArrayList;", .code yJx4a65c_size_8abf5 cJx4a65c_size_8abf5 1 (some .int), .fieldLink RJx4a65c 48 "java/util/ArrayList" "size" "I", .methodLink RX11 73 yJx4a65c_size_8abf5, .instanceMethod yJx4a65c_size_8abf5, .selects RJx4a65c yJx4a65c_size_8abf5 yJx4a65c_size_8abf5, .initialized RJx4a65c, .methodLink RX11 112 yX11_needSort, .instanceMethod yX11_needSort, .selects RX11 yX11_needSort yX11_needSort, .initialized RX11, .methodLink RL 17 yX11_parent, .instanceMethod yX11_parent, .selects RX11 yX11_parent yX11_parent, .classLink RL 21 "java/lang/IndexOutOfBoundsException"] ++ u_ws RJx4a65c TJx4a65c 3 ++ u_ws RX11 TX11 10
def w_c_L_parent : List Cond := .codeWith yL_parent cL_parent 5 (some .int) [(0, 10, 13, 21), (0, 10, 17, 13), (0, 10, 21, 15)] :: (wb_c_L_parent ++ zAt)
set_option maxRecDepth 100000 in
theorem g_c_L_parent_0 : GoodIn w_c_L_parent (wsV RL 17 RX11 yX11_parent w_c_H_parent) := goodIn_app (goodIn_of _ (by decide +kernel)) (goodIn_ca (goodIn_p (big := w_c_L_parent) (.code yX11_parent cX11_parent 7 (some .int) :: wb_c_H_parent) [1, 2, 6] rfl (by decide +kernel)) (goodIn_sub (fun _ h => List.mem_cons_of_mem _ (List.mem_append_right _ h)) zAt_good))
set_option maxHeartbeats 4000000 in
set_option maxRecDepth 100000 in
theorem c_L_parent (l : Launch) (hfl : l.flags = flags0) (eD eI : Nat) (ad : Nat → Nat) (dC : Nat → ClassId) (dI : Nat → Nat → Nat) (sz : Nat) (hh : Nat) (aexpr : Nat) (achoo : Nat) (ameth : Nat) (aroom : Nat) (anod : Nat) (asort : Nat) (anote : Nat) (amet : Nat) (ou : Nat) (kL : ClassId) (x1 : Int32) (x2 : Int32) (fo : Nat → Int64) : vx_Met l yL_parent w_c_L_parent ({ frames := 8, cells := 1, slots := 6, locals := 129 }) (va_Pc [.ref hh, .int x1, .int x2, .ref ou] (zPreD eD eI ad (dC, dI) [(hh, .inr (13, [.ref aexpr, .ref achoo, .ref ameth, .ref aroom, .ref anod, .ref asort, .ref anote, .ref amet, .int 0, .int 1])), (asort, .inr (1, [.int 0, .ref eD, .int 0])), (ou, .inl (kL, 1, .inr (.inl fo)))] [(kL, .long)] sz)) (va_Qi (fun (r : Int32) (_ : Unit) => r = 1) (fun (_ : Unit) => zEnd (dC, dI) (va_A [(hh, .inr (13, [.ref aexpr, .ref achoo, .ref ameth, .ref aroom, .ref anod, .ref asort, .ref anote, .ref amet, .int 0, .int 1])), (asort, .inr (1, [.int 0, .ref eD, .int 0])), (ou, .inl (kL, 1, .inr (.inl fo)))] sz) [(ou, .inl (kL, 1, .inr (.inl fo)))] [(kL, .long)]) (va_A [(hh, .inr (13, [.ref aexpr, .ref achoo, .ref ameth, .ref aroom, .ref anod, .ref asort, .ref anote, .ref amet, .int 0, .int 1])), (asort, .inr (1, [.int 0, .ref eD, .int 0])), (ou, .inl (kL, 1, .inr (.inl fo)))] sz)) (zX (fun _ => False) (va_A [(hh, .inr (13, [.ref aexpr, .ref achoo, .ref ameth, .ref aroom, .ref anod, .ref asort, .ref anote, .ref amet, .int 0, .int 1])), (asort, .inr (1, [.int 0, .ref eD, .int 0])), (ou, .inl (kL, 1, .inr (.inl fo)))] sz)) 1 6 (va_A [(hh, .inr (13, [.ref aexpr, .ref achoo, .ref ameth, .ref aroom, .ref anod, .ref asort, .ref anote, .ref amet, .int 0, .int 1])), (asort, .inr (1, [.int 0, .ref eD, .int 0])), (ou, .inl (kL, 1, .inr (.inl fo)))] sz) := by
  refine vx_ofWH (cc := cL_parent) (maxL := 5) (ret := (some .int)) (hh := [(0, 10, 13, 21), (0, 10, 17, 13), (0, 10, 21, 15)]) (by decide +kernel) rfl ?_
  intro p e s m args below meth c s₁ B hml hv
  obtain ⟨rfl, ⟨hsz, hP, hK, hD0, hE⟩, hDc⟩ := hv
  have hx := B.exec
  have hb := B.bytes
  have hr := B.returns
  have hts := atoms_spec (ws := w_c_L_parent) B.pre
  have hown : s.vm.findClass RL = some m.cls := findClass_of_methodNamed B.named
  have hlocks := B.notSynchronized
  have htab := vx_table (x := yL_parent) B (hts (.codeWith yL_parent cL_parent 5 (some .int) [(0, 10, 13, 21), (0, 10, 17, 13), (0, 10, 21, 15)]) List.mem_cons_self)
  subst hsz
  have hD := hD0.self (sz := s.heap.size)
  generalize hAe : va_A [(hh, .inr (13, [.ref aexpr, .ref achoo, .ref ameth, .ref aroom, .ref anod, .ref asort, .ref anote, .ref amet, .int 0, .int 1])), (asort, .inr (1, [.int 0, .ref eD, .int 0])), (ou, .inl (kL, 1, .inr (.inl fo)))] s.heap.size = A at hD hE ⊢
  have hA : ∀ q : Nat, s.heap.size ≤ q → A q := fun q h => by rw [← hAe]; exact Or.inr h
  have hS : va_S A s.heap s.heap [] := va_S.rf
  have hP : va_P (dC, dI) vwCl [(hh, .inr (13, [.ref aexpr, .ref achoo, .ref ameth, .ref aroom, .ref anod, .ref asort, .ref anote, .ref amet, .int 0, .int 1])), (asort, .inr (1, [.int 0, .ref eD, .int 0])), (ou, .inl (kL, 1, .inr (.inl fo)))] s.heap := hP
  have hl := lv_entry ([.ref hh, .int x1, .int x2, .ref ou]) (n := 5) (Nat.le_of_ble_eq_true rfl)
  rw [lg_entry_eq]
  generalize (lg_sl ([.ref hh, .int x1, .int x2, .ref ou]) ++ List.replicate (5 - (lg_sl ([.ref hh, .int x1, .int x2, .ref ou])).length) Slot.unset).toArray = ls at hl ⊢
  have hl : lv_has ls 5 [(0, .ref hh), (1, .int x1), (2, .int x2), (3, .ref ou)] := hl
  have in_RJx4a65c : ∀ w ∈ u_ws RJx4a65c TJx4a65c 3, w ∈ w_c_L_parent := by decide +kernel
  have in_RX11 : ∀ w ∈ u_ws RX11 TX11 10, w ∈ w_c_L_parent := by decide +kernel
  refine lv_aload_n hx hb dL_parent_0 rfl (lv_at hl 3 rfl) ?_
  refine lv_iconst (v := 0) hx hb dL_parent_1 (by decide) ?_
  refine lv_aload_n hx hb dL_parent_2 rfl (lv_at hl 0 rfl) ?_
  refine lv_iload_n hx hb dL_parent_3 rfl (lv_at hl 1 rfl) ?_
  refine lv_iload_n hx hb dL_parent_4 rfl (lv_at hl 2 rfl) ?_
  refine zx_i (wr := [(ou, .inl (kL, 1, .inr (.inl fo)))]) (vx_runV (As := [.int x1, .int x2]) (rest := [.int 0, .ref ou]) ⟨hx, hb, hml, hown, hts⟩ (c_H_parent l hfl eD eI ad dC dI s.heap.size hh aexpr achoo ameth aroom anod asort anote amet x1 x2) (cwV 2 hts g_c_L_parent_0 rfl rfl rfl (by decide +kernel) ⟨Nat.le_of_ble_eq_true rfl, Nat.le_of_ble_eq_true rfl⟩) (z_preVD (wc := [(hh, .inr (13, [.ref aexpr, .ref achoo, .ref ameth, .ref aroom, .ref anod, .ref asort, .ref anote, .ref amet, .int 0, .int 1])), (asort, .inr (1, [.int 0, .ref eD, .int 0]))]) hP hD hK hS hA hE [0, 1] [] rfl (by decide) rfl (ci := 13) (q0 := 0) rfl rfl hDc) rfl rfl hl.1 rfl (lv_room (Nat.le_of_ble_eq_true rfl)) dL_parent_5 ⟨Nat.le_of_ble_eq_true rfl, Nat.le_of_ble_eq_true rfl⟩) hP hD hK hS hA [0, 1] [2] rfl rfl (by decide) (by decide) (fun E ce q9 H locs hbad hP hD hS h91 h92 h93 => ?_) (fun r_1 u H locs hw_2 hP hD hK hS => ?_)
  · have hbad : E = "java/lang/IndexOutOfBoundsException" := hbad
    subst hbad
    refine vx_catch (name := "java/lang/IndexOutOfBoundsException") hown [] ⟨0, 10, 13, 21⟩ [⟨0, 10, 17, 13⟩, ⟨0, 10, 21, 15⟩] (by rw [htab]; rfl) (fun z h => by simp at h) (by decide) (by decide) (hts (.classLink RL 21 "java/lang/IndexOutOfBoundsException") (by decide +kernel)) (va_Nw.use rfl (hE.2.2.2.2.2.2.2.1 ("java/lang/IndexOutOfBoundsException", "java/lang/IndexOutOfBoundsException") (by decide +kernel))) h91 h92 h93 ?_
    refine W.eq (g2 := F0 m 13 ls [.ref q9]) rfl ?_
    refine lv_astore (lv' := [(4, .ref q9), (0, .ref hh), (1, .int x1), (2, .int x2), (3, .ref ou)]) hx hb dL_parent_13 hl (by decide) rfl (fun ls hl => ?_)
    refine lv_iconst (v := 1) hx hb dL_parent_15 (by decide) ?_
    have hP9 := hP.sub (ws' := [(ou, .inl (kL, 1, .inr (.inl fo)))]) [0] rfl
    have hD9 := hD.sub (ws' := [(ou, .inl (kL, 1, .inr (.inl fo)))]) [0] (by decide) rfl
    have hK9 := hK.sub (tys' := [(kL, .long)]) [0] rfl
    refine W.widen (k := 1) (n := 6) (Nat.le_of_ble_eq_true rfl) (Nat.le_of_ble_eq_true rfl) ?_
    refine vx_ret ?_
    exact W.iret (v := 1) hx hb hr (fun t ht hW => ⟨⟨1, (), rfl, rfl, ⟨by rw [ht]; exact hP9, va_K.moved hW.alike hK9, hD9⟩⟩, hS.F ht⟩) hS.2.2 dL_parent_16
  exact absurd hw_2 id

def wb_c_L_type : List Cond := [.code yX11_type cX11_type 9 (some .int), .code yX11_needSort cX11_needSort 2 none, .classLink RX11 277 "java/lang/IndexOutOfBoundsException", .initialized "java/lang/IndexOutOfBoundsException", .fieldLink RX11 42 "Hornbook" "sorts" "Ljava/util/ArrayList;", .code yJx4a65c_size_8abf5 cJx4a65c_size_8abf5 1 (some .int), .fieldLink RJx4a65c 48 "java/util/ArrayList" "size" "I", .methodLink RX11 73 yJx4a65c_size_8abf5, .instanceMethod yJx4a65c_size_8abf5, .selects RJx4a65c yJx4a65c_size_8abf5 yJx4a65c_size_8abf5, .initialized RJx4a65c, .methodLink RX11 112 yX11_needSort, .instanceMethod yX11_needSort, .selects RX11 yX11_needSort yX11_needSort, .initialized RX11, .methodLink RL 23 yX11_type, .instanceMethod yX11_type, .selects RX11 yX11_type yX11_type, .classLink RL 21 "java/lang/IndexOutOfBoundsException"] ++ u_ws RJx4a65c TJx4a65c 3 ++ u_ws RX11 TX11 10
def w_c_L_type : List Cond := .codeWith yL_type cL_type 6 (some .int) [(0, 12, 15, 21), (0, 12, 19, 13), (0, 12, 23, 15)] :: (wb_c_L_type ++ zAt)
set_option maxRecDepth 100000 in
theorem g_c_L_type_0 : GoodIn w_c_L_type (wsV RL 23 RX11 yX11_type w_c_H_type) := goodIn_app (goodIn_of _ (by decide +kernel)) (goodIn_ca (goodIn_p (big := w_c_L_type) (.code yX11_type cX11_type 9 (some .int) :: wb_c_H_type) [1, 2, 6] rfl (by decide +kernel)) (goodIn_sub (fun _ h => List.mem_cons_of_mem _ (List.mem_append_right _ h)) zAt_good))
set_option maxHeartbeats 4000000 in
set_option maxRecDepth 100000 in
theorem c_L_type (l : Launch) (hfl : l.flags = flags0) (eD eI : Nat) (ad : Nat → Nat) (dC : Nat → ClassId) (dI : Nat → Nat → Nat) (sz : Nat) (hh : Nat) (aexpr : Nat) (achoo : Nat) (ameth : Nat) (aroom : Nat) (anod : Nat) (asort : Nat) (anote : Nat) (amet : Nat) (ou : Nat) (kL : ClassId) (x1 : Int32) (x2 : Int32) (x3 : Int32) (fo : Nat → Int64) : vx_Met l yL_type w_c_L_type ({ frames := 8, cells := 1, slots := 6, locals := 131 }) (va_Pc [.ref hh, .int x1, .int x2, .int x3, .ref ou] (zPreD eD eI ad (dC, dI) [(hh, .inr (13, [.ref aexpr, .ref achoo, .ref ameth, .ref aroom, .ref anod, .ref asort, .ref anote, .ref amet, .int 0, .int 1])), (asort, .inr (1, [.int 0, .ref eD, .int 0])), (ou, .inl (kL, 1, .inr (.inl fo)))] [(kL, .long)] sz)) (va_Qi (fun (r : Int32) (_ : Unit) => r = 1) (fun (_ : Unit) => zEnd (dC, dI) (va_A [(hh, .inr (13, [.ref aexpr, .ref achoo, .ref ameth, .ref aroom, .ref anod, .ref asort, .ref anote, .ref amet, .int 0, .int 1])), (asort, .inr (1, [.int 0, .ref eD, .int 0])), (ou, .inl (kL, 1, .inr (.inl fo)))] sz) [(ou, .inl (kL, 1, .inr (.inl fo)))] [(kL, .long)]) (va_A [(hh, .inr (13, [.ref aexpr, .ref achoo, .ref ameth, .ref aroom, .ref anod, .ref asort, .ref anote, .ref amet, .int 0, .int 1])), (asort, .inr (1, [.int 0, .ref eD, .int 0])), (ou, .inl (kL, 1, .inr (.inl fo)))] sz)) (zX (fun _ => False) (va_A [(hh, .inr (13, [.ref aexpr, .ref achoo, .ref ameth, .ref aroom, .ref anod, .ref asort, .ref anote, .ref amet, .int 0, .int 1])), (asort, .inr (1, [.int 0, .ref eD, .int 0])), (ou, .inl (kL, 1, .inr (.inl fo)))] sz)) 1 6 (va_A [(hh, .inr (13, [.ref aexpr, .ref achoo, .ref ameth, .ref aroom, .ref anod, .ref asort, .ref anote, .ref amet, .int 0, .int 1])), (asort, .inr (1, [.int 0, .ref eD, .int 0])), (ou, .inl (kL, 1, .inr (.inl fo)))] sz) := by
  refine vx_ofWH (cc := cL_type) (maxL := 6) (ret := (some .int)) (hh := [(0, 12, 15, 21), (0, 12, 19, 13), (0, 12, 23, 15)]) (by decide +kernel) rfl ?_
  intro p e s m args below meth c s₁ B hml hv
  obtain ⟨rfl, ⟨hsz, hP, hK, hD0, hE⟩, hDc⟩ := hv
  have hx := B.exec
  have hb := B.bytes
  have hr := B.returns
  have hts := atoms_spec (ws := w_c_L_type) B.pre
  have hown : s.vm.findClass RL = some m.cls := findClass_of_methodNamed B.named
  have hlocks := B.notSynchronized
  have htab := vx_table (x := yL_type) B (hts (.codeWith yL_type cL_type 6 (some .int) [(0, 12, 15, 21), (0, 12, 19, 13), (0, 12, 23, 15)]) List.mem_cons_self)
  subst hsz
  have hD := hD0.self (sz := s.heap.size)
  generalize hAe : va_A [(hh, .inr (13, [.ref aexpr, .ref achoo, .ref ameth, .ref aroom, .ref anod, .ref asort, .ref anote, .ref amet, .int 0, .int 1])), (asort, .inr (1, [.int 0, .ref eD, .int 0])), (ou, .inl (kL, 1, .inr (.inl fo)))] s.heap.size = A at hD hE ⊢
  have hA : ∀ q : Nat, s.heap.size ≤ q → A q := fun q h => by rw [← hAe]; exact Or.inr h
  have hS : va_S A s.heap s.heap [] := va_S.rf
  have hP : va_P (dC, dI) vwCl [(hh, .inr (13, [.ref aexpr, .ref achoo, .ref ameth, .ref aroom, .ref anod, .ref asort, .ref anote, .ref amet, .int 0, .int 1])), (asort, .inr (1, [.int 0, .ref eD, .int 0])), (ou, .inl (kL, 1, .inr (.inl fo)))] s.heap := hP
  have hl := lv_entry ([.ref hh, .int x1, .int x2, .int x3, .ref ou]) (n := 6) (Nat.le_of_ble_eq_true rfl)
  rw [lg_entry_eq]
  generalize (lg_sl ([.ref hh, .int x1, .int x2, .int x3, .ref ou]) ++ List.replicate (6 - (lg_sl ([.ref hh, .int x1, .int x2, .int x3, .ref ou])).length) Slot.unset).toArray = ls at hl ⊢
  have hl : lv_has ls 6 [(0, .ref hh), (1, .int x1), (2, .int x2), (3, .int x3), (4, .ref ou)] := hl
  have in_RJx4a65c : ∀ w ∈ u_ws RJx4a65c TJx4a65c 3, w ∈ w_c_L_type := by decide +kernel
  have in_RX11 : ∀ w ∈ u_ws RX11 TX11 10, w ∈ w_c_L_type := by decide +kernel
  refine lv_aload hx hb dL_type_0 (lv_at hl 4 rfl) ?_
  refine lv_iconst (v := 0) hx hb dL_type_2 (by decide) ?_
  refine lv_aload_n hx hb dL_type_3 rfl (lv_at hl 0 rfl) ?_
  refine lv_iload_n hx hb dL_type_4 rfl (lv_at hl 1 rfl) ?_
  refine lv_iload_n hx hb dL_type_5 rfl (lv_at hl 2 rfl) ?_
  refine lv_iload_n hx hb dL_type_6 rfl (lv_at hl 3 rfl) ?_
  refine zx_i (wr := [(ou, .inl (kL, 1, .inr (.inl fo)))]) (vx_runV (As := [.int x1, .int x2, .int x3]) (rest := [.int 0, .ref ou]) ⟨hx, hb, hml, hown, hts⟩ (c_H_type l hfl eD eI ad dC dI s.heap.size hh aexpr achoo ameth aroom anod asort anote amet x1 x2 x3) (cwV 3 hts g_c_L_type_0 rfl rfl rfl (by decide +kernel) ⟨Nat.le_of_ble_eq_true rfl, Nat.le_of_ble_eq_true rfl⟩) (z_preVD (wc := [(hh, .inr (13, [.ref aexpr, .ref achoo, .ref ameth, .ref aroom, .ref anod, .ref asort, .ref anote, .ref amet, .int 0, .int 1])), (asort, .inr (1, [.int 0, .ref eD, .int 0]))]) hP hD hK hS hA hE [0, 1] [] rfl (by decide) rfl (ci := 13) (q0 := 0) rfl rfl hDc) rfl rfl hl.1 rfl (lv_room (Nat.le_of_ble_eq_true rfl)) dL_type_7 ⟨Nat.le_of_ble_eq_true rfl, Nat.le_of_ble_eq_true rfl⟩) hP hD hK hS hA [0, 1] [2] rfl rfl (by decide) (by decide) (fun E ce q9 H locs hbad hP hD hS h91 h92 h93 => ?_) (fun r_1 u H locs hw_2 hP hD hK hS => ?_)
  · have hbad : E = "java/lang/IndexOutOfBoundsException" := hbad
    subst hbad
    refine vx_catch (name := "java/lang/IndexOutOfBoundsException") hown [] ⟨0, 12, 15, 21⟩ [⟨0, 12, 19, 13⟩, ⟨0, 12, 23, 15⟩] (by rw [htab]; rfl) (fun z h => by simp at h) (by decide) (by decide) (hts (.classLink RL 21 "java/lang/IndexOutOfBoundsException") (by decide +kernel)) (va_Nw.use rfl (hE.2.2.2.2.2.2.2.1 ("java/lang/IndexOutOfBoundsException", "java/lang/IndexOutOfBoundsException") (by decide +kernel))) h91 h92 h93 ?_
    refine W.eq (g2 := F0 m 15 ls [.ref q9]) rfl ?_
    refine lv_astore (lv' := [(5, .ref q9), (0, .ref hh), (1, .int x1), (2, .int x2), (3, .int x3), (4, .ref ou)]) hx hb dL_type_15 hl (by decide) rfl (fun ls hl => ?_)
    refine lv_iconst (v := 1) hx hb dL_type_17 (by decide) ?_
    have hP9 := hP.sub (ws' := [(ou, .inl (kL, 1, .inr (.inl fo)))]) [0] rfl
    have hD9 := hD.sub (ws' := [(ou, .inl (kL, 1, .inr (.inl fo)))]) [0] (by decide) rfl
    have hK9 := hK.sub (tys' := [(kL, .long)]) [0] rfl
    refine W.widen (k := 1) (n := 6) (Nat.le_of_ble_eq_true rfl) (Nat.le_of_ble_eq_true rfl) ?_
    refine vx_ret ?_
    exact W.iret (v := 1) hx hb hr (fun t ht hW => ⟨⟨1, (), rfl, rfl, ⟨by rw [ht]; exact hP9, va_K.moved hW.alike hK9, hD9⟩⟩, hS.F ht⟩) hS.2.2 dL_type_18
  exact absurd hw_2 id

def wb_c_L_method : List Cond := [.code yX11_method cX11_method 14 (some .int), .code yX11_needSort cX11_needSort 2 none, .classLink RX11 277 "java/lang/IndexOutOfBoundsException", .initialized "java/lang/IndexOutOfBoundsException", .fieldLink RX11 42 "Hornbook" "sorts" "Ljava/util/ArrayList;", .code yJx4a65c_size_8abf5 cJx4a65c_size_8abf5 1 (some .int), .fieldLink RJx4a65c 48 "java/util/ArrayList" "size" "I", .methodLink RX11 73 yJx4a65c_size_8abf5, .instanceMethod yJx4a65c_size_8abf5, .selects RJx4a65c yJx4a65c_size_8abf5 yJx4a65c_size_8abf5, .initialized RJx4a65c, .methodLink RX11 112 yX11_needSort, .instanceMethod yX11_needSort, .selects RX11 yX11_needSort yX11_needSort, .initialized RX11, .methodLink RL 30 yX11_method, .instanceMethod yX11_method, .selects RX11 yX11_method yX11_method, .classLink RL 21 "java/lang/IndexOutOfBoundsException"] ++ u_ws RJx4a65c TJx4a65c 3 ++ u_ws RX11 TX11 10
def w_c_L_method : List Cond := .codeWith yL_method cL_method 9 (some .int) [(0, 18, 21, 21), (0, 18, 25, 13), (0, 18, 29, 15)] :: (wb_c_L_method ++ zAt)
set_option maxRecDepth 100000 in
theorem g_c_L_method_0 : GoodIn w_c_L_method (wsV RL 30 RX11 yX11_method w_c_H_method) := goodIn_app (goodIn_of _ (by decide +kernel)) (goodIn_ca (goodIn_p (big := w_c_L_method) (.code yX11_method cX11_method 14 (some .int) :: wb_c_H_method) [1, 2, 6] rfl (by decide +kernel)) (goodIn_sub (fun _ h => List.mem_cons_of_mem _ (List.mem_append_right _ h)) zAt_good))
set_option maxHeartbeats 4000000 in
set_option maxRecDepth 100000 in
theorem c_L_method (l : Launch) (hfl : l.flags = flags0) (eD eI : Nat) (ad : Nat → Nat) (dC : Nat → ClassId) (dI : Nat → Nat → Nat) (sz : Nat) (hh : Nat) (aexpr : Nat) (achoo : Nat) (ameth : Nat) (aroom : Nat) (anod : Nat) (asort : Nat) (anote : Nat) (amet : Nat) (ou : Nat) (kL : ClassId) (x1 : Int32) (x2 : Int32) (x3 : Int32) (x4 : Int32) (x5 : Int32) (x6 : Int32) (fo : Nat → Int64) : vx_Met l yL_method w_c_L_method ({ frames := 8, cells := 1, slots := 6, locals := 136 }) (va_Pc [.ref hh, .int x1, .int x2, .int x3, .int x4, .int x5, .int x6, .ref ou] (zPreD eD eI ad (dC, dI) [(hh, .inr (13, [.ref aexpr, .ref achoo, .ref ameth, .ref aroom, .ref anod, .ref asort, .ref anote, .ref amet, .int 0, .int 1])), (asort, .inr (1, [.int 0, .ref eD, .int 0])), (ou, .inl (kL, 1, .inr (.inl fo)))] [(kL, .long)] sz)) (va_Qi (fun (r : Int32) (_ : Unit) => r = 1) (fun (_ : Unit) => zEnd (dC, dI) (va_A [(hh, .inr (13, [.ref aexpr, .ref achoo, .ref ameth, .ref aroom, .ref anod, .ref asort, .ref anote, .ref amet, .int 0, .int 1])), (asort, .inr (1, [.int 0, .ref eD, .int 0])), (ou, .inl (kL, 1, .inr (.inl fo)))] sz) [(ou, .inl (kL, 1, .inr (.inl fo)))] [(kL, .long)]) (va_A [(hh, .inr (13, [.ref aexpr, .ref achoo, .ref ameth, .ref aroom, .ref anod, .ref asort, .ref anote, .ref amet, .int 0, .int 1])), (asort, .inr (1, [.int 0, .ref eD, .int 0])), (ou, .inl (kL, 1, .inr (.inl fo)))] sz)) (zX (fun _ => False) (va_A [(hh, .inr (13, [.ref aexpr, .ref achoo, .ref ameth, .ref aroom, .ref anod, .ref asort, .ref anote, .ref amet, .int 0, .int 1])), (asort, .inr (1, [.int 0, .ref eD, .int 0])), (ou, .inl (kL, 1, .inr (.inl fo)))] sz)) 1 6 (va_A [(hh, .inr (13, [.ref aexpr, .ref achoo, .ref ameth, .ref aroom, .ref anod, .ref asort, .ref anote, .ref amet, .int 0, .int 1])), (asort, .inr (1, [.int 0, .ref eD, .int 0])), (ou, .inl (kL, 1, .inr (.inl fo)))] sz) := by
  refine vx_ofWH (cc := cL_method) (maxL := 9) (ret := (some .int)) (hh := [(0, 18, 21, 21), (0, 18, 25, 13), (0, 18, 29, 15)]) (by decide +kernel) rfl ?_
  intro p e s m args below meth c s₁ B hml hv
  obtain ⟨rfl, ⟨hsz, hP, hK, hD0, hE⟩, hDc⟩ := hv
  have hx := B.exec
  have hb := B.bytes
  have hr := B.returns
  have hts := atoms_spec (ws := w_c_L_method) B.pre
  have hown : s.vm.findClass RL = some m.cls := findClass_of_methodNamed B.named
  have hlocks := B.notSynchronized
  have htab := vx_table (x := yL_method) B (hts (.codeWith yL_method cL_method 9 (some .int) [(0, 18, 21, 21), (0, 18, 25, 13), (0, 18, 29, 15)]) List.mem_cons_self)
  subst hsz
  have hD := hD0.self (sz := s.heap.size)
  generalize hAe : va_A [(hh, .inr (13, [.ref aexpr, .ref achoo, .ref ameth, .ref aroom, .ref anod, .ref asort, .ref anote, .ref amet, .int 0, .int 1])), (asort, .inr (1, [.int 0, .ref eD, .int 0])), (ou, .inl (kL, 1, .inr (.inl fo)))] s.heap.size = A at hD hE ⊢
  have hA : ∀ q : Nat, s.heap.size ≤ q → A q := fun q h => by rw [← hAe]; exact Or.inr h
  have hS : va_S A s.heap s.heap [] := va_S.rf
  have hP : va_P (dC, dI) vwCl [(hh, .inr (13, [.ref aexpr, .ref achoo, .ref ameth, .ref aroom, .ref anod, .ref asort, .ref anote, .ref amet, .int 0, .int 1])), (asort, .inr (1, [.int 0, .ref eD, .int 0])), (ou, .inl (kL, 1, .inr (.inl fo)))] s.heap := hP
  have hl := lv_entry ([.ref hh, .int x1, .int x2, .int x3, .int x4, .int x5, .int x6, .ref ou]) (n := 9) (Nat.le_of_ble_eq_true rfl)
  rw [lg_entry_eq]
  generalize (lg_sl ([.ref hh, .int x1, .int x2, .int x3, .int x4, .int x5, .int x6, .ref ou]) ++ List.replicate (9 - (lg_sl ([.ref hh, .int x1, .int x2, .int x3, .int x4, .int x5, .int x6, .ref ou])).length) Slot.unset).toArray = ls at hl ⊢
  have hl : lv_has ls 9 [(0, .ref hh), (1, .int x1), (2, .int x2), (3, .int x3), (4, .int x4), (5, .int x5), (6, .int x6), (7, .ref ou)] := hl
  have in_RJx4a65c : ∀ w ∈ u_ws RJx4a65c TJx4a65c 3, w ∈ w_c_L_method := by decide +kernel
  have in_RX11 : ∀ w ∈ u_ws RX11 TX11 10, w ∈ w_c_L_method := by decide +kernel
  refine lv_aload hx hb dL_method_0 (lv_at hl 7 rfl) ?_
  refine lv_iconst (v := 0) hx hb dL_method_2 (by decide) ?_
  refine lv_aload_n hx hb dL_method_3 rfl (lv_at hl 0 rfl) ?_
  refine lv_iload_n hx hb dL_method_4 rfl (lv_at hl 1 rfl) ?_
  refine lv_iload_n hx hb dL_method_5 rfl (lv_at hl 2 rfl) ?_
  refine lv_iload_n hx hb dL_method_6 rfl (lv_at hl 3 rfl) ?_
  refine lv_iload hx hb dL_method_7 (lv_at hl 4 rfl) ?_
  refine lv_iload hx hb dL_method_9 (lv_at hl 5 rfl) ?_
  refine lv_iload hx hb dL_method_11 (lv_at hl 6 rfl) ?_
  refine zx_i (wr := [(ou, .inl (kL, 1, .inr (.inl fo)))]) (vx_runV (As := [.int x1, .int x2, .int x3, .int x4, .int x5, .int x6]) (rest := [.int 0, .ref ou]) ⟨hx, hb, hml, hown, hts⟩ (c_H_method l hfl eD eI ad dC dI s.heap.size hh aexpr achoo ameth aroom anod asort anote amet x1 x2 x3 x4 x5 x6) (cwV 6 hts g_c_L_method_0 rfl rfl rfl (by decide +kernel) ⟨Nat.le_of_ble_eq_true rfl, Nat.le_of_ble_eq_true rfl⟩) (z_preVD (wc := [(hh, .inr (13, [.ref aexpr, .ref achoo, .ref ameth, .ref aroom, .ref anod, .ref asort, .ref anote, .ref amet, .int 0, .int 1])), (asort, .inr (1, [.int 0, .ref eD, .int 0]))]) hP hD hK hS hA hE [0, 1] [] rfl (by decide) rfl (ci := 13) (q0 := 0) rfl rfl hDc) rfl rfl hl.1 rfl (lv_room (Nat.le_of_ble_eq_true rfl)) dL_method_13 ⟨Nat.le_of_ble_eq_true rfl, Nat.le_of_ble_eq_true rfl⟩) hP hD hK hS hA [0, 1] [2] rfl rfl (by decide) (by decide) (fun E ce q9 H locs hbad hP hD hS h91 h92 h93 => ?_) (fun r_1 u H locs hw_2 hP hD hK hS => ?_)
  · have hbad : E = "java/lang/IndexOutOfBoundsException" := hbad
    subst hbad
    refine vx_catch (name := "java/lang/IndexOutOfBoundsException") hown [] ⟨0, 18, 21, 21⟩ [⟨0, 18, 25, 13⟩, ⟨0, 18, 29, 15⟩] (by rw [htab]; rfl) (fun z h => by simp at h) (by decide) (by decide) (hts (.classLink RL 21 "java/lang/IndexOutOfBoundsException") (by decide +kernel)) (va_Nw.use rfl (hE.2.2.2.2.2.2.2.1 ("java/lang/IndexOutOfBoundsException", "java/lang/IndexOutOfBoundsException") (by decide +kernel))) h91 h92 h93 ?_
    refine W.eq (g2 := F0 m 21 ls [.ref q9]) rfl ?_
    refine lv_astore (lv' := [(8, .ref q9), (0, .ref hh), (1, .int x1), (2, .int x2), (3, .int x3), (4, .int x4), (5, .int x5), (6, .int x6), (7, .ref ou)]) hx hb dL_method_21 hl (by decide) rfl (fun ls hl => ?_)
    refine lv_iconst (v := 1) hx hb dL_method_23 (by decide) ?_
    have hP9 := hP.sub (ws' := [(ou, .inl (kL, 1, .inr (.inl fo)))]) [0] rfl
    have hD9 := hD.sub (ws' := [(ou, .inl (kL, 1, .inr (.inl fo)))]) [0] (by decide) rfl
    have hK9 := hK.sub (tys' := [(kL, .long)]) [0] rfl
    refine W.widen (k := 1) (n := 6) (Nat.le_of_ble_eq_true rfl) (Nat.le_of_ble_eq_true rfl) ?_
    refine vx_ret ?_
    exact W.iret (v := 1) hx hb hr (fun t ht hW => ⟨⟨1, (), rfl, rfl, ⟨by rw [ht]; exact hP9, va_K.moved hW.alike hK9, hD9⟩⟩, hS.F ht⟩) hS.2.2 dL_method_24
  exact absurd hw_2 id

def wb_c_L_faultsWith : List Cond := [.code yX11_faultsWith cX11_faultsWith 7 (some .int), .code yX11_needParameter cX11_needParameter 4 none, .code yX11_needSort cX11_needSort 2 none, .classLink RX11 277 "java/lang/IndexOutOfBoundsException", .initialized "java/lang/IndexOutOfBoundsException", .fieldLink RX11 42 "Hornbook" "sorts" "Ljava/util/ArrayList;", .code yJx4a65c_size_8abf5 cJx4a65c_size_8abf5 1 (some .int), .fieldLink RJx4a65c 48 "java/util/ArrayList" "size" "I", .methodLink RX11 73 yJx4a65c_size_8abf5, .instanceMethod yJx4a65c_size_8abf5, .selects RJx4a65c yJx4a65c_size_8abf5 yJx4a65c_size_8abf5, .initialized RJx4a65c, .methodLink RX11 112 yX11_needSort, .instanceMethod yX11_needSort, .selects RX11 yX11_needSort yX11_needSort, .initialized RX11, .methodLink RX11 321 yX11_needParameter, .instanceMethod yX11_needParameter, .selects RX11 yX11_needParameter yX11_needParameter, .methodLink RL 97 yX11_faultsWith, .instanceMethod yX11_faultsWith, .selects RX11 yX11_faultsWith yX11_faultsWith, .classLink RL 21 "java/lang/IndexOutOfBoundsException"] ++ u_ws RJx4a65c TJx4a65c 3 ++ u_ws RX11 TX11 10
def w_c_L_faultsWith : List Cond := .codeWith yL_faultsWith cL_faultsWith 6 (some .int) [(0, 12, 15, 21), (0, 12, 19, 13)] :: (wb_c_L_faultsWith ++ zAt)
set_option maxRecDepth 100000 in
theorem g_c_L_faultsWith_0 : GoodIn w_c_L_faultsWith (wsV RL 97 RX11 yX11_faultsWith w_c_H_faultsWith) := goodIn_app (goodIn_of _ (by decide +kernel)) (goodIn_ca (goodIn_p (big := w_c_L_faultsWith) (.code yX11_faultsWith cX11_faultsWith 7 (some .int) :: wb_c_H_faultsWith) [1, 2, 3, 7] rfl (by decide +kernel)) (goodIn_sub (fun _ h => List.mem_cons_of_mem _ (List.mem_append_right _ h)) zAt_good))
set_option maxHeartbeats 4000000 in
set_option maxRecDepth 100000 in
theorem c_L_faultsWith (l : Launch) (hfl : l.flags = flags0) (eD eI : Nat) (ad : Nat → Nat) (dC : Nat → ClassId) (dI : Nat → Nat → Nat) (sz : Nat) (hh : Nat) (aexpr : Nat) (achoo : Nat) (ameth : Nat) (aroom : Nat) (anod : Nat) (asort : Nat) (anote : Nat) (amet : Nat) (ou : Nat) (kL : ClassId) (x1 : Int32) (x2 : Int32) (x3 : Int32) (fo : Nat → Int64) : vx_Met l yL_faultsWith w_c_L_faultsWith ({ frames := 9, cells := 1, slots := 6, locals := 152 }) (va_Pc [.ref hh, .int x1, .int x2, .int x3, .ref ou] (zPreD eD eI ad (dC, dI) [(hh, .inr (13, [.ref aexpr, .ref achoo, .ref ameth, .ref aroom, .ref anod, .ref asort, .ref anote, .ref amet, .int 0, .int 1])), (asort, .inr (1, [.int 0, .ref eD, .int 0])), (ou, .inl (kL, 1, .inr (.inl fo)))] [(kL, .long)] sz)) (va_Qi (fun (r : Int32) (_ : Unit) => r = 1) (fun (_ : Unit) => zEnd (dC, dI) (va_A [(hh, .inr (13, [.ref aexpr, .ref achoo, .ref ameth, .ref aroom, .ref anod, .ref asort, .ref anote, .ref amet, .int 0, .int 1])), (asort, .inr (1, [.int 0, .ref eD, .int 0])), (ou, .inl (kL, 1, .inr (.inl fo)))] sz) [(ou, .inl (kL, 1, .inr (.inl fo)))] [(kL, .long)]) (va_A [(hh, .inr (13, [.ref aexpr, .ref achoo, .ref ameth, .ref aroom, .ref anod, .ref asort, .ref anote, .ref amet, .int 0, .int 1])), (asort, .inr (1, [.int 0, .ref eD, .int 0])), (ou, .inl (kL, 1, .inr (.inl fo)))] sz)) (zX (fun _ => False) (va_A [(hh, .inr (13, [.ref aexpr, .ref achoo, .ref ameth, .ref aroom, .ref anod, .ref asort, .ref anote, .ref amet, .int 0, .int 1])), (asort, .inr (1, [.int 0, .ref eD, .int 0])), (ou, .inl (kL, 1, .inr (.inl fo)))] sz)) 1 6 (va_A [(hh, .inr (13, [.ref aexpr, .ref achoo, .ref ameth, .ref aroom, .ref anod, .ref asort, .ref anote, .ref amet, .int 0, .int 1])), (asort, .inr (1, [.int 0, .ref eD, .int 0])), (ou, .inl (kL, 1, .inr (.inl fo)))] sz) := by
  refine vx_ofWH (cc := cL_faultsWith) (maxL := 6) (ret := (some .int)) (hh := [(0, 12, 15, 21), (0, 12, 19, 13)]) (by decide +kernel) rfl ?_
  intro p e s m args below meth c s₁ B hml hv
  obtain ⟨rfl, ⟨hsz, hP, hK, hD0, hE⟩, hDc⟩ := hv
  have hx := B.exec
  have hb := B.bytes
  have hr := B.returns
  have hts := atoms_spec (ws := w_c_L_faultsWith) B.pre
  have hown : s.vm.findClass RL = some m.cls := findClass_of_methodNamed B.named
  have hlocks := B.notSynchronized
  have htab := vx_table (x := yL_faultsWith) B (hts (.codeWith yL_faultsWith cL_faultsWith 6 (some .int) [(0, 12, 15, 21), (0, 12, 19, 13)]) List.mem_cons_self)
  subst hsz
  have hD := hD0.self (sz := s.heap.size)
  generalize hAe : va_A [(hh, .inr (13, [.ref aexpr, .ref achoo, .ref ameth, .ref aroom, .ref anod, .ref asort, .ref anote, .ref amet, .int 0, .int 1])), (asort, .inr (1, [.int 0, .ref eD, .int 0])), (ou, .inl (kL, 1, .inr (.inl fo)))] s.heap.size = A at hD hE ⊢
  have hA : ∀ q : Nat, s.heap.size ≤ q → A q := fun q h => by rw [← hAe]; exact Or.inr h
  have hS : va_S A s.heap s.heap [] := va_S.rf
  have hP : va_P (dC, dI) vwCl [(hh, .inr (13, [.ref aexpr, .ref achoo, .ref ameth, .ref aroom, .ref anod, .ref asort, .ref anote, .ref amet, .int 0, .int 1])), (asort, .inr (1, [.int 0, .ref eD, .int 0])), (ou, .inl (kL, 1, .inr (.inl fo)))] s.heap := hP
  have hl := lv_entry ([.ref hh, .int x1, .int x2, .int x3, .ref ou]) (n := 6) (Nat.le_of_ble_eq_true rfl)
  rw [lg_entry_eq]
  generalize (lg_sl ([.ref hh, .int x1, .int x2, .int x3, .ref ou]) ++ List.replicate (6 - (lg_sl ([.ref hh, .int x1, .int x2, .int x3, .ref ou])).length) Slot.unset).toArray = ls at hl ⊢
  have hl : lv_has ls 6 [(0, .ref hh), (1, .int x1), (2, .int x2), (3, .int x3), (4, .ref ou)] := hl
  have in_RJx4a65c : ∀ w ∈ u_ws RJx4a65c TJx4a65c 3, w ∈ w_c_L_faultsWith := by decide +kernel
  have in_RX11 : ∀ w ∈ u_ws RX11 TX11 10, w ∈ w_c_L_faultsWith := by decide +kernel
  refine lv_aload hx hb dL_faultsWith_0 (lv_at hl 4 rfl) ?_
  refine lv_iconst (v := 0) hx hb dL_faultsWith_2 (by decide) ?_
  refine lv_aload_n hx hb dL_faultsWith_3 rfl (lv_at hl 0 rfl) ?_
  refine lv_iload_n hx hb dL_faultsWith_4 rfl (lv_at hl 1 rfl) ?_
  refine lv_iload_n hx hb dL_faultsWith_5 rfl (lv_at hl 2 rfl) ?_
  refine lv_iload_n hx hb dL_faultsWith_6 rfl (lv_at hl 3 rfl) ?_
  refine zx_i (wr := [(ou, .inl (kL, 1, .inr (.inl fo)))]) (vx_runV (As := [.int x1, .int x2, .int x3]) (rest := [.int 0, .ref ou]) ⟨hx, hb, hml, hown, hts⟩ (c_H_faultsWith l hfl eD eI ad dC dI s.heap.size hh aexpr achoo ameth aroom anod asort anote amet x1 x2 x3) (cwV 3 hts g_c_L_faultsWith_0 rfl rfl rfl (by decide +kernel) ⟨Nat.le_of_ble_eq_true rfl, Nat.le_of_ble_eq_true rfl⟩) (z_preVD (wc := [(hh, .inr (13, [.ref aexpr, .ref achoo, .ref ameth, .ref aroom, .ref anod, .ref asort, .ref anote, .ref amet, .int 0, .int 1])), (asort, .inr (1, [.int 0, .ref eD, .int 0]))]) hP hD hK hS hA hE [0, 1] [] rfl (by decide) rfl (ci := 13) (q0 := 0) rfl rfl hDc) rfl rfl hl.1 rfl (lv_room (Nat.le_of_ble_eq_true rfl)) dL_faultsWith_7 ⟨Nat.le_of_ble_eq_true rfl, Nat.le_of_ble_eq_true rfl⟩) hP hD hK hS hA [0, 1] [2] rfl rfl (by decide) (by decide) (fun E ce q9 H locs hbad hP hD hS h91 h92 h93 => ?_) (fun r_1 u H locs hw_2 hP hD hK hS => ?_)
  · have hbad : E = "java/lang/IndexOutOfBoundsException" := hbad
    subst hbad
    refine vx_catch (name := "java/lang/IndexOutOfBoundsException") hown [] ⟨0, 12, 15, 21⟩ [⟨0, 12, 19, 13⟩] (by rw [htab]; rfl) (fun z h => by simp at h) (by decide) (by decide) (hts (.classLink RL 21 "java/lang/IndexOutOfBoundsException") (by decide +kernel)) (va_Nw.use rfl (hE.2.2.2.2.2.2.2.1 ("java/lang/IndexOutOfBoundsException", "java/lang/IndexOutOfBoundsException") (by decide +kernel))) h91 h92 h93 ?_
    refine W.eq (g2 := F0 m 15 ls [.ref q9]) rfl ?_
    refine lv_astore (lv' := [(5, .ref q9), (0, .ref hh), (1, .int x1), (2, .int x2), (3, .int x3), (4, .ref ou)]) hx hb dL_faultsWith_15 hl (by decide) rfl (fun ls hl => ?_)
    refine lv_iconst (v := 1) hx hb dL_faultsWith_17 (by decide) ?_
    have hP9 := hP.sub (ws' := [(ou, .inl (kL, 1, .inr (.inl fo)))]) [0] rfl
    have hD9 := hD.sub (ws' := [(ou, .inl (kL, 1, .inr (.inl fo)))]) [0] (by decide) rfl
    have hK9 := hK.sub (tys' := [(kL, .long)]) [0] rfl
    refine W.widen (k := 1) (n := 6) (Nat.le_of_ble_eq_true rfl) (Nat.le_of_ble_eq_true rfl) ?_
    refine vx_ret ?_
    exact W.iret (v := 1) hx hb hr (fun t ht hW => ⟨⟨1, (), rfl, rfl, ⟨by rw [ht]; exact hP9, va_K.moved hW.alike hK9, hD9⟩⟩, hS.F ht⟩) hS.2.2 dL_faultsWith_18
  exact absurd hw_2 id

def wb_c_L_flawsWith : List Cond := [.code yX11_flawsWith cX11_flawsWith 7 (some .int), .code yX11_needParameter cX11_needParameter 4 none, .code yX11_needSort cX11_needSort 2 none, .classLink RX11 277 "java/lang/IndexOutOfBoundsException", .initialized "java/lang/IndexOutOfBoundsException", .fieldLink RX11 42 "Hornbook" "sorts" "Ljava/util/ArrayList;", .code yJx4a65c_size_8abf5 cJx4a65c_size_8abf5 1 (some .int), .fieldLink RJx4a65c 48 "java/util/ArrayList" "size" "I", .methodLink RX11 73 yJx4a65c_size_8abf5, .instanceMethod yJx4a65c_size_8abf5, .selects RJx4a65c yJx4a65c_size_8abf5 yJx4a65c_size_8abf5, .initialized RJx4a65c, .methodLink RX11 112 yX11_needSort, .instanceMethod yX11_needSort, .selects RX11 yX11_needSort yX11_needSort, .initialized RX11, .methodLink RX11 321 yX11_needParameter, .instanceMethod yX11_needParameter, .selects RX11 yX11_needParameter yX11_needParameter, .methodLink RL 100 yX11_flawsWith, .instanceMethod yX11_flawsWith, .selects RX11 yX11_flawsWith yX11_flawsWith, .classLink RL 21 "java/lang/IndexOutOfBoundsException"] ++ u_ws RJx4a65c TJx4a65c 3 ++ u_ws RX11 TX11 10
def w_c_L_flawsWith : List Cond := .codeWith yL_flawsWith cL_flawsWith 6 (some .int) [(0, 12, 15, 21), (0, 12, 19, 13)] :: (wb_c_L_flawsWith ++ zAt)
set_option maxRecDepth 100000 in
theorem g_c_L_flawsWith_0 : GoodIn w_c_L_flawsWith (wsV RL 100 RX11 yX11_flawsWith w_c_H_flawsWith) := goodIn_app (goodIn_of _ (by decide +kernel)) (goodIn_ca (goodIn_p (big := w_c_L_flawsWith) (.code yX11_flawsWith cX11_flawsWith 7 (some .int) :: wb_c_H_flawsWith) [1, 2, 3, 7] rfl (by decide +kernel)) (goodIn_sub (fun _ h => List.mem_cons_of_mem _ (List.mem_append_right _ h)) zAt_good))
set_option maxHeartbeats 4000000 in
set_option maxRecDepth 100000 in
theorem c_L_flawsWith (l : Launch) (hfl : l.flags = flags0) (eD eI : Nat) (ad : Nat → Nat) (dC : Nat → ClassId) (dI : Nat → Nat → Nat) (sz : Nat) (hh : Nat) (aexpr : Nat) (achoo : Nat) (ameth : Nat) (aroom : Nat) (anod : Nat) (asort : Nat) (anote : Nat) (amet : Nat) (ou : Nat) (kL : ClassId) (x1 : Int32) (x2 : Int32) (x3 : Int32) (fo : Nat → Int64) : vx_Met l yL_flawsWith w_c_L_flawsWith ({ frames := 9, cells := 1, slots := 6, locals := 152 }) (va_Pc [.ref hh, .int x1, .int x2, .int x3, .ref ou] (zPreD eD eI ad (dC, dI) [(hh, .inr (13, [.ref aexpr, .ref achoo, .ref ameth, .ref aroom, .ref anod, .ref asort, .ref anote, .ref amet, .int 0, .int 1])), (asort, .inr (1, [.int 0, .ref eD, .int 0])), (ou, .inl (kL, 1, .inr (.inl fo)))] [(kL, .long)] sz)) (va_Qi (fun (r : Int32) (_ : Unit) => r = 1) (fun (_ : Unit) => zEnd (dC, dI) (va_A [(hh, .inr (13, [.ref aexpr, .ref achoo, .ref ameth, .ref aroom, .ref anod, .ref asort, .ref anote, .ref amet, .int 0, .int 1])), (asort, .inr (1, [.int 0, .ref eD, .int 0])), (ou, .inl (kL, 1, .inr (.inl fo)))] sz) [(ou, .inl (kL, 1, .inr (.inl fo)))] [(kL, .long)]) (va_A [(hh, .inr (13, [.ref aexpr, .ref achoo, .ref ameth, .ref aroom, .ref anod, .ref asort, .ref anote, .ref amet, .int 0, .int 1])), (asort, .inr (1, [.int 0, .ref eD, .int 0])), (ou, .inl (kL, 1, .inr (.inl fo)))] sz)) (zX (fun _ => False) (va_A [(hh, .inr (13, [.ref aexpr, .ref achoo, .ref ameth, .ref aroom, .ref anod, .ref asort, .ref anote, .ref amet, .int 0, .int 1])), (asort, .inr (1, [.int 0, .ref eD, .int 0])), (ou, .inl (kL, 1, .inr (.inl fo)))] sz)) 1 6 (va_A [(hh, .inr (13, [.ref aexpr, .ref achoo, .ref ameth, .ref aroom, .ref anod, .ref asort, .ref anote, .ref amet, .int 0, .int 1])), (asort, .inr (1, [.int 0, .ref eD, .int 0])), (ou, .inl (kL, 1, .inr (.inl fo)))] sz) := by
  refine vx_ofWH (cc := cL_flawsWith) (maxL := 6) (ret := (some .int)) (hh := [(0, 12, 15, 21), (0, 12, 19, 13)]) (by decide +kernel) rfl ?_
  intro p e s m args below meth c s₁ B hml hv
  obtain ⟨rfl, ⟨hsz, hP, hK, hD0, hE⟩, hDc⟩ := hv
  have hx := B.exec
  have hb := B.bytes
  have hr := B.returns
  have hts := atoms_spec (ws := w_c_L_flawsWith) B.pre
  have hown : s.vm.findClass RL = some m.cls := findClass_of_methodNamed B.named
  have hlocks := B.notSynchronized
  have htab := vx_table (x := yL_flawsWith) B (hts (.codeWith yL_flawsWith cL_flawsWith 6 (some .int) [(0, 12, 15, 21), (0, 12, 19, 13)]) List.mem_cons_self)
  subst hsz
  have hD := hD0.self (sz := s.heap.size)
  generalize hAe : va_A [(hh, .inr (13, [.ref aexpr, .ref achoo, .ref ameth, .ref aroom, .ref anod, .ref asort, .ref anote, .ref amet, .int 0, .int 1])), (asort, .inr (1, [.int 0, .ref eD, .int 0])), (ou, .inl (kL, 1, .inr (.inl fo)))] s.heap.size = A at hD hE ⊢
  have hA : ∀ q : Nat, s.heap.size ≤ q → A q := fun q h => by rw [← hAe]; exact Or.inr h
  have hS : va_S A s.heap s.heap [] := va_S.rf
  have hP : va_P (dC, dI) vwCl [(hh, .inr (13, [.ref aexpr, .ref achoo, .ref ameth, .ref aroom, .ref anod, .ref asort, .ref anote, .ref amet, .int 0, .int 1])), (asort, .inr (1, [.int 0, .ref eD, .int 0])), (ou, .inl (kL, 1, .inr (.inl fo)))] s.heap := hP
  have hl := lv_entry ([.ref hh, .int x1, .int x2, .int x3, .ref ou]) (n := 6) (Nat.le_of_ble_eq_true rfl)
  rw [lg_entry_eq]
  generalize (lg_sl ([.ref hh, .int x1, .int x2, .int x3, .ref ou]) ++ List.replicate (6 - (lg_sl ([.ref hh, .int x1, .int x2, .int x3, .ref ou])).length) Slot.unset).toArray = ls at hl ⊢
  have hl : lv_has ls 6 [(0, .ref hh), (1, .int x1), (2, .int x2), (3, .int x3), (4, .ref ou)] := hl
  have in_RJx4a65c : ∀ w ∈ u_ws RJx4a65c TJx4a65c 3, w ∈ w_c_L_flawsWith := by decide +kernel
  have in_RX11 : ∀ w ∈ u_ws RX11 TX11 10, w ∈ w_c_L_flawsWith := by decide +kernel
  refine lv_aload hx hb dL_flawsWith_0 (lv_at hl 4 rfl) ?_
  refine lv_iconst (v := 0) hx hb dL_flawsWith_2 (by decide) ?_
  refine lv_aload_n hx hb dL_flawsWith_3 rfl (lv_at hl 0 rfl) ?_
  refine lv_iload_n hx hb dL_flawsWith_4 rfl (lv_at hl 1 rfl) ?_
  refine lv_iload_n hx hb dL_flawsWith_5 rfl (lv_at hl 2 rfl) ?_
  refine lv_iload_n hx hb dL_flawsWith_6 rfl (lv_at hl 3 rfl) ?_
  refine zx_i (wr := [(ou, .inl (kL, 1, .inr (.inl fo)))]) (vx_runV (As := [.int x1, .int x2, .int x3]) (rest := [.int 0, .ref ou]) ⟨hx, hb, hml, hown, hts⟩ (c_H_flawsWith l hfl eD eI ad dC dI s.heap.size hh aexpr achoo ameth aroom anod asort anote amet x1 x2 x3) (cwV 3 hts g_c_L_flawsWith_0 rfl rfl rfl (by decide +kernel) ⟨Nat.le_of_ble_eq_true rfl, Nat.le_of_ble_eq_true rfl⟩) (z_preVD (wc := [(hh, .inr (13, [.ref aexpr, .ref achoo, .ref ameth, .ref aroom, .ref anod, .ref asort, .ref anote, .ref amet, .int 0, .int 1])), (asort, .inr (1, [.int 0, .ref eD, .int 0]))]) hP hD hK hS hA hE [0, 1] [] rfl (by decide) rfl (ci := 13) (q0 := 0) rfl rfl hDc) rfl rfl hl.1 rfl (lv_room (Nat.le_of_ble_eq_true rfl)) dL_flawsWith_7 ⟨Nat.le_of_ble_eq_true rfl, Nat.le_of_ble_eq_true rfl⟩) hP hD hK hS hA [0, 1] [2] rfl rfl (by decide) (by decide) (fun E ce q9 H locs hbad hP hD hS h91 h92 h93 => ?_) (fun r_1 u H locs hw_2 hP hD hK hS => ?_)
  · have hbad : E = "java/lang/IndexOutOfBoundsException" := hbad
    subst hbad
    refine vx_catch (name := "java/lang/IndexOutOfBoundsException") hown [] ⟨0, 12, 15, 21⟩ [⟨0, 12, 19, 13⟩] (by rw [htab]; rfl) (fun z h => by simp at h) (by decide) (by decide) (hts (.classLink RL 21 "java/lang/IndexOutOfBoundsException") (by decide +kernel)) (va_Nw.use rfl (hE.2.2.2.2.2.2.2.1 ("java/lang/IndexOutOfBoundsException", "java/lang/IndexOutOfBoundsException") (by decide +kernel))) h91 h92 h93 ?_
    refine W.eq (g2 := F0 m 15 ls [.ref q9]) rfl ?_
    refine lv_astore (lv' := [(5, .ref q9), (0, .ref hh), (1, .int x1), (2, .int x2), (3, .int x3), (4, .ref ou)]) hx hb dL_flawsWith_15 hl (by decide) rfl (fun ls hl => ?_)
    refine lv_iconst (v := 1) hx hb dL_flawsWith_17 (by decide) ?_
    have hP9 := hP.sub (ws' := [(ou, .inl (kL, 1, .inr (.inl fo)))]) [0] rfl
    have hD9 := hD.sub (ws' := [(ou, .inl (kL, 1, .inr (.inl fo)))]) [0] (by decide) rfl
    have hK9 := hK.sub (tys' := [(kL, .long)]) [0] rfl
    refine W.widen (k := 1) (n := 6) (Nat.le_of_ble_eq_true rfl) (Nat.le_of_ble_eq_true rfl) ?_
    refine vx_ret ?_
    exact W.iret (v := 1) hx hb hr (fun t ht hW => ⟨⟨1, (), rfl, rfl, ⟨by rw [ht]; exact hP9, va_K.moved hW.alike hK9, hD9⟩⟩, hS.F ht⟩) hS.2.2 dL_flawsWith_18
  exact absurd hw_2 id

def wb_c_L_either : List Cond := [.code yX11_either cX11_either 3 (some .int), .code yX11_needExpression cX11_needExpression 3 none, .classLink RX11 277 "java/lang/IndexOutOfBoundsException", .initialized "java/lang/IndexOutOfBoundsException", .fieldLink RX11 12 "Hornbook" "expressions" "Ljava/util/ArrayList;", .code yJx4a65c_size_8abf5 cJx4a65c_size_8abf5 1 (some .int), .fieldLink RJx4a65c 48 "java/util/ArrayList" "size" "I", .methodLink RX11 73 yJx4a65c_size_8abf5, .instanceMethod yJx4a65c_size_8abf5, .selects RJx4a65c yJx4a65c_size_8abf5 yJx4a65c_size_8abf5, .initialized RJx4a65c, .methodLink RX11 232 yX11_needExpression, .instanceMethod yX11_needExpression, .selects RX11 yX11_needExpression yX11_needExpression, .initialized RX11, .methodLink RL 37 yX11_either, .instanceMethod yX11_either, .selects RX11 yX11_either yX11_either, .classLink RL 21 "java/lang/IndexOutOfBoundsException"] ++ u_ws RJx4a65c TJx4a65c 3 ++ u_ws RX11 TX11 10
def w_c_L_either : List Cond := .codeWith yL_either cL_either 5 (some .int) [(0, 10, 13, 21), (0, 10, 17, 15)] :: (wb_c_L_either ++ zAt)
set_option maxRecDepth 100000 in
theorem g_c_L_either_0 : GoodIn w_c_L_either (wsV RL 37 RX11 yX11_either w_c_H_either) := goodIn_app (goodIn_of _ (by decide +kernel)) (goodIn_ca (goodIn_p (big := w_c_L_either) (.code yX11_either cX11_either 3 (some .int) :: wb_c_H_either) [1, 2, 6] rfl (by decide +kernel)) (goodIn_sub (fun _ h => List.mem_cons_of_mem _ (List.mem_append_right _ h)) zAt_good))
set_option maxHeartbeats 4000000 in
set_option maxRecDepth 100000 in
theorem c_L_either (l : Launch) (hfl : l.flags = flags0) (eD eI : Nat) (ad : Nat → Nat) (dC : Nat → ClassId) (dI : Nat → Nat → Nat) (sz : Nat) (hh : Nat) (aexpr : Nat) (achoo : Nat) (ameth : Nat) (aroom : Nat) (anod : Nat) (asort : Nat) (anote : Nat) (amet : Nat) (ou : Nat) (kL : ClassId) (x1 : Int32) (x2 : Int32) (fo : Nat → Int64) : vx_Met l yL_either w_c_L_either ({ frames := 8, cells := 1, slots := 6, locals := 126 }) (va_Pc [.ref hh, .int x1, .int x2, .ref ou] (zPreD eD eI ad (dC, dI) [(hh, .inr (13, [.ref aexpr, .ref achoo, .ref ameth, .ref aroom, .ref anod, .ref asort, .ref anote, .ref amet, .int 0, .int 1])), (aexpr, .inr (1, [.int 0, .ref eD, .int 0])), (ou, .inl (kL, 1, .inr (.inl fo)))] [(kL, .long)] sz)) (va_Qi (fun (r : Int32) (_ : Unit) => r = 1) (fun (_ : Unit) => zEnd (dC, dI) (va_A [(hh, .inr (13, [.ref aexpr, .ref achoo, .ref ameth, .ref aroom, .ref anod, .ref asort, .ref anote, .ref amet, .int 0, .int 1])), (aexpr, .inr (1, [.int 0, .ref eD, .int 0])), (ou, .inl (kL, 1, .inr (.inl fo)))] sz) [(ou, .inl (kL, 1, .inr (.inl fo)))] [(kL, .long)]) (va_A [(hh, .inr (13, [.ref aexpr, .ref achoo, .ref ameth, .ref aroom, .ref anod, .ref asort, .ref anote, .ref amet, .int 0, .int 1])), (aexpr, .inr (1, [.int 0, .ref eD, .int 0])), (ou, .inl (kL, 1, .inr (.inl fo)))] sz)) (zX (fun _ => False) (va_A [(hh, .inr (13, [.ref aexpr, .ref achoo, .ref ameth, .ref aroom, .ref anod, .ref asort, .ref anote, .ref amet, .int 0, .int 1])), (aexpr, .inr (1, [.int 0, .ref eD, .int 0])), (ou, .inl (kL, 1, .inr (.inl fo)))] sz)) 1 6 (va_A [(hh, .inr (13, [.ref aexpr, .ref achoo, .ref ameth, .ref aroom, .ref anod, .ref asort, .ref anote, .ref amet, .int 0, .int 1])), (aexpr, .inr (1, [.int 0, .ref eD, .int 0])), (ou, .inl (kL, 1, .inr (.inl fo)))] sz) := by
  refine vx_ofWH (cc := cL_either) (maxL := 5) (ret := (some .int)) (hh := [(0, 10, 13, 21), (0, 10, 17, 15)]) (by decide +kernel) rfl ?_
  intro p e s m args below meth c s₁ B hml hv
  obtain ⟨rfl, ⟨hsz, hP, hK, hD0, hE⟩, hDc⟩ := hv
  have hx := B.exec
  have hb := B.bytes
  have hr := B.returns
  have hts := atoms_spec (ws := w_c_L_either) B.pre
  have hown : s.vm.findClass RL = some m.cls := findClass_of_methodNamed B.named
  have hlocks := B.notSynchronized
  have htab := vx_table (x := yL_either) B (hts (.codeWith yL_either cL_either 5 (some .int) [(0, 10, 13, 21), (0, 10, 17, 15)]) List.mem_cons_self)
  subst hsz
  have hD := hD0.self (sz := s.heap.size)
  generalize hAe : va_A [(hh, .inr (13, [.ref aexpr, .ref achoo, .ref ameth, .ref aroom, .ref anod, .ref asort, .ref anote, .ref amet, .int 0, .int 1])), (aexpr, .inr (1, [.int 0, .ref eD, .int 0])), (ou, .inl (kL, 1, .inr (.inl fo)))] s.heap.size = A at hD hE ⊢
  have hA : ∀ q : Nat, s.heap.size ≤ q → A q := fun q h => by rw [← hAe]; exact Or.inr h
  have hS : va_S A s.heap s.heap [] := va_S.rf
  have hP : va_P (dC, dI) vwCl [(hh, .inr (13, [.ref aexpr, .ref achoo, .ref ameth, .ref aroom, .ref anod, .ref asort, .ref anote, .ref amet, .int 0, .int 1])), (aexpr, .inr (1, [.int 0, .ref eD, .int 0])), (ou, .inl (kL, 1, .inr (.inl fo)))] s.heap := hP
  have hl := lv_entry ([.ref hh, .int x1, .int x2, .ref ou]) (n := 5) (Nat.le_of_ble_eq_true rfl)
  rw [lg_entry_eq]
  generalize (lg_sl ([.ref hh, .int x1, .int x2, .ref ou]) ++ List.replicate (5 - (lg_sl ([.ref hh, .int x1, .int x2, .ref ou])).length) Slot.unset).toArray = ls at hl ⊢
  have hl : lv_has ls 5 [(0, .ref hh), (1, .int x1), (2, .int x2), (3, .ref ou)] := hl
  have in_RJx4a65c : ∀ w ∈ u_ws RJx4a65c TJx4a65c 3, w ∈ w_c_L_either := by decide +kernel
  have in_RX11 : ∀ w ∈ u_ws RX11 TX11 10, w ∈ w_c_L_either := by decide +kernel
  refine lv_aload_n hx hb dL_either_0 rfl (lv_at hl 3 rfl) ?_
  refine lv_iconst (v := 0) hx hb dL_either_1 (by decide) ?_
  refine lv_aload_n hx hb dL_either_2 rfl (lv_at hl 0 rfl) ?_
  refine lv_iload_n hx hb dL_either_3 rfl (lv_at hl 1 rfl) ?_
  refine lv_iload_n hx hb dL_either_4 rfl (lv_at hl 2 rfl) ?_
  refine zx_i (wr := [(ou, .inl (kL, 1, .inr (.inl fo)))]) (vx_runV (As := [.int x1, .int x2]) (rest := [.int 0, .ref ou]) ⟨hx, hb, hml, hown, hts⟩ (c_H_either l hfl eD eI ad dC dI s.heap.size hh aexpr achoo ameth aroom anod asort anote amet x1 x2) (cwV 2 hts g_c_L_either_0 rfl rfl rfl (by decide +kernel) ⟨Nat.le_of_ble_eq_true rfl, Nat.le_of_ble_eq_true rfl⟩) (z_preVD (wc := [(hh, .inr (13, [.ref aexpr, .ref achoo, .ref ameth, .ref aroom, .ref anod, .ref asort, .ref anote, .ref amet, .int 0, .int 1])), (aexpr, .inr (1, [.int 0, .ref eD, .int 0]))]) hP hD hK hS hA hE [0, 1] [] rfl (by decide) rfl (ci := 13) (q0 := 0) rfl rfl hDc) rfl rfl hl.1 rfl (lv_room (Nat.le_of_ble_eq_true rfl)) dL_either_5 ⟨Nat.le_of_ble_eq_true rfl, Nat.le_of_ble_eq_true rfl⟩) hP hD hK hS hA [0, 1] [2] rfl rfl (by decide) (by decide) (fun E ce q9 H locs hbad hP hD hS h91 h92 h93 => ?_) (fun r_1 u H locs hw_2 hP hD hK hS => ?_)
  · have hbad : E = "java/lang/IndexOutOfBoundsException" := hbad
    subst hbad
    refine vx_catch (name := "java/lang/IndexOutOfBoundsException") hown [] ⟨0, 10, 13, 21⟩ [⟨0, 10, 17, 15⟩] (by rw [htab]; rfl) (fun z h => by simp at h) (by decide) (by decide) (hts (.classLink RL 21 "java/lang/IndexOutOfBoundsException") (by decide +kernel)) (va_Nw.use rfl (hE.2.2.2.2.2.2.2.1 ("java/lang/IndexOutOfBoundsException", "java/lang/IndexOutOfBoundsException") (by decide +kernel))) h91 h92 h93 ?_
    refine W.eq (g2 := F0 m 13 ls [.ref q9]) rfl ?_
    refine lv_astore (lv' := [(4, .ref q9), (0, .ref hh), (1, .int x1), (2, .int x2), (3, .ref ou)]) hx hb dL_either_13 hl (by decide) rfl (fun ls hl => ?_)
    refine lv_iconst (v := 1) hx hb dL_either_15 (by decide) ?_
    have hP9 := hP.sub (ws' := [(ou, .inl (kL, 1, .inr (.inl fo)))]) [0] rfl
    have hD9 := hD.sub (ws' := [(ou, .inl (kL, 1, .inr (.inl fo)))]) [0] (by decide) rfl
    have hK9 := hK.sub (tys' := [(kL, .long)]) [0] rfl
    refine W.widen (k := 1) (n := 6) (Nat.le_of_ble_eq_true rfl) (Nat.le_of_ble_eq_true rfl) ?_
    refine vx_ret ?_
    exact W.iret (v := 1) hx hb hr (fun t ht hW => ⟨⟨1, (), rfl, rfl, ⟨by rw [ht]; exact hP9, va_K.moved hW.alike hK9, hD9⟩⟩, hS.F ht⟩) hS.2.2 dL_either_16
  exact absurd hw_2 id

def wb_c_L_as : List Cond := [.code yX11_as cX11_as 3 (some .int), .code yX11_needExpression cX11_needExpression 3 none, .classLink RX11 277 "java/lang/IndexOutOfBoundsException", .initialized "java/lang/IndexOutOfBoundsException", .fieldLink RX11 12 "Hornbook" "expressions" "Ljava/util/ArrayList;", .code yJx4a65c_size_8abf5 cJx4a65c_size_8abf5 1 (some .int), .fieldLink RJx4a65c 48 "java/util/ArrayList" "size" "I", .methodLink RX11 73 yJx4a65c_size_8abf5, .instanceMethod yJx4a65c_size_8abf5, .selects RJx4a65c yJx4a65c_size_8abf5 yJx4a65c_size_8abf5, .initialized RJx4a65c, .methodLink RX11 232 yX11_needExpression, .instanceMethod yX11_needExpression, .selects RX11 yX11_needExpression yX11_needExpression, .initialized RX11, .methodLink RL 40 yX11_as, .instanceMethod yX11_as, .selects RX11 yX11_as yX11_as, .classLink RL 21 "java/lang/IndexOutOfBoundsException"] ++ u_ws RJx4a65c TJx4a65c 3 ++ u_ws RX11 TX11 10
def w_c_L_as : List Cond := .codeWith yL_as cL_as 5 (some .int) [(0, 10, 13, 21), (0, 10, 17, 13), (0, 10, 21, 15)] :: (wb_c_L_as ++ zAt)
set_option maxRecDepth 100000 in
theorem g_c_L_as_0 : GoodIn w_c_L_as (wsV RL 40 RX11 yX11_as w_c_H_as) := goodIn_app (goodIn_of _ (by decide +kernel)) (goodIn_ca (goodIn_p (big := w_c_L_as) (.code yX11_as cX11_as 3 (some .int) :: wb_c_H_as) [1, 2, 6] rfl (by decide +kernel)) (goodIn_sub (fun _ h => List.mem_cons_of_mem _ (List.mem_append_right _ h)) zAt_good))
set_option maxHeartbeats 4000000 in
set_option maxRecDepth 100000 in
theorem c_L_as (l : Launch) (hfl : l.flags = flags0) (eD eI : Nat) (ad : Nat → Nat) (dC : Nat → ClassId) (dI : Nat → Nat → Nat) (sz : Nat) (hh : Nat) (aexpr : Nat) (achoo : Nat) (ameth : Nat) (aroom : Nat) (anod : Nat) (asort : Nat) (anote : Nat) (amet : Nat) (ou : Nat) (kL : ClassId) (x1 : Int32) (x2 : Int32) (fo : Nat → Int64) : vx_Met l yL_as w_c_L_as ({ frames := 8, cells := 1, slots := 6, locals := 126 }) (va_Pc [.ref hh, .int x1, .int x2, .ref ou] (zPreD eD eI ad (dC, dI) [(hh, .inr (13, [.ref aexpr, .ref achoo, .ref ameth, .ref aroom, .ref anod, .ref asort, .ref anote, .ref amet, .int 0, .int 1])), (aexpr, .inr (1, [.int 0, .ref eD, .int 0])), (ou, .inl (kL, 1, .inr (.inl fo)))] [(kL, .long)] sz)) (va_Qi (fun (r : Int32) (_ : Unit) => r = 1) (fun (_ : Unit) => zEnd (dC, dI) (va_A [(hh, .inr (13, [.ref aexpr, .ref achoo, .ref ameth, .ref aroom, .ref anod, .ref asort, .ref anote, .ref amet, .int 0, .int 1])), (aexpr, .inr (1, [.int 0, .ref eD, .int 0])), (ou, .inl (kL, 1, .inr (.inl fo)))] sz) [(ou, .inl (kL, 1, .inr (.inl fo)))] [(kL, .long)]) (va_A [(hh, .inr (13, [.ref aexpr, .ref achoo, .ref ameth, .ref aroom, .ref anod, .ref asort, .ref anote, .ref amet, .int 0, .int 1])), (aexpr, .inr (1, [.int 0, .ref eD, .int 0])), (ou, .inl (kL, 1, .inr (.inl fo)))] sz)) (zX (fun _ => False) (va_A [(hh, .inr (13, [.ref aexpr, .ref achoo, .ref ameth, .ref aroom, .ref anod, .ref asort, .ref anote, .ref amet, .int 0, .int 1])), (aexpr, .inr (1, [.int 0, .ref eD, .int 0])), (ou, .inl (kL, 1, .inr (.inl fo)))] sz)) 1 6 (va_A [(hh, .inr (13, [.ref aexpr, .ref achoo, .ref ameth, .ref aroom, .ref anod, .ref asort, .ref anote, .ref amet, .int 0, .int 1])), (aexpr, .inr (1, [.int 0, .ref eD, .int 0])), (ou, .inl (kL, 1, .inr (.inl fo)))] sz) := by
  refine vx_ofWH (cc := cL_as) (maxL := 5) (ret := (some .int)) (hh := [(0, 10, 13, 21), (0, 10, 17, 13), (0, 10, 21, 15)]) (by decide +kernel) rfl ?_
  intro p e s m args below meth c s₁ B hml hv
  obtain ⟨rfl, ⟨hsz, hP, hK, hD0, hE⟩, hDc⟩ := hv
  have hx := B.exec
  have hb := B.bytes
  have hr := B.returns
  have hts := atoms_spec (ws := w_c_L_as) B.pre
  have hown : s.vm.findClass RL = some m.cls := findClass_of_methodNamed B.named
  have hlocks := B.notSynchronized
  have htab := vx_table (x := yL_as) B (hts (.codeWith yL_as cL_as 5 (some .int) [(0, 10, 13, 21), (0, 10, 17, 13), (0, 10, 21, 15)]) List.mem_cons_self)
  subst hsz
  have hD := hD0.self (sz := s.heap.size)
  generalize hAe : va_A [(hh, .inr (13, [.ref aexpr, .ref achoo, .ref ameth, .ref aroom, .ref anod, .ref asort, .ref anote, .ref amet, .int 0, .int 1])), (aexpr, .inr (1, [.int 0, .ref eD, .int 0])), (ou, .inl (kL, 1, .inr (.inl fo)))] s.heap.size = A at hD hE ⊢
  have hA : ∀ q : Nat, s.heap.size ≤ q → A q := fun q h => by rw [← hAe]; exact Or.inr h
  have hS : va_S A s.heap s.heap [] := va_S.rf
  have hP : va_P (dC, dI) vwCl [(hh, .inr (13, [.ref aexpr, .ref achoo, .ref ameth, .ref aroom, .ref anod, .ref asort, .ref anote, .ref amet, .int 0, .int 1])), (aexpr, .inr (1, [.int 0, .ref eD, .int 0])), (ou, .inl (kL, 1, .inr (.inl fo)))] s.heap := hP
  have hl := lv_entry ([.ref hh, .int x1, .int x2, .ref ou]) (n := 5) (Nat.le_of_ble_eq_true rfl)
  rw [lg_entry_eq]
  generalize (lg_sl ([.ref hh, .int x1, .int x2, .ref ou]) ++ List.replicate (5 - (lg_sl ([.ref hh, .int x1, .int x2, .ref ou])).length) Slot.unset).toArray = ls at hl ⊢
  have hl : lv_has ls 5 [(0, .ref hh), (1, .int x1), (2, .int x2), (3, .ref ou)] := hl
  have in_RJx4a65c : ∀ w ∈ u_ws RJx4a65c TJx4a65c 3, w ∈ w_c_L_as := by decide +kernel
  have in_RX11 : ∀ w ∈ u_ws RX11 TX11 10, w ∈ w_c_L_as := by decide +kernel
  refine lv_aload_n hx hb dL_as_0 rfl (lv_at hl 3 rfl) ?_
  refine lv_iconst (v := 0) hx hb dL_as_1 (by decide) ?_
  refine lv_aload_n hx hb dL_as_2 rfl (lv_at hl 0 rfl) ?_
  refine lv_iload_n hx hb dL_as_3 rfl (lv_at hl 1 rfl) ?_
  refine lv_iload_n hx hb dL_as_4 rfl (lv_at hl 2 rfl) ?_
  refine zx_i (wr := [(ou, .inl (kL, 1, .inr (.inl fo)))]) (vx_runV (As := [.int x1, .int x2]) (rest := [.int 0, .ref ou]) ⟨hx, hb, hml, hown, hts⟩ (c_H_as l hfl eD eI ad dC dI s.heap.size hh aexpr achoo ameth aroom anod asort anote amet x1 x2) (cwV 2 hts g_c_L_as_0 rfl rfl rfl (by decide +kernel) ⟨Nat.le_of_ble_eq_true rfl, Nat.le_of_ble_eq_true rfl⟩) (z_preVD (wc := [(hh, .inr (13, [.ref aexpr, .ref achoo, .ref ameth, .ref aroom, .ref anod, .ref asort, .ref anote, .ref amet, .int 0, .int 1])), (aexpr, .inr (1, [.int 0, .ref eD, .int 0]))]) hP hD hK hS hA hE [0, 1] [] rfl (by decide) rfl (ci := 13) (q0 := 0) rfl rfl hDc) rfl rfl hl.1 rfl (lv_room (Nat.le_of_ble_eq_true rfl)) dL_as_5 ⟨Nat.le_of_ble_eq_true rfl, Nat.le_of_ble_eq_true rfl⟩) hP hD hK hS hA [0, 1] [2] rfl rfl (by decide) (by decide) (fun E ce q9 H locs hbad hP hD hS h91 h92 h93 => ?_) (fun r_1 u H locs hw_2 hP hD hK hS => ?_)
  · have hbad : E = "java/lang/IndexOutOfBoundsException" := hbad
    subst hbad
    refine vx_catch (name := "java/lang/IndexOutOfBoundsException") hown [] ⟨0, 10, 13, 21⟩ [⟨0, 10, 17, 13⟩, ⟨0, 10, 21, 15⟩] (by rw [htab]; rfl) (fun z h => by simp at h) (by decide) (by decide) (hts (.classLink RL 21 "java/lang/IndexOutOfBoundsException") (by decide +kernel)) (va_Nw.use rfl (hE.2.2.2.2.2.2.2.1 ("java/lang/IndexOutOfBoundsException", "java/lang/IndexOutOfBoundsException") (by decide +kernel))) h91 h92 h93 ?_
    refine W.eq (g2 := F0 m 13 ls [.ref q9]) rfl ?_
    refine lv_astore (lv' := [(4, .ref q9), (0, .ref hh), (1, .int x1), (2, .int x2), (3, .ref ou)]) hx hb dL_as_13 hl (by decide) rfl (fun ls hl => ?_)
    refine lv_iconst (v := 1) hx hb dL_as_15 (by decide) ?_
    have hP9 := hP.sub (ws' := [(ou, .inl (kL, 1, .inr (.inl fo)))]) [0] rfl
    have hD9 := hD.sub (ws' := [(ou, .inl (kL, 1, .inr (.inl fo)))]) [0] (by decide) rfl
    have hK9 := hK.sub (tys' := [(kL, .long)]) [0] rfl
    refine W.widen (k := 1) (n := 6) (Nat.le_of_ble_eq_true rfl) (Nat.le_of_ble_eq_true rfl) ?_
    refine vx_ret ?_
    exact W.iret (v := 1) hx hb hr (fun t ht hW => ⟨⟨1, (), rfl, rfl, ⟨by rw [ht]; exact hP9, va_K.moved hW.alike hK9, hD9⟩⟩, hS.F ht⟩) hS.2.2 dL_as_16
  exact absurd hw_2 id

def wb_c_L_call : List Cond := [.code yX11_call cX11_call 7 (some .int), .code yX11_needExpression cX11_needExpression 3 none, .classLink RX11 277 "java/lang/IndexOutOfBoundsException", .initialized "java/lang/IndexOutOfBoundsException", .fieldLink RX11 12 "Hornbook" "expressions" "Ljava/util/ArrayList;", .code yJx4a65c_size_8abf5 cJx4a65c_size_8abf5 1 (some .int), .fieldLink RJx4a65c 48 "java/util/ArrayList" "size" "I", .methodLink RX11 73 yJx4a65c_size_8abf5, .instanceMethod yJx4a65c_size_8abf5, .selects RJx4a65c yJx4a65c_size_8abf5 yJx4a65c_size_8abf5, .initialized RJx4a65c, .methodLink RX11 232 yX11_needExpression, .instanceMethod yX11_needExpression, .selects RX11 yX11_needExpression yX11_needExpression, .initialized RX11, .methodLink RL 43 yX11_call, .instanceMethod yX11_call, .selects RX11 yX11_call yX11_call, .classLink RL 21 "java/lang/IndexOutOfBoundsException"] ++ u_ws RJx4a65c TJx4a65c 3 ++ u_ws RX11 TX11 10
def w_c_L_call : List Cond := .codeWith yL_call cL_call 7 (some .int) [(0, 14, 17, 21), (0, 14, 21, 13), (0, 14, 25, 15)] :: (wb_c_L_call ++ zAt)
set_option maxRecDepth 100000 in
theorem g_c_L_call_0 : GoodIn w_c_L_call (wsV RL 43 RX11 yX11_call w_c_H_call) := goodIn_app (goodIn_of _ (by decide +kernel)) (goodIn_ca (goodIn_p (big := w_c_L_call) (.code yX11_call cX11_call 7 (some .int) :: wb_c_H_call) [1, 2, 6] rfl (by decide +kernel)) (goodIn_sub (fun _ h => List.mem_cons_of_mem _ (List.mem_append_right _ h)) zAt_good))
set_option maxHeartbeats 4000000 in
set_option maxRecDepth 100000 in
theorem c_L_call (l : Launch) (hfl : l.flags = flags0) (eD eI : Nat) (ad : Nat → Nat) (dC : Nat → ClassId) (dI : Nat → Nat → Nat) (sz : Nat) (hh : Nat) (aexpr : Nat) (achoo : Nat) (ameth : Nat) (aroom : Nat) (anod : Nat) (asort : Nat) (anote : Nat) (amet : Nat) (ou : Nat) (kL : ClassId) (x1 : Int32) (x2 : Int32) (x3 : Int32) (x4 : Int32) (fo : Nat → Int64) : vx_Met l yL_call w_c_L_call ({ frames := 8, cells := 1, slots := 6, locals := 130 }) (va_Pc [.ref hh, .int x1, .int x2, .int x3, .int x4, .ref ou] (zPreD eD eI ad (dC, dI) [(hh, .inr (13, [.ref aexpr, .ref achoo, .ref ameth, .ref aroom, .ref anod, .ref asort, .ref anote, .ref amet, .int 0, .int 1])), (aexpr, .inr (1, [.int 0, .ref eD, .int 0])), (ou, .inl (kL, 1, .inr (.inl fo)))] [(kL, .long)] sz)) (va_Qi (fun (r : Int32) (_ : Unit) => r = 1) (fun (_ : Unit) => zEnd (dC, dI) (va_A [(hh, .inr (13, [.ref aexpr, .ref achoo, .ref ameth, .ref aroom, .ref anod, .ref asort, .ref anote, .ref amet, .int 0, .int 1])), (aexpr, .inr (1, [.int 0, .ref eD, .int 0])), (ou, .inl (kL, 1, .inr (.inl fo)))] sz) [(ou, .inl (kL, 1, .inr (.inl fo)))] [(kL, .long)]) (va_A [(hh, .inr (13, [.ref aexpr, .ref achoo, .ref ameth, .ref aroom, .ref anod, .ref asort, .ref anote, .ref amet, .int 0, .int 1])), (aexpr, .inr (1, [.int 0, .ref eD, .int 0])), (ou, .inl (kL, 1, .inr (.inl fo)))] sz)) (zX (fun _ => False) (va_A [(hh, .inr (13, [.ref aexpr, .ref achoo, .ref ameth, .ref aroom, .ref anod, .ref asort, .ref anote, .ref amet, .int 0, .int 1])), (aexpr, .inr (1, [.int 0, .ref eD, .int 0])), (ou, .inl (kL, 1, .inr (.inl fo)))] sz)) 1 6 (va_A [(hh, .inr (13, [.ref aexpr, .ref achoo, .ref ameth, .ref aroom, .ref anod, .ref asort, .ref anote, .ref amet, .int 0, .int 1])), (aexpr, .inr (1, [.int 0, .ref eD, .int 0])), (ou, .inl (kL, 1, .inr (.inl fo)))] sz) := by
  refine vx_ofWH (cc := cL_call) (maxL := 7) (ret := (some .int)) (hh := [(0, 14, 17, 21), (0, 14, 21, 13), (0, 14, 25, 15)]) (by decide +kernel) rfl ?_
  intro p e s m args below meth c s₁ B hml hv
  obtain ⟨rfl, ⟨hsz, hP, hK, hD0, hE⟩, hDc⟩ := hv
  have hx := B.exec
  have hb := B.bytes
  have hr := B.returns
  have hts := atoms_spec (ws := w_c_L_call) B.pre
  have hown : s.vm.findClass RL = some m.cls := findClass_of_methodNamed B.named
  have hlocks := B.notSynchronized
  have htab := vx_table (x := yL_call) B (hts (.codeWith yL_call cL_call 7 (some .int) [(0, 14, 17, 21), (0, 14, 21, 13), (0, 14, 25, 15)]) List.mem_cons_self)
  subst hsz
  have hD := hD0.self (sz := s.heap.size)
  generalize hAe : va_A [(hh, .inr (13, [.ref aexpr, .ref achoo, .ref ameth, .ref aroom, .ref anod, .ref asort, .ref anote, .ref amet, .int 0, .int 1])), (aexpr, .inr (1, [.int 0, .ref eD, .int 0])), (ou, .inl (kL, 1, .inr (.inl fo)))] s.heap.size = A at hD hE ⊢
  have hA : ∀ q : Nat, s.heap.size ≤ q → A q := fun q h => by rw [← hAe]; exact Or.inr h
  have hS : va_S A s.heap s.heap [] := va_S.rf
  have hP : va_P (dC, dI) vwCl [(hh, .inr (13, [.ref aexpr, .ref achoo, .ref ameth, .ref aroom, .ref anod, .ref asort, .ref anote, .ref amet, .int 0, .int 1])), (aexpr, .inr (1, [.int 0, .ref eD, .int 0])), (ou, .inl (kL, 1, .inr (.inl fo)))] s.heap := hP
  have hl := lv_entry ([.ref hh, .int x1, .int x2, .int x3, .int x4, .ref ou]) (n := 7) (Nat.le_of_ble_eq_true rfl)
  rw [lg_entry_eq]
  generalize (lg_sl ([.ref hh, .int x1, .int x2, .int x3, .int x4, .ref ou]) ++ List.replicate (7 - (lg_sl ([.ref hh, .int x1, .int x2, .int x3, .int x4, .ref ou])).length) Slot.unset).toArray = ls at hl ⊢
  have hl : lv_has ls 7 [(0, .ref hh), (1, .int x1), (2, .int x2), (3, .int x3), (4, .int x4), (5, .ref ou)] := hl
  have in_RJx4a65c : ∀ w ∈ u_ws RJx4a65c TJx4a65c 3, w ∈ w_c_L_call := by decide +kernel
  have in_RX11 : ∀ w ∈ u_ws RX11 TX11 10, w ∈ w_c_L_call := by decide +kernel
  refine lv_aload hx hb dL_call_0 (lv_at hl 5 rfl) ?_
  refine lv_iconst (v := 0) hx hb dL_call_2 (by decide) ?_
  refine lv_aload_n hx hb dL_call_3 rfl (lv_at hl 0 rfl) ?_
  refine lv_iload_n hx hb dL_call_4 rfl (lv_at hl 1 rfl) ?_
  refine lv_iload_n hx hb dL_call_5 rfl (lv_at hl 2 rfl) ?_
  refine lv_iload_n hx hb dL_call_6 rfl (lv_at hl 3 rfl) ?_
  refine lv_iload hx hb dL_call_7 (lv_at hl 4 rfl) ?_
  refine zx_i (wr := [(ou, .inl (kL, 1, .inr (.inl fo)))]) (vx_runV (As := [.int x1, .int x2, .int x3, .int x4]) (rest := [.int 0, .ref ou]) ⟨hx, hb, hml, hown, hts⟩ (c_H_call l hfl eD eI ad dC dI s.heap.size hh aexpr achoo ameth aroom anod asort anote amet x1 x2 x3 x4) (cwV 4 hts g_c_L_call_0 rfl rfl rfl (by decide +kernel) ⟨Nat.le_of_ble_eq_true rfl, Nat.le_of_ble_eq_true rfl⟩) (z_preVD (wc := [(hh, .inr (13, [.ref aexpr, .ref achoo, .ref ameth, .ref aroom, .ref anod, .ref asort, .ref anote, .ref amet, .int 0, .int 1])), (aexpr, .inr (1, [.int 0, .ref eD, .int 0]))]) hP hD hK hS hA hE [0, 1] [] rfl (by decide) rfl (ci := 13) (q0 := 0) rfl rfl hDc) rfl rfl hl.1 rfl (lv_room (Nat.le_of_ble_eq_true rfl)) dL_call_9 ⟨Nat.le_of_ble_eq_true rfl, Nat.le_of_ble_eq_true rfl⟩) hP hD hK hS hA [0, 1] [2] rfl rfl (by decide) (by decide) (fun E ce q9 H locs hbad hP hD hS h91 h92 h93 => ?_) (fun r_1 u H locs hw_2 hP hD hK hS => ?_)
  · have hbad : E = "java/lang/IndexOutOfBoundsException" := hbad
    subst hbad
    refine vx_catch (name := "java/lang/IndexOutOfBoundsException") hown [] ⟨0, 14, 17, 21⟩ [⟨0, 14, 21, 13⟩, ⟨0, 14, 25, 15⟩] (by rw [htab]; rfl) (fun z h => by simp at h) (by decide) (by decide) (hts (.classLink RL 21 "java/lang/IndexOutOfBoundsException") (by decide +kernel)) (va_Nw.use rfl (hE.2.2.2.2.2.2.2.1 ("java/lang/IndexOutOfBoundsException", "java/lang/IndexOutOfBoundsException") (by decide +kernel))) h91 h92 h93 ?_
    refine W.eq (g2 := F0 m 17 ls [.ref q9]) rfl ?_
    refine lv_astore (lv' := [(6, .ref q9), (0, .ref hh), (1, .int x1), (2, .int x2), (3, .int x3), (4, .int x4), (5, .ref ou)]) hx hb dL_call_17 hl (by decide) rfl (fun ls hl => ?_)
    refine lv_iconst (v := 1) hx hb dL_call_19 (by decide) ?_
    have hP9 := hP.sub (ws' := [(ou, .inl (kL, 1, .inr (.inl fo)))]) [0] rfl
    have hD9 := hD.sub (ws' := [(ou, .inl (kL, 1, .inr (.inl fo)))]) [0] (by decide) rfl
    have hK9 := hK.sub (tys' := [(kL, .long)]) [0] rfl
    refine W.widen (k := 1) (n := 6) (Nat.le_of_ble_eq_true rfl) (Nat.le_of_ble_eq_true rfl) ?_
    refine vx_ret ?_
    exact W.iret (v := 1) hx hb hr (fun t ht hW => ⟨⟨1, (), rfl, rfl, ⟨by rw [ht]; exact hP9, va_K.moved hW.alike hK9, hD9⟩⟩, hS.F ht⟩) hS.2.2 dL_call_20
  exact absurd hw_2 id

def wb_c_L_line : List Cond := [.code yX11_line cX11_line 3 (some .int), .code yX11_needExpression cX11_needExpression 3 none, .classLink RX11 277 "java/lang/IndexOutOfBoundsException", .initialized "java/lang/IndexOutOfBoundsException", .fieldLink RX11 12 "Hornbook" "expressions" "Ljava/util/ArrayList;", .code yJx4a65c_size_8abf5 cJx4a65c_size_8abf5 1 (some .int), .fieldLink RJx4a65c 48 "java/util/ArrayList" "size" "I", .methodLink RX11 73 yJx4a65c_size_8abf5, .instanceMethod yJx4a65c_size_8abf5, .selects RJx4a65c yJx4a65c_size_8abf5 yJx4a65c_size_8abf5, .initialized RJx4a65c, .methodLink RX11 232 yX11_needExpression, .instanceMethod yX11_needExpression, .selects RX11 yX11_needExpression yX11_needExpression, .initialized RX11, .methodLink RL 66 yX11_line, .instanceMethod yX11_line, .selects RX11 yX11_line yX11_line, .classLink RL 21 "java/lang/IndexOutOfBoundsException"] ++ u_ws RJx4a65c TJx4a65c 3 ++ u_ws RX11 TX11 10
def w_c_L_line : List Cond := .codeWith yL_line cL_line 5 (some .int) [(0, 10, 13, 21)] :: (wb_c_L_line ++ zAt)
set_option maxRecDepth 100000 in
theorem g_c_L_line_0 : GoodIn w_c_L_line (wsV RL 66 RX11 yX11_line w_c_H_line) := goodIn_app (goodIn_of _ (by decide +kernel)) (goodIn_ca (goodIn_p (big := w_c_L_line) (.code yX11_line cX11_line 3 (some .int) :: wb_c_H_line) [1, 2, 6] rfl (by decide +kernel)) (goodIn_sub (fun _ h => List.mem_cons_of_mem _ (List.mem_append_right _ h)) zAt_good))
set_option maxHeartbeats 4000000 in
set_option maxRecDepth 100000 in
theorem c_L_line (l : Launch) (hfl : l.flags = flags0) (eD eI : Nat) (ad : Nat → Nat) (dC : Nat → ClassId) (dI : Nat → Nat → Nat) (sz : Nat) (hh : Nat) (aexpr : Nat) (achoo : Nat) (ameth : Nat) (aroom : Nat) (anod : Nat) (asort : Nat) (anote : Nat) (amet : Nat) (ou : Nat) (kL : ClassId) (x1 : Int32) (x2 : Int32) (fo : Nat → Int64) : vx_Met l yL_line w_c_L_line ({ frames := 8, cells := 1, slots := 6, locals := 126 }) (va_Pc [.ref hh, .int x1, .int x2, .ref ou] (zPreD eD eI ad (dC, dI) [(hh, .inr (13, [.ref aexpr, .ref achoo, .ref ameth, .ref aroom, .ref anod, .ref asort, .ref anote, .ref amet, .int 0, .int 1])), (aexpr, .inr (1, [.int 0, .ref eD, .int 0])), (ou, .inl (kL, 1, .inr (.inl fo)))] [(kL, .long)] sz)) (va_Qi (fun (r : Int32) (_ : Unit) => r = 1) (fun (_ : Unit) => zEnd (dC, dI) (va_A [(hh, .inr (13, [.ref aexpr, .ref achoo, .ref ameth, .ref aroom, .ref anod, .ref asort, .ref anote, .ref amet, .int 0, .int 1])), (aexpr, .inr (1, [.int 0, .ref eD, .int 0])), (ou, .inl (kL, 1, .inr (.inl fo)))] sz) [(ou, .inl (kL, 1, .inr (.inl fo)))] [(kL, .long)]) (va_A [(hh, .inr (13, [.ref aexpr, .ref achoo, .ref ameth, .ref aroom, .ref anod, .ref asort, .ref anote, .ref amet, .int 0, .int 1])), (aexpr, .inr (1, [.int 0, .ref eD, .int 0])), (ou, .inl (kL, 1, .inr (.inl fo)))] sz)) (zX (fun _ => False) (va_A [(hh, .inr (13, [.ref aexpr, .ref achoo, .ref ameth, .ref aroom, .ref anod, .ref asort, .ref anote, .ref amet, .int 0, .int 1])), (aexpr, .inr (1, [.int 0, .ref eD, .int 0])), (ou, .inl (kL, 1, .inr (.inl fo)))] sz)) 1 6 (va_A [(hh, .inr (13, [.ref aexpr, .ref achoo, .ref ameth, .ref aroom, .ref anod, .ref asort, .ref anote, .ref amet, .int 0, .int 1])), (aexpr, .inr (1, [.int 0, .ref eD, .int 0])), (ou, .inl (kL, 1, .inr (.inl fo)))] sz) := by
  refine vx_ofWH (cc := cL_line) (maxL := 5) (ret := (some .int)) (hh := [(0, 10, 13, 21)]) (by decide +kernel) rfl ?_
  intro p e s m args below meth c s₁ B hml hv
  obtain ⟨rfl, ⟨hsz, hP, hK, hD0, hE⟩, hDc⟩ := hv
  have hx := B.exec
  have hb := B.bytes
  have hr := B.returns
  have hts := atoms_spec (ws := w_c_L_line) B.pre
  have hown : s.vm.findClass RL = some m.cls := findClass_of_methodNamed B.named
  have hlocks := B.notSynchronized
  have htab := vx_table (x := yL_line) B (hts (.codeWith yL_line cL_line 5 (some .int) [(0, 10, 13, 21)]) List.mem_cons_self)
  subst hsz
  have hD := hD0.self (sz := s.heap.size)
  generalize hAe : va_A [(hh, .inr (13, [.ref aexpr, .ref achoo, .ref ameth, .ref aroom, .ref anod, .ref asort, .ref anote, .ref amet, .int 0, .int 1])), (aexpr, .inr (1, [.int 0, .ref eD, .int 0])), (ou, .inl (kL, 1, .inr (.inl fo)))] s.heap.size = A at hD hE ⊢
  have hA : ∀ q : Nat, s.heap.size ≤ q → A q := fun q h => by rw [← hAe]; exact Or.inr h
  have hS : va_S A s.heap s.heap [] := va_S.rf
  have hP : va_P (dC, dI) vwCl [(hh, .inr (13, [.ref aexpr, .ref achoo, .ref ameth, .ref aroom, .ref anod, .ref asort, .ref anote, .ref amet, .int 0, .int 1])), (aexpr, .inr (1, [.int 0, .ref eD, .int 0])), (ou, .inl (kL, 1, .inr (.inl fo)))] s.heap := hP
  have hl := lv_entry ([.ref hh, .int x1, .int x2, .ref ou]) (n := 5) (Nat.le_of_ble_eq_true rfl)
  rw [lg_entry_eq]
  generalize (lg_sl ([.ref hh, .int x1, .int x2, .ref ou]) ++ List.replicate (5 - (lg_sl ([.ref hh, .int x1, .int x2, .ref ou])).length) Slot.unset).toArray = ls at hl ⊢
  have hl : lv_has ls 5 [(0, .ref hh), (1, .int x1), (2, .int x2), (3, .ref ou)] := hl
  have in_RJx4a65c : ∀ w ∈ u_ws RJx4a65c TJx4a65c 3, w ∈ w_c_L_line := by decide +kernel
  have in_RX11 : ∀ w ∈ u_ws RX11 TX11 10, w ∈ w_c_L_line := by decide +kernel
  refine lv_aload_n hx hb dL_line_0 rfl (lv_at hl 3 rfl) ?_
  refine lv_iconst (v := 0) hx hb dL_line_1 (by decide) ?_
  refine lv_aload_n hx hb dL_line_2 rfl (lv_at hl 0 rfl) ?_
  refine lv_iload_n hx hb dL_line_3 rfl (lv_at hl 1 rfl) ?_
  refine lv_iload_n hx hb dL_line_4 rfl (lv_at hl 2 rfl) ?_
  refine zx_i (wr := [(ou, .inl (kL, 1, .inr (.inl fo)))]) (vx_runV (As := [.int x1, .int x2]) (rest := [.int 0, .ref ou]) ⟨hx, hb, hml, hown, hts⟩ (c_H_line l hfl eD eI ad dC dI s.heap.size hh aexpr achoo ameth aroom anod asort anote amet x1 x2) (cwV 2 hts g_c_L_line_0 rfl rfl rfl (by decide +kernel) ⟨Nat.le_of_ble_eq_true rfl, Nat.le_of_ble_eq_true rfl⟩) (z_preVD (wc := [(hh, .inr (13, [.ref aexpr, .ref achoo, .ref ameth, .ref aroom, .ref anod, .ref asort, .ref anote, .ref amet, .int 0, .int 1])), (aexpr, .inr (1, [.int 0, .ref eD, .int 0]))]) hP hD hK hS hA hE [0, 1] [] rfl (by decide) rfl (ci := 13) (q0 := 0) rfl rfl hDc) rfl rfl hl.1 rfl (lv_room (Nat.le_of_ble_eq_true rfl)) dL_line_5 ⟨Nat.le_of_ble_eq_true rfl, Nat.le_of_ble_eq_true rfl⟩) hP hD hK hS hA [0, 1] [2] rfl rfl (by decide) (by decide) (fun E ce q9 H locs hbad hP hD hS h91 h92 h93 => ?_) (fun r_1 u H locs hw_2 hP hD hK hS => ?_)
  · have hbad : E = "java/lang/IndexOutOfBoundsException" := hbad
    subst hbad
    refine vx_catch (name := "java/lang/IndexOutOfBoundsException") hown [] ⟨0, 10, 13, 21⟩ [] (by rw [htab]; rfl) (fun z h => by simp at h) (by decide) (by decide) (hts (.classLink RL 21 "java/lang/IndexOutOfBoundsException") (by decide +kernel)) (va_Nw.use rfl (hE.2.2.2.2.2.2.2.1 ("java/lang/IndexOutOfBoundsException", "java/lang/IndexOutOfBoundsException") (by decide +kernel))) h91 h92 h93 ?_
    refine W.eq (g2 := F0 m 13 ls [.ref q9]) rfl ?_
    refine lv_astore (lv' := [(4, .ref q9), (0, .ref hh), (1, .int x1), (2, .int x2), (3, .ref ou)]) hx hb dL_line_13 hl (by decide) rfl (fun ls hl => ?_)
    refine lv_iconst (v := 1) hx hb dL_line_15 (by decide) ?_
    have hP9 := hP.sub (ws' := [(ou, .inl (kL, 1, .inr (.inl fo)))]) [0] rfl
    have hD9 := hD.sub (ws' := [(ou, .inl (kL, 1, .inr (.inl fo)))]) [0] (by decide) rfl
    have hK9 := hK.sub (tys' := [(kL, .long)]) [0] rfl
    refine W.widen (k := 1) (n := 6) (Nat.le_of_ble_eq_true rfl) (Nat.le_of_ble_eq_true rfl) ?_
    refine vx_ret ?_
    exact W.iret (v := 1) hx hb hr (fun t ht hW => ⟨⟨1, (), rfl, rfl, ⟨by rw [ht]; exact hP9, va_K.moved hW.alike hK9, hD9⟩⟩, hS.F ht⟩) hS.2.2 dL_line_16
  exact absurd hw_2 id

def wb_c_L_seen : List Cond := [.code yX11_seen cX11_seen 2 (some .int), .code yX11_needExpression cX11_needExpression 3 none, .classLink RX11 277 "java/lang/IndexOutOfBoundsException", .initialized "java/lang/IndexOutOfBoundsException", .fieldLink RX11 12 "Hornbook" "expressions" "Ljava/util/ArrayList;", .code yJx4a65c_size_8abf5 cJx4a65c_size_8abf5 1 (some .int), .fieldLink RJx4a65c 48 "java/util/ArrayList" "size" "I", .methodLink RX11 73 yJx4a65c_size_8abf5, .instanceMethod yJx4a65c_size_8abf5, .selects RJx4a65c yJx4a65c_size_8abf5 yJx4a65c_size_8abf5, .initialized RJx4a65c, .methodLink RX11 232 yX11_needExpression, .instanceMethod yX11_needExpression, .selects RX11 yX11_needExpression yX11_needExpression, .initialized RX11, .methodLink RL 69 yX11_seen, .instanceMethod yX11_seen, .selects RX11 yX11_seen yX11_seen, .classLink RL 21 "java/lang/IndexOutOfBoundsException"] ++ u_ws RJx4a65c TJx4a65c 3 ++ u_ws RX11 TX11 10
def w_c_L_seen : List Cond := .codeWith yL_seen cL_seen 4 (some .int) [(0, 9, 12, 21)] :: (wb_c_L_seen ++ zAt)
set_option maxRecDepth 100000 in
theorem g_c_L_seen_0 : GoodIn w_c_L_seen (wsV RL 69 RX11 yX11_seen w_c_H_seen) := goodIn_app (goodIn_of _ (by decide +kernel)) (goodIn_ca (goodIn_p (big := w_c_L_seen) (.code yX11_seen cX11_seen 2 (some .int) :: wb_c_H_seen) [1, 2, 6] rfl (by decide +kernel)) (goodIn_sub (fun _ h => List.mem_cons_of_mem _ (List.mem_append_right _ h)) zAt_good))
set_option maxHeartbeats 4000000 in
set_option maxRecDepth 100000 in
theorem c_L_seen (l : Launch) (hfl : l.flags = flags0) (eD eI : Nat) (ad : Nat → Nat) (dC : Nat → ClassId) (dI : Nat → Nat → Nat) (sz : Nat) (hh : Nat) (aexpr : Nat) (achoo : Nat) (ameth : Nat) (aroom : Nat) (anod : Nat) (asort : Nat) (anote : Nat) (amet : Nat) (ou : Nat) (kL : ClassId) (x1 : Int32) (fo : Nat → Int64) : vx_Met l yL_seen w_c_L_seen ({ frames := 8, cells := 1, slots := 6, locals := 125 }) (va_Pc [.ref hh, .int x1, .ref ou] (zPreD eD eI ad (dC, dI) [(hh, .inr (13, [.ref aexpr, .ref achoo, .ref ameth, .ref aroom, .ref anod, .ref asort, .ref anote, .ref amet, .int 0, .int 1])), (aexpr, .inr (1, [.int 0, .ref eD, .int 0])), (ou, .inl (kL, 1, .inr (.inl fo)))] [(kL, .long)] sz)) (va_Qi (fun (r : Int32) (_ : Unit) => r = 1) (fun (_ : Unit) => zEnd (dC, dI) (va_A [(hh, .inr (13, [.ref aexpr, .ref achoo, .ref ameth, .ref aroom, .ref anod, .ref asort, .ref anote, .ref amet, .int 0, .int 1])), (aexpr, .inr (1, [.int 0, .ref eD, .int 0])), (ou, .inl (kL, 1, .inr (.inl fo)))] sz) [(ou, .inl (kL, 1, .inr (.inl fo)))] [(kL, .long)]) (va_A [(hh, .inr (13, [.ref aexpr, .ref achoo, .ref ameth, .ref aroom, .ref anod, .ref asort, .ref anote, .ref amet, .int 0, .int 1])), (aexpr, .inr (1, [.int 0, .ref eD, .int 0])), (ou, .inl (kL, 1, .inr (.inl fo)))] sz)) (zX (fun _ => False) (va_A [(hh, .inr (13, [.ref aexpr, .ref achoo, .ref ameth, .ref aroom, .ref anod, .ref asort, .ref anote, .ref amet, .int 0, .int 1])), (aexpr, .inr (1, [.int 0, .ref eD, .int 0])), (ou, .inl (kL, 1, .inr (.inl fo)))] sz)) 1 6 (va_A [(hh, .inr (13, [.ref aexpr, .ref achoo, .ref ameth, .ref aroom, .ref anod, .ref asort, .ref anote, .ref amet, .int 0, .int 1])), (aexpr, .inr (1, [.int 0, .ref eD, .int 0])), (ou, .inl (kL, 1, .inr (.inl fo)))] sz) := by
  refine vx_ofWH (cc := cL_seen) (maxL := 4) (ret := (some .int)) (hh := [(0, 9, 12, 21)]) (by decide +kernel) rfl ?_
  intro p e s m args below meth c s₁ B hml hv
  obtain ⟨rfl, ⟨hsz, hP, hK, hD0, hE⟩, hDc⟩ := hv
  have hx := B.exec
  have hb := B.bytes
  have hr := B.returns
  have hts := atoms_spec (ws := w_c_L_seen) B.pre
  have hown : s.vm.findClass RL = some m.cls := findClass_of_methodNamed B.named
  have hlocks := B.notSynchronized
  have htab := vx_table (x := yL_seen) B (hts (.codeWith yL_seen cL_seen 4 (some .int) [(0, 9, 12, 21)]) List.mem_cons_self)
  subst hsz
  have hD := hD0.self (sz := s.heap.size)
  generalize hAe : va_A [(hh, .inr (13, [.ref aexpr, .ref achoo, .ref ameth, .ref aroom, .ref anod, .ref asort, .ref anote, .ref amet, .int 0, .int 1])), (aexpr, .inr (1, [.int 0, .ref eD, .int 0])), (ou, .inl (kL, 1, .inr (.inl fo)))] s.heap.size = A at hD hE ⊢
  have hA : ∀ q : Nat, s.heap.size ≤ q → A q := fun q h => by rw [← hAe]; exact Or.inr h
  have hS : va_S A s.heap s.heap [] := va_S.rf
  have hP : va_P (dC, dI) vwCl [(hh, .inr (13, [.ref aexpr, .ref achoo, .ref ameth, .ref aroom, .ref anod, .ref asort, .ref anote, .ref amet, .int 0, .int 1])), (aexpr, .inr (1, [.int 0, .ref eD, .int 0])), (ou, .inl (kL, 1, .inr (.inl fo)))] s.heap := hP
  have hl := lv_entry ([.ref hh, .int x1, .ref ou]) (n := 4) (Nat.le_of_ble_eq_true rfl)
  rw [lg_entry_eq]
  generalize (lg_sl ([.ref hh, .int x1, .ref ou]) ++ List.replicate (4 - (lg_sl ([.ref hh, .int x1, .ref ou])).length) Slot.unset).toArray = ls at hl ⊢
  have hl : lv_has ls 4 [(0, .ref hh), (1, .int x1), (2, .ref ou)] := hl
  have in_RJx4a65c : ∀ w ∈ u_ws RJx4a65c TJx4a65c 3, w ∈ w_c_L_seen := by decide +kernel
  have in_RX11 : ∀ w ∈ u_ws RX11 TX11 10, w ∈ w_c_L_seen := by decide +kernel
  refine lv_aload_n hx hb dL_seen_0 rfl (lv_at hl 2 rfl) ?_
  refine lv_iconst (v := 0) hx hb dL_seen_1 (by decide) ?_
  refine lv_aload_n hx hb dL_seen_2 rfl (lv_at hl 0 rfl) ?_
  refine lv_iload_n hx hb dL_seen_3 rfl (lv_at hl 1 rfl) ?_
  refine zx_i (wr := [(ou, .inl (kL, 1, .inr (.inl fo)))]) (vx_runV (As := [.int x1]) (rest := [.int 0, .ref ou]) ⟨hx, hb, hml, hown, hts⟩ (c_H_seen l hfl eD eI ad dC dI s.heap.size hh aexpr achoo ameth aroom anod asort anote amet x1) (cwV 1 hts g_c_L_seen_0 rfl rfl rfl (by decide +kernel) ⟨Nat.le_of_ble_eq_true rfl, Nat.le_of_ble_eq_true rfl⟩) (z_preVD (wc := [(hh, .inr (13, [.ref aexpr, .ref achoo, .ref ameth, .ref aroom, .ref anod, .ref asort, .ref anote, .ref amet, .int 0, .int 1])), (aexpr, .inr (1, [.int 0, .ref eD, .int 0]))]) hP hD hK hS hA hE [0, 1] [] rfl (by decide) rfl (ci := 13) (q0 := 0) rfl rfl hDc) rfl rfl hl.1 rfl (lv_room (Nat.le_of_ble_eq_true rfl)) dL_seen_4 ⟨Nat.le_of_ble_eq_true rfl, Nat.le_of_ble_eq_true rfl⟩) hP hD hK hS hA [0, 1] [2] rfl rfl (by decide) (by decide) (fun E ce q9 H locs hbad hP hD hS h91 h92 h93 => ?_) (fun r_1 u H locs hw_2 hP hD hK hS => ?_)
  · have hbad : E = "java/lang/IndexOutOfBoundsException" := hbad
    subst hbad
    refine vx_catch (name := "java/lang/IndexOutOfBoundsException") hown [] ⟨0, 9, 12, 21⟩ [] (by rw [htab]; rfl) (fun z h => by simp at h) (by decide) (by decide) (hts (.classLink RL 21 "java/lang/IndexOutOfBoundsException") (by decide +kernel)) (va_Nw.use rfl (hE.2.2.2.2.2.2.2.1 ("java/lang/IndexOutOfBoundsException", "java/lang/IndexOutOfBoundsException") (by decide +kernel))) h91 h92 h93 ?_
    refine W.eq (g2 := F0 m 12 ls [.ref q9]) rfl ?_
    refine lv_astore_n (lv' := [(3, .ref q9), (0, .ref hh), (1, .int x1), (2, .ref ou)]) hx hb dL_seen_12 rfl hl (by decide) rfl (fun ls hl => ?_)
    refine lv_iconst (v := 1) hx hb dL_seen_13 (by decide) ?_
    have hP9 := hP.sub (ws' := [(ou, .inl (kL, 1, .inr (.inl fo)))]) [0] rfl
    have hD9 := hD.sub (ws' := [(ou, .inl (kL, 1, .inr (.inl fo)))]) [0] (by decide) rfl
    have hK9 := hK.sub (tys' := [(kL, .long)]) [0] rfl
    refine W.widen (k := 1) (n := 6) (Nat.le_of_ble_eq_true rfl) (Nat.le_of_ble_eq_true rfl) ?_
    refine vx_ret ?_
    exact W.iret (v := 1) hx hb hr (fun t ht hW => ⟨⟨1, (), rfl, rfl, ⟨by rw [ht]; exact hP9, va_K.moved hW.alike hK9, hD9⟩⟩, hS.F ht⟩) hS.2.2 dL_seen_14
  exact absurd hw_2 id

def wb_c_L_taking : List Cond := [.code yX11_taking cX11_taking 2 (some .int), .code yX11_needExpression cX11_needExpression 3 none, .classLink RX11 277 "java/lang/IndexOutOfBoundsException", .initialized "java/lang/IndexOutOfBoundsException", .fieldLink RX11 12 "Hornbook" "expressions" "Ljava/util/ArrayList;", .code yJx4a65c_size_8abf5 cJx4a65c_size_8abf5 1 (some .int), .fieldLink RJx4a65c 48 "java/util/ArrayList" "size" "I", .methodLink RX11 73 yJx4a65c_size_8abf5, .instanceMethod yJx4a65c_size_8abf5, .selects RJx4a65c yJx4a65c_size_8abf5 yJx4a65c_size_8abf5, .initialized RJx4a65c, .methodLink RX11 232 yX11_needExpression, .instanceMethod yX11_needExpression, .selects RX11 yX11_needExpression yX11_needExpression, .initialized RX11, .methodLink RL 72 yX11_taking, .instanceMethod yX11_taking, .selects RX11 yX11_taking yX11_taking, .classLink RL 21 "java/lang/IndexOutOfBoundsException"] ++ u_ws RJx4a65c TJx4a65c 3 ++ u_ws RX11 TX11 10
def w_c_L_taking : List Cond := .codeWith yL_taking cL_taking 4 (some .int) [(0, 9, 12, 21)] :: (wb_c_L_taking ++ zAt)
set_option maxRecDepth 100000 in
theorem g_c_L_taking_0 : GoodIn w_c_L_taking (wsV RL 72 RX11 yX11_taking w_c_H_taking) := goodIn_app (goodIn_of _ (by decide +kernel)) (goodIn_ca (goodIn_p (big := w_c_L_taking) (.code yX11_taking cX11_taking 2 (some .int) :: wb_c_H_taking) [1, 2, 6] rfl (by decide +kernel)) (goodIn_sub (fun _ h => List.mem_cons_of_mem _ (List.mem_append_right _ h)) zAt_good))
set_option maxHeartbeats 4000000 in
set_option maxRecDepth 100000 in
theorem c_L_taking (l : Launch) (hfl : l.flags = flags0) (eD eI : Nat) (ad : Nat → Nat) (dC : Nat → ClassId) (dI : Nat → Nat → Nat) (sz : Nat) (hh : Nat) (aexpr : Nat) (achoo : Nat) (ameth : Nat) (aroom : Nat) (anod : Nat) (asort : Nat) (anote : Nat) (amet : Nat) (ou : Nat) (kL : ClassId) (x1 : Int32) (fo : Nat → Int64) : vx_Met l yL_taking w_c_L_taking ({ frames := 8, cells := 1, slots := 6, locals := 125 }) (va_Pc [.ref hh, .int x1, .ref ou] (zPreD eD eI ad (dC, dI) [(hh, .inr (13, [.ref aexpr, .ref achoo, .ref ameth, .ref aroom, .ref anod, .ref asort, .ref anote, .ref amet, .int 0, .int 1])), (aexpr, .inr (1, [.int 0, .ref eD, .int 0])), (ou, .inl (kL, 1, .inr (.inl fo)))] [(kL, .long)] sz)) (va_Qi (fun (r : Int32) (_ : Unit) => r = 1) (fun (_ : Unit) => zEnd (dC, dI) (va_A [(hh, .inr (13, [.ref aexpr, .ref achoo, .ref ameth, .ref aroom, .ref anod, .ref asort, .ref anote, .ref amet, .int 0, .int 1])), (aexpr, .inr (1, [.int 0, .ref eD, .int 0])), (ou, .inl (kL, 1, .inr (.inl fo)))] sz) [(ou, .inl (kL, 1, .inr (.inl fo)))] [(kL, .long)]) (va_A [(hh, .inr (13, [.ref aexpr, .ref achoo, .ref ameth, .ref aroom, .ref anod, .ref asort, .ref anote, .ref amet, .int 0, .int 1])), (aexpr, .inr (1, [.int 0, .ref eD, .int 0])), (ou, .inl (kL, 1, .inr (.inl fo)))] sz)) (zX (fun _ => False) (va_A [(hh, .inr (13, [.ref aexpr, .ref achoo, .ref ameth, .ref aroom, .ref anod, .ref asort, .ref anote, .ref amet, .int 0, .int 1])), (aexpr, .inr (1, [.int 0, .ref eD, .int 0])), (ou, .inl (kL, 1, .inr (.inl fo)))] sz)) 1 6 (va_A [(hh, .inr (13, [.ref aexpr, .ref achoo, .ref ameth, .ref aroom, .ref anod, .ref asort, .ref anote, .ref amet, .int 0, .int 1])), (aexpr, .inr (1, [.int 0, .ref eD, .int 0])), (ou, .inl (kL, 1, .inr (.inl fo)))] sz) := by
  refine vx_ofWH (cc := cL_taking) (maxL := 4) (ret := (some .int)) (hh := [(0, 9, 12, 21)]) (by decide +kernel) rfl ?_
  intro p e s m args below meth c s₁ B hml hv
  obtain ⟨rfl, ⟨hsz, hP, hK, hD0, hE⟩, hDc⟩ := hv
  have hx := B.exec
  have hb := B.bytes
  have hr := B.returns
  have hts := atoms_spec (ws := w_c_L_taking) B.pre
  have hown : s.vm.findClass RL = some m.cls := findClass_of_methodNamed B.named
  have hlocks := B.notSynchronized
  have htab := vx_table (x := yL_taking) B (hts (.codeWith yL_taking cL_taking 4 (some .int) [(0, 9, 12, 21)]) List.mem_cons_self)
  subst hsz
  have hD := hD0.self (sz := s.heap.size)
  generalize hAe : va_A [(hh, .inr (13, [.ref aexpr, .ref achoo, .ref ameth, .ref aroom, .ref anod, .ref asort, .ref anote, .ref amet, .int 0, .int 1])), (aexpr, .inr (1, [.int 0, .ref eD, .int 0])), (ou, .inl (kL, 1, .inr (.inl fo)))] s.heap.size = A at hD hE ⊢
  have hA : ∀ q : Nat, s.heap.size ≤ q → A q := fun q h => by rw [← hAe]; exact Or.inr h
  have hS : va_S A s.heap s.heap [] := va_S.rf
  have hP : va_P (dC, dI) vwCl [(hh, .inr (13, [.ref aexpr, .ref achoo, .ref ameth, .ref aroom, .ref anod, .ref asort, .ref anote, .ref amet, .int 0, .int 1])), (aexpr, .inr (1, [.int 0, .ref eD, .int 0])), (ou, .inl (kL, 1, .inr (.inl fo)))] s.heap := hP
  have hl := lv_entry ([.ref hh, .int x1, .ref ou]) (n := 4) (Nat.le_of_ble_eq_true rfl)
  rw [lg_entry_eq]
  generalize (lg_sl ([.ref hh, .int x1, .ref ou]) ++ List.replicate (4 - (lg_sl ([.ref hh, .int x1, .ref ou])).length) Slot.unset).toArray = ls at hl ⊢
  have hl : lv_has ls 4 [(0, .ref hh), (1, .int x1), (2, .ref ou)] := hl
  have in_RJx4a65c : ∀ w ∈ u_ws RJx4a65c TJx4a65c 3, w ∈ w_c_L_taking := by decide +kernel
  have in_RX11 : ∀ w ∈ u_ws RX11 TX11 10, w ∈ w_c_L_taking := by decide +kernel
  refine lv_aload_n hx hb dL_taking_0 rfl (lv_at hl 2 rfl) ?_
  refine lv_iconst (v := 0) hx hb dL_taking_1 (by decide) ?_
  refine lv_aload_n hx hb dL_taking_2 rfl (lv_at hl 0 rfl) ?_
  refine lv_iload_n hx hb dL_taking_3 rfl (lv_at hl 1 rfl) ?_
  refine zx_i (wr := [(ou, .inl (kL, 1, .inr (.inl fo)))]) (vx_runV (As := [.int x1]) (rest := [.int 0, .ref ou]) ⟨hx, hb, hml, hown, hts⟩ (c_H_taking l hfl eD eI ad dC dI s.heap.size hh aexpr achoo ameth aroom anod asort anote amet x1) (cwV 1 hts g_c_L_taking_0 rfl rfl rfl (by decide +kernel) ⟨Nat.le_of_ble_eq_true rfl, Nat.le_of_ble_eq_true rfl⟩) (z_preVD (wc := [(hh, .inr (13, [.ref aexpr, .ref achoo, .ref ameth, .ref aroom, .ref anod, .ref asort, .ref anote, .ref amet, .int 0, .int 1])), (aexpr, .inr (1, [.int 0, .ref eD, .int 0]))]) hP hD hK hS hA hE [0, 1] [] rfl (by decide) rfl (ci := 13) (q0 := 0) rfl rfl hDc) rfl rfl hl.1 rfl (lv_room (Nat.le_of_ble_eq_true rfl)) dL_taking_4 ⟨Nat.le_of_ble_eq_true rfl, Nat.le_of_ble_eq_true rfl⟩) hP hD hK hS hA [0, 1] [2] rfl rfl (by decide) (by decide) (fun E ce q9 H locs hbad hP hD hS h91 h92 h93 => ?_) (fun r_1 u H locs hw_2 hP hD hK hS => ?_)
  · have hbad : E = "java/lang/IndexOutOfBoundsException" := hbad
    subst hbad
    refine vx_catch (name := "java/lang/IndexOutOfBoundsException") hown [] ⟨0, 9, 12, 21⟩ [] (by rw [htab]; rfl) (fun z h => by simp at h) (by decide) (by decide) (hts (.classLink RL 21 "java/lang/IndexOutOfBoundsException") (by decide +kernel)) (va_Nw.use rfl (hE.2.2.2.2.2.2.2.1 ("java/lang/IndexOutOfBoundsException", "java/lang/IndexOutOfBoundsException") (by decide +kernel))) h91 h92 h93 ?_
    refine W.eq (g2 := F0 m 12 ls [.ref q9]) rfl ?_
    refine lv_astore_n (lv' := [(3, .ref q9), (0, .ref hh), (1, .int x1), (2, .ref ou)]) hx hb dL_taking_12 rfl hl (by decide) rfl (fun ls hl => ?_)
    refine lv_iconst (v := 1) hx hb dL_taking_13 (by decide) ?_
    have hP9 := hP.sub (ws' := [(ou, .inl (kL, 1, .inr (.inl fo)))]) [0] rfl
    have hD9 := hD.sub (ws' := [(ou, .inl (kL, 1, .inr (.inl fo)))]) [0] (by decide) rfl
    have hK9 := hK.sub (tys' := [(kL, .long)]) [0] rfl
    refine W.widen (k := 1) (n := 6) (Nat.le_of_ble_eq_true rfl) (Nat.le_of_ble_eq_true rfl) ?_
    refine vx_ret ?_
    exact W.iret (v := 1) hx hb hr (fun t ht hW => ⟨⟨1, (), rfl, rfl, ⟨by rw [ht]; exact hP9, va_K.moved hW.alike hK9, hD9⟩⟩, hS.F ht⟩) hS.2.2 dL_taking_14
  exact absurd hw_2 id

def wb_c_L_chosen : List Cond := [.code yX11_chosen cX11_chosen 2 (some .int), .code yX11_needExpression cX11_needExpression 3 none, .classLink RX11 277 "java/lang/IndexOutOfBoundsException", .initialized "java/lang/IndexOutOfBoundsException", .fieldLink RX11 12 "Hornbook" "expressions" "Ljava/util/ArrayList;", .code yJx4a65c_size_8abf5 cJx4a65c_size_8abf5 1 (some .int), .fieldLink RJx4a65c 48 "java/util/ArrayList" "size" "I", .methodLink RX11 73 yJx4a65c_size_8abf5, .instanceMethod yJx4a65c_size_8abf5, .selects RJx4a65c yJx4a65c_size_8abf5 yJx4a65c_size_8abf5, .initialized RJx4a65c, .methodLink RX11 232 yX11_needExpression, .instanceMethod yX11_needExpression, .selects RX11 yX11_needExpression yX11_needExpression, .initialized RX11, .methodLink RL 75 yX11_chosen, .instanceMethod yX11_chosen, .selects RX11 yX11_chosen yX11_chosen, .classLink RL 21 "java/lang/IndexOutOfBoundsException"] ++ u_ws RJx4a65c TJx4a65c 3 ++ u_ws RX11 TX11 10
def w_c_L_chosen : List Cond := .codeWith yL_chosen cL_chosen 4 (some .int) [(0, 9, 12, 21)] :: (wb_c_L_chosen ++ zAt)
set_option maxRecDepth 100000 in
theorem g_c_L_chosen_0 : GoodIn w_c_L_chosen (wsV RL 75 RX11 yX11_chosen w_c_H_chosen) := goodIn_app (goodIn_of _ (by decide +kernel)) (goodIn_ca (goodIn_p (big := w_c_L_chosen) (.code yX11_chosen cX11_chosen 2 (some .int) :: wb_c_H_chosen) [1, 2, 6] rfl (by decide +kernel)) (goodIn_sub (fun _ h => List.mem_cons_of_mem _ (List.mem_append_right _ h)) zAt_good))
set_option maxHeartbeats 4000000 in
set_option maxRecDepth 100000 in
theorem c_L_chosen (l : Launch) (hfl : l.flags = flags0) (eD eI : Nat) (ad : Nat → Nat) (dC : Nat → ClassId) (dI : Nat → Nat → Nat) (sz : Nat) (hh : Nat) (aexpr : Nat) (achoo : Nat) (ameth : Nat) (aroom : Nat) (anod : Nat) (asort : Nat) (anote : Nat) (amet : Nat) (ou : Nat) (kL : ClassId) (x1 : Int32) (fo : Nat → Int64) : vx_Met l yL_chosen w_c_L_chosen ({ frames := 8, cells := 1, slots := 6, locals := 125 }) (va_Pc [.ref hh, .int x1, .ref ou] (zPreD eD eI ad (dC, dI) [(hh, .inr (13, [.ref aexpr, .ref achoo, .ref ameth, .ref aroom, .ref anod, .ref asort, .ref anote, .ref amet, .int 0, .int 1])), (aexpr, .inr (1, [.int 0, .ref eD, .int 0])), (ou, .inl (kL, 1, .inr (.inl fo)))] [(kL, .long)] sz)) (va_Qi (fun (r : Int32) (_ : Unit) => r = 1) (fun (_ : Unit) => zEnd (dC, dI) (va_A [(hh, .inr (13, [.ref aexpr, .ref achoo, .ref ameth, .ref aroom, .ref anod, .ref asort, .ref anote, .ref amet, .int 0, .int 1])), (aexpr, .inr (1, [.int 0, .ref eD, .int 0])), (ou, .inl (kL, 1, .inr (.inl fo)))] sz) [(ou, .inl (kL, 1, .inr (.inl fo)))] [(kL, .long)]) (va_A [(hh, .inr (13, [.ref aexpr, .ref achoo, .ref ameth, .ref aroom, .ref anod, .ref asort, .ref anote, .ref amet, .int 0, .int 1])), (aexpr, .inr (1, [.int 0, .ref eD, .int 0])), (ou, .inl (kL, 1, .inr (.inl fo)))] sz)) (zX (fun _ => False) (va_A [(hh, .inr (13, [.ref aexpr, .ref achoo, .ref ameth, .ref aroom, .ref anod, .ref asort, .ref anote, .ref amet, .int 0, .int 1])), (aexpr, .inr (1, [.int 0, .ref eD, .int 0])), (ou, .inl (kL, 1, .inr (.inl fo)))] sz)) 1 6 (va_A [(hh, .inr (13, [.ref aexpr, .ref achoo, .ref ameth, .ref aroom, .ref anod, .ref asort, .ref anote, .ref amet, .int 0, .int 1])), (aexpr, .inr (1, [.int 0, .ref eD, .int 0])), (ou, .inl (kL, 1, .inr (.inl fo)))] sz) := by
  refine vx_ofWH (cc := cL_chosen) (maxL := 4) (ret := (some .int)) (hh := [(0, 9, 12, 21)]) (by decide +kernel) rfl ?_
  intro p e s m args below meth c s₁ B hml hv
  obtain ⟨rfl, ⟨hsz, hP, hK, hD0, hE⟩, hDc⟩ := hv
  have hx := B.exec
  have hb := B.bytes
  have hr := B.returns
  have hts := atoms_spec (ws := w_c_L_chosen) B.pre
  have hown : s.vm.findClass RL = some m.cls := findClass_of_methodNamed B.named
  have hlocks := B.notSynchronized
  have htab := vx_table (x := yL_chosen) B (hts (.codeWith yL_chosen cL_chosen 4 (some .int) [(0, 9, 12, 21)]) List.mem_cons_self)
  subst hsz
  have hD := hD0.self (sz := s.heap.size)
  generalize hAe : va_A [(hh, .inr (13, [.ref aexpr, .ref achoo, .ref ameth, .ref aroom, .ref anod, .ref asort, .ref anote, .ref amet, .int 0, .int 1])), (aexpr, .inr (1, [.int 0, .ref eD, .int 0])), (ou, .inl (kL, 1, .inr (.inl fo)))] s.heap.size = A at hD hE ⊢
  have hA : ∀ q : Nat, s.heap.size ≤ q → A q := fun q h => by rw [← hAe]; exact Or.inr h
  have hS : va_S A s.heap s.heap [] := va_S.rf
  have hP : va_P (dC, dI) vwCl [(hh, .inr (13, [.ref aexpr, .ref achoo, .ref ameth, .ref aroom, .ref anod, .ref asort, .ref anote, .ref amet, .int 0, .int 1])), (aexpr, .inr (1, [.int 0, .ref eD, .int 0])), (ou, .inl (kL, 1, .inr (.inl fo)))] s.heap := hP
  have hl := lv_entry ([.ref hh, .int x1, .ref ou]) (n := 4) (Nat.le_of_ble_eq_true rfl)
  rw [lg_entry_eq]
  generalize (lg_sl ([.ref hh, .int x1, .ref ou]) ++ List.replicate (4 - (lg_sl ([.ref hh, .int x1, .ref ou])).length) Slot.unset).toArray = ls at hl ⊢
  have hl : lv_has ls 4 [(0, .ref hh), (1, .int x1), (2, .ref ou)] := hl
  have in_RJx4a65c : ∀ w ∈ u_ws RJx4a65c TJx4a65c 3, w ∈ w_c_L_chosen := by decide +kernel
  have in_RX11 : ∀ w ∈ u_ws RX11 TX11 10, w ∈ w_c_L_chosen := by decide +kernel
  refine lv_aload_n hx hb dL_chosen_0 rfl (lv_at hl 2 rfl) ?_
  refine lv_iconst (v := 0) hx hb dL_chosen_1 (by decide) ?_
  refine lv_aload_n hx hb dL_chosen_2 rfl (lv_at hl 0 rfl) ?_
  refine lv_iload_n hx hb dL_chosen_3 rfl (lv_at hl 1 rfl) ?_
  refine zx_i (wr := [(ou, .inl (kL, 1, .inr (.inl fo)))]) (vx_runV (As := [.int x1]) (rest := [.int 0, .ref ou]) ⟨hx, hb, hml, hown, hts⟩ (c_H_chosen l hfl eD eI ad dC dI s.heap.size hh aexpr achoo ameth aroom anod asort anote amet x1) (cwV 1 hts g_c_L_chosen_0 rfl rfl rfl (by decide +kernel) ⟨Nat.le_of_ble_eq_true rfl, Nat.le_of_ble_eq_true rfl⟩) (z_preVD (wc := [(hh, .inr (13, [.ref aexpr, .ref achoo, .ref ameth, .ref aroom, .ref anod, .ref asort, .ref anote, .ref amet, .int 0, .int 1])), (aexpr, .inr (1, [.int 0, .ref eD, .int 0]))]) hP hD hK hS hA hE [0, 1] [] rfl (by decide) rfl (ci := 13) (q0 := 0) rfl rfl hDc) rfl rfl hl.1 rfl (lv_room (Nat.le_of_ble_eq_true rfl)) dL_chosen_4 ⟨Nat.le_of_ble_eq_true rfl, Nat.le_of_ble_eq_true rfl⟩) hP hD hK hS hA [0, 1] [2] rfl rfl (by decide) (by decide) (fun E ce q9 H locs hbad hP hD hS h91 h92 h93 => ?_) (fun r_1 u H locs hw_2 hP hD hK hS => ?_)
  · have hbad : E = "java/lang/IndexOutOfBoundsException" := hbad
    subst hbad
    refine vx_catch (name := "java/lang/IndexOutOfBoundsException") hown [] ⟨0, 9, 12, 21⟩ [] (by rw [htab]; rfl) (fun z h => by simp at h) (by decide) (by decide) (hts (.classLink RL 21 "java/lang/IndexOutOfBoundsException") (by decide +kernel)) (va_Nw.use rfl (hE.2.2.2.2.2.2.2.1 ("java/lang/IndexOutOfBoundsException", "java/lang/IndexOutOfBoundsException") (by decide +kernel))) h91 h92 h93 ?_
    refine W.eq (g2 := F0 m 12 ls [.ref q9]) rfl ?_
    refine lv_astore_n (lv' := [(3, .ref q9), (0, .ref hh), (1, .int x1), (2, .ref ou)]) hx hb dL_chosen_12 rfl hl (by decide) rfl (fun ls hl => ?_)
    refine lv_iconst (v := 1) hx hb dL_chosen_13 (by decide) ?_
    have hP9 := hP.sub (ws' := [(ou, .inl (kL, 1, .inr (.inl fo)))]) [0] rfl
    have hD9 := hD.sub (ws' := [(ou, .inl (kL, 1, .inr (.inl fo)))]) [0] (by decide) rfl
    have hK9 := hK.sub (tys' := [(kL, .long)]) [0] rfl
    refine W.widen (k := 1) (n := 6) (Nat.le_of_ble_eq_true rfl) (Nat.le_of_ble_eq_true rfl) ?_
    refine vx_ret ?_
    exact W.iret (v := 1) hx hb hr (fun t ht hW => ⟨⟨1, (), rfl, rfl, ⟨by rw [ht]; exact hP9, va_K.moved hW.alike hK9, hD9⟩⟩, hS.F ht⟩) hS.2.2 dL_chosen_14
  exact absurd hw_2 id

def wb_c_L_own : List Cond := [.code yX11_own cX11_own 3 (some .int), .code yX11_needExpression cX11_needExpression 3 none, .classLink RX11 277 "java/lang/IndexOutOfBoundsException", .initialized "java/lang/IndexOutOfBoundsException", .fieldLink RX11 12 "Hornbook" "expressions" "Ljava/util/ArrayList;", .code yJx4a65c_size_8abf5 cJx4a65c_size_8abf5 1 (some .int), .fieldLink RJx4a65c 48 "java/util/ArrayList" "size" "I", .methodLink RX11 73 yJx4a65c_size_8abf5, .instanceMethod yJx4a65c_size_8abf5, .selects RJx4a65c yJx4a65c_size_8abf5 yJx4a65c_size_8abf5, .initialized RJx4a65c, .methodLink RX11 232 yX11_needExpression, .instanceMethod yX11_needExpression, .selects RX11 yX11_needExpression yX11_needExpression, .initialized RX11, .methodLink RL 78 yX11_own, .instanceMethod yX11_own, .selects RX11 yX11_own yX11_own, .classLink RL 21 "java/lang/IndexOutOfBoundsException"] ++ u_ws RJx4a65c TJx4a65c 3 ++ u_ws RX11 TX11 10
def w_c_L_own : List Cond := .codeWith yL_own cL_own 5 (some .int) [(0, 10, 13, 21)] :: (wb_c_L_own ++ zAt)
set_option maxRecDepth 100000 in
theorem g_c_L_own_0 : GoodIn w_c_L_own (wsV RL 78 RX11 yX11_own w_c_H_own) := goodIn_app (goodIn_of _ (by decide +kernel)) (goodIn_ca (goodIn_p (big := w_c_L_own) (.code yX11_own cX11_own 3 (some .int) :: wb_c_H_own) [1, 2, 6] rfl (by decide +kernel)) (goodIn_sub (fun _ h => List.mem_cons_of_mem _ (List.mem_append_right _ h)) zAt_good))
set_option maxHeartbeats 4000000 in
set_option maxRecDepth 100000 in
theorem c_L_own (l : Launch) (hfl : l.flags = flags0) (eD eI : Nat) (ad : Nat → Nat) (dC : Nat → ClassId) (dI : Nat → Nat → Nat) (sz : Nat) (hh : Nat) (aexpr : Nat) (achoo : Nat) (ameth : Nat) (aroom : Nat) (anod : Nat) (asort : Nat) (anote : Nat) (amet : Nat) (ou : Nat) (kL : ClassId) (x1 : Int32) (x2 : Int32) (fo : Nat → Int64) : vx_Met l yL_own w_c_L_own ({ frames := 8, cells := 1, slots := 6, locals := 126 }) (va_Pc [.ref hh, .int x1, .int x2, .ref ou] (zPreD eD eI ad (dC, dI) [(hh, .inr (13, [.ref aexpr, .ref achoo, .ref ameth, .ref aroom, .ref anod, .ref asort, .ref anote, .ref amet, .int 0, .int 1])), (aexpr, .inr (1, [.int 0, .ref eD, .int 0])), (ou, .inl (kL, 1, .inr (.inl fo)))] [(kL, .long)] sz)) (va_Qi (fun (r : Int32) (_ : Unit) => r = 1) (fun (_ : Unit) => zEnd (dC, dI) (va_A [(hh, .inr (13, [.ref aexpr, .ref achoo, .ref ameth, .ref aroom, .ref anod, .ref asort, .ref anote, .ref amet, .int 0, .int 1])), (aexpr, .inr (1, [.int 0, .ref eD, .int 0])), (ou, .inl (kL, 1, .inr (.inl fo)))] sz) [(ou, .inl (kL, 1, .inr (.inl fo)))] [(kL, .long)]) (va_A [(hh, .inr (13, [.ref aexpr, .ref achoo, .ref ameth, .ref aroom, .ref anod, .ref asort, .ref anote, .ref amet, .int 0, .int 1])), (aexpr, .inr (1, [.int 0, .ref eD, .int 0])), (ou, .inl (kL, 1, .inr (.inl fo)))] sz)) (zX (fun _ => False) (va_A [(hh, .inr (13, [.ref aexpr, .ref achoo, .ref ameth, .ref aroom, .ref anod, .ref asort, .ref anote, .ref amet, .int 0, .int 1])), (aexpr, .inr (1, [.int 0, .ref eD, .int 0])), (ou, .inl (kL, 1, .inr (.inl fo)))] sz)) 1 6 (va_A [(hh, .inr (13, [.ref aexpr, .ref achoo, .ref ameth, .ref aroom, .ref anod, .ref asort, .ref anote, .ref amet, .int 0, .int 1])), (aexpr, .inr (1, [.int 0, .ref eD, .int 0])), (ou, .inl (kL, 1, .inr (.inl fo)))] sz) := by
  refine vx_ofWH (cc := cL_own) (maxL := 5) (ret := (some .int)) (hh := [(0, 10, 13, 21)]) (by decide +kernel) rfl ?_
  intro p e s m args below meth c s₁ B hml hv
  obtain ⟨rfl, ⟨hsz, hP, hK, hD0, hE⟩, hDc⟩ := hv
  have hx := B.exec
  have hb := B.bytes
  have hr := B.returns
  have hts := atoms_spec (ws := w_c_L_own) B.pre
  have hown : s.vm.findClass RL = some m.cls := findClass_of_methodNamed B.named
  have hlocks := B.notSynchronized
  have htab := vx_table (x := yL_own) B (hts (.codeWith yL_own cL_own 5 (some .int) [(0, 10, 13, 21)]) List.mem_cons_self)
  subst hsz
  have hD := hD0.self (sz := s.heap.size)
  generalize hAe : va_A [(hh, .inr (13, [.ref aexpr, .ref achoo, .ref ameth, .ref aroom, .ref anod, .ref asort, .ref anote, .ref amet, .int 0, .int 1])), (aexpr, .inr (1, [.int 0, .ref eD, .int 0])), (ou, .inl (kL, 1, .inr (.inl fo)))] s.heap.size = A at hD hE ⊢
  have hA : ∀ q : Nat, s.heap.size ≤ q → A q := fun q h => by rw [← hAe]; exact Or.inr h
  have hS : va_S A s.heap s.heap [] := va_S.rf
  have hP : va_P (dC, dI) vwCl [(hh, .inr (13, [.ref aexpr, .ref achoo, .ref ameth, .ref aroom, .ref anod, .ref asort, .ref anote, .ref amet, .int 0, .int 1])), (aexpr, .inr (1, [.int 0, .ref eD, .int 0])), (ou, .inl (kL, 1, .inr (.inl fo)))] s.heap := hP
  have hl := lv_entry ([.ref hh, .int x1, .int x2, .ref ou]) (n := 5) (Nat.le_of_ble_eq_true rfl)
  rw [lg_entry_eq]
  generalize (lg_sl ([.ref hh, .int x1, .int x2, .ref ou]) ++ List.replicate (5 - (lg_sl ([.ref hh, .int x1, .int x2, .ref ou])).length) Slot.unset).toArray = ls at hl ⊢
  have hl : lv_has ls 5 [(0, .ref hh), (1, .int x1), (2, .int x2), (3, .ref ou)] := hl
  have in_RJx4a65c : ∀ w ∈ u_ws RJx4a65c TJx4a65c 3, w ∈ w_c_L_own := by decide +kernel
  have in_RX11 : ∀ w ∈ u_ws RX11 TX11 10, w ∈ w_c_L_own := by decide +kernel
  refine lv_aload_n hx hb dL_own_0 rfl (lv_at hl 3 rfl) ?_
  refine lv_iconst (v := 0) hx hb dL_own_1 (by decide) ?_
  refine lv_aload_n hx hb dL_own_2 rfl (lv_at hl 0 rfl) ?_
  refine lv_iload_n hx hb dL_own_3 rfl (lv_at hl 1 rfl) ?_
  refine lv_iload_n hx hb dL_own_4 rfl (lv_at hl 2 rfl) ?_
  refine zx_i (wr := [(ou, .inl (kL, 1, .inr (.inl fo)))]) (vx_runV (As := [.int x1, .int x2]) (rest := [.int 0, .ref ou]) ⟨hx, hb, hml, hown, hts⟩ (c_H_own l hfl eD eI ad dC dI s.heap.size hh aexpr achoo ameth aroom anod asort anote amet x1 x2) (cwV 2 hts g_c_L_own_0 rfl rfl rfl (by decide +kernel) ⟨Nat.le_of_ble_eq_true rfl, Nat.le_of_ble_eq_true rfl⟩) (z_preVD (wc := [(hh, .inr (13, [.ref aexpr, .ref achoo, .ref ameth, .ref aroom, .ref anod, .ref asort, .ref anote, .ref amet, .int 0, .int 1])), (aexpr, .inr (1, [.int 0, .ref eD, .int 0]))]) hP hD hK hS hA hE [0, 1] [] rfl (by decide) rfl (ci := 13) (q0 := 0) rfl rfl hDc) rfl rfl hl.1 rfl (lv_room (Nat.le_of_ble_eq_true rfl)) dL_own_5 ⟨Nat.le_of_ble_eq_true rfl, Nat.le_of_ble_eq_true rfl⟩) hP hD hK hS hA [0, 1] [2] rfl rfl (by decide) (by decide) (fun E ce q9 H locs hbad hP hD hS h91 h92 h93 => ?_) (fun r_1 u H locs hw_2 hP hD hK hS => ?_)
  · have hbad : E = "java/lang/IndexOutOfBoundsException" := hbad
    subst hbad
    refine vx_catch (name := "java/lang/IndexOutOfBoundsException") hown [] ⟨0, 10, 13, 21⟩ [] (by rw [htab]; rfl) (fun z h => by simp at h) (by decide) (by decide) (hts (.classLink RL 21 "java/lang/IndexOutOfBoundsException") (by decide +kernel)) (va_Nw.use rfl (hE.2.2.2.2.2.2.2.1 ("java/lang/IndexOutOfBoundsException", "java/lang/IndexOutOfBoundsException") (by decide +kernel))) h91 h92 h93 ?_
    refine W.eq (g2 := F0 m 13 ls [.ref q9]) rfl ?_
    refine lv_astore (lv' := [(4, .ref q9), (0, .ref hh), (1, .int x1), (2, .int x2), (3, .ref ou)]) hx hb dL_own_13 hl (by decide) rfl (fun ls hl => ?_)
    refine lv_iconst (v := 1) hx hb dL_own_15 (by decide) ?_
    have hP9 := hP.sub (ws' := [(ou, .inl (kL, 1, .inr (.inl fo)))]) [0] rfl
    have hD9 := hD.sub (ws' := [(ou, .inl (kL, 1, .inr (.inl fo)))]) [0] (by decide) rfl
    have hK9 := hK.sub (tys' := [(kL, .long)]) [0] rfl
    refine W.widen (k := 1) (n := 6) (Nat.le_of_ble_eq_true rfl) (Nat.le_of_ble_eq_true rfl) ?_
    refine vx_ret ?_
    exact W.iret (v := 1) hx hb hr (fun t ht hW => ⟨⟨1, (), rfl, rfl, ⟨by rw [ht]; exact hP9, va_K.moved hW.alike hK9, hD9⟩⟩, hS.F ht⟩) hS.2.2 dL_own_16
  exact absurd hw_2 id

def wb_c_L_isFaulty : List Cond := [.code yX11_isFaulty cX11_isFaulty 2 (some .boolean), .code yX11_needExpression cX11_needExpression 3 none, .classLink RX11 277 "java/lang/IndexOutOfBoundsException", .initialized "java/lang/IndexOutOfBoundsException", .fieldLink RX11 12 "Hornbook" "expressions" "Ljava/util/ArrayList;", .code yJx4a65c_size_8abf5 cJx4a65c_size_8abf5 1 (some .int), .fieldLink RJx4a65c 48 "java/util/ArrayList" "size" "I", .methodLink RX11 73 yJx4a65c_size_8abf5, .instanceMethod yJx4a65c_size_8abf5, .selects RJx4a65c yJx4a65c_size_8abf5 yJx4a65c_size_8abf5, .initialized RJx4a65c, .methodLink RX11 232 yX11_needExpression, .instanceMethod yX11_needExpression, .selects RX11 yX11_needExpression yX11_needExpression, .initialized RX11, .methodLink RL 84 yX11_isFaulty, .instanceMethod yX11_isFaulty, .selects RX11 yX11_isFaulty yX11_isFaulty, .classLink RL 21 "java/lang/IndexOutOfBoundsException"] ++ u_ws RJx4a65c TJx4a65c 3 ++ u_ws RX11 TX11 10
def w_c_L_isFaulty : List Cond := .codeWith yL_isFaulty cL_isFaulty 4 (some .int) [(0, 16, 19, 21)] :: (wb_c_L_isFaulty ++ zAt)
set_option maxRecDepth 100000 in
theorem g_c_L_isFaulty_0 : GoodIn w_c_L_isFaulty (wsV RL 84 RX11 yX11_isFaulty w_c_H_isFaulty) := goodIn_app (goodIn_of _ (by decide +kernel)) (goodIn_ca (goodIn_p (big := w_c_L_isFaulty) (.code yX11_isFaulty cX11_isFaulty 2 (some .boolean) :: wb_c_H_isFaulty) [1, 2, 6] rfl (by decide +kernel)) (goodIn_sub (fun _ h => List.mem_cons_of_mem _ (List.mem_append_right _ h)) zAt_good))
set_option maxHeartbeats 4000000 in
set_option maxRecDepth 100000 in
theorem c_L_isFaulty (l : Launch) (hfl : l.flags = flags0) (eD eI : Nat) (ad : Nat → Nat) (dC : Nat → ClassId) (dI : Nat → Nat → Nat) (sz : Nat) (hh : Nat) (aexpr : Nat) (achoo : Nat) (ameth : Nat) (aroom : Nat) (anod : Nat) (asort : Nat) (anote : Nat) (amet : Nat) (ou : Nat) (kL : ClassId) (x1 : Int32) (fo : Nat → Int64) : vx_Met l yL_isFaulty w_c_L_isFaulty ({ frames := 8, cells := 1, slots := 6, locals := 125 }) (va_Pc [.ref hh, .int x1, .ref ou] (zPreD eD eI ad (dC, dI) [(hh, .inr (13, [.ref aexpr, .ref achoo, .ref ameth, .ref aroom, .ref anod, .ref asort, .ref anote, .ref amet, .int 0, .int 1])), (aexpr, .inr (1, [.int 0, .ref eD, .int 0])), (ou, .inl (kL, 1, .inr (.inl fo)))] [(kL, .long)] sz)) (va_Qi (fun (r : Int32) (_ : Unit) => r = 1) (fun (_ : Unit) => zEnd (dC, dI) (va_A [(hh, .inr (13, [.ref aexpr, .ref achoo, .ref ameth, .ref aroom, .ref anod, .ref asort, .ref anote, .ref amet, .int 0, .int 1])), (aexpr, .inr (1, [.int 0, .ref eD, .int 0])), (ou, .inl (kL, 1, .inr (.inl fo)))] sz) [(ou, .inl (kL, 1, .inr (.inl fo)))] [(kL, .long)]) (va_A [(hh, .inr (13, [.ref aexpr, .ref achoo, .ref ameth, .ref aroom, .ref anod, .ref asort, .ref anote, .ref amet, .int 0, .int 1])), (aexpr, .inr (1, [.int 0, .ref eD, .int 0])), (ou, .inl (kL, 1, .inr (.inl fo)))] sz)) (zX (fun _ => False) (va_A [(hh, .inr (13, [.ref aexpr, .ref achoo, .ref ameth, .ref aroom, .ref anod, .ref asort, .ref anote, .ref amet, .int 0, .int 1])), (aexpr, .inr (1, [.int 0, .ref eD, .int 0])), (ou, .inl (kL, 1, .inr (.inl fo)))] sz)) 1 6 (va_A [(hh, .inr (13, [.ref aexpr, .ref achoo, .ref ameth, .ref aroom, .ref anod, .ref asort, .ref anote, .ref amet, .int 0, .int 1])), (aexpr, .inr (1, [.int 0, .ref eD, .int 0])), (ou, .inl (kL, 1, .inr (.inl fo)))] sz) := by
  refine vx_ofWH (cc := cL_isFaulty) (maxL := 4) (ret := (some .int)) (hh := [(0, 16, 19, 21)]) (by decide +kernel) rfl ?_
  intro p e s m args below meth c s₁ B hml hv
  obtain ⟨rfl, ⟨hsz, hP, hK, hD0, hE⟩, hDc⟩ := hv
  have hx := B.exec
  have hb := B.bytes
  have hr := B.returns
  have hts := atoms_spec (ws := w_c_L_isFaulty) B.pre
  have hown : s.vm.findClass RL = some m.cls := findClass_of_methodNamed B.named
  have hlocks := B.notSynchronized
  have htab := vx_table (x := yL_isFaulty) B (hts (.codeWith yL_isFaulty cL_isFaulty 4 (some .int) [(0, 16, 19, 21)]) List.mem_cons_self)
  subst hsz
  have hD := hD0.self (sz := s.heap.size)
  generalize hAe : va_A [(hh, .inr (13, [.ref aexpr, .ref achoo, .ref ameth, .ref aroom, .ref anod, .ref asort, .ref anote, .ref amet, .int 0, .int 1])), (aexpr, .inr (1, [.int 0, .ref eD, .int 0])), (ou, .inl (kL, 1, .inr (.inl fo)))] s.heap.size = A at hD hE ⊢
  have hA : ∀ q : Nat, s.heap.size ≤ q → A q := fun q h => by rw [← hAe]; exact Or.inr h
  have hS : va_S A s.heap s.heap [] := va_S.rf
  have hP : va_P (dC, dI) vwCl [(hh, .inr (13, [.ref aexpr, .ref achoo, .ref ameth, .ref aroom, .ref anod, .ref asort, .ref anote, .ref amet, .int 0, .int 1])), (aexpr, .inr (1, [.int 0, .ref eD, .int 0])), (ou, .inl (kL, 1, .inr (.inl fo)))] s.heap := hP
  have hl := lv_entry ([.ref hh, .int x1, .ref ou]) (n := 4) (Nat.le_of_ble_eq_true rfl)
  rw [lg_entry_eq]
  generalize (lg_sl ([.ref hh, .int x1, .ref ou]) ++ List.replicate (4 - (lg_sl ([.ref hh, .int x1, .ref ou])).length) Slot.unset).toArray = ls at hl ⊢
  have hl : lv_has ls 4 [(0, .ref hh), (1, .int x1), (2, .ref ou)] := hl
  have in_RJx4a65c : ∀ w ∈ u_ws RJx4a65c TJx4a65c 3, w ∈ w_c_L_isFaulty := by decide +kernel
  have in_RX11 : ∀ w ∈ u_ws RX11 TX11 10, w ∈ w_c_L_isFaulty := by decide +kernel
  refine lv_aload_n hx hb dL_isFaulty_0 rfl (lv_at hl 2 rfl) ?_
  refine lv_iconst (v := 0) hx hb dL_isFaulty_1 (by decide) ?_
  refine lv_aload_n hx hb dL_isFaulty_2 rfl (lv_at hl 0 rfl) ?_
  refine lv_iload_n hx hb dL_isFaulty_3 rfl (lv_at hl 1 rfl) ?_
  refine zx_i (wr := [(ou, .inl (kL, 1, .inr (.inl fo)))]) (vx_runV (As := [.int x1]) (rest := [.int 0, .ref ou]) ⟨hx, hb, hml, hown, hts⟩ (c_H_isFaulty l hfl eD eI ad dC dI s.heap.size hh aexpr achoo ameth aroom anod asort anote amet x1) (cwV 1 hts g_c_L_isFaulty_0 rfl rfl rfl (by decide +kernel) ⟨Nat.le_of_ble_eq_true rfl, Nat.le_of_ble_eq_true rfl⟩) (z_preVD (wc := [(hh, .inr (13, [.ref aexpr, .ref achoo, .ref ameth, .ref aroom, .ref anod, .ref asort, .ref anote, .ref amet, .int 0, .int 1])), (aexpr, .inr (1, [.int 0, .ref eD, .int 0]))]) hP hD hK hS hA hE [0, 1] [] rfl (by decide) rfl (ci := 13) (q0 := 0) rfl rfl hDc) rfl rfl hl.1 rfl (lv_room (Nat.le_of_ble_eq_true rfl)) dL_isFaulty_4 ⟨Nat.le_of_ble_eq_true rfl, Nat.le_of_ble_eq_true rfl⟩) hP hD hK hS hA [0, 1] [2] rfl rfl (by decide) (by decide) (fun E ce q9 H locs hbad hP hD hS h91 h92 h93 => ?_) (fun r_1 u H locs hw_2 hP hD hK hS => ?_)
  · have hbad : E = "java/lang/IndexOutOfBoundsException" := hbad
    subst hbad
    refine vx_catch (name := "java/lang/IndexOutOfBoundsException") hown [] ⟨0, 16, 19, 21⟩ [] (by rw [htab]; rfl) (fun z h => by simp at h) (by decide) (by decide) (hts (.classLink RL 21 "java/lang/IndexOutOfBoundsException") (by decide +kernel)) (va_Nw.use rfl (hE.2.2.2.2.2.2.2.1 ("java/lang/IndexOutOfBoundsException", "java/lang/IndexOutOfBoundsException") (by decide +kernel))) h91 h92 h93 ?_
    refine W.eq (g2 := F0 m 19 ls [.ref q9]) rfl ?_
    refine lv_astore_n (lv' := [(3, .ref q9), (0, .ref hh), (1, .int x1), (2, .ref ou)]) hx hb dL_isFaulty_19 rfl hl (by decide) rfl (fun ls hl => ?_)
    refine lv_iconst (v := 1) hx hb dL_isFaulty_20 (by decide) ?_
    have hP9 := hP.sub (ws' := [(ou, .inl (kL, 1, .inr (.inl fo)))]) [0] rfl
    have hD9 := hD.sub (ws' := [(ou, .inl (kL, 1, .inr (.inl fo)))]) [0] (by decide) rfl
    have hK9 := hK.sub (tys' := [(kL, .long)]) [0] rfl
    refine W.widen (k := 1) (n := 6) (Nat.le_of_ble_eq_true rfl) (Nat.le_of_ble_eq_true rfl) ?_
    refine vx_ret ?_
    exact W.iret (v := 1) hx hb hr (fun t ht hW => ⟨⟨1, (), rfl, rfl, ⟨by rw [ht]; exact hP9, va_K.moved hW.alike hK9, hD9⟩⟩, hS.F ht⟩) hS.2.2 dL_isFaulty_21
  exact absurd hw_2 id

def wb_c_L_faultsWithout : List Cond := [.code yX11_faultsWithout cX11_faultsWithout 3 (some .int), .classLink RX11 277 "java/lang/IndexOutOfBoundsException", .initialized "java/lang/IndexOutOfBoundsException", .fieldLink RX11 26 "Hornbook" "methods" "Ljava/util/ArrayList;", .code yJx4a65c_size_8abf5 cJx4a65c_size_8abf5 1 (some .int), .fieldLink RJx4a65c 48 "java/util/ArrayList" "size" "I", .methodLink RX11 73 yJx4a65c_size_8abf5, .instanceMethod yJx4a65c_size_8abf5, .selects RJx4a65c yJx4a65c_size_8abf5 yJx4a65c_size_8abf5, .initialized RJx4a65c, .methodLink RL 94 yX11_faultsWithout, .instanceMethod yX11_faultsWithout, .selects RX11 yX11_faultsWithout yX11_faultsWithout, .initialized RX11, .classLink RL 21 "java/lang/IndexOutOfBoundsException"] ++ u_ws RJx4a65c TJx4a65c 3 ++ u_ws RX11 TX11 10
def w_c_L_faultsWithout : List Cond := .codeWith yL_faultsWithout cL_faultsWithout 4 (some .int) [(0, 9, 12, 21)] :: (wb_c_L_faultsWithout ++ zAt)
set_option maxRecDepth 100000 in
theorem g_c_L_faultsWithout_0 : GoodIn w_c_L_faultsWithout (wsV RL 94 RX11 yX11_faultsWithout w_c_H_faultsWithout) := goodIn_app (goodIn_of _ (by decide +kernel)) (goodIn_ca (goodIn_p (big := w_c_L_faultsWithout) (.code yX11_faultsWithout cX11_faultsWithout 3 (some .int) :: wb_c_H_faultsWithout) [1, 5] rfl (by decide +kernel)) (goodIn_sub (fun _ h => List.mem_cons_of_mem _ (List.mem_append_right _ h)) zAt_good))
set_option maxHeartbeats 4000000 in
set_option maxRecDepth 100000 in
theorem c_L_faultsWithout (l : Launch) (hfl : l.flags = flags0) (eD eI : Nat) (ad : Nat → Nat) (dC : Nat → ClassId) (dI : Nat → Nat → Nat) (sz : Nat) (hh : Nat) (aexpr : Nat) (achoo : Nat) (ameth : Nat) (aroom : Nat) (anod : Nat) (asort : Nat) (anote : Nat) (amet : Nat) (ou : Nat) (kL : ClassId) (x1 : Int32) (fo : Nat → Int64) : vx_Met l yL_faultsWithout w_c_L_faultsWithout ({ frames := 7, cells := 1, slots := 6, locals := 104 }) (va_Pc [.ref hh, .int x1, .ref ou] (zPreD eD eI ad (dC, dI) [(hh, .inr (13, [.ref aexpr, .ref achoo, .ref ameth, .ref aroom, .ref anod, .ref asort, .ref anote, .ref amet, .int 0, .int 1])), (ameth, .inr (1, [.int 0, .ref eD, .int 0])), (ou, .inl (kL, 1, .inr (.inl fo)))] [(kL, .long)] sz)) (va_Qi (fun (r : Int32) (_ : Unit) => r = 1) (fun (_ : Unit) => zEnd (dC, dI) (va_A [(hh, .inr (13, [.ref aexpr, .ref achoo, .ref ameth, .ref aroom, .ref anod, .ref asort, .ref anote, .ref amet, .int 0, .int 1])), (ameth, .inr (1, [.int 0, .ref eD, .int 0])), (ou, .inl (kL, 1, .inr (.inl fo)))] sz) [(ou, .inl (kL, 1, .inr (.inl fo)))] [(kL, .long)]) (va_A [(hh, .inr (13, [.ref aexpr, .ref achoo, .ref ameth, .ref aroom, .ref anod, .ref asort, .ref anote, .ref amet, .int 0, .int 1])), (ameth, .inr (1, [.int 0, .ref eD, .int 0])), (ou, .inl (kL, 1, .inr (.inl fo)))] sz)) (zX (fun _ => False) (va_A [(hh, .inr (13, [.ref aexpr, .ref achoo, .ref ameth, .ref aroom, .ref anod, .ref asort, .ref anote, .ref amet, .int 0, .int 1])), (ameth, .inr (1, [.int 0, .ref eD, .int 0])), (ou, .inl (kL, 1, .inr (.inl fo)))] sz)) 1 6 (va_A [(hh, .inr (13, [.ref aexpr, .ref achoo, .ref ameth, .ref aroom, .ref anod, .ref asort, .ref anote, .ref amet, .int 0, .int 1])), (ameth, .inr (1, [.int 0, .ref eD, .int 0])), (ou, .inl (kL, 1, .inr (.inl fo)))] sz) := by
  refine vx_ofWH (cc := cL_faultsWithout) (maxL := 4) (ret := (some .int)) (hh := [(0, 9, 12, 21)]) (by decide +kernel) rfl ?_
  intro p e s m args below meth c s₁ B hml hv
  obtain ⟨rfl, ⟨hsz, hP, hK, hD0, hE⟩, hDc⟩ := hv
  have hx := B.exec
  have hb := B.bytes
  have hr := B.returns
  have hts := atoms_spec (ws := w_c_L_faultsWithout) B.pre
  have hown : s.vm.findClass RL = some m.cls := findClass_of_methodNamed B.named
  have hlocks := B.notSynchronized
  have htab := vx_table (x := yL_faultsWithout) B (hts (.codeWith yL_faultsWithout cL_faultsWithout 4 (some .int) [(0, 9, 12, 21)]) List.mem_cons_self)
  subst hsz
  have hD := hD0.self (sz := s.heap.size)
  generalize hAe : va_A [(hh, .inr (13, [.ref aexpr, .ref achoo, .ref ameth, .ref aroom, .ref anod, .ref asort, .ref anote, .ref amet, .int 0, .int 1])), (ameth, .inr (1, [.int 0, .ref eD, .int 0])), (ou, .inl (kL, 1, .inr (.inl fo)))] s.heap.size = A at hD hE ⊢
  have hA : ∀ q : Nat, s.heap.size ≤ q → A q := fun q h => by rw [← hAe]; exact Or.inr h
  have hS : va_S A s.heap s.heap [] := va_S.rf
  have hP : va_P (dC, dI) vwCl [(hh, .inr (13, [.ref aexpr, .ref achoo, .ref ameth, .ref aroom, .ref anod, .ref asort, .ref anote, .ref amet, .int 0, .int 1])), (ameth, .inr (1, [.int 0, .ref eD, .int 0])), (ou, .inl (kL, 1, .inr (.inl fo)))] s.heap := hP
  have hl := lv_entry ([.ref hh, .int x1, .ref ou]) (n := 4) (Nat.le_of_ble_eq_true rfl)
  rw [lg_entry_eq]
  generalize (lg_sl ([.ref hh, .int x1, .ref ou]) ++ List.replicate (4 - (lg_sl ([.ref hh, .int x1, .ref ou])).length) Slot.unset).toArray = ls at hl ⊢
  have hl : lv_has ls 4 [(0, .ref hh), (1, .int x1), (2, .ref ou)] := hl
  have in_RJx4a65c : ∀ w ∈ u_ws RJx4a65c TJx4a65c 3, w ∈ w_c_L_faultsWithout := by decide +kernel
  have in_RX11 : ∀ w ∈ u_ws RX11 TX11 10, w ∈ w_c_L_faultsWithout := by decide +kernel
  refine lv_aload_n hx hb dL_faultsWithout_0 rfl (lv_at hl 2 rfl) ?_
  refine lv_iconst (v := 0) hx hb dL_faultsWithout_1 (by decide) ?_
  refine lv_aload_n hx hb dL_faultsWithout_2 rfl (lv_at hl 0 rfl) ?_
  refine lv_iload_n hx hb dL_faultsWithout_3 rfl (lv_at hl 1 rfl) ?_
  refine zx_i (wr := [(ou, .inl (kL, 1, .inr (.inl fo)))]) (vx_runV (As := [.int x1]) (rest := [.int 0, .ref ou]) ⟨hx, hb, hml, hown, hts⟩ (c_H_faultsWithout l hfl eD eI ad dC dI s.heap.size hh aexpr achoo ameth aroom anod asort anote amet x1) (cwV 1 hts g_c_L_faultsWithout_0 rfl rfl rfl (by decide +kernel) ⟨Nat.le_of_ble_eq_true rfl, Nat.le_of_ble_eq_true rfl⟩) (z_preVD (wc := [(hh, .inr (13, [.ref aexpr, .ref achoo, .ref ameth, .ref aroom, .ref anod, .ref asort, .ref anote, .ref amet, .int 0, .int 1])), (ameth, .inr (1, [.int 0, .ref eD, .int 0]))]) hP hD hK hS hA hE [0, 1] [] rfl (by decide) rfl (ci := 13) (q0 := 0) rfl rfl hDc) rfl rfl hl.1 rfl (lv_room (Nat.le_of_ble_eq_true rfl)) dL_faultsWithout_4 ⟨Nat.le_of_ble_eq_true rfl, Nat.le_of_ble_eq_true rfl⟩) hP hD hK hS hA [0, 1] [2] rfl rfl (by decide) (by decide) (fun E ce q9 H locs hbad hP hD hS h91 h92 h93 => ?_) (fun r_1 u H locs hw_2 hP hD hK hS => ?_)
  · have hbad : E = "java/lang/IndexOutOfBoundsException" := hbad
    subst hbad
    refine vx_catch (name := "java/lang/IndexOutOfBoundsException") hown [] ⟨0, 9, 12, 21⟩ [] (by rw [htab]; rfl) (fun z h => by simp at h) (by decide) (by decide) (hts (.classLink RL 21 "java/lang/IndexOutOfBoundsException") (by decide +kernel)) (va_Nw.use rfl (hE.2.2.2.2.2.2.2.1 ("java/lang/IndexOutOfBoundsException", "java/lang/IndexOutOfBoundsException") (by decide +kernel))) h91 h92 h93 ?_
    refine W.eq (g2 := F0 m 12 ls [.ref q9]) rfl ?_
    refine lv_astore_n (lv' := [(3, .ref q9), (0, .ref hh), (1, .int x1), (2, .ref ou)]) hx hb dL_faultsWithout_12 rfl hl (by decide) rfl (fun ls hl => ?_)
    refine lv_iconst (v := 1) hx hb dL_faultsWithout_13 (by decide) ?_
    have hP9 := hP.sub (ws' := [(ou, .inl (kL, 1, .inr (.inl fo)))]) [0] rfl
    have hD9 := hD.sub (ws' := [(ou, .inl (kL, 1, .inr (.inl fo)))]) [0] (by decide) rfl
    have hK9 := hK.sub (tys' := [(kL, .long)]) [0] rfl
    refine W.widen (k := 1) (n := 6) (Nat.le_of_ble_eq_true rfl) (Nat.le_of_ble_eq_true rfl) ?_
    refine vx_ret ?_
    exact W.iret (v := 1) hx hb hr (fun t ht hW => ⟨⟨1, (), rfl, rfl, ⟨by rw [ht]; exact hP9, va_K.moved hW.alike hK9, hD9⟩⟩, hS.F ht⟩) hS.2.2 dL_faultsWithout_14
  exact absurd hw_2 id

def wb_c_L_ofFault : List Cond := [.code yX11_ofFault cX11_ofFault 4 (some .int), .code yX11_freshen cX11_freshen 2 none, .fieldLink RX11 54 "Hornbook" "judged" "I", .fieldLink RX11 12 "Hornbook" "expressions" "Ljava/util/ArrayList;", .code yJx4a65c_size_8abf5 cJx4a65c_size_8abf5 1 (some .int), .fieldLink RJx4a65c 48 "java/util/ArrayList" "size" "I", .methodLink RX11 73 yJx4a65c_size_8abf5, .instanceMethod yJx4a65c_size_8abf5, .selects RJx4a65c yJx4a65c_size_8abf5 yJx4a65c_size_8abf5, .initialized RJx4a65c, .methodLink RX11 254 yX11_freshen, .instanceMethod yX11_freshen, .selects RX11 yX11_freshen yX11_freshen, .initialized RX11, .code yX11_faultAt cX11_faultAt 5 (some (.object "Hornbook$Expression")), .methodLink RX11 273 yX11_faultAt, .instanceMethod yX11_faultAt, .selects RX11 yX11_faultAt yX11_faultAt, .classLink RX11 277 "java/lang/IndexOutOfBoundsException", .initialized "java/lang/IndexOutOfBoundsException", .methodLink RL 81 yX11_ofFault, .instanceMethod yX11_ofFault, .selects RX11 yX11_ofFault yX11_ofFault, .classLink RL 21 "java/lang/IndexOutOfBoundsException"] ++ u_ws RJx4a65c TJx4a65c 3 ++ u_ws RX11 TX11 10
def w_c_L_ofFault : List Cond := .codeWith yL_ofFault cL_ofFault 5 (some .int) [(0, 10, 13, 21), (0, 10, 17, 13)] :: (wb_c_L_ofFault ++ zAt)
set_option maxRecDepth 100000 in
theorem g_c_L_ofFault_0 : GoodIn w_c_L_ofFault (wsV RL 81 RX11 yX11_ofFault w_c_H_ofFault) := goodIn_app (goodIn_of _ (by decide +kernel)) (goodIn_ca (goodIn_p (big := w_c_L_ofFault) (.code yX11_ofFault cX11_ofFault 4 (some .int) :: wb_c_H_ofFault) [1, 2, 5, 15] rfl (by decide +kernel)) (goodIn_sub (fun _ h => List.mem_cons_of_mem _ (List.mem_append_right _ h)) zAt_good))
set_option maxHeartbeats 4000000 in
set_option maxRecDepth 100000 in
theorem c_L_ofFault (l : Launch) (hfl : l.flags = flags0) (eD eI : Nat) (ad : Nat → Nat) (dC : Nat → ClassId) (dI : Nat → Nat → Nat) (sz : Nat) (hh : Nat) (aexpr : Nat) (achoo : Nat) (ameth : Nat) (aroom : Nat) (anod : Nat) (asort : Nat) (anote : Nat) (amet : Nat) (ou : Nat) (kL : ClassId) (x1 : Int32) (x2 : Int32) (fo : Nat → Int64) : vx_Met l yL_ofFault w_c_L_ofFault ({ frames := 7, cells := 1, slots := 6, locals := 105 }) (va_Pc [.ref hh, .int x1, .int x2, .ref ou] (zPreD eD eI ad (dC, dI) [(hh, .inr (13, [.ref aexpr, .ref achoo, .ref ameth, .ref aroom, .ref anod, .ref asort, .ref anote, .ref amet, .int 0, .int 1])), (aexpr, .inr (1, [.int 0, .ref eD, .int 0])), (ou, .inl (kL, 1, .inr (.inl fo)))] [(kL, .long)] sz)) (va_Qi (fun (r : Int32) (_ : Unit) => r = 1) (fun (_ : Unit) => zEnd (dC, dI) (va_A [(hh, .inr (13, [.ref aexpr, .ref achoo, .ref ameth, .ref aroom, .ref anod, .ref asort, .ref anote, .ref amet, .int 0, .int 1])), (aexpr, .inr (1, [.int 0, .ref eD, .int 0])), (ou, .inl (kL, 1, .inr (.inl fo)))] sz) [(ou, .inl (kL, 1, .inr (.inl fo)))] [(kL, .long)]) (va_A [(hh, .inr (13, [.ref aexpr, .ref achoo, .ref ameth, .ref aroom, .ref anod, .ref asort, .ref anote, .ref amet, .int 0, .int 1])), (aexpr, .inr (1, [.int 0, .ref eD, .int 0])), (ou, .inl (kL, 1, .inr (.inl fo)))] sz)) (zX (fun _ => False) (va_A [(hh, .inr (13, [.ref aexpr, .ref achoo, .ref ameth, .ref aroom, .ref anod, .ref asort, .ref anote, .ref amet, .int 0, .int 1])), (aexpr, .inr (1, [.int 0, .ref eD, .int 0])), (ou, .inl (kL, 1, .inr (.inl fo)))] sz)) 1 6 (va_A [(hh, .inr (13, [.ref aexpr, .ref achoo, .ref ameth, .ref aroom, .ref anod, .ref asort, .ref anote, .ref amet, .int 0, .int 1])), (aexpr, .inr (1, [.int 0, .ref eD, .int 0])), (ou, .inl (kL, 1, .inr (.inl fo)))] sz) := by
  refine vx_ofWH (cc := cL_ofFault) (maxL := 5) (ret := (some .int)) (hh := [(0, 10, 13, 21), (0, 10, 17, 13)]) (by decide +kernel) rfl ?_
  intro p e s m args below meth c s₁ B hml hv
  obtain ⟨rfl, ⟨hsz, hP, hK, hD0, hE⟩, hDc⟩ := hv
  have hx := B.exec
  have hb := B.bytes
  have hr := B.returns
  have hts := atoms_spec (ws := w_c_L_ofFault) B.pre
  have hown : s.vm.findClass RL = some m.cls := findClass_of_methodNamed B.named
  have hlocks := B.notSynchronized
  have htab := vx_table (x := yL_ofFault) B (hts (.codeWith yL_ofFault cL_ofFault 5 (some .int) [(0, 10, 13, 21), (0, 10, 17, 13)]) List.mem_cons_self)
  subst hsz
  have hD := hD0.self (sz := s.heap.size)
  generalize hAe : va_A [(hh, .inr (13, [.ref aexpr, .ref achoo, .ref ameth, .ref aroom, .ref anod, .ref asort, .ref anote, .ref amet, .int 0, .int 1])), (aexpr, .inr (1, [.int 0, .ref eD, .int 0])), (ou, .inl (kL, 1, .inr (.inl fo)))] s.heap.size = A at hD hE ⊢
  have hA : ∀ q : Nat, s.heap.size ≤ q → A q := fun q h => by rw [← hAe]; exact Or.inr h
  have hS : va_S A s.heap s.heap [] := va_S.rf
  have hP : va_P (dC, dI) vwCl [(hh, .inr (13, [.ref aexpr, .ref achoo, .ref ameth, .ref aroom, .ref anod, .ref asort, .ref anote, .ref amet, .int 0, .int 1])), (aexpr, .inr (1, [.int 0, .ref eD, .int 0])), (ou, .inl (kL, 1, .inr (.inl fo)))] s.heap := hP
  have hl := lv_entry ([.ref hh, .int x1, .int x2, .ref ou]) (n := 5) (Nat.le_of_ble_eq_true rfl)
  rw [lg_entry_eq]
  generalize (lg_sl ([.ref hh, .int x1, .int x2, .ref ou]) ++ List.replicate (5 - (lg_sl ([.ref hh, .int x1, .int x2, .ref ou])).length) Slot.unset).toArray = ls at hl ⊢
  have hl : lv_has ls 5 [(0, .ref hh), (1, .int x1), (2, .int x2), (3, .ref ou)] := hl
  have in_RJx4a65c : ∀ w ∈ u_ws RJx4a65c TJx4a65c 3, w ∈ w_c_L_ofFault := by decide +kernel
  have in_RX11 : ∀ w ∈ u_ws RX11 TX11 10, w ∈ w_c_L_ofFault := by decide +kernel
  refine lv_aload_n hx hb dL_ofFault_0 rfl (lv_at hl 3 rfl) ?_
  refine lv_iconst (v := 0) hx hb dL_ofFault_1 (by decide) ?_
  refine lv_aload_n hx hb dL_ofFault_2 rfl (lv_at hl 0 rfl) ?_
  refine lv_iload_n hx hb dL_ofFault_3 rfl (lv_at hl 1 rfl) ?_
  refine lv_iload_n hx hb dL_ofFault_4 rfl (lv_at hl 2 rfl) ?_
  refine zx_i (wr := [(ou, .inl (kL, 1, .inr (.inl fo)))]) (vx_runV (As := [.int x1, .int x2]) (rest := [.int 0, .ref ou]) ⟨hx, hb, hml, hown, hts⟩ (c_H_ofFault l hfl eD eI ad dC dI s.heap.size hh aexpr achoo ameth aroom anod asort anote amet x1 x2) (cwV 2 hts g_c_L_ofFault_0 rfl rfl rfl (by decide +kernel) ⟨Nat.le_of_ble_eq_true rfl, Nat.le_of_ble_eq_true rfl⟩) (z_preVD (wc := [(hh, .inr (13, [.ref aexpr, .ref achoo, .ref ameth, .ref aroom, .ref anod, .ref asort, .ref anote, .ref amet, .int 0, .int 1])), (aexpr, .inr (1, [.int 0, .ref eD, .int 0]))]) hP hD hK hS hA hE [0, 1] [] rfl (by decide) rfl (ci := 13) (q0 := 0) rfl rfl hDc) rfl rfl hl.1 rfl (lv_room (Nat.le_of_ble_eq_true rfl)) dL_ofFault_5 ⟨Nat.le_of_ble_eq_true rfl, Nat.le_of_ble_eq_true rfl⟩) hP hD hK hS hA [0, 1] [2] rfl rfl (by decide) (by decide) (fun E ce q9 H locs hbad hP hD hS h91 h92 h93 => ?_) (fun r_1 u H locs hw_2 hP hD hK hS => ?_)
  · have hbad : E = "java/lang/IndexOutOfBoundsException" := hbad
    subst hbad
    refine vx_catch (name := "java/lang/IndexOutOfBoundsException") hown [] ⟨0, 10, 13, 21⟩ [⟨0, 10, 17, 13⟩] (by rw [htab]; rfl) (fun z h => by simp at h) (by decide) (by decide) (hts (.classLink RL 21 "java/lang/IndexOutOfBoundsException") (by decide +kernel)) (va_Nw.use rfl (hE.2.2.2.2.2.2.2.1 ("java/lang/IndexOutOfBoundsException", "java/lang/IndexOutOfBoundsException") (by decide +kernel))) h91 h92 h93 ?_
    refine W.eq (g2 := F0 m 13 ls [.ref q9]) rfl ?_
    refine lv_astore (lv' := [(4, .ref q9), (0, .ref hh), (1, .int x1), (2, .int x2), (3, .ref ou)]) hx hb dL_ofFault_13 hl (by decide) rfl (fun ls hl => ?_)
    refine lv_iconst (v := 1) hx hb dL_ofFault_15 (by decide) ?_
    have hP9 := hP.sub (ws' := [(ou, .inl (kL, 1, .inr (.inl fo)))]) [0] rfl
    have hD9 := hD.sub (ws' := [(ou, .inl (kL, 1, .inr (.inl fo)))]) [0] (by decide) rfl
    have hK9 := hK.sub (tys' := [(kL, .long)]) [0] rfl
    refine W.widen (k := 1) (n := 6) (Nat.le_of_ble_eq_true rfl) (Nat.le_of_ble_eq_true rfl) ?_
    refine vx_ret ?_
    exact W.iret (v := 1) hx hb hr (fun t ht hW => ⟨⟨1, (), rfl, rfl, ⟨by rw [ht]; exact hP9, va_K.moved hW.alike hK9, hD9⟩⟩, hS.F ht⟩) hS.2.2 dL_ofFault_16
  exact absurd hw_2 id

def wb_c_L_ofFlaw : List Cond := [.code yX11_ofFlaw cX11_ofFlaw 3 (some .int), .code yX11_noteFlaws cX11_noteFlaws 2 none, .fieldLink RX11 58 "Hornbook" "isNoted" "Z", .methodLink RX11 291 yX11_noteFlaws, .instanceMethod yX11_noteFlaws, .selects RX11 yX11_noteFlaws yX11_noteFlaws, .initialized RX11, .classLink RX11 277 "java/lang/IndexOutOfBoundsException", .initialized "java/lang/IndexOutOfBoundsException", .fieldLink RX11 46 "Hornbook" "noted" "LHornbook$Flaws;", .fieldLink RX11 294 "Hornbook$Flaws" "count" "I", .methodLink RL 88 yX11_ofFlaw, .instanceMethod yX11_ofFlaw, .selects RX11 yX11_ofFlaw yX11_ofFlaw, .classLink RL 21 "java/lang/IndexOutOfBoundsException"] ++ u_ws RX11 TX11 10 ++ u_ws RX3 TX3 4
def w_c_L_ofFlaw : List Cond := .codeWith yL_ofFlaw cL_ofFlaw 5 (some .int) [(0, 10, 13, 21), (0, 10, 17, 13)] :: (wb_c_L_ofFlaw ++ zAt)
set_option maxRecDepth 100000 in
theorem g_c_L_ofFlaw_0 : GoodIn w_c_L_ofFlaw (wsV RL 88 RX11 yX11_ofFlaw w_c_H_ofFlaw) := goodIn_app (goodIn_of _ (by decide +kernel)) (goodIn_ca (goodIn_p (big := w_c_L_ofFlaw) (.code yX11_ofFlaw cX11_ofFlaw 3 (some .int) :: wb_c_H_ofFlaw) [1, 2] rfl (by decide +kernel)) (goodIn_sub (fun _ h => List.mem_cons_of_mem _ (List.mem_append_right _ h)) zAt_good))
set_option maxHeartbeats 4000000 in
set_option maxRecDepth 100000 in
theorem c_L_ofFlaw (l : Launch) (hfl : l.flags = flags0) (eD eI : Nat) (ad : Nat → Nat) (dC : Nat → ClassId) (dI : Nat → Nat → Nat) (sz : Nat) (hh : Nat) (aexpr : Nat) (achoo : Nat) (ameth : Nat) (aroom : Nat) (anod : Nat) (asort : Nat) (anote : Nat) (amet : Nat) (af1 : Nat) (af2 : Nat) (af3 : Nat) (ou : Nat) (kL : ClassId) (x1 : Int32) (x2 : Int32) (fo : Nat → Int64) : vx_Met l yL_ofFlaw w_c_L_ofFlaw ({ frames := 7, cells := 1, slots := 6, locals := 104 }) (va_Pc [.ref hh, .int x1, .int x2, .ref ou] (zPreD eD eI ad (dC, dI) [(hh, .inr (13, [.ref aexpr, .ref achoo, .ref ameth, .ref aroom, .ref anod, .ref asort, .ref anote, .ref amet, .int 0, .int 1])), (anote, .inr (5, [.ref af1, .ref af2, .ref af3, .int 0])), (ou, .inl (kL, 1, .inr (.inl fo)))] [(kL, .long)] sz)) (va_Qi (fun (r : Int32) (_ : Unit) => r = 1) (fun (_ : Unit) => zEnd (dC, dI) (va_A [(hh, .inr (13, [.ref aexpr, .ref achoo, .ref ameth, .ref aroom, .ref anod, .ref asort, .ref anote, .ref amet, .int 0, .int 1])), (anote, .inr (5, [.ref af1, .ref af2, .ref af3, .int 0])), (ou, .inl (kL, 1, .inr (.inl fo)))] sz) [(ou, .inl (kL, 1, .inr (.inl fo)))] [(kL, .long)]) (va_A [(hh, .inr (13, [.ref aexpr, .ref achoo, .ref ameth, .ref aroom, .ref anod, .ref asort, .ref anote, .ref amet, .int 0, .int 1])), (anote, .inr (5, [.ref af1, .ref af2, .ref af3, .int 0])), (ou, .inl (kL, 1, .inr (.inl fo)))] sz)) (zX (fun _ => False) (va_A [(hh, .inr (13, [.ref aexpr, .ref achoo, .ref ameth, .ref aroom, .ref anod, .ref asort, .ref anote, .ref amet, .int 0, .int 1])), (anote, .inr (5, [.ref af1, .ref af2, .ref af3, .int 0])), (ou, .inl (kL, 1, .inr (.inl fo)))] sz)) 1 6 (va_A [(hh, .inr (13, [.ref aexpr, .ref achoo, .ref ameth, .ref aroom, .ref anod, .ref asort, .ref anote, .ref amet, .int 0, .int 1])), (anote, .inr (5, [.ref af1, .ref af2, .ref af3, .int 0])), (ou, .inl (kL, 1, .inr (.inl fo)))] sz) := by
  refine vx_ofWH (cc := cL_ofFlaw) (maxL := 5) (ret := (some .int)) (hh := [(0, 10, 13, 21), (0, 10, 17, 13)]) (by decide +kernel) rfl ?_
  intro p e s m args below meth c s₁ B hml hv
  obtain ⟨rfl, ⟨hsz, hP, hK, hD0, hE⟩, hDc⟩ := hv
  have hx := B.exec
  have hb := B.bytes
  have hr := B.returns
  have hts := atoms_spec (ws := w_c_L_ofFlaw) B.pre
  have hown : s.vm.findClass RL = some m.cls := findClass_of_methodNamed B.named
  have hlocks := B.notSynchronized
  have htab := vx_table (x := yL_ofFlaw) B (hts (.codeWith yL_ofFlaw cL_ofFlaw 5 (some .int) [(0, 10, 13, 21), (0, 10, 17, 13)]) List.mem_cons_self)
  subst hsz
  have hD := hD0.self (sz := s.heap.size)
  generalize hAe : va_A [(hh, .inr (13, [.ref aexpr, .ref achoo, .ref ameth, .ref aroom, .ref anod, .ref asort, .ref anote, .ref amet, .int 0, .int 1])), (anote, .inr (5, [.ref af1, .ref af2, .ref af3, .int 0])), (ou, .inl (kL, 1, .inr (.inl fo)))] s.heap.size = A at hD hE ⊢
  have hA : ∀ q : Nat, s.heap.size ≤ q → A q := fun q h => by rw [← hAe]; exact Or.inr h
  have hS : va_S A s.heap s.heap [] := va_S.rf
  have hP : va_P (dC, dI) vwCl [(hh, .inr (13, [.ref aexpr, .ref achoo, .ref ameth, .ref aroom, .ref anod, .ref asort, .ref anote, .ref amet, .int 0, .int 1])), (anote, .inr (5, [.ref af1, .ref af2, .ref af3, .int 0])), (ou, .inl (kL, 1, .inr (.inl fo)))] s.heap := hP
  have hl := lv_entry ([.ref hh, .int x1, .int x2, .ref ou]) (n := 5) (Nat.le_of_ble_eq_true rfl)
  rw [lg_entry_eq]
  generalize (lg_sl ([.ref hh, .int x1, .int x2, .ref ou]) ++ List.replicate (5 - (lg_sl ([.ref hh, .int x1, .int x2, .ref ou])).length) Slot.unset).toArray = ls at hl ⊢
  have hl : lv_has ls 5 [(0, .ref hh), (1, .int x1), (2, .int x2), (3, .ref ou)] := hl
  have in_RX11 : ∀ w ∈ u_ws RX11 TX11 10, w ∈ w_c_L_ofFlaw := by decide +kernel
  have in_RX3 : ∀ w ∈ u_ws RX3 TX3 4, w ∈ w_c_L_ofFlaw := by decide +kernel
  refine lv_aload_n hx hb dL_ofFlaw_0 rfl (lv_at hl 3 rfl) ?_
  refine lv_iconst (v := 0) hx hb dL_ofFlaw_1 (by decide) ?_
  refine lv_aload_n hx hb dL_ofFlaw_2 rfl (lv_at hl 0 rfl) ?_
  refine lv_iload_n hx hb dL_ofFlaw_3 rfl (lv_at hl 1 rfl) ?_
  refine lv_iload_n hx hb dL_ofFlaw_4 rfl (lv_at hl 2 rfl) ?_
  refine zx_i (wr := [(ou, .inl (kL, 1, .inr (.inl fo)))]) (vx_runV (As := [.int x1, .int x2]) (rest := [.int 0, .ref ou]) ⟨hx, hb, hml, hown, hts⟩ (c_H_ofFlaw l hfl eD eI ad dC dI s.heap.size hh aexpr achoo ameth aroom anod asort anote amet af1 af2 af3 x1 x2) (cwV 2 hts g_c_L_ofFlaw_0 rfl rfl rfl (by decide +kernel) ⟨Nat.le_of_ble_eq_true rfl, Nat.le_of_ble_eq_true rfl⟩) (z_preVD (wc := [(hh, .inr (13, [.ref aexpr, .ref achoo, .ref ameth, .ref aroom, .ref anod, .ref asort, .ref anote, .ref amet, .int 0, .int 1])), (anote, .inr (5, [.ref af1, .ref af2, .ref af3, .int 0]))]) hP hD hK hS hA hE [0, 1] [] rfl (by decide) rfl (ci := 13) (q0 := 0) rfl rfl hDc) rfl rfl hl.1 rfl (lv_room (Nat.le_of_ble_eq_true rfl)) dL_ofFlaw_5 ⟨Nat.le_of_ble_eq_true rfl, Nat.le_of_ble_eq_true rfl⟩) hP hD hK hS hA [0, 1] [2] rfl rfl (by decide) (by decide) (fun E ce q9 H locs hbad hP hD hS h91 h92 h93 => ?_) (fun r_1 u H locs hw_2 hP hD hK hS => ?_)
  · have hbad : E = "java/lang/IndexOutOfBoundsException" := hbad
    subst hbad
    refine vx_catch (name := "java/lang/IndexOutOfBoundsException") hown [] ⟨0, 10, 13, 21⟩ [⟨0, 10, 17, 13⟩] (by rw [htab]; rfl) (fun z h => by simp at h) (by decide) (by decide) (hts (.classLink RL 21 "java/lang/IndexOutOfBoundsException") (by decide +kernel)) (va_Nw.use rfl (hE.2.2.2.2.2.2.2.1 ("java/lang/IndexOutOfBoundsException", "java/lang/IndexOutOfBoundsException") (by decide +kernel))) h91 h92 h93 ?_
    refine W.eq (g2 := F0 m 13 ls [.ref q9]) rfl ?_
    refine lv_astore (lv' := [(4, .ref q9), (0, .ref hh), (1, .int x1), (2, .int x2), (3, .ref ou)]) hx hb dL_ofFlaw_13 hl (by decide) rfl (fun ls hl => ?_)
    refine lv_iconst (v := 1) hx hb dL_ofFlaw_15 (by decide) ?_
    have hP9 := hP.sub (ws' := [(ou, .inl (kL, 1, .inr (.inl fo)))]) [0] rfl
    have hD9 := hD.sub (ws' := [(ou, .inl (kL, 1, .inr (.inl fo)))]) [0] (by decide) rfl
    have hK9 := hK.sub (tys' := [(kL, .long)]) [0] rfl
    refine W.widen (k := 1) (n := 6) (Nat.le_of_ble_eq_true rfl) (Nat.le_of_ble_eq_true rfl) ?_
    refine vx_ret ?_
    exact W.iret (v := 1) hx hb hr (fun t ht hW => ⟨⟨1, (), rfl, rfl, ⟨by rw [ht]; exact hP9, va_K.moved hW.alike hK9, hD9⟩⟩, hS.F ht⟩) hS.2.2 dL_ofFlaw_16
  exact absurd hw_2 id

def wb_c_L_sort : List Cond := [.code yX11_sort cX11_sort 6 (some .int), .classLink RX11 66 "java/lang/IllegalArgumentException", .initialized "java/lang/IllegalArgumentException", .methodLink RL 7 yX11_sort, .instanceMethod yX11_sort, .selects RX11 yX11_sort yX11_sort, .initialized RX11, .classLink RL 13 "java/lang/IllegalArgumentException", .fieldLink RX11 42 "Hornbook" "sorts" "Ljava/util/ArrayList;", .code yJx4a65c_size_8abf5 cJx4a65c_size_8abf5 1 (some .int), .fieldLink RJx4a65c 48 "java/util/ArrayList" "size" "I", .methodLink RX11 73 yJx4a65c_size_8abf5, .instanceMethod yJx4a65c_size_8abf5, .selects RJx4a65c yJx4a65c_size_8abf5 yJx4a65c_size_8abf5, .initialized RJx4a65c, .classLink RX11 82 RX9, .instantiable RX9 9, .initialized RX9, .code yX9_init cX9_init 1 none, .methodLink RX9 3 objectInit, .instanceMethod objectInit, .code objectInit ⟨#[0xb1]⟩ 1 none, .fieldLink RX9 9 "Hornbook$Sort" "first" "I", .fieldLink RX9 15 "Hornbook$Sort" "second" "I", .arrayClass .int, .fieldLink RX9 18 "Hornbook$Sort" "way" "[I", .instanceMethod yX9_init, .fieldLink RX11 85 "Hornbook$Sort" "number" "I", .fieldLink RX11 88 "Hornbook$Sort" "many" "I", .fieldLink RX11 91 "Hornbook$Sort" "howOne" "I", .fieldLink RX11 94 "Hornbook$Sort" "howOther" "I", .code yX9_startWay cX9_startWay 1 none, .fieldLink RX9 31 "Hornbook$Sort" "length" "I", .fieldLink RX9 28 "Hornbook$Sort" "above" "I", .fieldLink RX9 34 "Hornbook$Sort" "number" "I", .code yX9_pass cX9_pass 2 none, .code yX9_goesTo cX9_goesTo 2 (some .boolean), .methodLink RX9 45 yX9_goesTo, .instanceMethod yX9_goesTo, .selects RX9 yX9_goesTo yX9_goesTo, .methodLink RX9 37 yX9_pass, .instanceMethod yX9_pass, .selects RX9 yX9_pass yX9_pass, .methodLink RX11 97 yX9_startWay, .instanceMethod yX9_startWay, .selects RX9 yX9_startWay yX9_startWay, .fieldLink RX11 38 "Hornbook" "nodes" "LHornbook$Nodes;", .fieldLink RX11 100 "Hornbook$Nodes" "many" "[I", .code yX5_lift cX5_lift 6 none, .fieldLink RX5 9 "Hornbook$Nodes" "many" "[I", .fieldLink RX5 15 "Hornbook$Nodes" "alone" "[I", .code yX5_liftOf cX5_liftOf 6 (some .int), .code yX5_formOf cX5_formOf 2 (some .int), .methodLink RX5 100 yX5_formOf, .instanceMethod yX5_formOf, .selects RX5 yX5_formOf yX5_formOf, .initialized RX5, .methodLink RX5 96 yX5_liftOf, .instanceMethod yX5_liftOf, .selects RX5 yX5_liftOf yX5_liftOf, .methodLink RX5 78 Lib.Math.max.name, .static Lib.Math.max.name, .initialized "java/lang/Math", .code Lib.Math.max.name Lib.Math.max.code 2 (some .int), .methodLink RX11 104 yX5_lift, .instanceMethod yX5_lift, .selects RX5 yX5_lift yX5_lift, .code yJx4a65c_add_9ea2d cJx4a65c_add_9ea2d 2 (some .boolean), .sameField "java/util/ArrayList" "java/util/AbstractList" "modCount" "I", .fieldLink RJx4a65c 63 "java/util/ArrayList" "modCount" "I", .fieldLink RJx4a65c 9 "java/util/ArrayList" "elementData" "[Ljava/lang/Object;", .code yJx4a65c_add_72be8 cJx4a65c_add_72be8 4 none, .code yJx4a65c_grow_d5877 cJx4a65c_grow_d5877 1 (some (.array (.object "java/lang/Object"))), .code yJx4a65c_grow_92f84 cJx4a65c_grow_92f84 4 (some (.array (.object "java/lang/Object"))), .fieldLink RJx4a65c 39 "java/util/ArrayList" "DEFAULTCAPACITY_EMPTY_ELEMENTDATA" "[Ljava/lang/Object;", .methodLink RJx4a65c 79 Lib.Math.max.name, .classLink RJx4a65c 7 "java/lang/Object", .methodLink RJx4a65c 69 yJx4a65c_grow_92f84, .instanceMethod yJx4a65c_grow_92f84, .selects RJx4a65c yJx4a65c_grow_92f84 yJx4a65c_grow_92f84, .methodLink RJx4a65c 129 yJx4a65c_grow_d5877, .instanceMethod yJx4a65c_grow_d5877, .selects RJx4a65c yJx4a65c_grow_d5877 yJx4a65c_grow_d5877, .methodLink RJx4a65c 131 yJx4a65c_add_72be8, .instanceMethod yJx4a65c_add_72be8, .selects RJx4a65c yJx4a65c_add_72be8 yJx4a65c_add_72be8, .methodLink RX11 108 yJx4a65c_add_9ea2d, .instanceMethod yJx4a65c_add_9ea2d, .selects RJx4a65c yJx4a65c_add_9ea2d yJx4a65c_add_9ea2d, .fieldLink RX11 58 "Hornbook" "isNoted" "Z", .code yX11_isHow cX11_isHow 1 (some .boolean), .methodLink RX11 62 yX11_isHow, .static yX11_isHow, .constant RX5 104 (-1048576), .fieldLink RX5 18 "Hornbook$Nodes" "overOne" "[I", .fieldLink RX5 21 "Hornbook$Nodes" "overOther" "[I"] ++ u_ws RJx4a65c TJx4a65c 3 ++ u_ws RX11 TX11 10 ++ u_ws RX5 TX5 14 ++ u_ws RX9 TX9 9
def w_c_L_sort : List Cond := .codeWith yL_sort cL_sort 6 (some .int) [(0, 12, 15, 13), (0, 12, 19, 15)] :: (wb_c_L_sort ++ zAt)
set_option maxRecDepth 100000 in
theorem g_c_L_sort_0 : GoodIn w_c_L_sort (wsV RL 7 RX11 yX11_sort w_c_H_sort_l) := goodIn_app (goodIn_of _ (by decide +kernel)) (goodIn_ca (goodIn_p (big := w_c_L_sort) (.code yX11_sort cX11_sort 6 (some .int) :: wb_c_H_sort_l) [1] rfl (by decide +kernel)) (goodIn_sub (fun _ h => List.mem_cons_of_mem _ (List.mem_append_right _ h)) zAt_good))
set_option maxRecDepth 100000 in
theorem g_c_L_sort_1 : GoodIn w_c_L_sort (wsV RL 7 RX11 yX11_sort w_c_H_sort_h) := goodIn_app (goodIn_of _ (by decide +kernel)) (goodIn_ca (goodIn_p (big := w_c_L_sort) (.code yX11_sort cX11_sort 6 (some .int) :: wb_c_H_sort_h) [1] rfl (by decide +kernel)) (goodIn_sub (fun _ h => List.mem_cons_of_mem _ (List.mem_append_right _ h)) zAt_good))
set_option maxRecDepth 100000 in
theorem g_c_L_sort_2 : GoodIn w_c_L_sort (wsV RL 7 RX11 yX11_sort w_c_H_sort_0) := goodIn_app (goodIn_of _ (by decide +kernel)) (goodIn_p (big := w_c_L_sort) (.code yX11_sort cX11_sort 6 (some .int) :: wb_c_H_sort_0) [1, 10, 19, 22, 32, 36, 37, 49, 52, 53, 64, 68, 72, 73, 74] rfl (by decide +kernel))
set_option maxRecDepth 100000 in
theorem g_c_L_sort_3 : GoodIn w_c_L_sort (wsV RL 7 RX11 yX11_sort w_c_H_sort_1l) := goodIn_app (goodIn_of _ (by decide +kernel)) (goodIn_ca (goodIn_p (big := w_c_L_sort) (.code yX11_sort cX11_sort 6 (some .int) :: wb_c_H_sort_1l) [1, 91] rfl (by decide +kernel)) (goodIn_sub (fun _ h => List.mem_cons_of_mem _ (List.mem_append_right _ h)) zAt_good))
set_option maxRecDepth 100000 in
theorem g_c_L_sort_4 : GoodIn w_c_L_sort (wsV RL 7 RX11 yX11_sort w_c_H_sort_1h) := goodIn_app (goodIn_of _ (by decide +kernel)) (goodIn_ca (goodIn_p (big := w_c_L_sort) (.code yX11_sort cX11_sort 6 (some .int) :: wb_c_H_sort_1h) [1, 91] rfl (by decide +kernel)) (goodIn_sub (fun _ h => List.mem_cons_of_mem _ (List.mem_append_right _ h)) zAt_good))
set_option maxRecDepth 100000 in
theorem g_c_L_sort_5 : GoodIn w_c_L_sort (wsV RL 7 RX11 yX11_sort w_c_H_sort_1) := goodIn_app (goodIn_of _ (by decide +kernel)) (goodIn_p (big := w_c_L_sort) (.code yX11_sort cX11_sort 6 (some .int) :: wb_c_H_sort_1) [1, 91, 10, 19, 22, 32, 36, 37, 49, 52, 53, 64, 68, 72, 73, 74] rfl (by decide +kernel))
set_option maxRecDepth 100000 in
theorem g_c_L_sort_6 : GoodIn w_c_L_sort (wsV RL 7 RX11 yX11_sort w_c_H_sort_2l) := goodIn_app (goodIn_of _ (by decide +kernel)) (goodIn_ca (goodIn_p (big := w_c_L_sort) (.code yX11_sort cX11_sort 6 (some .int) :: wb_c_H_sort_2l) [1, 91] rfl (by decide +kernel)) (goodIn_sub (fun _ h => List.mem_cons_of_mem _ (List.mem_append_right _ h)) zAt_good))
set_option maxRecDepth 100000 in
theorem g_c_L_sort_7 : GoodIn w_c_L_sort (wsV RL 7 RX11 yX11_sort w_c_H_sort_2h) := goodIn_app (goodIn_of _ (by decide +kernel)) (goodIn_ca (goodIn_p (big := w_c_L_sort) (.code yX11_sort cX11_sort 6 (some .int) :: wb_c_H_sort_2h) [1, 91] rfl (by decide +kernel)) (goodIn_sub (fun _ h => List.mem_cons_of_mem _ (List.mem_append_right _ h)) zAt_good))
set_option maxRecDepth 100000 in
theorem g_c_L_sort_8 : GoodIn w_c_L_sort (wsV RL 7 RX11 yX11_sort w_c_H_sort_2l3) := goodIn_app (goodIn_of _ (by decide +kernel)) (goodIn_ca (goodIn_p (big := w_c_L_sort) (.code yX11_sort cX11_sort 6 (some .int) :: wb_c_H_sort_2l3) [1, 91] rfl (by decide +kernel)) (goodIn_sub (fun _ h => List.mem_cons_of_mem _ (List.mem_append_right _ h)) zAt_good))
set_option maxRecDepth 100000 in
theorem g_c_L_sort_9 : GoodIn w_c_L_sort (wsV RL 7 RX11 yX11_sort w_c_H_sort_2h3) := goodIn_app (goodIn_of _ (by decide +kernel)) (goodIn_ca (goodIn_p (big := w_c_L_sort) (.code yX11_sort cX11_sort 6 (some .int) :: wb_c_H_sort_2h3) [1, 91] rfl (by decide +kernel)) (goodIn_sub (fun _ h => List.mem_cons_of_mem _ (List.mem_append_right _ h)) zAt_good))
set_option maxRecDepth 100000 in
theorem g_c_L_sort_10 : GoodIn w_c_L_sort (wsV RL 7 RX11 yX11_sort w_c_H_sort_2) := goodIn_app (goodIn_of _ (by decide +kernel)) (goodIn_p (big := w_c_L_sort) (.code yX11_sort cX11_sort 6 (some .int) :: wb_c_H_sort_2) [1, 91, 10, 19, 22, 32, 36, 37, 49, 52, 53, 64, 68, 72, 73, 74] rfl (by decide +kernel))
set_option maxHeartbeats 4000000 in
set_option maxRecDepth 100000 in
theorem c_L_sort (l : Launch) (hfl : l.flags = flags0) (eD eI : Nat) (ad : Nat → Nat) (dC : Nat → ClassId) (dI : Nat → Nat → Nat) (sz : Nat) (hh : Nat) (aexpr : Nat) (achoo : Nat) (ameth : Nat) (aroom : Nat) (anod : Nat) (asort : Nat) (anote : Nat) (amet : Nat) (nm : Nat) (nl : Nat) (n1 : Nat) (n2 : Nat) (nf : Nat) (ns : Nat) (nh : Nat) (nk : Nat) (np : Nat) (ou : Nat) (kI : ClassId) (kL : ClassId) (x1 : Int32) (x2 : Int32) (x3 : Int32) (fo : Nat → Int64) : vx_Met l yL_sort w_c_L_sort ({ frames := 7, cells := 3, slots := 31, locals := 126 }) (va_Pc [.ref hh, .int x1, .int x2, .int x3, .ref ou] (zPreD eD eI ad (dC, dI) [(hh, .inr (13, [.ref aexpr, .ref achoo, .ref ameth, .ref aroom, .ref anod, .ref asort, .ref anote, .ref amet, .int 0, .int 1])), (asort, .inr (1, [.int 0, .ref eD, .int 0])), (anod, .inr (7, [.ref nm, .ref nl, .ref n1, .ref n2, .ref nf, .ref ns, .ref nh, .ref nk, .ref np, .int 16, .int 0, .int 16, .int 0, .int 0])), (ns, .inl (kL, 1024, .inr (.inl zSec))), (nm, .inl (kI, 12, .inl (fun _ => 0))), (nl, .inl (kI, 12, .inl (fun _ => 0))), (n1, .inl (kI, 12, .inl (fun _ => 0))), (n2, .inl (kI, 12, .inl (fun _ => 0))), (ou, .inl (kL, 1, .inr (.inl fo)))] [(kL, .long), (kI, .int)] sz)) (va_Qi (fun (r : Int32) (u : Int32 × (Nat → Int64)) => match u with | (k2, fo2) => r = k2 ∧ k2 = (if x1 < 0 ∨ 2 < x1 then 1 else if ¬ x1 = 0 ∧ (x2 < 0 ∨ 2 < x2) then 1 else if x1 = 2 ∧ (x3 < 0 ∨ 2 < x3) then 1 else 0) ∧ (k2 = 0 → fo2 (0 : Int32).toNatClampNeg = (0 : Int32).toInt64)) (fun (u : Int32 × (Nat → Int64)) => match u with | (k2, fo2) => zEnd (dC, dI) (va_A [(hh, .inr (13, [.ref aexpr, .ref achoo, .ref ameth, .ref aroom, .ref anod, .ref asort, .ref anote, .ref amet, .int 0, .int 1])), (asort, .inr (1, [.int 0, .ref eD, .int 0])), (anod, .inr (7, [.ref nm, .ref nl, .ref n1, .ref n2, .ref nf, .ref ns, .ref nh, .ref nk, .ref np, .int 16, .int 0, .int 16, .int 0, .int 0])), (ns, .inl (kL, 1024, .inr (.inl zSec))), (nm, .inl (kI, 12, .inl (fun _ => 0))), (nl, .inl (kI, 12, .inl (fun _ => 0))), (n1, .inl (kI, 12, .inl (fun _ => 0))), (n2, .inl (kI, 12, .inl (fun _ => 0))), (ou, .inl (kL, 1, .inr (.inl fo)))] sz) [(ou, .inl (kL, 1, .inr (.inl fo2)))] [(kL, .long)]) (va_A [(hh, .inr (13, [.ref aexpr, .ref achoo, .ref ameth, .ref aroom, .ref anod, .ref asort, .ref anote, .ref amet, .int 0, .int 1])), (asort, .inr (1, [.int 0, .ref eD, .int 0])), (anod, .inr (7, [.ref nm, .ref nl, .ref n1, .ref n2, .ref nf, .ref ns, .ref nh, .ref nk, .ref np, .int 16, .int 0, .int 16, .int 0, .int 0])), (ns, .inl (kL, 1024, .inr (.inl zSec))), (nm, .inl (kI, 12, .inl (fun _ => 0))), (nl, .inl (kI, 12, .inl (fun _ => 0))), (n1, .inl (kI, 12, .inl (fun _ => 0))), (n2, .inl (kI, 12, .inl (fun _ => 0))), (ou, .inl (kL, 1, .inr (.inl fo)))] sz)) (zX (fun _ => False) (va_A [(hh, .inr (13, [.ref aexpr, .ref achoo, .ref ameth, .ref aroom, .ref anod, .ref asort, .ref anote, .ref amet, .int 0, .int 1])), (asort, .inr (1, [.int 0, .ref eD, .int 0])), (anod, .inr (7, [.ref nm, .ref nl, .ref n1, .ref n2, .ref nf, .ref ns, .ref nh, .ref nk, .ref np, .int 16, .int 0, .int 16, .int 0, .int 0])), (ns, .inl (kL, 1024, .inr (.inl zSec))), (nm, .inl (kI, 12, .inl (fun _ => 0))), (nl, .inl (kI, 12, .inl (fun _ => 0))), (n1, .inl (kI, 12, .inl (fun _ => 0))), (n2, .inl (kI, 12, .inl (fun _ => 0))), (ou, .inl (kL, 1, .inr (.inl fo)))] sz)) 3 31 (va_A [(hh, .inr (13, [.ref aexpr, .ref achoo, .ref ameth, .ref aroom, .ref anod, .ref asort, .ref anote, .ref amet, .int 0, .int 1])), (asort, .inr (1, [.int 0, .ref eD, .int 0])), (anod, .inr (7, [.ref nm, .ref nl, .ref n1, .ref n2, .ref nf, .ref ns, .ref nh, .ref nk, .ref np, .int 16, .int 0, .int 16, .int 0, .int 0])), (ns, .inl (kL, 1024, .inr (.inl zSec))), (nm, .inl (kI, 12, .inl (fun _ => 0))), (nl, .inl (kI, 12, .inl (fun _ => 0))), (n1, .inl (kI, 12, .inl (fun _ => 0))), (n2, .inl (kI, 12, .inl (fun _ => 0))), (ou, .inl (kL, 1, .inr (.inl fo)))] sz) := by
  refine vx_ofWH (cc := cL_sort) (maxL := 6) (ret := (some .int)) (hh := [(0, 12, 15, 13), (0, 12, 19, 15)]) (by decide +kernel) rfl ?_
  intro p e s m args below meth c s₁ B hml hv
  obtain ⟨rfl, ⟨hsz, hP, hK, hD0, hE⟩, hDc⟩ := hv
  have hx := B.exec
  have hb := B.bytes
  have hr := B.returns
  have hts := atoms_spec (ws := w_c_L_sort) B.pre
  have hown : s.vm.findClass RL = some m.cls := findClass_of_methodNamed B.named
  have hlocks := B.notSynchronized
  have htab := vx_table (x := yL_sort) B (hts (.codeWith yL_sort cL_sort 6 (some .int) [(0, 12, 15, 13), (0, 12, 19, 15)]) List.mem_cons_self)
  subst hsz
  have hD := hD0.self (sz := s.heap.size)
  generalize hAe : va_A [(hh, .inr (13, [.ref aexpr, .ref achoo, .ref ameth, .ref aroom, .ref anod, .ref asort, .ref anote, .ref amet, .int 0, .int 1])), (asort, .inr (1, [.int 0, .ref eD, .int 0])), (anod, .inr (7, [.ref nm, .ref nl, .ref n1, .ref n2, .ref nf, .ref ns, .ref nh, .ref nk, .ref np, .int 16, .int 0, .int 16, .int 0, .int 0])), (ns, .inl (kL, 1024, .inr (.inl zSec))), (nm, .inl (kI, 12, .inl (fun _ => 0))), (nl, .inl (kI, 12, .inl (fun _ => 0))), (n1, .inl (kI, 12, .inl (fun _ => 0))), (n2, .inl (kI, 12, .inl (fun _ => 0))), (ou, .inl (kL, 1, .inr (.inl fo)))] s.heap.size = A at hD hE ⊢
  have hA : ∀ q : Nat, s.heap.size ≤ q → A q := fun q h => by rw [← hAe]; exact Or.inr h
  have hS : va_S A s.heap s.heap [] := va_S.rf
  have hP : va_P (dC, dI) vwCl [(hh, .inr (13, [.ref aexpr, .ref achoo, .ref ameth, .ref aroom, .ref anod, .ref asort, .ref anote, .ref amet, .int 0, .int 1])), (asort, .inr (1, [.int 0, .ref eD, .int 0])), (anod, .inr (7, [.ref nm, .ref nl, .ref n1, .ref n2, .ref nf, .ref ns, .ref nh, .ref nk, .ref np, .int 16, .int 0, .int 16, .int 0, .int 0])), (ns, .inl (kL, 1024, .inr (.inl zSec))), (nm, .inl (kI, 12, .inl (fun _ => 0))), (nl, .inl (kI, 12, .inl (fun _ => 0))), (n1, .inl (kI, 12, .inl (fun _ => 0))), (n2, .inl (kI, 12, .inl (fun _ => 0))), (ou, .inl (kL, 1, .inr (.inl fo)))] s.heap := hP
  have hl := lv_entry ([.ref hh, .int x1, .int x2, .int x3, .ref ou]) (n := 6) (Nat.le_of_ble_eq_true rfl)
  rw [lg_entry_eq]
  generalize (lg_sl ([.ref hh, .int x1, .int x2, .int x3, .ref ou]) ++ List.replicate (6 - (lg_sl ([.ref hh, .int x1, .int x2, .int x3, .ref ou])).length) Slot.unset).toArray = ls at hl ⊢
  have hl : lv_has ls 6 [(0, .ref hh), (1, .int x1), (2, .int x2), (3, .int x3), (4, .ref ou)] := hl
  have in_RJx4a65c : ∀ w ∈ u_ws RJx4a65c TJx4a65c 3, w ∈ w_c_L_sort := by decide +kernel
  have in_RX11 : ∀ w ∈ u_ws RX11 TX11 10, w ∈ w_c_L_sort := by decide +kernel
  have in_RX5 : ∀ w ∈ u_ws RX5 TX5 14, w ∈ w_c_L_sort := by decide +kernel
  have in_RX9 : ∀ w ∈ u_ws RX9 TX9 9, w ∈ w_c_L_sort := by decide +kernel
  rcases z_split3 x1 with hx11 | ⟨hx10, hx11⟩ | rfl | rfl | rfl
  · refine lv_aload hx hb dL_sort_0 (lv_at hl 4 rfl) ?_
    refine lv_iconst (v := 0) hx hb dL_sort_2 (by decide) ?_
    refine lv_aload_n hx hb dL_sort_3 rfl (lv_at hl 0 rfl) ?_
    refine lv_iload_n hx hb dL_sort_4 rfl (lv_at hl 1 rfl) ?_
    refine lv_iload_n hx hb dL_sort_5 rfl (lv_at hl 2 rfl) ?_
    refine lv_iload_n hx hb dL_sort_6 rfl (lv_at hl 3 rfl) ?_
    refine zx_i (wr := [(ou, .inl (kL, 1, .inr (.inl fo)))]) (vx_runV (As := [.int x1, .int x2, .int x3]) (rest := [.int 0, .ref ou]) ⟨hx, hb, hml, hown, hts⟩ (c_H_sort_l l hfl eD eI ad dC dI s.heap.size hh aexpr achoo ameth aroom anod asort anote amet nm nl n1 n2 nf ns nh nk np kI kL x1 x2 x3 (hx11)) (cwV 3 hts g_c_L_sort_0 rfl rfl rfl (by decide +kernel) ⟨Nat.le_of_ble_eq_true rfl, Nat.le_of_ble_eq_true rfl⟩) (z_preVD (wc := [(hh, .inr (13, [.ref aexpr, .ref achoo, .ref ameth, .ref aroom, .ref anod, .ref asort, .ref anote, .ref amet, .int 0, .int 1])), (asort, .inr (1, [.int 0, .ref eD, .int 0])), (anod, .inr (7, [.ref nm, .ref nl, .ref n1, .ref n2, .ref nf, .ref ns, .ref nh, .ref nk, .ref np, .int 16, .int 0, .int 16, .int 0, .int 0])), (ns, .inl (kL, 1024, .inr (.inl zSec))), (nm, .inl (kI, 12, .inl (fun _ => 0))), (nl, .inl (kI, 12, .inl (fun _ => 0))), (n1, .inl (kI, 12, .inl (fun _ => 0))), (n2, .inl (kI, 12, .inl (fun _ => 0)))]) hP hD hK hS hA hE [0, 1, 2, 3, 4, 5, 6, 7] [0, 1] rfl (by decide) rfl (ci := 13) (q0 := 0) rfl rfl hDc) rfl rfl hl.1 rfl (lv_room (Nat.le_of_ble_eq_true rfl)) dL_sort_7 ⟨Nat.le_of_ble_eq_true rfl, Nat.le_of_ble_eq_true rfl⟩) hP hD hK hS hA [0, 1, 2, 3, 4, 5, 6, 7] [8] rfl rfl (by decide) (by decide) (fun E ce q9 H locs hbad hP hD hS h91 h92 h93 => ?_) (fun r_1 u H locs hw_2 hP hD hK hS => ?_)
    · have hbad : E = "java/lang/IllegalArgumentException" := hbad
      subst hbad
      refine vx_catch (name := "java/lang/IllegalArgumentException") hown [] ⟨0, 12, 15, 13⟩ [⟨0, 12, 19, 15⟩] (by rw [htab]; rfl) (fun z h => by simp at h) (by decide) (by decide) (hts (.classLink RL 13 "java/lang/IllegalArgumentException") (by decide +kernel)) (va_Nw.use rfl (hE.2.2.2.2.2.2.2.1 ("java/lang/IllegalArgumentException", "java/lang/IllegalArgumentException") (by decide +kernel))) h91 h92 h93 ?_
      refine W.eq (g2 := F0 m 15 ls [.ref q9]) rfl ?_
      refine lv_astore (lv' := [(5, .ref q9), (0, .ref hh), (1, .int x1), (2, .int x2), (3, .int x3), (4, .ref ou)]) hx hb dL_sort_15 hl (by decide) rfl (fun ls hl => ?_)
      refine lv_iconst (v := 1) hx hb dL_sort_17 (by decide) ?_
      have hP9 := hP.sub (ws' := [(ou, .inl (kL, 1, .inr (.inl fo)))]) [0] rfl
      have hD9 := hD.sub (ws' := [(ou, .inl (kL, 1, .inr (.inl fo)))]) [0] (by decide) rfl
      have hK9 := hK.sub (tys' := [(kL, .long)]) [0] rfl
      refine W.widen (k := 3) (n := 31) (Nat.le_of_ble_eq_true rfl) (Nat.le_of_ble_eq_true rfl) ?_
      refine vx_ret ?_
      exact W.iret (v := 1) hx hb hr (fun t ht hW => ⟨⟨1, (1, (fo)), rfl, ⟨rfl, by first | exact fun h => absurd h (by decide) | exact fun _ => rfl | rfl | decide | simp [hx11], fun h => absurd h (by decide)⟩, ⟨by rw [ht]; exact hP9, va_K.moved hW.alike hK9, hD9⟩⟩, hS.F ht⟩) hS.2.2 dL_sort_18
    exact absurd hw_2 id
  · refine lv_aload hx hb dL_sort_0 (lv_at hl 4 rfl) ?_
    refine lv_iconst (v := 0) hx hb dL_sort_2 (by decide) ?_
    refine lv_aload_n hx hb dL_sort_3 rfl (lv_at hl 0 rfl) ?_
    refine lv_iload_n hx hb dL_sort_4 rfl (lv_at hl 1 rfl) ?_
    refine lv_iload_n hx hb dL_sort_5 rfl (lv_at hl 2 rfl) ?_
    refine lv_iload_n hx hb dL_sort_6 rfl (lv_at hl 3 rfl) ?_
    refine zx_i (wr := [(ou, .inl (kL, 1, .inr (.inl fo)))]) (vx_runV (As := [.int x1, .int x2, .int x3]) (rest := [.int 0, .ref ou]) ⟨hx, hb, hml, hown, hts⟩ (c_H_sort_h l hfl eD eI ad dC dI s.heap.size hh aexpr achoo ameth aroom anod asort anote amet nm nl n1 n2 nf ns nh nk np kI kL x1 x2 x3 (hx10) (hx11)) (cwV 3 hts g_c_L_sort_1 rfl rfl rfl (by decide +kernel) ⟨Nat.le_of_ble_eq_true rfl, Nat.le_of_ble_eq_true rfl⟩) (z_preVD (wc := [(hh, .inr (13, [.ref aexpr, .ref achoo, .ref ameth, .ref aroom, .ref anod, .ref asort, .ref anote, .ref amet, .int 0, .int 1])), (asort, .inr (1, [.int 0, .ref eD, .int 0])), (anod, .inr (7, [.ref nm, .ref nl, .ref n1, .ref n2, .ref nf, .ref ns, .ref nh, .ref nk, .ref np, .int 16, .int 0, .int 16, .int 0, .int 0])), (ns, .inl (kL, 1024, .inr (.inl zSec))), (nm, .inl (kI, 12, .inl (fun _ => 0))), (nl, .inl (kI, 12, .inl (fun _ => 0))), (n1, .inl (kI, 12, .inl (fun _ => 0))), (n2, .inl (kI, 12, .inl (fun _ => 0)))]) hP hD hK hS hA hE [0, 1, 2, 3, 4, 5, 6, 7] [0, 1] rfl (by decide) rfl (ci := 13) (q0 := 0) rfl rfl hDc) rfl rfl hl.1 rfl (lv_room (Nat.le_of_ble_eq_true rfl)) dL_sort_7 ⟨Nat.le_of_ble_eq_true rfl, Nat.le_of_ble_eq_true rfl⟩) hP hD hK hS hA [0, 1, 2, 3, 4, 5, 6, 7] [8] rfl rfl (by decide) (by decide) (fun E ce q9 H locs hbad hP hD hS h91 h92 h93 => ?_) (fun r_3 u H locs hw_4 hP hD hK hS => ?_)
    · have hbad : E = "java/lang/IllegalArgumentException" := hbad
      subst hbad
      refine vx_catch (name := "java/lang/IllegalArgumentException") hown [] ⟨0, 12, 15, 13⟩ [⟨0, 12, 19, 15⟩] (by rw [htab]; rfl) (fun z h => by simp at h) (by decide) (by decide) (hts (.classLink RL 13 "java/lang/IllegalArgumentException") (by decide +kernel)) (va_Nw.use rfl (hE.2.2.2.2.2.2.2.1 ("java/lang/IllegalArgumentException", "java/lang/IllegalArgumentException") (by decide +kernel))) h91 h92 h93 ?_
      refine W.eq (g2 := F0 m 15 ls [.ref q9]) rfl ?_
      refine lv_astore (lv' := [(5, .ref q9), (0, .ref hh), (1, .int x1), (2, .int x2), (3, .int x3), (4, .ref ou)]) hx hb dL_sort_15 hl (by decide) rfl (fun ls hl => ?_)
      refine lv_iconst (v := 1) hx hb dL_sort_17 (by decide) ?_
      have hP9 := hP.sub (ws' := [(ou, .inl (kL, 1, .inr (.inl fo)))]) [0] rfl
      have hD9 := hD.sub (ws' := [(ou, .inl (kL, 1, .inr (.inl fo)))]) [0] (by decide) rfl
      have hK9 := hK.sub (tys' := [(kL, .long)]) [0] rfl
      refine W.widen (k := 3) (n := 31) (Nat.le_of_ble_eq_true rfl) (Nat.le_of_ble_eq_true rfl) ?_
      refine vx_ret ?_
      exact W.iret (v := 1) hx hb hr (fun t ht hW => ⟨⟨1, (1, (fo)), rfl, ⟨rfl, by first | exact fun h => absurd h (by decide) | exact fun _ => rfl | rfl | decide | simp [hx10, hx11], fun h => absurd h (by decide)⟩, ⟨by rw [ht]; exact hP9, va_K.moved hW.alike hK9, hD9⟩⟩, hS.F ht⟩) hS.2.2 dL_sort_18
    exact absurd hw_4 id
  · refine lv_aload hx hb dL_sort_0 (lv_at hl 4 rfl) ?_
    refine lv_iconst (v := 0) hx hb dL_sort_2 (by decide) ?_
    refine lv_aload_n hx hb dL_sort_3 rfl (lv_at hl 0 rfl) ?_
    refine lv_iload_n hx hb dL_sort_4 rfl (lv_at hl 1 rfl) ?_
    refine lv_iload_n hx hb dL_sort_5 rfl (lv_at hl 2 rfl) ?_
    refine lv_iload_n hx hb dL_sort_6 rfl (lv_at hl 3 rfl) ?_
    refine z_i (wr := [(ou, .inl (kL, 1, .inr (.inl fo)))]) (va_runV (As := [.int 0, .int x2, .int x3]) (rest := [.int 0, .ref ou]) ⟨hx, hb, hml, hown, hts⟩ (c_H_sort_0 l eD eI ad dC dI s.heap.size hh aexpr achoo ameth aroom anod asort anote amet nm nl n1 n2 nf ns nh nk np kI kL x2 x3) (cwV 3 hts g_c_L_sort_2 rfl rfl rfl (by decide +kernel) ⟨Nat.le_of_ble_eq_true rfl, Nat.le_of_ble_eq_true rfl⟩) (z_preV (wc := [(hh, .inr (13, [.ref aexpr, .ref achoo, .ref ameth, .ref aroom, .ref anod, .ref asort, .ref anote, .ref amet, .int 0, .int 1])), (asort, .inr (1, [.int 0, .ref eD, .int 0])), (anod, .inr (7, [.ref nm, .ref nl, .ref n1, .ref n2, .ref nf, .ref ns, .ref nh, .ref nk, .ref np, .int 16, .int 0, .int 16, .int 0, .int 0])), (ns, .inl (kL, 1024, .inr (.inl zSec))), (nm, .inl (kI, 12, .inl (fun _ => 0))), (nl, .inl (kI, 12, .inl (fun _ => 0))), (n1, .inl (kI, 12, .inl (fun _ => 0))), (n2, .inl (kI, 12, .inl (fun _ => 0)))]) hP hD hK hS hA hE [0, 1, 2, 3, 4, 5, 6, 7] [0, 1] rfl (by decide) rfl (ci := 13) (q0 := 0) rfl rfl) rfl rfl hl.1 rfl (lv_room (Nat.le_of_ble_eq_true rfl)) dL_sort_7 ⟨Nat.le_of_ble_eq_true rfl, Nat.le_of_ble_eq_true rfl⟩) hP hD hK hS hA [0, 1, 2, 3, 4, 5, 6, 7] [8] rfl rfl (by decide) (by decide) (fun r_5 u H locs hw_6 hP hD hK hS => ?_)
    obtain ⟨⟩ := u
    have hP : va_P (dC, dI) vwCl [(ou, .inl (kL, 1, .inr (.inl fo)))] H := hP
    have hD : va_D A [(ou, .inl (kL, 1, .inr (.inl fo)))] := hD
    have hK : va_K (dC, dI) vwCl [(kL, .long), (kI, .int)] s := by simpa using hK
    have hw_6 : r_5 = 0 := hw_6
    have hw_6 := hw_6.symm
    subst hw_6
    refine lv_i2l (v := 0) hx hb dL_sort_10 (by decide) ?_
    refine va_last (D := (dC, dI)) hx hb hK hP hD hS 0 0 rfl rfl (by unfold vp_in; decide) dL_sort_11 (fun H locs hP hD hS => ?_)
    have hP : va_P (dC, dI) vwCl [(ou, .inl (kL, 1, .inr (.inl (vp_updL fo (0 : Int32).toNatClampNeg 0))))] H := hP
    have hD : va_D A [(ou, .inl (kL, 1, .inr (.inl (vp_updL fo (0 : Int32).toNatClampNeg 0))))] := hD
    refine lv_goto (tgt := 23) hx hb dL_sort_12 (by decide) ?_
    refine lv_iconst (v := 0) hx hb dL_sort_23 (by decide) ?_
    have hP9 := hP.sub (ws' := [(ou, .inl (kL, 1, .inr (.inl (vp_updL fo (0 : Int32).toNatClampNeg 0))))]) [0] rfl
    have hD9 := hD.sub (ws' := [(ou, .inl (kL, 1, .inr (.inl (vp_updL fo (0 : Int32).toNatClampNeg 0))))]) [0] (by decide) rfl
    have hK9 := hK.sub (tys' := [(kL, .long)]) [0] rfl
    refine W.widen (k := 3) (n := 31) (Nat.le_of_ble_eq_true rfl) (Nat.le_of_ble_eq_true rfl) ?_
    refine vx_ret ?_
    exact W.iret (v := 0) hx hb hr (fun t ht hW => ⟨⟨0, (0, (vp_updL fo (0 : Int32).toNatClampNeg 0)), rfl, ⟨rfl, by first | exact fun h => absurd h (by decide) | exact fun _ => rfl | rfl | decide | simp, by first | exact fun _ => rfl | exact fun _ => by simp [vp_updL]⟩, ⟨by rw [ht]; exact hP9, va_K.moved hW.alike hK9, hD9⟩⟩, hS.F ht⟩) hS.2.2 dL_sort_24
  · rcases z_splitQ x2 with hx21 | ⟨hx20, hx21⟩ | ⟨hx20, hx21⟩
    · refine lv_aload hx hb dL_sort_0 (lv_at hl 4 rfl) ?_
      refine lv_iconst (v := 0) hx hb dL_sort_2 (by decide) ?_
      refine lv_aload_n hx hb dL_sort_3 rfl (lv_at hl 0 rfl) ?_
      refine lv_iload_n hx hb dL_sort_4 rfl (lv_at hl 1 rfl) ?_
      refine lv_iload_n hx hb dL_sort_5 rfl (lv_at hl 2 rfl) ?_
      refine lv_iload_n hx hb dL_sort_6 rfl (lv_at hl 3 rfl) ?_
      refine zx_i (wr := [(ou, .inl (kL, 1, .inr (.inl fo)))]) (vx_runV (As := [.int 1, .int x2, .int x3]) (rest := [.int 0, .ref ou]) ⟨hx, hb, hml, hown, hts⟩ (c_H_sort_1l l hfl eD eI ad dC dI s.heap.size hh aexpr achoo ameth aroom anod asort anote amet nm nl n1 n2 nf ns nh nk np kI kL x2 x3 (hx21)) (cwV 3 hts g_c_L_sort_3 rfl rfl rfl (by decide +kernel) ⟨Nat.le_of_ble_eq_true rfl, Nat.le_of_ble_eq_true rfl⟩) (z_preVD (wc := [(hh, .inr (13, [.ref aexpr, .ref achoo, .ref ameth, .ref aroom, .ref anod, .ref asort, .ref anote, .ref amet, .int 0, .int 1])), (asort, .inr (1, [.int 0, .ref eD, .int 0])), (anod, .inr (7, [.ref nm, .ref nl, .ref n1, .ref n2, .ref nf, .ref ns, .ref nh, .ref nk, .ref np, .int 16, .int 0, .int 16, .int 0, .int 0])), (ns, .inl (kL, 1024, .inr (.inl zSec))), (nm, .inl (kI, 12, .inl (fun _ => 0))), (nl, .inl (kI, 12, .inl (fun _ => 0))), (n1, .inl (kI, 12, .inl (fun _ => 0))), (n2, .inl (kI, 12, .inl (fun _ => 0)))]) hP hD hK hS hA hE [0, 1, 2, 3, 4, 5, 6, 7] [0, 1] rfl (by decide) rfl (ci := 13) (q0 := 0) rfl rfl hDc) rfl rfl hl.1 rfl (lv_room (Nat.le_of_ble_eq_true rfl)) dL_sort_7 ⟨Nat.le_of_ble_eq_true rfl, Nat.le_of_ble_eq_true rfl⟩) hP hD hK hS hA [0, 1, 2, 3, 4, 5, 6, 7] [8] rfl rfl (by decide) (by decide) (fun E ce q9 H locs hbad hP hD hS h91 h92 h93 => ?_) (fun r_7 u H locs hw_8 hP hD hK hS => ?_)
      · have hbad : E = "java/lang/IllegalArgumentException" := hbad
        subst hbad
        refine vx_catch (name := "java/lang/IllegalArgumentException") hown [] ⟨0, 12, 15, 13⟩ [⟨0, 12, 19, 15⟩] (by rw [htab]; rfl) (fun z h => by simp at h) (by decide) (by decide) (hts (.classLink RL 13 "java/lang/IllegalArgumentException") (by decide +kernel)) (va_Nw.use rfl (hE.2.2.2.2.2.2.2.1 ("java/lang/IllegalArgumentException", "java/lang/IllegalArgumentException") (by decide +kernel))) h91 h92 h93 ?_
        refine W.eq (g2 := F0 m 15 ls [.ref q9]) rfl ?_
        refine lv_astore (lv' := [(5, .ref q9), (0, .ref hh), (1, .int 1), (2, .int x2), (3, .int x3), (4, .ref ou)]) hx hb dL_sort_15 hl (by decide) rfl (fun ls hl => ?_)
        refine lv_iconst (v := 1) hx hb dL_sort_17 (by decide) ?_
        have hP9 := hP.sub (ws' := [(ou, .inl (kL, 1, .inr (.inl fo)))]) [0] rfl
        have hD9 := hD.sub (ws' := [(ou, .inl (kL, 1, .inr (.inl fo)))]) [0] (by decide) rfl
        have hK9 := hK.sub (tys' := [(kL, .long)]) [0] rfl
        refine W.widen (k := 3) (n := 31) (Nat.le_of_ble_eq_true rfl) (Nat.le_of_ble_eq_true rfl) ?_
        refine vx_ret ?_
        exact W.iret (v := 1) hx hb hr (fun t ht hW => ⟨⟨1, (1, (fo)), rfl, ⟨rfl, by first | exact fun h => absurd h (by decide) | exact fun _ => rfl | rfl | decide | simp [hx21], fun h => absurd h (by decide)⟩, ⟨by rw [ht]; exact hP9, va_K.moved hW.alike hK9, hD9⟩⟩, hS.F ht⟩) hS.2.2 dL_sort_18
      exact absurd hw_8 id
    · refine lv_aload hx hb dL_sort_0 (lv_at hl 4 rfl) ?_
      refine lv_iconst (v := 0) hx hb dL_sort_2 (by decide) ?_
      refine lv_aload_n hx hb dL_sort_3 rfl (lv_at hl 0 rfl) ?_
      refine lv_iload_n hx hb dL_sort_4 rfl (lv_at hl 1 rfl) ?_
      refine lv_iload_n hx hb dL_sort_5 rfl (lv_at hl 2 rfl) ?_
      refine lv_iload_n hx hb dL_sort_6 rfl (lv_at hl 3 rfl) ?_
      refine zx_i (wr := [(ou, .inl (kL, 1, .inr (.inl fo)))]) (vx_runV (As := [.int 1, .int x2, .int x3]) (rest := [.int 0, .ref ou]) ⟨hx, hb, hml, hown, hts⟩ (c_H_sort_1h l hfl eD eI ad dC dI s.heap.size hh aexpr achoo ameth aroom anod asort anote amet nm nl n1 n2 nf ns nh nk np kI kL x2 x3 (hx20) (hx21)) (cwV 3 hts g_c_L_sort_4 rfl rfl rfl (by decide +kernel) ⟨Nat.le_of_ble_eq_true rfl, Nat.le_of_ble_eq_true rfl⟩) (z_preVD (wc := [(hh, .inr (13, [.ref aexpr, .ref achoo, .ref ameth, .ref aroom, .ref anod, .ref asort, .ref anote, .ref amet, .int 0, .int 1])), (asort, .inr (1, [.int 0, .ref eD, .int 0])), (anod, .inr (7, [.ref nm, .ref nl, .ref n1, .ref n2, .ref nf, .ref ns, .ref nh, .ref nk, .ref np, .int 16, .int 0, .int 16, .int 0, .int 0])), (ns, .inl (kL, 1024, .inr (.inl zSec))), (nm, .inl (kI, 12, .inl (fun _ => 0))), (nl, .inl (kI, 12, .inl (fun _ => 0))), (n1, .inl (kI, 12, .inl (fun _ => 0))), (n2, .inl (kI, 12, .inl (fun _ => 0)))]) hP hD hK hS hA hE [0, 1, 2, 3, 4, 5, 6, 7] [0, 1] rfl (by decide) rfl (ci := 13) (q0 := 0) rfl rfl hDc) rfl rfl hl.1 rfl (lv_room (Nat.le_of_ble_eq_true rfl)) dL_sort_7 ⟨Nat.le_of_ble_eq_true rfl, Nat.le_of_ble_eq_true rfl⟩) hP hD hK hS hA [0, 1, 2, 3, 4, 5, 6, 7] [8] rfl rfl (by decide) (by decide) (fun E ce q9 H locs hbad hP hD hS h91 h92 h93 => ?_) (fun r_9 u H locs hw_10 hP hD hK hS => ?_)
      · have hbad : E = "java/lang/IllegalArgumentException" := hbad
        subst hbad
        refine vx_catch (name := "java/lang/IllegalArgumentException") hown [] ⟨0, 12, 15, 13⟩ [⟨0, 12, 19, 15⟩] (by rw [htab]; rfl) (fun z h => by simp at h) (by decide) (by decide) (hts (.classLink RL 13 "java/lang/IllegalArgumentException") (by decide +kernel)) (va_Nw.use rfl (hE.2.2.2.2.2.2.2.1 ("java/lang/IllegalArgumentException", "java/lang/IllegalArgumentException") (by decide +kernel))) h91 h92 h93 ?_
        refine W.eq (g2 := F0 m 15 ls [.ref q9]) rfl ?_
        refine lv_astore (lv' := [(5, .ref q9), (0, .ref hh), (1, .int 1), (2, .int x2), (3, .int x3), (4, .ref ou)]) hx hb dL_sort_15 hl (by decide) rfl (fun ls hl => ?_)
        refine lv_iconst (v := 1) hx hb dL_sort_17 (by decide) ?_
        have hP9 := hP.sub (ws' := [(ou, .inl (kL, 1, .inr (.inl fo)))]) [0] rfl
        have hD9 := hD.sub (ws' := [(ou, .inl (kL, 1, .inr (.inl fo)))]) [0] (by decide) rfl
        have hK9 := hK.sub (tys' := [(kL, .long)]) [0] rfl
        refine W.widen (k := 3) (n := 31) (Nat.le_of_ble_eq_true rfl) (Nat.le_of_ble_eq_true rfl) ?_
        refine vx_ret ?_
        exact W.iret (v := 1) hx hb hr (fun t ht hW => ⟨⟨1, (1, (fo)), rfl, ⟨rfl, by first | exact fun h => absurd h (by decide) | exact fun _ => rfl | rfl | decide | simp [hx20, hx21], fun h => absurd h (by decide)⟩, ⟨by rw [ht]; exact hP9, va_K.moved hW.alike hK9, hD9⟩⟩, hS.F ht⟩) hS.2.2 dL_sort_18
      exact absurd hw_10 id
    · refine lv_aload hx hb dL_sort_0 (lv_at hl 4 rfl) ?_
      refine lv_iconst (v := 0) hx hb dL_sort_2 (by decide) ?_
      refine lv_aload_n hx hb dL_sort_3 rfl (lv_at hl 0 rfl) ?_
      refine lv_iload_n hx hb dL_sort_4 rfl (lv_at hl 1 rfl) ?_
      refine lv_iload_n hx hb dL_sort_5 rfl (lv_at hl 2 rfl) ?_
      refine lv_iload_n hx hb dL_sort_6 rfl (lv_at hl 3 rfl) ?_
      refine z_i (wr := [(ou, .inl (kL, 1, .inr (.inl fo)))]) (va_runV (As := [.int 1, .int x2, .int x3]) (rest := [.int 0, .ref ou]) ⟨hx, hb, hml, hown, hts⟩ (c_H_sort_1 l eD eI ad dC dI s.heap.size hh aexpr achoo ameth aroom anod asort anote amet nm nl n1 n2 nf ns nh nk np kI kL x2 x3 (hx20) (hx21)) (cwV 3 hts g_c_L_sort_5 rfl rfl rfl (by decide +kernel) ⟨Nat.le_of_ble_eq_true rfl, Nat.le_of_ble_eq_true rfl⟩) (z_preV (wc := [(hh, .inr (13, [.ref aexpr, .ref achoo, .ref ameth, .ref aroom, .ref anod, .ref asort, .ref anote, .ref amet, .int 0, .int 1])), (asort, .inr (1, [.int 0, .ref eD, .int 0])), (anod, .inr (7, [.ref nm, .ref nl, .ref n1, .ref n2, .ref nf, .ref ns, .ref nh, .ref nk, .ref np, .int 16, .int 0, .int 16, .int 0, .int 0])), (ns, .inl (kL, 1024, .inr (.inl zSec))), (nm, .inl (kI, 12, .inl (fun _ => 0))), (nl, .inl (kI, 12, .inl (fun _ => 0))), (n1, .inl (kI, 12, .inl (fun _ => 0))), (n2, .inl (kI, 12, .inl (fun _ => 0)))]) hP hD hK hS hA hE [0, 1, 2, 3, 4, 5, 6, 7] [0, 1] rfl (by decide) rfl (ci := 13) (q0 := 0) rfl rfl) rfl rfl hl.1 rfl (lv_room (Nat.le_of_ble_eq_true rfl)) dL_sort_7 ⟨Nat.le_of_ble_eq_true rfl, Nat.le_of_ble_eq_true rfl⟩) hP hD hK hS hA [0, 1, 2, 3, 4, 5, 6, 7] [8] rfl rfl (by decide) (by decide) (fun r_11 u H locs hw_12 hP hD hK hS => ?_)
      obtain ⟨⟩ := u
      have hP : va_P (dC, dI) vwCl [(ou, .inl (kL, 1, .inr (.inl fo)))] H := hP
      have hD : va_D A [(ou, .inl (kL, 1, .inr (.inl fo)))] := hD
      have hK : va_K (dC, dI) vwCl [(kL, .long), (kI, .int)] s := by simpa using hK
      have hw_12 : r_11 = 0 := hw_12
      have hw_12 := hw_12.symm
      subst hw_12
      refine lv_i2l (v := 0) hx hb dL_sort_10 (by decide) ?_
      refine va_last (D := (dC, dI)) hx hb hK hP hD hS 0 0 rfl rfl (by unfold vp_in; decide) dL_sort_11 (fun H locs hP hD hS => ?_)
      have hP : va_P (dC, dI) vwCl [(ou, .inl (kL, 1, .inr (.inl (vp_updL fo (0 : Int32).toNatClampNeg 0))))] H := hP
      have hD : va_D A [(ou, .inl (kL, 1, .inr (.inl (vp_updL fo (0 : Int32).toNatClampNeg 0))))] := hD
      refine lv_goto (tgt := 23) hx hb dL_sort_12 (by decide) ?_
      refine lv_iconst (v := 0) hx hb dL_sort_23 (by decide) ?_
      have hP9 := hP.sub (ws' := [(ou, .inl (kL, 1, .inr (.inl (vp_updL fo (0 : Int32).toNatClampNeg 0))))]) [0] rfl
      have hD9 := hD.sub (ws' := [(ou, .inl (kL, 1, .inr (.inl (vp_updL fo (0 : Int32).toNatClampNeg 0))))]) [0] (by decide) rfl
      have hK9 := hK.sub (tys' := [(kL, .long)]) [0] rfl
      refine W.widen (k := 3) (n := 31) (Nat.le_of_ble_eq_true rfl) (Nat.le_of_ble_eq_true rfl) ?_
      refine vx_ret ?_
      exact W.iret (v := 0) hx hb hr (fun t ht hW => ⟨⟨0, (0, (vp_updL fo (0 : Int32).toNatClampNeg 0)), rfl, ⟨rfl, by first | exact fun h => absurd h (by decide) | exact fun _ => rfl | rfl | decide | simp [hx20, hx21], by first | exact fun _ => rfl | exact fun _ => by simp [vp_updL, hx20, hx21]⟩, ⟨by rw [ht]; exact hP9, va_K.moved hW.alike hK9, hD9⟩⟩, hS.F ht⟩) hS.2.2 dL_sort_24
  · rcases z_splitQ x2 with hx21 | ⟨hx20, hx21⟩ | ⟨hx20, hx21⟩
    · refine lv_aload hx hb dL_sort_0 (lv_at hl 4 rfl) ?_
      refine lv_iconst (v := 0) hx hb dL_sort_2 (by decide) ?_
      refine lv_aload_n hx hb dL_sort_3 rfl (lv_at hl 0 rfl) ?_
      refine lv_iload_n hx hb dL_sort_4 rfl (lv_at hl 1 rfl) ?_
      refine lv_iload_n hx hb dL_sort_5 rfl (lv_at hl 2 rfl) ?_
      refine lv_iload_n hx hb dL_sort_6 rfl (lv_at hl 3 rfl) ?_
      refine zx_i (wr := [(ou, .inl (kL, 1, .inr (.inl fo)))]) (vx_runV (As := [.int 2, .int x2, .int x3]) (rest := [.int 0, .ref ou]) ⟨hx, hb, hml, hown, hts⟩ (c_H_sort_2l l hfl eD eI ad dC dI s.heap.size hh aexpr achoo ameth aroom anod asort anote amet nm nl n1 n2 nf ns nh nk np kI kL x2 x3 (hx21)) (cwV 3 hts g_c_L_sort_6 rfl rfl rfl (by decide +kernel) ⟨Nat.le_of_ble_eq_true rfl, Nat.le_of_ble_eq_true rfl⟩) (z_preVD (wc := [(hh, .inr (13, [.ref aexpr, .ref achoo, .ref ameth, .ref aroom, .ref anod, .ref asort, .ref anote, .ref amet, .int 0, .int 1])), (asort, .inr (1, [.int 0, .ref eD, .int 0])), (anod, .inr (7, [.ref nm, .ref nl, .ref n1, .ref n2, .ref nf, .ref ns, .ref nh, .ref nk, .ref np, .int 16, .int 0, .int 16, .int 0, .int 0])), (ns, .inl (kL, 1024, .inr (.inl zSec))), (nm, .inl (kI, 12, .inl (fun _ => 0))), (nl, .inl (kI, 12, .inl (fun _ => 0))), (n1, .inl (kI, 12, .inl (fun _ => 0))), (n2, .inl (kI, 12, .inl (fun _ => 0)))]) hP hD hK hS hA hE [0, 1, 2, 3, 4, 5, 6, 7] [0, 1] rfl (by decide) rfl (ci := 13) (q0 := 0) rfl rfl hDc) rfl rfl hl.1 rfl (lv_room (Nat.le_of_ble_eq_true rfl)) dL_sort_7 ⟨Nat.le_of_ble_eq_true rfl, Nat.le_of_ble_eq_true rfl⟩) hP hD hK hS hA [0, 1, 2, 3, 4, 5, 6, 7] [8] rfl rfl (by decide) (by decide) (fun E ce q9 H locs hbad hP hD hS h91 h92 h93 => ?_) (fun r_13 u H locs hw_14 hP hD hK hS => ?_)
      · have hbad : E = "java/lang/IllegalArgumentException" := hbad
        subst hbad
        refine vx_catch (name := "java/lang/IllegalArgumentException") hown [] ⟨0, 12, 15, 13⟩ [⟨0, 12, 19, 15⟩] (by rw [htab]; rfl) (fun z h => by simp at h) (by decide) (by decide) (hts (.classLink RL 13 "java/lang/IllegalArgumentException") (by decide +kernel)) (va_Nw.use rfl (hE.2.2.2.2.2.2.2.1 ("java/lang/IllegalArgumentException", "java/lang/IllegalArgumentException") (by decide +kernel))) h91 h92 h93 ?_
        refine W.eq (g2 := F0 m 15 ls [.ref q9]) rfl ?_
        refine lv_astore (lv' := [(5, .ref q9), (0, .ref hh), (1, .int 2), (2, .int x2), (3, .int x3), (4, .ref ou)]) hx hb dL_sort_15 hl (by decide) rfl (fun ls hl => ?_)
        refine lv_iconst (v := 1) hx hb dL_sort_17 (by decide) ?_
        have hP9 := hP.sub (ws' := [(ou, .inl (kL, 1, .inr (.inl fo)))]) [0] rfl
        have hD9 := hD.sub (ws' := [(ou, .inl (kL, 1, .inr (.inl fo)))]) [0] (by decide) rfl
        have hK9 := hK.sub (tys' := [(kL, .long)]) [0] rfl
        refine W.widen (k := 3) (n := 31) (Nat.le_of_ble_eq_true rfl) (Nat.le_of_ble_eq_true rfl) ?_
        refine vx_ret ?_
        exact W.iret (v := 1) hx hb hr (fun t ht hW => ⟨⟨1, (1, (fo)), rfl, ⟨rfl, by first | exact fun h => absurd h (by decide) | exact fun _ => rfl | rfl | decide | simp [hx21], fun h => absurd h (by decide)⟩, ⟨by rw [ht]; exact hP9, va_K.moved hW.alike hK9, hD9⟩⟩, hS.F ht⟩) hS.2.2 dL_sort_18
      exact absurd hw_14 id
    · refine lv_aload hx hb dL_sort_0 (lv_at hl 4 rfl) ?_
      refine lv_iconst (v := 0) hx hb dL_sort_2 (by decide) ?_
      refine lv_aload_n hx hb dL_sort_3 rfl (lv_at hl 0 rfl) ?_
      refine lv_iload_n hx hb dL_sort_4 rfl (lv_at hl 1 rfl) ?_
      refine lv_iload_n hx hb dL_sort_5 rfl (lv_at hl 2 rfl) ?_
      refine lv_iload_n hx hb dL_sort_6 rfl (lv_at hl 3 rfl) ?_
      refine zx_i (wr := [(ou, .inl (kL, 1, .inr (.inl fo)))]) (vx_runV (As := [.int 2, .int x2, .int x3]) (rest := [.int 0, .ref ou]) ⟨hx, hb, hml, hown, hts⟩ (c_H_sort_2h l hfl eD eI ad dC dI s.heap.size hh aexpr achoo ameth aroom anod asort anote amet nm nl n1 n2 nf ns nh nk np kI kL x2 x3 (hx20) (hx21)) (cwV 3 hts g_c_L_sort_7 rfl rfl rfl (by decide +kernel) ⟨Nat.le_of_ble_eq_true rfl, Nat.le_of_ble_eq_true rfl⟩) (z_preVD (wc := [(hh, .inr (13, [.ref aexpr, .ref achoo, .ref ameth, .ref aroom, .ref anod, .ref asort, .ref anote, .ref amet, .int 0, .int 1])), (asort, .inr (1, [.int 0, .ref eD, .int 0])), (anod, .inr (7, [.ref nm, .ref nl, .ref n1, .ref n2, .ref nf, .ref ns, .ref nh, .ref nk, .ref np, .int 16, .int 0, .int 16, .int 0, .int 0])), (ns, .inl (kL, 1024, .inr (.inl zSec))), (nm, .inl (kI, 12, .inl (fun _ => 0))), (nl, .inl (kI, 12, .inl (fun _ => 0))), (n1, .inl (kI, 12, .inl (fun _ => 0))), (n2, .inl (kI, 12, .inl (fun _ => 0)))]) hP hD hK hS hA hE [0, 1, 2, 3, 4, 5, 6, 7] [0, 1] rfl (by decide) rfl (ci := 13) (q0 := 0) rfl rfl hDc) rfl rfl hl.1 rfl (lv_room (Nat.le_of_ble_eq_true rfl)) dL_sort_7 ⟨Nat.le_of_ble_eq_true rfl, Nat.le_of_ble_eq_true rfl⟩) hP hD hK hS hA [0, 1, 2, 3, 4, 5, 6, 7] [8] rfl rfl (by decide) (by decide) (fun E ce q9 H locs hbad hP hD hS h91 h92 h93 => ?_) (fun r_15 u H locs hw_16 hP hD hK hS => ?_)
      · have hbad : E = "java/lang/IllegalArgumentException" := hbad
        subst hbad
        refine vx_catch (name := "java/lang/IllegalArgumentException") hown [] ⟨0, 12, 15, 13⟩ [⟨0, 12, 19, 15⟩] (by rw [htab]; rfl) (fun z h => by simp at h) (by decide) (by decide) (hts (.classLink RL 13 "java/lang/IllegalArgumentException") (by decide +kernel)) (va_Nw.use rfl (hE.2.2.2.2.2.2.2.1 ("java/lang/IllegalArgumentException", "java/lang/IllegalArgumentException") (by decide +kernel))) h91 h92 h93 ?_
        refine W.eq (g2 := F0 m 15 ls [.ref q9]) rfl ?_
        refine lv_astore (lv' := [(5, .ref q9), (0, .ref hh), (1, .int 2), (2, .int x2), (3, .int x3), (4, .ref ou)]) hx hb dL_sort_15 hl (by decide) rfl (fun ls hl => ?_)
        refine lv_iconst (v := 1) hx hb dL_sort_17 (by decide) ?_
        have hP9 := hP.sub (ws' := [(ou, .inl (kL, 1, .inr (.inl fo)))]) [0] rfl
        have hD9 := hD.sub (ws' := [(ou, .inl (kL, 1, .inr (.inl fo)))]) [0] (by decide) rfl
        have hK9 := hK.sub (tys' := [(kL, .long)]) [0] rfl
        refine W.widen (k := 3) (n := 31) (Nat.le_of_ble_eq_true rfl) (Nat.le_of_ble_eq_true rfl) ?_
        refine vx_ret ?_
        exact W.iret (v := 1) hx hb hr (fun t ht hW => ⟨⟨1, (1, (fo)), rfl, ⟨rfl, by first | exact fun h => absurd h (by decide) | exact fun _ => rfl | rfl | decide | simp [hx20, hx21], fun h => absurd h (by decide)⟩, ⟨by rw [ht]; exact hP9, va_K.moved hW.alike hK9, hD9⟩⟩, hS.F ht⟩) hS.2.2 dL_sort_18
      exact absurd hw_16 id
    · rcases z_splitQ x3 with hx31 | ⟨hx30, hx31⟩ | ⟨hx30, hx31⟩
      · refine lv_aload hx hb dL_sort_0 (lv_at hl 4 rfl) ?_
        refine lv_iconst (v := 0) hx hb dL_sort_2 (by decide) ?_
        refine lv_aload_n hx hb dL_sort_3 rfl (lv_at hl 0 rfl) ?_
        refine lv_iload_n hx hb dL_sort_4 rfl (lv_at hl 1 rfl) ?_
        refine lv_iload_n hx hb dL_sort_5 rfl (lv_at hl 2 rfl) ?_
        refine lv_iload_n hx hb dL_sort_6 rfl (lv_at hl 3 rfl) ?_
        refine zx_i (wr := [(ou, .inl (kL, 1, .inr (.inl fo)))]) (vx_runV (As := [.int 2, .int x2, .int x3]) (rest := [.int 0, .ref ou]) ⟨hx, hb, hml, hown, hts⟩ (c_H_sort_2l3 l hfl eD eI ad dC dI s.heap.size hh aexpr achoo ameth aroom anod asort anote amet nm nl n1 n2 nf ns nh nk np kI kL x2 x3 (hx20) (hx21) (hx31)) (cwV 3 hts g_c_L_sort_8 rfl rfl rfl (by decide +kernel) ⟨Nat.le_of_ble_eq_true rfl, Nat.le_of_ble_eq_true rfl⟩) (z_preVD (wc := [(hh, .inr (13, [.ref aexpr, .ref achoo, .ref ameth, .ref aroom, .ref anod, .ref asort, .ref anote, .ref amet, .int 0, .int 1])), (asort, .inr (1, [.int 0, .ref eD, .int 0])), (anod, .inr (7, [.ref nm, .ref nl, .ref n1, .ref n2, .ref nf, .ref ns, .ref nh, .ref nk, .ref np, .int 16, .int 0, .int 16, .int 0, .int 0])), (ns, .inl (kL, 1024, .inr (.inl zSec))), (nm, .inl (kI, 12, .inl (fun _ => 0))), (nl, .inl (kI, 12, .inl (fun _ => 0))), (n1, .inl (kI, 12, .inl (fun _ => 0))), (n2, .inl (kI, 12, .inl (fun _ => 0)))]) hP hD hK hS hA hE [0, 1, 2, 3, 4, 5, 6, 7] [0, 1] rfl (by decide) rfl (ci := 13) (q0 := 0) rfl rfl hDc) rfl rfl hl.1 rfl (lv_room (Nat.le_of_ble_eq_true rfl)) dL_sort_7 ⟨Nat.le_of_ble_eq_true rfl, Nat.le_of_ble_eq_true rfl⟩) hP hD hK hS hA [0, 1, 2, 3, 4, 5, 6, 7] [8] rfl rfl (by decide) (by decide) (fun E ce q9 H locs hbad hP hD hS h91 h92 h93 => ?_) (fun r_17 u H locs hw_18 hP hD hK hS => ?_)
        · have hbad : E = "java/lang/IllegalArgumentException" := hbad
          subst hbad
          refine vx_catch (name := "java/lang/IllegalArgumentException") hown [] ⟨0, 12, 15, 13⟩ [⟨0, 12, 19, 15⟩] (by rw [htab]; rfl) (fun z h => by simp at h) (by decide) (by decide) (hts (.classLink RL 13 "java/lang/IllegalArgumentException") (by decide +kernel)) (va_Nw.use rfl (hE.2.2.2.2.2.2.2.1 ("java/lang/IllegalArgumentException", "java/lang/IllegalArgumentException") (by decide +kernel))) h91 h92 h93 ?_
          refine W.eq (g2 := F0 m 15 ls [.ref q9]) rfl ?_
          refine lv_astore (lv' := [(5, .ref q9), (0, .ref hh), (1, .int 2), (2, .int x2), (3, .int x3), (4, .ref ou)]) hx hb dL_sort_15 hl (by decide) rfl (fun ls hl => ?_)
          refine lv_iconst (v := 1) hx hb dL_sort_17 (by decide) ?_
          have hP9 := hP.sub (ws' := [(ou, .inl (kL, 1, .inr (.inl fo)))]) [0] rfl
          have hD9 := hD.sub (ws' := [(ou, .inl (kL, 1, .inr (.inl fo)))]) [0] (by decide) rfl
          have hK9 := hK.sub (tys' := [(kL, .long)]) [0] rfl
          refine W.widen (k := 3) (n := 31) (Nat.le_of_ble_eq_true rfl) (Nat.le_of_ble_eq_true rfl) ?_
          refine vx_ret ?_
          exact W.iret (v := 1) hx hb hr (fun t ht hW => ⟨⟨1, (1, (fo)), rfl, ⟨rfl, by first | exact fun h => absurd h (by decide) | exact fun _ => rfl | rfl | decide | simp [hx20, hx21, hx31], fun h => absurd h (by decide)⟩, ⟨by rw [ht]; exact hP9, va_K.moved hW.alike hK9, hD9⟩⟩, hS.F ht⟩) hS.2.2 dL_sort_18
        exact absurd hw_18 id
      · refine lv_aload hx hb dL_sort_0 (lv_at hl 4 rfl) ?_
        refine lv_iconst (v := 0) hx hb dL_sort_2 (by decide) ?_
        refine lv_aload_n hx hb dL_sort_3 rfl (lv_at hl 0 rfl) ?_
        refine lv_iload_n hx hb dL_sort_4 rfl (lv_at hl 1 rfl) ?_
        refine lv_iload_n hx hb dL_sort_5 rfl (lv_at hl 2 rfl) ?_
        refine lv_iload_n hx hb dL_sort_6 rfl (lv_at hl 3 rfl) ?_
        refine zx_i (wr := [(ou, .inl (kL, 1, .inr (.inl fo)))]) (vx_runV (As := [.int 2, .int x2, .int x3]) (rest := [.int 0, .ref ou]) ⟨hx, hb, hml, hown, hts⟩ (c_H_sort_2h3 l hfl eD eI ad dC dI s.heap.size hh aexpr achoo ameth aroom anod asort anote amet nm nl n1 n2 nf ns nh nk np kI kL x2 x3 (hx20) (hx21) (hx30) (hx31)) (cwV 3 hts g_c_L_sort_9 rfl rfl rfl (by decide +kernel) ⟨Nat.le_of_ble_eq_true rfl, Nat.le_of_ble_eq_true rfl⟩) (z_preVD (wc := [(hh, .inr (13, [.ref aexpr, .ref achoo, .ref ameth, .ref aroom, .ref anod, .ref asort, .ref anote, .ref amet, .int 0, .int 1])), (asort, .inr (1, [.int 0, .ref eD, .int 0])), (anod, .inr (7, [.ref nm, .ref nl, .ref n1, .ref n2, .ref nf, .ref ns, .ref nh, .ref nk, .ref np, .int 16, .int 0, .int 16, .int 0, .int 0])), (ns, .inl (kL, 1024, .inr (.inl zSec))), (nm, .inl (kI, 12, .inl (fun _ => 0))), (nl, .inl (kI, 12, .inl (fun _ => 0))), (n1, .inl (kI, 12, .inl (fun _ => 0))), (n2, .inl (kI, 12, .inl (fun _ => 0)))]) hP hD hK hS hA hE [0, 1, 2, 3, 4, 5, 6, 7] [0, 1] rfl (by decide) rfl (ci := 13) (q0 := 0) rfl rfl hDc) rfl rfl hl.1 rfl (lv_room (Nat.le_of_ble_eq_true rfl)) dL_sort_7 ⟨Nat.le_of_ble_eq_true rfl, Nat.le_of_ble_eq_true rfl⟩) hP hD hK hS hA [0, 1, 2, 3, 4, 5, 6, 7] [8] rfl rfl (by decide) (by decide) (fun E ce q9 H locs hbad hP hD hS h91 h92 h93 => ?_) (fun r_19 u H locs hw_20 hP hD hK hS => ?_)
        · have hbad : E = "java/lang/IllegalArgumentException" := hbad
          subst hbad
          refine vx_catch (name := "java/lang/IllegalArgumentException") hown [] ⟨0, 12, 15, 13⟩ [⟨0, 12, 19, 15⟩] (by rw [htab]; rfl) (fun z h => by simp at h) (by decide) (by decide) (hts (.classLink RL 13 "java/lang/IllegalArgumentException") (by decide +kernel)) (va_Nw.use rfl (hE.2.2.2.2.2.2.2.1 ("java/lang/IllegalArgumentException", "java/lang/IllegalArgumentException") (by decide +kernel))) h91 h92 h93 ?_
          refine W.eq (g2 := F0 m 15 ls [.ref q9]) rfl ?_
          refine lv_astore (lv' := [(5, .ref q9), (0, .ref hh), (1, .int 2), (2, .int x2), (3, .int x3), (4, .ref ou)]) hx hb dL_sort_15 hl (by decide) rfl (fun ls hl => ?_)
          refine lv_iconst (v := 1) hx hb dL_sort_17 (by decide) ?_
          have hP9 := hP.sub (ws' := [(ou, .inl (kL, 1, .inr (.inl fo)))]) [0] rfl
          have hD9 := hD.sub (ws' := [(ou, .inl (kL, 1, .inr (.inl fo)))]) [0] (by decide) rfl
          have hK9 := hK.sub (tys' := [(kL, .long)]) [0] rfl
          refine W.widen (k := 3) (n := 31) (Nat.le_of_ble_eq_true rfl) (Nat.le_of_ble_eq_true rfl) ?_
          refine vx_ret ?_
          exact W.iret (v := 1) hx hb hr (fun t ht hW => ⟨⟨1, (1, (fo)), rfl, ⟨rfl, by first | exact fun h => absurd h (by decide) | exact fun _ => rfl | rfl | decide | simp [hx20, hx21, hx30, hx31], fun h => absurd h (by decide)⟩, ⟨by rw [ht]; exact hP9, va_K.moved hW.alike hK9, hD9⟩⟩, hS.F ht⟩) hS.2.2 dL_sort_18
        exact absurd hw_20 id
      · refine lv_aload hx hb dL_sort_0 (lv_at hl 4 rfl) ?_
        refine lv_iconst (v := 0) hx hb dL_sort_2 (by decide) ?_
        refine lv_aload_n hx hb dL_sort_3 rfl (lv_at hl 0 rfl) ?_
        refine lv_iload_n hx hb dL_sort_4 rfl (lv_at hl 1 rfl) ?_
        refine lv_iload_n hx hb dL_sort_5 rfl (lv_at hl 2 rfl) ?_
        refine lv_iload_n hx hb dL_sort_6 rfl (lv_at hl 3 rfl) ?_
        refine z_i (wr := [(ou, .inl (kL, 1, .inr (.inl fo)))]) (va_runV (As := [.int 2, .int x2, .int x3]) (rest := [.int 0, .ref ou]) ⟨hx, hb, hml, hown, hts⟩ (c_H_sort_2 l eD eI ad dC dI s.heap.size hh aexpr achoo ameth aroom anod asort anote amet nm nl n1 n2 nf ns nh nk np kI kL x2 x3 (hx20) (hx21) (hx30) (hx31)) (cwV 3 hts g_c_L_sort_10 rfl rfl rfl (by decide +kernel) ⟨Nat.le_of_ble_eq_true rfl, Nat.le_of_ble_eq_true rfl⟩) (z_preV (wc := [(hh, .inr (13, [.ref aexpr, .ref achoo, .ref ameth, .ref aroom, .ref anod, .ref asort, .ref anote, .ref amet, .int 0, .int 1])), (asort, .inr (1, [.int 0, .ref eD, .int 0])), (anod, .inr (7, [.ref nm, .ref nl, .ref n1, .ref n2, .ref nf, .ref ns, .ref nh, .ref nk, .ref np, .int 16, .int 0, .int 16, .int 0, .int 0])), (ns, .inl (kL, 1024, .inr (.inl zSec))), (nm, .inl (kI, 12, .inl (fun _ => 0))), (nl, .inl (kI, 12, .inl (fun _ => 0))), (n1, .inl (kI, 12, .inl (fun _ => 0))), (n2, .inl (kI, 12, .inl (fun _ => 0)))]) hP hD hK hS hA hE [0, 1, 2, 3, 4, 5, 6, 7] [0, 1] rfl (by decide) rfl (ci := 13) (q0 := 0) rfl rfl) rfl rfl hl.1 rfl (lv_room (Nat.le_of_ble_eq_true rfl)) dL_sort_7 ⟨Nat.le_of_ble_eq_true rfl, Nat.le_of_ble_eq_true rfl⟩) hP hD hK hS hA [0, 1, 2, 3, 4, 5, 6, 7] [8] rfl rfl (by decide) (by decide) (fun r_21 u H locs hw_22 hP hD hK hS => ?_)
        obtain ⟨⟩ := u
        have hP : va_P (dC, dI) vwCl [(ou, .inl (kL, 1, .inr (.inl fo)))] H := hP
        have hD : va_D A [(ou, .inl (kL, 1, .inr (.inl fo)))] := hD
        have hK : va_K (dC, dI) vwCl [(kL, .long), (kI, .int)] s := by simpa using hK
        have hw_22 : r_21 = 0 := hw_22
        have hw_22 := hw_22.symm
        subst hw_22
        refine lv_i2l (v := 0) hx hb dL_sort_10 (by decide) ?_
        refine va_last (D := (dC, dI)) hx hb hK hP hD hS 0 0 rfl rfl (by unfold vp_in; decide) dL_sort_11 (fun H locs hP hD hS => ?_)
        have hP : va_P (dC, dI) vwCl [(ou, .inl (kL, 1, .inr (.inl (vp_updL fo (0 : Int32).toNatClampNeg 0))))] H := hP
        have hD : va_D A [(ou, .inl (kL, 1, .inr (.inl (vp_updL fo (0 : Int32).toNatClampNeg 0))))] := hD
        refine lv_goto (tgt := 23) hx hb dL_sort_12 (by decide) ?_
        refine lv_iconst (v := 0) hx hb dL_sort_23 (by decide) ?_
        have hP9 := hP.sub (ws' := [(ou, .inl (kL, 1, .inr (.inl (vp_updL fo (0 : Int32).toNatClampNeg 0))))]) [0] rfl
        have hD9 := hD.sub (ws' := [(ou, .inl (kL, 1, .inr (.inl (vp_updL fo (0 : Int32).toNatClampNeg 0))))]) [0] (by decide) rfl
        have hK9 := hK.sub (tys' := [(kL, .long)]) [0] rfl
        refine W.widen (k := 3) (n := 31) (Nat.le_of_ble_eq_true rfl) (Nat.le_of_ble_eq_true rfl) ?_
        refine vx_ret ?_
        exact W.iret (v := 0) hx hb hr (fun t ht hW => ⟨⟨0, (0, (vp_updL fo (0 : Int32).toNatClampNeg 0)), rfl, ⟨rfl, by first | exact fun h => absurd h (by decide) | exact fun _ => rfl | rfl | decide | simp [hx20, hx21, hx30, hx31], by first | exact fun _ => rfl | exact fun _ => by simp [vp_updL, hx20, hx21, hx30, hx31]⟩, ⟨by rw [ht]; exact hP9, va_K.moved hW.alike hK9, hD9⟩⟩, hS.F ht⟩) hS.2.2 dL_sort_24

def wb_c_L_parameter : List Cond := [.code yX11_parameter cX11_parameter 2 (some .int), .classLink RX11 66 "java/lang/IllegalArgumentException", .initialized "java/lang/IllegalArgumentException", .methodLink RL 26 yX11_parameter, .instanceMethod yX11_parameter, .selects RX11 yX11_parameter yX11_parameter, .initialized RX11, .classLink RL 13 "java/lang/IllegalArgumentException", .code yX11_needSpaceForType cX11_needSpaceForType 1 none, .fieldLink RX11 31 "Hornbook" "room" "LHornbook$Room;", .fieldLink RX11 344 "Hornbook$Room" "tellings" "I", .methodLink RX11 172 yX11_needSpaceForType, .instanceMethod yX11_needSpaceForType, .selects RX11 yX11_needSpaceForType yX11_needSpaceForType, .code yX7_tell cX7_tell 2 (some .int), .fieldLink RX7 29 "Hornbook$Room" "tellings" "I", .fieldLink RX7 25 "Hornbook$Room" "told" "[I", .methodLink RX11 188 yX7_tell, .instanceMethod yX7_tell, .selects RX7 yX7_tell yX7_tell, .initialized RX7] ++ u_ws RX11 TX11 10 ++ u_ws RX7 TX7 14
def w_c_L_parameter : List Cond := .codeWith yL_parameter cL_parameter 4 (some .int) [(0, 9, 12, 13), (0, 9, 15, 15)] :: (wb_c_L_parameter ++ zAt)
set_option maxRecDepth 100000 in
theorem g_c_L_parameter_0 : GoodIn w_c_L_parameter (wsV RL 26 RX11 yX11_parameter w_c_H_parameter_l) := goodIn_app (goodIn_of _ (by decide +kernel)) (goodIn_ca (goodIn_p (big := w_c_L_parameter) (.code yX11_parameter cX11_parameter 2 (some .int) :: wb_c_H_parameter_l) [1] rfl (by decide +kernel)) (goodIn_sub (fun _ h => List.mem_cons_of_mem _ (List.mem_append_right _ h)) zAt_good))
set_option maxRecDepth 100000 in
theorem g_c_L_parameter_1 : GoodIn w_c_L_parameter (wsV RL 26 RX11 yX11_parameter w_c_H_parameter_h) := goodIn_app (goodIn_of _ (by decide +kernel)) (goodIn_ca (goodIn_p (big := w_c_L_parameter) (.code yX11_parameter cX11_parameter 2 (some .int) :: wb_c_H_parameter_h) [1] rfl (by decide +kernel)) (goodIn_sub (fun _ h => List.mem_cons_of_mem _ (List.mem_append_right _ h)) zAt_good))
set_option maxRecDepth 100000 in
theorem g_c_L_parameter_2 : GoodIn w_c_L_parameter (wsV RL 26 RX11 yX11_parameter w_c_H_parameter_0) := goodIn_app (goodIn_of _ (by decide +kernel)) (goodIn_p (big := w_c_L_parameter) (.code yX11_parameter cX11_parameter 2 (some .int) :: wb_c_H_parameter_0) [1, 9, 15] rfl (by decide +kernel))
set_option maxRecDepth 100000 in
theorem g_c_L_parameter_3 : GoodIn w_c_L_parameter (wsV RL 26 RX11 yX11_parameter w_c_H_parameter_1) := goodIn_app (goodIn_of _ (by decide +kernel)) (goodIn_p (big := w_c_L_parameter) (.code yX11_parameter cX11_parameter 2 (some .int) :: wb_c_H_parameter_1) [1, 9, 15] rfl (by decide +kernel))
set_option maxHeartbeats 4000000 in
set_option maxRecDepth 100000 in
theorem c_L_parameter (l : Launch) (hfl : l.flags = flags0) (eD eI : Nat) (ad : Nat → Nat) (dC : Nat → ClassId) (dI : Nat → Nat → Nat) (sz : Nat) (hh : Nat) (aexpr : Nat) (achoo : Nat) (ameth : Nat) (aroom : Nat) (anod : Nat) (asort : Nat) (anote : Nat) (amet : Nat) (atold : Nat) (aheld : Nat) (apair : Nat) (astep : Nat) (asize : Nat) (ou : Nat) (kI : ClassId) (kL : ClassId) (x1 : Int32) (fo : Nat → Int64) : vx_Met l yL_parameter w_c_L_parameter ({ frames := 7, cells := 1, slots := 6, locals := 103 }) (va_Pc [.ref hh, .int x1, .ref ou] (zPreD eD eI ad (dC, dI) [(hh, .inr (13, [.ref aexpr, .ref achoo, .ref ameth, .ref aroom, .ref anod, .ref asort, .ref anote, .ref amet, .int 0, .int 1])), (aroom, .inr (9, [.ref asort, .ref anod, .ref atold, .int 3, .ref aheld, .int 0, .ref apair, .ref astep, .int 0, .int 0, .int (-1), .int 0, .int 0, .ref asize])), (atold, .inl (kI, 60, .inl zTold)), (ou, .inl (kL, 1, .inr (.inl fo)))] [(kI, .int), (kL, .long)] sz)) (va_Qi (fun (r : Int32) (u : Int32 × (Nat → Int64)) => match u with | (k2, fo2) => r = k2 ∧ k2 = (if x1 < 0 ∨ 1 < x1 then 1 else 0) ∧ (k2 = 0 → fo2 (0 : Int32).toNatClampNeg = (3 : Int32).toInt64)) (fun (u : Int32 × (Nat → Int64)) => match u with | (k2, fo2) => zEnd (dC, dI) (va_A [(hh, .inr (13, [.ref aexpr, .ref achoo, .ref ameth, .ref aroom, .ref anod, .ref asort, .ref anote, .ref amet, .int 0, .int 1])), (aroom, .inr (9, [.ref asort, .ref anod, .ref atold, .int 3, .ref aheld, .int 0, .ref apair, .ref astep, .int 0, .int 0, .int (-1), .int 0, .int 0, .ref asize])), (atold, .inl (kI, 60, .inl zTold)), (ou, .inl (kL, 1, .inr (.inl fo)))] sz) [(ou, .inl (kL, 1, .inr (.inl fo2)))] [(kL, .long)]) (va_A [(hh, .inr (13, [.ref aexpr, .ref achoo, .ref ameth, .ref aroom, .ref anod, .ref asort, .ref anote, .ref amet, .int 0, .int 1])), (aroom, .inr (9, [.ref asort, .ref anod, .ref atold, .int 3, .ref aheld, .int 0, .ref apair, .ref astep, .int 0, .int 0, .int (-1), .int 0, .int 0, .ref asize])), (atold, .inl (kI, 60, .inl zTold)), (ou, .inl (kL, 1, .inr (.inl fo)))] sz)) (zX (fun _ => False) (va_A [(hh, .inr (13, [.ref aexpr, .ref achoo, .ref ameth, .ref aroom, .ref anod, .ref asort, .ref anote, .ref amet, .int 0, .int 1])), (aroom, .inr (9, [.ref asort, .ref anod, .ref atold, .int 3, .ref aheld, .int 0, .ref apair, .ref astep, .int 0, .int 0, .int (-1), .int 0, .int 0, .ref asize])), (atold, .inl (kI, 60, .inl zTold)), (ou, .inl (kL, 1, .inr (.inl fo)))] sz)) 1 6 (va_A [(hh, .inr (13, [.ref aexpr, .ref achoo, .ref ameth, .ref aroom, .ref anod, .ref asort, .ref anote, .ref amet, .int 0, .int 1])), (aroom, .inr (9, [.ref asort, .ref anod, .ref atold, .int 3, .ref aheld, .int 0, .ref apair, .ref astep, .int 0, .int 0, .int (-1), .int 0, .int 0, .ref asize])), (atold, .inl (kI, 60, .inl zTold)), (ou, .inl (kL, 1, .inr (.inl fo)))] sz) := by
  refine vx_ofWH (cc := cL_parameter) (maxL := 4) (ret := (some .int)) (hh := [(0, 9, 12, 13), (0, 9, 15, 15)]) (by decide +kernel) rfl ?_
  intro p e s m args below meth c s₁ B hml hv
  obtain ⟨rfl, ⟨hsz, hP, hK, hD0, hE⟩, hDc⟩ := hv
  have hx := B.exec
  have hb := B.bytes
  have hr := B.returns
  have hts := atoms_spec (ws := w_c_L_parameter) B.pre
  have hown : s.vm.findClass RL = some m.cls := findClass_of_methodNamed B.named
  have hlocks := B.notSynchronized
  have htab := vx_table (x := yL_parameter) B (hts (.codeWith yL_parameter cL_parameter 4 (some .int) [(0, 9, 12, 13), (0, 9, 15, 15)]) List.mem_cons_self)
  subst hsz
  have hD := hD0.self (sz := s.heap.size)
  generalize hAe : va_A [(hh, .inr (13, [.ref aexpr, .ref achoo, .ref ameth, .ref aroom, .ref anod, .ref asort, .ref anote, .ref amet, .int 0, .int 1])), (aroom, .inr (9, [.ref asort, .ref anod, .ref atold, .int 3, .ref aheld, .int 0, .ref apair, .ref astep, .int 0, .int 0, .int (-1), .int 0, .int 0, .ref asize])), (atold, .inl (kI, 60, .inl zTold)), (ou, .inl (kL, 1, .inr (.inl fo)))] s.heap.size = A at hD hE ⊢
  have hA : ∀ q : Nat, s.heap.size ≤ q → A q := fun q h => by rw [← hAe]; exact Or.inr h
  have hS : va_S A s.heap s.heap [] := va_S.rf
  have hP : va_P (dC, dI) vwCl [(hh, .inr (13, [.ref aexpr, .ref achoo, .ref ameth, .ref aroom, .ref anod, .ref asort, .ref anote, .ref amet, .int 0, .int 1])), (aroom, .inr (9, [.ref asort, .ref anod, .ref atold, .int 3, .ref aheld, .int 0, .ref apair, .ref astep, .int 0, .int 0, .int (-1), .int 0, .int 0, .ref asize])), (atold, .inl (kI, 60, .inl zTold)), (ou, .inl (kL, 1, .inr (.inl fo)))] s.heap := hP
  have hl := lv_entry ([.ref hh, .int x1, .ref ou]) (n := 4) (Nat.le_of_ble_eq_true rfl)
  rw [lg_entry_eq]
  generalize (lg_sl ([.ref hh, .int x1, .ref ou]) ++ List.replicate (4 - (lg_sl ([.ref hh, .int x1, .ref ou])).length) Slot.unset).toArray = ls at hl ⊢
  have hl : lv_has ls 4 [(0, .ref hh), (1, .int x1), (2, .ref ou)] := hl
  have in_RX11 : ∀ w ∈ u_ws RX11 TX11 10, w ∈ w_c_L_parameter := by decide +kernel
  have in_RX7 : ∀ w ∈ u_ws RX7 TX7 14, w ∈ w_c_L_parameter := by decide +kernel
  rcases z_split2 x1 with hx11 | ⟨hx10, hx11⟩ | rfl | rfl
  · refine lv_aload_n hx hb dL_parameter_0 rfl (lv_at hl 2 rfl) ?_
    refine lv_iconst (v := 0) hx hb dL_parameter_1 (by decide) ?_
    refine lv_aload_n hx hb dL_parameter_2 rfl (lv_at hl 0 rfl) ?_
    refine lv_iload_n hx hb dL_parameter_3 rfl (lv_at hl 1 rfl) ?_
    refine zx_i (wr := [(aroom, .inr (9, [.ref asort, .ref anod, .ref atold, .int 3, .ref aheld, .int 0, .ref apair, .ref astep, .int 0, .int 0, .int (-1), .int 0, .int 0, .ref asize])), (atold, .inl (kI, 60, .inl zTold)), (ou, .inl (kL, 1, .inr (.inl fo)))]) (vx_runV (As := [.int x1]) (rest := [.int 0, .ref ou]) ⟨hx, hb, hml, hown, hts⟩ (c_H_parameter_l l hfl eD eI ad dC dI s.heap.size hh aexpr achoo ameth aroom anod asort anote amet x1 (hx11)) (cwV 1 hts g_c_L_parameter_0 rfl rfl rfl (by decide +kernel) ⟨Nat.le_of_ble_eq_true rfl, Nat.le_of_ble_eq_true rfl⟩) (z_preVD (wc := [(hh, .inr (13, [.ref aexpr, .ref achoo, .ref ameth, .ref aroom, .ref anod, .ref asort, .ref anote, .ref amet, .int 0, .int 1]))]) hP hD hK hS hA hE [0] [] rfl (by decide) rfl (ci := 13) (q0 := 0) rfl rfl hDc) rfl rfl hl.1 rfl (lv_room (Nat.le_of_ble_eq_true rfl)) dL_parameter_4 ⟨Nat.le_of_ble_eq_true rfl, Nat.le_of_ble_eq_true rfl⟩) hP hD hK hS hA [0] [1, 2, 3] rfl rfl (by decide) (by decide) (fun E ce q9 H locs hbad hP hD hS h91 h92 h93 => ?_) (fun r_1 u H locs hw_2 hP hD hK hS => ?_)
    · have hbad : E = "java/lang/IllegalArgumentException" := hbad
      subst hbad
      refine vx_catch (name := "java/lang/IllegalArgumentException") hown [] ⟨0, 9, 12, 13⟩ [⟨0, 9, 15, 15⟩] (by rw [htab]; rfl) (fun z h => by simp at h) (by decide) (by decide) (hts (.classLink RL 13 "java/lang/IllegalArgumentException") (by decide +kernel)) (va_Nw.use rfl (hE.2.2.2.2.2.2.2.1 ("java/lang/IllegalArgumentException", "java/lang/IllegalArgumentException") (by decide +kernel))) h91 h92 h93 ?_
      refine W.eq (g2 := F0 m 12 ls [.ref q9]) rfl ?_
      refine lv_astore_n (lv' := [(3, .ref q9), (0, .ref hh), (1, .int x1), (2, .ref ou)]) hx hb dL_parameter_12 rfl hl (by decide) rfl (fun ls hl => ?_)
      refine lv_iconst (v := 1) hx hb dL_parameter_13 (by decide) ?_
      have hP9 := hP.sub (ws' := [(ou, .inl (kL, 1, .inr (.inl fo)))]) [2] rfl
      have hD9 := hD.sub (ws' := [(ou, .inl (kL, 1, .inr (.inl fo)))]) [2] (by decide) rfl
      have hK9 := hK.sub (tys' := [(kL, .long)]) [1] rfl
      refine W.widen (k := 1) (n := 6) (Nat.le_of_ble_eq_true rfl) (Nat.le_of_ble_eq_true rfl) ?_
      refine vx_ret ?_
      exact W.iret (v := 1) hx hb hr (fun t ht hW => ⟨⟨1, (1, (fo)), rfl, ⟨rfl, by first | exact fun h => absurd h (by decide) | exact fun _ => rfl | rfl | decide | simp [hx11], fun h => absurd h (by decide)⟩, ⟨by rw [ht]; exact hP9, va_K.moved hW.alike hK9, hD9⟩⟩, hS.F ht⟩) hS.2.2 dL_parameter_14
    exact absurd hw_2 id
  · refine lv_aload_n hx hb dL_parameter_0 rfl (lv_at hl 2 rfl) ?_
    refine lv_iconst (v := 0) hx hb dL_parameter_1 (by decide) ?_
    refine lv_aload_n hx hb dL_parameter_2 rfl (lv_at hl 0 rfl) ?_
    refine lv_iload_n hx hb dL_parameter_3 rfl (lv_at hl 1 rfl) ?_
    refine zx_i (wr := [(aroom, .inr (9, [.ref asort, .ref anod, .ref atold, .int 3, .ref aheld, .int 0, .ref apair, .ref astep, .int 0, .int 0, .int (-1), .int 0, .int 0, .ref asize])), (atold, .inl (kI, 60, .inl zTold)), (ou, .inl (kL, 1, .inr (.inl fo)))]) (vx_runV (As := [.int x1]) (rest := [.int 0, .ref ou]) ⟨hx, hb, hml, hown, hts⟩ (c_H_parameter_h l hfl eD eI ad dC dI s.heap.size hh aexpr achoo ameth aroom anod asort anote amet x1 (hx10) (hx11)) (cwV 1 hts g_c_L_parameter_1 rfl rfl rfl (by decide +kernel) ⟨Nat.le_of_ble_eq_true rfl, Nat.le_of_ble_eq_true rfl⟩) (z_preVD (wc := [(hh, .inr (13, [.ref aexpr, .ref achoo, .ref ameth, .ref aroom, .ref anod, .ref asort, .ref anote, .ref amet, .int 0, .int 1]))]) hP hD hK hS hA hE [0] [] rfl (by decide) rfl (ci := 13) (q0 := 0) rfl rfl hDc) rfl rfl hl.1 rfl (lv_room (Nat.le_of_ble_eq_true rfl)) dL_parameter_4 ⟨Nat.le_of_ble_eq_true rfl, Nat.le_of_ble_eq_true rfl⟩) hP hD hK hS hA [0] [1, 2, 3] rfl rfl (by decide) (by decide) (fun E ce q9 H locs hbad hP hD hS h91 h92 h93 => ?_) (fun r_3 u H locs hw_4 hP hD hK hS => ?_)
    · have hbad : E = "java/lang/IllegalArgumentException" := hbad
      subst hbad
      refine vx_catch (name := "java/lang/IllegalArgumentException") hown [] ⟨0, 9, 12, 13⟩ [⟨0, 9, 15, 15⟩] (by rw [htab]; rfl) (fun z h => by simp at h) (by decide) (by decide) (hts (.classLink RL 13 "java/lang/IllegalArgumentException") (by decide +kernel)) (va_Nw.use rfl (hE.2.2.2.2.2.2.2.1 ("java/lang/IllegalArgumentException", "java/lang/IllegalArgumentException") (by decide +kernel))) h91 h92 h93 ?_
      refine W.eq (g2 := F0 m 12 ls [.ref q9]) rfl ?_
      refine lv_astore_n (lv' := [(3, .ref q9), (0, .ref hh), (1, .int x1), (2, .ref ou)]) hx hb dL_parameter_12 rfl hl (by decide) rfl (fun ls hl => ?_)
      refine lv_iconst (v := 1) hx hb dL_parameter_13 (by decide) ?_
      have hP9 := hP.sub (ws' := [(ou, .inl (kL, 1, .inr (.inl fo)))]) [2] rfl
      have hD9 := hD.sub (ws' := [(ou, .inl (kL, 1, .inr (.inl fo)))]) [2] (by decide) rfl
      have hK9 := hK.sub (tys' := [(kL, .long)]) [1] rfl
      refine W.widen (k := 1) (n := 6) (Nat.le_of_ble_eq_true rfl) (Nat.le_of_ble_eq_true rfl) ?_
      refine vx_ret ?_
      exact W.iret (v := 1) hx hb hr (fun t ht hW => ⟨⟨1, (1, (fo)), rfl, ⟨rfl, by first | exact fun h => absurd h (by decide) | exact fun _ => rfl | rfl | decide | simp [hx10, hx11], fun h => absurd h (by decide)⟩, ⟨by rw [ht]; exact hP9, va_K.moved hW.alike hK9, hD9⟩⟩, hS.F ht⟩) hS.2.2 dL_parameter_14
    exact absurd hw_4 id
  · refine lv_aload_n hx hb dL_parameter_0 rfl (lv_at hl 2 rfl) ?_
    refine lv_iconst (v := 0) hx hb dL_parameter_1 (by decide) ?_
    refine lv_aload_n hx hb dL_parameter_2 rfl (lv_at hl 0 rfl) ?_
    refine lv_iload_n hx hb dL_parameter_3 rfl (lv_at hl 1 rfl) ?_
    refine z_i (wr := [(ou, .inl (kL, 1, .inr (.inl fo)))]) (va_runV (As := [.int 0]) (rest := [.int 0, .ref ou]) ⟨hx, hb, hml, hown, hts⟩ (c_H_parameter_0 l eD eI ad dC dI s.heap.size hh aexpr achoo ameth aroom anod asort anote amet atold aheld apair astep asize kI) (cwV 1 hts g_c_L_parameter_2 rfl rfl rfl (by decide +kernel) ⟨Nat.le_of_ble_eq_true rfl, Nat.le_of_ble_eq_true rfl⟩) (z_preV (wc := [(hh, .inr (13, [.ref aexpr, .ref achoo, .ref ameth, .ref aroom, .ref anod, .ref asort, .ref anote, .ref amet, .int 0, .int 1])), (aroom, .inr (9, [.ref asort, .ref anod, .ref atold, .int 3, .ref aheld, .int 0, .ref apair, .ref astep, .int 0, .int 0, .int (-1), .int 0, .int 0, .ref asize])), (atold, .inl (kI, 60, .inl zTold))]) hP hD hK hS hA hE [0, 1, 2] [0] rfl (by decide) rfl (ci := 13) (q0 := 0) rfl rfl) rfl rfl hl.1 rfl (lv_room (Nat.le_of_ble_eq_true rfl)) dL_parameter_4 ⟨Nat.le_of_ble_eq_true rfl, Nat.le_of_ble_eq_true rfl⟩) hP hD hK hS hA [0, 1, 2] [3] rfl rfl (by decide) (by decide) (fun r_5 u H locs hw_6 hP hD hK hS => ?_)
    obtain ⟨⟩ := u
    have hP : va_P (dC, dI) vwCl [(ou, .inl (kL, 1, .inr (.inl fo)))] H := hP
    have hD : va_D A [(ou, .inl (kL, 1, .inr (.inl fo)))] := hD
    have hK : va_K (dC, dI) vwCl [(kI, .int), (kL, .long)] s := by simpa using hK
    have hw_6 : r_5 = 3 := hw_6
    have hw_6 := hw_6.symm
    subst hw_6
    refine lv_i2l (v := 3) hx hb dL_parameter_7 (by decide) ?_
    refine va_last (D := (dC, dI)) hx hb hK hP hD hS 0 1 rfl rfl (by unfold vp_in; decide) dL_parameter_8 (fun H locs hP hD hS => ?_)
    have hP : va_P (dC, dI) vwCl [(ou, .inl (kL, 1, .inr (.inl (vp_updL fo (0 : Int32).toNatClampNeg 3))))] H := hP
    have hD : va_D A [(ou, .inl (kL, 1, .inr (.inl (vp_updL fo (0 : Int32).toNatClampNeg 3))))] := hD
    refine lv_goto (tgt := 18) hx hb dL_parameter_9 (by decide) ?_
    refine lv_iconst (v := 0) hx hb dL_parameter_18 (by decide) ?_
    have hP9 := hP.sub (ws' := [(ou, .inl (kL, 1, .inr (.inl (vp_updL fo (0 : Int32).toNatClampNeg 3))))]) [0] rfl
    have hD9 := hD.sub (ws' := [(ou, .inl (kL, 1, .inr (.inl (vp_updL fo (0 : Int32).toNatClampNeg 3))))]) [0] (by decide) rfl
    have hK9 := hK.sub (tys' := [(kL, .long)]) [1] rfl
    refine W.widen (k := 1) (n := 6) (Nat.le_of_ble_eq_true rfl) (Nat.le_of_ble_eq_true rfl) ?_
    refine vx_ret ?_
    exact W.iret (v := 0) hx hb hr (fun t ht hW => ⟨⟨0, (0, (vp_updL fo (0 : Int32).toNatClampNeg 3)), rfl, ⟨rfl, by first | exact fun h => absurd h (by decide) | exact fun _ => rfl | rfl | decide | simp, by first | exact fun _ => rfl | exact fun _ => by simp [vp_updL]⟩, ⟨by rw [ht]; exact hP9, va_K.moved hW.alike hK9, hD9⟩⟩, hS.F ht⟩) hS.2.2 dL_parameter_19
  · refine lv_aload_n hx hb dL_parameter_0 rfl (lv_at hl 2 rfl) ?_
    refine lv_iconst (v := 0) hx hb dL_parameter_1 (by decide) ?_
    refine lv_aload_n hx hb dL_parameter_2 rfl (lv_at hl 0 rfl) ?_
    refine lv_iload_n hx hb dL_parameter_3 rfl (lv_at hl 1 rfl) ?_
    refine z_i (wr := [(ou, .inl (kL, 1, .inr (.inl fo)))]) (va_runV (As := [.int 1]) (rest := [.int 0, .ref ou]) ⟨hx, hb, hml, hown, hts⟩ (c_H_parameter_1 l eD eI ad dC dI s.heap.size hh aexpr achoo ameth aroom anod asort anote amet atold aheld apair astep asize kI) (cwV 1 hts g_c_L_parameter_3 rfl rfl rfl (by decide +kernel) ⟨Nat.le_of_ble_eq_true rfl, Nat.le_of_ble_eq_true rfl⟩) (z_preV (wc := [(hh, .inr (13, [.ref aexpr, .ref achoo, .ref ameth, .ref aroom, .ref anod, .ref asort, .ref anote, .ref amet, .int 0, .int 1])), (aroom, .inr (9, [.ref asort, .ref anod, .ref atold, .int 3, .ref aheld, .int 0, .ref apair, .ref astep, .int 0, .int 0, .int (-1), .int 0, .int 0, .ref asize])), (atold, .inl (kI, 60, .inl zTold))]) hP hD hK hS hA hE [0, 1, 2] [0] rfl (by decide) rfl (ci := 13) (q0 := 0) rfl rfl) rfl rfl hl.1 rfl (lv_room (Nat.le_of_ble_eq_true rfl)) dL_parameter_4 ⟨Nat.le_of_ble_eq_true rfl, Nat.le_of_ble_eq_true rfl⟩) hP hD hK hS hA [0, 1, 2] [3] rfl rfl (by decide) (by decide) (fun r_7 u H locs hw_8 hP hD hK hS => ?_)
    obtain ⟨⟩ := u
    have hP : va_P (dC, dI) vwCl [(ou, .inl (kL, 1, .inr (.inl fo)))] H := hP
    have hD : va_D A [(ou, .inl (kL, 1, .inr (.inl fo)))] := hD
    have hK : va_K (dC, dI) vwCl [(kI, .int), (kL, .long)] s := by simpa using hK
    have hw_8 : r_7 = 3 := hw_8
    have hw_8 := hw_8.symm
    subst hw_8
    refine lv_i2l (v := 3) hx hb dL_parameter_7 (by decide) ?_
    refine va_last (D := (dC, dI)) hx hb hK hP hD hS 0 1 rfl rfl (by unfold vp_in; decide) dL_parameter_8 (fun H locs hP hD hS => ?_)
    have hP : va_P (dC, dI) vwCl [(ou, .inl (kL, 1, .inr (.inl (vp_updL fo (0 : Int32).toNatClampNeg 3))))] H := hP
    have hD : va_D A [(ou, .inl (kL, 1, .inr (.inl (vp_updL fo (0 : Int32).toNatClampNeg 3))))] := hD
    refine lv_goto (tgt := 18) hx hb dL_parameter_9 (by decide) ?_
    refine lv_iconst (v := 0) hx hb dL_parameter_18 (by decide) ?_
    have hP9 := hP.sub (ws' := [(ou, .inl (kL, 1, .inr (.inl (vp_updL fo (0 : Int32).toNatClampNeg 3))))]) [0] rfl
    have hD9 := hD.sub (ws' := [(ou, .inl (kL, 1, .inr (.inl (vp_updL fo (0 : Int32).toNatClampNeg 3))))]) [0] (by decide) rfl
    have hK9 := hK.sub (tys' := [(kL, .long)]) [1] rfl
    refine W.widen (k := 1) (n := 6) (Nat.le_of_ble_eq_true rfl) (Nat.le_of_ble_eq_true rfl) ?_
    refine vx_ret ?_
    exact W.iret (v := 0) hx hb hr (fun t ht hW => ⟨⟨0, (0, (vp_updL fo (0 : Int32).toNatClampNeg 3)), rfl, ⟨rfl, by first | exact fun h => absurd h (by decide) | exact fun _ => rfl | rfl | decide | simp, by first | exact fun _ => rfl | exact fun _ => by simp [vp_updL]⟩, ⟨by rw [ht]; exact hP9, va_K.moved hW.alike hK9, hD9⟩⟩, hS.F ht⟩) hS.2.2 dL_parameter_19

def wb_c_L_value : List Cond := [.code yX11_value cX11_value 2 (some .int), .code yX11_needType cX11_needType 2 none, .classLink RX11 277 "java/lang/IndexOutOfBoundsException", .initialized "java/lang/IndexOutOfBoundsException", .methodLink RX11 116 yX11_needType, .instanceMethod yX11_needType, .selects RX11 yX11_needType yX11_needType, .initialized RX11, .methodLink RL 34 yX11_value, .instanceMethod yX11_value, .selects RX11 yX11_value yX11_value, .classLink RL 21 "java/lang/IndexOutOfBoundsException", .fieldLink RX11 31 "Hornbook" "room" "LHornbook$Room;", .fieldLink RX11 344 "Hornbook$Room" "tellings" "I", .code yX11_needClosed cX11_needClosed 2 none, .code yX7_toldAt cX7_toldAt 2 (some .int), .fieldLink RX7 29 "Hornbook$Room" "tellings" "I", .fieldLink RX7 25 "Hornbook$Room" "told" "[I", .methodLink RX11 123 yX7_toldAt, .instanceMethod yX7_toldAt, .selects RX7 yX7_toldAt yX7_toldAt, .initialized RX7, .code yX11_has cX11_has 3 (some .boolean), .fieldLink RX11 38 "Hornbook" "nodes" "LHornbook$Nodes;", .code yX5_openOf cX5_openOf 2 (some .int), .fieldLink RX5 28 "Hornbook$Nodes" "second" "[J", .fieldLink RX5 24 "Hornbook$Nodes" "first" "[J", .methodLink RX11 367 yX5_openOf, .instanceMethod yX5_openOf, .selects RX5 yX5_openOf yX5_openOf, .initialized RX5, .methodLink RX11 138 yX11_has, .instanceMethod yX11_has, .selects RX11 yX11_has yX11_has, .methodLink RX11 225 yX11_needClosed, .instanceMethod yX11_needClosed, .selects RX11 yX11_needClosed yX11_needClosed, .code yX11_addExpression cX11_addExpression 8 (some .int), .fieldLink RX11 12 "Hornbook" "expressions" "Ljava/util/ArrayList;", .code yJx4a65c_size_8abf5 cJx4a65c_size_8abf5 1 (some .int), .fieldLink RJx4a65c 48 "java/util/ArrayList" "size" "I", .methodLink RX11 73 yJx4a65c_size_8abf5, .instanceMethod yJx4a65c_size_8abf5, .selects RJx4a65c yJx4a65c_size_8abf5 yJx4a65c_size_8abf5, .initialized RJx4a65c, .classLink RX11 235 RX2, .instantiable RX2 15, .initialized RX2, .code yX2_init cX2_init 1 none, .methodLink RX2 3 objectInit, .instanceMethod objectInit, .code objectInit ⟨#[0xb1]⟩ 1 none, .fieldLink RX2 9 "Hornbook$Expression" "result" "I", .fieldLink RX2 15 "Hornbook$Expression" "own" "I", .instanceMethod yX2_init, .fieldLink RX11 284 "Hornbook$Expression" "number" "I", .fieldLink RX11 376 "Hornbook$Expression" "kind" "I", .fieldLink RX11 379 "Hornbook$Expression" "a" "LHornbook$Expression;", .fieldLink RX11 383 "Hornbook$Expression" "b" "LHornbook$Expression;", .fieldLink RX11 386 "Hornbook$Expression" "c" "LHornbook$Expression;", .fieldLink RX11 389 "Hornbook$Expression" "name" "I", .fieldLink RX11 390 "Hornbook$Expression" "told" "I", .code yJx4a65c_add_9ea2d cJx4a65c_add_9ea2d 2 (some .boolean), .sameField "java/util/ArrayList" "java/util/AbstractList" "modCount" "I", .fieldLink RJx4a65c 63 "java/util/ArrayList" "modCount" "I", .fieldLink RJx4a65c 9 "java/util/ArrayList" "elementData" "[Ljava/lang/Object;", .code yJx4a65c_add_72be8 cJx4a65c_add_72be8 4 none, .code yJx4a65c_grow_d5877 cJx4a65c_grow_d5877 1 (some (.array (.object "java/lang/Object"))), .code yJx4a65c_grow_92f84 cJx4a65c_grow_92f84 4 (some (.array (.object "java/lang/Object"))), .fieldLink RJx4a65c 39 "java/util/ArrayList" "DEFAULTCAPACITY_EMPTY_ELEMENTDATA" "[Ljava/lang/Object;", .methodLink RJx4a65c 79 Lib.Math.max.name, .static Lib.Math.max.name, .initialized "java/lang/Math", .code Lib.Math.max.name Lib.Math.max.code 2 (some .int), .classLink RJx4a65c 7 "java/lang/Object", .methodLink RJx4a65c 69 yJx4a65c_grow_92f84, .instanceMethod yJx4a65c_grow_92f84, .selects RJx4a65c yJx4a65c_grow_92f84 yJx4a65c_grow_92f84, .methodLink RJx4a65c 129 yJx4a65c_grow_d5877, .instanceMethod yJx4a65c_grow_d5877, .selects RJx4a65c yJx4a65c_grow_d5877 yJx4a65c_grow_d5877, .methodLink RJx4a65c 131 yJx4a65c_add_72be8, .instanceMethod yJx4a65c_add_72be8, .selects RJx4a65c yJx4a65c_add_72be8 yJx4a65c_add_72be8, .methodLink RX11 108 yJx4a65c_add_9ea2d, .instanceMethod yJx4a65c_add_9ea2d, .selects RJx4a65c yJx4a65c_add_9ea2d yJx4a65c_add_9ea2d, .methodLink RX11 228 yX11_addExpression, .instanceMethod yX11_addExpression, .selects RX11 yX11_addExpression yX11_addExpression, .classLink RX11 66 "java/lang/IllegalArgumentException", .initialized "java/lang/IllegalArgumentException", .classLink RL 13 "java/lang/IllegalArgumentException"] ++ u_ws RJx4a65c TJx4a65c 3 ++ u_ws RX11 TX11 10 ++ u_ws RX2 TX2 15 ++ u_ws RX5 TX5 14 ++ u_ws RX7 TX7 14
def w_c_L_value : List Cond := .codeWith yL_value cL_value 4 (some .int) [(0, 9, 12, 21), (0, 9, 15, 13), (0, 9, 18, 15)] :: (wb_c_L_value ++ zAt)
set_option maxRecDepth 100000 in
theorem g_c_L_value_0 : GoodIn w_c_L_value (wsV RL 34 RX11 yX11_value w_c_H_value_l) := goodIn_app (goodIn_of _ (by decide +kernel)) (goodIn_ca (goodIn_p (big := w_c_L_value) (.code yX11_value cX11_value 2 (some .int) :: wb_c_H_value_l) [1, 2] rfl (by decide +kernel)) (goodIn_sub (fun _ h => List.mem_cons_of_mem _ (List.mem_append_right _ h)) zAt_good))
set_option maxRecDepth 100000 in
theorem g_c_L_value_1 : GoodIn w_c_L_value (wsV RL 34 RX11 yX11_value w_c_H_value_h) := goodIn_app (goodIn_of _ (by decide +kernel)) (goodIn_ca (goodIn_p (big := w_c_L_value) (.code yX11_value cX11_value 2 (some .int) :: wb_c_H_value_h) [1, 2] rfl (by decide +kernel)) (goodIn_sub (fun _ h => List.mem_cons_of_mem _ (List.mem_append_right _ h)) zAt_good))
set_option maxRecDepth 100000 in
theorem g_c_L_value_2 : GoodIn w_c_L_value (wsV RL 34 RX11 yX11_value w_c_H_value_0) := goodIn_app (goodIn_of _ (by decide +kernel)) (goodIn_p (big := w_c_L_value) (.code yX11_value cX11_value 2 (some .int) :: wb_c_H_value_0) [1, 2, 15, 16, 23, 25, 38, 40, 49, 52, 63, 67, 68, 69, 74] rfl (by decide +kernel))
set_option maxRecDepth 100000 in
theorem g_c_L_value_3 : GoodIn w_c_L_value (wsV RL 34 RX11 yX11_value w_c_H_value_1) := goodIn_app (goodIn_of _ (by decide +kernel)) (goodIn_p (big := w_c_L_value) (.code yX11_value cX11_value 2 (some .int) :: wb_c_H_value_1) [1, 2, 15, 16, 23, 25, 38, 40, 49, 52, 63, 67, 68, 69, 74] rfl (by decide +kernel))
set_option maxRecDepth 100000 in
theorem g_c_L_value_4 : GoodIn w_c_L_value (wsV RL 34 RX11 yX11_value w_c_H_value_2) := goodIn_app (goodIn_of _ (by decide +kernel)) (goodIn_ca (goodIn_p (big := w_c_L_value) (.code yX11_value cX11_value 2 (some .int) :: wb_c_H_value_2) [1, 2, 15, 16, 23, 25] rfl (by decide +kernel)) (goodIn_sub (fun _ h => List.mem_cons_of_mem _ (List.mem_append_right _ h)) zAt_good))
set_option maxHeartbeats 4000000 in
set_option maxRecDepth 100000 in
theorem c_L_value (l : Launch) (hfl : l.flags = flags0) (eD eI : Nat) (ad : Nat → Nat) (dC : Nat → ClassId) (dI : Nat → Nat → Nat) (sz : Nat) (hh : Nat) (aexpr : Nat) (achoo : Nat) (ameth : Nat) (aroom : Nat) (anod : Nat) (asort : Nat) (anote : Nat) (amet : Nat) (atold : Nat) (aheld : Nat) (apair : Nat) (astep : Nat) (asize : Nat) (nm : Nat) (nl : Nat) (n1 : Nat) (n2 : Nat) (nf : Nat) (ns : Nat) (nh : Nat) (nk : Nat) (np : Nat) (ou : Nat) (kI : ClassId) (kL : ClassId) (x1 : Int32) (fo : Nat → Int64) : vx_Met l yL_value w_c_L_value ({ frames := 8, cells := 2, slots := 25, locals := 149 }) (va_Pc [.ref hh, .int x1, .ref ou] (zPreD eD eI ad (dC, dI) [(hh, .inr (13, [.ref aexpr, .ref achoo, .ref ameth, .ref aroom, .ref anod, .ref asort, .ref anote, .ref amet, .int 0, .int 1])), (aroom, .inr (9, [.ref asort, .ref anod, .ref atold, .int 3, .ref aheld, .int 0, .ref apair, .ref astep, .int 0, .int 0, .int (-1), .int 0, .int 0, .ref asize])), (atold, .inl (kI, 60, .inl zTold)), (anod, .inr (7, [.ref nm, .ref nl, .ref n1, .ref n2, .ref nf, .ref ns, .ref nh, .ref nk, .ref np, .int 16, .int 0, .int 16, .int 0, .int 0])), (ns, .inl (kL, 1024, .inr (.inl zSec))), (nf, .inl (kL, 1024, .inr (.inl zFir))), (aexpr, .inr (1, [.int 0, .ref eD, .int 0])), (ou, .inl (kL, 1, .inr (.inl fo)))] [(kI, .int), (kL, .long)] sz)) (va_Qi (fun (r : Int32) (u : Int32 × (Nat → Int64)) => match u with | (k2, fo2) => r = k2 ∧ k2 = (if x1 < 0 ∨ 2 < x1 then 1 else if x1 = 2 then 2 else 0) ∧ (k2 = 0 → fo2 (0 : Int32).toNatClampNeg = (0 : Int32).toInt64)) (fun (u : Int32 × (Nat → Int64)) => match u with | (k2, fo2) => zEnd (dC, dI) (va_A [(hh, .inr (13, [.ref aexpr, .ref achoo, .ref ameth, .ref aroom, .ref anod, .ref asort, .ref anote, .ref amet, .int 0, .int 1])), (aroom, .inr (9, [.ref asort, .ref anod, .ref atold, .int 3, .ref aheld, .int 0, .ref apair, .ref astep, .int 0, .int 0, .int (-1), .int 0, .int 0, .ref asize])), (atold, .inl (kI, 60, .inl zTold)), (anod, .inr (7, [.ref nm, .ref nl, .ref n1, .ref n2, .ref nf, .ref ns, .ref nh, .ref nk, .ref np, .int 16, .int 0, .int 16, .int 0, .int 0])), (ns, .inl (kL, 1024, .inr (.inl zSec))), (nf, .inl (kL, 1024, .inr (.inl zFir))), (aexpr, .inr (1, [.int 0, .ref eD, .int 0])), (ou, .inl (kL, 1, .inr (.inl fo)))] sz) [(ou, .inl (kL, 1, .inr (.inl fo2)))] [(kL, .long)]) (va_A [(hh, .inr (13, [.ref aexpr, .ref achoo, .ref ameth, .ref aroom, .ref anod, .ref asort, .ref anote, .ref amet, .int 0, .int 1])), (aroom, .inr (9, [.ref asort, .ref anod, .ref atold, .int 3, .ref aheld, .int 0, .ref apair, .ref astep, .int 0, .int 0, .int (-1), .int 0, .int 0, .ref asize])), (atold, .inl (kI, 60, .inl zTold)), (anod, .inr (7, [.ref nm, .ref nl, .ref n1, .ref n2, .ref nf, .ref ns, .ref nh, .ref nk, .ref np, .int 16, .int 0, .int 16, .int 0, .int 0])), (ns, .inl (kL, 1024, .inr (.inl zSec))), (nf, .inl (kL, 1024, .inr (.inl zFir))), (aexpr, .inr (1, [.int 0, .ref eD, .int 0])), (ou, .inl (kL, 1, .inr (.inl fo)))] sz)) (zX (fun _ => False) (va_A [(hh, .inr (13, [.ref aexpr, .ref achoo, .ref ameth, .ref aroom, .ref anod, .ref asort, .ref anote, .ref amet, .int 0, .int 1])), (aroom, .inr (9, [.ref asort, .ref anod, .ref atold, .int 3, .ref aheld, .int 0, .ref apair, .ref astep, .int 0, .int 0, .int (-1), .int 0, .int 0, .ref asize])), (atold, .inl (kI, 60, .inl zTold)), (anod, .inr (7, [.ref nm, .ref nl, .ref n1, .ref n2, .ref nf, .ref ns, .ref nh, .ref nk, .ref np, .int 16, .int 0, .int 16, .int 0, .int 0])), (ns, .inl (kL, 1024, .inr (.inl zSec))), (nf, .inl (kL, 1024, .inr (.inl zFir))), (aexpr, .inr (1, [.int 0, .ref eD, .int 0])), (ou, .inl (kL, 1, .inr (.inl fo)))] sz)) 2 25 (va_A [(hh, .inr (13, [.ref aexpr, .ref achoo, .ref ameth, .ref aroom, .ref anod, .ref asort, .ref anote, .ref amet, .int 0, .int 1])), (aroom, .inr (9, [.ref asort, .ref anod, .ref atold, .int 3, .ref aheld, .int 0, .ref apair, .ref astep, .int 0, .int 0, .int (-1), .int 0, .int 0, .ref asize])), (atold, .inl (kI, 60, .inl zTold)), (anod, .inr (7, [.ref nm, .ref nl, .ref n1, .ref n2, .ref nf, .ref ns, .ref nh, .ref nk, .ref np, .int 16, .int 0, .int 16, .int 0, .int 0])), (ns, .inl (kL, 1024, .inr (.inl zSec))), (nf, .inl (kL, 1024, .inr (.inl zFir))), (aexpr, .inr (1, [.int 0, .ref eD, .int 0])), (ou, .inl (kL, 1, .inr (.inl fo)))] sz) := by
  refine vx_ofWH (cc := cL_value) (maxL := 4) (ret := (some .int)) (hh := [(0, 9, 12, 21), (0, 9, 15, 13), (0, 9, 18, 15)]) (by decide +kernel) rfl ?_
  intro p e s m args below meth c s₁ B hml hv
  obtain ⟨rfl, ⟨hsz, hP, hK, hD0, hE⟩, hDc⟩ := hv
  have hx := B.exec
  have hb := B.bytes
  have hr := B.returns
  have hts := atoms_spec (ws := w_c_L_value) B.pre
  have hown : s.vm.findClass RL = some m.cls := findClass_of_methodNamed B.named
  have hlocks := B.notSynchronized
  have htab := vx_table (x := yL_value) B (hts (.codeWith yL_value cL_value 4 (some .int) [(0, 9, 12, 21), (0, 9, 15, 13), (0, 9, 18, 15)]) List.mem_cons_self)
  subst hsz
  have hD := hD0.self (sz := s.heap.size)
  generalize hAe : va_A [(hh, .inr (13, [.ref aexpr, .ref achoo, .ref ameth, .ref aroom, .ref anod, .ref asort, .ref anote, .ref amet, .int 0, .int 1])), (aroom, .inr (9, [.ref asort, .ref anod, .ref atold, .int 3, .ref aheld, .int 0, .ref apair, .ref astep, .int 0, .int 0, .int (-1), .int 0, .int 0, .ref asize])), (atold, .inl (kI, 60, .inl zTold)), (anod, .inr (7, [.ref nm, .ref nl, .ref n1, .ref n2, .ref nf, .ref ns, .ref nh, .ref nk, .ref np, .int 16, .int 0, .int 16, .int 0, .int 0])), (ns, .inl (kL, 1024, .inr (.inl zSec))), (nf, .inl (kL, 1024, .inr (.inl zFir))), (aexpr, .inr (1, [.int 0, .ref eD, .int 0])), (ou, .inl (kL, 1, .inr (.inl fo)))] s.heap.size = A at hD hE ⊢
  have hA : ∀ q : Nat, s.heap.size ≤ q → A q := fun q h => by rw [← hAe]; exact Or.inr h
  have hS : va_S A s.heap s.heap [] := va_S.rf
  have hP : va_P (dC, dI) vwCl [(hh, .inr (13, [.ref aexpr, .ref achoo, .ref ameth, .ref aroom, .ref anod, .ref asort, .ref anote, .ref amet, .int 0, .int 1])), (aroom, .inr (9, [.ref asort, .ref anod, .ref atold, .int 3, .ref aheld, .int 0, .ref apair, .ref astep, .int 0, .int 0, .int (-1), .int 0, .int 0, .ref asize])), (atold, .inl (kI, 60, .inl zTold)), (anod, .inr (7, [.ref nm, .ref nl, .ref n1, .ref n2, .ref nf, .ref ns, .ref nh, .ref nk, .ref np, .int 16, .int 0, .int 16, .int 0, .int 0])), (ns, .inl (kL, 1024, .inr (.inl zSec))), (nf, .inl (kL, 1024, .inr (.inl zFir))), (aexpr, .inr (1, [.int 0, .ref eD, .int 0])), (ou, .inl (kL, 1, .inr (.inl fo)))] s.heap := hP
  have hl := lv_entry ([.ref hh, .int x1, .ref ou]) (n := 4) (Nat.le_of_ble_eq_true rfl)
  rw [lg_entry_eq]
  generalize (lg_sl ([.ref hh, .int x1, .ref ou]) ++ List.replicate (4 - (lg_sl ([.ref hh, .int x1, .ref ou])).length) Slot.unset).toArray = ls at hl ⊢
  have hl : lv_has ls 4 [(0, .ref hh), (1, .int x1), (2, .ref ou)] := hl
  have in_RJx4a65c : ∀ w ∈ u_ws RJx4a65c TJx4a65c 3, w ∈ w_c_L_value := by decide +kernel
  have in_RX11 : ∀ w ∈ u_ws RX11 TX11 10, w ∈ w_c_L_value := by decide +kernel
  have in_RX2 : ∀ w ∈ u_ws RX2 TX2 15, w ∈ w_c_L_value := by decide +kernel
  have in_RX5 : ∀ w ∈ u_ws RX5 TX5 14, w ∈ w_c_L_value := by decide +kernel
  have in_RX7 : ∀ w ∈ u_ws RX7 TX7 14, w ∈ w_c_L_value := by decide +kernel
  rcases z_split3 x1 with hx11 | ⟨hx10, hx11⟩ | rfl | rfl | rfl
  · refine lv_aload_n hx hb dL_value_0 rfl (lv_at hl 2 rfl) ?_
    refine lv_iconst (v := 0) hx hb dL_value_1 (by decide) ?_
    refine lv_aload_n hx hb dL_value_2 rfl (lv_at hl 0 rfl) ?_
    refine lv_iload_n hx hb dL_value_3 rfl (lv_at hl 1 rfl) ?_
    refine zx_i (wr := [(ou, .inl (kL, 1, .inr (.inl fo)))]) (vx_runV (As := [.int x1]) (rest := [.int 0, .ref ou]) ⟨hx, hb, hml, hown, hts⟩ (c_H_value_l l hfl eD eI ad dC dI s.heap.size hh aexpr achoo ameth aroom anod asort anote amet atold aheld apair astep asize nm nl n1 n2 nf ns nh nk np kI kL x1 (hx11)) (cwV 1 hts g_c_L_value_0 rfl rfl rfl (by decide +kernel) ⟨Nat.le_of_ble_eq_true rfl, Nat.le_of_ble_eq_true rfl⟩) (z_preVD (wc := [(hh, .inr (13, [.ref aexpr, .ref achoo, .ref ameth, .ref aroom, .ref anod, .ref asort, .ref anote, .ref amet, .int 0, .int 1])), (aroom, .inr (9, [.ref asort, .ref anod, .ref atold, .int 3, .ref aheld, .int 0, .ref apair, .ref astep, .int 0, .int 0, .int (-1), .int 0, .int 0, .ref asize])), (atold, .inl (kI, 60, .inl zTold)), (anod, .inr (7, [.ref nm, .ref nl, .ref n1, .ref n2, .ref nf, .ref ns, .ref nh, .ref nk, .ref np, .int 16, .int 0, .int 16, .int 0, .int 0])), (ns, .inl (kL, 1024, .inr (.inl zSec))), (nf, .inl (kL, 1024, .inr (.inl zFir))), (aexpr, .inr (1, [.int 0, .ref eD, .int 0]))]) hP hD hK hS hA hE [0, 1, 2, 3, 4, 5, 6] [0, 1] rfl (by decide) rfl (ci := 13) (q0 := 0) rfl rfl hDc) rfl rfl hl.1 rfl (lv_room (Nat.le_of_ble_eq_true rfl)) dL_value_4 ⟨Nat.le_of_ble_eq_true rfl, Nat.le_of_ble_eq_true rfl⟩) hP hD hK hS hA [0, 1, 2, 3, 4, 5, 6] [7] rfl rfl (by decide) (by decide) (fun E ce q9 H locs hbad hP hD hS h91 h92 h93 => ?_) (fun r_1 u H locs hw_2 hP hD hK hS => ?_)
    · have hbad : E = "java/lang/IndexOutOfBoundsException" := hbad
      subst hbad
      refine vx_catch (name := "java/lang/IndexOutOfBoundsException") hown [] ⟨0, 9, 12, 21⟩ [⟨0, 9, 15, 13⟩, ⟨0, 9, 18, 15⟩] (by rw [htab]; rfl) (fun z h => by simp at h) (by decide) (by decide) (hts (.classLink RL 21 "java/lang/IndexOutOfBoundsException") (by decide +kernel)) (va_Nw.use rfl (hE.2.2.2.2.2.2.2.1 ("java/lang/IndexOutOfBoundsException", "java/lang/IndexOutOfBoundsException") (by decide +kernel))) h91 h92 h93 ?_
      refine W.eq (g2 := F0 m 12 ls [.ref q9]) rfl ?_
      refine lv_astore_n (lv' := [(3, .ref q9), (0, .ref hh), (1, .int x1), (2, .ref ou)]) hx hb dL_value_12 rfl hl (by decide) rfl (fun ls hl => ?_)
      refine lv_iconst (v := 1) hx hb dL_value_13 (by decide) ?_
      have hP9 := hP.sub (ws' := [(ou, .inl (kL, 1, .inr (.inl fo)))]) [0] rfl
      have hD9 := hD.sub (ws' := [(ou, .inl (kL, 1, .inr (.inl fo)))]) [0] (by decide) rfl
      have hK9 := hK.sub (tys' := [(kL, .long)]) [1] rfl
      refine W.widen (k := 2) (n := 25) (Nat.le_of_ble_eq_true rfl) (Nat.le_of_ble_eq_true rfl) ?_
      refine vx_ret ?_
      exact W.iret (v := 1) hx hb hr (fun t ht hW => ⟨⟨1, (1, (fo)), rfl, ⟨rfl, by first | exact fun h => absurd h (by decide) | exact fun _ => rfl | rfl | decide | simp [hx11], fun h => absurd h (by decide)⟩, ⟨by rw [ht]; exact hP9, va_K.moved hW.alike hK9, hD9⟩⟩, hS.F ht⟩) hS.2.2 dL_value_14
    exact absurd hw_2 id
  · refine lv_aload_n hx hb dL_value_0 rfl (lv_at hl 2 rfl) ?_
    refine lv_iconst (v := 0) hx hb dL_value_1 (by decide) ?_
    refine lv_aload_n hx hb dL_value_2 rfl (lv_at hl 0 rfl) ?_
    refine lv_iload_n hx hb dL_value_3 rfl (lv_at hl 1 rfl) ?_
    refine zx_i (wr := [(ou, .inl (kL, 1, .inr (.inl fo)))]) (vx_runV (As := [.int x1]) (rest := [.int 0, .ref ou]) ⟨hx, hb, hml, hown, hts⟩ (c_H_value_h l hfl eD eI ad dC dI s.heap.size hh aexpr achoo ameth aroom anod asort anote amet atold aheld apair astep asize nm nl n1 n2 nf ns nh nk np kI kL x1 (hx10) (hx11)) (cwV 1 hts g_c_L_value_1 rfl rfl rfl (by decide +kernel) ⟨Nat.le_of_ble_eq_true rfl, Nat.le_of_ble_eq_true rfl⟩) (z_preVD (wc := [(hh, .inr (13, [.ref aexpr, .ref achoo, .ref ameth, .ref aroom, .ref anod, .ref asort, .ref anote, .ref amet, .int 0, .int 1])), (aroom, .inr (9, [.ref asort, .ref anod, .ref atold, .int 3, .ref aheld, .int 0, .ref apair, .ref astep, .int 0, .int 0, .int (-1), .int 0, .int 0, .ref asize])), (atold, .inl (kI, 60, .inl zTold)), (anod, .inr (7, [.ref nm, .ref nl, .ref n1, .ref n2, .ref nf, .ref ns, .ref nh, .ref nk, .ref np, .int 16, .int 0, .int 16, .int 0, .int 0])), (ns, .inl (kL, 1024, .inr (.inl zSec))), (nf, .inl (kL, 1024, .inr (.inl zFir))), (aexpr, .inr (1, [.int 0, .ref eD, .int 0]))]) hP hD hK hS hA hE [0, 1, 2, 3, 4, 5, 6] [0, 1] rfl (by decide) rfl (ci := 13) (q0 := 0) rfl rfl hDc) rfl rfl hl.1 rfl (lv_room (Nat.le_of_ble_eq_true rfl)) dL_value_4 ⟨Nat.le_of_ble_eq_true rfl, Nat.le_of_ble_eq_true rfl⟩) hP hD hK hS hA [0, 1, 2, 3, 4, 5, 6] [7] rfl rfl (by decide) (by decide) (fun E ce q9 H locs hbad hP hD hS h91 h92 h93 => ?_) (fun r_3 u H locs hw_4 hP hD hK hS => ?_)
    · have hbad : E = "java/lang/IndexOutOfBoundsException" := hbad
      subst hbad
      refine vx_catch (name := "java/lang/IndexOutOfBoundsException") hown [] ⟨0, 9, 12, 21⟩ [⟨0, 9, 15, 13⟩, ⟨0, 9, 18, 15⟩] (by rw [htab]; rfl) (fun z h => by simp at h) (by decide) (by decide) (hts (.classLink RL 21 "java/lang/IndexOutOfBoundsException") (by decide +kernel)) (va_Nw.use rfl (hE.2.2.2.2.2.2.2.1 ("java/lang/IndexOutOfBoundsException", "java/lang/IndexOutOfBoundsException") (by decide +kernel))) h91 h92 h93 ?_
      refine W.eq (g2 := F0 m 12 ls [.ref q9]) rfl ?_
      refine lv_astore_n (lv' := [(3, .ref q9), (0, .ref hh), (1, .int x1), (2, .ref ou)]) hx hb dL_value_12 rfl hl (by decide) rfl (fun ls hl => ?_)
      refine lv_iconst (v := 1) hx hb dL_value_13 (by decide) ?_
      have hP9 := hP.sub (ws' := [(ou, .inl (kL, 1, .inr (.inl fo)))]) [0] rfl
      have hD9 := hD.sub (ws' := [(ou, .inl (kL, 1, .inr (.inl fo)))]) [0] (by decide) rfl
      have hK9 := hK.sub (tys' := [(kL, .long)]) [1] rfl
      refine W.widen (k := 2) (n := 25) (Nat.le_of_ble_eq_true rfl) (Nat.le_of_ble_eq_true rfl) ?_
      refine vx_ret ?_
      exact W.iret (v := 1) hx hb hr (fun t ht hW => ⟨⟨1, (1, (fo)), rfl, ⟨rfl, by first | exact fun h => absurd h (by decide) | exact fun _ => rfl | rfl | decide | simp [hx10, hx11], fun h => absurd h (by decide)⟩, ⟨by rw [ht]; exact hP9, va_K.moved hW.alike hK9, hD9⟩⟩, hS.F ht⟩) hS.2.2 dL_value_14
    exact absurd hw_4 id
  · refine lv_aload_n hx hb dL_value_0 rfl (lv_at hl 2 rfl) ?_
    refine lv_iconst (v := 0) hx hb dL_value_1 (by decide) ?_
    refine lv_aload_n hx hb dL_value_2 rfl (lv_at hl 0 rfl) ?_
    refine lv_iload_n hx hb dL_value_3 rfl (lv_at hl 1 rfl) ?_
    refine z_i (wr := [(ou, .inl (kL, 1, .inr (.inl fo)))]) (va_runV (As := [.int 0]) (rest := [.int 0, .ref ou]) ⟨hx, hb, hml, hown, hts⟩ (c_H_value_0 l eD eI ad dC dI s.heap.size hh aexpr achoo ameth aroom anod asort anote amet atold aheld apair astep asize nm nl n1 n2 nf ns nh nk np kI kL) (cwV 1 hts g_c_L_value_2 rfl rfl rfl (by decide +kernel) ⟨Nat.le_of_ble_eq_true rfl, Nat.le_of_ble_eq_true rfl⟩) (z_preV (wc := [(hh, .inr (13, [.ref aexpr, .ref achoo, .ref ameth, .ref aroom, .ref anod, .ref asort, .ref anote, .ref amet, .int 0, .int 1])), (aroom, .inr (9, [.ref asort, .ref anod, .ref atold, .int 3, .ref aheld, .int 0, .ref apair, .ref astep, .int 0, .int 0, .int (-1), .int 0, .int 0, .ref asize])), (atold, .inl (kI, 60, .inl zTold)), (anod, .inr (7, [.ref nm, .ref nl, .ref n1, .ref n2, .ref nf, .ref ns, .ref nh, .ref nk, .ref np, .int 16, .int 0, .int 16, .int 0, .int 0])), (ns, .inl (kL, 1024, .inr (.inl zSec))), (nf, .inl (kL, 1024, .inr (.inl zFir))), (aexpr, .inr (1, [.int 0, .ref eD, .int 0]))]) hP hD hK hS hA hE [0, 1, 2, 3, 4, 5, 6] [0, 1] rfl (by decide) rfl (ci := 13) (q0 := 0) rfl rfl) rfl rfl hl.1 rfl (lv_room (Nat.le_of_ble_eq_true rfl)) dL_value_4 ⟨Nat.le_of_ble_eq_true rfl, Nat.le_of_ble_eq_true rfl⟩) hP hD hK hS hA [0, 1, 2, 3, 4, 5, 6] [7] rfl rfl (by decide) (by decide) (fun r_5 u H locs hw_6 hP hD hK hS => ?_)
    obtain ⟨⟩ := u
    have hP : va_P (dC, dI) vwCl [(ou, .inl (kL, 1, .inr (.inl fo)))] H := hP
    have hD : va_D A [(ou, .inl (kL, 1, .inr (.inl fo)))] := hD
    have hK : va_K (dC, dI) vwCl [(kI, .int), (kL, .long)] s := by simpa using hK
    have hw_6 : r_5 = 0 := hw_6
    have hw_6 := hw_6.symm
    subst hw_6
    refine lv_i2l (v := 0) hx hb dL_value_7 (by decide) ?_
    refine va_last (D := (dC, dI)) hx hb hK hP hD hS 0 1 rfl rfl (by unfold vp_in; decide) dL_value_8 (fun H locs hP hD hS => ?_)
    have hP : va_P (dC, dI) vwCl [(ou, .inl (kL, 1, .inr (.inl (vp_updL fo (0 : Int32).toNatClampNeg 0))))] H := hP
    have hD : va_D A [(ou, .inl (kL, 1, .inr (.inl (vp_updL fo (0 : Int32).toNatClampNeg 0))))] := hD
    refine lv_goto (tgt := 21) hx hb dL_value_9 (by decide) ?_
    refine lv_iconst (v := 0) hx hb dL_value_21 (by decide) ?_
    have hP9 := hP.sub (ws' := [(ou, .inl (kL, 1, .inr (.inl (vp_updL fo (0 : Int32).toNatClampNeg 0))))]) [0] rfl
    have hD9 := hD.sub (ws' := [(ou, .inl (kL, 1, .inr (.inl (vp_updL fo (0 : Int32).toNatClampNeg 0))))]) [0] (by decide) rfl
    have hK9 := hK.sub (tys' := [(kL, .long)]) [1] rfl
    refine W.widen (k := 2) (n := 25) (Nat.le_of_ble_eq_true rfl) (Nat.le_of_ble_eq_true rfl) ?_
    refine vx_ret ?_
    exact W.iret (v := 0) hx hb hr (fun t ht hW => ⟨⟨0, (0, (vp_updL fo (0 : Int32).toNatClampNeg 0)), rfl, ⟨rfl, by first | exact fun h => absurd h (by decide) | exact fun _ => rfl | rfl | decide | simp, by first | exact fun _ => rfl | exact fun _ => by simp [vp_updL]⟩, ⟨by rw [ht]; exact hP9, va_K.moved hW.alike hK9, hD9⟩⟩, hS.F ht⟩) hS.2.2 dL_value_22
  · refine lv_aload_n hx hb dL_value_0 rfl (lv_at hl 2 rfl) ?_
    refine lv_iconst (v := 0) hx hb dL_value_1 (by decide) ?_
    refine lv_aload_n hx hb dL_value_2 rfl (lv_at hl 0 rfl) ?_
    refine lv_iload_n hx hb dL_value_3 rfl (lv_at hl 1 rfl) ?_
    refine z_i (wr := [(ou, .inl (kL, 1, .inr (.inl fo)))]) (va_runV (As := [.int 1]) (rest := [.int 0, .ref ou]) ⟨hx, hb, hml, hown, hts⟩ (c_H_value_1 l eD eI ad dC dI s.heap.size hh aexpr achoo ameth aroom anod asort anote amet atold aheld apair astep asize nm nl n1 n2 nf ns nh nk np kI kL) (cwV 1 hts g_c_L_value_3 rfl rfl rfl (by decide +kernel) ⟨Nat.le_of_ble_eq_true rfl, Nat.le_of_ble_eq_true rfl⟩) (z_preV (wc := [(hh, .inr (13, [.ref aexpr, .ref achoo, .ref ameth, .ref aroom, .ref anod, .ref asort, .ref anote, .ref amet, .int 0, .int 1])), (aroom, .inr (9, [.ref asort, .ref anod, .ref atold, .int 3, .ref aheld, .int 0, .ref apair, .ref astep, .int 0, .int 0, .int (-1), .int 0, .int 0, .ref asize])), (atold, .inl (kI, 60, .inl zTold)), (anod, .inr (7, [.ref nm, .ref nl, .ref n1, .ref n2, .ref nf, .ref ns, .ref nh, .ref nk, .ref np, .int 16, .int 0, .int 16, .int 0, .int 0])), (ns, .inl (kL, 1024, .inr (.inl zSec))), (nf, .inl (kL, 1024, .inr (.inl zFir))), (aexpr, .inr (1, [.int 0, .ref eD, .int 0]))]) hP hD hK hS hA hE [0, 1, 2, 3, 4, 5, 6] [0, 1] rfl (by decide) rfl (ci := 13) (q0 := 0) rfl rfl) rfl rfl hl.1 rfl (lv_room (Nat.le_of_ble_eq_true rfl)) dL_value_4 ⟨Nat.le_of_ble_eq_true rfl, Nat.le_of_ble_eq_true rfl⟩) hP hD hK hS hA [0, 1, 2, 3, 4, 5, 6] [7] rfl rfl (by decide) (by decide) (fun r_7 u H locs hw_8 hP hD hK hS => ?_)
    obtain ⟨⟩ := u
    have hP : va_P (dC, dI) vwCl [(ou, .inl (kL, 1, .inr (.inl fo)))] H := hP
    have hD : va_D A [(ou, .inl (kL, 1, .inr (.inl fo)))] := hD
    have hK : va_K (dC, dI) vwCl [(kI, .int), (kL, .long)] s := by simpa using hK
    have hw_8 : r_7 = 0 := hw_8
    have hw_8 := hw_8.symm
    subst hw_8
    refine lv_i2l (v := 0) hx hb dL_value_7 (by decide) ?_
    refine va_last (D := (dC, dI)) hx hb hK hP hD hS 0 1 rfl rfl (by unfold vp_in; decide) dL_value_8 (fun H locs hP hD hS => ?_)
    have hP : va_P (dC, dI) vwCl [(ou, .inl (kL, 1, .inr (.inl (vp_updL fo (0 : Int32).toNatClampNeg 0))))] H := hP
    have hD : va_D A [(ou, .inl (kL, 1, .inr (.inl (vp_updL fo (0 : Int32).toNatClampNeg 0))))] := hD
    refine lv_goto (tgt := 21) hx hb dL_value_9 (by decide) ?_
    refine lv_iconst (v := 0) hx hb dL_value_21 (by decide) ?_
    have hP9 := hP.sub (ws' := [(ou, .inl (kL, 1, .inr (.inl (vp_updL fo (0 : Int32).toNatClampNeg 0))))]) [0] rfl
    have hD9 := hD.sub (ws' := [(ou, .inl (kL, 1, .inr (.inl (vp_updL fo (0 : Int32).toNatClampNeg 0))))]) [0] (by decide) rfl
    have hK9 := hK.sub (tys' := [(kL, .long)]) [1] rfl
    refine W.widen (k := 2) (n := 25) (Nat.le_of_ble_eq_true rfl) (Nat.le_of_ble_eq_true rfl) ?_
    refine vx_ret ?_
    exact W.iret (v := 0) hx hb hr (fun t ht hW => ⟨⟨0, (0, (vp_updL fo (0 : Int32).toNatClampNeg 0)), rfl, ⟨rfl, by first | exact fun h => absurd h (by decide) | exact fun _ => rfl | rfl | decide | simp, by first | exact fun _ => rfl | exact fun _ => by simp [vp_updL]⟩, ⟨by rw [ht]; exact hP9, va_K.moved hW.alike hK9, hD9⟩⟩, hS.F ht⟩) hS.2.2 dL_value_22
  · refine lv_aload_n hx hb dL_value_0 rfl (lv_at hl 2 rfl) ?_
    refine lv_iconst (v := 0) hx hb dL_value_1 (by decide) ?_
    refine lv_aload_n hx hb dL_value_2 rfl (lv_at hl 0 rfl) ?_
    refine lv_iload_n hx hb dL_value_3 rfl (lv_at hl 1 rfl) ?_
    refine zx_i (wr := [(ou, .inl (kL, 1, .inr (.inl fo)))]) (vx_runV (As := [.int 2]) (rest := [.int 0, .ref ou]) ⟨hx, hb, hml, hown, hts⟩ (c_H_value_2 l hfl eD eI ad dC dI s.heap.size hh aexpr achoo ameth aroom anod asort anote amet atold aheld apair astep asize nm nl n1 n2 nf ns nh nk np kI kL) (cwV 1 hts g_c_L_value_4 rfl rfl rfl (by decide +kernel) ⟨Nat.le_of_ble_eq_true rfl, Nat.le_of_ble_eq_true rfl⟩) (z_preVD (wc := [(hh, .inr (13, [.ref aexpr, .ref achoo, .ref ameth, .ref aroom, .ref anod, .ref asort, .ref anote, .ref amet, .int 0, .int 1])), (aroom, .inr (9, [.ref asort, .ref anod, .ref atold, .int 3, .ref aheld, .int 0, .ref apair, .ref astep, .int 0, .int 0, .int (-1), .int 0, .int 0, .ref asize])), (atold, .inl (kI, 60, .inl zTold)), (anod, .inr (7, [.ref nm, .ref nl, .ref n1, .ref n2, .ref nf, .ref ns, .ref nh, .ref nk, .ref np, .int 16, .int 0, .int 16, .int 0, .int 0])), (ns, .inl (kL, 1024, .inr (.inl zSec))), (nf, .inl (kL, 1024, .inr (.inl zFir))), (aexpr, .inr (1, [.int 0, .ref eD, .int 0]))]) hP hD hK hS hA hE [0, 1, 2, 3, 4, 5, 6] [0, 1] rfl (by decide) rfl (ci := 13) (q0 := 0) rfl rfl hDc) rfl rfl hl.1 rfl (lv_room (Nat.le_of_ble_eq_true rfl)) dL_value_4 ⟨Nat.le_of_ble_eq_true rfl, Nat.le_of_ble_eq_true rfl⟩) hP hD hK hS hA [0, 1, 2, 3, 4, 5, 6] [7] rfl rfl (by decide) (by decide) (fun E ce q9 H locs hbad hP hD hS h91 h92 h93 => ?_) (fun r_9 u H locs hw_10 hP hD hK hS => ?_)
    · have hbad : E = "java/lang/IllegalArgumentException" := hbad
      subst hbad
      refine vx_catch (name := "java/lang/IllegalArgumentException") hown [⟨0, 9, 12, 21⟩] ⟨0, 9, 15, 13⟩ [⟨0, 9, 18, 15⟩] (by rw [htab]; rfl) (fun z h => by
          simp only [List.mem_cons, List.not_mem_nil, or_false] at h
          rcases h with rfl
          · exact Or.inr ⟨by decide, "java/lang/IndexOutOfBoundsException", (hts (.classLink RL 21 "java/lang/IndexOutOfBoundsException") (by decide +kernel)), hE.2.2.2.2.2.2.2.2.1 ("java/lang/IllegalArgumentException", "java/lang/IndexOutOfBoundsException") (by decide +kernel)⟩) (by decide) (by decide) (hts (.classLink RL 13 "java/lang/IllegalArgumentException") (by decide +kernel)) (va_Nw.use rfl (hE.2.2.2.2.2.2.2.1 ("java/lang/IllegalArgumentException", "java/lang/IllegalArgumentException") (by decide +kernel))) h91 h92 h93 ?_
      refine W.eq (g2 := F0 m 15 ls [.ref q9]) rfl ?_
      refine lv_astore_n (lv' := [(3, .ref q9), (0, .ref hh), (1, .int 2), (2, .ref ou)]) hx hb dL_value_15 rfl hl (by decide) rfl (fun ls hl => ?_)
      refine lv_iconst (v := 2) hx hb dL_value_16 (by decide) ?_
      have hP9 := hP.sub (ws' := [(ou, .inl (kL, 1, .inr (.inl fo)))]) [0] rfl
      have hD9 := hD.sub (ws' := [(ou, .inl (kL, 1, .inr (.inl fo)))]) [0] (by decide) rfl
      have hK9 := hK.sub (tys' := [(kL, .long)]) [1] rfl
      refine W.widen (k := 2) (n := 25) (Nat.le_of_ble_eq_true rfl) (Nat.le_of_ble_eq_true rfl) ?_
      refine vx_ret ?_
      exact W.iret (v := 2) hx hb hr (fun t ht hW => ⟨⟨2, (2, (fo)), rfl, ⟨rfl, by first | exact fun h => absurd h (by decide) | exact fun _ => rfl | rfl | decide | simp, fun h => absurd h (by decide)⟩, ⟨by rw [ht]; exact hP9, va_K.moved hW.alike hK9, hD9⟩⟩, hS.F ht⟩) hS.2.2 dL_value_17
    exact absurd hw_10 id

def wb_c_L_many : List Cond := [.code yX11_many cX11_many 2 (some .int), .classLink RX11 66 "java/lang/IllegalArgumentException", .initialized "java/lang/IllegalArgumentException", .methodLink RL 47 yX11_many, .instanceMethod yX11_many, .selects RX11 yX11_many yX11_many, .initialized RX11, .classLink RL 13 "java/lang/IllegalArgumentException", .code yX11_countOf cX11_countOf 2 (some .int), .fieldLink RX11 42 "Hornbook" "sorts" "Ljava/util/ArrayList;", .code yJx4a65c_size_8abf5 cJx4a65c_size_8abf5 1 (some .int), .fieldLink RJx4a65c 48 "java/util/ArrayList" "size" "I", .methodLink RX11 73 yJx4a65c_size_8abf5, .instanceMethod yJx4a65c_size_8abf5, .selects RJx4a65c yJx4a65c_size_8abf5 yJx4a65c_size_8abf5, .initialized RJx4a65c, .methodLink RX11 239 yX11_countOf, .instanceMethod yX11_countOf, .selects RX11 yX11_countOf yX11_countOf, .fieldLink RX11 31 "Hornbook" "room" "LHornbook$Room;", .fieldLink RX11 344 "Hornbook$Room" "tellings" "I", .fieldLink RX11 26 "Hornbook" "methods" "Ljava/util/ArrayList;", .fieldLink RX11 12 "Hornbook" "expressions" "Ljava/util/ArrayList;"] ++ u_ws RJx4a65c TJx4a65c 3 ++ u_ws RX11 TX11 10 ++ u_ws RX7 TX7 14
def w_c_L_many : List Cond := .codeWith yL_many cL_many 4 (some .int) [(0, 9, 12, 13)] :: (wb_c_L_many ++ zAt)
set_option maxRecDepth 100000 in
theorem g_c_L_many_0 : GoodIn w_c_L_many (wsV RL 47 RX11 yX11_many w_c_H_many_l) := goodIn_app (goodIn_of _ (by decide +kernel)) (goodIn_ca (goodIn_p (big := w_c_L_many) (.code yX11_many cX11_many 2 (some .int) :: wb_c_H_many_l) [1] rfl (by decide +kernel)) (goodIn_sub (fun _ h => List.mem_cons_of_mem _ (List.mem_append_right _ h)) zAt_good))
set_option maxRecDepth 100000 in
theorem g_c_L_many_1 : GoodIn w_c_L_many (wsV RL 47 RX11 yX11_many w_c_H_many_h) := goodIn_app (goodIn_of _ (by decide +kernel)) (goodIn_ca (goodIn_p (big := w_c_L_many) (.code yX11_many cX11_many 2 (some .int) :: wb_c_H_many_h) [1] rfl (by decide +kernel)) (goodIn_sub (fun _ h => List.mem_cons_of_mem _ (List.mem_append_right _ h)) zAt_good))
set_option maxRecDepth 100000 in
theorem g_c_L_many_2 : GoodIn w_c_L_many (wsV RL 47 RX11 yX11_many w_c_H_many_0) := goodIn_app (goodIn_of _ (by decide +kernel)) (goodIn_p (big := w_c_L_many) (.code yX11_many cX11_many 2 (some .int) :: wb_c_H_many_0) [1, 9, 11] rfl (by decide +kernel))
set_option maxRecDepth 100000 in
theorem g_c_L_many_3 : GoodIn w_c_L_many (wsV RL 47 RX11 yX11_many w_c_H_many_1) := goodIn_app (goodIn_of _ (by decide +kernel)) (goodIn_p (big := w_c_L_many) (.code yX11_many cX11_many 2 (some .int) :: wb_c_H_many_1) [1, 9] rfl (by decide +kernel))
set_option maxRecDepth 100000 in
theorem g_c_L_many_4 : GoodIn w_c_L_many (wsV RL 47 RX11 yX11_many w_c_H_many_2) := goodIn_app (goodIn_of _ (by decide +kernel)) (goodIn_p (big := w_c_L_many) (.code yX11_many cX11_many 2 (some .int) :: wb_c_H_many_2) [1, 9, 11] rfl (by decide +kernel))
set_option maxRecDepth 100000 in
theorem g_c_L_many_5 : GoodIn w_c_L_many (wsV RL 47 RX11 yX11_many w_c_H_many_3) := goodIn_app (goodIn_of _ (by decide +kernel)) (goodIn_p (big := w_c_L_many) (.code yX11_many cX11_many 2 (some .int) :: wb_c_H_many_3) [1, 9, 11] rfl (by decide +kernel))
set_option maxHeartbeats 4000000 in
set_option maxRecDepth 100000 in
theorem c_L_many (l : Launch) (hfl : l.flags = flags0) (eD eI : Nat) (ad : Nat → Nat) (dC : Nat → ClassId) (dI : Nat → Nat → Nat) (sz : Nat) (hh : Nat) (aexpr : Nat) (achoo : Nat) (ameth : Nat) (aroom : Nat) (anod : Nat) (asort : Nat) (anote : Nat) (amet : Nat) (atold : Nat) (aheld : Nat) (apair : Nat) (astep : Nat) (asize : Nat) (ou : Nat) (kL : ClassId) (x1 : Int32) (fo : Nat → Int64) : vx_Met l yL_many w_c_L_many ({ frames := 7, cells := 1, slots := 6, locals := 103 }) (va_Pc [.ref hh, .int x1, .ref ou] (zPreD eD eI ad (dC, dI) [(hh, .inr (13, [.ref aexpr, .ref achoo, .ref ameth, .ref aroom, .ref anod, .ref asort, .ref anote, .ref amet, .int 0, .int 1])), (aroom, .inr (9, [.ref asort, .ref anod, .ref atold, .int 3, .ref aheld, .int 0, .ref apair, .ref astep, .int 0, .int 0, .int (-1), .int 0, .int 0, .ref asize])), (asort, .inr (1, [.int 0, .ref eD, .int 0])), (ameth, .inr (1, [.int 0, .ref eD, .int 0])), (aexpr, .inr (1, [.int 0, .ref eD, .int 0])), (ou, .inl (kL, 1, .inr (.inl fo)))] [(kL, .long)] sz)) (va_Qi (fun (r : Int32) (u : Int32 × (Nat → Int64)) => match u with | (k2, fo2) => r = k2 ∧ k2 = (if x1 < 0 ∨ 3 < x1 then 1 else 0) ∧ (k2 = 0 → fo2 (0 : Int32).toNatClampNeg = ((if x1 = 1 then 3 else 0) : Int32).toInt64)) (fun (u : Int32 × (Nat → Int64)) => match u with | (k2, fo2) => zEnd (dC, dI) (va_A [(hh, .inr (13, [.ref aexpr, .ref achoo, .ref ameth, .ref aroom, .ref anod, .ref asort, .ref anote, .ref amet, .int 0, .int 1])), (aroom, .inr (9, [.ref asort, .ref anod, .ref atold, .int 3, .ref aheld, .int 0, .ref apair, .ref astep, .int 0, .int 0, .int (-1), .int 0, .int 0, .ref asize])), (asort, .inr (1, [.int 0, .ref eD, .int 0])), (ameth, .inr (1, [.int 0, .ref eD, .int 0])), (aexpr, .inr (1, [.int 0, .ref eD, .int 0])), (ou, .inl (kL, 1, .inr (.inl fo)))] sz) [(ou, .inl (kL, 1, .inr (.inl fo2)))] [(kL, .long)]) (va_A [(hh, .inr (13, [.ref aexpr, .ref achoo, .ref ameth, .ref aroom, .ref anod, .ref asort, .ref anote, .ref amet, .int 0, .int 1])), (aroom, .inr (9, [.ref asort, .ref anod, .ref atold, .int 3, .ref aheld, .int 0, .ref apair, .ref astep, .int 0, .int 0, .int (-1), .int 0, .int 0, .ref asize])), (asort, .inr (1, [.int 0, .ref eD, .int 0])), (ameth, .inr (1, [.int 0, .ref eD, .int 0])), (aexpr, .inr (1, [.int 0, .ref eD, .int 0])), (ou, .inl (kL, 1, .inr (.inl fo)))] sz)) (zX (fun _ => False) (va_A [(hh, .inr (13, [.ref aexpr, .ref achoo, .ref ameth, .ref aroom, .ref anod, .ref asort, .ref anote, .ref amet, .int 0, .int 1])), (aroom, .inr (9, [.ref asort, .ref anod, .ref atold, .int 3, .ref aheld, .int 0, .ref apair, .ref astep, .int 0, .int 0, .int (-1), .int 0, .int 0, .ref asize])), (asort, .inr (1, [.int 0, .ref eD, .int 0])), (ameth, .inr (1, [.int 0, .ref eD, .int 0])), (aexpr, .inr (1, [.int 0, .ref eD, .int 0])), (ou, .inl (kL, 1, .inr (.inl fo)))] sz)) 1 6 (va_A [(hh, .inr (13, [.ref aexpr, .ref achoo, .ref ameth, .ref aroom, .ref anod, .ref asort, .ref anote, .ref amet, .int 0, .int 1])), (aroom, .inr (9, [.ref asort, .ref anod, .ref atold, .int 3, .ref aheld, .int 0, .ref apair, .ref astep, .int 0, .int 0, .int (-1), .int 0, .int 0, .ref asize])), (asort, .inr (1, [.int 0, .ref eD, .int 0])), (ameth, .inr (1, [.int 0, .ref eD, .int 0])), (aexpr, .inr (1, [.int 0, .ref eD, .int 0])), (ou, .inl (kL, 1, .inr (.inl fo)))] sz) := by
  refine vx_ofWH (cc := cL_many) (maxL := 4) (ret := (some .int)) (hh := [(0, 9, 12, 13)]) (by decide +kernel) rfl ?_
  intro p e s m args below meth c s₁ B hml hv
  obtain ⟨rfl, ⟨hsz, hP, hK, hD0, hE⟩, hDc⟩ := hv
  have hx := B.exec
  have hb := B.bytes
  have hr := B.returns
  have hts := atoms_spec (ws := w_c_L_many) B.pre
  have hown : s.vm.findClass RL = some m.cls := findClass_of_methodNamed B.named
  have hlocks := B.notSynchronized
  have htab := vx_table (x := yL_many) B (hts (.codeWith yL_many cL_many 4 (some .int) [(0, 9, 12, 13)]) List.mem_cons_self)
  subst hsz
  have hD := hD0.self (sz := s.heap.size)
  generalize hAe : va_A [(hh, .inr (13, [.ref aexpr, .ref achoo, .ref ameth, .ref aroom, .ref anod, .ref asort, .ref anote, .ref amet, .int 0, .int 1])), (aroom, .inr (9, [.ref asort, .ref anod, .ref atold, .int 3, .ref aheld, .int 0, .ref apair, .ref astep, .int 0, .int 0, .int (-1), .int 0, .int 0, .ref asize])), (asort, .inr (1, [.int 0, .ref eD, .int 0])), (ameth, .inr (1, [.int 0, .ref eD, .int 0])), (aexpr, .inr (1, [.int 0, .ref eD, .int 0])), (ou, .inl (kL, 1, .inr (.inl fo)))] s.heap.size = A at hD hE ⊢
  have hA : ∀ q : Nat, s.heap.size ≤ q → A q := fun q h => by rw [← hAe]; exact Or.inr h
  have hS : va_S A s.heap s.heap [] := va_S.rf
  have hP : va_P (dC, dI) vwCl [(hh, .inr (13, [.ref aexpr, .ref achoo, .ref ameth, .ref aroom, .ref anod, .ref asort, .ref anote, .ref amet, .int 0, .int 1])), (aroom, .inr (9, [.ref asort, .ref anod, .ref atold, .int 3, .ref aheld, .int 0, .ref apair, .ref astep, .int 0, .int 0, .int (-1), .int 0, .int 0, .ref asize])), (asort, .inr (1, [.int 0, .ref eD, .int 0])), (ameth, .inr (1, [.int 0, .ref eD, .int 0])), (aexpr, .inr (1, [.int 0, .ref eD, .int 0])), (ou, .inl (kL, 1, .inr (.inl fo)))] s.heap := hP
  have hl := lv_entry ([.ref hh, .int x1, .ref ou]) (n := 4) (Nat.le_of_ble_eq_true rfl)
  rw [lg_entry_eq]
  generalize (lg_sl ([.ref hh, .int x1, .ref ou]) ++ List.replicate (4 - (lg_sl ([.ref hh, .int x1, .ref ou])).length) Slot.unset).toArray = ls at hl ⊢
  have hl : lv_has ls 4 [(0, .ref hh), (1, .int x1), (2, .ref ou)] := hl
  have in_RJx4a65c : ∀ w ∈ u_ws RJx4a65c TJx4a65c 3, w ∈ w_c_L_many := by decide +kernel
  have in_RX11 : ∀ w ∈ u_ws RX11 TX11 10, w ∈ w_c_L_many := by decide +kernel
  have in_RX7 : ∀ w ∈ u_ws RX7 TX7 14, w ∈ w_c_L_many := by decide +kernel
  rcases z_split4 x1 with hx11 | ⟨hx10, hx11⟩ | rfl | rfl | rfl | rfl
  · refine lv_aload_n hx hb dL_many_0 rfl (lv_at hl 2 rfl) ?_
    refine lv_iconst (v := 0) hx hb dL_many_1 (by decide) ?_
    refine lv_aload_n hx hb dL_many_2 rfl (lv_at hl 0 rfl) ?_
    refine lv_iload_n hx hb dL_many_3 rfl (lv_at hl 1 rfl) ?_
    refine zx_i (wr := [(aroom, .inr (9, [.ref asort, .ref anod, .ref atold, .int 3, .ref aheld, .int 0, .ref apair, .ref astep, .int 0, .int 0, .int (-1), .int 0, .int 0, .ref asize])), (asort, .inr (1, [.int 0, .ref eD, .int 0])), (ameth, .inr (1, [.int 0, .ref eD, .int 0])), (aexpr, .inr (1, [.int 0, .ref eD, .int 0])), (ou, .inl (kL, 1, .inr (.inl fo)))]) (vx_runV (As := [.int x1]) (rest := [.int 0, .ref ou]) ⟨hx, hb, hml, hown, hts⟩ (c_H_many_l l hfl eD eI ad dC dI s.heap.size hh aexpr achoo ameth aroom anod asort anote amet x1 (hx11)) (cwV 1 hts g_c_L_many_0 rfl rfl rfl (by decide +kernel) ⟨Nat.le_of_ble_eq_true rfl, Nat.le_of_ble_eq_true rfl⟩) (z_preVD (wc := [(hh, .inr (13, [.ref aexpr, .ref achoo, .ref ameth, .ref aroom, .ref anod, .ref asort, .ref anote, .ref amet, .int 0, .int 1]))]) hP hD hK hS hA hE [0] [] rfl (by decide) rfl (ci := 13) (q0 := 0) rfl rfl hDc) rfl rfl hl.1 rfl (lv_room (Nat.le_of_ble_eq_true rfl)) dL_many_4 ⟨Nat.le_of_ble_eq_true rfl, Nat.le_of_ble_eq_true rfl⟩) hP hD hK hS hA [0] [1, 2, 3, 4, 5] rfl rfl (by decide) (by decide) (fun E ce q9 H locs hbad hP hD hS h91 h92 h93 => ?_) (fun r_1 u H locs hw_2 hP hD hK hS => ?_)
    · have hbad : E = "java/lang/IllegalArgumentException" := hbad
      subst hbad
      refine vx_catch (name := "java/lang/IllegalArgumentException") hown [] ⟨0, 9, 12, 13⟩ [] (by rw [htab]; rfl) (fun z h => by simp at h) (by decide) (by decide) (hts (.classLink RL 13 "java/lang/IllegalArgumentException") (by decide +kernel)) (va_Nw.use rfl (hE.2.2.2.2.2.2.2.1 ("java/lang/IllegalArgumentException", "java/lang/IllegalArgumentException") (by decide +kernel))) h91 h92 h93 ?_
      refine W.eq (g2 := F0 m 12 ls [.ref q9]) rfl ?_
      refine lv_astore_n (lv' := [(3, .ref q9), (0, .ref hh), (1, .int x1), (2, .ref ou)]) hx hb dL_many_12 rfl hl (by decide) rfl (fun ls hl => ?_)
      refine lv_iconst (v := 1) hx hb dL_many_13 (by decide) ?_
      have hP9 := hP.sub (ws' := [(ou, .inl (kL, 1, .inr (.inl fo)))]) [4] rfl
      have hD9 := hD.sub (ws' := [(ou, .inl (kL, 1, .inr (.inl fo)))]) [4] (by decide) rfl
      have hK9 := hK.sub (tys' := [(kL, .long)]) [0] rfl
      refine W.widen (k := 1) (n := 6) (Nat.le_of_ble_eq_true rfl) (Nat.le_of_ble_eq_true rfl) ?_
      refine vx_ret ?_
      exact W.iret (v := 1) hx hb hr (fun t ht hW => ⟨⟨1, (1, (fo)), rfl, ⟨rfl, by first | exact fun h => absurd h (by decide) | exact fun _ => rfl | rfl | decide | simp [hx11], fun h => absurd h (by decide)⟩, ⟨by rw [ht]; exact hP9, va_K.moved hW.alike hK9, hD9⟩⟩, hS.F ht⟩) hS.2.2 dL_many_14
    exact absurd hw_2 id
  · refine lv_aload_n hx hb dL_many_0 rfl (lv_at hl 2 rfl) ?_
    refine lv_iconst (v := 0) hx hb dL_many_1 (by decide) ?_
    refine lv_aload_n hx hb dL_many_2 rfl (lv_at hl 0 rfl) ?_
    refine lv_iload_n hx hb dL_many_3 rfl (lv_at hl 1 rfl) ?_
    refine zx_i (wr := [(aroom, .inr (9, [.ref asort, .ref anod, .ref atold, .int 3, .ref aheld, .int 0, .ref apair, .ref astep, .int 0, .int 0, .int (-1), .int 0, .int 0, .ref asize])), (asort, .inr (1, [.int 0, .ref eD, .int 0])), (ameth, .inr (1, [.int 0, .ref eD, .int 0])), (aexpr, .inr (1, [.int 0, .ref eD, .int 0])), (ou, .inl (kL, 1, .inr (.inl fo)))]) (vx_runV (As := [.int x1]) (rest := [.int 0, .ref ou]) ⟨hx, hb, hml, hown, hts⟩ (c_H_many_h l hfl eD eI ad dC dI s.heap.size hh aexpr achoo ameth aroom anod asort anote amet x1 (hx10) (hx11)) (cwV 1 hts g_c_L_many_1 rfl rfl rfl (by decide +kernel) ⟨Nat.le_of_ble_eq_true rfl, Nat.le_of_ble_eq_true rfl⟩) (z_preVD (wc := [(hh, .inr (13, [.ref aexpr, .ref achoo, .ref ameth, .ref aroom, .ref anod, .ref asort, .ref anote, .ref amet, .int 0, .int 1]))]) hP hD hK hS hA hE [0] [] rfl (by decide) rfl (ci := 13) (q0 := 0) rfl rfl hDc) rfl rfl hl.1 rfl (lv_room (Nat.le_of_ble_eq_true rfl)) dL_many_4 ⟨Nat.le_of_ble_eq_true rfl, Nat.le_of_ble_eq_true rfl⟩) hP hD hK hS hA [0] [1, 2, 3, 4, 5] rfl rfl (by decide) (by decide) (fun E ce q9 H locs hbad hP hD hS h91 h92 h93 => ?_) (fun r_3 u H locs hw_4 hP hD hK hS => ?_)
    · have hbad : E = "java/lang/IllegalArgumentException" := hbad
      subst hbad
      refine vx_catch (name := "java/lang/IllegalArgumentException") hown [] ⟨0, 9, 12, 13⟩ [] (by rw [htab]; rfl) (fun z h => by simp at h) (by decide) (by decide) (hts (.classLink RL 13 "java/lang/IllegalArgumentException") (by decide +kernel)) (va_Nw.use rfl (hE.2.2.2.2.2.2.2.1 ("java/lang/IllegalArgumentException", "java/lang/IllegalArgumentException") (by decide +kernel))) h91 h92 h93 ?_
      refine W.eq (g2 := F0 m 12 ls [.ref q9]) rfl ?_
      refine lv_astore_n (lv' := [(3, .ref q9), (0, .ref hh), (1, .int x1), (2, .ref ou)]) hx hb dL_many_12 rfl hl (by decide) rfl (fun ls hl => ?_)
      refine lv_iconst (v := 1) hx hb dL_many_13 (by decide) ?_
      have hP9 := hP.sub (ws' := [(ou, .inl (kL, 1, .inr (.inl fo)))]) [4] rfl
      have hD9 := hD.sub (ws' := [(ou, .inl (kL, 1, .inr (.inl fo)))]) [4] (by decide) rfl
      have hK9 := hK.sub (tys' := [(kL, .long)]) [0] rfl
      refine W.widen (k := 1) (n := 6) (Nat.le_of_ble_eq_true rfl) (Nat.le_of_ble_eq_true rfl) ?_
      refine vx_ret ?_
      exact W.iret (v := 1) hx hb hr (fun t ht hW => ⟨⟨1, (1, (fo)), rfl, ⟨rfl, by first | exact fun h => absurd h (by decide) | exact fun _ => rfl | rfl | decide | simp [hx10, hx11], fun h => absurd h (by decide)⟩, ⟨by rw [ht]; exact hP9, va_K.moved hW.alike hK9, hD9⟩⟩, hS.F ht⟩) hS.2.2 dL_many_14
    exact absurd hw_4 id
  · refine lv_aload_n hx hb dL_many_0 rfl (lv_at hl 2 rfl) ?_
    refine lv_iconst (v := 0) hx hb dL_many_1 (by decide) ?_
    refine lv_aload_n hx hb dL_many_2 rfl (lv_at hl 0 rfl) ?_
    refine lv_iload_n hx hb dL_many_3 rfl (lv_at hl 1 rfl) ?_
    refine z_i (wr := [(aroom, .inr (9, [.ref asort, .ref anod, .ref atold, .int 3, .ref aheld, .int 0, .ref apair, .ref astep, .int 0, .int 0, .int (-1), .int 0, .int 0, .ref asize])), (ameth, .inr (1, [.int 0, .ref eD, .int 0])), (aexpr, .inr (1, [.int 0, .ref eD, .int 0])), (ou, .inl (kL, 1, .inr (.inl fo)))]) (va_runV (As := [.int 0]) (rest := [.int 0, .ref ou]) ⟨hx, hb, hml, hown, hts⟩ (c_H_many_0 l eD eI ad dC dI s.heap.size hh aexpr achoo ameth aroom anod asort anote amet) (cwV 1 hts g_c_L_many_2 rfl rfl rfl (by decide +kernel) ⟨Nat.le_of_ble_eq_true rfl, Nat.le_of_ble_eq_true rfl⟩) (z_preV (wc := [(hh, .inr (13, [.ref aexpr, .ref achoo, .ref ameth, .ref aroom, .ref anod, .ref asort, .ref anote, .ref amet, .int 0, .int 1])), (asort, .inr (1, [.int 0, .ref eD, .int 0]))]) hP hD hK hS hA hE [0, 2] [] rfl (by decide) rfl (ci := 13) (q0 := 0) rfl rfl) rfl rfl hl.1 rfl (lv_room (Nat.le_of_ble_eq_true rfl)) dL_many_4 ⟨Nat.le_of_ble_eq_true rfl, Nat.le_of_ble_eq_true rfl⟩) hP hD hK hS hA [0, 2] [1, 3, 4, 5] rfl rfl (by decide) (by decide) (fun r_5 u H locs hw_6 hP hD hK hS => ?_)
    obtain ⟨⟩ := u
    have hP : va_P (dC, dI) vwCl [(aroom, .inr (9, [.ref asort, .ref anod, .ref atold, .int 3, .ref aheld, .int 0, .ref apair, .ref astep, .int 0, .int 0, .int (-1), .int 0, .int 0, .ref asize])), (ameth, .inr (1, [.int 0, .ref eD, .int 0])), (aexpr, .inr (1, [.int 0, .ref eD, .int 0])), (ou, .inl (kL, 1, .inr (.inl fo))), (hh, .inr (13, [.ref aexpr, .ref achoo, .ref ameth, .ref aroom, .ref anod, .ref asort, .ref anote, .ref amet, .int 0, .int 1])), (asort, .inr (1, [.int 0, .ref eD, .int 0]))] H := hP
    have hD : va_D A [(aroom, .inr (9, [.ref asort, .ref anod, .ref atold, .int 3, .ref aheld, .int 0, .ref apair, .ref astep, .int 0, .int 0, .int (-1), .int 0, .int 0, .ref asize])), (ameth, .inr (1, [.int 0, .ref eD, .int 0])), (aexpr, .inr (1, [.int 0, .ref eD, .int 0])), (ou, .inl (kL, 1, .inr (.inl fo))), (hh, .inr (13, [.ref aexpr, .ref achoo, .ref ameth, .ref aroom, .ref anod, .ref asort, .ref anote, .ref amet, .int 0, .int 1])), (asort, .inr (1, [.int 0, .ref eD, .int 0]))] := hD
    have hK : va_K (dC, dI) vwCl [(kL, .long)] s := by simpa using hK
    have hw_6 : r_5 = 0 := hw_6
    have hw_6 := hw_6.symm
    subst hw_6
    refine lv_i2l (v := 0) hx hb dL_many_7 (by decide) ?_
    refine va_last (D := (dC, dI)) hx hb hK hP hD hS 3 0 rfl rfl (by unfold vp_in; decide) dL_many_8 (fun H locs hP hD hS => ?_)
    have hP : va_P (dC, dI) vwCl [(aroom, .inr (9, [.ref asort, .ref anod, .ref atold, .int 3, .ref aheld, .int 0, .ref apair, .ref astep, .int 0, .int 0, .int (-1), .int 0, .int 0, .ref asize])), (ameth, .inr (1, [.int 0, .ref eD, .int 0])), (aexpr, .inr (1, [.int 0, .ref eD, .int 0])), (ou, .inl (kL, 1, .inr (.inl (vp_updL fo (0 : Int32).toNatClampNeg 0)))), (hh, .inr (13, [.ref aexpr, .ref achoo, .ref ameth, .ref aroom, .ref anod, .ref asort, .ref anote, .ref amet, .int 0, .int 1])), (asort, .inr (1, [.int 0, .ref eD, .int 0]))] H := hP
    have hD : va_D A [(aroom, .inr (9, [.ref asort, .ref anod, .ref atold, .int 3, .ref aheld, .int 0, .ref apair, .ref astep, .int 0, .int 0, .int (-1), .int 0, .int 0, .ref asize])), (ameth, .inr (1, [.int 0, .ref eD, .int 0])), (aexpr, .inr (1, [.int 0, .ref eD, .int 0])), (ou, .inl (kL, 1, .inr (.inl (vp_updL fo (0 : Int32).toNatClampNeg 0)))), (hh, .inr (13, [.ref aexpr, .ref achoo, .ref ameth, .ref aroom, .ref anod, .ref asort, .ref anote, .ref amet, .int 0, .int 1])), (asort, .inr (1, [.int 0, .ref eD, .int 0]))] := hD
    refine lv_goto (tgt := 15) hx hb dL_many_9 (by decide) ?_
    refine lv_iconst (v := 0) hx hb dL_many_15 (by decide) ?_
    have hP9 := hP.sub (ws' := [(ou, .inl (kL, 1, .inr (.inl (vp_updL fo (0 : Int32).toNatClampNeg 0))))]) [3] rfl
    have hD9 := hD.sub (ws' := [(ou, .inl (kL, 1, .inr (.inl (vp_updL fo (0 : Int32).toNatClampNeg 0))))]) [3] (by decide) rfl
    have hK9 := hK.sub (tys' := [(kL, .long)]) [0] rfl
    refine W.widen (k := 1) (n := 6) (Nat.le_of_ble_eq_true rfl) (Nat.le_of_ble_eq_true rfl) ?_
    refine vx_ret ?_
    exact W.iret (v := 0) hx hb hr (fun t ht hW => ⟨⟨0, (0, (vp_updL fo (0 : Int32).toNatClampNeg 0)), rfl, ⟨rfl, by first | exact fun h => absurd h (by decide) | exact fun _ => rfl | rfl | decide | simp, by first | exact fun _ => rfl | exact fun _ => by simp [vp_updL]⟩, ⟨by rw [ht]; exact hP9, va_K.moved hW.alike hK9, hD9⟩⟩, hS.F ht⟩) hS.2.2 dL_many_16
  · refine lv_aload_n hx hb dL_many_0 rfl (lv_at hl 2 rfl) ?_
    refine lv_iconst (v := 0) hx hb dL_many_1 (by decide) ?_
    refine lv_aload_n hx hb dL_many_2 rfl (lv_at hl 0 rfl) ?_
    refine lv_iload_n hx hb dL_many_3 rfl (lv_at hl 1 rfl) ?_
    refine z_i (wr := [(asort, .inr (1, [.int 0, .ref eD, .int 0])), (ameth, .inr (1, [.int 0, .ref eD, .int 0])), (aexpr, .inr (1, [.int 0, .ref eD, .int 0])), (ou, .inl (kL, 1, .inr (.inl fo)))]) (va_runV (As := [.int 1]) (rest := [.int 0, .ref ou]) ⟨hx, hb, hml, hown, hts⟩ (c_H_many_1 l eD eI ad dC dI s.heap.size hh aexpr achoo ameth aroom anod asort anote amet atold aheld apair astep asize) (cwV 1 hts g_c_L_many_3 rfl rfl rfl (by decide +kernel) ⟨Nat.le_of_ble_eq_true rfl, Nat.le_of_ble_eq_true rfl⟩) (z_preV (wc := [(hh, .inr (13, [.ref aexpr, .ref achoo, .ref ameth, .ref aroom, .ref anod, .ref asort, .ref anote, .ref amet, .int 0, .int 1])), (aroom, .inr (9, [.ref asort, .ref anod, .ref atold, .int 3, .ref aheld, .int 0, .ref apair, .ref astep, .int 0, .int 0, .int (-1), .int 0, .int 0, .ref asize]))]) hP hD hK hS hA hE [0, 1] [] rfl (by decide) rfl (ci := 13) (q0 := 0) rfl rfl) rfl rfl hl.1 rfl (lv_room (Nat.le_of_ble_eq_true rfl)) dL_many_4 ⟨Nat.le_of_ble_eq_true rfl, Nat.le_of_ble_eq_true rfl⟩) hP hD hK hS hA [0, 1] [2, 3, 4, 5] rfl rfl (by decide) (by decide) (fun r_7 u H locs hw_8 hP hD hK hS => ?_)
    obtain ⟨⟩ := u
    have hP : va_P (dC, dI) vwCl [(asort, .inr (1, [.int 0, .ref eD, .int 0])), (ameth, .inr (1, [.int 0, .ref eD, .int 0])), (aexpr, .inr (1, [.int 0, .ref eD, .int 0])), (ou, .inl (kL, 1, .inr (.inl fo))), (hh, .inr (13, [.ref aexpr, .ref achoo, .ref ameth, .ref aroom, .ref anod, .ref asort, .ref anote, .ref amet, .int 0, .int 1])), (aroom, .inr (9, [.ref asort, .ref anod, .ref atold, .int 3, .ref aheld, .int 0, .ref apair, .ref astep, .int 0, .int 0, .int (-1), .int 0, .int 0, .ref asize]))] H := hP
    have hD : va_D A [(asort, .inr (1, [.int 0, .ref eD, .int 0])), (ameth, .inr (1, [.int 0, .ref eD, .int 0])), (aexpr, .inr (1, [.int 0, .ref eD, .int 0])), (ou, .inl (kL, 1, .inr (.inl fo))), (hh, .inr (13, [.ref aexpr, .ref achoo, .ref ameth, .ref aroom, .ref anod, .ref asort, .ref anote, .ref amet, .int 0, .int 1])), (aroom, .inr (9, [.ref asort, .ref anod, .ref atold, .int 3, .ref aheld, .int 0, .ref apair, .ref astep, .int 0, .int 0, .int (-1), .int 0, .int 0, .ref asize]))] := hD
    have hK : va_K (dC, dI) vwCl [(kL, .long)] s := by simpa using hK
    have hw_8 : r_7 = 3 := hw_8
    have hw_8 := hw_8.symm
    subst hw_8
    refine lv_i2l (v := 3) hx hb dL_many_7 (by decide) ?_
    refine va_last (D := (dC, dI)) hx hb hK hP hD hS 3 0 rfl rfl (by unfold vp_in; decide) dL_many_8 (fun H locs hP hD hS => ?_)
    have hP : va_P (dC, dI) vwCl [(asort, .inr (1, [.int 0, .ref eD, .int 0])), (ameth, .inr (1, [.int 0, .ref eD, .int 0])), (aexpr, .inr (1, [.int 0, .ref eD, .int 0])), (ou, .inl (kL, 1, .inr (.inl (vp_updL fo (0 : Int32).toNatClampNeg 3)))), (hh, .inr (13, [.ref aexpr, .ref achoo, .ref ameth, .ref aroom, .ref anod, .ref asort, .ref anote, .ref amet, .int 0, .int 1])), (aroom, .inr (9, [.ref asort, .ref anod, .ref atold, .int 3, .ref aheld, .int 0, .ref apair, .ref astep, .int 0, .int 0, .int (-1), .int 0, .int 0, .ref asize]))] H := hP
    have hD : va_D A [(asort, .inr (1, [.int 0, .ref eD, .int 0])), (ameth, .inr (1, [.int 0, .ref eD, .int 0])), (aexpr, .inr (1, [.int 0, .ref eD, .int 0])), (ou, .inl (kL, 1, .inr (.inl (vp_updL fo (0 : Int32).toNatClampNeg 3)))), (hh, .inr (13, [.ref aexpr, .ref achoo, .ref ameth, .ref aroom, .ref anod, .ref asort, .ref anote, .ref amet, .int 0, .int 1])), (aroom, .inr (9, [.ref asort, .ref anod, .ref atold, .int 3, .ref aheld, .int 0, .ref apair, .ref astep, .int 0, .int 0, .int (-1), .int 0, .int 0, .ref asize]))] := hD
    refine lv_goto (tgt := 15) hx hb dL_many_9 (by decide) ?_
    refine lv_iconst (v := 0) hx hb dL_many_15 (by decide) ?_
    have hP9 := hP.sub (ws' := [(ou, .inl (kL, 1, .inr (.inl (vp_updL fo (0 : Int32).toNatClampNeg 3))))]) [3] rfl
    have hD9 := hD.sub (ws' := [(ou, .inl (kL, 1, .inr (.inl (vp_updL fo (0 : Int32).toNatClampNeg 3))))]) [3] (by decide) rfl
    have hK9 := hK.sub (tys' := [(kL, .long)]) [0] rfl
    refine W.widen (k := 1) (n := 6) (Nat.le_of_ble_eq_true rfl) (Nat.le_of_ble_eq_true rfl) ?_
    refine vx_ret ?_
    exact W.iret (v := 0) hx hb hr (fun t ht hW => ⟨⟨0, (0, (vp_updL fo (0 : Int32).toNatClampNeg 3)), rfl, ⟨rfl, by first | exact fun h => absurd h (by decide) | exact fun _ => rfl | rfl | decide | simp, by first | exact fun _ => rfl | exact fun _ => by simp [vp_updL]⟩, ⟨by rw [ht]; exact hP9, va_K.moved hW.alike hK9, hD9⟩⟩, hS.F ht⟩) hS.2.2 dL_many_16
  · refine lv_aload_n hx hb dL_many_0 rfl (lv_at hl 2 rfl) ?_
    refine lv_iconst (v := 0) hx hb dL_many_1 (by decide) ?_
    refine lv_aload_n hx hb dL_many_2 rfl (lv_at hl 0 rfl) ?_
    refine lv_iload_n hx hb dL_many_3 rfl (lv_at hl 1 rfl) ?_
    refine z_i (wr := [(aroom, .inr (9, [.ref asort, .ref anod, .ref atold, .int 3, .ref aheld, .int 0, .ref apair, .ref astep, .int 0, .int 0, .int (-1), .int 0, .int 0, .ref asize])), (asort, .inr (1, [.int 0, .ref eD, .int 0])), (aexpr, .inr (1, [.int 0, .ref eD, .int 0])), (ou, .inl (kL, 1, .inr (.inl fo)))]) (va_runV (As := [.int 2]) (rest := [.int 0, .ref ou]) ⟨hx, hb, hml, hown, hts⟩ (c_H_many_2 l eD eI ad dC dI s.heap.size hh aexpr achoo ameth aroom anod asort anote amet) (cwV 1 hts g_c_L_many_4 rfl rfl rfl (by decide +kernel) ⟨Nat.le_of_ble_eq_true rfl, Nat.le_of_ble_eq_true rfl⟩) (z_preV (wc := [(hh, .inr (13, [.ref aexpr, .ref achoo, .ref ameth, .ref aroom, .ref anod, .ref asort, .ref anote, .ref amet, .int 0, .int 1])), (ameth, .inr (1, [.int 0, .ref eD, .int 0]))]) hP hD hK hS hA hE [0, 3] [] rfl (by decide) rfl (ci := 13) (q0 := 0) rfl rfl) rfl rfl hl.1 rfl (lv_room (Nat.le_of_ble_eq_true rfl)) dL_many_4 ⟨Nat.le_of_ble_eq_true rfl, Nat.le_of_ble_eq_true rfl⟩) hP hD hK hS hA [0, 3] [1, 2, 4, 5] rfl rfl (by decide) (by decide) (fun r_9 u H locs hw_10 hP hD hK hS => ?_)
    obtain ⟨⟩ := u
    have hP : va_P (dC, dI) vwCl [(aroom, .inr (9, [.ref asort, .ref anod, .ref atold, .int 3, .ref aheld, .int 0, .ref apair, .ref astep, .int 0, .int 0, .int (-1), .int 0, .int 0, .ref asize])), (asort, .inr (1, [.int 0, .ref eD, .int 0])), (aexpr, .inr (1, [.int 0, .ref eD, .int 0])), (ou, .inl (kL, 1, .inr (.inl fo))), (hh, .inr (13, [.ref aexpr, .ref achoo, .ref ameth, .ref aroom, .ref anod, .ref asort, .ref anote, .ref amet, .int 0, .int 1])), (ameth, .inr (1, [.int 0, .ref eD, .int 0]))] H := hP
    have hD : va_D A [(aroom, .inr (9, [.ref asort, .ref anod, .ref atold, .int 3, .ref aheld, .int 0, .ref apair, .ref astep, .int 0, .int 0, .int (-1), .int 0, .int 0, .ref asize])), (asort, .inr (1, [.int 0, .ref eD, .int 0])), (aexpr, .inr (1, [.int 0, .ref eD, .int 0])), (ou, .inl (kL, 1, .inr (.inl fo))), (hh, .inr (13, [.ref aexpr, .ref achoo, .ref ameth, .ref aroom, .ref anod, .ref asort, .ref anote, .ref amet, .int 0, .int 1])), (ameth, .inr (1, [.int 0, .ref eD, .int 0]))] := hD
    have hK : va_K (dC, dI) vwCl [(kL, .long)] s := by simpa using hK
    have hw_10 : r_9 = 0 := hw_10
    have hw_10 := hw_10.symm
    subst hw_10
    refine lv_i2l (v := 0) hx hb dL_many_7 (by decide) ?_
    refine va_last (D := (dC, dI)) hx hb hK hP hD hS 3 0 rfl rfl (by unfold vp_in; decide) dL_many_8 (fun H locs hP hD hS => ?_)
    have hP : va_P (dC, dI) vwCl [(aroom, .inr (9, [.ref asort, .ref anod, .ref atold, .int 3, .ref aheld, .int 0, .ref apair, .ref astep, .int 0, .int 0, .int (-1), .int 0, .int 0, .ref asize])), (asort, .inr (1, [.int 0, .ref eD, .int 0])), (aexpr, .inr (1, [.int 0, .ref eD, .int 0])), (ou, .inl (kL, 1, .inr (.inl (vp_updL fo (0 : Int32).toNatClampNeg 0)))), (hh, .inr (13, [.ref aexpr, .ref achoo, .ref ameth, .ref aroom, .ref anod, .ref asort, .ref anote, .ref amet, .int 0, .int 1])), (ameth, .inr (1, [.int 0, .ref eD, .int 0]))] H := hP
    have hD : va_D A [(aroom, .inr (9, [.ref asort, .ref anod, .ref atold, .int 3, .ref aheld, .int 0, .ref apair, .ref astep, .int 0, .int 0, .int (-1), .int 0, .int 0, .ref asize])), (asort, .inr (1, [.int 0, .ref eD, .int 0])), (aexpr, .inr (1, [.int 0, .ref eD, .int 0])), (ou, .inl (kL, 1, .inr (.inl (vp_updL fo (0 : Int32).toNatClampNeg 0)))), (hh, .inr (13, [.ref aexpr, .ref achoo, .ref ameth, .ref aroom, .ref anod, .ref asort, .ref anote, .ref amet, .int 0, .int 1])), (ameth, .inr (1, [.int 0, .ref eD, .int 0]))] := hD
    refine lv_goto (tgt := 15) hx hb dL_many_9 (by decide) ?_
    refine lv_iconst (v := 0) hx hb dL_many_15 (by decide) ?_
    have hP9 := hP.sub (ws' := [(ou, .inl (kL, 1, .inr (.inl (vp_updL fo (0 : Int32).toNatClampNeg 0))))]) [3] rfl
    have hD9 := hD.sub (ws' := [(ou, .inl (kL, 1, .inr (.inl (vp_updL fo (0 : Int32).toNatClampNeg 0))))]) [3] (by decide) rfl
    have hK9 := hK.sub (tys' := [(kL, .long)]) [0] rfl
    refine W.widen (k := 1) (n := 6) (Nat.le_of_ble_eq_true rfl) (Nat.le_of_ble_eq_true rfl) ?_
    refine vx_ret ?_
    exact W.iret (v := 0) hx hb hr (fun t ht hW => ⟨⟨0, (0, (vp_updL fo (0 : Int32).toNatClampNeg 0)), rfl, ⟨rfl, by first | exact fun h => absurd h (by decide) | exact fun _ => rfl | rfl | decide | simp, by first | exact fun _ => rfl | exact fun _ => by simp [vp_updL]⟩, ⟨by rw [ht]; exact hP9, va_K.moved hW.alike hK9, hD9⟩⟩, hS.F ht⟩) hS.2.2 dL_many_16
  · refine lv_aload_n hx hb dL_many_0 rfl (lv_at hl 2 rfl) ?_
    refine lv_iconst (v := 0) hx hb dL_many_1 (by decide) ?_
    refine lv_aload_n hx hb dL_many_2 rfl (lv_at hl 0 rfl) ?_
    refine lv_iload_n hx hb dL_many_3 rfl (lv_at hl 1 rfl) ?_
    refine z_i (wr := [(aroom, .inr (9, [.ref asort, .ref anod, .ref atold, .int 3, .ref aheld, .int 0, .ref apair, .ref astep, .int 0, .int 0, .int (-1), .int 0, .int 0, .ref asize])), (asort, .inr (1, [.int 0, .ref eD, .int 0])), (ameth, .inr (1, [.int 0, .ref eD, .int 0])), (ou, .inl (kL, 1, .inr (.inl fo)))]) (va_runV (As := [.int 3]) (rest := [.int 0, .ref ou]) ⟨hx, hb, hml, hown, hts⟩ (c_H_many_3 l eD eI ad dC dI s.heap.size hh aexpr achoo ameth aroom anod asort anote amet) (cwV 1 hts g_c_L_many_5 rfl rfl rfl (by decide +kernel) ⟨Nat.le_of_ble_eq_true rfl, Nat.le_of_ble_eq_true rfl⟩) (z_preV (wc := [(hh, .inr (13, [.ref aexpr, .ref achoo, .ref ameth, .ref aroom, .ref anod, .ref asort, .ref anote, .ref amet, .int 0, .int 1])), (aexpr, .inr (1, [.int 0, .ref eD, .int 0]))]) hP hD hK hS hA hE [0, 4] [] rfl (by decide) rfl (ci := 13) (q0 := 0) rfl rfl) rfl rfl hl.1 rfl (lv_room (Nat.le_of_ble_eq_true rfl)) dL_many_4 ⟨Nat.le_of_ble_eq_true rfl, Nat.le_of_ble_eq_true rfl⟩) hP hD hK hS hA [0, 4] [1, 2, 3, 5] rfl rfl (by decide) (by decide) (fun r_11 u H locs hw_12 hP hD hK hS => ?_)
    obtain ⟨⟩ := u
    have hP : va_P (dC, dI) vwCl [(aroom, .inr (9, [.ref asort, .ref anod, .ref atold, .int 3, .ref aheld, .int 0, .ref apair, .ref astep, .int 0, .int 0, .int (-1), .int 0, .int 0, .ref asize])), (asort, .inr (1, [.int 0, .ref eD, .int 0])), (ameth, .inr (1, [.int 0, .ref eD, .int 0])), (ou, .inl (kL, 1, .inr (.inl fo))), (hh, .inr (13, [.ref aexpr, .ref achoo, .ref ameth, .ref aroom, .ref anod, .ref asort, .ref anote, .ref amet, .int 0, .int 1])), (aexpr, .inr (1, [.int 0, .ref eD, .int 0]))] H := hP
    have hD : va_D A [(aroom, .inr (9, [.ref asort, .ref anod, .ref atold, .int 3, .ref aheld, .int 0, .ref apair, .ref astep, .int 0, .int 0, .int (-1), .int 0, .int 0, .ref asize])), (asort, .inr (1, [.int 0, .ref eD, .int 0])), (ameth, .inr (1, [.int 0, .ref eD, .int 0])), (ou, .inl (kL, 1, .inr (.inl fo))), (hh, .inr (13, [.ref aexpr, .ref achoo, .ref ameth, .ref aroom, .ref anod, .ref asort, .ref anote, .ref amet, .int 0, .int 1])), (aexpr, .inr (1, [.int 0, .ref eD, .int 0]))] := hD
    have hK : va_K (dC, dI) vwCl [(kL, .long)] s := by simpa using hK
    have hw_12 : r_11 = 0 := hw_12
    have hw_12 := hw_12.symm
    subst hw_12
    refine lv_i2l (v := 0) hx hb dL_many_7 (by decide) ?_
    refine va_last (D := (dC, dI)) hx hb hK hP hD hS 3 0 rfl rfl (by unfold vp_in; decide) dL_many_8 (fun H locs hP hD hS => ?_)
    have hP : va_P (dC, dI) vwCl [(aroom, .inr (9, [.ref asort, .ref anod, .ref atold, .int 3, .ref aheld, .int 0, .ref apair, .ref astep, .int 0, .int 0, .int (-1), .int 0, .int 0, .ref asize])), (asort, .inr (1, [.int 0, .ref eD, .int 0])), (ameth, .inr (1, [.int 0, .ref eD, .int 0])), (ou, .inl (kL, 1, .inr (.inl (vp_updL fo (0 : Int32).toNatClampNeg 0)))), (hh, .inr (13, [.ref aexpr, .ref achoo, .ref ameth, .ref aroom, .ref anod, .ref asort, .ref anote, .ref amet, .int 0, .int 1])), (aexpr, .inr (1, [.int 0, .ref eD, .int 0]))] H := hP
    have hD : va_D A [(aroom, .inr (9, [.ref asort, .ref anod, .ref atold, .int 3, .ref aheld, .int 0, .ref apair, .ref astep, .int 0, .int 0, .int (-1), .int 0, .int 0, .ref asize])), (asort, .inr (1, [.int 0, .ref eD, .int 0])), (ameth, .inr (1, [.int 0, .ref eD, .int 0])), (ou, .inl (kL, 1, .inr (.inl (vp_updL fo (0 : Int32).toNatClampNeg 0)))), (hh, .inr (13, [.ref aexpr, .ref achoo, .ref ameth, .ref aroom, .ref anod, .ref asort, .ref anote, .ref amet, .int 0, .int 1])), (aexpr, .inr (1, [.int 0, .ref eD, .int 0]))] := hD
    refine lv_goto (tgt := 15) hx hb dL_many_9 (by decide) ?_
    refine lv_iconst (v := 0) hx hb dL_many_15 (by decide) ?_
    have hP9 := hP.sub (ws' := [(ou, .inl (kL, 1, .inr (.inl (vp_updL fo (0 : Int32).toNatClampNeg 0))))]) [3] rfl
    have hD9 := hD.sub (ws' := [(ou, .inl (kL, 1, .inr (.inl (vp_updL fo (0 : Int32).toNatClampNeg 0))))]) [3] (by decide) rfl
    have hK9 := hK.sub (tys' := [(kL, .long)]) [0] rfl
    refine W.widen (k := 1) (n := 6) (Nat.le_of_ble_eq_true rfl) (Nat.le_of_ble_eq_true rfl) ?_
    refine vx_ret ?_
    exact W.iret (v := 0) hx hb hr (fun t ht hW => ⟨⟨0, (0, (vp_updL fo (0 : Int32).toNatClampNeg 0)), rfl, ⟨rfl, by first | exact fun h => absurd h (by decide) | exact fun _ => rfl | rfl | decide | simp, by first | exact fun _ => rfl | exact fun _ => by simp [vp_updL]⟩, ⟨by rw [ht]; exact hP9, va_K.moved hW.alike hK9, hD9⟩⟩, hS.F ht⟩) hS.2.2 dL_many_16

def wb_c_L_depth : List Cond := [.code yX11_depth cX11_depth 2 (some .int), .code yX11_needType cX11_needType 2 none, .classLink RX11 277 "java/lang/IndexOutOfBoundsException", .initialized "java/lang/IndexOutOfBoundsException", .methodLink RX11 116 yX11_needType, .instanceMethod yX11_needType, .selects RX11 yX11_needType yX11_needType, .initialized RX11, .methodLink RL 50 yX11_depth, .instanceMethod yX11_depth, .selects RX11 yX11_depth yX11_depth, .classLink RL 21 "java/lang/IndexOutOfBoundsException", .fieldLink RX11 31 "Hornbook" "room" "LHornbook$Room;", .fieldLink RX11 344 "Hornbook$Room" "tellings" "I", .fieldLink RX11 38 "Hornbook" "nodes" "LHornbook$Nodes;", .code yX7_toldAt cX7_toldAt 2 (some .int), .fieldLink RX7 29 "Hornbook$Room" "tellings" "I", .fieldLink RX7 25 "Hornbook$Room" "told" "[I", .methodLink RX11 123 yX7_toldAt, .instanceMethod yX7_toldAt, .selects RX7 yX7_toldAt yX7_toldAt, .initialized RX7, .code yX5_depthOf cX5_depthOf 2 (some .int), .fieldLink RX5 28 "Hornbook$Nodes" "second" "[J", .methodLink RX11 167 yX5_depthOf, .instanceMethod yX5_depthOf, .selects RX5 yX5_depthOf yX5_depthOf, .initialized RX5] ++ u_ws RX11 TX11 10 ++ u_ws RX5 TX5 14 ++ u_ws RX7 TX7 14
def w_c_L_depth : List Cond := .codeWith yL_depth cL_depth 4 (some .int) [(0, 9, 12, 21)] :: (wb_c_L_depth ++ zAt)
set_option maxRecDepth 100000 in
theorem g_c_L_depth_0 : GoodIn w_c_L_depth (wsV RL 50 RX11 yX11_depth w_c_H_depth_l) := goodIn_app (goodIn_of _ (by decide +kernel)) (goodIn_ca (goodIn_p (big := w_c_L_depth) (.code yX11_depth cX11_depth 2 (some .int) :: wb_c_H_depth_l) [1, 2] rfl (by decide +kernel)) (goodIn_sub (fun _ h => List.mem_cons_of_mem _ (List.mem_append_right _ h)) zAt_good))
set_option maxRecDepth 100000 in
theorem g_c_L_depth_1 : GoodIn w_c_L_depth (wsV RL 50 RX11 yX11_depth w_c_H_depth_h) := goodIn_app (goodIn_of _ (by decide +kernel)) (goodIn_ca (goodIn_p (big := w_c_L_depth) (.code yX11_depth cX11_depth 2 (some .int) :: wb_c_H_depth_h) [1, 2] rfl (by decide +kernel)) (goodIn_sub (fun _ h => List.mem_cons_of_mem _ (List.mem_append_right _ h)) zAt_good))
set_option maxRecDepth 100000 in
theorem g_c_L_depth_2 : GoodIn w_c_L_depth (wsV RL 50 RX11 yX11_depth w_c_H_depth_0) := goodIn_app (goodIn_of _ (by decide +kernel)) (goodIn_p (big := w_c_L_depth) (.code yX11_depth cX11_depth 2 (some .int) :: wb_c_H_depth_0) [1, 2, 16, 23] rfl (by decide +kernel))
set_option maxRecDepth 100000 in
theorem g_c_L_depth_3 : GoodIn w_c_L_depth (wsV RL 50 RX11 yX11_depth w_c_H_depth_1) := goodIn_app (goodIn_of _ (by decide +kernel)) (goodIn_p (big := w_c_L_depth) (.code yX11_depth cX11_depth 2 (some .int) :: wb_c_H_depth_1) [1, 2, 16, 23] rfl (by decide +kernel))
set_option maxRecDepth 100000 in
theorem g_c_L_depth_4 : GoodIn w_c_L_depth (wsV RL 50 RX11 yX11_depth w_c_H_depth_2) := goodIn_app (goodIn_of _ (by decide +kernel)) (goodIn_p (big := w_c_L_depth) (.code yX11_depth cX11_depth 2 (some .int) :: wb_c_H_depth_2) [1, 2, 16, 23] rfl (by decide +kernel))
set_option maxHeartbeats 4000000 in
set_option maxRecDepth 100000 in
theorem c_L_depth (l : Launch) (hfl : l.flags = flags0) (eD eI : Nat) (ad : Nat → Nat) (dC : Nat → ClassId) (dI : Nat → Nat → Nat) (sz : Nat) (hh : Nat) (aexpr : Nat) (achoo : Nat) (ameth : Nat) (aroom : Nat) (anod : Nat) (asort : Nat) (anote : Nat) (amet : Nat) (atold : Nat) (aheld : Nat) (apair : Nat) (astep : Nat) (asize : Nat) (nm : Nat) (nl : Nat) (n1 : Nat) (n2 : Nat) (nf : Nat) (ns : Nat) (nh : Nat) (nk : Nat) (np : Nat) (ou : Nat) (kI : ClassId) (kL : ClassId) (x1 : Int32) (fo : Nat → Int64) : vx_Met l yL_depth w_c_L_depth ({ frames := 8, cells := 1, slots := 6, locals := 124 }) (va_Pc [.ref hh, .int x1, .ref ou] (zPreD eD eI ad (dC, dI) [(hh, .inr (13, [.ref aexpr, .ref achoo, .ref ameth, .ref aroom, .ref anod, .ref asort, .ref anote, .ref amet, .int 0, .int 1])), (aroom, .inr (9, [.ref asort, .ref anod, .ref atold, .int 3, .ref aheld, .int 0, .ref apair, .ref astep, .int 0, .int 0, .int (-1), .int 0, .int 0, .ref asize])), (atold, .inl (kI, 60, .inl zTold)), (anod, .inr (7, [.ref nm, .ref nl, .ref n1, .ref n2, .ref nf, .ref ns, .ref nh, .ref nk, .ref np, .int 16, .int 0, .int 16, .int 0, .int 0])), (ns, .inl (kL, 1024, .inr (.inl zSec))), (ou, .inl (kL, 1, .inr (.inl fo)))] [(kI, .int), (kL, .long)] sz)) (va_Qi (fun (r : Int32) (u : Int32 × (Nat → Int64)) => match u with | (k2, fo2) => r = k2 ∧ k2 = (if x1 < 0 ∨ 2 < x1 then 1 else 0) ∧ (k2 = 0 → fo2 (0 : Int32).toNatClampNeg = (0 : Int32).toInt64)) (fun (u : Int32 × (Nat → Int64)) => match u with | (k2, fo2) => zEnd (dC, dI) (va_A [(hh, .inr (13, [.ref aexpr, .ref achoo, .ref ameth, .ref aroom, .ref anod, .ref asort, .ref anote, .ref amet, .int 0, .int 1])), (aroom, .inr (9, [.ref asort, .ref anod, .ref atold, .int 3, .ref aheld, .int 0, .ref apair, .ref astep, .int 0, .int 0, .int (-1), .int 0, .int 0, .ref asize])), (atold, .inl (kI, 60, .inl zTold)), (anod, .inr (7, [.ref nm, .ref nl, .ref n1, .ref n2, .ref nf, .ref ns, .ref nh, .ref nk, .ref np, .int 16, .int 0, .int 16, .int 0, .int 0])), (ns, .inl (kL, 1024, .inr (.inl zSec))), (ou, .inl (kL, 1, .inr (.inl fo)))] sz) [(ou, .inl (kL, 1, .inr (.inl fo2)))] [(kL, .long)]) (va_A [(hh, .inr (13, [.ref aexpr, .ref achoo, .ref ameth, .ref aroom, .ref anod, .ref asort, .ref anote, .ref amet, .int 0, .int 1])), (aroom, .inr (9, [.ref asort, .ref anod, .ref atold, .int 3, .ref aheld, .int 0, .ref apair, .ref astep, .int 0, .int 0, .int (-1), .int 0, .int 0, .ref asize])), (atold, .inl (kI, 60, .inl zTold)), (anod, .inr (7, [.ref nm, .ref nl, .ref n1, .ref n2, .ref nf, .ref ns, .ref nh, .ref nk, .ref np, .int 16, .int 0, .int 16, .int 0, .int 0])), (ns, .inl (kL, 1024, .inr (.inl zSec))), (ou, .inl (kL, 1, .inr (.inl fo)))] sz)) (zX (fun _ => False) (va_A [(hh, .inr (13, [.ref aexpr, .ref achoo, .ref ameth, .ref aroom, .ref anod, .ref asort, .ref anote, .ref amet, .int 0, .int 1])), (aroom, .inr (9, [.ref asort, .ref anod, .ref atold, .int 3, .ref aheld, .int 0, .ref apair, .ref astep, .int 0, .int 0, .int (-1), .int 0, .int 0, .ref asize])), (atold, .inl (kI, 60, .inl zTold)), (anod, .inr (7, [.ref nm, .ref nl, .ref n1, .ref n2, .ref nf, .ref ns, .ref nh, .ref nk, .ref np, .int 16, .int 0, .int 16, .int 0, .int 0])), (ns, .inl (kL, 1024, .inr (.inl zSec))), (ou, .inl (kL, 1, .inr (.inl fo)))] sz)) 1 6 (va_A [(hh, .inr (13, [.ref aexpr, .ref achoo, .ref ameth, .ref aroom, .ref anod, .ref asort, .ref anote, .ref amet, .int 0, .int 1])), (aroom, .inr (9, [.ref asort, .ref anod, .ref atold, .int 3, .ref aheld, .int 0, .ref apair, .ref astep, .int 0, .int 0, .int (-1), .int 0, .int 0, .ref asize])), (atold, .inl (kI, 60, .inl zTold)), (anod, .inr (7, [.ref nm, .ref nl, .ref n1, .ref n2, .ref nf, .ref ns, .ref nh, .ref nk, .ref np, .int 16, .int 0, .int 16, .int 0, .int 0])), (ns, .inl (kL, 1024, .inr (.inl zSec))), (ou, .inl (kL, 1, .inr (.inl fo)))] sz) := by
  refine vx_ofWH (cc := cL_depth) (maxL := 4) (ret := (some .int)) (hh := [(0, 9, 12, 21)]) (by decide +kernel) rfl ?_
  intro p e s m args below meth c s₁ B hml hv
  obtain ⟨rfl, ⟨hsz, hP, hK, hD0, hE⟩, hDc⟩ := hv
  have hx := B.exec
  have hb := B.bytes
  have hr := B.returns
  have hts := atoms_spec (ws := w_c_L_depth) B.pre
  have hown : s.vm.findClass RL = some m.cls := findClass_of_methodNamed B.named
  have hlocks := B.notSynchronized
  have htab := vx_table (x := yL_depth) B (hts (.codeWith yL_depth cL_depth 4 (some .int) [(0, 9, 12, 21)]) List.mem_cons_self)
  subst hsz
  have hD := hD0.self (sz := s.heap.size)
  generalize hAe : va_A [(hh, .inr (13, [.ref aexpr, .ref achoo, .ref ameth, .ref aroom, .ref anod, .ref asort, .ref anote, .ref amet, .int 0, .int 1])), (aroom, .inr (9, [.ref asort, .ref anod, .ref atold, .int 3, .ref aheld, .int 0, .ref apair, .ref astep, .int 0, .int 0, .int (-1), .int 0, .int 0, .ref asize])), (atold, .inl (kI, 60, .inl zTold)), (anod, .inr (7, [.ref nm, .ref nl, .ref n1, .ref n2, .ref nf, .ref ns, .ref nh, .ref nk, .ref np, .int 16, .int 0, .int 16, .int 0, .int 0])), (ns, .inl (kL, 1024, .inr (.inl zSec))), (ou, .inl (kL, 1, .inr (.inl fo)))] s.heap.size = A at hD hE ⊢
  have hA : ∀ q : Nat, s.heap.size ≤ q → A q := fun q h => by rw [← hAe]; exact Or.inr h
  have hS : va_S A s.heap s.heap [] := va_S.rf
  have hP : va_P (dC, dI) vwCl [(hh, .inr (13, [.ref aexpr, .ref achoo, .ref ameth, .ref aroom, .ref anod, .ref asort, .ref anote, .ref amet, .int 0, .int 1])), (aroom, .inr (9, [.ref asort, .ref anod, .ref atold, .int 3, .ref aheld, .int 0, .ref apair, .ref astep, .int 0, .int 0, .int (-1), .int 0, .int 0, .ref asize])), (atold, .inl (kI, 60, .inl zTold)), (anod, .inr (7, [.ref nm, .ref nl, .ref n1, .ref n2, .ref nf, .ref ns, .ref nh, .ref nk, .ref np, .int 16, .int 0, .int 16, .int 0, .int 0])), (ns, .inl (kL, 1024, .inr (.inl zSec))), (ou, .inl (kL, 1, .inr (.inl fo)))] s.heap := hP
  have hl := lv_entry ([.ref hh, .int x1, .ref ou]) (n := 4) (Nat.le_of_ble_eq_true rfl)
  rw [lg_entry_eq]
  generalize (lg_sl ([.ref hh, .int x1, .ref ou]) ++ List.replicate (4 - (lg_sl ([.ref hh, .int x1, .ref ou])).length) Slot.unset).toArray = ls at hl ⊢
  have hl : lv_has ls 4 [(0, .ref hh), (1, .int x1), (2, .ref ou)] := hl
  have in_RX11 : ∀ w ∈ u_ws RX11 TX11 10, w ∈ w_c_L_depth := by decide +kernel
  have in_RX5 : ∀ w ∈ u_ws RX5 TX5 14, w ∈ w_c_L_depth := by decide +kernel
  have in_RX7 : ∀ w ∈ u_ws RX7 TX7 14, w ∈ w_c_L_depth := by decide +kernel
  rcases z_split3 x1 with hx11 | ⟨hx10, hx11⟩ | rfl | rfl | rfl
  · refine lv_aload_n hx hb dL_depth_0 rfl (lv_at hl 2 rfl) ?_
    refine lv_iconst (v := 0) hx hb dL_depth_1 (by decide) ?_
    refine lv_aload_n hx hb dL_depth_2 rfl (lv_at hl 0 rfl) ?_
    refine lv_iload_n hx hb dL_depth_3 rfl (lv_at hl 1 rfl) ?_
    refine zx_i (wr := [(ou, .inl (kL, 1, .inr (.inl fo)))]) (vx_runV (As := [.int x1]) (rest := [.int 0, .ref ou]) ⟨hx, hb, hml, hown, hts⟩ (c_H_depth_l l hfl eD eI ad dC dI s.heap.size hh aexpr achoo ameth aroom anod asort anote amet atold aheld apair astep asize nm nl n1 n2 nf ns nh nk np kI kL x1 (hx11)) (cwV 1 hts g_c_L_depth_0 rfl rfl rfl (by decide +kernel) ⟨Nat.le_of_ble_eq_true rfl, Nat.le_of_ble_eq_true rfl⟩) (z_preVD (wc := [(hh, .inr (13, [.ref aexpr, .ref achoo, .ref ameth, .ref aroom, .ref anod, .ref asort, .ref anote, .ref amet, .int 0, .int 1])), (aroom, .inr (9, [.ref asort, .ref anod, .ref atold, .int 3, .ref aheld, .int 0, .ref apair, .ref astep, .int 0, .int 0, .int (-1), .int 0, .int 0, .ref asize])), (atold, .inl (kI, 60, .inl zTold)), (anod, .inr (7, [.ref nm, .ref nl, .ref n1, .ref n2, .ref nf, .ref ns, .ref nh, .ref nk, .ref np, .int 16, .int 0, .int 16, .int 0, .int 0])), (ns, .inl (kL, 1024, .inr (.inl zSec)))]) hP hD hK hS hA hE [0, 1, 2, 3, 4] [0, 1] rfl (by decide) rfl (ci := 13) (q0 := 0) rfl rfl hDc) rfl rfl hl.1 rfl (lv_room (Nat.le_of_ble_eq_true rfl)) dL_depth_4 ⟨Nat.le_of_ble_eq_true rfl, Nat.le_of_ble_eq_true rfl⟩) hP hD hK hS hA [0, 1, 2, 3, 4] [5] rfl rfl (by decide) (by decide) (fun E ce q9 H locs hbad hP hD hS h91 h92 h93 => ?_) (fun r_1 u H locs hw_2 hP hD hK hS => ?_)
    · have hbad : E = "java/lang/IndexOutOfBoundsException" := hbad
      subst hbad
      refine vx_catch (name := "java/lang/IndexOutOfBoundsException") hown [] ⟨0, 9, 12, 21⟩ [] (by rw [htab]; rfl) (fun z h => by simp at h) (by decide) (by decide) (hts (.classLink RL 21 "java/lang/IndexOutOfBoundsException") (by decide +kernel)) (va_Nw.use rfl (hE.2.2.2.2.2.2.2.1 ("java/lang/IndexOutOfBoundsException", "java/lang/IndexOutOfBoundsException") (by decide +kernel))) h91 h92 h93 ?_
      refine W.eq (g2 := F0 m 12 ls [.ref q9]) rfl ?_
      refine lv_astore_n (lv' := [(3, .ref q9), (0, .ref hh), (1, .int x1), (2, .ref ou)]) hx hb dL_depth_12 rfl hl (by decide) rfl (fun ls hl => ?_)
      refine lv_iconst (v := 1) hx hb dL_depth_13 (by decide) ?_
      have hP9 := hP.sub (ws' := [(ou, .inl (kL, 1, .inr (.inl fo)))]) [0] rfl
      have hD9 := hD.sub (ws' := [(ou, .inl (kL, 1, .inr (.inl fo)))]) [0] (by decide) rfl
      have hK9 := hK.sub (tys' := [(kL, .long)]) [1] rfl
      refine W.widen (k := 1) (n := 6) (Nat.le_of_ble_eq_true rfl) (Nat.le_of_ble_eq_true rfl) ?_
      refine vx_ret ?_
      exact W.iret (v := 1) hx hb hr (fun t ht hW => ⟨⟨1, (1, (fo)), rfl, ⟨rfl, by first | exact fun h => absurd h (by decide) | exact fun _ => rfl | rfl | decide | simp [hx11], fun h => absurd h (by decide)⟩, ⟨by rw [ht]; exact hP9, va_K.moved hW.alike hK9, hD9⟩⟩, hS.F ht⟩) hS.2.2 dL_depth_14
    exact absurd hw_2 id
  · refine lv_aload_n hx hb dL_depth_0 rfl (lv_at hl 2 rfl) ?_
    refine lv_iconst (v := 0) hx hb dL_depth_1 (by decide) ?_
    refine lv_aload_n hx hb dL_depth_2 rfl (lv_at hl 0 rfl) ?_
    refine lv_iload_n hx hb dL_depth_3 rfl (lv_at hl 1 rfl) ?_
    refine zx_i (wr := [(ou, .inl (kL, 1, .inr (.inl fo)))]) (vx_runV (As := [.int x1]) (rest := [.int 0, .ref ou]) ⟨hx, hb, hml, hown, hts⟩ (c_H_depth_h l hfl eD eI ad dC dI s.heap.size hh aexpr achoo ameth aroom anod asort anote amet atold aheld apair astep asize nm nl n1 n2 nf ns nh nk np kI kL x1 (hx10) (hx11)) (cwV 1 hts g_c_L_depth_1 rfl rfl rfl (by decide +kernel) ⟨Nat.le_of_ble_eq_true rfl, Nat.le_of_ble_eq_true rfl⟩) (z_preVD (wc := [(hh, .inr (13, [.ref aexpr, .ref achoo, .ref ameth, .ref aroom, .ref anod, .ref asort, .ref anote, .ref amet, .int 0, .int 1])), (aroom, .inr (9, [.ref asort, .ref anod, .ref atold, .int 3, .ref aheld, .int 0, .ref apair, .ref astep, .int 0, .int 0, .int (-1), .int 0, .int 0, .ref asize])), (atold, .inl (kI, 60, .inl zTold)), (anod, .inr (7, [.ref nm, .ref nl, .ref n1, .ref n2, .ref nf, .ref ns, .ref nh, .ref nk, .ref np, .int 16, .int 0, .int 16, .int 0, .int 0])), (ns, .inl (kL, 1024, .inr (.inl zSec)))]) hP hD hK hS hA hE [0, 1, 2, 3, 4] [0, 1] rfl (by decide) rfl (ci := 13) (q0 := 0) rfl rfl hDc) rfl rfl hl.1 rfl (lv_room (Nat.le_of_ble_eq_true rfl)) dL_depth_4 ⟨Nat.le_of_ble_eq_true rfl, Nat.le_of_ble_eq_true rfl⟩) hP hD hK hS hA [0, 1, 2, 3, 4] [5] rfl rfl (by decide) (by decide) (fun E ce q9 H locs hbad hP hD hS h91 h92 h93 => ?_) (fun r_3 u H locs hw_4 hP hD hK hS => ?_)
    · have hbad : E = "java/lang/IndexOutOfBoundsException" := hbad
      subst hbad
      refine vx_catch (name := "java/lang/IndexOutOfBoundsException") hown [] ⟨0, 9, 12, 21⟩ [] (by rw [htab]; rfl) (fun z h => by simp at h) (by decide) (by decide) (hts (.classLink RL 21 "java/lang/IndexOutOfBoundsException") (by decide +kernel)) (va_Nw.use rfl (hE.2.2.2.2.2.2.2.1 ("java/lang/IndexOutOfBoundsException", "java/lang/IndexOutOfBoundsException") (by decide +kernel))) h91 h92 h93 ?_
      refine W.eq (g2 := F0 m 12 ls [.ref q9]) rfl ?_
      refine lv_astore_n (lv' := [(3, .ref q9), (0, .ref hh), (1, .int x1), (2, .ref ou)]) hx hb dL_depth_12 rfl hl (by decide) rfl (fun ls hl => ?_)
      refine lv_iconst (v := 1) hx hb dL_depth_13 (by decide) ?_
      have hP9 := hP.sub (ws' := [(ou, .inl (kL, 1, .inr (.inl fo)))]) [0] rfl
      have hD9 := hD.sub (ws' := [(ou, .inl (kL, 1, .inr (.inl fo)))]) [0] (by decide) rfl
      have hK9 := hK.sub (tys' := [(kL, .long)]) [1] rfl
      refine W.widen (k := 1) (n := 6) (Nat.le_of_ble_eq_true rfl) (Nat.le_of_ble_eq_true rfl) ?_
      refine vx_ret ?_
      exact W.iret (v := 1) hx hb hr (fun t ht hW => ⟨⟨1, (1, (fo)), rfl, ⟨rfl, by first | exact fun h => absurd h (by decide) | exact fun _ => rfl | rfl | decide | simp [hx10, hx11], fun h => absurd h (by decide)⟩, ⟨by rw [ht]; exact hP9, va_K.moved hW.alike hK9, hD9⟩⟩, hS.F ht⟩) hS.2.2 dL_depth_14
    exact absurd hw_4 id
  · refine lv_aload_n hx hb dL_depth_0 rfl (lv_at hl 2 rfl) ?_
    refine lv_iconst (v := 0) hx hb dL_depth_1 (by decide) ?_
    refine lv_aload_n hx hb dL_depth_2 rfl (lv_at hl 0 rfl) ?_
    refine lv_iload_n hx hb dL_depth_3 rfl (lv_at hl 1 rfl) ?_
    refine z_i (wr := [(ou, .inl (kL, 1, .inr (.inl fo)))]) (va_runV (As := [.int 0]) (rest := [.int 0, .ref ou]) ⟨hx, hb, hml, hown, hts⟩ (c_H_depth_0 l eD eI ad dC dI s.heap.size hh aexpr achoo ameth aroom anod asort anote amet atold aheld apair astep asize nm nl n1 n2 nf ns nh nk np kI kL) (cwV 1 hts g_c_L_depth_2 rfl rfl rfl (by decide +kernel) ⟨Nat.le_of_ble_eq_true rfl, Nat.le_of_ble_eq_true rfl⟩) (z_preV (wc := [(hh, .inr (13, [.ref aexpr, .ref achoo, .ref ameth, .ref aroom, .ref anod, .ref asort, .ref anote, .ref amet, .int 0, .int 1])), (aroom, .inr (9, [.ref asort, .ref anod, .ref atold, .int 3, .ref aheld, .int 0, .ref apair, .ref astep, .int 0, .int 0, .int (-1), .int 0, .int 0, .ref asize])), (atold, .inl (kI, 60, .inl zTold)), (anod, .inr (7, [.ref nm, .ref nl, .ref n1, .ref n2, .ref nf, .ref ns, .ref nh, .ref nk, .ref np, .int 16, .int 0, .int 16, .int 0, .int 0])), (ns, .inl (kL, 1024, .inr (.inl zSec)))]) hP hD hK hS hA hE [0, 1, 2, 3, 4] [0, 1] rfl (by decide) rfl (ci := 13) (q0 := 0) rfl rfl) rfl rfl hl.1 rfl (lv_room (Nat.le_of_ble_eq_true rfl)) dL_depth_4 ⟨Nat.le_of_ble_eq_true rfl, Nat.le_of_ble_eq_true rfl⟩) hP hD hK hS hA [0, 1, 2, 3, 4] [5] rfl rfl (by decide) (by decide) (fun r_5 u H locs hw_6 hP hD hK hS => ?_)
    obtain ⟨⟩ := u
    have hP : va_P (dC, dI) vwCl [(ou, .inl (kL, 1, .inr (.inl fo))), (hh, .inr (13, [.ref aexpr, .ref achoo, .ref ameth, .ref aroom, .ref anod, .ref asort, .ref anote, .ref amet, .int 0, .int 1])), (aroom, .inr (9, [.ref asort, .ref anod, .ref atold, .int 3, .ref aheld, .int 0, .ref apair, .ref astep, .int 0, .int 0, .int (-1), .int 0, .int 0, .ref asize])), (atold, .inl (kI, 60, .inl zTold)), (anod, .inr (7, [.ref nm, .ref nl, .ref n1, .ref n2, .ref nf, .ref ns, .ref nh, .ref nk, .ref np, .int 16, .int 0, .int 16, .int 0, .int 0])), (ns, .inl (kL, 1024, .inr (.inl zSec)))] H := hP
    have hD : va_D A [(ou, .inl (kL, 1, .inr (.inl fo))), (hh, .inr (13, [.ref aexpr, .ref achoo, .ref ameth, .ref aroom, .ref anod, .ref asort, .ref anote, .ref amet, .int 0, .int 1])), (aroom, .inr (9, [.ref asort, .ref anod, .ref atold, .int 3, .ref aheld, .int 0, .ref apair, .ref astep, .int 0, .int 0, .int (-1), .int 0, .int 0, .ref asize])), (atold, .inl (kI, 60, .inl zTold)), (anod, .inr (7, [.ref nm, .ref nl, .ref n1, .ref n2, .ref nf, .ref ns, .ref nh, .ref nk, .ref np, .int 16, .int 0, .int 16, .int 0, .int 0])), (ns, .inl (kL, 1024, .inr (.inl zSec)))] := hD
    have hK : va_K (dC, dI) vwCl [(kI, .int), (kL, .long), (kI, .int), (kL, .long)] s := hK
    have hw_6 : r_5 = 0 := hw_6
    have hw_6 := hw_6.symm
    subst hw_6
    refine lv_i2l (v := 0) hx hb dL_depth_7 (by decide) ?_
    refine va_last (D := (dC, dI)) hx hb hK hP hD hS 0 1 rfl rfl (by unfold vp_in; decide) dL_depth_8 (fun H locs hP hD hS => ?_)
    have hP : va_P (dC, dI) vwCl [(ou, .inl (kL, 1, .inr (.inl (vp_updL fo (0 : Int32).toNatClampNeg 0)))), (hh, .inr (13, [.ref aexpr, .ref achoo, .ref ameth, .ref aroom, .ref anod, .ref asort, .ref anote, .ref amet, .int 0, .int 1])), (aroom, .inr (9, [.ref asort, .ref anod, .ref atold, .int 3, .ref aheld, .int 0, .ref apair, .ref astep, .int 0, .int 0, .int (-1), .int 0, .int 0, .ref asize])), (atold, .inl (kI, 60, .inl zTold)), (anod, .inr (7, [.ref nm, .ref nl, .ref n1, .ref n2, .ref nf, .ref ns, .ref nh, .ref nk, .ref np, .int 16, .int 0, .int 16, .int 0, .int 0])), (ns, .inl (kL, 1024, .inr (.inl zSec)))] H := hP
    have hD : va_D A [(ou, .inl (kL, 1, .inr (.inl (vp_updL fo (0 : Int32).toNatClampNeg 0)))), (hh, .inr (13, [.ref aexpr, .ref achoo, .ref ameth, .ref aroom, .ref anod, .ref asort, .ref anote, .ref amet, .int 0, .int 1])), (aroom, .inr (9, [.ref asort, .ref anod, .ref atold, .int 3, .ref aheld, .int 0, .ref apair, .ref astep, .int 0, .int 0, .int (-1), .int 0, .int 0, .ref asize])), (atold, .inl (kI, 60, .inl zTold)), (anod, .inr (7, [.ref nm, .ref nl, .ref n1, .ref n2, .ref nf, .ref ns, .ref nh, .ref nk, .ref np, .int 16, .int 0, .int 16, .int 0, .int 0])), (ns, .inl (kL, 1024, .inr (.inl zSec)))] := hD
    refine lv_goto (tgt := 15) hx hb dL_depth_9 (by decide) ?_
    refine lv_iconst (v := 0) hx hb dL_depth_15 (by decide) ?_
    have hP9 := hP.sub (ws' := [(ou, .inl (kL, 1, .inr (.inl (vp_updL fo (0 : Int32).toNatClampNeg 0))))]) [0] rfl
    have hD9 := hD.sub (ws' := [(ou, .inl (kL, 1, .inr (.inl (vp_updL fo (0 : Int32).toNatClampNeg 0))))]) [0] (by decide) rfl
    have hK9 := hK.sub (tys' := [(kL, .long)]) [1] rfl
    refine W.widen (k := 1) (n := 6) (Nat.le_of_ble_eq_true rfl) (Nat.le_of_ble_eq_true rfl) ?_
    refine vx_ret ?_
    exact W.iret (v := 0) hx hb hr (fun t ht hW => ⟨⟨0, (0, (vp_updL fo (0 : Int32).toNatClampNeg 0)), rfl, ⟨rfl, by first | exact fun h => absurd h (by decide) | exact fun _ => rfl | rfl | decide | simp, by first | exact fun _ => rfl | exact fun _ => by simp [vp_updL]⟩, ⟨by rw [ht]; exact hP9, va_K.moved hW.alike hK9, hD9⟩⟩, hS.F ht⟩) hS.2.2 dL_depth_16
  · refine lv_aload_n hx hb dL_depth_0 rfl (lv_at hl 2 rfl) ?_
    refine lv_iconst (v := 0) hx hb dL_depth_1 (by decide) ?_
    refine lv_aload_n hx hb dL_depth_2 rfl (lv_at hl 0 rfl) ?_
    refine lv_iload_n hx hb dL_depth_3 rfl (lv_at hl 1 rfl) ?_
    refine z_i (wr := [(ou, .inl (kL, 1, .inr (.inl fo)))]) (va_runV (As := [.int 1]) (rest := [.int 0, .ref ou]) ⟨hx, hb, hml, hown, hts⟩ (c_H_depth_1 l eD eI ad dC dI s.heap.size hh aexpr achoo ameth aroom anod asort anote amet atold aheld apair astep asize nm nl n1 n2 nf ns nh nk np kI kL) (cwV 1 hts g_c_L_depth_3 rfl rfl rfl (by decide +kernel) ⟨Nat.le_of_ble_eq_true rfl, Nat.le_of_ble_eq_true rfl⟩) (z_preV (wc := [(hh, .inr (13, [.ref aexpr, .ref achoo, .ref ameth, .ref aroom, .ref anod, .ref asort, .ref anote, .ref amet, .int 0, .int 1])), (aroom, .inr (9, [.ref asort, .ref anod, .ref atold, .int 3, .ref aheld, .int 0, .ref apair, .ref astep, .int 0, .int 0, .int (-1), .int 0, .int 0, .ref asize])), (atold, .inl (kI, 60, .inl zTold)), (anod, .inr (7, [.ref nm, .ref nl, .ref n1, .ref n2, .ref nf, .ref ns, .ref nh, .ref nk, .ref np, .int 16, .int 0, .int 16, .int 0, .int 0])), (ns, .inl (kL, 1024, .inr (.inl zSec)))]) hP hD hK hS hA hE [0, 1, 2, 3, 4] [0, 1] rfl (by decide) rfl (ci := 13) (q0 := 0) rfl rfl) rfl rfl hl.1 rfl (lv_room (Nat.le_of_ble_eq_true rfl)) dL_depth_4 ⟨Nat.le_of_ble_eq_true rfl, Nat.le_of_ble_eq_true rfl⟩) hP hD hK hS hA [0, 1, 2, 3, 4] [5] rfl rfl (by decide) (by decide) (fun r_7 u H locs hw_8 hP hD hK hS => ?_)
    obtain ⟨⟩ := u
    have hP : va_P (dC, dI) vwCl [(ou, .inl (kL, 1, .inr (.inl fo))), (hh, .inr (13, [.ref aexpr, .ref achoo, .ref ameth, .ref aroom, .ref anod, .ref asort, .ref anote, .ref amet, .int 0, .int 1])), (aroom, .inr (9, [.ref asort, .ref anod, .ref atold, .int 3, .ref aheld, .int 0, .ref apair, .ref astep, .int 0, .int 0, .int (-1), .int 0, .int 0, .ref asize])), (atold, .inl (kI, 60, .inl zTold)), (anod, .inr (7, [.ref nm, .ref nl, .ref n1, .ref n2, .ref nf, .ref ns, .ref nh, .ref nk, .ref np, .int 16, .int 0, .int 16, .int 0, .int 0])), (ns, .inl (kL, 1024, .inr (.inl zSec)))] H := hP
    have hD : va_D A [(ou, .inl (kL, 1, .inr (.inl fo))), (hh, .inr (13, [.ref aexpr, .ref achoo, .ref ameth, .ref aroom, .ref anod, .ref asort, .ref anote, .ref amet, .int 0, .int 1])), (aroom, .inr (9, [.ref asort, .ref anod, .ref atold, .int 3, .ref aheld, .int 0, .ref apair, .ref astep, .int 0, .int 0, .int (-1), .int 0, .int 0, .ref asize])), (atold, .inl (kI, 60, .inl zTold)), (anod, .inr (7, [.ref nm, .ref nl, .ref n1, .ref n2, .ref nf, .ref ns, .ref nh, .ref nk, .ref np, .int 16, .int 0, .int 16, .int 0, .int 0])), (ns, .inl (kL, 1024, .inr (.inl zSec)))] := hD
    have hK : va_K (dC, dI) vwCl [(kI, .int), (kL, .long), (kI, .int), (kL, .long)] s := hK
    have hw_8 : r_7 = 0 := hw_8
    have hw_8 := hw_8.symm
    subst hw_8
    refine lv_i2l (v := 0) hx hb dL_depth_7 (by decide) ?_
    refine va_last (D := (dC, dI)) hx hb hK hP hD hS 0 1 rfl rfl (by unfold vp_in; decide) dL_depth_8 (fun H locs hP hD hS => ?_)
    have hP : va_P (dC, dI) vwCl [(ou, .inl (kL, 1, .inr (.inl (vp_updL fo (0 : Int32).toNatClampNeg 0)))), (hh, .inr (13, [.ref aexpr, .ref achoo, .ref ameth, .ref aroom, .ref anod, .ref asort, .ref anote, .ref amet, .int 0, .int 1])), (aroom, .inr (9, [.ref asort, .ref anod, .ref atold, .int 3, .ref aheld, .int 0, .ref apair, .ref astep, .int 0, .int 0, .int (-1), .int 0, .int 0, .ref asize])), (atold, .inl (kI, 60, .inl zTold)), (anod, .inr (7, [.ref nm, .ref nl, .ref n1, .ref n2, .ref nf, .ref ns, .ref nh, .ref nk, .ref np, .int 16, .int 0, .int 16, .int 0, .int 0])), (ns, .inl (kL, 1024, .inr (.inl zSec)))] H := hP
    have hD : va_D A [(ou, .inl (kL, 1, .inr (.inl (vp_updL fo (0 : Int32).toNatClampNeg 0)))), (hh, .inr (13, [.ref aexpr, .ref achoo, .ref ameth, .ref aroom, .ref anod, .ref asort, .ref anote, .ref amet, .int 0, .int 1])), (aroom, .inr (9, [.ref asort, .ref anod, .ref atold, .int 3, .ref aheld, .int 0, .ref apair, .ref astep, .int 0, .int 0, .int (-1), .int 0, .int 0, .ref asize])), (atold, .inl (kI, 60, .inl zTold)), (anod, .inr (7, [.ref nm, .ref nl, .ref n1, .ref n2, .ref nf, .ref ns, .ref nh, .ref nk, .ref np, .int 16, .int 0, .int 16, .int 0, .int 0])), (ns, .inl (kL, 1024, .inr (.inl zSec)))] := hD
    refine lv_goto (tgt := 15) hx hb dL_depth_9 (by decide) ?_
    refine lv_iconst (v := 0) hx hb dL_depth_15 (by decide) ?_
    have hP9 := hP.sub (ws' := [(ou, .inl (kL, 1, .inr (.inl (vp_updL fo (0 : Int32).toNatClampNeg 0))))]) [0] rfl
    have hD9 := hD.sub (ws' := [(ou, .inl (kL, 1, .inr (.inl (vp_updL fo (0 : Int32).toNatClampNeg 0))))]) [0] (by decide) rfl
    have hK9 := hK.sub (tys' := [(kL, .long)]) [1] rfl
    refine W.widen (k := 1) (n := 6) (Nat.le_of_ble_eq_true rfl) (Nat.le_of_ble_eq_true rfl) ?_
    refine vx_ret ?_
    exact W.iret (v := 0) hx hb hr (fun t ht hW => ⟨⟨0, (0, (vp_updL fo (0 : Int32).toNatClampNeg 0)), rfl, ⟨rfl, by first | exact fun h => absurd h (by decide) | exact fun _ => rfl | rfl | decide | simp, by first | exact fun _ => rfl | exact fun _ => by simp [vp_updL]⟩, ⟨by rw [ht]; exact hP9, va_K.moved hW.alike hK9, hD9⟩⟩, hS.F ht⟩) hS.2.2 dL_depth_16
  · refine lv_aload_n hx hb dL_depth_0 rfl (lv_at hl 2 rfl) ?_
    refine lv_iconst (v := 0) hx hb dL_depth_1 (by decide) ?_
    refine lv_aload_n hx hb dL_depth_2 rfl (lv_at hl 0 rfl) ?_
    refine lv_iload_n hx hb dL_depth_3 rfl (lv_at hl 1 rfl) ?_
    refine z_i (wr := [(ou, .inl (kL, 1, .inr (.inl fo)))]) (va_runV (As := [.int 2]) (rest := [.int 0, .ref ou]) ⟨hx, hb, hml, hown, hts⟩ (c_H_depth_2 l eD eI ad dC dI s.heap.size hh aexpr achoo ameth aroom anod asort anote amet atold aheld apair astep asize nm nl n1 n2 nf ns nh nk np kI kL) (cwV 1 hts g_c_L_depth_4 rfl rfl rfl (by decide +kernel) ⟨Nat.le_of_ble_eq_true rfl, Nat.le_of_ble_eq_true rfl⟩) (z_preV (wc := [(hh, .inr (13, [.ref aexpr, .ref achoo, .ref ameth, .ref aroom, .ref anod, .ref asort, .ref anote, .ref amet, .int 0, .int 1])), (aroom, .inr (9, [.ref asort, .ref anod, .ref atold, .int 3, .ref aheld, .int 0, .ref apair, .ref astep, .int 0, .int 0, .int (-1), .int 0, .int 0, .ref asize])), (atold, .inl (kI, 60, .inl zTold)), (anod, .inr (7, [.ref nm, .ref nl, .ref n1, .ref n2, .ref nf, .ref ns, .ref nh, .ref nk, .ref np, .int 16, .int 0, .int 16, .int 0, .int 0])), (ns, .inl (kL, 1024, .inr (.inl zSec)))]) hP hD hK hS hA hE [0, 1, 2, 3, 4] [0, 1] rfl (by decide) rfl (ci := 13) (q0 := 0) rfl rfl) rfl rfl hl.1 rfl (lv_room (Nat.le_of_ble_eq_true rfl)) dL_depth_4 ⟨Nat.le_of_ble_eq_true rfl, Nat.le_of_ble_eq_true rfl⟩) hP hD hK hS hA [0, 1, 2, 3, 4] [5] rfl rfl (by decide) (by decide) (fun r_9 u H locs hw_10 hP hD hK hS => ?_)
    obtain ⟨⟩ := u
    have hP : va_P (dC, dI) vwCl [(ou, .inl (kL, 1, .inr (.inl fo))), (hh, .inr (13, [.ref aexpr, .ref achoo, .ref ameth, .ref aroom, .ref anod, .ref asort, .ref anote, .ref amet, .int 0, .int 1])), (aroom, .inr (9, [.ref asort, .ref anod, .ref atold, .int 3, .ref aheld, .int 0, .ref apair, .ref astep, .int 0, .int 0, .int (-1), .int 0, .int 0, .ref asize])), (atold, .inl (kI, 60, .inl zTold)), (anod, .inr (7, [.ref nm, .ref nl, .ref n1, .ref n2, .ref nf, .ref ns, .ref nh, .ref nk, .ref np, .int 16, .int 0, .int 16, .int 0, .int 0])), (ns, .inl (kL, 1024, .inr (.inl zSec)))] H := hP
    have hD : va_D A [(ou, .inl (kL, 1, .inr (.inl fo))), (hh, .inr (13, [.ref aexpr, .ref achoo, .ref ameth, .ref aroom, .ref anod, .ref asort, .ref anote, .ref amet, .int 0, .int 1])), (aroom, .inr (9, [.ref asort, .ref anod, .ref atold, .int 3, .ref aheld, .int 0, .ref apair, .ref astep, .int 0, .int 0, .int (-1), .int 0, .int 0, .ref asize])), (atold, .inl (kI, 60, .inl zTold)), (anod, .inr (7, [.ref nm, .ref nl, .ref n1, .ref n2, .ref nf, .ref ns, .ref nh, .ref nk, .ref np, .int 16, .int 0, .int 16, .int 0, .int 0])), (ns, .inl (kL, 1024, .inr (.inl zSec)))] := hD
    have hK : va_K (dC, dI) vwCl [(kI, .int), (kL, .long), (kI, .int), (kL, .long)] s := hK
    have hw_10 : r_9 = 0 := hw_10
    have hw_10 := hw_10.symm
    subst hw_10
    refine lv_i2l (v := 0) hx hb dL_depth_7 (by decide) ?_
    refine va_last (D := (dC, dI)) hx hb hK hP hD hS 0 1 rfl rfl (by unfold vp_in; decide) dL_depth_8 (fun H locs hP hD hS => ?_)
    have hP : va_P (dC, dI) vwCl [(ou, .inl (kL, 1, .inr (.inl (vp_updL fo (0 : Int32).toNatClampNeg 0)))), (hh, .inr (13, [.ref aexpr, .ref achoo, .ref ameth, .ref aroom, .ref anod, .ref asort, .ref anote, .ref amet, .int 0, .int 1])), (aroom, .inr (9, [.ref asort, .ref anod, .ref atold, .int 3, .ref aheld, .int 0, .ref apair, .ref astep, .int 0, .int 0, .int (-1), .int 0, .int 0, .ref asize])), (atold, .inl (kI, 60, .inl zTold)), (anod, .inr (7, [.ref nm, .ref nl, .ref n1, .ref n2, .ref nf, .ref ns, .ref nh, .ref nk, .ref np, .int 16, .int 0, .int 16, .int 0, .int 0])), (ns, .inl (kL, 1024, .inr (.inl zSec)))] H := hP
    have hD : va_D A [(ou, .inl (kL, 1, .inr (.inl (vp_updL fo (0 : Int32).toNatClampNeg 0)))), (hh, .inr (13, [.ref aexpr, .ref achoo, .ref ameth, .ref aroom, .ref anod, .ref asort, .ref anote, .ref amet, .int 0, .int 1])), (aroom, .inr (9, [.ref asort, .ref anod, .ref atold, .int 3, .ref aheld, .int 0, .ref apair, .ref astep, .int 0, .int 0, .int (-1), .int 0, .int 0, .ref asize])), (atold, .inl (kI, 60, .inl zTold)), (anod, .inr (7, [.ref nm, .ref nl, .ref n1, .ref n2, .ref nf, .ref ns, .ref nh, .ref nk, .ref np, .int 16, .int 0, .int 16, .int 0, .int 0])), (ns, .inl (kL, 1024, .inr (.inl zSec)))] := hD
    refine lv_goto (tgt := 15) hx hb dL_depth_9 (by decide) ?_
    refine lv_iconst (v := 0) hx hb dL_depth_15 (by decide) ?_
    have hP9 := hP.sub (ws' := [(ou, .inl (kL, 1, .inr (.inl (vp_updL fo (0 : Int32).toNatClampNeg 0))))]) [0] rfl
    have hD9 := hD.sub (ws' := [(ou, .inl (kL, 1, .inr (.inl (vp_updL fo (0 : Int32).toNatClampNeg 0))))]) [0] (by decide) rfl
    have hK9 := hK.sub (tys' := [(kL, .long)]) [1] rfl
    refine W.widen (k := 1) (n := 6) (Nat.le_of_ble_eq_true rfl) (Nat.le_of_ble_eq_true rfl) ?_
    refine vx_ret ?_
    exact W.iret (v := 0) hx hb hr (fun t ht hW => ⟨⟨0, (0, (vp_updL fo (0 : Int32).toNatClampNeg 0)), rfl, ⟨rfl, by first | exact fun h => absurd h (by decide) | exact fun _ => rfl | rfl | decide | simp, by first | exact fun _ => rfl | exact fun _ => by simp [vp_updL]⟩, ⟨by rw [ht]; exact hP9, va_K.moved hW.alike hK9, hD9⟩⟩, hS.F ht⟩) hS.2.2 dL_depth_16

def wb_c_L_isSame : List Cond := [.code yX11_isSame cX11_isSame 3 (some .boolean), .code yX11_needType cX11_needType 2 none, .classLink RX11 277 "java/lang/IndexOutOfBoundsException", .initialized "java/lang/IndexOutOfBoundsException", .methodLink RX11 116 yX11_needType, .instanceMethod yX11_needType, .selects RX11 yX11_needType yX11_needType, .initialized RX11, .methodLink RL 53 yX11_isSame, .instanceMethod yX11_isSame, .selects RX11 yX11_isSame yX11_isSame, .classLink RL 21 "java/lang/IndexOutOfBoundsException", .fieldLink RX11 31 "Hornbook" "room" "LHornbook$Room;", .fieldLink RX11 344 "Hornbook$Room" "tellings" "I", .code yX7_toldAt cX7_toldAt 2 (some .int), .fieldLink RX7 29 "Hornbook$Room" "tellings" "I", .fieldLink RX7 25 "Hornbook$Room" "told" "[I", .methodLink RX11 123 yX7_toldAt, .instanceMethod yX7_toldAt, .selects RX7 yX7_toldAt yX7_toldAt, .initialized RX7] ++ u_ws RX11 TX11 10 ++ u_ws RX7 TX7 14
def w_c_L_isSame : List Cond := .codeWith yL_isSame cL_isSame 5 (some .int) [(0, 17, 20, 21)] :: (wb_c_L_isSame ++ zAt)
set_option maxRecDepth 100000 in
theorem g_c_L_isSame_0 : GoodIn w_c_L_isSame (wsV RL 53 RX11 yX11_isSame w_c_H_isSame_l) := goodIn_app (goodIn_of _ (by decide +kernel)) (goodIn_ca (goodIn_p (big := w_c_L_isSame) (.code yX11_isSame cX11_isSame 3 (some .boolean) :: wb_c_H_isSame_l) [1, 2] rfl (by decide +kernel)) (goodIn_sub (fun _ h => List.mem_cons_of_mem _ (List.mem_append_right _ h)) zAt_good))
set_option maxRecDepth 100000 in
theorem g_c_L_isSame_1 : GoodIn w_c_L_isSame (wsV RL 53 RX11 yX11_isSame w_c_H_isSame_h) := goodIn_app (goodIn_of _ (by decide +kernel)) (goodIn_ca (goodIn_p (big := w_c_L_isSame) (.code yX11_isSame cX11_isSame 3 (some .boolean) :: wb_c_H_isSame_h) [1, 2] rfl (by decide +kernel)) (goodIn_sub (fun _ h => List.mem_cons_of_mem _ (List.mem_append_right _ h)) zAt_good))
set_option maxRecDepth 100000 in
theorem g_c_L_isSame_2 : GoodIn w_c_L_isSame (wsV RL 53 RX11 yX11_isSame w_c_H_isSame_kl) := goodIn_app (goodIn_of _ (by decide +kernel)) (goodIn_ca (goodIn_p (big := w_c_L_isSame) (.code yX11_isSame cX11_isSame 3 (some .boolean) :: wb_c_H_isSame_kl) [1, 2] rfl (by decide +kernel)) (goodIn_sub (fun _ h => List.mem_cons_of_mem _ (List.mem_append_right _ h)) zAt_good))
set_option maxRecDepth 100000 in
theorem g_c_L_isSame_3 : GoodIn w_c_L_isSame (wsV RL 53 RX11 yX11_isSame w_c_H_isSame_kh) := goodIn_app (goodIn_of _ (by decide +kernel)) (goodIn_ca (goodIn_p (big := w_c_L_isSame) (.code yX11_isSame cX11_isSame 3 (some .boolean) :: wb_c_H_isSame_kh) [1, 2] rfl (by decide +kernel)) (goodIn_sub (fun _ h => List.mem_cons_of_mem _ (List.mem_append_right _ h)) zAt_good))
set_option maxRecDepth 100000 in
theorem g_c_L_isSame_4 : GoodIn w_c_L_isSame (wsV RL 53 RX11 yX11_isSame w_c_H_isSame_00) := goodIn_app (goodIn_of _ (by decide +kernel)) (goodIn_p (big := w_c_L_isSame) (.code yX11_isSame cX11_isSame 3 (some .boolean) :: wb_c_H_isSame_00) [1, 2, 15] rfl (by decide +kernel))
set_option maxRecDepth 100000 in
theorem g_c_L_isSame_5 : GoodIn w_c_L_isSame (wsV RL 53 RX11 yX11_isSame w_c_H_isSame_01) := goodIn_app (goodIn_of _ (by decide +kernel)) (goodIn_p (big := w_c_L_isSame) (.code yX11_isSame cX11_isSame 3 (some .boolean) :: wb_c_H_isSame_01) [1, 2, 15] rfl (by decide +kernel))
set_option maxRecDepth 100000 in
theorem g_c_L_isSame_6 : GoodIn w_c_L_isSame (wsV RL 53 RX11 yX11_isSame w_c_H_isSame_02) := goodIn_app (goodIn_of _ (by decide +kernel)) (goodIn_p (big := w_c_L_isSame) (.code yX11_isSame cX11_isSame 3 (some .boolean) :: wb_c_H_isSame_02) [1, 2, 15] rfl (by decide +kernel))
set_option maxRecDepth 100000 in
theorem g_c_L_isSame_7 : GoodIn w_c_L_isSame (wsV RL 53 RX11 yX11_isSame w_c_H_isSame_10) := goodIn_app (goodIn_of _ (by decide +kernel)) (goodIn_p (big := w_c_L_isSame) (.code yX11_isSame cX11_isSame 3 (some .boolean) :: wb_c_H_isSame_10) [1, 2, 15] rfl (by decide +kernel))
set_option maxRecDepth 100000 in
theorem g_c_L_isSame_8 : GoodIn w_c_L_isSame (wsV RL 53 RX11 yX11_isSame w_c_H_isSame_11) := goodIn_app (goodIn_of _ (by decide +kernel)) (goodIn_p (big := w_c_L_isSame) (.code yX11_isSame cX11_isSame 3 (some .boolean) :: wb_c_H_isSame_11) [1, 2, 15] rfl (by decide +kernel))
set_option maxRecDepth 100000 in
theorem g_c_L_isSame_9 : GoodIn w_c_L_isSame (wsV RL 53 RX11 yX11_isSame w_c_H_isSame_12) := goodIn_app (goodIn_of _ (by decide +kernel)) (goodIn_p (big := w_c_L_isSame) (.code yX11_isSame cX11_isSame 3 (some .boolean) :: wb_c_H_isSame_12) [1, 2, 15] rfl (by decide +kernel))
set_option maxRecDepth 100000 in
theorem g_c_L_isSame_10 : GoodIn w_c_L_isSame (wsV RL 53 RX11 yX11_isSame w_c_H_isSame_20) := goodIn_app (goodIn_of _ (by decide +kernel)) (goodIn_p (big := w_c_L_isSame) (.code yX11_isSame cX11_isSame 3 (some .boolean) :: wb_c_H_isSame_20) [1, 2, 15] rfl (by decide +kernel))
set_option maxRecDepth 100000 in
theorem g_c_L_isSame_11 : GoodIn w_c_L_isSame (wsV RL 53 RX11 yX11_isSame w_c_H_isSame_21) := goodIn_app (goodIn_of _ (by decide +kernel)) (goodIn_p (big := w_c_L_isSame) (.code yX11_isSame cX11_isSame 3 (some .boolean) :: wb_c_H_isSame_21) [1, 2, 15] rfl (by decide +kernel))
set_option maxRecDepth 100000 in
theorem g_c_L_isSame_12 : GoodIn w_c_L_isSame (wsV RL 53 RX11 yX11_isSame w_c_H_isSame_22) := goodIn_app (goodIn_of _ (by decide +kernel)) (goodIn_p (big := w_c_L_isSame) (.code yX11_isSame cX11_isSame 3 (some .boolean) :: wb_c_H_isSame_22) [1, 2, 15] rfl (by decide +kernel))
set_option maxHeartbeats 4000000 in
set_option maxRecDepth 100000 in
theorem c_L_isSame (l : Launch) (hfl : l.flags = flags0) (eD eI : Nat) (ad : Nat → Nat) (dC : Nat → ClassId) (dI : Nat → Nat → Nat) (sz : Nat) (hh : Nat) (aexpr : Nat) (achoo : Nat) (ameth : Nat) (aroom : Nat) (anod : Nat) (asort : Nat) (anote : Nat) (amet : Nat) (atold : Nat) (aheld : Nat) (apair : Nat) (astep : Nat) (asize : Nat) (ou : Nat) (kI : ClassId) (kL : ClassId) (x1 : Int32) (x2 : Int32) (fo : Nat → Int64) : vx_Met l yL_isSame w_c_L_isSame ({ frames := 8, cells := 1, slots := 6, locals := 125 }) (va_Pc [.ref hh, .int x1, .int x2, .ref ou] (zPreD eD eI ad (dC, dI) [(hh, .inr (13, [.ref aexpr, .ref achoo, .ref ameth, .ref aroom, .ref anod, .ref asort, .ref anote, .ref amet, .int 0, .int 1])), (aroom, .inr (9, [.ref asort, .ref anod, .ref atold, .int 3, .ref aheld, .int 0, .ref apair, .ref astep, .int 0, .int 0, .int (-1), .int 0, .int 0, .ref asize])), (atold, .inl (kI, 60, .inl zTold)), (ou, .inl (kL, 1, .inr (.inl fo)))] [(kI, .int), (kL, .long)] sz)) (va_Qi (fun (r : Int32) (u : Int32 × (Nat → Int64)) => match u with | (k2, fo2) => r = k2 ∧ k2 = (if x1 < 0 ∨ 2 < x1 ∨ x2 < 0 ∨ 2 < x2 then 1 else 0) ∧ (k2 = 0 → fo2 (0 : Int32).toNatClampNeg = (if x1 = x2 then 1 else 0))) (fun (u : Int32 × (Nat → Int64)) => match u with | (k2, fo2) => zEnd (dC, dI) (va_A [(hh, .inr (13, [.ref aexpr, .ref achoo, .ref ameth, .ref aroom, .ref anod, .ref asort, .ref anote, .ref amet, .int 0, .int 1])), (aroom, .inr (9, [.ref asort, .ref anod, .ref atold, .int 3, .ref aheld, .int 0, .ref apair, .ref astep, .int 0, .int 0, .int (-1), .int 0, .int 0, .ref asize])), (atold, .inl (kI, 60, .inl zTold)), (ou, .inl (kL, 1, .inr (.inl fo)))] sz) [(ou, .inl (kL, 1, .inr (.inl fo2)))] [(kL, .long)]) (va_A [(hh, .inr (13, [.ref aexpr, .ref achoo, .ref ameth, .ref aroom, .ref anod, .ref asort, .ref anote, .ref amet, .int 0, .int 1])), (aroom, .inr (9, [.ref asort, .ref anod, .ref atold, .int 3, .ref aheld, .int 0, .ref apair, .ref astep, .int 0, .int 0, .int (-1), .int 0, .int 0, .ref asize])), (atold, .inl (kI, 60, .inl zTold)), (ou, .inl (kL, 1, .inr (.inl fo)))] sz)) (zX (fun _ => False) (va_A [(hh, .inr (13, [.ref aexpr, .ref achoo, .ref ameth, .ref aroom, .ref anod, .ref asort, .ref anote, .ref amet, .int 0, .int 1])), (aroom, .inr (9, [.ref asort, .ref anod, .ref atold, .int 3, .ref aheld, .int 0, .ref apair, .ref astep, .int 0, .int 0, .int (-1), .int 0, .int 0, .ref asize])), (atold, .inl (kI, 60, .inl zTold)), (ou, .inl (kL, 1, .inr (.inl fo)))] sz)) 1 6 (va_A [(hh, .inr (13, [.ref aexpr, .ref achoo, .ref ameth, .ref aroom, .ref anod, .ref asort, .ref anote, .ref amet, .int 0, .int 1])), (aroom, .inr (9, [.ref asort, .ref anod, .ref atold, .int 3, .ref aheld, .int 0, .ref apair, .ref astep, .int 0, .int 0, .int (-1), .int 0, .int 0, .ref asize])), (atold, .inl (kI, 60, .inl zTold)), (ou, .inl (kL, 1, .inr (.inl fo)))] sz) := by
  refine vx_ofWH (cc := cL_isSame) (maxL := 5) (ret := (some .int)) (hh := [(0, 17, 20, 21)]) (by decide +kernel) rfl ?_
  intro p e s m args below meth c s₁ B hml hv
  obtain ⟨rfl, ⟨hsz, hP, hK, hD0, hE⟩, hDc⟩ := hv
  have hx := B.exec
  have hb := B.bytes
  have hr := B.returns
  have hts := atoms_spec (ws := w_c_L_isSame) B.pre
  have hown : s.vm.findClass RL = some m.cls := findClass_of_methodNamed B.named
  have hlocks := B.notSynchronized
  have htab := vx_table (x := yL_isSame) B (hts (.codeWith yL_isSame cL_isSame 5 (some .int) [(0, 17, 20, 21)]) List.mem_cons_self)
  subst hsz
  have hD := hD0.self (sz := s.heap.size)
  generalize hAe : va_A [(hh, .inr (13, [.ref aexpr, .ref achoo, .ref ameth, .ref aroom, .ref anod, .ref asort, .ref anote, .ref amet, .int 0, .int 1])), (aroom, .inr (9, [.ref asort, .ref anod, .ref atold, .int 3, .ref aheld, .int 0, .ref apair, .ref astep, .int 0, .int 0, .int (-1), .int 0, .int 0, .ref asize])), (atold, .inl (kI, 60, .inl zTold)), (ou, .inl (kL, 1, .inr (.inl fo)))] s.heap.size = A at hD hE ⊢
  have hA : ∀ q : Nat, s.heap.size ≤ q → A q := fun q h => by rw [← hAe]; exact Or.inr h
  have hS : va_S A s.heap s.heap [] := va_S.rf
  have hP : va_P (dC, dI) vwCl [(hh, .inr (13, [.ref aexpr, .ref achoo, .ref ameth, .ref aroom, .ref anod, .ref asort, .ref anote, .ref amet, .int 0, .int 1])), (aroom, .inr (9, [.ref asort, .ref anod, .ref atold, .int 3, .ref aheld, .int 0, .ref apair, .ref astep, .int 0, .int 0, .int (-1), .int 0, .int 0, .ref asize])), (atold, .inl (kI, 60, .inl zTold)), (ou, .inl (kL, 1, .inr (.inl fo)))] s.heap := hP
  have hl := lv_entry ([.ref hh, .int x1, .int x2, .ref ou]) (n := 5) (Nat.le_of_ble_eq_true rfl)
  rw [lg_entry_eq]
  generalize (lg_sl ([.ref hh, .int x1, .int x2, .ref ou]) ++ List.replicate (5 - (lg_sl ([.ref hh, .int x1, .int x2, .ref ou])).length) Slot.unset).toArray = ls at hl ⊢
  have hl : lv_has ls 5 [(0, .ref hh), (1, .int x1), (2, .int x2), (3, .ref ou)] := hl
  have in_RX11 : ∀ w ∈ u_ws RX11 TX11 10, w ∈ w_c_L_isSame := by decide +kernel
  have in_RX7 : ∀ w ∈ u_ws RX7 TX7 14, w ∈ w_c_L_isSame := by decide +kernel
  rcases z_split3 x1 with hx11 | ⟨hx10, hx11⟩ | rfl | rfl | rfl
  · refine lv_aload_n hx hb dL_isSame_0 rfl (lv_at hl 3 rfl) ?_
    refine lv_iconst (v := 0) hx hb dL_isSame_1 (by decide) ?_
    refine lv_aload_n hx hb dL_isSame_2 rfl (lv_at hl 0 rfl) ?_
    refine lv_iload_n hx hb dL_isSame_3 rfl (lv_at hl 1 rfl) ?_
    refine lv_iload_n hx hb dL_isSame_4 rfl (lv_at hl 2 rfl) ?_
    refine zx_i (wr := [(atold, .inl (kI, 60, .inl zTold)), (ou, .inl (kL, 1, .inr (.inl fo)))]) (vx_runV (As := [.int x1, .int x2]) (rest := [.int 0, .ref ou]) ⟨hx, hb, hml, hown, hts⟩ (c_H_isSame_l l hfl eD eI ad dC dI s.heap.size hh aexpr achoo ameth aroom anod asort anote amet atold aheld apair astep asize x1 x2 (hx11)) (cwV 2 hts g_c_L_isSame_0 rfl rfl rfl (by decide +kernel) ⟨Nat.le_of_ble_eq_true rfl, Nat.le_of_ble_eq_true rfl⟩) (z_preVD (wc := [(hh, .inr (13, [.ref aexpr, .ref achoo, .ref ameth, .ref aroom, .ref anod, .ref asort, .ref anote, .ref amet, .int 0, .int 1])), (aroom, .inr (9, [.ref asort, .ref anod, .ref atold, .int 3, .ref aheld, .int 0, .ref apair, .ref astep, .int 0, .int 0, .int (-1), .int 0, .int 0, .ref asize]))]) hP hD hK hS hA hE [0, 1] [] rfl (by decide) rfl (ci := 13) (q0 := 0) rfl rfl hDc) rfl rfl hl.1 rfl (lv_room (Nat.le_of_ble_eq_true rfl)) dL_isSame_5 ⟨Nat.le_of_ble_eq_true rfl, Nat.le_of_ble_eq_true rfl⟩) hP hD hK hS hA [0, 1] [2, 3] rfl rfl (by decide) (by decide) (fun E ce q9 H locs hbad hP hD hS h91 h92 h93 => ?_) (fun r_1 u H locs hw_2 hP hD hK hS => ?_)
    · have hbad : E = "java/lang/IndexOutOfBoundsException" := hbad
      subst hbad
      refine vx_catch (name := "java/lang/IndexOutOfBoundsException") hown [] ⟨0, 17, 20, 21⟩ [] (by rw [htab]; rfl) (fun z h => by simp at h) (by decide) (by decide) (hts (.classLink RL 21 "java/lang/IndexOutOfBoundsException") (by decide +kernel)) (va_Nw.use rfl (hE.2.2.2.2.2.2.2.1 ("java/lang/IndexOutOfBoundsException", "java/lang/IndexOutOfBoundsException") (by decide +kernel))) h91 h92 h93 ?_
      refine W.eq (g2 := F0 m 20 ls [.ref q9]) rfl ?_
      refine lv_astore (lv' := [(4, .ref q9), (0, .ref hh), (1, .int x1), (2, .int x2), (3, .ref ou)]) hx hb dL_isSame_20 hl (by decide) rfl (fun ls hl => ?_)
      refine lv_iconst (v := 1) hx hb dL_isSame_22 (by decide) ?_
      have hP9 := hP.sub (ws' := [(ou, .inl (kL, 1, .inr (.inl fo)))]) [1] rfl
      have hD9 := hD.sub (ws' := [(ou, .inl (kL, 1, .inr (.inl fo)))]) [1] (by decide) rfl
      have hK9 := hK.sub (tys' := [(kL, .long)]) [1] rfl
      refine W.widen (k := 1) (n := 6) (Nat.le_of_ble_eq_true rfl) (Nat.le_of_ble_eq_true rfl) ?_
      refine vx_ret ?_
      exact W.iret (v := 1) hx hb hr (fun t ht hW => ⟨⟨1, (1, (fo)), rfl, ⟨rfl, by first | exact fun h => absurd h (by decide) | exact fun _ => rfl | rfl | decide | simp [hx11], fun h => absurd h (by decide)⟩, ⟨by rw [ht]; exact hP9, va_K.moved hW.alike hK9, hD9⟩⟩, hS.F ht⟩) hS.2.2 dL_isSame_23
    exact absurd hw_2 id
  · refine lv_aload_n hx hb dL_isSame_0 rfl (lv_at hl 3 rfl) ?_
    refine lv_iconst (v := 0) hx hb dL_isSame_1 (by decide) ?_
    refine lv_aload_n hx hb dL_isSame_2 rfl (lv_at hl 0 rfl) ?_
    refine lv_iload_n hx hb dL_isSame_3 rfl (lv_at hl 1 rfl) ?_
    refine lv_iload_n hx hb dL_isSame_4 rfl (lv_at hl 2 rfl) ?_
    refine zx_i (wr := [(atold, .inl (kI, 60, .inl zTold)), (ou, .inl (kL, 1, .inr (.inl fo)))]) (vx_runV (As := [.int x1, .int x2]) (rest := [.int 0, .ref ou]) ⟨hx, hb, hml, hown, hts⟩ (c_H_isSame_h l hfl eD eI ad dC dI s.heap.size hh aexpr achoo ameth aroom anod asort anote amet atold aheld apair astep asize x1 x2 (hx10) (hx11)) (cwV 2 hts g_c_L_isSame_1 rfl rfl rfl (by decide +kernel) ⟨Nat.le_of_ble_eq_true rfl, Nat.le_of_ble_eq_true rfl⟩) (z_preVD (wc := [(hh, .inr (13, [.ref aexpr, .ref achoo, .ref ameth, .ref aroom, .ref anod, .ref asort, .ref anote, .ref amet, .int 0, .int 1])), (aroom, .inr (9, [.ref asort, .ref anod, .ref atold, .int 3, .ref aheld, .int 0, .ref apair, .ref astep, .int 0, .int 0, .int (-1), .int 0, .int 0, .ref asize]))]) hP hD hK hS hA hE [0, 1] [] rfl (by decide) rfl (ci := 13) (q0 := 0) rfl rfl hDc) rfl rfl hl.1 rfl (lv_room (Nat.le_of_ble_eq_true rfl)) dL_isSame_5 ⟨Nat.le_of_ble_eq_true rfl, Nat.le_of_ble_eq_true rfl⟩) hP hD hK hS hA [0, 1] [2, 3] rfl rfl (by decide) (by decide) (fun E ce q9 H locs hbad hP hD hS h91 h92 h93 => ?_) (fun r_3 u H locs hw_4 hP hD hK hS => ?_)
    · have hbad : E = "java/lang/IndexOutOfBoundsException" := hbad
      subst hbad
      refine vx_catch (name := "java/lang/IndexOutOfBoundsException") hown [] ⟨0, 17, 20, 21⟩ [] (by rw [htab]; rfl) (fun z h => by simp at h) (by decide) (by decide) (hts (.classLink RL 21 "java/lang/IndexOutOfBoundsException") (by decide +kernel)) (va_Nw.use rfl (hE.2.2.2.2.2.2.2.1 ("java/lang/IndexOutOfBoundsException", "java/lang/IndexOutOfBoundsException") (by decide +kernel))) h91 h92 h93 ?_
      refine W.eq (g2 := F0 m 20 ls [.ref q9]) rfl ?_
      refine lv_astore (lv' := [(4, .ref q9), (0, .ref hh), (1, .int x1), (2, .int x2), (3, .ref ou)]) hx hb dL_isSame_20 hl (by decide) rfl (fun ls hl => ?_)
      refine lv_iconst (v := 1) hx hb dL_isSame_22 (by decide) ?_
      have hP9 := hP.sub (ws' := [(ou, .inl (kL, 1, .inr (.inl fo)))]) [1] rfl
      have hD9 := hD.sub (ws' := [(ou, .inl (kL, 1, .inr (.inl fo)))]) [1] (by decide) rfl
      have hK9 := hK.sub (tys' := [(kL, .long)]) [1] rfl
      refine W.widen (k := 1) (n := 6) (Nat.le_of_ble_eq_true rfl) (Nat.le_of_ble_eq_true rfl) ?_
      refine vx_ret ?_
      exact W.iret (v := 1) hx hb hr (fun t ht hW => ⟨⟨1, (1, (fo)), rfl, ⟨rfl, by first | exact fun h => absurd h (by decide) | exact fun _ => rfl | rfl | decide | simp [hx10, hx11], fun h => absurd h (by decide)⟩, ⟨by rw [ht]; exact hP9, va_K.moved hW.alike hK9, hD9⟩⟩, hS.F ht⟩) hS.2.2 dL_isSame_23
    exact absurd hw_4 id
  · rcases z_split3 x2 with hx21 | ⟨hx20, hx21⟩ | rfl | rfl | rfl
    · refine lv_aload_n hx hb dL_isSame_0 rfl (lv_at hl 3 rfl) ?_
      refine lv_iconst (v := 0) hx hb dL_isSame_1 (by decide) ?_
      refine lv_aload_n hx hb dL_isSame_2 rfl (lv_at hl 0 rfl) ?_
      refine lv_iload_n hx hb dL_isSame_3 rfl (lv_at hl 1 rfl) ?_
      refine lv_iload_n hx hb dL_isSame_4 rfl (lv_at hl 2 rfl) ?_
      refine zx_i (wr := [(atold, .inl (kI, 60, .inl zTold)), (ou, .inl (kL, 1, .inr (.inl fo)))]) (vx_runV (As := [.int 0, .int x2]) (rest := [.int 0, .ref ou]) ⟨hx, hb, hml, hown, hts⟩ (c_H_isSame_kl l hfl eD eI ad dC dI s.heap.size hh aexpr achoo ameth aroom anod asort anote amet atold aheld apair astep asize 0 x2 (by decide) (by decide) (hx21)) (cwV 2 hts g_c_L_isSame_2 rfl rfl rfl (by decide +kernel) ⟨Nat.le_of_ble_eq_true rfl, Nat.le_of_ble_eq_true rfl⟩) (z_preVD (wc := [(hh, .inr (13, [.ref aexpr, .ref achoo, .ref ameth, .ref aroom, .ref anod, .ref asort, .ref anote, .ref amet, .int 0, .int 1])), (aroom, .inr (9, [.ref asort, .ref anod, .ref atold, .int 3, .ref aheld, .int 0, .ref apair, .ref astep, .int 0, .int 0, .int (-1), .int 0, .int 0, .ref asize]))]) hP hD hK hS hA hE [0, 1] [] rfl (by decide) rfl (ci := 13) (q0 := 0) rfl rfl hDc) rfl rfl hl.1 rfl (lv_room (Nat.le_of_ble_eq_true rfl)) dL_isSame_5 ⟨Nat.le_of_ble_eq_true rfl, Nat.le_of_ble_eq_true rfl⟩) hP hD hK hS hA [0, 1] [2, 3] rfl rfl (by decide) (by decide) (fun E ce q9 H locs hbad hP hD hS h91 h92 h93 => ?_) (fun r_5 u H locs hw_6 hP hD hK hS => ?_)
      · have hbad : E = "java/lang/IndexOutOfBoundsException" := hbad
        subst hbad
        refine vx_catch (name := "java/lang/IndexOutOfBoundsException") hown [] ⟨0, 17, 20, 21⟩ [] (by rw [htab]; rfl) (fun z h => by simp at h) (by decide) (by decide) (hts (.classLink RL 21 "java/lang/IndexOutOfBoundsException") (by decide +kernel)) (va_Nw.use rfl (hE.2.2.2.2.2.2.2.1 ("java/lang/IndexOutOfBoundsException", "java/lang/IndexOutOfBoundsException") (by decide +kernel))) h91 h92 h93 ?_
        refine W.eq (g2 := F0 m 20 ls [.ref q9]) rfl ?_
        refine lv_astore (lv' := [(4, .ref q9), (0, .ref hh), (1, .int 0), (2, .int x2), (3, .ref ou)]) hx hb dL_isSame_20 hl (by decide) rfl (fun ls hl => ?_)
        refine lv_iconst (v := 1) hx hb dL_isSame_22 (by decide) ?_
        have hP9 := hP.sub (ws' := [(ou, .inl (kL, 1, .inr (.inl fo)))]) [1] rfl
        have hD9 := hD.sub (ws' := [(ou, .inl (kL, 1, .inr (.inl fo)))]) [1] (by decide) rfl
        have hK9 := hK.sub (tys' := [(kL, .long)]) [1] rfl
        refine W.widen (k := 1) (n := 6) (Nat.le_of_ble_eq_true rfl) (Nat.le_of_ble_eq_true rfl) ?_
        refine vx_ret ?_
        exact W.iret (v := 1) hx hb hr (fun t ht hW => ⟨⟨1, (1, (fo)), rfl, ⟨rfl, by first | exact fun h => absurd h (by decide) | exact fun _ => rfl | rfl | decide | simp [hx21], fun h => absurd h (by decide)⟩, ⟨by rw [ht]; exact hP9, va_K.moved hW.alike hK9, hD9⟩⟩, hS.F ht⟩) hS.2.2 dL_isSame_23
      exact absurd hw_6 id
    · refine lv_aload_n hx hb dL_isSame_0 rfl (lv_at hl 3 rfl) ?_
      refine lv_iconst (v := 0) hx hb dL_isSame_1 (by decide) ?_
      refine lv_aload_n hx hb dL_isSame_2 rfl (lv_at hl 0 rfl) ?_
      refine lv_iload_n hx hb dL_isSame_3 rfl (lv_at hl 1 rfl) ?_
      refine lv_iload_n hx hb dL_isSame_4 rfl (lv_at hl 2 rfl) ?_
      refine zx_i (wr := [(atold, .inl (kI, 60, .inl zTold)), (ou, .inl (kL, 1, .inr (.inl fo)))]) (vx_runV (As := [.int 0, .int x2]) (rest := [.int 0, .ref ou]) ⟨hx, hb, hml, hown, hts⟩ (c_H_isSame_kh l hfl eD eI ad dC dI s.heap.size hh aexpr achoo ameth aroom anod asort anote amet atold aheld apair astep asize 0 x2 (by decide) (by decide) (hx20) (hx21)) (cwV 2 hts g_c_L_isSame_3 rfl rfl rfl (by decide +kernel) ⟨Nat.le_of_ble_eq_true rfl, Nat.le_of_ble_eq_true rfl⟩) (z_preVD (wc := [(hh, .inr (13, [.ref aexpr, .ref achoo, .ref ameth, .ref aroom, .ref anod, .ref asort, .ref anote, .ref amet, .int 0, .int 1])), (aroom, .inr (9, [.ref asort, .ref anod, .ref atold, .int 3, .ref aheld, .int 0, .ref apair, .ref astep, .int 0, .int 0, .int (-1), .int 0, .int 0, .ref asize]))]) hP hD hK hS hA hE [0, 1] [] rfl (by decide) rfl (ci := 13) (q0 := 0) rfl rfl hDc) rfl rfl hl.1 rfl (lv_room (Nat.le_of_ble_eq_true rfl)) dL_isSame_5 ⟨Nat.le_of_ble_eq_true rfl, Nat.le_of_ble_eq_true rfl⟩) hP hD hK hS hA [0, 1] [2, 3] rfl rfl (by decide) (by decide) (fun E ce q9 H locs hbad hP hD hS h91 h92 h93 => ?_) (fun r_7 u H locs hw_8 hP hD hK hS => ?_)
      · have hbad : E = "java/lang/IndexOutOfBoundsException" := hbad
        subst hbad
        refine vx_catch (name := "java/lang/IndexOutOfBoundsException") hown [] ⟨0, 17, 20, 21⟩ [] (by rw [htab]; rfl) (fun z h => by simp at h) (by decide) (by decide) (hts (.classLink RL 21 "java/lang/IndexOutOfBoundsException") (by decide +kernel)) (va_Nw.use rfl (hE.2.2.2.2.2.2.2.1 ("java/lang/IndexOutOfBoundsException", "java/lang/IndexOutOfBoundsException") (by decide +kernel))) h91 h92 h93 ?_
        refine W.eq (g2 := F0 m 20 ls [.ref q9]) rfl ?_
        refine lv_astore (lv' := [(4, .ref q9), (0, .ref hh), (1, .int 0), (2, .int x2), (3, .ref ou)]) hx hb dL_isSame_20 hl (by decide) rfl (fun ls hl => ?_)
        refine lv_iconst (v := 1) hx hb dL_isSame_22 (by decide) ?_
        have hP9 := hP.sub (ws' := [(ou, .inl (kL, 1, .inr (.inl fo)))]) [1] rfl
        have hD9 := hD.sub (ws' := [(ou, .inl (kL, 1, .inr (.inl fo)))]) [1] (by decide) rfl
        have hK9 := hK.sub (tys' := [(kL, .long)]) [1] rfl
        refine W.widen (k := 1) (n := 6) (Nat.le_of_ble_eq_true rfl) (Nat.le_of_ble_eq_true rfl) ?_
        refine vx_ret ?_
        exact W.iret (v := 1) hx hb hr (fun t ht hW => ⟨⟨1, (1, (fo)), rfl, ⟨rfl, by first | exact fun h => absurd h (by decide) | exact fun _ => rfl | rfl | decide | simp [hx20, hx21], fun h => absurd h (by decide)⟩, ⟨by rw [ht]; exact hP9, va_K.moved hW.alike hK9, hD9⟩⟩, hS.F ht⟩) hS.2.2 dL_isSame_23
      exact absurd hw_8 id
    · refine lv_aload_n hx hb dL_isSame_0 rfl (lv_at hl 3 rfl) ?_
      refine lv_iconst (v := 0) hx hb dL_isSame_1 (by decide) ?_
      refine lv_aload_n hx hb dL_isSame_2 rfl (lv_at hl 0 rfl) ?_
      refine lv_iload_n hx hb dL_isSame_3 rfl (lv_at hl 1 rfl) ?_
      refine lv_iload_n hx hb dL_isSame_4 rfl (lv_at hl 2 rfl) ?_
      refine z_i (wr := [(ou, .inl (kL, 1, .inr (.inl fo)))]) (va_runV (As := [.int 0, .int 0]) (rest := [.int 0, .ref ou]) ⟨hx, hb, hml, hown, hts⟩ (c_H_isSame_00 l eD eI ad dC dI s.heap.size hh aexpr achoo ameth aroom anod asort anote amet atold aheld apair astep asize kI) (cwV 2 hts g_c_L_isSame_4 rfl rfl rfl (by decide +kernel) ⟨Nat.le_of_ble_eq_true rfl, Nat.le_of_ble_eq_true rfl⟩) (z_preV (wc := [(hh, .inr (13, [.ref aexpr, .ref achoo, .ref ameth, .ref aroom, .ref anod, .ref asort, .ref anote, .ref amet, .int 0, .int 1])), (aroom, .inr (9, [.ref asort, .ref anod, .ref atold, .int 3, .ref aheld, .int 0, .ref apair, .ref astep, .int 0, .int 0, .int (-1), .int 0, .int 0, .ref asize])), (atold, .inl (kI, 60, .inl zTold))]) hP hD hK hS hA hE [0, 1, 2] [0] rfl (by decide) rfl (ci := 13) (q0 := 0) rfl rfl) rfl rfl hl.1 rfl (lv_room (Nat.le_of_ble_eq_true rfl)) dL_isSame_5 ⟨Nat.le_of_ble_eq_true rfl, Nat.le_of_ble_eq_true rfl⟩) hP hD hK hS hA [0, 1, 2] [3] rfl rfl (by decide) (by decide) (fun r_9 u H locs hw_10 hP hD hK hS => ?_)
      obtain ⟨⟩ := u
      have hP : va_P (dC, dI) vwCl [(ou, .inl (kL, 1, .inr (.inl fo))), (hh, .inr (13, [.ref aexpr, .ref achoo, .ref ameth, .ref aroom, .ref anod, .ref asort, .ref anote, .ref amet, .int 0, .int 1])), (aroom, .inr (9, [.ref asort, .ref anod, .ref atold, .int 3, .ref aheld, .int 0, .ref apair, .ref astep, .int 0, .int 0, .int (-1), .int 0, .int 0, .ref asize])), (atold, .inl (kI, 60, .inl zTold))] H := hP
      have hD : va_D A [(ou, .inl (kL, 1, .inr (.inl fo))), (hh, .inr (13, [.ref aexpr, .ref achoo, .ref ameth, .ref aroom, .ref anod, .ref asort, .ref anote, .ref amet, .int 0, .int 1])), (aroom, .inr (9, [.ref asort, .ref anod, .ref atold, .int 3, .ref aheld, .int 0, .ref apair, .ref astep, .int 0, .int 0, .int (-1), .int 0, .int 0, .ref asize])), (atold, .inl (kI, 60, .inl zTold))] := hD
      have hK : va_K (dC, dI) vwCl [(kI, .int), (kL, .long), (kI, .int)] s := hK
      have hw_10 : r_9 = 1 := hw_10
      have hw_10 := hw_10.symm
      subst hw_10
      refine lv_if_eq (tgt := 15) hx hb dL_isSame_8 (by decide) (fun c_11 => ?_) (fun c_11 => ?_)
      · exact absurd c_11 (by decide)
      refine lv_lconst (v := 1) hx hb dL_isSame_11 (by decide) ?_
      refine lv_goto (tgt := 16) hx hb dL_isSame_12 (by decide) ?_
      refine va_last (D := (dC, dI)) hx hb hK hP hD hS 0 1 rfl rfl (by unfold vp_in; decide) dL_isSame_16 (fun H locs hP hD hS => ?_)
      have hP : va_P (dC, dI) vwCl [(ou, .inl (kL, 1, .inr (.inl (vp_updL fo (0 : Int32).toNatClampNeg 1)))), (hh, .inr (13, [.ref aexpr, .ref achoo, .ref ameth, .ref aroom, .ref anod, .ref asort, .ref anote, .ref amet, .int 0, .int 1])), (aroom, .inr (9, [.ref asort, .ref anod, .ref atold, .int 3, .ref aheld, .int 0, .ref apair, .ref astep, .int 0, .int 0, .int (-1), .int 0, .int 0, .ref asize])), (atold, .inl (kI, 60, .inl zTold))] H := hP
      have hD : va_D A [(ou, .inl (kL, 1, .inr (.inl (vp_updL fo (0 : Int32).toNatClampNeg 1)))), (hh, .inr (13, [.ref aexpr, .ref achoo, .ref ameth, .ref aroom, .ref anod, .ref asort, .ref anote, .ref amet, .int 0, .int 1])), (aroom, .inr (9, [.ref asort, .ref anod, .ref atold, .int 3, .ref aheld, .int 0, .ref apair, .ref astep, .int 0, .int 0, .int (-1), .int 0, .int 0, .ref asize])), (atold, .inl (kI, 60, .inl zTold))] := hD
      refine lv_goto (tgt := 24) hx hb dL_isSame_17 (by decide) ?_
      refine lv_iconst (v := 0) hx hb dL_isSame_24 (by decide) ?_
      have hP9 := hP.sub (ws' := [(ou, .inl (kL, 1, .inr (.inl (vp_updL fo (0 : Int32).toNatClampNeg 1))))]) [0] rfl
      have hD9 := hD.sub (ws' := [(ou, .inl (kL, 1, .inr (.inl (vp_updL fo (0 : Int32).toNatClampNeg 1))))]) [0] (by decide) rfl
      have hK9 := hK.sub (tys' := [(kL, .long)]) [1] rfl
      refine W.widen (k := 1) (n := 6) (Nat.le_of_ble_eq_true rfl) (Nat.le_of_ble_eq_true rfl) ?_
      refine vx_ret ?_
      exact W.iret (v := 0) hx hb hr (fun t ht hW => ⟨⟨0, (0, (vp_updL fo (0 : Int32).toNatClampNeg 1)), rfl, ⟨rfl, by first | exact fun h => absurd h (by decide) | exact fun _ => rfl | rfl | decide | simp, by first | exact fun _ => rfl | exact fun _ => by simp [vp_updL]⟩, ⟨by rw [ht]; exact hP9, va_K.moved hW.alike hK9, hD9⟩⟩, hS.F ht⟩) hS.2.2 dL_isSame_25
    · refine lv_aload_n hx hb dL_isSame_0 rfl (lv_at hl 3 rfl) ?_
      refine lv_iconst (v := 0) hx hb dL_isSame_1 (by decide) ?_
      refine lv_aload_n hx hb dL_isSame_2 rfl (lv_at hl 0 rfl) ?_
      refine lv_iload_n hx hb dL_isSame_3 rfl (lv_at hl 1 rfl) ?_
      refine lv_iload_n hx hb dL_isSame_4 rfl (lv_at hl 2 rfl) ?_
      refine z_i (wr := [(ou, .inl (kL, 1, .inr (.inl fo)))]) (va_runV (As := [.int 0, .int 1]) (rest := [.int 0, .ref ou]) ⟨hx, hb, hml, hown, hts⟩ (c_H_isSame_01 l eD eI ad dC dI s.heap.size hh aexpr achoo ameth aroom anod asort anote amet atold aheld apair astep asize kI) (cwV 2 hts g_c_L_isSame_5 rfl rfl rfl (by decide +kernel) ⟨Nat.le_of_ble_eq_true rfl, Nat.le_of_ble_eq_true rfl⟩) (z_preV (wc := [(hh, .inr (13, [.ref aexpr, .ref achoo, .ref ameth, .ref aroom, .ref anod, .ref asort, .ref anote, .ref amet, .int 0, .int 1])), (aroom, .inr (9, [.ref asort, .ref anod, .ref atold, .int 3, .ref aheld, .int 0, .ref apair, .ref astep, .int 0, .int 0, .int (-1), .int 0, .int 0, .ref asize])), (atold, .inl (kI, 60, .inl zTold))]) hP hD hK hS hA hE [0, 1, 2] [0] rfl (by decide) rfl (ci := 13) (q0 := 0) rfl rfl) rfl rfl hl.1 rfl (lv_room (Nat.le_of_ble_eq_true rfl)) dL_isSame_5 ⟨Nat.le_of_ble_eq_true rfl, Nat.le_of_ble_eq_true rfl⟩) hP hD hK hS hA [0, 1, 2] [3] rfl rfl (by decide) (by decide) (fun r_12 u H locs hw_13 hP hD hK hS => ?_)
      obtain ⟨⟩ := u
      have hP : va_P (dC, dI) vwCl [(ou, .inl (kL, 1, .inr (.inl fo))), (hh, .inr (13, [.ref aexpr, .ref achoo, .ref ameth, .ref aroom, .ref anod, .ref asort, .ref anote, .ref amet, .int 0, .int 1])), (aroom, .inr (9, [.ref asort, .ref anod, .ref atold, .int 3, .ref aheld, .int 0, .ref apair, .ref astep, .int 0, .int 0, .int (-1), .int 0, .int 0, .ref asize])), (atold, .inl (kI, 60, .inl zTold))] H := hP
      have hD : va_D A [(ou, .inl (kL, 1, .inr (.inl fo))), (hh, .inr (13, [.ref aexpr, .ref achoo, .ref ameth, .ref aroom, .ref anod, .ref asort, .ref anote, .ref amet, .int 0, .int 1])), (aroom, .inr (9, [.ref asort, .ref anod, .ref atold, .int 3, .ref aheld, .int 0, .ref apair, .ref astep, .int 0, .int 0, .int (-1), .int 0, .int 0, .ref asize])), (atold, .inl (kI, 60, .inl zTold))] := hD
      have hK : va_K (dC, dI) vwCl [(kI, .int), (kL, .long), (kI, .int)] s := hK
      have hw_13 : r_12 = 0 := hw_13
      have hw_13 := hw_13.symm
      subst hw_13
      refine lv_if_eq (tgt := 15) hx hb dL_isSame_8 (by decide) (fun c_14 => ?_) (fun c_14 => ?_)
      rotate_left
      · exact absurd (by decide) c_14
      refine lv_lconst (v := 0) hx hb dL_isSame_15 (by decide) ?_
      refine va_last (D := (dC, dI)) hx hb hK hP hD hS 0 1 rfl rfl (by unfold vp_in; decide) dL_isSame_16 (fun H locs hP hD hS => ?_)
      have hP : va_P (dC, dI) vwCl [(ou, .inl (kL, 1, .inr (.inl (vp_updL fo (0 : Int32).toNatClampNeg 0)))), (hh, .inr (13, [.ref aexpr, .ref achoo, .ref ameth, .ref aroom, .ref anod, .ref asort, .ref anote, .ref amet, .int 0, .int 1])), (aroom, .inr (9, [.ref asort, .ref anod, .ref atold, .int 3, .ref aheld, .int 0, .ref apair, .ref astep, .int 0, .int 0, .int (-1), .int 0, .int 0, .ref asize])), (atold, .inl (kI, 60, .inl zTold))] H := hP
      have hD : va_D A [(ou, .inl (kL, 1, .inr (.inl (vp_updL fo (0 : Int32).toNatClampNeg 0)))), (hh, .inr (13, [.ref aexpr, .ref achoo, .ref ameth, .ref aroom, .ref anod, .ref asort, .ref anote, .ref amet, .int 0, .int 1])), (aroom, .inr (9, [.ref asort, .ref anod, .ref atold, .int 3, .ref aheld, .int 0, .ref apair, .ref astep, .int 0, .int 0, .int (-1), .int 0, .int 0, .ref asize])), (atold, .inl (kI, 60, .inl zTold))] := hD
      refine lv_goto (tgt := 24) hx hb dL_isSame_17 (by decide) ?_
      refine lv_iconst (v := 0) hx hb dL_isSame_24 (by decide) ?_
      have hP9 := hP.sub (ws' := [(ou, .inl (kL, 1, .inr (.inl (vp_updL fo (0 : Int32).toNatClampNeg 0))))]) [0] rfl
      have hD9 := hD.sub (ws' := [(ou, .inl (kL, 1, .inr (.inl (vp_updL fo (0 : Int32).toNatClampNeg 0))))]) [0] (by decide) rfl
      have hK9 := hK.sub (tys' := [(kL, .long)]) [1] rfl
      refine W.widen (k := 1) (n := 6) (Nat.le_of_ble_eq_true rfl) (Nat.le_of_ble_eq_true rfl) ?_
      refine vx_ret ?_
      exact W.iret (v := 0) hx hb hr (fun t ht hW => ⟨⟨0, (0, (vp_updL fo (0 : Int32).toNatClampNeg 0)), rfl, ⟨rfl, by first | exact fun h => absurd h (by decide) | exact fun _ => rfl | rfl | decide | simp, by first | exact fun _ => rfl | exact fun _ => by simp [vp_updL]⟩, ⟨by rw [ht]; exact hP9, va_K.moved hW.alike hK9, hD9⟩⟩, hS.F ht⟩) hS.2.2 dL_isSame_25
    · refine lv_aload_n hx hb dL_isSame_0 rfl (lv_at hl 3 rfl) ?_
      refine lv_iconst (v := 0) hx hb dL_isSame_1 (by decide) ?_
      refine lv_aload_n hx hb dL_isSame_2 rfl (lv_at hl 0 rfl) ?_
      refine lv_iload_n hx hb dL_isSame_3 rfl (lv_at hl 1 rfl) ?_
      refine lv_iload_n hx hb dL_isSame_4 rfl (lv_at hl 2 rfl) ?_
      refine z_i (wr := [(ou, .inl (kL, 1, .inr (.inl fo)))]) (va_runV (As := [.int 0, .int 2]) (rest := [.int 0, .ref ou]) ⟨hx, hb, hml, hown, hts⟩ (c_H_isSame_02 l eD eI ad dC dI s.heap.size hh aexpr achoo ameth aroom anod asort anote amet atold aheld apair astep asize kI) (cwV 2 hts g_c_L_isSame_6 rfl rfl rfl (by decide +kernel) ⟨Nat.le_of_ble_eq_true rfl, Nat.le_of_ble_eq_true rfl⟩) (z_preV (wc := [(hh, .inr (13, [.ref aexpr, .ref achoo, .ref ameth, .ref aroom, .ref anod, .ref asort, .ref anote, .ref amet, .int 0, .int 1])), (aroom, .inr (9, [.ref asort, .ref anod, .ref atold, .int 3, .ref aheld, .int 0, .ref apair, .ref astep, .int 0, .int 0, .int (-1), .int 0, .int 0, .ref asize])), (atold, .inl (kI, 60, .inl zTold))]) hP hD hK hS hA hE [0, 1, 2] [0] rfl (by decide) rfl (ci := 13) (q0 := 0) rfl rfl) rfl rfl hl.1 rfl (lv_room (Nat.le_of_ble_eq_true rfl)) dL_isSame_5 ⟨Nat.le_of_ble_eq_true rfl, Nat.le_of_ble_eq_true rfl⟩) hP hD hK hS hA [0, 1, 2] [3] rfl rfl (by decide) (by decide) (fun r_15 u H locs hw_16 hP hD hK hS => ?_)
      obtain ⟨⟩ := u
      have hP : va_P (dC, dI) vwCl [(ou, .inl (kL, 1, .inr (.inl fo))), (hh, .inr (13, [.ref aexpr, .ref achoo, .ref ameth, .ref aroom, .ref anod, .ref asort, .ref anote, .ref amet, .int 0, .int 1])), (aroom, .inr (9, [.ref asort, .ref anod, .ref atold, .int 3, .ref aheld, .int 0, .ref apair, .ref astep, .int 0, .int 0, .int (-1), .int 0, .int 0, .ref asize])), (atold, .inl (kI, 60, .inl zTold))] H := hP
      have hD : va_D A [(ou, .inl (kL, 1, .inr (.inl fo))), (hh, .inr (13, [.ref aexpr, .ref achoo, .ref ameth, .ref aroom, .ref anod, .ref asort, .ref anote, .ref amet, .int 0, .int 1])), (aroom, .inr (9, [.ref asort, .ref anod, .ref atold, .int 3, .ref aheld, .int 0, .ref apair, .ref astep, .int 0, .int 0, .int (-1), .int 0, .int 0, .ref asize])), (atold, .inl (kI, 60, .inl zTold))] := hD
      have hK : va_K (dC, dI) vwCl [(kI, .int), (kL, .long), (kI, .int)] s := hK
      have hw_16 : r_15 = 0 := hw_16
      have hw_16 := hw_16.symm
      subst hw_16
      refine lv_if_eq (tgt := 15) hx hb dL_isSame_8 (by decide) (fun c_17 => ?_) (fun c_17 => ?_)
      rotate_left
      · exact absurd (by decide) c_17
      refine lv_lconst (v := 0) hx hb dL_isSame_15 (by decide) ?_
      refine va_last (D := (dC, dI)) hx hb hK hP hD hS 0 1 rfl rfl (by unfold vp_in; decide) dL_isSame_16 (fun H locs hP hD hS => ?_)
      have hP : va_P (dC, dI) vwCl [(ou, .inl (kL, 1, .inr (.inl (vp_updL fo (0 : Int32).toNatClampNeg 0)))), (hh, .inr (13, [.ref aexpr, .ref achoo, .ref ameth, .ref aroom, .ref anod, .ref asort, .ref anote, .ref amet, .int 0, .int 1])), (aroom, .inr (9, [.ref asort, .ref anod, .ref atold, .int 3, .ref aheld, .int 0, .ref apair, .ref astep, .int 0, .int 0, .int (-1), .int 0, .int 0, .ref asize])), (atold, .inl (kI, 60, .inl zTold))] H := hP
      have hD : va_D A [(ou, .inl (kL, 1, .inr (.inl (vp_updL fo (0 : Int32).toNatClampNeg 0)))), (hh, .inr (13, [.ref aexpr, .ref achoo, .ref ameth, .ref aroom, .ref anod, .ref asort, .ref anote, .ref amet, .int 0, .int 1])), (aroom, .inr (9, [.ref asort, .ref anod, .ref atold, .int 3, .ref aheld, .int 0, .ref apair, .ref astep, .int 0, .int 0, .int (-1), .int 0, .int 0, .ref asize])), (atold, .inl (kI, 60, .inl zTold))] := hD
      refine lv_goto (tgt := 24) hx hb dL_isSame_17 (by decide) ?_
      refine lv_iconst (v := 0) hx hb dL_isSame_24 (by decide) ?_
      have hP9 := hP.sub (ws' := [(ou, .inl (kL, 1, .inr (.inl (vp_updL fo (0 : Int32).toNatClampNeg 0))))]) [0] rfl
      have hD9 := hD.sub (ws' := [(ou, .inl (kL, 1, .inr (.inl (vp_updL fo (0 : Int32).toNatClampNeg 0))))]) [0] (by decide) rfl
      have hK9 := hK.sub (tys' := [(kL, .long)]) [1] rfl
      refine W.widen (k := 1) (n := 6) (Nat.le_of_ble_eq_true rfl) (Nat.le_of_ble_eq_true rfl) ?_
      refine vx_ret ?_
      exact W.iret (v := 0) hx hb hr (fun t ht hW => ⟨⟨0, (0, (vp_updL fo (0 : Int32).toNatClampNeg 0)), rfl, ⟨rfl, by first | exact fun h => absurd h (by decide) | exact fun _ => rfl | rfl | decide | simp, by first | exact fun _ => rfl | exact fun _ => by simp [vp_updL]⟩, ⟨by rw [ht]; exact hP9, va_K.moved hW.alike hK9, hD9⟩⟩, hS.F ht⟩) hS.2.2 dL_isSame_25
  · rcases z_split3 x2 with hx21 | ⟨hx20, hx21⟩ | rfl | rfl | rfl
    · refine lv_aload_n hx hb dL_isSame_0 rfl (lv_at hl 3 rfl) ?_
      refine lv_iconst (v := 0) hx hb dL_isSame_1 (by decide) ?_
      refine lv_aload_n hx hb dL_isSame_2 rfl (lv_at hl 0 rfl) ?_
      refine lv_iload_n hx hb dL_isSame_3 rfl (lv_at hl 1 rfl) ?_
      refine lv_iload_n hx hb dL_isSame_4 rfl (lv_at hl 2 rfl) ?_
      refine zx_i (wr := [(atold, .inl (kI, 60, .inl zTold)), (ou, .inl (kL, 1, .inr (.inl fo)))]) (vx_runV (As := [.int 1, .int x2]) (rest := [.int 0, .ref ou]) ⟨hx, hb, hml, hown, hts⟩ (c_H_isSame_kl l hfl eD eI ad dC dI s.heap.size hh aexpr achoo ameth aroom anod asort anote amet atold aheld apair astep asize 1 x2 (by decide) (by decide) (hx21)) (cwV 2 hts g_c_L_isSame_2 rfl rfl rfl (by decide +kernel) ⟨Nat.le_of_ble_eq_true rfl, Nat.le_of_ble_eq_true rfl⟩) (z_preVD (wc := [(hh, .inr (13, [.ref aexpr, .ref achoo, .ref ameth, .ref aroom, .ref anod, .ref asort, .ref anote, .ref amet, .int 0, .int 1])), (aroom, .inr (9, [.ref asort, .ref anod, .ref atold, .int 3, .ref aheld, .int 0, .ref apair, .ref astep, .int 0, .int 0, .int (-1), .int 0, .int 0, .ref asize]))]) hP hD hK hS hA hE [0, 1] [] rfl (by decide) rfl (ci := 13) (q0 := 0) rfl rfl hDc) rfl rfl hl.1 rfl (lv_room (Nat.le_of_ble_eq_true rfl)) dL_isSame_5 ⟨Nat.le_of_ble_eq_true rfl, Nat.le_of_ble_eq_true rfl⟩) hP hD hK hS hA [0, 1] [2, 3] rfl rfl (by decide) (by decide) (fun E ce q9 H locs hbad hP hD hS h91 h92 h93 => ?_) (fun r_18 u H locs hw_19 hP hD hK hS => ?_)
      · have hbad : E = "java/lang/IndexOutOfBoundsException" := hbad
        subst hbad
        refine vx_catch (name := "java/lang/IndexOutOfBoundsException") hown [] ⟨0, 17, 20, 21⟩ [] (by rw [htab]; rfl) (fun z h => by simp at h) (by decide) (by decide) (hts (.classLink RL 21 "java/lang/IndexOutOfBoundsException") (by decide +kernel)) (va_Nw.use rfl (hE.2.2.2.2.2.2.2.1 ("java/lang/IndexOutOfBoundsException", "java/lang/IndexOutOfBoundsException") (by decide +kernel))) h91 h92 h93 ?_
        refine W.eq (g2 := F0 m 20 ls [.ref q9]) rfl ?_
        refine lv_astore (lv' := [(4, .ref q9), (0, .ref hh), (1, .int 1), (2, .int x2), (3, .ref ou)]) hx hb dL_isSame_20 hl (by decide) rfl (fun ls hl => ?_)
        refine lv_iconst (v := 1) hx hb dL_isSame_22 (by decide) ?_
        have hP9 := hP.sub (ws' := [(ou, .inl (kL, 1, .inr (.inl fo)))]) [1] rfl
        have hD9 := hD.sub (ws' := [(ou, .inl (kL, 1, .inr (.inl fo)))]) [1] (by decide) rfl
        have hK9 := hK.sub (tys' := [(kL, .long)]) [1] rfl
        refine W.widen (k := 1) (n := 6) (Nat.le_of_ble_eq_true rfl) (Nat.le_of_ble_eq_true rfl) ?_
        refine vx_ret ?_
        exact W.iret (v := 1) hx hb hr (fun t ht hW => ⟨⟨1, (1, (fo)), rfl, ⟨rfl, by first | exact fun h => absurd h (by decide) | exact fun _ => rfl | rfl | decide | simp [hx21], fun h => absurd h (by decide)⟩, ⟨by rw [ht]; exact hP9, va_K.moved hW.alike hK9, hD9⟩⟩, hS.F ht⟩) hS.2.2 dL_isSame_23
      exact absurd hw_19 id
    · refine lv_aload_n hx hb dL_isSame_0 rfl (lv_at hl 3 rfl) ?_
      refine lv_iconst (v := 0) hx hb dL_isSame_1 (by decide) ?_
      refine lv_aload_n hx hb dL_isSame_2 rfl (lv_at hl 0 rfl) ?_
      refine lv_iload_n hx hb dL_isSame_3 rfl (lv_at hl 1 rfl) ?_
      refine lv_iload_n hx hb dL_isSame_4 rfl (lv_at hl 2 rfl) ?_
      refine zx_i (wr := [(atold, .inl (kI, 60, .inl zTold)), (ou, .inl (kL, 1, .inr (.inl fo)))]) (vx_runV (As := [.int 1, .int x2]) (rest := [.int 0, .ref ou]) ⟨hx, hb, hml, hown, hts⟩ (c_H_isSame_kh l hfl eD eI ad dC dI s.heap.size hh aexpr achoo ameth aroom anod asort anote amet atold aheld apair astep asize 1 x2 (by decide) (by decide) (hx20) (hx21)) (cwV 2 hts g_c_L_isSame_3 rfl rfl rfl (by decide +kernel) ⟨Nat.le_of_ble_eq_true rfl, Nat.le_of_ble_eq_true rfl⟩) (z_preVD (wc := [(hh, .inr (13, [.ref aexpr, .ref achoo, .ref ameth, .ref aroom, .ref anod, .ref asort, .ref anote, .ref amet, .int 0, .int 1])), (aroom, .inr (9, [.ref asort, .ref anod, .ref atold, .int 3, .ref aheld, .int 0, .ref apair, .ref astep, .int 0, .int 0, .int (-1), .int 0, .int 0, .ref asize]))]) hP hD hK hS hA hE [0, 1] [] rfl (by decide) rfl (ci := 13) (q0 := 0) rfl rfl hDc) rfl rfl hl.1 rfl (lv_room (Nat.le_of_ble_eq_true rfl)) dL_isSame_5 ⟨Nat.le_of_ble_eq_true rfl, Nat.le_of_ble_eq_true rfl⟩) hP hD hK hS hA [0, 1] [2, 3] rfl rfl (by decide) (by decide) (fun E ce q9 H locs hbad hP hD hS h91 h92 h93 => ?_) (fun r_20 u H locs hw_21 hP hD hK hS => ?_)
      · have hbad : E = "java/lang/IndexOutOfBoundsException" := hbad
        subst hbad
        refine vx_catch (name := "java/lang/IndexOutOfBoundsException") hown [] ⟨0, 17, 20, 21⟩ [] (by rw [htab]; rfl) (fun z h => by simp at h) (by decide) (by decide) (hts (.classLink RL 21 "java/lang/IndexOutOfBoundsException") (by decide +kernel)) (va_Nw.use rfl (hE.2.2.2.2.2.2.2.1 ("java/lang/IndexOutOfBoundsException", "java/lang/IndexOutOfBoundsException") (by decide +kernel))) h91 h92 h93 ?_
        refine W.eq (g2 := F0 m 20 ls [.ref q9]) rfl ?_
        refine lv_astore (lv' := [(4, .ref q9), (0, .ref hh), (1, .int 1), (2, .int x2), (3, .ref ou)]) hx hb dL_isSame_20 hl (by decide) rfl (fun ls hl => ?_)
        refine lv_iconst (v := 1) hx hb dL_isSame_22 (by decide) ?_
        have hP9 := hP.sub (ws' := [(ou, .inl (kL, 1, .inr (.inl fo)))]) [1] rfl
        have hD9 := hD.sub (ws' := [(ou, .inl (kL, 1, .inr (.inl fo)))]) [1] (by decide) rfl
        have hK9 := hK.sub (tys' := [(kL, .long)]) [1] rfl
        refine W.widen (k := 1) (n := 6) (Nat.le_of_ble_eq_true rfl) (Nat.le_of_ble_eq_true rfl) ?_
        refine vx_ret ?_
        exact W.iret (v := 1) hx hb hr (fun t ht hW => ⟨⟨1, (1, (fo)), rfl, ⟨rfl, by first | exact fun h => absurd h (by decide) | exact fun _ => rfl | rfl | decide | simp [hx20, hx21], fun h => absurd h (by decide)⟩, ⟨by rw [ht]; exact hP9, va_K.moved hW.alike hK9, hD9⟩⟩, hS.F ht⟩) hS.2.2 dL_isSame_23
      exact absurd hw_21 id
    · refine lv_aload_n hx hb dL_isSame_0 rfl (lv_at hl 3 rfl) ?_
      refine lv_iconst (v := 0) hx hb dL_isSame_1 (by decide) ?_
      refine lv_aload_n hx hb dL_isSame_2 rfl (lv_at hl 0 rfl) ?_
      refine lv_iload_n hx hb dL_isSame_3 rfl (lv_at hl 1 rfl) ?_
      refine lv_iload_n hx hb dL_isSame_4 rfl (lv_at hl 2 rfl) ?_
      refine z_i (wr := [(ou, .inl (kL, 1, .inr (.inl fo)))]) (va_runV (As := [.int 1, .int 0]) (rest := [.int 0, .ref ou]) ⟨hx, hb, hml, hown, hts⟩ (c_H_isSame_10 l eD eI ad dC dI s.heap.size hh aexpr achoo ameth aroom anod asort anote amet atold aheld apair astep asize kI) (cwV 2 hts g_c_L_isSame_7 rfl rfl rfl (by decide +kernel) ⟨Nat.le_of_ble_eq_true rfl, Nat.le_of_ble_eq_true rfl⟩) (z_preV (wc := [(hh, .inr (13, [.ref aexpr, .ref achoo, .ref ameth, .ref aroom, .ref anod, .ref asort, .ref anote, .ref amet, .int 0, .int 1])), (aroom, .inr (9, [.ref asort, .ref anod, .ref atold, .int 3, .ref aheld, .int 0, .ref apair, .ref astep, .int 0, .int 0, .int (-1), .int 0, .int 0, .ref asize])), (atold, .inl (kI, 60, .inl zTold))]) hP hD hK hS hA hE [0, 1, 2] [0] rfl (by decide) rfl (ci := 13) (q0 := 0) rfl rfl) rfl rfl hl.1 rfl (lv_room (Nat.le_of_ble_eq_true rfl)) dL_isSame_5 ⟨Nat.le_of_ble_eq_true rfl, Nat.le_of_ble_eq_true rfl⟩) hP hD hK hS hA [0, 1, 2] [3] rfl rfl (by decide) (by decide) (fun r_22 u H locs hw_23 hP hD hK hS => ?_)
      obtain ⟨⟩ := u
      have hP : va_P (dC, dI) vwCl [(ou, .inl (kL, 1, .inr (.inl fo))), (hh, .inr (13, [.ref aexpr, .ref achoo, .ref ameth, .ref aroom, .ref anod, .ref asort, .ref anote, .ref amet, .int 0, .int 1])), (aroom, .inr (9, [.ref asort, .ref anod, .ref atold, .int 3, .ref aheld, .int 0, .ref apair, .ref astep, .int 0, .int 0, .int (-1), .int 0, .int 0, .ref asize])), (atold, .inl (kI, 60, .inl zTold))] H := hP
      have hD : va_D A [(ou, .inl (kL, 1, .inr (.inl fo))), (hh, .inr (13, [.ref aexpr, .ref achoo, .ref ameth, .ref aroom, .ref anod, .ref asort, .ref anote, .ref amet, .int 0, .int 1])), (aroom, .inr (9, [.ref asort, .ref anod, .ref atold, .int 3, .ref aheld, .int 0, .ref apair, .ref astep, .int 0, .int 0, .int (-1), .int 0, .int 0, .ref asize])), (atold, .inl (kI, 60, .inl zTold))] := hD
      have hK : va_K (dC, dI) vwCl [(kI, .int), (kL, .long), (kI, .int)] s := hK
      have hw_23 : r_22 = 0 := hw_23
      have hw_23 := hw_23.symm
      subst hw_23
      refine lv_if_eq (tgt := 15) hx hb dL_isSame_8 (by decide) (fun c_24 => ?_) (fun c_24 => ?_)
      rotate_left
      · exact absurd (by decide) c_24
      refine lv_lconst (v := 0) hx hb dL_isSame_15 (by decide) ?_
      refine va_last (D := (dC, dI)) hx hb hK hP hD hS 0 1 rfl rfl (by unfold vp_in; decide) dL_isSame_16 (fun H locs hP hD hS => ?_)
      have hP : va_P (dC, dI) vwCl [(ou, .inl (kL, 1, .inr (.inl (vp_updL fo (0 : Int32).toNatClampNeg 0)))), (hh, .inr (13, [.ref aexpr, .ref achoo, .ref ameth, .ref aroom, .ref anod, .ref asort, .ref anote, .ref amet, .int 0, .int 1])), (aroom, .inr (9, [.ref asort, .ref anod, .ref atold, .int 3, .ref aheld, .int 0, .ref apair, .ref astep, .int 0, .int 0, .int (-1), .int 0, .int 0, .ref asize])), (atold, .inl (kI, 60, .inl zTold))] H := hP
      have hD : va_D A [(ou, .inl (kL, 1, .inr (.inl (vp_updL fo (0 : Int32).toNatClampNeg 0)))), (hh, .inr (13, [.ref aexpr, .ref achoo, .ref ameth, .ref aroom, .ref anod, .ref asort, .ref anote, .ref amet, .int 0, .int 1])), (aroom, .inr (9, [.ref asort, .ref anod, .ref atold, .int 3, .ref aheld, .int 0, .ref apair, .ref astep, .int 0, .int 0, .int (-1), .int 0, .int 0, .ref asize])), (atold, .inl (kI, 60, .inl zTold))] := hD
      refine lv_goto (tgt := 24) hx hb dL_isSame_17 (by decide) ?_
      refine lv_iconst (v := 0) hx hb dL_isSame_24 (by decide) ?_
      have hP9 := hP.sub (ws' := [(ou, .inl (kL, 1, .inr (.inl (vp_updL fo (0 : Int32).toNatClampNeg 0))))]) [0] rfl
      have hD9 := hD.sub (ws' := [(ou, .inl (kL, 1, .inr (.inl (vp_updL fo (0 : Int32).toNatClampNeg 0))))]) [0] (by decide) rfl
      have hK9 := hK.sub (tys' := [(kL, .long)]) [1] rfl
      refine W.widen (k := 1) (n := 6) (Nat.le_of_ble_eq_true rfl) (Nat.le_of_ble_eq_true rfl) ?_
      refine vx_ret ?_
      exact W.iret (v := 0) hx hb hr (fun t ht hW => ⟨⟨0, (0, (vp_updL fo (0 : Int32).toNatClampNeg 0)), rfl, ⟨rfl, by first | exact fun h => absurd h (by decide) | exact fun _ => rfl | rfl | decide | simp, by first | exact fun _ => rfl | exact fun _ => by simp [vp_updL]⟩, ⟨by rw [ht]; exact hP9, va_K.moved hW.alike hK9, hD9⟩⟩, hS.F ht⟩) hS.2.2 dL_isSame_25
    · refine lv_aload_n hx hb dL_isSame_0 rfl (lv_at hl 3 rfl) ?_
      refine lv_iconst (v := 0) hx hb dL_isSame_1 (by decide) ?_
      refine lv_aload_n hx hb dL_isSame_2 rfl (lv_at hl 0 rfl) ?_
      refine lv_iload_n hx hb dL_isSame_3 rfl (lv_at hl 1 rfl) ?_
      refine lv_iload_n hx hb dL_isSame_4 rfl (lv_at hl 2 rfl) ?_
      refine z_i (wr := [(ou, .inl (kL, 1, .inr (.inl fo)))]) (va_runV (As := [.int 1, .int 1]) (rest := [.int 0, .ref ou]) ⟨hx, hb, hml, hown, hts⟩ (c_H_isSame_11 l eD eI ad dC dI s.heap.size hh aexpr achoo ameth aroom anod asort anote amet atold aheld apair astep asize kI) (cwV 2 hts g_c_L_isSame_8 rfl rfl rfl (by decide +kernel) ⟨Nat.le_of_ble_eq_true rfl, Nat.le_of_ble_eq_true rfl⟩) (z_preV (wc := [(hh, .inr (13, [.ref aexpr, .ref achoo, .ref ameth, .ref aroom, .ref anod, .ref asort, .ref anote, .ref amet, .int 0, .int 1])), (aroom, .inr (9, [.ref asort, .ref anod, .ref atold, .int 3, .ref aheld, .int 0, .ref apair, .ref astep, .int 0, .int 0, .int (-1), .int 0, .int 0, .ref asize])), (atold, .inl (kI, 60, .inl zTold))]) hP hD hK hS hA hE [0, 1, 2] [0] rfl (by decide) rfl (ci := 13) (q0 := 0) rfl rfl) rfl rfl hl.1 rfl (lv_room (Nat.le_of_ble_eq_true rfl)) dL_isSame_5 ⟨Nat.le_of_ble_eq_true rfl, Nat.le_of_ble_eq_true rfl⟩) hP hD hK hS hA [0, 1, 2] [3] rfl rfl (by decide) (by decide) (fun r_25 u H locs hw_26 hP hD hK hS => ?_)
      obtain ⟨⟩ := u
      have hP : va_P (dC, dI) vwCl [(ou, .inl (kL, 1, .inr (.inl fo))), (hh, .inr (13, [.ref aexpr, .ref achoo, .ref ameth, .ref aroom, .ref anod, .ref asort, .ref anote, .ref amet, .int 0, .int 1])), (aroom, .inr (9, [.ref asort, .ref anod, .ref atold, .int 3, .ref aheld, .int 0, .ref apair, .ref astep, .int 0, .int 0, .int (-1), .int 0, .int 0, .ref asize])), (atold, .inl (kI, 60, .inl zTold))] H := hP
      have hD : va_D A [(ou, .inl (kL, 1, .inr (.inl fo))), (hh, .inr (13, [.ref aexpr, .ref achoo, .ref ameth, .ref aroom, .ref anod, .ref asort, .ref anote, .ref amet, .int 0, .int 1])), (aroom, .inr (9, [.ref asort, .ref anod, .ref atold, .int 3, .ref aheld, .int 0, .ref apair, .ref astep, .int 0, .int 0, .int (-1), .int 0, .int 0, .ref asize])), (atold, .inl (kI, 60, .inl zTold))] := hD
      have hK : va_K (dC, dI) vwCl [(kI, .int), (kL, .long), (kI, .int)] s := hK
      have hw_26 : r_25 = 1 := hw_26
      have hw_26 := hw_26.symm
      subst hw_26
      refine lv_if_eq (tgt := 15) hx hb dL_isSame_8 (by decide) (fun c_27 => ?_) (fun c_27 => ?_)
      · exact absurd c_27 (by decide)
      refine lv_lconst (v := 1) hx hb dL_isSame_11 (by decide) ?_
      refine lv_goto (tgt := 16) hx hb dL_isSame_12 (by decide) ?_
      refine va_last (D := (dC, dI)) hx hb hK hP hD hS 0 1 rfl rfl (by unfold vp_in; decide) dL_isSame_16 (fun H locs hP hD hS => ?_)
      have hP : va_P (dC, dI) vwCl [(ou, .inl (kL, 1, .inr (.inl (vp_updL fo (0 : Int32).toNatClampNeg 1)))), (hh, .inr (13, [.ref aexpr, .ref achoo, .ref ameth, .ref aroom, .ref anod, .ref asort, .ref anote, .ref amet, .int 0, .int 1])), (aroom, .inr (9, [.ref asort, .ref anod, .ref atold, .int 3, .ref aheld, .int 0, .ref apair, .ref astep, .int 0, .int 0, .int (-1), .int 0, .int 0, .ref asize])), (atold, .inl (kI, 60, .inl zTold))] H := hP
      have hD : va_D A [(ou, .inl (kL, 1, .inr (.inl (vp_updL fo (0 : Int32).toNatClampNeg 1)))), (hh, .inr (13, [.ref aexpr, .ref achoo, .ref ameth, .ref aroom, .ref anod, .ref asort, .ref anote, .ref amet, .int 0, .int 1])), (aroom, .inr (9, [.ref asort, .ref anod, .ref atold, .int 3, .ref aheld, .int 0, .ref apair, .ref astep, .int 0, .int 0, .int (-1), .int 0, .int 0, .ref asize])), (atold, .inl (kI, 60, .inl zTold))] := hD
      refine lv_goto (tgt := 24) hx hb dL_isSame_17 (by decide) ?_
      refine lv_iconst (v := 0) hx hb dL_isSame_24 (by decide) ?_
      have hP9 := hP.sub (ws' := [(ou, .inl (kL, 1, .inr (.inl (vp_updL fo (0 : Int32).toNatClampNeg 1))))]) [0] rfl
      have hD9 := hD.sub (ws' := [(ou, .inl (kL, 1, .inr (.inl (vp_updL fo (0 : Int32).toNatClampNeg 1))))]) [0] (by decide) rfl
      have hK9 := hK.sub (tys' := [(kL, .long)]) [1] rfl
      refine W.widen (k := 1) (n := 6) (Nat.le_of_ble_eq_true rfl) (Nat.le_of_ble_eq_true rfl) ?_
      refine vx_ret ?_
      exact W.iret (v := 0) hx hb hr (fun t ht hW => ⟨⟨0, (0, (vp_updL fo (0 : Int32).toNatClampNeg 1)), rfl, ⟨rfl, by first | exact fun h => absurd h (by decide) | exact fun _ => rfl | rfl | decide | simp, by first | exact fun _ => rfl | exact fun _ => by simp [vp_updL]⟩, ⟨by rw [ht]; exact hP9, va_K.moved hW.alike hK9, hD9⟩⟩, hS.F ht⟩) hS.2.2 dL_isSame_25
    · refine lv_aload_n hx hb dL_isSame_0 rfl (lv_at hl 3 rfl) ?_
      refine lv_iconst (v := 0) hx hb dL_isSame_1 (by decide) ?_
      refine lv_aload_n hx hb dL_isSame_2 rfl (lv_at hl 0 rfl) ?_
      refine lv_iload_n hx hb dL_isSame_3 rfl (lv_at hl 1 rfl) ?_
      refine lv_iload_n hx hb dL_isSame_4 rfl (lv_at hl 2 rfl) ?_
      refine z_i (wr := [(ou, .inl (kL, 1, .inr (.inl fo)))]) (va_runV (As := [.int 1, .int 2]) (rest := [.int 0, .ref ou]) ⟨hx, hb, hml, hown, hts⟩ (c_H_isSame_12 l eD eI ad dC dI s.heap.size hh aexpr achoo ameth aroom anod asort anote amet atold aheld apair astep asize kI) (cwV 2 hts g_c_L_isSame_9 rfl rfl rfl (by decide +kernel) ⟨Nat.le_of_ble_eq_true rfl, Nat.le_of_ble_eq_true rfl⟩) (z_preV (wc := [(hh, .inr (13, [.ref aexpr, .ref achoo, .ref ameth, .ref aroom, .ref anod, .ref asort, .ref anote, .ref amet, .int 0, .int 1])), (aroom, .inr (9, [.ref asort, .ref anod, .ref atold, .int 3, .ref aheld, .int 0, .ref apair, .ref astep, .int 0, .int 0, .int (-1), .int 0, .int 0, .ref asize])), (atold, .inl (kI, 60, .inl zTold))]) hP hD hK hS hA hE [0, 1, 2] [0] rfl (by decide) rfl (ci := 13) (q0 := 0) rfl rfl) rfl rfl hl.1 rfl (lv_room (Nat.le_of_ble_eq_true rfl)) dL_isSame_5 ⟨Nat.le_of_ble_eq_true rfl, Nat.le_of_ble_eq_true rfl⟩) hP hD hK hS hA [0, 1, 2] [3] rfl rfl (by decide) (by decide) (fun r_28 u H locs hw_29 hP hD hK hS => ?_)
      obtain ⟨⟩ := u
      have hP : va_P (dC, dI) vwCl [(ou, .inl (kL, 1, .inr (.inl fo))), (hh, .inr (13, [.ref aexpr, .ref achoo, .ref ameth, .ref aroom, .ref anod, .ref asort, .ref anote, .ref amet, .int 0, .int 1])), (aroom, .inr (9, [.ref asort, .ref anod, .ref atold, .int 3, .ref aheld, .int 0, .ref apair, .ref astep, .int 0, .int 0, .int (-1), .int 0, .int 0, .ref asize])), (atold, .inl (kI, 60, .inl zTold))] H := hP
      have hD : va_D A [(ou, .inl (kL, 1, .inr (.inl fo))), (hh, .inr (13, [.ref aexpr, .ref achoo, .ref ameth, .ref aroom, .ref anod, .ref asort, .ref anote, .ref amet, .int 0, .int 1])), (aroom, .inr (9, [.ref asort, .ref anod, .ref atold, .int 3, .ref aheld, .int 0, .ref apair, .ref astep, .int 0, .int 0, .int (-1), .int 0, .int 0, .ref asize])), (atold, .inl (kI, 60, .inl zTold))] := hD
      have hK : va_K (dC, dI) vwCl [(kI, .int), (kL, .long), (kI, .int)] s := hK
      have hw_29 : r_28 = 0 := hw_29
      have hw_29 := hw_29.symm
      subst hw_29
      refine lv_if_eq (tgt := 15) hx hb dL_isSame_8 (by decide) (fun c_30 => ?_) (fun c_30 => ?_)
      rotate_left
      · exact absurd (by decide) c_30
      refine lv_lconst (v := 0) hx hb dL_isSame_15 (by decide) ?_
      refine va_last (D := (dC, dI)) hx hb hK hP hD hS 0 1 rfl rfl (by unfold vp_in; decide) dL_isSame_16 (fun H locs hP hD hS => ?_)
      have hP : va_P (dC, dI) vwCl [(ou, .inl (kL, 1, .inr (.inl (vp_updL fo (0 : Int32).toNatClampNeg 0)))), (hh, .inr (13, [.ref aexpr, .ref achoo, .ref ameth, .ref aroom, .ref anod, .ref asort, .ref anote, .ref amet, .int 0, .int 1])), (aroom, .inr (9, [.ref asort, .ref anod, .ref atold, .int 3, .ref aheld, .int 0, .ref apair, .ref astep, .int 0, .int 0, .int (-1), .int 0, .int 0, .ref asize])), (atold, .inl (kI, 60, .inl zTold))] H := hP
      have hD : va_D A [(ou, .inl (kL, 1, .inr (.inl (vp_updL fo (0 : Int32).toNatClampNeg 0)))), (hh, .inr (13, [.ref aexpr, .ref achoo, .ref ameth, .ref aroom, .ref anod, .ref asort, .ref anote, .ref amet, .int 0, .int 1])), (aroom, .inr (9, [.ref asort, .ref anod, .ref atold, .int 3, .ref aheld, .int 0, .ref apair, .ref astep, .int 0, .int 0, .int (-1), .int 0, .int 0, .ref asize])), (atold, .inl (kI, 60, .inl zTold))] := hD
      refine lv_goto (tgt := 24) hx hb dL_isSame_17 (by decide) ?_
      refine lv_iconst (v := 0) hx hb dL_isSame_24 (by decide) ?_
      have hP9 := hP.sub (ws' := [(ou, .inl (kL, 1, .inr (.inl (vp_updL fo (0 : Int32).toNatClampNeg 0))))]) [0] rfl
      have hD9 := hD.sub (ws' := [(ou, .inl (kL, 1, .inr (.inl (vp_updL fo (0 : Int32).toNatClampNeg 0))))]) [0] (by decide) rfl
      have hK9 := hK.sub (tys' := [(kL, .long)]) [1] rfl
      refine W.widen (k := 1) (n := 6) (Nat.le_of_ble_eq_true rfl) (Nat.le_of_ble_eq_true rfl) ?_
      refine vx_ret ?_
      exact W.iret (v := 0) hx hb hr (fun t ht hW => ⟨⟨0, (0, (vp_updL fo (0 : Int32).toNatClampNeg 0)), rfl, ⟨rfl, by first | exact fun h => absurd h (by decide) | exact fun _ => rfl | rfl | decide | simp, by first | exact fun _ => rfl | exact fun _ => by simp [vp_updL]⟩, ⟨by rw [ht]; exact hP9, va_K.moved hW.alike hK9, hD9⟩⟩, hS.F ht⟩) hS.2.2 dL_isSame_25
  · rcases z_split3 x2 with hx21 | ⟨hx20, hx21⟩ | rfl | rfl | rfl
    · refine lv_aload_n hx hb dL_isSame_0 rfl (lv_at hl 3 rfl) ?_
      refine lv_iconst (v := 0) hx hb dL_isSame_1 (by decide) ?_
      refine lv_aload_n hx hb dL_isSame_2 rfl (lv_at hl 0 rfl) ?_
      refine lv_iload_n hx hb dL_isSame_3 rfl (lv_at hl 1 rfl) ?_
      refine lv_iload_n hx hb dL_isSame_4 rfl (lv_at hl 2 rfl) ?_
      refine zx_i (wr := [(atold, .inl (kI, 60, .inl zTold)), (ou, .inl (kL, 1, .inr (.inl fo)))]) (vx_runV (As := [.int 2, .int x2]) (rest := [.int 0, .ref ou]) ⟨hx, hb, hml, hown, hts⟩ (c_H_isSame_kl l hfl eD eI ad dC dI s.heap.size hh aexpr achoo ameth aroom anod asort anote amet atold aheld apair astep asize 2 x2 (by decide) (by decide) (hx21)) (cwV 2 hts g_c_L_isSame_2 rfl rfl rfl (by decide +kernel) ⟨Nat.le_of_ble_eq_true rfl, Nat.le_of_ble_eq_true rfl⟩) (z_preVD (wc := [(hh, .inr (13, [.ref aexpr, .ref achoo, .ref ameth, .ref aroom, .ref anod, .ref asort, .ref anote, .ref amet, .int 0, .int 1])), (aroom, .inr (9, [.ref asort, .ref anod, .ref atold, .int 3, .ref aheld, .int 0, .ref apair, .ref astep, .int 0, .int 0, .int (-1), .int 0, .int 0, .ref asize]))]) hP hD hK hS hA hE [0, 1] [] rfl (by decide) rfl (ci := 13) (q0 := 0) rfl rfl hDc) rfl rfl hl.1 rfl (lv_room (Nat.le_of_ble_eq_true rfl)) dL_isSame_5 ⟨Nat.le_of_ble_eq_true rfl, Nat.le_of_ble_eq_true rfl⟩) hP hD hK hS hA [0, 1] [2, 3] rfl rfl (by decide) (by decide) (fun E ce q9 H locs hbad hP hD hS h91 h92 h93 => ?_) (fun r_31 u H locs hw_32 hP hD hK hS => ?_)
      · have hbad : E = "java/lang/IndexOutOfBoundsException" := hbad
        subst hbad
        refine vx_catch (name := "java/lang/IndexOutOfBoundsException") hown [] ⟨0, 17, 20, 21⟩ [] (by rw [htab]; rfl) (fun z h => by simp at h) (by decide) (by decide) (hts (.classLink RL 21 "java/lang/IndexOutOfBoundsException") (by decide +kernel)) (va_Nw.use rfl (hE.2.2.2.2.2.2.2.1 ("java/lang/IndexOutOfBoundsException", "java/lang/IndexOutOfBoundsException") (by decide +kernel))) h91 h92 h93 ?_
        refine W.eq (g2 := F0 m 20 ls [.ref q9]) rfl ?_
        refine lv_astore (lv' := [(4, .ref q9), (0, .ref hh), (1, .int 2), (2, .int x2), (3, .ref ou)]) hx hb dL_isSame_20 hl (by decide) rfl (fun ls hl => ?_)
        refine lv_iconst (v := 1) hx hb dL_isSame_22 (by decide) ?_
        have hP9 := hP.sub (ws' := [(ou, .inl (kL, 1, .inr (.inl fo)))]) [1] rfl
        have hD9 := hD.sub (ws' := [(ou, .inl (kL, 1, .inr (.inl fo)))]) [1] (by decide) rfl
        have hK9 := hK.sub (tys' := [(kL, .long)]) [1] rfl
        refine W.widen (k := 1) (n := 6) (Nat.le_of_ble_eq_true rfl) (Nat.le_of_ble_eq_true rfl) ?_
        refine vx_ret ?_
        exact W.iret (v := 1) hx hb hr (fun t ht hW => ⟨⟨1, (1, (fo)), rfl, ⟨rfl, by first | exact fun h => absurd h (by decide) | exact fun _ => rfl | rfl | decide | simp [hx21], fun h => absurd h (by decide)⟩, ⟨by rw [ht]; exact hP9, va_K.moved hW.alike hK9, hD9⟩⟩, hS.F ht⟩) hS.2.2 dL_isSame_23
      exact absurd hw_32 id
    · refine lv_aload_n hx hb dL_isSame_0 rfl (lv_at hl 3 rfl) ?_
      refine lv_iconst (v := 0) hx hb dL_isSame_1 (by decide) ?_
      refine lv_aload_n hx hb dL_isSame_2 rfl (lv_at hl 0 rfl) ?_
      refine lv_iload_n hx hb dL_isSame_3 rfl (lv_at hl 1 rfl) ?_
      refine lv_iload_n hx hb dL_isSame_4 rfl (lv_at hl 2 rfl) ?_
      refine zx_i (wr := [(atold, .inl (kI, 60, .inl zTold)), (ou, .inl (kL, 1, .inr (.inl fo)))]) (vx_runV (As := [.int 2, .int x2]) (rest := [.int 0, .ref ou]) ⟨hx, hb, hml, hown, hts⟩ (c_H_isSame_kh l hfl eD eI ad dC dI s.heap.size hh aexpr achoo ameth aroom anod asort anote amet atold aheld apair astep asize 2 x2 (by decide) (by decide) (hx20) (hx21)) (cwV 2 hts g_c_L_isSame_3 rfl rfl rfl (by decide +kernel) ⟨Nat.le_of_ble_eq_true rfl, Nat.le_of_ble_eq_true rfl⟩) (z_preVD (wc := [(hh, .inr (13, [.ref aexpr, .ref achoo, .ref ameth, .ref aroom, .ref anod, .ref asort, .ref anote, .ref amet, .int 0, .int 1])), (aroom, .inr (9, [.ref asort, .ref anod, .ref atold, .int 3, .ref aheld, .int 0, .ref apair, .ref astep, .int 0, .int 0, .int (-1), .int 0, .int 0, .ref asize]))]) hP hD hK hS hA hE [0, 1] [] rfl (by decide) rfl (ci := 13) (q0 := 0) rfl rfl hDc) rfl rfl hl.1 rfl (lv_room (Nat.le_of_ble_eq_true rfl)) dL_isSame_5 ⟨Nat.le_of_ble_eq_true rfl, Nat.le_of_ble_eq_true rfl⟩) hP hD hK hS hA [0, 1] [2, 3] rfl rfl (by decide) (by decide) (fun E ce q9 H locs hbad hP hD hS h91 h92 h93 => ?_) (fun r_33 u H locs hw_34 hP hD hK hS => ?_)
      · have hbad : E = "java/lang/IndexOutOfBoundsException" := hbad
        subst hbad
        refine vx_catch (name := "java/lang/IndexOutOfBoundsException") hown [] ⟨0, 17, 20, 21⟩ [] (by rw [htab]; rfl) (fun z h => by simp at h) (by decide) (by decide) (hts (.classLink RL 21 "java/lang/IndexOutOfBoundsException") (by decide +kernel)) (va_Nw.use rfl (hE.2.2.2.2.2.2.2.1 ("java/lang/IndexOutOfBoundsException", "java/lang/IndexOutOfBoundsException") (by decide +kernel))) h91 h92 h93 ?_
        refine W.eq (g2 := F0 m 20 ls [.ref q9]) rfl ?_
        refine lv_astore (lv' := [(4, .ref q9), (0, .ref hh), (1, .int 2), (2, .int x2), (3, .ref ou)]) hx hb dL_isSame_20 hl (by decide) rfl (fun ls hl => ?_)
        refine lv_iconst (v := 1) hx hb dL_isSame_22 (by decide) ?_
        have hP9 := hP.sub (ws' := [(ou, .inl (kL, 1, .inr (.inl fo)))]) [1] rfl
        have hD9 := hD.sub (ws' := [(ou, .inl (kL, 1, .inr (.inl fo)))]) [1] (by decide) rfl
        have hK9 := hK.sub (tys' := [(kL, .long)]) [1] rfl
        refine W.widen (k := 1) (n := 6) (Nat.le_of_ble_eq_true rfl) (Nat.le_of_ble_eq_true rfl) ?_
        refine vx_ret ?_
        exact W.iret (v := 1) hx hb hr (fun t ht hW => ⟨⟨1, (1, (fo)), rfl, ⟨rfl, by first | exact fun h => absurd h (by decide) | exact fun _ => rfl | rfl | decide | simp [hx20, hx21], fun h => absurd h (by decide)⟩, ⟨by rw [ht]; exact hP9, va_K.moved hW.alike hK9, hD9⟩⟩, hS.F ht⟩) hS.2.2 dL_isSame_23
      exact absurd hw_34 id
    · refine lv_aload_n hx hb dL_isSame_0 rfl (lv_at hl 3 rfl) ?_
      refine lv_iconst (v := 0) hx hb dL_isSame_1 (by decide) ?_
      refine lv_aload_n hx hb dL_isSame_2 rfl (lv_at hl 0 rfl) ?_
      refine lv_iload_n hx hb dL_isSame_3 rfl (lv_at hl 1 rfl) ?_
      refine lv_iload_n hx hb dL_isSame_4 rfl (lv_at hl 2 rfl) ?_
      refine z_i (wr := [(ou, .inl (kL, 1, .inr (.inl fo)))]) (va_runV (As := [.int 2, .int 0]) (rest := [.int 0, .ref ou]) ⟨hx, hb, hml, hown, hts⟩ (c_H_isSame_20 l eD eI ad dC dI s.heap.size hh aexpr achoo ameth aroom anod asort anote amet atold aheld apair astep asize kI) (cwV 2 hts g_c_L_isSame_10 rfl rfl rfl (by decide +kernel) ⟨Nat.le_of_ble_eq_true rfl, Nat.le_of_ble_eq_true rfl⟩) (z_preV (wc := [(hh, .inr (13, [.ref aexpr, .ref achoo, .ref ameth, .ref aroom, .ref anod, .ref asort, .ref anote, .ref amet, .int 0, .int 1])), (aroom, .inr (9, [.ref asort, .ref anod, .ref atold, .int 3, .ref aheld, .int 0, .ref apair, .ref astep, .int 0, .int 0, .int (-1), .int 0, .int 0, .ref asize])), (atold, .inl (kI, 60, .inl zTold))]) hP hD hK hS hA hE [0, 1, 2] [0] rfl (by decide) rfl (ci := 13) (q0 := 0) rfl rfl) rfl rfl hl.1 rfl (lv_room (Nat.le_of_ble_eq_true rfl)) dL_isSame_5 ⟨Nat.le_of_ble_eq_true rfl, Nat.le_of_ble_eq_true rfl⟩) hP hD hK hS hA [0, 1, 2] [3] rfl rfl (by decide) (by decide) (fun r_35 u H locs hw_36 hP hD hK hS => ?_)
      obtain ⟨⟩ := u
      have hP : va_P (dC, dI) vwCl [(ou, .inl (kL, 1, .inr (.inl fo))), (hh, .inr (13, [.ref aexpr, .ref achoo, .ref ameth, .ref aroom, .ref anod, .ref asort, .ref anote, .ref amet, .int 0, .int 1])), (aroom, .inr (9, [.ref asort, .ref anod, .ref atold, .int 3, .ref aheld, .int 0, .ref apair, .ref astep, .int 0, .int 0, .int (-1), .int 0, .int 0, .ref asize])), (atold, .inl (kI, 60, .inl zTold))] H := hP
      have hD : va_D A [(ou, .inl (kL, 1, .inr (.inl fo))), (hh, .inr (13, [.ref aexpr, .ref achoo, .ref ameth, .ref aroom, .ref anod, .ref asort, .ref anote, .ref amet, .int 0, .int 1])), (aroom, .inr (9, [.ref asort, .ref anod, .ref atold, .int 3, .ref aheld, .int 0, .ref apair, .ref astep, .int 0, .int 0, .int (-1), .int 0, .int 0, .ref asize])), (atold, .inl (kI, 60, .inl zTold))] := hD
      have hK : va_K (dC, dI) vwCl [(kI, .int), (kL, .long), (kI, .int)] s := hK
      have hw_36 : r_35 = 0 := hw_36
      have hw_36 := hw_36.symm
      subst hw_36
      refine lv_if_eq (tgt := 15) hx hb dL_isSame_8 (by decide) (fun c_37 => ?_) (fun c_37 => ?_)
      rotate_left
      · exact absurd (by decide) c_37
      refine lv_lconst (v := 0) hx hb dL_isSame_15 (by decide) ?_
      refine va_last (D := (dC, dI)) hx hb hK hP hD hS 0 1 rfl rfl (by unfold vp_in; decide) dL_isSame_16 (fun H locs hP hD hS => ?_)
      have hP : va_P (dC, dI) vwCl [(ou, .inl (kL, 1, .inr (.inl (vp_updL fo (0 : Int32).toNatClampNeg 0)))), (hh, .inr (13, [.ref aexpr, .ref achoo, .ref ameth, .ref aroom, .ref anod, .ref asort, .ref anote, .ref amet, .int 0, .int 1])), (aroom, .inr (9, [.ref asort, .ref anod, .ref atold, .int 3, .ref aheld, .int 0, .ref apair, .ref astep, .int 0, .int 0, .int (-1), .int 0, .int 0, .ref asize])), (atold, .inl (kI, 60, .inl zTold))] H := hP
      have hD : va_D A [(ou, .inl (kL, 1, .inr (.inl (vp_updL fo (0 : Int32).toNatClampNeg 0)))), (hh, .inr (13, [.ref aexpr, .ref achoo, .ref ameth, .ref aroom, .ref anod, .ref asort, .ref anote, .ref amet, .int 0, .int 1])), (aroom, .inr (9, [.ref asort, .ref anod, .ref atold, .int 3, .ref aheld, .int 0, .ref apair, .ref astep, .int 0, .int 0, .int (-1), .int 0, .int 0, .ref asize])), (atold, .inl (kI, 60, .inl zTold))] := hD
      refine lv_goto (tgt := 24) hx hb dL_isSame_17 (by decide) ?_
      refine lv_iconst (v := 0) hx hb dL_isSame_24 (by decide) ?_
      have hP9 := hP.sub (ws' := [(ou, .inl (kL, 1, .inr (.inl (vp_updL fo (0 : Int32).toNatClampNeg 0))))]) [0] rfl
      have hD9 := hD.sub (ws' := [(ou, .inl (kL, 1, .inr (.inl (vp_updL fo (0 : Int32).toNatClampNeg 0))))]) [0] (by decide) rfl
      have hK9 := hK.sub (tys' := [(kL, .long)]) [1] rfl
      refine W.widen (k := 1) (n := 6) (Nat.le_of_ble_eq_true rfl) (Nat.le_of_ble_eq_true rfl) ?_
      refine vx_ret ?_
      exact W.iret (v := 0) hx hb hr (fun t ht hW => ⟨⟨0, (0, (vp_updL fo (0 : Int32).toNatClampNeg 0)), rfl, ⟨rfl, by first | exact fun h => absurd h (by decide) | exact fun _ => rfl | rfl | decide | simp, by first | exact fun _ => rfl | exact fun _ => by simp [vp_updL]⟩, ⟨by rw [ht]; exact hP9, va_K.moved hW.alike hK9, hD9⟩⟩, hS.F ht⟩) hS.2.2 dL_isSame_25
    · refine lv_aload_n hx hb dL_isSame_0 rfl (lv_at hl 3 rfl) ?_
      refine lv_iconst (v := 0) hx hb dL_isSame_1 (by decide) ?_
      refine lv_aload_n hx hb dL_isSame_2 rfl (lv_at hl 0 rfl) ?_
      refine lv_iload_n hx hb dL_isSame_3 rfl (lv_at hl 1 rfl) ?_
      refine lv_iload_n hx hb dL_isSame_4 rfl (lv_at hl 2 rfl) ?_
      refine z_i (wr := [(ou, .inl (kL, 1, .inr (.inl fo)))]) (va_runV (As := [.int 2, .int 1]) (rest := [.int 0, .ref ou]) ⟨hx, hb, hml, hown, hts⟩ (c_H_isSame_21 l eD eI ad dC dI s.heap.size hh aexpr achoo ameth aroom anod asort anote amet atold aheld apair astep asize kI) (cwV 2 hts g_c_L_isSame_11 rfl rfl rfl (by decide +kernel) ⟨Nat.le_of_ble_eq_true rfl, Nat.le_of_ble_eq_true rfl⟩) (z_preV (wc := [(hh, .inr (13, [.ref aexpr, .ref achoo, .ref ameth, .ref aroom, .ref anod, .ref asort, .ref anote, .ref amet, .int 0, .int 1])), (aroom, .inr (9, [.ref asort, .ref anod, .ref atold, .int 3, .ref aheld, .int 0, .ref apair, .ref astep, .int 0, .int 0, .int (-1), .int 0, .int 0, .ref asize])), (atold, .inl (kI, 60, .inl zTold))]) hP hD hK hS hA hE [0, 1, 2] [0] rfl (by decide) rfl (ci := 13) (q0 := 0) rfl rfl) rfl rfl hl.1 rfl (lv_room (Nat.le_of_ble_eq_true rfl)) dL_isSame_5 ⟨Nat.le_of_ble_eq_true rfl, Nat.le_of_ble_eq_true rfl⟩) hP hD hK hS hA [0, 1, 2] [3] rfl rfl (by decide) (by decide) (fun r_38 u H locs hw_39 hP hD hK hS => ?_)
      obtain ⟨⟩ := u
      have hP : va_P (dC, dI) vwCl [(ou, .inl (kL, 1, .inr (.inl fo))), (hh, .inr (13, [.ref aexpr, .ref achoo, .ref ameth, .ref aroom, .ref anod, .ref asort, .ref anote, .ref amet, .int 0, .int 1])), (aroom, .inr (9, [.ref asort, .ref anod, .ref atold, .int 3, .ref aheld, .int 0, .ref apair, .ref astep, .int 0, .int 0, .int (-1), .int 0, .int 0, .ref asize])), (atold, .inl (kI, 60, .inl zTold))] H := hP
      have hD : va_D A [(ou, .inl (kL, 1, .inr (.inl fo))), (hh, .inr (13, [.ref aexpr, .ref achoo, .ref ameth, .ref aroom, .ref anod, .ref asort, .ref anote, .ref amet, .int 0, .int 1])), (aroom, .inr (9, [.ref asort, .ref anod, .ref atold, .int 3, .ref aheld, .int 0, .ref apair, .ref astep, .int 0, .int 0, .int (-1), .int 0, .int 0, .ref asize])), (atold, .inl (kI, 60, .inl zTold))] := hD
      have hK : va_K (dC, dI) vwCl [(kI, .int), (kL, .long), (kI, .int)] s := hK
      have hw_39 : r_38 = 0 := hw_39
      have hw_39 := hw_39.symm
      subst hw_39
      refine lv_if_eq (tgt := 15) hx hb dL_isSame_8 (by decide) (fun c_40 => ?_) (fun c_40 => ?_)
      rotate_left
      · exact absurd (by decide) c_40
      refine lv_lconst (v := 0) hx hb dL_isSame_15 (by decide) ?_
      refine va_last (D := (dC, dI)) hx hb hK hP hD hS 0 1 rfl rfl (by unfold vp_in; decide) dL_isSame_16 (fun H locs hP hD hS => ?_)
      have hP : va_P (dC, dI) vwCl [(ou, .inl (kL, 1, .inr (.inl (vp_updL fo (0 : Int32).toNatClampNeg 0)))), (hh, .inr (13, [.ref aexpr, .ref achoo, .ref ameth, .ref aroom, .ref anod, .ref asort, .ref anote, .ref amet, .int 0, .int 1])), (aroom, .inr (9, [.ref asort, .ref anod, .ref atold, .int 3, .ref aheld, .int 0, .ref apair, .ref astep, .int 0, .int 0, .int (-1), .int 0, .int 0, .ref asize])), (atold, .inl (kI, 60, .inl zTold))] H := hP
      have hD : va_D A [(ou, .inl (kL, 1, .inr (.inl (vp_updL fo (0 : Int32).toNatClampNeg 0)))), (hh, .inr (13, [.ref aexpr, .ref achoo, .ref ameth, .ref aroom, .ref anod, .ref asort, .ref anote, .ref amet, .int 0, .int 1])), (aroom, .inr (9, [.ref asort, .ref anod, .ref atold, .int 3, .ref aheld, .int 0, .ref apair, .ref astep, .int 0, .int 0, .int (-1), .int 0, .int 0, .ref asize])), (atold, .inl (kI, 60, .inl zTold))] := hD
      refine lv_goto (tgt := 24) hx hb dL_isSame_17 (by decide) ?_
      refine lv_iconst (v := 0) hx hb dL_isSame_24 (by decide) ?_
      have hP9 := hP.sub (ws' := [(ou, .inl (kL, 1, .inr (.inl (vp_updL fo (0 : Int32).toNatClampNeg 0))))]) [0] rfl
      have hD9 := hD.sub (ws' := [(ou, .inl (kL, 1, .inr (.inl (vp_updL fo (0 : Int32).toNatClampNeg 0))))]) [0] (by decide) rfl
      have hK9 := hK.sub (tys' := [(kL, .long)]) [1] rfl
      refine W.widen (k := 1) (n := 6) (Nat.le_of_ble_eq_true rfl) (Nat.le_of_ble_eq_true rfl) ?_
      refine vx_ret ?_
      exact W.iret (v := 0) hx hb hr (fun t ht hW => ⟨⟨0, (0, (vp_updL fo (0 : Int32).toNatClampNeg 0)), rfl, ⟨rfl, by first | exact fun h => absurd h (by decide) | exact fun _ => rfl | rfl | decide | simp, by first | exact fun _ => rfl | exact fun _ => by simp [vp_updL]⟩, ⟨by rw [ht]; exact hP9, va_K.moved hW.alike hK9, hD9⟩⟩, hS.F ht⟩) hS.2.2 dL_isSame_25
    · refine lv_aload_n hx hb dL_isSame_0 rfl (lv_at hl 3 rfl) ?_
      refine lv_iconst (v := 0) hx hb dL_isSame_1 (by decide) ?_
      refine lv_aload_n hx hb dL_isSame_2 rfl (lv_at hl 0 rfl) ?_
      refine lv_iload_n hx hb dL_isSame_3 rfl (lv_at hl 1 rfl) ?_
      refine lv_iload_n hx hb dL_isSame_4 rfl (lv_at hl 2 rfl) ?_
      refine z_i (wr := [(ou, .inl (kL, 1, .inr (.inl fo)))]) (va_runV (As := [.int 2, .int 2]) (rest := [.int 0, .ref ou]) ⟨hx, hb, hml, hown, hts⟩ (c_H_isSame_22 l eD eI ad dC dI s.heap.size hh aexpr achoo ameth aroom anod asort anote amet atold aheld apair astep asize kI) (cwV 2 hts g_c_L_isSame_12 rfl rfl rfl (by decide +kernel) ⟨Nat.le_of_ble_eq_true rfl, Nat.le_of_ble_eq_true rfl⟩) (z_preV (wc := [(hh, .inr (13, [.ref aexpr, .ref achoo, .ref ameth, .ref aroom, .ref anod, .ref asort, .ref anote, .ref amet, .int 0, .int 1])), (aroom, .inr (9, [.ref asort, .ref anod, .ref atold, .int 3, .ref aheld, .int 0, .ref apair, .ref astep, .int 0, .int 0, .int (-1), .int 0, .int 0, .ref asize])), (atold, .inl (kI, 60, .inl zTold))]) hP hD hK hS hA hE [0, 1, 2] [0] rfl (by decide) rfl (ci := 13) (q0 := 0) rfl rfl) rfl rfl hl.1 rfl (lv_room (Nat.le_of_ble_eq_true rfl)) dL_isSame_5 ⟨Nat.le_of_ble_eq_true rfl, Nat.le_of_ble_eq_true rfl⟩) hP hD hK hS hA [0, 1, 2] [3] rfl rfl (by decide) (by decide) (fun r_41 u H locs hw_42 hP hD hK hS => ?_)
      obtain ⟨⟩ := u
      have hP : va_P (dC, dI) vwCl [(ou, .inl (kL, 1, .inr (.inl fo))), (hh, .inr (13, [.ref aexpr, .ref achoo, .ref ameth, .ref aroom, .ref anod, .ref asort, .ref anote, .ref amet, .int 0, .int 1])), (aroom, .inr (9, [.ref asort, .ref anod, .ref atold, .int 3, .ref aheld, .int 0, .ref apair, .ref astep, .int 0, .int 0, .int (-1), .int 0, .int 0, .ref asize])), (atold, .inl (kI, 60, .inl zTold))] H := hP
      have hD : va_D A [(ou, .inl (kL, 1, .inr (.inl fo))), (hh, .inr (13, [.ref aexpr, .ref achoo, .ref ameth, .ref aroom, .ref anod, .ref asort, .ref anote, .ref amet, .int 0, .int 1])), (aroom, .inr (9, [.ref asort, .ref anod, .ref atold, .int 3, .ref aheld, .int 0, .ref apair, .ref astep, .int 0, .int 0, .int (-1), .int 0, .int 0, .ref asize])), (atold, .inl (kI, 60, .inl zTold))] := hD
      have hK : va_K (dC, dI) vwCl [(kI, .int), (kL, .long), (kI, .int)] s := hK
      have hw_42 : r_41 = 1 := hw_42
      have hw_42 := hw_42.symm
      subst hw_42
      refine lv_if_eq (tgt := 15) hx hb dL_isSame_8 (by decide) (fun c_43 => ?_) (fun c_43 => ?_)
      · exact absurd c_43 (by decide)
      refine lv_lconst (v := 1) hx hb dL_isSame_11 (by decide) ?_
      refine lv_goto (tgt := 16) hx hb dL_isSame_12 (by decide) ?_
      refine va_last (D := (dC, dI)) hx hb hK hP hD hS 0 1 rfl rfl (by unfold vp_in; decide) dL_isSame_16 (fun H locs hP hD hS => ?_)
      have hP : va_P (dC, dI) vwCl [(ou, .inl (kL, 1, .inr (.inl (vp_updL fo (0 : Int32).toNatClampNeg 1)))), (hh, .inr (13, [.ref aexpr, .ref achoo, .ref ameth, .ref aroom, .ref anod, .ref asort, .ref anote, .ref amet, .int 0, .int 1])), (aroom, .inr (9, [.ref asort, .ref anod, .ref atold, .int 3, .ref aheld, .int 0, .ref apair, .ref astep, .int 0, .int 0, .int (-1), .int 0, .int 0, .ref asize])), (atold, .inl (kI, 60, .inl zTold))] H := hP
      have hD : va_D A [(ou, .inl (kL, 1, .inr (.inl (vp_updL fo (0 : Int32).toNatClampNeg 1)))), (hh, .inr (13, [.ref aexpr, .ref achoo, .ref ameth, .ref aroom, .ref anod, .ref asort, .ref anote, .ref amet, .int 0, .int 1])), (aroom, .inr (9, [.ref asort, .ref anod, .ref atold, .int 3, .ref aheld, .int 0, .ref apair, .ref astep, .int 0, .int 0, .int (-1), .int 0, .int 0, .ref asize])), (atold, .inl (kI, 60, .inl zTold))] := hD
      refine lv_goto (tgt := 24) hx hb dL_isSame_17 (by decide) ?_
      refine lv_iconst (v := 0) hx hb dL_isSame_24 (by decide) ?_
      have hP9 := hP.sub (ws' := [(ou, .inl (kL, 1, .inr (.inl (vp_updL fo (0 : Int32).toNatClampNeg 1))))]) [0] rfl
      have hD9 := hD.sub (ws' := [(ou, .inl (kL, 1, .inr (.inl (vp_updL fo (0 : Int32).toNatClampNeg 1))))]) [0] (by decide) rfl
      have hK9 := hK.sub (tys' := [(kL, .long)]) [1] rfl
      refine W.widen (k := 1) (n := 6) (Nat.le_of_ble_eq_true rfl) (Nat.le_of_ble_eq_true rfl) ?_
      refine vx_ret ?_
      exact W.iret (v := 0) hx hb hr (fun t ht hW => ⟨⟨0, (0, (vp_updL fo (0 : Int32).toNatClampNeg 1)), rfl, ⟨rfl, by first | exact fun h => absurd h (by decide) | exact fun _ => rfl | rfl | decide | simp, by first | exact fun _ => rfl | exact fun _ => by simp [vp_updL]⟩, ⟨by rw [ht]; exact hP9, va_K.moved hW.alike hK9, hD9⟩⟩, hS.F ht⟩) hS.2.2 dL_isSame_25
