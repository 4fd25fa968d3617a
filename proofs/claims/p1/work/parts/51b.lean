theorem dX7_joinOf_46 : decode cX7_joinOf 46 = .ok (.iload 4, 2) := by decide +kernel
theorem dX7_joinOf_48 : decode cX7_joinOf 48 = .ok (.iconst 1, 1) := by decide +kernel
theorem dX7_joinOf_49 : decode cX7_joinOf 49 = .ok (.if_icmp .ne 5, 3) := by decide +kernel
theorem dX7_joinOf_52 : decode cX7_joinOf 52 = .ok (.iload_n 3, 1) := by decide +kernel
theorem dX7_joinOf_53 : decode cX7_joinOf 53 = .ok (.ireturn, 1) := by decide +kernel
theorem dX7_tell_0 : decode cX7_tell 0 = .ok (.aload_n 0, 1) := by decide +kernel
theorem dX7_tell_1 : decode cX7_tell 1 = .ok (.getfield 29, 3) := by decide +kernel
theorem dX7_tell_4 : decode cX7_tell 4 = .ok (.aload_n 0, 1) := by decide +kernel
theorem dX7_tell_5 : decode cX7_tell 5 = .ok (.getfield 25, 3) := by decide +kernel
theorem dX7_tell_8 : decode cX7_tell 8 = .ok (.arraylength, 1) := by decide +kernel
theorem dX7_tell_9 : decode cX7_tell 9 = .ok (.if_icmp .lt 5, 3) := by decide +kernel
theorem dX7_tell_14 : decode cX7_tell 14 = .ok (.aload_n 0, 1) := by decide +kernel
theorem dX7_tell_15 : decode cX7_tell 15 = .ok (.getfield 25, 3) := by decide +kernel
theorem dX7_tell_18 : decode cX7_tell 18 = .ok (.aload_n 0, 1) := by decide +kernel
theorem dX7_tell_19 : decode cX7_tell 19 = .ok (.getfield 29, 3) := by decide +kernel
theorem dX7_tell_22 : decode cX7_tell 22 = .ok (.iload_n 1, 1) := by decide +kernel
theorem dX7_tell_23 : decode cX7_tell 23 = .ok (.iastore, 1) := by decide +kernel
theorem dX7_tell_24 : decode cX7_tell 24 = .ok (.aload_n 0, 1) := by decide +kernel
theorem dX7_tell_25 : decode cX7_tell 25 = .ok (.dup, 1) := by decide +kernel
theorem dX7_tell_26 : decode cX7_tell 26 = .ok (.getfield 29, 3) := by decide +kernel
theorem dX7_tell_29 : decode cX7_tell 29 = .ok (.iconst 1, 1) := by decide +kernel
theorem dX7_tell_30 : decode cX7_tell 30 = .ok (.iadd, 1) := by decide +kernel
theorem dX7_tell_31 : decode cX7_tell 31 = .ok (.putfield 29, 3) := by decide +kernel
theorem dX7_tell_34 : decode cX7_tell 34 = .ok (.aload_n 0, 1) := by decide +kernel
theorem dX7_tell_35 : decode cX7_tell 35 = .ok (.getfield 29, 3) := by decide +kernel
theorem dX7_tell_38 : decode cX7_tell 38 = .ok (.iconst 1, 1) := by decide +kernel
theorem dX7_tell_39 : decode cX7_tell 39 = .ok (.isub, 1) := by decide +kernel
theorem dX7_tell_40 : decode cX7_tell 40 = .ok (.ireturn, 1) := by decide +kernel
theorem dX7_hold_0 : decode cX7_hold 0 = .ok (.iload_n 1, 1) := by decide +kernel
theorem dX7_hold_1 : decode cX7_hold 1 = .ok (.bipush 16, 2) := by decide +kernel
theorem dX7_hold_3 : decode cX7_hold 3 = .ok (.if_icmp .ge 4, 3) := by decide +kernel
theorem dX7_hold_6 : decode cX7_hold 6 = .ok (.return_, 1) := by decide +kernel
theorem dX7_letGo_0 : decode cX7_letGo 0 = .ok (.aload_n 0, 1) := by decide +kernel
theorem dX7_letGo_1 : decode cX7_letGo 1 = .ok (.aload_n 0, 1) := by decide +kernel
theorem dX7_letGo_2 : decode cX7_letGo 2 = .ok (.getfield 36, 3) := by decide +kernel
theorem dX7_letGo_5 : decode cX7_letGo 5 = .ok (.iload_n 1, 1) := by decide +kernel
theorem dX7_letGo_6 : decode cX7_letGo 6 = .ok (.iconst 0, 1) := by decide +kernel
theorem dX7_letGo_7 : decode cX7_letGo 7 = .ok (.invokestatic 78, 3) := by decide +kernel
theorem dX7_letGo_10 : decode cX7_letGo 10 = .ok (.invokestatic 84, 3) := by decide +kernel
theorem dX7_letGo_13 : decode cX7_letGo 13 = .ok (.putfield 36, 3) := by decide +kernel
theorem dX7_letGo_16 : decode cX7_letGo 16 = .ok (.return_, 1) := by decide +kernel
theorem dX7_open_0 : decode cX7_open 0 = .ok (.aload_n 0, 1) := by decide +kernel
theorem dX7_open_1 : decode cX7_open 1 = .ok (.getfield 49, 3) := by decide +kernel
theorem dX7_open_4 : decode cX7_open 4 = .ok (.aload_n 0, 1) := by decide +kernel
theorem dX7_open_5 : decode cX7_open 5 = .ok (.getfield 46, 3) := by decide +kernel
theorem dX7_open_8 : decode cX7_open 8 = .ok (.invokevirtual 139, 3) := by decide +kernel
theorem dX7_open_11 : decode cX7_open 11 = .ok (.if_icmp .lt 18, 3) := by decide +kernel
theorem dX7_open_14 : decode cX7_open 14 = .ok (.aload_n 0, 1) := by decide +kernel
theorem dX7_open_15 : decode cX7_open 15 = .ok (.getfield 46, 3) := by decide +kernel
theorem dX7_open_18 : decode cX7_open 18 = .ok (.new 147, 3) := by decide +kernel
theorem dX7_open_21 : decode cX7_open 21 = .ok (.dup, 1) := by decide +kernel
theorem dX7_open_22 : decode cX7_open 22 = .ok (.invokespecial 238, 3) := by decide +kernel
theorem dX7_open_25 : decode cX7_open 25 = .ok (.invokevirtual 239, 3) := by decide +kernel
theorem dX7_open_28 : decode cX7_open 28 = .ok (.pop, 1) := by decide +kernel
theorem dX7_open_29 : decode cX7_open 29 = .ok (.aload_n 0, 1) := by decide +kernel
theorem dX7_open_30 : decode cX7_open 30 = .ok (.getfield 46, 3) := by decide +kernel
theorem dX7_open_33 : decode cX7_open 33 = .ok (.aload_n 0, 1) := by decide +kernel
theorem dX7_open_34 : decode cX7_open 34 = .ok (.getfield 49, 3) := by decide +kernel
theorem dX7_open_37 : decode cX7_open 37 = .ok (.invokevirtual 143, 3) := by decide +kernel
theorem dX7_open_40 : decode cX7_open 40 = .ok (.checkcast 147, 3) := by decide +kernel
theorem dX7_open_43 : decode cX7_open 43 = .ok (.astore 4, 2) := by decide +kernel
theorem dX7_open_45 : decode cX7_open 45 = .ok (.aload_n 0, 1) := by decide +kernel
theorem dX7_open_46 : decode cX7_open 46 = .ok (.dup, 1) := by decide +kernel
theorem dX7_open_47 : decode cX7_open 47 = .ok (.getfield 49, 3) := by decide +kernel
theorem dX7_open_50 : decode cX7_open 50 = .ok (.iconst 1, 1) := by decide +kernel
theorem dX7_open_51 : decode cX7_open 51 = .ok (.iadd, 1) := by decide +kernel
theorem dX7_open_52 : decode cX7_open 52 = .ok (.putfield 49, 3) := by decide +kernel
theorem dX7_open_55 : decode cX7_open 55 = .ok (.aload 4, 2) := by decide +kernel
theorem dX7_open_57 : decode cX7_open 57 = .ok (.iload_n 1, 1) := by decide +kernel
theorem dX7_open_58 : decode cX7_open 58 = .ok (.putfield 155, 3) := by decide +kernel
theorem dX7_open_61 : decode cX7_open 61 = .ok (.aload 4, 2) := by decide +kernel
theorem dX7_open_63 : decode cX7_open 63 = .ok (.iconst (-1), 1) := by decide +kernel
theorem dX7_open_64 : decode cX7_open 64 = .ok (.putfield 149, 3) := by decide +kernel
theorem dX7_open_67 : decode cX7_open 67 = .ok (.aload 4, 2) := by decide +kernel
theorem dX7_open_69 : decode cX7_open 69 = .ok (.iload_n 2, 1) := by decide +kernel
theorem dX7_open_70 : decode cX7_open 70 = .ok (.putfield 152, 3) := by decide +kernel
theorem dX7_open_73 : decode cX7_open 73 = .ok (.aload 4, 2) := by decide +kernel
theorem dX7_open_75 : decode cX7_open 75 = .ok (.iload_n 3, 1) := by decide +kernel
theorem dX7_open_76 : decode cX7_open 76 = .ok (.putfield 158, 3) := by decide +kernel
theorem dX7_open_79 : decode cX7_open 79 = .ok (.aload 4, 2) := by decide +kernel
theorem dX7_open_81 : decode cX7_open 81 = .ok (.iload_n 3, 1) := by decide +kernel
theorem dX7_open_82 : decode cX7_open 82 = .ok (.putfield 243, 3) := by decide +kernel
theorem dX7_open_85 : decode cX7_open 85 = .ok (.aload 4, 2) := by decide +kernel
theorem dX7_open_87 : decode cX7_open 87 = .ok (.iconst (-1), 1) := by decide +kernel
theorem dX7_open_88 : decode cX7_open 88 = .ok (.putfield 161, 3) := by decide +kernel
theorem dX7_open_91 : decode cX7_open 91 = .ok (.aload 4, 2) := by decide +kernel
theorem dX7_open_93 : decode cX7_open 93 = .ok (.iconst (-1), 1) := by decide +kernel
theorem dX7_open_94 : decode cX7_open 94 = .ok (.putfield 164, 3) := by decide +kernel
theorem dX7_open_97 : decode cX7_open 97 = .ok (.aload 4, 2) := by decide +kernel
theorem dX7_open_99 : decode cX7_open 99 = .ok (.iconst 0, 1) := by decide +kernel
theorem dX7_open_100 : decode cX7_open 100 = .ok (.putfield 167, 3) := by decide +kernel
theorem dX7_open_103 : decode cX7_open 103 = .ok (.aload 4, 2) := by decide +kernel
theorem dX7_open_105 : decode cX7_open 105 = .ok (.iconst 0, 1) := by decide +kernel
theorem dX7_open_106 : decode cX7_open 106 = .ok (.putfield 170, 3) := by decide +kernel
theorem dX7_open_109 : decode cX7_open 109 = .ok (.aload 4, 2) := by decide +kernel
theorem dX7_open_111 : decode cX7_open 111 = .ok (.iconst 0, 1) := by decide +kernel
theorem dX7_open_112 : decode cX7_open 112 = .ok (.putfield 246, 3) := by decide +kernel
theorem dX7_open_115 : decode cX7_open 115 = .ok (.aload 4, 2) := by decide +kernel
theorem dX7_open_117 : decode cX7_open 117 = .ok (.iconst 0, 1) := by decide +kernel
theorem dX7_open_118 : decode cX7_open 118 = .ok (.putfield 249, 3) := by decide +kernel
theorem dX7_open_121 : decode cX7_open 121 = .ok (.aload 4, 2) := by decide +kernel
theorem dX7_open_123 : decode cX7_open 123 = .ok (.iconst 0, 1) := by decide +kernel
theorem dX7_open_124 : decode cX7_open 124 = .ok (.putfield 252, 3) := by decide +kernel
theorem dX7_open_127 : decode cX7_open 127 = .ok (.aload 4, 2) := by decide +kernel
theorem dX7_open_129 : decode cX7_open 129 = .ok (.iconst 0, 1) := by decide +kernel
theorem dX7_open_130 : decode cX7_open 130 = .ok (.putfield 255, 3) := by decide +kernel
theorem dX7_open_133 : decode cX7_open 133 = .ok (.aload 4, 2) := by decide +kernel
theorem dX7_open_135 : decode cX7_open 135 = .ok (.iconst 0, 1) := by decide +kernel
theorem dX7_open_136 : decode cX7_open 136 = .ok (.putfield 258, 3) := by decide +kernel
theorem dX7_open_139 : decode cX7_open 139 = .ok (.return_, 1) := by decide +kernel
theorem dX7_answer_0 : decode cX7_answer 0 = .ok (.aload_n 0, 1) := by decide +kernel
theorem dX7_answer_1 : decode cX7_answer 1 = .ok (.iload_n 1, 1) := by decide +kernel
theorem dX7_answer_2 : decode cX7_answer 2 = .ok (.putfield 56, 3) := by decide +kernel
theorem dX7_answer_5 : decode cX7_answer 5 = .ok (.aload_n 0, 1) := by decide +kernel
theorem dX7_answer_6 : decode cX7_answer 6 = .ok (.dup, 1) := by decide +kernel
theorem dX7_answer_7 : decode cX7_answer 7 = .ok (.getfield 49, 3) := by decide +kernel
theorem dX7_answer_10 : decode cX7_answer 10 = .ok (.iconst 1, 1) := by decide +kernel
theorem dX7_answer_11 : decode cX7_answer 11 = .ok (.isub, 1) := by decide +kernel
theorem dX7_answer_12 : decode cX7_answer 12 = .ok (.putfield 49, 3) := by decide +kernel
theorem dX7_answer_15 : decode cX7_answer 15 = .ok (.return_, 1) := by decide +kernel
theorem dX7_known_0 : decode cX7_known 0 = .ok (.iload_n 1, 1) := by decide +kernel
theorem dX7_known_1 : decode cX7_known 1 = .ok (.iload_n 2, 1) := by decide +kernel
theorem dX7_known_2 : decode cX7_known 2 = .ok (.if_icmp .eq 12, 3) := by decide +kernel
theorem dX7_known_14 : decode cX7_known 14 = .ok (.iconst 1, 1) := by decide +kernel
theorem dX7_known_15 : decode cX7_known 15 = .ok (.ireturn, 1) := by decide +kernel
theorem dX7_stepOrder_0 : decode cX7_stepOrder 0 = .ok (.aload_n 1, 1) := by decide +kernel
theorem dX7_stepOrder_1 : decode cX7_stepOrder 1 = .ok (.aload_n 0, 1) := by decide +kernel
theorem dX7_stepOrder_2 : decode cX7_stepOrder 2 = .ok (.getfield 21, 3) := by decide +kernel
theorem dX7_stepOrder_5 : decode cX7_stepOrder 5 = .ok (.aload_n 1, 1) := by decide +kernel
theorem dX7_stepOrder_6 : decode cX7_stepOrder 6 = .ok (.getfield 152, 3) := by decide +kernel
theorem dX7_stepOrder_9 : decode cX7_stepOrder 9 = .ok (.invokevirtual 194, 3) := by decide +kernel
theorem dX7_stepOrder_12 : decode cX7_stepOrder 12 = .ok (.putfield 152, 3) := by decide +kernel
theorem dX7_stepOrder_15 : decode cX7_stepOrder 15 = .ok (.aload_n 1, 1) := by decide +kernel
theorem dX7_stepOrder_16 : decode cX7_stepOrder 16 = .ok (.aload_n 0, 1) := by decide +kernel
theorem dX7_stepOrder_17 : decode cX7_stepOrder 17 = .ok (.getfield 21, 3) := by decide +kernel
theorem dX7_stepOrder_20 : decode cX7_stepOrder 20 = .ok (.aload_n 1, 1) := by decide +kernel
theorem dX7_stepOrder_21 : decode cX7_stepOrder 21 = .ok (.getfield 158, 3) := by decide +kernel
theorem dX7_stepOrder_24 : decode cX7_stepOrder 24 = .ok (.invokevirtual 194, 3) := by decide +kernel
theorem dX7_stepOrder_27 : decode cX7_stepOrder 27 = .ok (.putfield 158, 3) := by decide +kernel
theorem dX7_stepOrder_30 : decode cX7_stepOrder 30 = .ok (.aload_n 1, 1) := by decide +kernel
theorem dX7_stepOrder_31 : decode cX7_stepOrder 31 = .ok (.aload_n 0, 1) := by decide +kernel
theorem dX7_stepOrder_32 : decode cX7_stepOrder 32 = .ok (.getfield 21, 3) := by decide +kernel
theorem dX7_stepOrder_35 : decode cX7_stepOrder 35 = .ok (.aload_n 1, 1) := by decide +kernel
theorem dX7_stepOrder_36 : decode cX7_stepOrder 36 = .ok (.getfield 161, 3) := by decide +kernel
theorem dX7_stepOrder_39 : decode cX7_stepOrder 39 = .ok (.invokevirtual 194, 3) := by decide +kernel
theorem dX7_stepOrder_42 : decode cX7_stepOrder 42 = .ok (.putfield 161, 3) := by decide +kernel
theorem dX7_stepOrder_45 : decode cX7_stepOrder 45 = .ok (.aload_n 1, 1) := by decide +kernel
theorem dX7_stepOrder_46 : decode cX7_stepOrder 46 = .ok (.getfield 246, 3) := by decide +kernel
theorem dX7_stepOrder_49 : decode cX7_stepOrder 49 = .ok (.ifCond .ne 89, 3) := by decide +kernel
theorem dX7_stepOrder_52 : decode cX7_stepOrder 52 = .ok (.aload_n 0, 1) := by decide +kernel
theorem dX7_stepOrder_53 : decode cX7_stepOrder 53 = .ok (.aload_n 1, 1) := by decide +kernel
theorem dX7_stepOrder_54 : decode cX7_stepOrder 54 = .ok (.getfield 152, 3) := by decide +kernel
theorem dX7_stepOrder_57 : decode cX7_stepOrder 57 = .ok (.aload_n 1, 1) := by decide +kernel
theorem dX7_stepOrder_58 : decode cX7_stepOrder 58 = .ok (.getfield 158, 3) := by decide +kernel
theorem dX7_stepOrder_61 : decode cX7_stepOrder 61 = .ok (.invokevirtual 272, 3) := by decide +kernel
theorem dX7_stepOrder_64 : decode cX7_stepOrder 64 = .ok (.istore_n 2, 1) := by decide +kernel
theorem dX7_stepOrder_65 : decode cX7_stepOrder 65 = .ok (.iload_n 2, 1) := by decide +kernel
theorem dX7_stepOrder_66 : decode cX7_stepOrder 66 = .ok (.iconst (-1), 1) := by decide +kernel
theorem dX7_stepOrder_67 : decode cX7_stepOrder 67 = .ok (.if_icmp .eq 9, 3) := by decide +kernel
theorem dX7_stepOrder_70 : decode cX7_stepOrder 70 = .ok (.aload_n 0, 1) := by decide +kernel
theorem dX7_stepOrder_71 : decode cX7_stepOrder 71 = .ok (.iload_n 2, 1) := by decide +kernel
theorem dX7_stepOrder_72 : decode cX7_stepOrder 72 = .ok (.invokevirtual 275, 3) := by decide +kernel
theorem dX7_stepOrder_75 : decode cX7_stepOrder 75 = .ok (.return_, 1) := by decide +kernel
theorem dX7_known_5 : decode cX7_known 5 = .ok (.iload_n 1, 1) := by decide +kernel
theorem dX7_known_6 : decode cX7_known 6 = .ok (.iconst 1, 1) := by decide +kernel
theorem dX7_known_7 : decode cX7_known 7 = .ok (.if_icmp .eq 7, 3) := by decide +kernel
theorem dX7_known_10 : decode cX7_known 10 = .ok (.iload_n 2, 1) := by decide +kernel
theorem dX7_known_11 : decode cX7_known 11 = .ok (.ifCond .ne 5, 3) := by decide +kernel
theorem dX7_known_16 : decode cX7_known 16 = .ok (.aload_n 0, 1) := by decide +kernel
theorem dX7_known_17 : decode cX7_known 17 = .ok (.getfield 21, 3) := by decide +kernel
theorem dX7_known_20 : decode cX7_known 20 = .ok (.iload_n 2, 1) := by decide +kernel
theorem dX7_known_21 : decode cX7_known 21 = .ok (.invokevirtual 197, 3) := by decide +kernel
theorem dX7_known_24 : decode cX7_known 24 = .ok (.ifCond .eq 31, 3) := by decide +kernel
theorem dX7_known_55 : decode cX7_known 55 = .ok (.aload_n 0, 1) := by decide +kernel
theorem dX7_known_56 : decode cX7_known 56 = .ok (.getfield 21, 3) := by decide +kernel
theorem dX7_known_59 : decode cX7_known 59 = .ok (.iload_n 1, 1) := by decide +kernel
theorem dX7_known_60 : decode cX7_known 60 = .ok (.invokevirtual 187, 3) := by decide +kernel
theorem dX7_known_63 : decode cX7_known 63 = .ok (.istore_n 3, 1) := by decide +kernel
theorem dX7_known_64 : decode cX7_known 64 = .ok (.aload_n 0, 1) := by decide +kernel
theorem dX7_known_65 : decode cX7_known 65 = .ok (.getfield 21, 3) := by decide +kernel
theorem dX7_known_68 : decode cX7_known 68 = .ok (.iload_n 2, 1) := by decide +kernel
theorem dX7_known_69 : decode cX7_known 69 = .ok (.invokevirtual 187, 3) := by decide +kernel
theorem dX7_known_72 : decode cX7_known 72 = .ok (.istore 4, 2) := by decide +kernel
theorem dX7_known_74 : decode cX7_known 74 = .ok (.iload_n 3, 1) := by decide +kernel
theorem dX7_known_75 : decode cX7_known 75 = .ok (.bipush 12, 2) := by decide +kernel
theorem dX7_known_77 : decode cX7_known 77 = .ok (.if_icmp .eq 10, 3) := by decide +kernel
theorem dX7_known_80 : decode cX7_known 80 = .ok (.iload 4, 2) := by decide +kernel
theorem dX7_known_82 : decode cX7_known 82 = .ok (.bipush 12, 2) := by decide +kernel
theorem dX7_known_84 : decode cX7_known 84 = .ok (.if_icmp .ne 5, 3) := by decide +kernel
theorem dX7_known_89 : decode cX7_known 89 = .ok (.iload_n 3, 1) := by decide +kernel
theorem dX7_known_90 : decode cX7_known 90 = .ok (.aload_n 0, 1) := by decide +kernel
theorem dX7_known_91 : decode cX7_known 91 = .ok (.getfield 12, 3) := by decide +kernel
theorem dX7_known_94 : decode cX7_known 94 = .ok (.invokevirtual 139, 3) := by decide +kernel
theorem dX7_known_97 : decode cX7_known 97 = .ok (.if_icmp .ge 34, 3) := by decide +kernel
theorem dX7_known_131 : decode cX7_known 131 = .ok (.iconst 0, 1) := by decide +kernel
theorem dX7_known_132 : decode cX7_known 132 = .ok (.ireturn, 1) := by decide +kernel
def wb_c_R_join_21 : List Cond := [.fieldLink RX7 21 "Hornbook$Room" "nodes" "LHornbook$Nodes;", .code yX5_through cX5_through 4 (some .int), .fieldLink RX5 28 "Hornbook$Nodes" "second" "[J", .methodLink RX7 194 yX5_through, .instanceMethod yX5_through, .selects RX5 yX5_through yX5_through, .initialized RX5] ++ u_ws RX5 TX5 14 ++ u_ws RX7 TX7 14
def w_c_R_join_21 : List Cond := .code yX7_joinOf cX7_joinOf 5 (some .int) :: wb_c_R_join_21
set_option maxRecDepth 100000 in
theorem g_c_R_join_21_0 : GoodIn w_c_R_join_21 (wsV RX7 194 RX5 yX5_through w_c_N_through_2) := goodIn_app (goodIn_of _ (by decide +kernel)) (goodIn_p (big := w_c_R_join_21) (.code yX5_through cX5_through 4 (some .int) :: wb_c_N_through_2) [2] rfl (by decide +kernel))
set_option maxRecDepth 100000 in
theorem g_c_R_join_21_1 : GoodIn w_c_R_join_21 (wsV RX7 194 RX5 yX5_through w_c_N_through_1) := goodIn_app (goodIn_of _ (by decide +kernel)) (goodIn_p (big := w_c_R_join_21) (.code yX5_through cX5_through 4 (some .int) :: wb_c_N_through_1) [2] rfl (by decide +kernel))
set_option maxHeartbeats 4000000 in
set_option maxRecDepth 100000 in
theorem c_R_join_21 (l : Launch) (eD eI : Nat) (ad : Nat → Nat) (dC : Nat → ClassId) (dI : Nat → Nat → Nat) (sz : Nat) (aroom : Nat) (anod : Nat) (asort : Nat) (atold : Nat) (aheld : Nat) (apair : Nat) (astep : Nat) (asize : Nat) (nm : Nat) (nl : Nat) (n1 : Nat) (n2 : Nat) (nf : Nat) (ns : Nat) (nh : Nat) (nk : Nat) (np : Nat) (kL : ClassId) : Met l yX7_joinOf w_c_R_join_21 ({ frames := 1, cells := 0, slots := 0, locals := 23 }) (va_Pc [.ref aroom, .int 2, .int 1] (zPre eD eI ad (dC, dI) [(aroom, .inr (9, [.ref asort, .ref anod, .ref atold, .int 3, .ref aheld, .int 0, .ref apair, .ref astep, .int 0, .int 0, .int (-1), .int 0, .int 0, .ref asize])), (anod, .inr (7, [.ref nm, .ref nl, .ref n1, .ref n2, .ref nf, .ref ns, .ref nh, .ref nk, .ref np, .int 16, .int 0, .int 16, .int 0, .int 0])), (ns, .inl (kL, 1024, .inr (.inl zSec)))] [(kL, .long)] sz)) (va_Qi (fun (r : Int32) (_ : Unit) => r = 2) (fun (_ : Unit) => zEnd (dC, dI) (va_A [(aroom, .inr (9, [.ref asort, .ref anod, .ref atold, .int 3, .ref aheld, .int 0, .ref apair, .ref astep, .int 0, .int 0, .int (-1), .int 0, .int 0, .ref asize])), (anod, .inr (7, [.ref nm, .ref nl, .ref n1, .ref n2, .ref nf, .ref ns, .ref nh, .ref nk, .ref np, .int 16, .int 0, .int 16, .int 0, .int 0])), (ns, .inl (kL, 1024, .inr (.inl zSec)))] sz) [(aroom, .inr (9, [.ref asort, .ref anod, .ref atold, .int 3, .ref aheld, .int 0, .ref apair, .ref astep, .int 0, .int 0, .int (-1), .int 0, .int 0, .ref asize])), (anod, .inr (7, [.ref nm, .ref nl, .ref n1, .ref n2, .ref nf, .ref ns, .ref nh, .ref nk, .ref np, .int 16, .int 0, .int 16, .int 0, .int 0])), (ns, .inl (kL, 1024, .inr (.inl zSec)))] [(kL, .long)]) (va_A [(aroom, .inr (9, [.ref asort, .ref anod, .ref atold, .int 3, .ref aheld, .int 0, .ref apair, .ref astep, .int 0, .int 0, .int (-1), .int 0, .int 0, .ref asize])), (anod, .inr (7, [.ref nm, .ref nl, .ref n1, .ref n2, .ref nf, .ref ns, .ref nh, .ref nk, .ref np, .int 16, .int 0, .int 16, .int 0, .int 0])), (ns, .inl (kL, 1024, .inr (.inl zSec)))] sz)) 0 0 (va_A [(aroom, .inr (9, [.ref asort, .ref anod, .ref atold, .int 3, .ref aheld, .int 0, .ref apair, .ref astep, .int 0, .int 0, .int (-1), .int 0, .int 0, .ref asize])), (anod, .inr (7, [.ref nm, .ref nl, .ref n1, .ref n2, .ref nf, .ref ns, .ref nh, .ref nk, .ref np, .int 16, .int 0, .int 16, .int 0, .int 0])), (ns, .inl (kL, 1024, .inr (.inl zSec)))] sz) := by
  refine Met.ofW (cc := cX7_joinOf) (maxL := 5) (ret := (some .int)) (by decide) rfl ?_
  intro p e s m args below meth c s₁ B hml hv
  obtain ⟨rfl, hsz, hP, hK, hD0, hE⟩ := hv
  have hx := B.exec
  have hb := B.bytes
  have hr := B.returns
  have hts := atoms_spec (ws := w_c_R_join_21) B.pre
  have hown : s.vm.findClass RX7 = some m.cls := findClass_of_methodNamed B.named
  have hlocks := B.notSynchronized
  subst hsz
  have hD := hD0.self (sz := s.heap.size)
  generalize hAe : va_A [(aroom, .inr (9, [.ref asort, .ref anod, .ref atold, .int 3, .ref aheld, .int 0, .ref apair, .ref astep, .int 0, .int 0, .int (-1), .int 0, .int 0, .ref asize])), (anod, .inr (7, [.ref nm, .ref nl, .ref n1, .ref n2, .ref nf, .ref ns, .ref nh, .ref nk, .ref np, .int 16, .int 0, .int 16, .int 0, .int 0])), (ns, .inl (kL, 1024, .inr (.inl zSec)))] s.heap.size = A at hD hE ⊢
  have hA : ∀ q : Nat, s.heap.size ≤ q → A q := fun q h => by rw [← hAe]; exact Or.inr h
  have hS : va_S A s.heap s.heap [] := va_S.rf
  have hP : va_P (dC, dI) vwCl [(aroom, .inr (9, [.ref asort, .ref anod, .ref atold, .int 3, .ref aheld, .int 0, .ref apair, .ref astep, .int 0, .int 0, .int (-1), .int 0, .int 0, .ref asize])), (anod, .inr (7, [.ref nm, .ref nl, .ref n1, .ref n2, .ref nf, .ref ns, .ref nh, .ref nk, .ref np, .int 16, .int 0, .int 16, .int 0, .int 0])), (ns, .inl (kL, 1024, .inr (.inl zSec)))] s.heap := hP
  have hl := lv_entry ([.ref aroom, .int 2, .int 1]) (n := 5) (Nat.le_of_ble_eq_true rfl)
  rw [lg_entry_eq]
  generalize (lg_sl ([.ref aroom, .int 2, .int 1]) ++ List.replicate (5 - (lg_sl ([.ref aroom, .int 2, .int 1])).length) Slot.unset).toArray = ls at hl ⊢
  have hl : lv_has ls 5 [(0, .ref aroom), (1, .int 2), (2, .int 1)] := hl
  have in_RX5 : ∀ w ∈ u_ws RX5 TX5 14, w ∈ w_c_R_join_21 := by decide +kernel
  have in_RX7 : ∀ w ∈ u_ws RX7 TX7 14, w ∈ w_c_R_join_21 := by decide +kernel
  refine lv_aload_n hx hb dX7_joinOf_0 rfl (lv_at hl 0 rfl) ?_
  refine va_get (D := (dC, dI)) (ci := 9) (v := .ref anod) (C := RX7) (T := TX7) (N := 14) hx hb hts in_RX7 hown hK hP 0 rfl rfl 1 (by decide) (hts (.fieldLink RX7 21 "Hornbook$Room" "nodes" "LHornbook$Nodes;") (by decide +kernel)) (fun _ h9 => h9) rfl dX7_joinOf_1 ?_
  refine lv_iload_n hx hb dX7_joinOf_4 rfl (lv_at hl 1 rfl) ?_
  refine z_i (wr := [(aroom, .inr (9, [.ref asort, .ref anod, .ref atold, .int 3, .ref aheld, .int 0, .ref apair, .ref astep, .int 0, .int 0, .int (-1), .int 0, .int 0, .ref asize]))]) (va_runV (As := [.int 2]) (rest := []) ⟨hx, hb, hml, hown, hts⟩ (c_N_through_2 l eD eI ad dC dI s.heap.size anod nm nl n1 n2 nf ns nh nk np kL) (cwV 1 hts g_c_R_join_21_0 rfl rfl rfl (by decide +kernel) ⟨Nat.le_of_ble_eq_true rfl, Nat.le_of_ble_eq_true rfl⟩) (z_preV (wc := [(anod, .inr (7, [.ref nm, .ref nl, .ref n1, .ref n2, .ref nf, .ref ns, .ref nh, .ref nk, .ref np, .int 16, .int 0, .int 16, .int 0, .int 0])), (ns, .inl (kL, 1024, .inr (.inl zSec)))]) hP hD hK hS hA hE [1, 2] [0] rfl (by decide) rfl (ci := 7) (q0 := 0) rfl rfl) rfl rfl hl.1 rfl (lv_room (Nat.le_of_ble_eq_true rfl)) dX7_joinOf_5 ⟨Nat.le_of_ble_eq_true rfl, Nat.le_of_ble_eq_true rfl⟩) hP hD hK hS hA [1, 2] [0] rfl rfl (by decide) (by decide) (fun r_1 u H locs hw_2 hP hD hK hS => ?_)
  obtain ⟨⟩ := u
  have hP : va_P (dC, dI) vwCl [(aroom, .inr (9, [.ref asort, .ref anod, .ref atold, .int 3, .ref aheld, .int 0, .ref apair, .ref astep, .int 0, .int 0, .int (-1), .int 0, .int 0, .ref asize])), (anod, .inr (7, [.ref nm, .ref nl, .ref n1, .ref n2, .ref nf, .ref ns, .ref nh, .ref nk, .ref np, .int 16, .int 0, .int 16, .int 0, .int 0])), (ns, .inl (kL, 1024, .inr (.inl zSec)))] H := hP
  have hD : va_D A [(aroom, .inr (9, [.ref asort, .ref anod, .ref atold, .int 3, .ref aheld, .int 0, .ref apair, .ref astep, .int 0, .int 0, .int (-1), .int 0, .int 0, .ref asize])), (anod, .inr (7, [.ref nm, .ref nl, .ref n1, .ref n2, .ref nf, .ref ns, .ref nh, .ref nk, .ref np, .int 16, .int 0, .int 16, .int 0, .int 0])), (ns, .inl (kL, 1024, .inr (.inl zSec)))] := hD
  have hK : va_K (dC, dI) vwCl [(kL, .long), (kL, .long)] s := hK
  have hw_2 : r_1 = 2 := hw_2
  have hw_2 := hw_2.symm
  subst hw_2
  refine lv_istore_n (lv' := [(3, .int 2), (0, .ref aroom), (1, .int 2), (2, .int 1)]) hx hb dX7_joinOf_8 rfl hl (by decide) rfl (fun ls hl => ?_)
  refine lv_aload_n hx hb dX7_joinOf_9 rfl (lv_at hl 1 rfl) ?_
  refine va_get (D := (dC, dI)) (ci := 9) (v := .ref anod) (C := RX7) (T := TX7) (N := 14) hx hb hts in_RX7 hown hK hP 0 rfl rfl 1 (by decide) (hts (.fieldLink RX7 21 "Hornbook$Room" "nodes" "LHornbook$Nodes;") (by decide +kernel)) (fun _ h9 => h9) rfl dX7_joinOf_10 ?_
  refine lv_iload_n hx hb dX7_joinOf_13 rfl (lv_at hl 3 rfl) ?_
  refine z_i (wr := [(aroom, .inr (9, [.ref asort, .ref anod, .ref atold, .int 3, .ref aheld, .int 0, .ref apair, .ref astep, .int 0, .int 0, .int (-1), .int 0, .int 0, .ref asize]))]) (va_runV (As := [.int 1]) (rest := []) ⟨hx, hb, hml, hown, hts⟩ (c_N_through_1 l eD eI ad dC dI H.size anod nm nl n1 n2 nf ns nh nk np kL) (cwV 1 hts g_c_R_join_21_1 rfl rfl rfl (by decide +kernel) ⟨Nat.le_of_ble_eq_true rfl, Nat.le_of_ble_eq_true rfl⟩) (z_preV (wc := [(anod, .inr (7, [.ref nm, .ref nl, .ref n1, .ref n2, .ref nf, .ref ns, .ref nh, .ref nk, .ref np, .int 16, .int 0, .int 16, .int 0, .int 0])), (ns, .inl (kL, 1024, .inr (.inl zSec)))]) hP hD hK hS hA hE [1, 2] [0] rfl (by decide) rfl (ci := 7) (q0 := 0) rfl rfl) rfl rfl hl.1 rfl (lv_room (Nat.le_of_ble_eq_true rfl)) dX7_joinOf_14 ⟨Nat.le_of_ble_eq_true rfl, Nat.le_of_ble_eq_true rfl⟩) hP hD hK hS hA [1, 2] [0] rfl rfl (by decide) (by decide) (fun r_3 u H locs hw_4 hP hD hK hS => ?_)
  obtain ⟨⟩ := u
  have hP : va_P (dC, dI) vwCl [(aroom, .inr (9, [.ref asort, .ref anod, .ref atold, .int 3, .ref aheld, .int 0, .ref apair, .ref astep, .int 0, .int 0, .int (-1), .int 0, .int 0, .ref asize])), (anod, .inr (7, [.ref nm, .ref nl, .ref n1, .ref n2, .ref nf, .ref ns, .ref nh, .ref nk, .ref np, .int 16, .int 0, .int 16, .int 0, .int 0])), (ns, .inl (kL, 1024, .inr (.inl zSec)))] H := hP
  have hD : va_D A [(aroom, .inr (9, [.ref asort, .ref anod, .ref atold, .int 3, .ref aheld, .int 0, .ref apair, .ref astep, .int 0, .int 0, .int (-1), .int 0, .int 0, .ref asize])), (anod, .inr (7, [.ref nm, .ref nl, .ref n1, .ref n2, .ref nf, .ref ns, .ref nh, .ref nk, .ref np, .int 16, .int 0, .int 16, .int 0, .int 0])), (ns, .inl (kL, 1024, .inr (.inl zSec)))] := hD
  have hK : va_K (dC, dI) vwCl [(kL, .long), (kL, .long), (kL, .long)] s := hK
  have hw_4 : r_3 = 1 := hw_4
  have hw_4 := hw_4.symm
  subst hw_4
  refine lv_istore (lv' := [(4, .int 1), (3, .int 2), (0, .ref aroom), (1, .int 2), (2, .int 1)]) hx hb dX7_joinOf_17 hl (by decide) rfl (fun ls hl => ?_)
  refine lv_iload_n hx hb dX7_joinOf_19 rfl (lv_at hl 1 rfl) ?_
  refine lv_iload hx hb dX7_joinOf_20 (lv_at hl 0 rfl) ?_
  refine lv_icmp_ne (tgt := 27) hx hb dX7_joinOf_22 (by decide) (fun c_5 => ?_) (fun c_5 => ?_)
  rotate_left
  · exact absurd c_5 (by decide)
  refine lv_iload_n hx hb dX7_joinOf_27 rfl (lv_at hl 1 rfl) ?_
  refine lv_if_eq (tgt := 36) hx hb dX7_joinOf_28 (by decide) (fun c_6 => ?_) (fun c_6 => ?_)
  · exact absurd c_6 (by decide)
  refine lv_iload hx hb dX7_joinOf_31 (lv_at hl 0 rfl) ?_
  refine lv_if_ne (tgt := 38) hx hb dX7_joinOf_33 (by decide) (fun c_7 => ?_) (fun c_7 => ?_)
  rotate_left
  · exact absurd c_7 (by decide)
  refine lv_iload_n hx hb dX7_joinOf_38 rfl (lv_at hl 1 rfl) ?_
  refine lv_iconst (v := 1) hx hb dX7_joinOf_39 (by decide) ?_
  refine lv_icmp_ne (tgt := 46) hx hb dX7_joinOf_40 (by decide) (fun c_8 => ?_) (fun c_8 => ?_)
  rotate_left
  · exact absurd c_8 (by decide)
  refine lv_iload hx hb dX7_joinOf_46 (lv_at hl 0 rfl) ?_
  refine lv_iconst (v := 1) hx hb dX7_joinOf_48 (by decide) ?_
  refine lv_icmp_ne (tgt := 54) hx hb dX7_joinOf_49 (by decide) (fun c_9 => ?_) (fun c_9 => ?_)
  · exact absurd (by decide) c_9
  refine lv_iload_n hx hb dX7_joinOf_52 rfl (lv_at hl 1 rfl) ?_
  have hP9 := hP.sub (ws' := [(aroom, .inr (9, [.ref asort, .ref anod, .ref atold, .int 3, .ref aheld, .int 0, .ref apair, .ref astep, .int 0, .int 0, .int (-1), .int 0, .int 0, .ref asize])), (anod, .inr (7, [.ref nm, .ref nl, .ref n1, .ref n2, .ref nf, .ref ns, .ref nh, .ref nk, .ref np, .int 16, .int 0, .int 16, .int 0, .int 0])), (ns, .inl (kL, 1024, .inr (.inl zSec)))]) [0, 1, 2] rfl
  have hD9 := hD.sub (ws' := [(aroom, .inr (9, [.ref asort, .ref anod, .ref atold, .int 3, .ref aheld, .int 0, .ref apair, .ref astep, .int 0, .int 0, .int (-1), .int 0, .int 0, .ref asize])), (anod, .inr (7, [.ref nm, .ref nl, .ref n1, .ref n2, .ref nf, .ref ns, .ref nh, .ref nk, .ref np, .int 16, .int 0, .int 16, .int 0, .int 0])), (ns, .inl (kL, 1024, .inr (.inl zSec)))]) [0, 1, 2] (by decide) rfl
  have hK9 := hK.sub (tys' := [(kL, .long)]) [0] rfl
  refine W.widen (k := 0) (n := 0) (Nat.le_of_ble_eq_true rfl) (Nat.le_of_ble_eq_true rfl) ?_
  exact W.iret (v := 2) hx hb hr (fun t ht hW => ⟨⟨2, (), rfl, rfl, ⟨by rw [ht]; exact hP9, va_K.moved hW.alike hK9, hD9⟩⟩, hS.F ht⟩) hS.2.2 dX7_joinOf_53

def wb_c_R_join_22 : List Cond := [.fieldLink RX7 21 "Hornbook$Room" "nodes" "LHornbook$Nodes;", .code yX5_through cX5_through 4 (some .int), .fieldLink RX5 28 "Hornbook$Nodes" "second" "[J", .methodLink RX7 194 yX5_through, .instanceMethod yX5_through, .selects RX5 yX5_through yX5_through, .initialized RX5] ++ u_ws RX5 TX5 14 ++ u_ws RX7 TX7 14
def w_c_R_join_22 : List Cond := .code yX7_joinOf cX7_joinOf 5 (some .int) :: wb_c_R_join_22
set_option maxRecDepth 100000 in
theorem g_c_R_join_22_0 : GoodIn w_c_R_join_22 (wsV RX7 194 RX5 yX5_through w_c_N_through_2) := goodIn_app (goodIn_of _ (by decide +kernel)) (goodIn_p (big := w_c_R_join_22) (.code yX5_through cX5_through 4 (some .int) :: wb_c_N_through_2) [2] rfl (by decide +kernel))
set_option maxHeartbeats 4000000 in
set_option maxRecDepth 100000 in
theorem c_R_join_22 (l : Launch) (eD eI : Nat) (ad : Nat → Nat) (dC : Nat → ClassId) (dI : Nat → Nat → Nat) (sz : Nat) (aroom : Nat) (anod : Nat) (asort : Nat) (atold : Nat) (aheld : Nat) (apair : Nat) (astep : Nat) (asize : Nat) (nm : Nat) (nl : Nat) (n1 : Nat) (n2 : Nat) (nf : Nat) (ns : Nat) (nh : Nat) (nk : Nat) (np : Nat) (kL : ClassId) : Met l yX7_joinOf w_c_R_join_22 ({ frames := 1, cells := 0, slots := 0, locals := 23 }) (va_Pc [.ref aroom, .int 2, .int 2] (zPre eD eI ad (dC, dI) [(aroom, .inr (9, [.ref asort, .ref anod, .ref atold, .int 3, .ref aheld, .int 0, .ref apair, .ref astep, .int 0, .int 0, .int (-1), .int 0, .int 0, .ref asize])), (anod, .inr (7, [.ref nm, .ref nl, .ref n1, .ref n2, .ref nf, .ref ns, .ref nh, .ref nk, .ref np, .int 16, .int 0, .int 16, .int 0, .int 0])), (ns, .inl (kL, 1024, .inr (.inl zSec)))] [(kL, .long)] sz)) (va_Qi (fun (r : Int32) (_ : Unit) => r = 2) (fun (_ : Unit) => zEnd (dC, dI) (va_A [(aroom, .inr (9, [.ref asort, .ref anod, .ref atold, .int 3, .ref aheld, .int 0, .ref apair, .ref astep, .int 0, .int 0, .int (-1), .int 0, .int 0, .ref asize])), (anod, .inr (7, [.ref nm, .ref nl, .ref n1, .ref n2, .ref nf, .ref ns, .ref nh, .ref nk, .ref np, .int 16, .int 0, .int 16, .int 0, .int 0])), (ns, .inl (kL, 1024, .inr (.inl zSec)))] sz) [(aroom, .inr (9, [.ref asort, .ref anod, .ref atold, .int 3, .ref aheld, .int 0, .ref apair, .ref astep, .int 0, .int 0, .int (-1), .int 0, .int 0, .ref asize])), (anod, .inr (7, [.ref nm, .ref nl, .ref n1, .ref n2, .ref nf, .ref ns, .ref nh, .ref nk, .ref np, .int 16, .int 0, .int 16, .int 0, .int 0])), (ns, .inl (kL, 1024, .inr (.inl zSec)))] [(kL, .long)]) (va_A [(aroom, .inr (9, [.ref asort, .ref anod, .ref atold, .int 3, .ref aheld, .int 0, .ref apair, .ref astep, .int 0, .int 0, .int (-1), .int 0, .int 0, .ref asize])), (anod, .inr (7, [.ref nm, .ref nl, .ref n1, .ref n2, .ref nf, .ref ns, .ref nh, .ref nk, .ref np, .int 16, .int 0, .int 16, .int 0, .int 0])), (ns, .inl (kL, 1024, .inr (.inl zSec)))] sz)) 0 0 (va_A [(aroom, .inr (9, [.ref asort, .ref anod, .ref atold, .int 3, .ref aheld, .int 0, .ref apair, .ref astep, .int 0, .int 0, .int (-1), .int 0, .int 0, .ref asize])), (anod, .inr (7, [.ref nm, .ref nl, .ref n1, .ref n2, .ref nf, .ref ns, .ref nh, .ref nk, .ref np, .int 16, .int 0, .int 16, .int 0, .int 0])), (ns, .inl (kL, 1024, .inr (.inl zSec)))] sz) := by
  refine Met.ofW (cc := cX7_joinOf) (maxL := 5) (ret := (some .int)) (by decide) rfl ?_
  intro p e s m args below meth c s₁ B hml hv
  obtain ⟨rfl, hsz, hP, hK, hD0, hE⟩ := hv
  have hx := B.exec
  have hb := B.bytes
  have hr := B.returns
  have hts := atoms_spec (ws := w_c_R_join_22) B.pre
  have hown : s.vm.findClass RX7 = some m.cls := findClass_of_methodNamed B.named
  have hlocks := B.notSynchronized
  subst hsz
  have hD := hD0.self (sz := s.heap.size)
  generalize hAe : va_A [(aroom, .inr (9, [.ref asort, .ref anod, .ref atold, .int 3, .ref aheld, .int 0, .ref apair, .ref astep, .int 0, .int 0, .int (-1), .int 0, .int 0, .ref asize])), (anod, .inr (7, [.ref nm, .ref nl, .ref n1, .ref n2, .ref nf, .ref ns, .ref nh, .ref nk, .ref np, .int 16, .int 0, .int 16, .int 0, .int 0])), (ns, .inl (kL, 1024, .inr (.inl zSec)))] s.heap.size = A at hD hE ⊢
  have hA : ∀ q : Nat, s.heap.size ≤ q → A q := fun q h => by rw [← hAe]; exact Or.inr h
  have hS : va_S A s.heap s.heap [] := va_S.rf
  have hP : va_P (dC, dI) vwCl [(aroom, .inr (9, [.ref asort, .ref anod, .ref atold, .int 3, .ref aheld, .int 0, .ref apair, .ref astep, .int 0, .int 0, .int (-1), .int 0, .int 0, .ref asize])), (anod, .inr (7, [.ref nm, .ref nl, .ref n1, .ref n2, .ref nf, .ref ns, .ref nh, .ref nk, .ref np, .int 16, .int 0, .int 16, .int 0, .int 0])), (ns, .inl (kL, 1024, .inr (.inl zSec)))] s.heap := hP
  have hl := lv_entry ([.ref aroom, .int 2, .int 2]) (n := 5) (Nat.le_of_ble_eq_true rfl)
  rw [lg_entry_eq]
  generalize (lg_sl ([.ref aroom, .int 2, .int 2]) ++ List.replicate (5 - (lg_sl ([.ref aroom, .int 2, .int 2])).length) Slot.unset).toArray = ls at hl ⊢
  have hl : lv_has ls 5 [(0, .ref aroom), (1, .int 2), (2, .int 2)] := hl
  have in_RX5 : ∀ w ∈ u_ws RX5 TX5 14, w ∈ w_c_R_join_22 := by decide +kernel
  have in_RX7 : ∀ w ∈ u_ws RX7 TX7 14, w ∈ w_c_R_join_22 := by decide +kernel
  refine lv_aload_n hx hb dX7_joinOf_0 rfl (lv_at hl 0 rfl) ?_
  refine va_get (D := (dC, dI)) (ci := 9) (v := .ref anod) (C := RX7) (T := TX7) (N := 14) hx hb hts in_RX7 hown hK hP 0 rfl rfl 1 (by decide) (hts (.fieldLink RX7 21 "Hornbook$Room" "nodes" "LHornbook$Nodes;") (by decide +kernel)) (fun _ h9 => h9) rfl dX7_joinOf_1 ?_
  refine lv_iload_n hx hb dX7_joinOf_4 rfl (lv_at hl 1 rfl) ?_
  refine z_i (wr := [(aroom, .inr (9, [.ref asort, .ref anod, .ref atold, .int 3, .ref aheld, .int 0, .ref apair, .ref astep, .int 0, .int 0, .int (-1), .int 0, .int 0, .ref asize]))]) (va_runV (As := [.int 2]) (rest := []) ⟨hx, hb, hml, hown, hts⟩ (c_N_through_2 l eD eI ad dC dI s.heap.size anod nm nl n1 n2 nf ns nh nk np kL) (cwV 1 hts g_c_R_join_22_0 rfl rfl rfl (by decide +kernel) ⟨Nat.le_of_ble_eq_true rfl, Nat.le_of_ble_eq_true rfl⟩) (z_preV (wc := [(anod, .inr (7, [.ref nm, .ref nl, .ref n1, .ref n2, .ref nf, .ref ns, .ref nh, .ref nk, .ref np, .int 16, .int 0, .int 16, .int 0, .int 0])), (ns, .inl (kL, 1024, .inr (.inl zSec)))]) hP hD hK hS hA hE [1, 2] [0] rfl (by decide) rfl (ci := 7) (q0 := 0) rfl rfl) rfl rfl hl.1 rfl (lv_room (Nat.le_of_ble_eq_true rfl)) dX7_joinOf_5 ⟨Nat.le_of_ble_eq_true rfl, Nat.le_of_ble_eq_true rfl⟩) hP hD hK hS hA [1, 2] [0] rfl rfl (by decide) (by decide) (fun r_1 u H locs hw_2 hP hD hK hS => ?_)
  obtain ⟨⟩ := u
  have hP : va_P (dC, dI) vwCl [(aroom, .inr (9, [.ref asort, .ref anod, .ref atold, .int 3, .ref aheld, .int 0, .ref apair, .ref astep, .int 0, .int 0, .int (-1), .int 0, .int 0, .ref asize])), (anod, .inr (7, [.ref nm, .ref nl, .ref n1, .ref n2, .ref nf, .ref ns, .ref nh, .ref nk, .ref np, .int 16, .int 0, .int 16, .int 0, .int 0])), (ns, .inl (kL, 1024, .inr (.inl zSec)))] H := hP
  have hD : va_D A [(aroom, .inr (9, [.ref asort, .ref anod, .ref atold, .int 3, .ref aheld, .int 0, .ref apair, .ref astep, .int 0, .int 0, .int (-1), .int 0, .int 0, .ref asize])), (anod, .inr (7, [.ref nm, .ref nl, .ref n1, .ref n2, .ref nf, .ref ns, .ref nh, .ref nk, .ref np, .int 16, .int 0, .int 16, .int 0, .int 0])), (ns, .inl (kL, 1024, .inr (.inl zSec)))] := hD
  have hK : va_K (dC, dI) vwCl [(kL, .long), (kL, .long)] s := hK
  have hw_2 : r_1 = 2 := hw_2
  have hw_2 := hw_2.symm
  subst hw_2
  refine lv_istore_n (lv' := [(3, .int 2), (0, .ref aroom), (1, .int 2), (2, .int 2)]) hx hb dX7_joinOf_8 rfl hl (by decide) rfl (fun ls hl => ?_)
  refine lv_aload_n hx hb dX7_joinOf_9 rfl (lv_at hl 1 rfl) ?_
  refine va_get (D := (dC, dI)) (ci := 9) (v := .ref anod) (C := RX7) (T := TX7) (N := 14) hx hb hts in_RX7 hown hK hP 0 rfl rfl 1 (by decide) (hts (.fieldLink RX7 21 "Hornbook$Room" "nodes" "LHornbook$Nodes;") (by decide +kernel)) (fun _ h9 => h9) rfl dX7_joinOf_10 ?_
  refine lv_iload_n hx hb dX7_joinOf_13 rfl (lv_at hl 3 rfl) ?_
  refine z_i (wr := [(aroom, .inr (9, [.ref asort, .ref anod, .ref atold, .int 3, .ref aheld, .int 0, .ref apair, .ref astep, .int 0, .int 0, .int (-1), .int 0, .int 0, .ref asize]))]) (va_runV (As := [.int 2]) (rest := []) ⟨hx, hb, hml, hown, hts⟩ (c_N_through_2 l eD eI ad dC dI H.size anod nm nl n1 n2 nf ns nh nk np kL) (cwV 1 hts g_c_R_join_22_0 rfl rfl rfl (by decide +kernel) ⟨Nat.le_of_ble_eq_true rfl, Nat.le_of_ble_eq_true rfl⟩) (z_preV (wc := [(anod, .inr (7, [.ref nm, .ref nl, .ref n1, .ref n2, .ref nf, .ref ns, .ref nh, .ref nk, .ref np, .int 16, .int 0, .int 16, .int 0, .int 0])), (ns, .inl (kL, 1024, .inr (.inl zSec)))]) hP hD hK hS hA hE [1, 2] [0] rfl (by decide) rfl (ci := 7) (q0 := 0) rfl rfl) rfl rfl hl.1 rfl (lv_room (Nat.le_of_ble_eq_true rfl)) dX7_joinOf_14 ⟨Nat.le_of_ble_eq_true rfl, Nat.le_of_ble_eq_true rfl⟩) hP hD hK hS hA [1, 2] [0] rfl rfl (by decide) (by decide) (fun r_3 u H locs hw_4 hP hD hK hS => ?_)
  obtain ⟨⟩ := u
  have hP : va_P (dC, dI) vwCl [(aroom, .inr (9, [.ref asort, .ref anod, .ref atold, .int 3, .ref aheld, .int 0, .ref apair, .ref astep, .int 0, .int 0, .int (-1), .int 0, .int 0, .ref asize])), (anod, .inr (7, [.ref nm, .ref nl, .ref n1, .ref n2, .ref nf, .ref ns, .ref nh, .ref nk, .ref np, .int 16, .int 0, .int 16, .int 0, .int 0])), (ns, .inl (kL, 1024, .inr (.inl zSec)))] H := hP
  have hD : va_D A [(aroom, .inr (9, [.ref asort, .ref anod, .ref atold, .int 3, .ref aheld, .int 0, .ref apair, .ref astep, .int 0, .int 0, .int (-1), .int 0, .int 0, .ref asize])), (anod, .inr (7, [.ref nm, .ref nl, .ref n1, .ref n2, .ref nf, .ref ns, .ref nh, .ref nk, .ref np, .int 16, .int 0, .int 16, .int 0, .int 0])), (ns, .inl (kL, 1024, .inr (.inl zSec)))] := hD
  have hK : va_K (dC, dI) vwCl [(kL, .long), (kL, .long), (kL, .long)] s := hK
  have hw_4 : r_3 = 2 := hw_4
  have hw_4 := hw_4.symm
  subst hw_4
  refine lv_istore (lv' := [(4, .int 2), (3, .int 2), (0, .ref aroom), (1, .int 2), (2, .int 2)]) hx hb dX7_joinOf_17 hl (by decide) rfl (fun ls hl => ?_)
  refine lv_iload_n hx hb dX7_joinOf_19 rfl (lv_at hl 1 rfl) ?_
  refine lv_iload hx hb dX7_joinOf_20 (lv_at hl 0 rfl) ?_
  refine lv_icmp_ne (tgt := 27) hx hb dX7_joinOf_22 (by decide) (fun c_5 => ?_) (fun c_5 => ?_)
  · exact absurd (by decide) c_5
  refine lv_iload_n hx hb dX7_joinOf_25 rfl (lv_at hl 1 rfl) ?_
  have hP9 := hP.sub (ws' := [(aroom, .inr (9, [.ref asort, .ref anod, .ref atold, .int 3, .ref aheld, .int 0, .ref apair, .ref astep, .int 0, .int 0, .int (-1), .int 0, .int 0, .ref asize])), (anod, .inr (7, [.ref nm, .ref nl, .ref n1, .ref n2, .ref nf, .ref ns, .ref nh, .ref nk, .ref np, .int 16, .int 0, .int 16, .int 0, .int 0])), (ns, .inl (kL, 1024, .inr (.inl zSec)))]) [0, 1, 2] rfl
  have hD9 := hD.sub (ws' := [(aroom, .inr (9, [.ref asort, .ref anod, .ref atold, .int 3, .ref aheld, .int 0, .ref apair, .ref astep, .int 0, .int 0, .int (-1), .int 0, .int 0, .ref asize])), (anod, .inr (7, [.ref nm, .ref nl, .ref n1, .ref n2, .ref nf, .ref ns, .ref nh, .ref nk, .ref np, .int 16, .int 0, .int 16, .int 0, .int 0])), (ns, .inl (kL, 1024, .inr (.inl zSec)))]) [0, 1, 2] (by decide) rfl
  have hK9 := hK.sub (tys' := [(kL, .long)]) [0] rfl
  refine W.widen (k := 0) (n := 0) (Nat.le_of_ble_eq_true rfl) (Nat.le_of_ble_eq_true rfl) ?_
  exact W.iret (v := 2) hx hb hr (fun t ht hW => ⟨⟨2, (), rfl, rfl, ⟨by rw [ht]; exact hP9, va_K.moved hW.alike hK9, hD9⟩⟩, hS.F ht⟩) hS.2.2 dX7_joinOf_26

def wb_c_R_tell_3 : List Cond := [.fieldLink RX7 29 "Hornbook$Room" "tellings" "I", .fieldLink RX7 25 "Hornbook$Room" "told" "[I"] ++ u_ws RX7 TX7 14
def w_c_R_tell_3 : List Cond := .code yX7_tell cX7_tell 2 (some .int) :: wb_c_R_tell_3
set_option maxHeartbeats 4000000 in
set_option maxRecDepth 100000 in
theorem c_R_tell_3 (l : Launch) (eD eI : Nat) (ad : Nat → Nat) (dC : Nat → ClassId) (dI : Nat → Nat → Nat) (sz : Nat) (aroom : Nat) (anod : Nat) (asort : Nat) (atold : Nat) (aheld : Nat) (apair : Nat) (astep : Nat) (asize : Nat) (kI : ClassId) : Met l yX7_tell w_c_R_tell_3 ({ frames := 0, cells := 0, slots := 0, locals := 0 }) (va_Pc [.ref aroom, .int 3] (zPre eD eI ad (dC, dI) [(aroom, .inr (9, [.ref asort, .ref anod, .ref atold, .int 3, .ref aheld, .int 0, .ref apair, .ref astep, .int 0, .int 0, .int (-1), .int 0, .int 0, .ref asize])), (atold, .inl (kI, 60, .inl zTold))] [(kI, .int)] sz)) (va_Qi (fun (r : Int32) (_ : Unit) => r = 3) (fun (_ : Unit) => zEnd (dC, dI) (va_A [(aroom, .inr (9, [.ref asort, .ref anod, .ref atold, .int 3, .ref aheld, .int 0, .ref apair, .ref astep, .int 0, .int 0, .int (-1), .int 0, .int 0, .ref asize])), (atold, .inl (kI, 60, .inl zTold))] sz) [(aroom, .inr (9, [.ref asort, .ref anod, .ref atold, .int 4, .ref aheld, .int 0, .ref apair, .ref astep, .int 0, .int 0, .int (-1), .int 0, .int 0, .ref asize]))] []) (va_A [(aroom, .inr (9, [.ref asort, .ref anod, .ref atold, .int 3, .ref aheld, .int 0, .ref apair, .ref astep, .int 0, .int 0, .int (-1), .int 0, .int 0, .ref asize])), (atold, .inl (kI, 60, .inl zTold))] sz)) 0 0 (va_A [(aroom, .inr (9, [.ref asort, .ref anod, .ref atold, .int 3, .ref aheld, .int 0, .ref apair, .ref astep, .int 0, .int 0, .int (-1), .int 0, .int 0, .ref asize])), (atold, .inl (kI, 60, .inl zTold))] sz) := by
  refine Met.ofW (cc := cX7_tell) (maxL := 2) (ret := (some .int)) (by decide) rfl ?_
  intro p e s m args below meth c s₁ B hml hv
  obtain ⟨rfl, hsz, hP, hK, hD0, hE⟩ := hv
  have hx := B.exec
  have hb := B.bytes
  have hr := B.returns
  have hts := atoms_spec (ws := w_c_R_tell_3) B.pre
  have hown : s.vm.findClass RX7 = some m.cls := findClass_of_methodNamed B.named
  have hlocks := B.notSynchronized
  subst hsz
  have hD := hD0.self (sz := s.heap.size)
  generalize hAe : va_A [(aroom, .inr (9, [.ref asort, .ref anod, .ref atold, .int 3, .ref aheld, .int 0, .ref apair, .ref astep, .int 0, .int 0, .int (-1), .int 0, .int 0, .ref asize])), (atold, .inl (kI, 60, .inl zTold))] s.heap.size = A at hD hE ⊢
  have hA : ∀ q : Nat, s.heap.size ≤ q → A q := fun q h => by rw [← hAe]; exact Or.inr h
  have hS : va_S A s.heap s.heap [] := va_S.rf
  have hP : va_P (dC, dI) vwCl [(aroom, .inr (9, [.ref asort, .ref anod, .ref atold, .int 3, .ref aheld, .int 0, .ref apair, .ref astep, .int 0, .int 0, .int (-1), .int 0, .int 0, .ref asize])), (atold, .inl (kI, 60, .inl zTold))] s.heap := hP
  have hl := lv_entry ([.ref aroom, .int 3]) (n := 2) (Nat.le_of_ble_eq_true rfl)
  rw [lg_entry_eq]
  generalize (lg_sl ([.ref aroom, .int 3]) ++ List.replicate (2 - (lg_sl ([.ref aroom, .int 3])).length) Slot.unset).toArray = ls at hl ⊢
  have hl : lv_has ls 2 [(0, .ref aroom), (1, .int 3)] := hl
  have in_RX7 : ∀ w ∈ u_ws RX7 TX7 14, w ∈ w_c_R_tell_3 := by decide +kernel
  refine lv_aload_n hx hb dX7_tell_0 rfl (lv_at hl 0 rfl) ?_
  refine va_get (D := (dC, dI)) (ci := 9) (v := .int 3) (C := RX7) (T := TX7) (N := 14) hx hb hts in_RX7 hown hK hP 0 rfl rfl 3 (by decide) (hts (.fieldLink RX7 29 "Hornbook$Room" "tellings" "I") (by decide +kernel)) (fun _ h9 => h9) rfl dX7_tell_1 ?_
  refine lv_aload_n hx hb dX7_tell_4 rfl (lv_at hl 0 rfl) ?_
  refine va_get (D := (dC, dI)) (ci := 9) (v := .ref atold) (C := RX7) (T := TX7) (N := 14) hx hb hts in_RX7 hown hK hP 0 rfl rfl 2 (by decide) (hts (.fieldLink RX7 25 "Hornbook$Room" "told" "[I") (by decide +kernel)) (fun _ h9 => h9) rfl dX7_tell_5 ?_
  refine va_alen (D := (dC, dI)) (v := 60) hx hb hK hP 1 0 rfl rfl rfl dX7_tell_8 ?_
  refine lv_icmp_lt (tgt := 14) hx hb dX7_tell_9 (by decide) (fun c_1 => ?_) (fun c_1 => ?_)
  rotate_left
  · exact absurd (by decide) c_1
  refine lv_aload_n hx hb dX7_tell_14 rfl (lv_at hl 0 rfl) ?_
  refine va_get (D := (dC, dI)) (ci := 9) (v := .ref atold) (C := RX7) (T := TX7) (N := 14) hx hb hts in_RX7 hown hK hP 0 rfl rfl 2 (by decide) (hts (.fieldLink RX7 25 "Hornbook$Room" "told" "[I") (by decide +kernel)) (fun _ h9 => h9) rfl dX7_tell_15 ?_
  refine lv_aload_n hx hb dX7_tell_18 rfl (lv_at hl 0 rfl) ?_
  refine va_get (D := (dC, dI)) (ci := 9) (v := .int 3) (C := RX7) (T := TX7) (N := 14) hx hb hts in_RX7 hown hK hP 0 rfl rfl 3 (by decide) (hts (.fieldLink RX7 29 "Hornbook$Room" "tellings" "I") (by decide +kernel)) (fun _ h9 => h9) rfl dX7_tell_19 ?_
  refine lv_iload_n hx hb dX7_tell_22 rfl (lv_at hl 1 rfl) ?_
  refine va_iast (D := (dC, dI)) hx hb hK hP hD hS 1 0 rfl rfl (by unfold vp_in; decide) dX7_tell_23 (fun H locs hP hD hS => ?_)
  have hP : va_P (dC, dI) vwCl [(aroom, .inr (9, [.ref asort, .ref anod, .ref atold, .int 3, .ref aheld, .int 0, .ref apair, .ref astep, .int 0, .int 0, .int (-1), .int 0, .int 0, .ref asize])), (atold, .inl (kI, 60, .inl (upd zTold (3 : Int32).toNatClampNeg 3)))] H := hP
  have hD : va_D A [(aroom, .inr (9, [.ref asort, .ref anod, .ref atold, .int 3, .ref aheld, .int 0, .ref apair, .ref astep, .int 0, .int 0, .int (-1), .int 0, .int 0, .ref asize])), (atold, .inl (kI, 60, .inl (upd zTold (3 : Int32).toNatClampNeg 3)))] := hD
  refine lv_aload_n hx hb dX7_tell_24 rfl (lv_at hl 0 rfl) ?_
  refine lv_dup hx hb dX7_tell_25 rfl ?_
  refine va_get (D := (dC, dI)) (ci := 9) (v := .int 3) (C := RX7) (T := TX7) (N := 14) hx hb hts in_RX7 hown hK hP 0 rfl rfl 3 (by decide) (hts (.fieldLink RX7 29 "Hornbook$Room" "tellings" "I") (by decide +kernel)) (fun _ h9 => h9) rfl dX7_tell_26 ?_
  refine lv_iconst (v := 1) hx hb dX7_tell_29 (by decide) ?_
  refine lv_iadd hx hb dX7_tell_30 ?_
  refine z_top (v' := .int 4) (congrArg Value.int (by decide)) ?_
  refine va_put (D := (dC, dI)) (ci := 9) (v := .int 4) (ty := .int) (C := RX7) (T := TX7) (N := 14) hx hb hts in_RX7 tyX7 tyX7_ok nmX7 hown hK hP hD hS 0 rfl rfl 3 (by decide) (hts (.fieldLink RX7 29 "Hornbook$Room" "tellings" "I") (by decide +kernel)) (fun _ h9 => h9) rfl (by decide +kernel) rfl rfl (Nat.le_of_ble_eq_true rfl) dX7_tell_31 (fun H locs hP hD hS => ?_)
  have hP : va_P (dC, dI) vwCl [(aroom, .inr (9, [.ref asort, .ref anod, .ref atold, .int 4, .ref aheld, .int 0, .ref apair, .ref astep, .int 0, .int 0, .int (-1), .int 0, .int 0, .ref asize])), (atold, .inl (kI, 60, .inl (upd zTold (3 : Int32).toNatClampNeg 3)))] H := hP
  have hD : va_D A [(aroom, .inr (9, [.ref asort, .ref anod, .ref atold, .int 4, .ref aheld, .int 0, .ref apair, .ref astep, .int 0, .int 0, .int (-1), .int 0, .int 0, .ref asize])), (atold, .inl (kI, 60, .inl (upd zTold (3 : Int32).toNatClampNeg 3)))] := hD
  refine lv_aload_n hx hb dX7_tell_34 rfl (lv_at hl 0 rfl) ?_
  refine va_get (D := (dC, dI)) (ci := 9) (v := .int 4) (C := RX7) (T := TX7) (N := 14) hx hb hts in_RX7 hown hK hP 0 rfl rfl 3 (by decide) (hts (.fieldLink RX7 29 "Hornbook$Room" "tellings" "I") (by decide +kernel)) (fun _ h9 => h9) rfl dX7_tell_35 ?_
  refine lv_iconst (v := 1) hx hb dX7_tell_38 (by decide) ?_
  refine lv_isub hx hb dX7_tell_39 ?_
  refine z_top (v' := .int 3) (congrArg Value.int (by decide)) ?_
  have hP9 := hP.sub (ws' := [(aroom, .inr (9, [.ref asort, .ref anod, .ref atold, .int 4, .ref aheld, .int 0, .ref apair, .ref astep, .int 0, .int 0, .int (-1), .int 0, .int 0, .ref asize]))]) [0] rfl
  have hD9 := hD.sub (ws' := [(aroom, .inr (9, [.ref asort, .ref anod, .ref atold, .int 4, .ref aheld, .int 0, .ref apair, .ref astep, .int 0, .int 0, .int (-1), .int 0, .int 0, .ref asize]))]) [0] (by decide) rfl
  have hK9 := hK.sub (tys' := []) [] rfl
  refine W.widen (k := 0) (n := 0) (Nat.le_of_ble_eq_true rfl) (Nat.le_of_ble_eq_true rfl) ?_
  exact W.iret (v := 3) hx hb hr (fun t ht hW => ⟨⟨3, (), rfl, rfl, ⟨by rw [ht]; exact hP9, va_K.moved hW.alike hK9, hD9⟩⟩, hS.F ht⟩) hS.2.2 dX7_tell_40

def wb_c_R_tell_4 : List Cond := [.fieldLink RX7 29 "Hornbook$Room" "tellings" "I", .fieldLink RX7 25 "Hornbook$Room" "told" "[I"] ++ u_ws RX7 TX7 14
def w_c_R_tell_4 : List Cond := .code yX7_tell cX7_tell 2 (some .int) :: wb_c_R_tell_4
set_option maxHeartbeats 4000000 in
set_option maxRecDepth 100000 in
theorem c_R_tell_4 (l : Launch) (eD eI : Nat) (ad : Nat → Nat) (dC : Nat → ClassId) (dI : Nat → Nat → Nat) (sz : Nat) (aroom : Nat) (anod : Nat) (asort : Nat) (atold : Nat) (aheld : Nat) (apair : Nat) (astep : Nat) (asize : Nat) (kI : ClassId) : Met l yX7_tell w_c_R_tell_4 ({ frames := 0, cells := 0, slots := 0, locals := 0 }) (va_Pc [.ref aroom, .int 4] (zPre eD eI ad (dC, dI) [(aroom, .inr (9, [.ref asort, .ref anod, .ref atold, .int 3, .ref aheld, .int 0, .ref apair, .ref astep, .int 0, .int 0, .int (-1), .int 0, .int 0, .ref asize])), (atold, .inl (kI, 60, .inl zTold))] [(kI, .int)] sz)) (va_Qi (fun (r : Int32) (_ : Unit) => r = 3) (fun (_ : Unit) => zEnd (dC, dI) (va_A [(aroom, .inr (9, [.ref asort, .ref anod, .ref atold, .int 3, .ref aheld, .int 0, .ref apair, .ref astep, .int 0, .int 0, .int (-1), .int 0, .int 0, .ref asize])), (atold, .inl (kI, 60, .inl zTold))] sz) [(aroom, .inr (9, [.ref asort, .ref anod, .ref atold, .int 4, .ref aheld, .int 0, .ref apair, .ref astep, .int 0, .int 0, .int (-1), .int 0, .int 0, .ref asize]))] []) (va_A [(aroom, .inr (9, [.ref asort, .ref anod, .ref atold, .int 3, .ref aheld, .int 0, .ref apair, .ref astep, .int 0, .int 0, .int (-1), .int 0, .int 0, .ref asize])), (atold, .inl (kI, 60, .inl zTold))] sz)) 0 0 (va_A [(aroom, .inr (9, [.ref asort, .ref anod, .ref atold, .int 3, .ref aheld, .int 0, .ref apair, .ref astep, .int 0, .int 0, .int (-1), .int 0, .int 0, .ref asize])), (atold, .inl (kI, 60, .inl zTold))] sz) := by
  refine Met.ofW (cc := cX7_tell) (maxL := 2) (ret := (some .int)) (by decide) rfl ?_
  intro p e s m args below meth c s₁ B hml hv
  obtain ⟨rfl, hsz, hP, hK, hD0, hE⟩ := hv
  have hx := B.exec
  have hb := B.bytes
  have hr := B.returns
  have hts := atoms_spec (ws := w_c_R_tell_4) B.pre
  have hown : s.vm.findClass RX7 = some m.cls := findClass_of_methodNamed B.named
  have hlocks := B.notSynchronized
  subst hsz
  have hD := hD0.self (sz := s.heap.size)
  generalize hAe : va_A [(aroom, .inr (9, [.ref asort, .ref anod, .ref atold, .int 3, .ref aheld, .int 0, .ref apair, .ref astep, .int 0, .int 0, .int (-1), .int 0, .int 0, .ref asize])), (atold, .inl (kI, 60, .inl zTold))] s.heap.size = A at hD hE ⊢
  have hA : ∀ q : Nat, s.heap.size ≤ q → A q := fun q h => by rw [← hAe]; exact Or.inr h
  have hS : va_S A s.heap s.heap [] := va_S.rf
  have hP : va_P (dC, dI) vwCl [(aroom, .inr (9, [.ref asort, .ref anod, .ref atold, .int 3, .ref aheld, .int 0, .ref apair, .ref astep, .int 0, .int 0, .int (-1), .int 0, .int 0, .ref asize])), (atold, .inl (kI, 60, .inl zTold))] s.heap := hP
  have hl := lv_entry ([.ref aroom, .int 4]) (n := 2) (Nat.le_of_ble_eq_true rfl)
  rw [lg_entry_eq]
  generalize (lg_sl ([.ref aroom, .int 4]) ++ List.replicate (2 - (lg_sl ([.ref aroom, .int 4])).length) Slot.unset).toArray = ls at hl ⊢
  have hl : lv_has ls 2 [(0, .ref aroom), (1, .int 4)] := hl
  have in_RX7 : ∀ w ∈ u_ws RX7 TX7 14, w ∈ w_c_R_tell_4 := by decide +kernel
  refine lv_aload_n hx hb dX7_tell_0 rfl (lv_at hl 0 rfl) ?_
  refine va_get (D := (dC, dI)) (ci := 9) (v := .int 3) (C := RX7) (T := TX7) (N := 14) hx hb hts in_RX7 hown hK hP 0 rfl rfl 3 (by decide) (hts (.fieldLink RX7 29 "Hornbook$Room" "tellings" "I") (by decide +kernel)) (fun _ h9 => h9) rfl dX7_tell_1 ?_
  refine lv_aload_n hx hb dX7_tell_4 rfl (lv_at hl 0 rfl) ?_
  refine va_get (D := (dC, dI)) (ci := 9) (v := .ref atold) (C := RX7) (T := TX7) (N := 14) hx hb hts in_RX7 hown hK hP 0 rfl rfl 2 (by decide) (hts (.fieldLink RX7 25 "Hornbook$Room" "told" "[I") (by decide +kernel)) (fun _ h9 => h9) rfl dX7_tell_5 ?_
  refine va_alen (D := (dC, dI)) (v := 60) hx hb hK hP 1 0 rfl rfl rfl dX7_tell_8 ?_
  refine lv_icmp_lt (tgt := 14) hx hb dX7_tell_9 (by decide) (fun c_1 => ?_) (fun c_1 => ?_)
  rotate_left
  · exact absurd (by decide) c_1
  refine lv_aload_n hx hb dX7_tell_14 rfl (lv_at hl 0 rfl) ?_
  refine va_get (D := (dC, dI)) (ci := 9) (v := .ref atold) (C := RX7) (T := TX7) (N := 14) hx hb hts in_RX7 hown hK hP 0 rfl rfl 2 (by decide) (hts (.fieldLink RX7 25 "Hornbook$Room" "told" "[I") (by decide +kernel)) (fun _ h9 => h9) rfl dX7_tell_15 ?_
  refine lv_aload_n hx hb dX7_tell_18 rfl (lv_at hl 0 rfl) ?_
  refine va_get (D := (dC, dI)) (ci := 9) (v := .int 3) (C := RX7) (T := TX7) (N := 14) hx hb hts in_RX7 hown hK hP 0 rfl rfl 3 (by decide) (hts (.fieldLink RX7 29 "Hornbook$Room" "tellings" "I") (by decide +kernel)) (fun _ h9 => h9) rfl dX7_tell_19 ?_
  refine lv_iload_n hx hb dX7_tell_22 rfl (lv_at hl 1 rfl) ?_
  refine va_iast (D := (dC, dI)) hx hb hK hP hD hS 1 0 rfl rfl (by unfold vp_in; decide) dX7_tell_23 (fun H locs hP hD hS => ?_)
  have hP : va_P (dC, dI) vwCl [(aroom, .inr (9, [.ref asort, .ref anod, .ref atold, .int 3, .ref aheld, .int 0, .ref apair, .ref astep, .int 0, .int 0, .int (-1), .int 0, .int 0, .ref asize])), (atold, .inl (kI, 60, .inl (upd zTold (3 : Int32).toNatClampNeg 4)))] H := hP
  have hD : va_D A [(aroom, .inr (9, [.ref asort, .ref anod, .ref atold, .int 3, .ref aheld, .int 0, .ref apair, .ref astep, .int 0, .int 0, .int (-1), .int 0, .int 0, .ref asize])), (atold, .inl (kI, 60, .inl (upd zTold (3 : Int32).toNatClampNeg 4)))] := hD
  refine lv_aload_n hx hb dX7_tell_24 rfl (lv_at hl 0 rfl) ?_
  refine lv_dup hx hb dX7_tell_25 rfl ?_
  refine va_get (D := (dC, dI)) (ci := 9) (v := .int 3) (C := RX7) (T := TX7) (N := 14) hx hb hts in_RX7 hown hK hP 0 rfl rfl 3 (by decide) (hts (.fieldLink RX7 29 "Hornbook$Room" "tellings" "I") (by decide +kernel)) (fun _ h9 => h9) rfl dX7_tell_26 ?_
  refine lv_iconst (v := 1) hx hb dX7_tell_29 (by decide) ?_
  refine lv_iadd hx hb dX7_tell_30 ?_
  refine z_top (v' := .int 4) (congrArg Value.int (by decide)) ?_
  refine va_put (D := (dC, dI)) (ci := 9) (v := .int 4) (ty := .int) (C := RX7) (T := TX7) (N := 14) hx hb hts in_RX7 tyX7 tyX7_ok nmX7 hown hK hP hD hS 0 rfl rfl 3 (by decide) (hts (.fieldLink RX7 29 "Hornbook$Room" "tellings" "I") (by decide +kernel)) (fun _ h9 => h9) rfl (by decide +kernel) rfl rfl (Nat.le_of_ble_eq_true rfl) dX7_tell_31 (fun H locs hP hD hS => ?_)
  have hP : va_P (dC, dI) vwCl [(aroom, .inr (9, [.ref asort, .ref anod, .ref atold, .int 4, .ref aheld, .int 0, .ref apair, .ref astep, .int 0, .int 0, .int (-1), .int 0, .int 0, .ref asize])), (atold, .inl (kI, 60, .inl (upd zTold (3 : Int32).toNatClampNeg 4)))] H := hP
  have hD : va_D A [(aroom, .inr (9, [.ref asort, .ref anod, .ref atold, .int 4, .ref aheld, .int 0, .ref apair, .ref astep, .int 0, .int 0, .int (-1), .int 0, .int 0, .ref asize])), (atold, .inl (kI, 60, .inl (upd zTold (3 : Int32).toNatClampNeg 4)))] := hD
  refine lv_aload_n hx hb dX7_tell_34 rfl (lv_at hl 0 rfl) ?_
  refine va_get (D := (dC, dI)) (ci := 9) (v := .int 4) (C := RX7) (T := TX7) (N := 14) hx hb hts in_RX7 hown hK hP 0 rfl rfl 3 (by decide) (hts (.fieldLink RX7 29 "Hornbook$Room" "tellings" "I") (by decide +kernel)) (fun _ h9 => h9) rfl dX7_tell_35 ?_
  refine lv_iconst (v := 1) hx hb dX7_tell_38 (by decide) ?_
  refine lv_isub hx hb dX7_tell_39 ?_
  refine z_top (v' := .int 3) (congrArg Value.int (by decide)) ?_
  have hP9 := hP.sub (ws' := [(aroom, .inr (9, [.ref asort, .ref anod, .ref atold, .int 4, .ref aheld, .int 0, .ref apair, .ref astep, .int 0, .int 0, .int (-1), .int 0, .int 0, .ref asize]))]) [0] rfl
  have hD9 := hD.sub (ws' := [(aroom, .inr (9, [.ref asort, .ref anod, .ref atold, .int 4, .ref aheld, .int 0, .ref apair, .ref astep, .int 0, .int 0, .int (-1), .int 0, .int 0, .ref asize]))]) [0] (by decide) rfl
  have hK9 := hK.sub (tys' := []) [] rfl
  refine W.widen (k := 0) (n := 0) (Nat.le_of_ble_eq_true rfl) (Nat.le_of_ble_eq_true rfl) ?_
  exact W.iret (v := 3) hx hb hr (fun t ht hW => ⟨⟨3, (), rfl, rfl, ⟨by rw [ht]; exact hP9, va_K.moved hW.alike hK9, hD9⟩⟩, hS.F ht⟩) hS.2.2 dX7_tell_40

def wb_c_R_hold : List Cond := []
def w_c_R_hold : List Cond := .code yX7_hold cX7_hold 2 none :: wb_c_R_hold
set_option maxHeartbeats 4000000 in
set_option maxRecDepth 100000 in
theorem c_R_hold (l : Launch) (eD eI : Nat) (ad : Nat → Nat) (dC : Nat → ClassId) (dI : Nat → Nat → Nat) (sz : Nat) (aroom : Nat) (anod : Nat) (asort : Nat) (atold : Nat) (aheld : Nat) (apair : Nat) (astep : Nat) (asize : Nat) (v : Int32) (h1 : v < 16) : Met l yX7_hold w_c_R_hold ({ frames := 0, cells := 0, slots := 0, locals := 0 }) (va_Pc [.ref aroom, .int v] (zPre eD eI ad (dC, dI) [(aroom, .inr (9, [.ref asort, .ref anod, .ref atold, .int 3, .ref aheld, .int 0, .ref apair, .ref astep, .int 0, .int 0, .int (-1), .int 0, .int 0, .ref asize]))] [] sz)) (va_Qv (fun (_ : Unit) => True) (fun (_ : Unit) => zEnd (dC, dI) (va_A [(aroom, .inr (9, [.ref asort, .ref anod, .ref atold, .int 3, .ref aheld, .int 0, .ref apair, .ref astep, .int 0, .int 0, .int (-1), .int 0, .int 0, .ref asize]))] sz) [(aroom, .inr (9, [.ref asort, .ref anod, .ref atold, .int 3, .ref aheld, .int 0, .ref apair, .ref astep, .int 0, .int 0, .int (-1), .int 0, .int 0, .ref asize]))] []) (va_A [(aroom, .inr (9, [.ref asort, .ref anod, .ref atold, .int 3, .ref aheld, .int 0, .ref apair, .ref astep, .int 0, .int 0, .int (-1), .int 0, .int 0, .ref asize]))] sz)) 0 0 (va_A [(aroom, .inr (9, [.ref asort, .ref anod, .ref atold, .int 3, .ref aheld, .int 0, .ref apair, .ref astep, .int 0, .int 0, .int (-1), .int 0, .int 0, .ref asize]))] sz) := by
  refine Met.ofW (cc := cX7_hold) (maxL := 2) (ret := none) (by decide) rfl ?_
  intro p e s m args below meth c s₁ B hml hv
  obtain ⟨rfl, hsz, hP, hK, hD0, hE⟩ := hv
  have hx := B.exec
  have hb := B.bytes
  have hr := B.returns
  have hts := atoms_spec (ws := w_c_R_hold) B.pre
  have hown : s.vm.findClass RX7 = some m.cls := findClass_of_methodNamed B.named
  have hlocks := B.notSynchronized
  subst hsz
  have hD := hD0.self (sz := s.heap.size)
  generalize hAe : va_A [(aroom, .inr (9, [.ref asort, .ref anod, .ref atold, .int 3, .ref aheld, .int 0, .ref apair, .ref astep, .int 0, .int 0, .int (-1), .int 0, .int 0, .ref asize]))] s.heap.size = A at hD hE ⊢
  have hA : ∀ q : Nat, s.heap.size ≤ q → A q := fun q h => by rw [← hAe]; exact Or.inr h
  have hS : va_S A s.heap s.heap [] := va_S.rf
  have hP : va_P (dC, dI) vwCl [(aroom, .inr (9, [.ref asort, .ref anod, .ref atold, .int 3, .ref aheld, .int 0, .ref apair, .ref astep, .int 0, .int 0, .int (-1), .int 0, .int 0, .ref asize]))] s.heap := hP
  have hl := lv_entry ([.ref aroom, .int v]) (n := 2) (Nat.le_of_ble_eq_true rfl)
  rw [lg_entry_eq]
  generalize (lg_sl ([.ref aroom, .int v]) ++ List.replicate (2 - (lg_sl ([.ref aroom, .int v])).length) Slot.unset).toArray = ls at hl ⊢
  have hl : lv_has ls 2 [(0, .ref aroom), (1, .int v)] := hl
  refine lv_iload_n hx hb dX7_hold_0 rfl (lv_at hl 1 rfl) ?_
  refine lv_bipush (v := 16) hx hb dX7_hold_1 (by decide) ?_
  refine lv_icmp_ge (tgt := 7) hx hb dX7_hold_3 (by decide) (fun c_1 => ?_) (fun c_1 => ?_)
  · exact absurd c_1 ((Int32.not_le.mpr h1))
  have hP9 := hP.sub (ws' := [(aroom, .inr (9, [.ref asort, .ref anod, .ref atold, .int 3, .ref aheld, .int 0, .ref apair, .ref astep, .int 0, .int 0, .int (-1), .int 0, .int 0, .ref asize]))]) [0] rfl
  have hD9 := hD.sub (ws' := [(aroom, .inr (9, [.ref asort, .ref anod, .ref atold, .int 3, .ref aheld, .int 0, .ref apair, .ref astep, .int 0, .int 0, .int (-1), .int 0, .int 0, .ref asize]))]) [0] (by decide) rfl
  have hK9 := hK.sub (tys' := []) [] rfl
  refine W.widen (k := 0) (n := 0) (Nat.le_of_ble_eq_true rfl) (Nat.le_of_ble_eq_true rfl) ?_
  exact W.vret hx hb hr (fun t ht hW => ⟨⟨(), rfl, trivial, ⟨by rw [ht]; exact hP9, va_K.moved hW.alike hK9, hD9⟩⟩, hS.F ht⟩) hS.2.2 dX7_hold_6

def wb_c_R_letGo : List Cond := [.fieldLink RX7 36 "Hornbook$Room" "holding" "I", .methodLink RX7 78 Lib.Math.max.name, .static Lib.Math.max.name, .initialized "java/lang/Math", .code Lib.Math.max.name Lib.Math.max.code 2 (some .int), .methodLink RX7 84 Lib.Math.min.name, .static Lib.Math.min.name, .code Lib.Math.min.name Lib.Math.min.code 2 (some .int)] ++ u_ws RX7 TX7 14
def w_c_R_letGo : List Cond := .code yX7_letGo cX7_letGo 2 none :: wb_c_R_letGo
set_option maxHeartbeats 4000000 in
set_option maxRecDepth 100000 in
theorem c_R_letGo (l : Launch) (eD eI : Nat) (ad : Nat → Nat) (dC : Nat → ClassId) (dI : Nat → Nat → Nat) (sz : Nat) (aroom : Nat) (anod : Nat) (asort : Nat) (atold : Nat) (aheld : Nat) (apair : Nat) (astep : Nat) (asize : Nat) (v : Int32) : Met l yX7_letGo w_c_R_letGo ({ frames := 1, cells := 0, slots := 0, locals := 15 }) (va_Pc [.ref aroom, .int 0] (zPre eD eI ad (dC, dI) [(aroom, .inr (9, [.ref asort, .ref anod, .ref atold, .int 3, .ref aheld, .int 0, .ref apair, .ref astep, .int 0, .int 0, .int v, .int 0, .int 0, .ref asize]))] [] sz)) (va_Qv (fun (_ : Unit) => True) (fun (_ : Unit) => zEnd (dC, dI) (va_A [(aroom, .inr (9, [.ref asort, .ref anod, .ref atold, .int 3, .ref aheld, .int 0, .ref apair, .ref astep, .int 0, .int 0, .int v, .int 0, .int 0, .ref asize]))] sz) [(aroom, .inr (9, [.ref asort, .ref anod, .ref atold, .int 3, .ref aheld, .int 0, .ref apair, .ref astep, .int 0, .int 0, .int v, .int 0, .int 0, .ref asize]))] []) (va_A [(aroom, .inr (9, [.ref asort, .ref anod, .ref atold, .int 3, .ref aheld, .int 0, .ref apair, .ref astep, .int 0, .int 0, .int v, .int 0, .int 0, .ref asize]))] sz)) 0 0 (va_A [(aroom, .inr (9, [.ref asort, .ref anod, .ref atold, .int 3, .ref aheld, .int 0, .ref apair, .ref astep, .int 0, .int 0, .int v, .int 0, .int 0, .ref asize]))] sz) := by
  refine Met.ofW (cc := cX7_letGo) (maxL := 2) (ret := none) (by decide) rfl ?_
  intro p e s m args below meth c s₁ B hml hv
  obtain ⟨rfl, hsz, hP, hK, hD0, hE⟩ := hv
  have hx := B.exec
  have hb := B.bytes
  have hr := B.returns
  have hts := atoms_spec (ws := w_c_R_letGo) B.pre
  have hown : s.vm.findClass RX7 = some m.cls := findClass_of_methodNamed B.named
  have hlocks := B.notSynchronized
  subst hsz
  have hD := hD0.self (sz := s.heap.size)
  generalize hAe : va_A [(aroom, .inr (9, [.ref asort, .ref anod, .ref atold, .int 3, .ref aheld, .int 0, .ref apair, .ref astep, .int 0, .int 0, .int v, .int 0, .int 0, .ref asize]))] s.heap.size = A at hD hE ⊢
  have hA : ∀ q : Nat, s.heap.size ≤ q → A q := fun q h => by rw [← hAe]; exact Or.inr h
  have hS : va_S A s.heap s.heap [] := va_S.rf
  have hP : va_P (dC, dI) vwCl [(aroom, .inr (9, [.ref asort, .ref anod, .ref atold, .int 3, .ref aheld, .int 0, .ref apair, .ref astep, .int 0, .int 0, .int v, .int 0, .int 0, .ref asize]))] s.heap := hP
  have hl := lv_entry ([.ref aroom, .int 0]) (n := 2) (Nat.le_of_ble_eq_true rfl)
  rw [lg_entry_eq]
  generalize (lg_sl ([.ref aroom, .int 0]) ++ List.replicate (2 - (lg_sl ([.ref aroom, .int 0])).length) Slot.unset).toArray = ls at hl ⊢
  have hl : lv_has ls 2 [(0, .ref aroom), (1, .int 0)] := hl
  have in_RX7 : ∀ w ∈ u_ws RX7 TX7 14, w ∈ w_c_R_letGo := by decide +kernel
  refine lv_aload_n hx hb dX7_letGo_0 rfl (lv_at hl 0 rfl) ?_
  refine lv_aload_n hx hb dX7_letGo_1 rfl (lv_at hl 0 rfl) ?_
  refine va_get (D := (dC, dI)) (ci := 9) (v := .int 0) (C := RX7) (T := TX7) (N := 14) hx hb hts in_RX7 hown hK hP 0 rfl rfl 5 (by decide) (hts (.fieldLink RX7 36 "Hornbook$Room" "holding" "I") (by decide +kernel)) (fun _ h9 => h9) rfl dX7_letGo_2 ?_
  refine lv_iload_n hx hb dX7_letGo_5 rfl (lv_at hl 1 rfl) ?_
  refine lv_iconst (v := 0) hx hb dX7_letGo_6 (by decide) ?_
  refine va_mmax hx hb (hml.trans hl.1.symm) hown (hts (.methodLink RX7 78 Lib.Math.max.name) (by decide +kernel)) (hts (.static Lib.Math.max.name) (by decide +kernel)) (hts (.initialized "java/lang/Math") (by decide +kernel)) (hts (.code Lib.Math.max.name Lib.Math.max.code 2 (some .int)) (by decide +kernel)) (Nat.le_of_ble_eq_true rfl) (Nat.le_of_ble_eq_true rfl) (Nat.le_of_ble_eq_true rfl) (Nat.le_of_ble_eq_true rfl) dX7_letGo_7 ?_
  refine z_top (v' := .int 0) (congrArg Value.int (by decide)) ?_
  refine va_mmin hx hb (hml.trans hl.1.symm) hown (hts (.methodLink RX7 84 Lib.Math.min.name) (by decide +kernel)) (hts (.static Lib.Math.min.name) (by decide +kernel)) (hts (.initialized "java/lang/Math") (by decide +kernel)) (hts (.code Lib.Math.min.name Lib.Math.min.code 2 (some .int)) (by decide +kernel)) (Nat.le_of_ble_eq_true rfl) (Nat.le_of_ble_eq_true rfl) (Nat.le_of_ble_eq_true rfl) (Nat.le_of_ble_eq_true rfl) dX7_letGo_10 ?_
  refine z_top (v' := .int 0) (congrArg Value.int (by decide)) ?_
  refine va_put (D := (dC, dI)) (ci := 9) (v := .int 0) (ty := .int) (C := RX7) (T := TX7) (N := 14) hx hb hts in_RX7 tyX7 tyX7_ok nmX7 hown hK hP hD hS 0 rfl rfl 5 (by decide) (hts (.fieldLink RX7 36 "Hornbook$Room" "holding" "I") (by decide +kernel)) (fun _ h9 => h9) rfl (by decide +kernel) rfl rfl (Nat.le_of_ble_eq_true rfl) dX7_letGo_13 (fun H locs hP hD hS => ?_)
  have hP : va_P (dC, dI) vwCl [(aroom, .inr (9, [.ref asort, .ref anod, .ref atold, .int 3, .ref aheld, .int 0, .ref apair, .ref astep, .int 0, .int 0, .int v, .int 0, .int 0, .ref asize]))] H := hP
  have hD : va_D A [(aroom, .inr (9, [.ref asort, .ref anod, .ref atold, .int 3, .ref aheld, .int 0, .ref apair, .ref astep, .int 0, .int 0, .int v, .int 0, .int 0, .ref asize]))] := hD
  have hP9 := hP.sub (ws' := [(aroom, .inr (9, [.ref asort, .ref anod, .ref atold, .int 3, .ref aheld, .int 0, .ref apair, .ref astep, .int 0, .int 0, .int v, .int 0, .int 0, .ref asize]))]) [0] rfl
  have hD9 := hD.sub (ws' := [(aroom, .inr (9, [.ref asort, .ref anod, .ref atold, .int 3, .ref aheld, .int 0, .ref apair, .ref astep, .int 0, .int 0, .int v, .int 0, .int 0, .ref asize]))]) [0] (by decide) rfl
  have hK9 := hK.sub (tys' := []) [] rfl
  refine W.widen (k := 0) (n := 0) (Nat.le_of_ble_eq_true rfl) (Nat.le_of_ble_eq_true rfl) ?_
  exact W.vret hx hb hr (fun t ht hW => ⟨⟨(), rfl, trivial, ⟨by rw [ht]; exact hP9, va_K.moved hW.alike hK9, hD9⟩⟩, hS.F ht⟩) hS.2.2 dX7_letGo_16

def wb_c_R_open : List Cond := [.fieldLink RX7 49 "Hornbook$Room" "asking" "I", .fieldLink RX7 46 "Hornbook$Room" "steps" "Ljava/util/ArrayList;", .code yJx4a65c_size_8abf5 cJx4a65c_size_8abf5 1 (some .int), .fieldLink RJx4a65c 48 "java/util/ArrayList" "size" "I", .methodLink RX7 139 yJx4a65c_size_8abf5, .instanceMethod yJx4a65c_size_8abf5, .selects RJx4a65c yJx4a65c_size_8abf5 yJx4a65c_size_8abf5, .initialized RJx4a65c, .classLink RX7 147 RX10, .instantiable RX10 14, .initialized RX10, .code yX10_init cX10_init 1 none, .methodLink RX10 1 objectInit, .instanceMethod objectInit, .code objectInit ⟨#[0xb1]⟩ 1 none, .instanceMethod yX10_init, .code yJx4a65c_add_9ea2d cJx4a65c_add_9ea2d 2 (some .boolean), .sameField "java/util/ArrayList" "java/util/AbstractList" "modCount" "I", .fieldLink RJx4a65c 63 "java/util/ArrayList" "modCount" "I", .fieldLink RJx4a65c 9 "java/util/ArrayList" "elementData" "[Ljava/lang/Object;", .code yJx4a65c_add_72be8 cJx4a65c_add_72be8 4 none, .code yJx4a65c_grow_d5877 cJx4a65c_grow_d5877 1 (some (.array (.object "java/lang/Object"))), .code yJx4a65c_grow_92f84 cJx4a65c_grow_92f84 4 (some (.array (.object "java/lang/Object"))), .fieldLink RJx4a65c 39 "java/util/ArrayList" "DEFAULTCAPACITY_EMPTY_ELEMENTDATA" "[Ljava/lang/Object;", .methodLink RJx4a65c 79 Lib.Math.max.name, .static Lib.Math.max.name, .initialized "java/lang/Math", .code Lib.Math.max.name Lib.Math.max.code 2 (some .int), .classLink RJx4a65c 7 "java/lang/Object", .methodLink RJx4a65c 69 yJx4a65c_grow_92f84, .instanceMethod yJx4a65c_grow_92f84, .selects RJx4a65c yJx4a65c_grow_92f84 yJx4a65c_grow_92f84, .methodLink RJx4a65c 129 yJx4a65c_grow_d5877, .instanceMethod yJx4a65c_grow_d5877, .selects RJx4a65c yJx4a65c_grow_d5877 yJx4a65c_grow_d5877, .methodLink RJx4a65c 131 yJx4a65c_add_72be8, .instanceMethod yJx4a65c_add_72be8, .selects RJx4a65c yJx4a65c_add_72be8 yJx4a65c_add_72be8, .methodLink RX7 239 yJx4a65c_add_9ea2d, .instanceMethod yJx4a65c_add_9ea2d, .selects RJx4a65c yJx4a65c_add_9ea2d yJx4a65c_add_9ea2d, .code yJx4a65c_get_915e3 cJx4a65c_get_915e3 2 (some (.object "java/lang/Object")), .code yJ15_checkIndex_7cf53 cJ15_checkIndex_7cf53 2 (some .int), .code yJ3_checkIndex_8e157 cJ3_checkIndex_8e157 3 (some .int), .methodLink RJ15 105 yJ3_checkIndex_8e157, .static yJ3_checkIndex_8e157, .initialized RJ3, .methodLink RJx4a65c 118 yJ15_checkIndex_7cf53, .static yJ15_checkIndex_7cf53, .initialized RJ15, .code yJx4a65c_elementData_915e3 cJx4a65c_elementData_915e3 2 (some (.object "java/lang/Object")), .methodLink RJx4a65c 123 yJx4a65c_elementData_915e3, .instanceMethod yJx4a65c_elementData_915e3, .selects RJx4a65c yJx4a65c_elementData_915e3 yJx4a65c_elementData_915e3, .methodLink RX7 143 yJx4a65c_get_915e3, .instanceMethod yJx4a65c_get_915e3, .selects RJx4a65c yJx4a65c_get_915e3 yJx4a65c_get_915e3, .classLink RX7 147 "Hornbook$Step", .fieldLink RX7 155 "Hornbook$Step" "kind" "I", .fieldLink RX7 149 "Hornbook$Step" "self" "I", .fieldLink RX7 152 "Hornbook$Step" "a" "I", .fieldLink RX7 158 "Hornbook$Step" "b" "I", .fieldLink RX7 243 "Hornbook$Step" "wanted" "I", .fieldLink RX7 161 "Hornbook$Step" "x" "I", .fieldLink RX7 164 "Hornbook$Step" "y" "I", .fieldLink RX7 167 "Hornbook$Step" "one" "I", .fieldLink RX7 170 "Hornbook$Step" "other" "I", .fieldLink RX7 246 "Hornbook$Step" "phase" "I", .fieldLink RX7 249 "Hornbook$Step" "place" "I", .fieldLink RX7 252 "Hornbook$Step" "turn" "I", .fieldLink RX7 255 "Hornbook$Step" "isBack" "Z", .fieldLink RX7 258 "Hornbook$Step" "isAnswered" "Z"] ++ u_ws RJx4a65c TJx4a65c 3 ++ u_ws RX10 TX10 14 ++ u_ws RX7 TX7 14
def w_c_R_open : List Cond := .code yX7_open cX7_open 5 none :: wb_c_R_open
set_option maxRecDepth 100000 in
theorem g_c_R_open_0 : GoodIn w_c_R_open (wsV RX7 139 RJx4a65c yJx4a65c_size_8abf5 w_c_AL_size) := goodIn_app (goodIn_of _ (by decide +kernel)) (goodIn_p (big := w_c_R_open) (.code yJx4a65c_size_8abf5 cJx4a65c_size_8abf5 1 (some .int) :: wb_c_AL_size) [3] rfl (by decide +kernel))
set_option maxRecDepth 100000 in
theorem g_c_R_open_1 : GoodIn w_c_R_open (w_c_Step_init) := goodIn_p (big := w_c_R_open) (.code yX10_init cX10_init 1 none :: wb_c_Step_init) [12, 15] rfl (by decide +kernel)
set_option maxRecDepth 100000 in
theorem g_c_R_open_2 : GoodIn w_c_R_open (wsV RX7 239 RJx4a65c yJx4a65c_add_9ea2d w_c_AL_add0) := goodIn_app (goodIn_of _ (by decide +kernel)) (goodIn_p (big := w_c_R_open) (.code yJx4a65c_add_9ea2d cJx4a65c_add_9ea2d 2 (some .boolean) :: wb_c_AL_add0) [17, 21, 22, 23, 28] rfl (by decide +kernel))
set_option maxRecDepth 100000 in
theorem g_c_R_open_3 : GoodIn w_c_R_open (wsV RX7 143 RJx4a65c yJx4a65c_get_915e3 w_c_AL_get) := goodIn_app (goodIn_of _ (by decide +kernel)) (goodIn_p (big := w_c_R_open) (.code yJx4a65c_get_915e3 cJx4a65c_get_915e3 2 (some (.object "java/lang/Object")) :: wb_c_AL_get) [42, 43, 44, 51] rfl (by decide +kernel))
set_option maxHeartbeats 4000000 in
set_option maxRecDepth 100000 in
theorem c_R_open (l : Launch) (eD eI : Nat) (ad : Nat → Nat) (dC : Nat → ClassId) (dI : Nat → Nat → Nat) (sz : Nat) (aroom : Nat) (anod : Nat) (asort : Nat) (atold : Nat) (aheld : Nat) (apair : Nat) (astep : Nat) (asize : Nat) (x1 : Int32) (x2 : Int32) (x3 : Int32) (v : Int32) (w : Int32) : Met l yX7_open w_c_R_open ({ frames := 5, cells := 2, slots := 24, locals := 101 }) (va_Pc [.ref aroom, .int x1, .int x2, .int x3] (zPre eD eI ad (dC, dI) [(aroom, .inr (9, [.ref asort, .ref anod, .ref atold, .int 3, .ref aheld, .int 0, .ref apair, .ref astep, .int 0, .int 0, .int (-1), .int w, .int v, .ref asize])), (astep, .inr (1, [.int 0, .ref eD, .int 0]))] [] sz)) (va_Qv (fun (u : Int32 × Nat × ClassId × Nat) => match u with | (sc, aq, kS, sp) => True) (fun (u : Int32 × Nat × ClassId × Nat) => match u with | (sc, aq, kS, sp) => zEnd (dC, dI) (va_A [(aroom, .inr (9, [.ref asort, .ref anod, .ref atold, .int 3, .ref aheld, .int 0, .ref apair, .ref astep, .int 0, .int 0, .int (-1), .int w, .int v, .ref asize])), (astep, .inr (1, [.int 0, .ref eD, .int 0]))] sz) [(aroom, .inr (9, [.ref asort, .ref anod, .ref atold, .int 3, .ref aheld, .int 0, .ref apair, .ref astep, .int 1, .int 0, .int (-1), .int w, .int v, .ref asize])), (astep, .inr (1, [.int sc, .ref aq, .int 1])), (aq, .inl (kS, 10, .inr (.inr (.inr (.inr (va_up (fun _ => none) (0 : Int32).toNatClampNeg (some sp))))))), (sp, .inr (12, [.int x1, .int (-1), .int x2, .int x3, .int x3, .int (-1), .int (-1), .int 0, .int 0, .int 0, .int 0, .int 0, .int 0, .int 0]))] [(kS, .object "java/lang/Object")]) (va_A [(aroom, .inr (9, [.ref asort, .ref anod, .ref atold, .int 3, .ref aheld, .int 0, .ref apair, .ref astep, .int 0, .int 0, .int (-1), .int w, .int v, .ref asize])), (astep, .inr (1, [.int 0, .ref eD, .int 0]))] sz)) 2 24 (va_A [(aroom, .inr (9, [.ref asort, .ref anod, .ref atold, .int 3, .ref aheld, .int 0, .ref apair, .ref astep, .int 0, .int 0, .int (-1), .int w, .int v, .ref asize])), (astep, .inr (1, [.int 0, .ref eD, .int 0]))] sz) := by
  refine Met.ofW (cc := cX7_open) (maxL := 5) (ret := none) (by decide) rfl ?_
  intro p e s m args below meth c s₁ B hml hv
  obtain ⟨rfl, hsz, hP, hK, hD0, hE⟩ := hv
  have hx := B.exec
  have hb := B.bytes
  have hr := B.returns
  have hts := atoms_spec (ws := w_c_R_open) B.pre
  have hown : s.vm.findClass RX7 = some m.cls := findClass_of_methodNamed B.named
  have hlocks := B.notSynchronized
  subst hsz
  have hD := hD0.self (sz := s.heap.size)
  generalize hAe : va_A [(aroom, .inr (9, [.ref asort, .ref anod, .ref atold, .int 3, .ref aheld, .int 0, .ref apair, .ref astep, .int 0, .int 0, .int (-1), .int w, .int v, .ref asize])), (astep, .inr (1, [.int 0, .ref eD, .int 0]))] s.heap.size = A at hD hE ⊢
  have hA : ∀ q : Nat, s.heap.size ≤ q → A q := fun q h => by rw [← hAe]; exact Or.inr h
  have hS : va_S A s.heap s.heap [] := va_S.rf
  have hP : va_P (dC, dI) vwCl [(aroom, .inr (9, [.ref asort, .ref anod, .ref atold, .int 3, .ref aheld, .int 0, .ref apair, .ref astep, .int 0, .int 0, .int (-1), .int w, .int v, .ref asize])), (astep, .inr (1, [.int 0, .ref eD, .int 0]))] s.heap := hP
  have hl := lv_entry ([.ref aroom, .int x1, .int x2, .int x3]) (n := 5) (Nat.le_of_ble_eq_true rfl)
  rw [lg_entry_eq]
  generalize (lg_sl ([.ref aroom, .int x1, .int x2, .int x3]) ++ List.replicate (5 - (lg_sl ([.ref aroom, .int x1, .int x2, .int x3])).length) Slot.unset).toArray = ls at hl ⊢
  have hl : lv_has ls 5 [(0, .ref aroom), (1, .int x1), (2, .int x2), (3, .int x3)] := hl
  have in_RJx4a65c : ∀ w ∈ u_ws RJx4a65c TJx4a65c 3, w ∈ w_c_R_open := by decide +kernel
  have in_RX10 : ∀ w ∈ u_ws RX10 TX10 14, w ∈ w_c_R_open := by decide +kernel
  have in_RX7 : ∀ w ∈ u_ws RX7 TX7 14, w ∈ w_c_R_open := by decide +kernel
  refine lv_aload_n hx hb dX7_open_0 rfl (lv_at hl 0 rfl) ?_
  refine va_get (D := (dC, dI)) (ci := 9) (v := .int 0) (C := RX7) (T := TX7) (N := 14) hx hb hts in_RX7 hown hK hP 0 rfl rfl 8 (by decide) (hts (.fieldLink RX7 49 "Hornbook$Room" "asking" "I") (by decide +kernel)) (fun _ h9 => h9) rfl dX7_open_1 ?_
  refine lv_aload_n hx hb dX7_open_4 rfl (lv_at hl 0 rfl) ?_
  refine va_get (D := (dC, dI)) (ci := 9) (v := .ref astep) (C := RX7) (T := TX7) (N := 14) hx hb hts in_RX7 hown hK hP 0 rfl rfl 7 (by decide) (hts (.fieldLink RX7 46 "Hornbook$Room" "steps" "Ljava/util/ArrayList;") (by decide +kernel)) (fun _ h9 => h9) rfl dX7_open_5 ?_
  refine z_i (wr := [(aroom, .inr (9, [.ref asort, .ref anod, .ref atold, .int 3, .ref aheld, .int 0, .ref apair, .ref astep, .int 0, .int 0, .int (-1), .int w, .int v, .ref asize]))]) (va_runV (As := []) (rest := [.int 0]) ⟨hx, hb, hml, hown, hts⟩ (c_AL_size l eD eI ad dC dI s.heap.size astep ((.int 0)) ((.ref eD)) 0) (cwV 0 hts g_c_R_open_0 rfl rfl rfl (by decide +kernel) ⟨Nat.le_of_ble_eq_true rfl, Nat.le_of_ble_eq_true rfl⟩) (z_preV (wc := [(astep, .inr (1, [.int 0, .ref eD, .int 0]))]) hP hD hK hS hA hE [1] [] rfl (by decide) rfl (ci := 1) (q0 := 0) rfl rfl) rfl rfl hl.1 rfl (lv_room (Nat.le_of_ble_eq_true rfl)) dX7_open_8 ⟨Nat.le_of_ble_eq_true rfl, Nat.le_of_ble_eq_true rfl⟩) hP hD hK hS hA [1] [0] rfl rfl (by decide) (by decide) (fun r_1 u H locs hw_2 hP hD hK hS => ?_)
  obtain ⟨⟩ := u
  have hP : va_P (dC, dI) vwCl [(aroom, .inr (9, [.ref asort, .ref anod, .ref atold, .int 3, .ref aheld, .int 0, .ref apair, .ref astep, .int 0, .int 0, .int (-1), .int w, .int v, .ref asize])), (astep, .inr (1, [.int 0, .ref eD, .int 0]))] H := hP
  have hD : va_D A [(aroom, .inr (9, [.ref asort, .ref anod, .ref atold, .int 3, .ref aheld, .int 0, .ref apair, .ref astep, .int 0, .int 0, .int (-1), .int w, .int v, .ref asize])), (astep, .inr (1, [.int 0, .ref eD, .int 0]))] := hD
  have hK : va_K (dC, dI) vwCl [] s := by simpa using hK
  have hw_2 : r_1 = 0 := hw_2
  have hw_2 := hw_2.symm
  subst hw_2
  refine lv_icmp_lt (tgt := 29) hx hb dX7_open_11 (by decide) (fun c_3 => ?_) (fun c_3 => ?_)
  · exact absurd c_3 (by decide)
  refine lv_aload_n hx hb dX7_open_14 rfl (lv_at hl 0 rfl) ?_
  refine va_get (D := (dC, dI)) (ci := 9) (v := .ref astep) (C := RX7) (T := TX7) (N := 14) hx hb hts in_RX7 hown hK hP 0 rfl rfl 7 (by decide) (hts (.fieldLink RX7 46 "Hornbook$Room" "steps" "Ljava/util/ArrayList;") (by decide +kernel)) (fun _ h9 => h9) rfl dX7_open_15 ?_
  refine va_new (ci := 12) (fs := [.int 0, .int 0, .int 0, .int 0, .int 0, .int 0, .int 0, .int 0, .int 0, .int 0, .int 0, .int 0, .int 0, .int 0]) (C := RX10) (T := TX10) (N := 14) hx hb hts in_RX10 tyX10 tyX10_ok hown (hts (.classLink RX7 147 RX10) (by decide +kernel)) (hts (.instantiable RX10 14) (by decide +kernel)) (hts (.initialized RX10) (by decide +kernel)) hK hP hD hS hA rfl (fun j hj => by rcases (show j = 0 ∨ j = 1 ∨ j = 2 ∨ j = 3 ∨ j = 4 ∨ j = 5 ∨ j = 6 ∨ j = 7 ∨ j = 8 ∨ j = 9 ∨ j = 10 ∨ j = 11 ∨ j = 12 ∨ j = 13 by omega) with rfl | rfl | rfl | rfl | rfl | rfl | rfl | rfl | rfl | rfl | rfl | rfl | rfl | rfl <;> rfl) (Nat.le_of_ble_eq_true rfl) (Nat.le_of_ble_eq_true rfl) dX7_open_18 (fun q_4 H hP hD hS => ?_)
  have hP : va_P (dC, dI) vwCl [(aroom, .inr (9, [.ref asort, .ref anod, .ref atold, .int 3, .ref aheld, .int 0, .ref apair, .ref astep, .int 0, .int 0, .int (-1), .int w, .int v, .ref asize])), (astep, .inr (1, [.int 0, .ref eD, .int 0])), (q_4, .inr (12, [.int 0, .int 0, .int 0, .int 0, .int 0, .int 0, .int 0, .int 0, .int 0, .int 0, .int 0, .int 0, .int 0, .int 0]))] H := hP
  have hD : va_D A [(aroom, .inr (9, [.ref asort, .ref anod, .ref atold, .int 3, .ref aheld, .int 0, .ref apair, .ref astep, .int 0, .int 0, .int (-1), .int w, .int v, .ref asize])), (astep, .inr (1, [.int 0, .ref eD, .int 0])), (q_4, .inr (12, [.int 0, .int 0, .int 0, .int 0, .int 0, .int 0, .int 0, .int 0, .int 0, .int 0, .int 0, .int 0, .int 0, .int 0]))] := hD
  refine lv_dup hx hb dX7_open_21 rfl ?_
  refine z_v (wr := [(aroom, .inr (9, [.ref asort, .ref anod, .ref atold, .int 3, .ref aheld, .int 0, .ref apair, .ref astep, .int 0, .int 0, .int (-1), .int w, .int v, .ref asize])), (astep, .inr (1, [.int 0, .ref eD, .int 0]))]) (va_runIN (As := []) (rest := [.ref q_4, .ref astep]) ⟨hx, hb, hml, hown, hts⟩ (c_Step_init l eD eI ad dC dI H.size q_4 ((.int 0)) ((.int 0)) ((.int 0)) ((.int 0)) ((.int 0)) ((.int 0)) ((.int 0)) ((.int 0)) ((.int 0)) ((.int 0)) ((.int 0)) ((.int 0)) ((.int 0)) ((.int 0))) (⟨va_cnB 0 hts g_c_R_open_1 rfl rfl rfl (hE.2.2.1 (.methodLinkNest RX7 238 yX10_init "Hornbook") (by decide +kernel)) (hts (.initialized RX10) (by decide +kernel)) (by decide +kernel) ⟨Nat.le_of_ble_eq_true rfl, Nat.le_of_ble_eq_true rfl⟩, rfl, (hts (.instanceMethod yX10_init) (by decide +kernel))⟩) (z_preS (wc := [(q_4, .inr (12, [.int 0, .int 0, .int 0, .int 0, .int 0, .int 0, .int 0, .int 0, .int 0, .int 0, .int 0, .int 0, .int 0, .int 0]))]) hP hD hK hS hA hE [2] [] rfl (by decide) rfl) rfl rfl hl.1 rfl (lv_room (Nat.le_of_ble_eq_true rfl)) dX7_open_22 ⟨Nat.le_of_ble_eq_true rfl, Nat.le_of_ble_eq_true rfl⟩) hP hD hK hS hA [2] [0, 1] rfl rfl (by decide) (by decide) (fun u H locs hw_6 hP hD hK hS => ?_)
  obtain ⟨⟩ := u
  have hP : va_P (dC, dI) vwCl [(aroom, .inr (9, [.ref asort, .ref anod, .ref atold, .int 3, .ref aheld, .int 0, .ref apair, .ref astep, .int 0, .int 0, .int (-1), .int w, .int v, .ref asize])), (astep, .inr (1, [.int 0, .ref eD, .int 0])), (q_4, .inr (12, [.int 0, .int 0, .int 0, .int 0, .int 0, .int 0, .int 0, .int 0, .int 0, .int 0, .int 0, .int 0, .int 0, .int 0]))] H := hP
  have hD : va_D A [(aroom, .inr (9, [.ref asort, .ref anod, .ref atold, .int 3, .ref aheld, .int 0, .ref apair, .ref astep, .int 0, .int 0, .int (-1), .int w, .int v, .ref asize])), (astep, .inr (1, [.int 0, .ref eD, .int 0])), (q_4, .inr (12, [.int 0, .int 0, .int 0, .int 0, .int 0, .int 0, .int 0, .int 0, .int 0, .int 0, .int 0, .int 0, .int 0, .int 0]))] := hD
  have hK : va_K (dC, dI) vwCl [] s := by simpa using hK
  refine z_i (wr := [(aroom, .inr (9, [.ref asort, .ref anod, .ref atold, .int 3, .ref aheld, .int 0, .ref apair, .ref astep, .int 0, .int 0, .int (-1), .int w, .int v, .ref asize]))]) (va_runV (As := [.ref q_4]) (rest := []) ⟨hx, hb, hml, hown, hts⟩ (c_AL_add0 l eD eI ad dC dI H.size astep 0 q_4 12 ((RX10, TX10, 14)) ([.int 0, .int 0, .int 0, .int 0, .int 0, .int 0, .int 0, .int 0, .int 0, .int 0, .int 0, .int 0, .int 0, .int 0]) (rfl) (by decide +kernel)) (cwV 1 hts g_c_R_open_2 rfl rfl rfl (by decide +kernel) ⟨Nat.le_of_ble_eq_true rfl, Nat.le_of_ble_eq_true rfl⟩) (z_preV (wc := [(astep, .inr (1, [.int 0, .ref eD, .int 0])), (q_4, .inr (12, [.int 0, .int 0, .int 0, .int 0, .int 0, .int 0, .int 0, .int 0, .int 0, .int 0, .int 0, .int 0, .int 0, .int 0]))]) hP hD hK hS hA hE [1, 2] [] rfl (by decide) rfl (ci := 1) (q0 := 0) rfl rfl) rfl rfl hl.1 rfl (lv_room (Nat.le_of_ble_eq_true rfl)) dX7_open_25 ⟨Nat.le_of_ble_eq_true rfl, Nat.le_of_ble_eq_true rfl⟩) hP hD hK hS hA [1, 2] [0] rfl rfl (by decide) (by decide) (fun r_10 u H locs hw_11 hP hD hK hS => ?_)
  obtain ⟨u_7, u_8, u_9⟩ := u
  have hP : va_P (dC, dI) vwCl [(aroom, .inr (9, [.ref asort, .ref anod, .ref atold, .int 3, .ref aheld, .int 0, .ref apair, .ref astep, .int 0, .int 0, .int (-1), .int w, .int v, .ref asize])), (astep, .inr (1, [.int u_9, .ref u_7, .int 1])), (q_4, .inr (12, [.int 0, .int 0, .int 0, .int 0, .int 0, .int 0, .int 0, .int 0, .int 0, .int 0, .int 0, .int 0, .int 0, .int 0])), (u_7, .inl (u_8, 10, .inr (.inr (.inr (.inr (va_up (fun _ => none) (0 : Int32).toNatClampNeg (some q_4)))))))] H := hP
  have hD : va_D A [(aroom, .inr (9, [.ref asort, .ref anod, .ref atold, .int 3, .ref aheld, .int 0, .ref apair, .ref astep, .int 0, .int 0, .int (-1), .int w, .int v, .ref asize])), (astep, .inr (1, [.int u_9, .ref u_7, .int 1])), (q_4, .inr (12, [.int 0, .int 0, .int 0, .int 0, .int 0, .int 0, .int 0, .int 0, .int 0, .int 0, .int 0, .int 0, .int 0, .int 0])), (u_7, .inl (u_8, 10, .inr (.inr (.inr (.inr (va_up (fun _ => none) (0 : Int32).toNatClampNeg (some q_4)))))))] := hD
  have hK : va_K (dC, dI) vwCl [(u_8, .object "java/lang/Object")] s := hK
  have hw_11 : r_10 = 1 := hw_11
  have hw_11 := hw_11.symm
  subst hw_11
  refine lv_pop hx hb dX7_open_28 rfl ?_
  refine lv_aload_n hx hb dX7_open_29 rfl (lv_at hl 0 rfl) ?_
  refine va_get (D := (dC, dI)) (ci := 9) (v := .ref astep) (C := RX7) (T := TX7) (N := 14) hx hb hts in_RX7 hown hK hP 0 rfl rfl 7 (by decide) (hts (.fieldLink RX7 46 "Hornbook$Room" "steps" "Ljava/util/ArrayList;") (by decide +kernel)) (fun _ h9 => h9) rfl dX7_open_30 ?_
  refine lv_aload_n hx hb dX7_open_33 rfl (lv_at hl 0 rfl) ?_
  refine va_get (D := (dC, dI)) (ci := 9) (v := .int 0) (C := RX7) (T := TX7) (N := 14) hx hb hts in_RX7 hown hK hP 0 rfl rfl 8 (by decide) (hts (.fieldLink RX7 49 "Hornbook$Room" "asking" "I") (by decide +kernel)) (fun _ h9 => h9) rfl dX7_open_34 ?_
  refine z_q (wr := [(aroom, .inr (9, [.ref asort, .ref anod, .ref atold, .int 3, .ref aheld, .int 0, .ref apair, .ref astep, .int 0, .int 0, .int (-1), .int w, .int v, .ref asize])), (q_4, .inr (12, [.int 0, .int 0, .int 0, .int 0, .int 0, .int 0, .int 0, .int 0, .int 0, .int 0, .int 0, .int 0, .int 0, .int 0]))]) (va_runV (As := [.int 0]) (rest := []) ⟨hx, hb, hml, hown, hts⟩ (c_AL_get l eD eI ad dC dI H.size astep u_7 u_8 ((.int u_9)) 10 ((va_up (fun _ => none) (0 : Int32).toNatClampNeg (some q_4))) 0 1 (by decide) (by decide) ((by unfold vp_in; decide))) (cwV 1 hts g_c_R_open_3 rfl rfl rfl (by decide +kernel) ⟨Nat.le_of_ble_eq_true rfl, Nat.le_of_ble_eq_true rfl⟩) (z_preV (wc := [(astep, .inr (1, [.int u_9, .ref u_7, .int 1])), (u_7, .inl (u_8, 10, .inr (.inr (.inr (.inr (va_up (fun _ => none) (0 : Int32).toNatClampNeg (some q_4)))))))]) hP hD hK hS hA hE [1, 3] [0] rfl (by decide) rfl (ci := 1) (q0 := 0) rfl rfl) rfl rfl hl.1 rfl (lv_room (Nat.le_of_ble_eq_true rfl)) dX7_open_37 ⟨Nat.le_of_ble_eq_true rfl, Nat.le_of_ble_eq_true rfl⟩) hP hD hK hS hA [1, 3] [0, 2] rfl rfl (by decide) (by decide) (fun r_12 u H locs hw_13 hP hD hK hS => ?_)
  obtain ⟨⟩ := u
  have hP : va_P (dC, dI) vwCl [(aroom, .inr (9, [.ref asort, .ref anod, .ref atold, .int 3, .ref aheld, .int 0, .ref apair, .ref astep, .int 0, .int 0, .int (-1), .int w, .int v, .ref asize])), (q_4, .inr (12, [.int 0, .int 0, .int 0, .int 0, .int 0, .int 0, .int 0, .int 0, .int 0, .int 0, .int 0, .int 0, .int 0, .int 0])), (astep, .inr (1, [.int u_9, .ref u_7, .int 1])), (u_7, .inl (u_8, 10, .inr (.inr (.inr (.inr (va_up (fun _ => none) (0 : Int32).toNatClampNeg (some q_4)))))))] H := hP
  have hD : va_D A [(aroom, .inr (9, [.ref asort, .ref anod, .ref atold, .int 3, .ref aheld, .int 0, .ref apair, .ref astep, .int 0, .int 0, .int (-1), .int w, .int v, .ref asize])), (q_4, .inr (12, [.int 0, .int 0, .int 0, .int 0, .int 0, .int 0, .int 0, .int 0, .int 0, .int 0, .int 0, .int 0, .int 0, .int 0])), (astep, .inr (1, [.int u_9, .ref u_7, .int 1])), (u_7, .inl (u_8, 10, .inr (.inr (.inr (.inr (va_up (fun _ => none) (0 : Int32).toNatClampNeg (some q_4)))))))] := hD
  have hK : va_K (dC, dI) vwCl [(u_8, .object "java/lang/Object")] s := by simpa using hK
  have hw_13 : r_12 = ((va_up (fun _ => none) (0 : Int32).toNatClampNeg (some q_4))) (0 : Int32).toNatClampNeg := hw_13
  have hw_13 := hw_13.symm
  subst hw_13
  refine z_top (v' := .ref q_4) (by first | rfl | decide | simp [va_up, va_rf]) ?_
  refine W.eq (g2 := F0 m 40 ls (.ref q_4 :: [])) rfl ?_
  refine va_castS (nm := RX10) hx hb hown (hts (.classLink RX7 147 "Hornbook$Step") (by decide +kernel)) (z_clsAt hK (ci := 12) rfl) (va_recv hK hP (ci := 12) (q0 := 1) rfl rfl) dX7_open_40 ?_
  refine lv_astore (lv' := [(4, .ref q_4), (0, .ref aroom), (1, .int x1), (2, .int x2), (3, .int x3)]) hx hb dX7_open_43 hl (by decide) rfl (fun ls hl => ?_)
  refine lv_aload_n hx hb dX7_open_45 rfl (lv_at hl 1 rfl) ?_
  refine lv_dup hx hb dX7_open_46 rfl ?_
  refine va_get (D := (dC, dI)) (ci := 9) (v := .int 0) (C := RX7) (T := TX7) (N := 14) hx hb hts in_RX7 hown hK hP 0 rfl rfl 8 (by decide) (hts (.fieldLink RX7 49 "Hornbook$Room" "asking" "I") (by decide +kernel)) (fun _ h9 => h9) rfl dX7_open_47 ?_
  refine lv_iconst (v := 1) hx hb dX7_open_50 (by decide) ?_
  refine lv_iadd hx hb dX7_open_51 ?_
  refine z_top (v' := .int 1) (congrArg Value.int (by decide)) ?_
  refine va_put (D := (dC, dI)) (ci := 9) (v := .int 1) (ty := .int) (C := RX7) (T := TX7) (N := 14) hx hb hts in_RX7 tyX7 tyX7_ok nmX7 hown hK hP hD hS 0 rfl rfl 8 (by decide) (hts (.fieldLink RX7 49 "Hornbook$Room" "asking" "I") (by decide +kernel)) (fun _ h9 => h9) rfl (by decide +kernel) rfl rfl (Nat.le_of_ble_eq_true rfl) dX7_open_52 (fun H locs hP hD hS => ?_)
  have hP : va_P (dC, dI) vwCl [(aroom, .inr (9, [.ref asort, .ref anod, .ref atold, .int 3, .ref aheld, .int 0, .ref apair, .ref astep, .int 1, .int 0, .int (-1), .int w, .int v, .ref asize])), (q_4, .inr (12, [.int 0, .int 0, .int 0, .int 0, .int 0, .int 0, .int 0, .int 0, .int 0, .int 0, .int 0, .int 0, .int 0, .int 0])), (astep, .inr (1, [.int u_9, .ref u_7, .int 1])), (u_7, .inl (u_8, 10, .inr (.inr (.inr (.inr (va_up (fun _ => none) (0 : Int32).toNatClampNeg (some q_4)))))))] H := hP
  have hD : va_D A [(aroom, .inr (9, [.ref asort, .ref anod, .ref atold, .int 3, .ref aheld, .int 0, .ref apair, .ref astep, .int 1, .int 0, .int (-1), .int w, .int v, .ref asize])), (q_4, .inr (12, [.int 0, .int 0, .int 0, .int 0, .int 0, .int 0, .int 0, .int 0, .int 0, .int 0, .int 0, .int 0, .int 0, .int 0])), (astep, .inr (1, [.int u_9, .ref u_7, .int 1])), (u_7, .inl (u_8, 10, .inr (.inr (.inr (.inr (va_up (fun _ => none) (0 : Int32).toNatClampNeg (some q_4)))))))] := hD
  refine lv_aload hx hb dX7_open_55 (lv_at hl 0 rfl) ?_
  refine lv_iload_n hx hb dX7_open_57 rfl (lv_at hl 2 rfl) ?_
  refine va_put (D := (dC, dI)) (ci := 12) (v := .int x1) (ty := .int) (C := RX10) (T := TX10) (N := 14) hx hb hts in_RX10 tyX10 tyX10_ok nmX10 hown hK hP hD hS 1 rfl rfl 0 (by decide) (hts (.fieldLink RX7 155 "Hornbook$Step" "kind" "I") (by decide +kernel)) (fun _ h9 => h9) rfl (by decide +kernel) rfl rfl (Nat.le_of_ble_eq_true rfl) dX7_open_58 (fun H locs hP hD hS => ?_)
  have hP : va_P (dC, dI) vwCl [(aroom, .inr (9, [.ref asort, .ref anod, .ref atold, .int 3, .ref aheld, .int 0, .ref apair, .ref astep, .int 1, .int 0, .int (-1), .int w, .int v, .ref asize])), (q_4, .inr (12, [.int x1, .int 0, .int 0, .int 0, .int 0, .int 0, .int 0, .int 0, .int 0, .int 0, .int 0, .int 0, .int 0, .int 0])), (astep, .inr (1, [.int u_9, .ref u_7, .int 1])), (u_7, .inl (u_8, 10, .inr (.inr (.inr (.inr (va_up (fun _ => none) (0 : Int32).toNatClampNeg (some q_4)))))))] H := hP
  have hD : va_D A [(aroom, .inr (9, [.ref asort, .ref anod, .ref atold, .int 3, .ref aheld, .int 0, .ref apair, .ref astep, .int 1, .int 0, .int (-1), .int w, .int v, .ref asize])), (q_4, .inr (12, [.int x1, .int 0, .int 0, .int 0, .int 0, .int 0, .int 0, .int 0, .int 0, .int 0, .int 0, .int 0, .int 0, .int 0])), (astep, .inr (1, [.int u_9, .ref u_7, .int 1])), (u_7, .inl (u_8, 10, .inr (.inr (.inr (.inr (va_up (fun _ => none) (0 : Int32).toNatClampNeg (some q_4)))))))] := hD
  refine lv_aload hx hb dX7_open_61 (lv_at hl 0 rfl) ?_
  refine lv_iconst (v := (-1)) hx hb dX7_open_63 (by decide) ?_
  refine va_put (D := (dC, dI)) (ci := 12) (v := .int (-1)) (ty := .int) (C := RX10) (T := TX10) (N := 14) hx hb hts in_RX10 tyX10 tyX10_ok nmX10 hown hK hP hD hS 1 rfl rfl 1 (by decide) (hts (.fieldLink RX7 149 "Hornbook$Step" "self" "I") (by decide +kernel)) (fun _ h9 => h9) rfl (by decide +kernel) rfl rfl (Nat.le_of_ble_eq_true rfl) dX7_open_64 (fun H locs hP hD hS => ?_)
  have hP : va_P (dC, dI) vwCl [(aroom, .inr (9, [.ref asort, .ref anod, .ref atold, .int 3, .ref aheld, .int 0, .ref apair, .ref astep, .int 1, .int 0, .int (-1), .int w, .int v, .ref asize])), (q_4, .inr (12, [.int x1, .int (-1), .int 0, .int 0, .int 0, .int 0, .int 0, .int 0, .int 0, .int 0, .int 0, .int 0, .int 0, .int 0])), (astep, .inr (1, [.int u_9, .ref u_7, .int 1])), (u_7, .inl (u_8, 10, .inr (.inr (.inr (.inr (va_up (fun _ => none) (0 : Int32).toNatClampNeg (some q_4)))))))] H := hP
  have hD : va_D A [(aroom, .inr (9, [.ref asort, .ref anod, .ref atold, .int 3, .ref aheld, .int 0, .ref apair, .ref astep, .int 1, .int 0, .int (-1), .int w, .int v, .ref asize])), (q_4, .inr (12, [.int x1, .int (-1), .int 0, .int 0, .int 0, .int 0, .int 0, .int 0, .int 0, .int 0, .int 0, .int 0, .int 0, .int 0])), (astep, .inr (1, [.int u_9, .ref u_7, .int 1])), (u_7, .inl (u_8, 10, .inr (.inr (.inr (.inr (va_up (fun _ => none) (0 : Int32).toNatClampNeg (some q_4)))))))] := hD
  refine lv_aload hx hb dX7_open_67 (lv_at hl 0 rfl) ?_
  refine lv_iload_n hx hb dX7_open_69 rfl (lv_at hl 3 rfl) ?_
  refine va_put (D := (dC, dI)) (ci := 12) (v := .int x2) (ty := .int) (C := RX10) (T := TX10) (N := 14) hx hb hts in_RX10 tyX10 tyX10_ok nmX10 hown hK hP hD hS 1 rfl rfl 2 (by decide) (hts (.fieldLink RX7 152 "Hornbook$Step" "a" "I") (by decide +kernel)) (fun _ h9 => h9) rfl (by decide +kernel) rfl rfl (Nat.le_of_ble_eq_true rfl) dX7_open_70 (fun H locs hP hD hS => ?_)
  have hP : va_P (dC, dI) vwCl [(aroom, .inr (9, [.ref asort, .ref anod, .ref atold, .int 3, .ref aheld, .int 0, .ref apair, .ref astep, .int 1, .int 0, .int (-1), .int w, .int v, .ref asize])), (q_4, .inr (12, [.int x1, .int (-1), .int x2, .int 0, .int 0, .int 0, .int 0, .int 0, .int 0, .int 0, .int 0, .int 0, .int 0, .int 0])), (astep, .inr (1, [.int u_9, .ref u_7, .int 1])), (u_7, .inl (u_8, 10, .inr (.inr (.inr (.inr (va_up (fun _ => none) (0 : Int32).toNatClampNeg (some q_4)))))))] H := hP
  have hD : va_D A [(aroom, .inr (9, [.ref asort, .ref anod, .ref atold, .int 3, .ref aheld, .int 0, .ref apair, .ref astep, .int 1, .int 0, .int (-1), .int w, .int v, .ref asize])), (q_4, .inr (12, [.int x1, .int (-1), .int x2, .int 0, .int 0, .int 0, .int 0, .int 0, .int 0, .int 0, .int 0, .int 0, .int 0, .int 0])), (astep, .inr (1, [.int u_9, .ref u_7, .int 1])), (u_7, .inl (u_8, 10, .inr (.inr (.inr (.inr (va_up (fun _ => none) (0 : Int32).toNatClampNeg (some q_4)))))))] := hD
  refine lv_aload hx hb dX7_open_73 (lv_at hl 0 rfl) ?_
  refine lv_iload_n hx hb dX7_open_75 rfl (lv_at hl 4 rfl) ?_
  refine va_put (D := (dC, dI)) (ci := 12) (v := .int x3) (ty := .int) (C := RX10) (T := TX10) (N := 14) hx hb hts in_RX10 tyX10 tyX10_ok nmX10 hown hK hP hD hS 1 rfl rfl 3 (by decide) (hts (.fieldLink RX7 158 "Hornbook$Step" "b" "I") (by decide +kernel)) (fun _ h9 => h9) rfl (by decide +kernel) rfl rfl (Nat.le_of_ble_eq_true rfl) dX7_open_76 (fun H locs hP hD hS => ?_)
  have hP : va_P (dC, dI) vwCl [(aroom, .inr (9, [.ref asort, .ref anod, .ref atold, .int 3, .ref aheld, .int 0, .ref apair, .ref astep, .int 1, .int 0, .int (-1), .int w, .int v, .ref asize])), (q_4, .inr (12, [.int x1, .int (-1), .int x2, .int x3, .int 0, .int 0, .int 0, .int 0, .int 0, .int 0, .int 0, .int 0, .int 0, .int 0])), (astep, .inr (1, [.int u_9, .ref u_7, .int 1])), (u_7, .inl (u_8, 10, .inr (.inr (.inr (.inr (va_up (fun _ => none) (0 : Int32).toNatClampNeg (some q_4)))))))] H := hP
  have hD : va_D A [(aroom, .inr (9, [.ref asort, .ref anod, .ref atold, .int 3, .ref aheld, .int 0, .ref apair, .ref astep, .int 1, .int 0, .int (-1), .int w, .int v, .ref asize])), (q_4, .inr (12, [.int x1, .int (-1), .int x2, .int x3, .int 0, .int 0, .int 0, .int 0, .int 0, .int 0, .int 0, .int 0, .int 0, .int 0])), (astep, .inr (1, [.int u_9, .ref u_7, .int 1])), (u_7, .inl (u_8, 10, .inr (.inr (.inr (.inr (va_up (fun _ => none) (0 : Int32).toNatClampNeg (some q_4)))))))] := hD
  refine lv_aload hx hb dX7_open_79 (lv_at hl 0 rfl) ?_
  refine lv_iload_n hx hb dX7_open_81 rfl (lv_at hl 4 rfl) ?_
  refine va_put (D := (dC, dI)) (ci := 12) (v := .int x3) (ty := .int) (C := RX10) (T := TX10) (N := 14) hx hb hts in_RX10 tyX10 tyX10_ok nmX10 hown hK hP hD hS 1 rfl rfl 4 (by decide) (hts (.fieldLink RX7 243 "Hornbook$Step" "wanted" "I") (by decide +kernel)) (fun _ h9 => h9) rfl (by decide +kernel) rfl rfl (Nat.le_of_ble_eq_true rfl) dX7_open_82 (fun H locs hP hD hS => ?_)
  have hP : va_P (dC, dI) vwCl [(aroom, .inr (9, [.ref asort, .ref anod, .ref atold, .int 3, .ref aheld, .int 0, .ref apair, .ref astep, .int 1, .int 0, .int (-1), .int w, .int v, .ref asize])), (q_4, .inr (12, [.int x1, .int (-1), .int x2, .int x3, .int x3, .int 0, .int 0, .int 0, .int 0, .int 0, .int 0, .int 0, .int 0, .int 0])), (astep, .inr (1, [.int u_9, .ref u_7, .int 1])), (u_7, .inl (u_8, 10, .inr (.inr (.inr (.inr (va_up (fun _ => none) (0 : Int32).toNatClampNeg (some q_4)))))))] H := hP
  have hD : va_D A [(aroom, .inr (9, [.ref asort, .ref anod, .ref atold, .int 3, .ref aheld, .int 0, .ref apair, .ref astep, .int 1, .int 0, .int (-1), .int w, .int v, .ref asize])), (q_4, .inr (12, [.int x1, .int (-1), .int x2, .int x3, .int x3, .int 0, .int 0, .int 0, .int 0, .int 0, .int 0, .int 0, .int 0, .int 0])), (astep, .inr (1, [.int u_9, .ref u_7, .int 1])), (u_7, .inl (u_8, 10, .inr (.inr (.inr (.inr (va_up (fun _ => none) (0 : Int32).toNatClampNeg (some q_4)))))))] := hD
  refine lv_aload hx hb dX7_open_85 (lv_at hl 0 rfl) ?_
  refine lv_iconst (v := (-1)) hx hb dX7_open_87 (by decide) ?_
  refine va_put (D := (dC, dI)) (ci := 12) (v := .int (-1)) (ty := .int) (C := RX10) (T := TX10) (N := 14) hx hb hts in_RX10 tyX10 tyX10_ok nmX10 hown hK hP hD hS 1 rfl rfl 5 (by decide) (hts (.fieldLink RX7 161 "Hornbook$Step" "x" "I") (by decide +kernel)) (fun _ h9 => h9) rfl (by decide +kernel) rfl rfl (Nat.le_of_ble_eq_true rfl) dX7_open_88 (fun H locs hP hD hS => ?_)
  have hP : va_P (dC, dI) vwCl [(aroom, .inr (9, [.ref asort, .ref anod, .ref atold, .int 3, .ref aheld, .int 0, .ref apair, .ref astep, .int 1, .int 0, .int (-1), .int w, .int v, .ref asize])), (q_4, .inr (12, [.int x1, .int (-1), .int x2, .int x3, .int x3, .int (-1), .int 0, .int 0, .int 0, .int 0, .int 0, .int 0, .int 0, .int 0])), (astep, .inr (1, [.int u_9, .ref u_7, .int 1])), (u_7, .inl (u_8, 10, .inr (.inr (.inr (.inr (va_up (fun _ => none) (0 : Int32).toNatClampNeg (some q_4)))))))] H := hP
  have hD : va_D A [(aroom, .inr (9, [.ref asort, .ref anod, .ref atold, .int 3, .ref aheld, .int 0, .ref apair, .ref astep, .int 1, .int 0, .int (-1), .int w, .int v, .ref asize])), (q_4, .inr (12, [.int x1, .int (-1), .int x2, .int x3, .int x3, .int (-1), .int 0, .int 0, .int 0, .int 0, .int 0, .int 0, .int 0, .int 0])), (astep, .inr (1, [.int u_9, .ref u_7, .int 1])), (u_7, .inl (u_8, 10, .inr (.inr (.inr (.inr (va_up (fun _ => none) (0 : Int32).toNatClampNeg (some q_4)))))))] := hD
  refine lv_aload hx hb dX7_open_91 (lv_at hl 0 rfl) ?_
  refine lv_iconst (v := (-1)) hx hb dX7_open_93 (by decide) ?_
  refine va_put (D := (dC, dI)) (ci := 12) (v := .int (-1)) (ty := .int) (C := RX10) (T := TX10) (N := 14) hx hb hts in_RX10 tyX10 tyX10_ok nmX10 hown hK hP hD hS 1 rfl rfl 6 (by decide) (hts (.fieldLink RX7 164 "Hornbook$Step" "y" "I") (by decide +kernel)) (fun _ h9 => h9) rfl (by decide +kernel) rfl rfl (Nat.le_of_ble_eq_true rfl) dX7_open_94 (fun H locs hP hD hS => ?_)
  have hP : va_P (dC, dI) vwCl [(aroom, .inr (9, [.ref asort, .ref anod, .ref atold, .int 3, .ref aheld, .int 0, .ref apair, .ref astep, .int 1, .int 0, .int (-1), .int w, .int v, .ref asize])), (q_4, .inr (12, [.int x1, .int (-1), .int x2, .int x3, .int x3, .int (-1), .int (-1), .int 0, .int 0, .int 0, .int 0, .int 0, .int 0, .int 0])), (astep, .inr (1, [.int u_9, .ref u_7, .int 1])), (u_7, .inl (u_8, 10, .inr (.inr (.inr (.inr (va_up (fun _ => none) (0 : Int32).toNatClampNeg (some q_4)))))))] H := hP
  have hD : va_D A [(aroom, .inr (9, [.ref asort, .ref anod, .ref atold, .int 3, .ref aheld, .int 0, .ref apair, .ref astep, .int 1, .int 0, .int (-1), .int w, .int v, .ref asize])), (q_4, .inr (12, [.int x1, .int (-1), .int x2, .int x3, .int x3, .int (-1), .int (-1), .int 0, .int 0, .int 0, .int 0, .int 0, .int 0, .int 0])), (astep, .inr (1, [.int u_9, .ref u_7, .int 1])), (u_7, .inl (u_8, 10, .inr (.inr (.inr (.inr (va_up (fun _ => none) (0 : Int32).toNatClampNeg (some q_4)))))))] := hD
  refine lv_aload hx hb dX7_open_97 (lv_at hl 0 rfl) ?_
  refine lv_iconst (v := 0) hx hb dX7_open_99 (by decide) ?_
  refine va_put (D := (dC, dI)) (ci := 12) (v := .int 0) (ty := .int) (C := RX10) (T := TX10) (N := 14) hx hb hts in_RX10 tyX10 tyX10_ok nmX10 hown hK hP hD hS 1 rfl rfl 7 (by decide) (hts (.fieldLink RX7 167 "Hornbook$Step" "one" "I") (by decide +kernel)) (fun _ h9 => h9) rfl (by decide +kernel) rfl rfl (Nat.le_of_ble_eq_true rfl) dX7_open_100 (fun H locs hP hD hS => ?_)
  have hP : va_P (dC, dI) vwCl [(aroom, .inr (9, [.ref asort, .ref anod, .ref atold, .int 3, .ref aheld, .int 0, .ref apair, .ref astep, .int 1, .int 0, .int (-1), .int w, .int v, .ref asize])), (q_4, .inr (12, [.int x1, .int (-1), .int x2, .int x3, .int x3, .int (-1), .int (-1), .int 0, .int 0, .int 0, .int 0, .int 0, .int 0, .int 0])), (astep, .inr (1, [.int u_9, .ref u_7, .int 1])), (u_7, .inl (u_8, 10, .inr (.inr (.inr (.inr (va_up (fun _ => none) (0 : Int32).toNatClampNeg (some q_4)))))))] H := hP
  have hD : va_D A [(aroom, .inr (9, [.ref asort, .ref anod, .ref atold, .int 3, .ref aheld, .int 0, .ref apair, .ref astep, .int 1, .int 0, .int (-1), .int w, .int v, .ref asize])), (q_4, .inr (12, [.int x1, .int (-1), .int x2, .int x3, .int x3, .int (-1), .int (-1), .int 0, .int 0, .int 0, .int 0, .int 0, .int 0, .int 0])), (astep, .inr (1, [.int u_9, .ref u_7, .int 1])), (u_7, .inl (u_8, 10, .inr (.inr (.inr (.inr (va_up (fun _ => none) (0 : Int32).toNatClampNeg (some q_4)))))))] := hD
  refine lv_aload hx hb dX7_open_103 (lv_at hl 0 rfl) ?_
  refine lv_iconst (v := 0) hx hb dX7_open_105 (by decide) ?_
  refine va_put (D := (dC, dI)) (ci := 12) (v := .int 0) (ty := .int) (C := RX10) (T := TX10) (N := 14) hx hb hts in_RX10 tyX10 tyX10_ok nmX10 hown hK hP hD hS 1 rfl rfl 8 (by decide) (hts (.fieldLink RX7 170 "Hornbook$Step" "other" "I") (by decide +kernel)) (fun _ h9 => h9) rfl (by decide +kernel) rfl rfl (Nat.le_of_ble_eq_true rfl) dX7_open_106 (fun H locs hP hD hS => ?_)
  have hP : va_P (dC, dI) vwCl [(aroom, .inr (9, [.ref asort, .ref anod, .ref atold, .int 3, .ref aheld, .int 0, .ref apair, .ref astep, .int 1, .int 0, .int (-1), .int w, .int v, .ref asize])), (q_4, .inr (12, [.int x1, .int (-1), .int x2, .int x3, .int x3, .int (-1), .int (-1), .int 0, .int 0, .int 0, .int 0, .int 0, .int 0, .int 0])), (astep, .inr (1, [.int u_9, .ref u_7, .int 1])), (u_7, .inl (u_8, 10, .inr (.inr (.inr (.inr (va_up (fun _ => none) (0 : Int32).toNatClampNeg (some q_4)))))))] H := hP
  have hD : va_D A [(aroom, .inr (9, [.ref asort, .ref anod, .ref atold, .int 3, .ref aheld, .int 0, .ref apair, .ref astep, .int 1, .int 0, .int (-1), .int w, .int v, .ref asize])), (q_4, .inr (12, [.int x1, .int (-1), .int x2, .int x3, .int x3, .int (-1), .int (-1), .int 0, .int 0, .int 0, .int 0, .int 0, .int 0, .int 0])), (astep, .inr (1, [.int u_9, .ref u_7, .int 1])), (u_7, .inl (u_8, 10, .inr (.inr (.inr (.inr (va_up (fun _ => none) (0 : Int32).toNatClampNeg (some q_4)))))))] := hD
  refine lv_aload hx hb dX7_open_109 (lv_at hl 0 rfl) ?_
  refine lv_iconst (v := 0) hx hb dX7_open_111 (by decide) ?_
  refine va_put (D := (dC, dI)) (ci := 12) (v := .int 0) (ty := .int) (C := RX10) (T := TX10) (N := 14) hx hb hts in_RX10 tyX10 tyX10_ok nmX10 hown hK hP hD hS 1 rfl rfl 9 (by decide) (hts (.fieldLink RX7 246 "Hornbook$Step" "phase" "I") (by decide +kernel)) (fun _ h9 => h9) rfl (by decide +kernel) rfl rfl (Nat.le_of_ble_eq_true rfl) dX7_open_112 (fun H locs hP hD hS => ?_)
  have hP : va_P (dC, dI) vwCl [(aroom, .inr (9, [.ref asort, .ref anod, .ref atold, .int 3, .ref aheld, .int 0, .ref apair, .ref astep, .int 1, .int 0, .int (-1), .int w, .int v, .ref asize])), (q_4, .inr (12, [.int x1, .int (-1), .int x2, .int x3, .int x3, .int (-1), .int (-1), .int 0, .int 0, .int 0, .int 0, .int 0, .int 0, .int 0])), (astep, .inr (1, [.int u_9, .ref u_7, .int 1])), (u_7, .inl (u_8, 10, .inr (.inr (.inr (.inr (va_up (fun _ => none) (0 : Int32).toNatClampNeg (some q_4)))))))] H := hP
  have hD : va_D A [(aroom, .inr (9, [.ref asort, .ref anod, .ref atold, .int 3, .ref aheld, .int 0, .ref apair, .ref astep, .int 1, .int 0, .int (-1), .int w, .int v, .ref asize])), (q_4, .inr (12, [.int x1, .int (-1), .int x2, .int x3, .int x3, .int (-1), .int (-1), .int 0, .int 0, .int 0, .int 0, .int 0, .int 0, .int 0])), (astep, .inr (1, [.int u_9, .ref u_7, .int 1])), (u_7, .inl (u_8, 10, .inr (.inr (.inr (.inr (va_up (fun _ => none) (0 : Int32).toNatClampNeg (some q_4)))))))] := hD
  refine lv_aload hx hb dX7_open_115 (lv_at hl 0 rfl) ?_
  refine lv_iconst (v := 0) hx hb dX7_open_117 (by decide) ?_
  refine va_put (D := (dC, dI)) (ci := 12) (v := .int 0) (ty := .int) (C := RX10) (T := TX10) (N := 14) hx hb hts in_RX10 tyX10 tyX10_ok nmX10 hown hK hP hD hS 1 rfl rfl 10 (by decide) (hts (.fieldLink RX7 249 "Hornbook$Step" "place" "I") (by decide +kernel)) (fun _ h9 => h9) rfl (by decide +kernel) rfl rfl (Nat.le_of_ble_eq_true rfl) dX7_open_118 (fun H locs hP hD hS => ?_)
  have hP : va_P (dC, dI) vwCl [(aroom, .inr (9, [.ref asort, .ref anod, .ref atold, .int 3, .ref aheld, .int 0, .ref apair, .ref astep, .int 1, .int 0, .int (-1), .int w, .int v, .ref asize])), (q_4, .inr (12, [.int x1, .int (-1), .int x2, .int x3, .int x3, .int (-1), .int (-1), .int 0, .int 0, .int 0, .int 0, .int 0, .int 0, .int 0])), (astep, .inr (1, [.int u_9, .ref u_7, .int 1])), (u_7, .inl (u_8, 10, .inr (.inr (.inr (.inr (va_up (fun _ => none) (0 : Int32).toNatClampNeg (some q_4)))))))] H := hP
  have hD : va_D A [(aroom, .inr (9, [.ref asort, .ref anod, .ref atold, .int 3, .ref aheld, .int 0, .ref apair, .ref astep, .int 1, .int 0, .int (-1), .int w, .int v, .ref asize])), (q_4, .inr (12, [.int x1, .int (-1), .int x2, .int x3, .int x3, .int (-1), .int (-1), .int 0, .int 0, .int 0, .int 0, .int 0, .int 0, .int 0])), (astep, .inr (1, [.int u_9, .ref u_7, .int 1])), (u_7, .inl (u_8, 10, .inr (.inr (.inr (.inr (va_up (fun _ => none) (0 : Int32).toNatClampNeg (some q_4)))))))] := hD
  refine lv_aload hx hb dX7_open_121 (lv_at hl 0 rfl) ?_
  refine lv_iconst (v := 0) hx hb dX7_open_123 (by decide) ?_
  refine va_put (D := (dC, dI)) (ci := 12) (v := .int 0) (ty := .int) (C := RX10) (T := TX10) (N := 14) hx hb hts in_RX10 tyX10 tyX10_ok nmX10 hown hK hP hD hS 1 rfl rfl 11 (by decide) (hts (.fieldLink RX7 252 "Hornbook$Step" "turn" "I") (by decide +kernel)) (fun _ h9 => h9) rfl (by decide +kernel) rfl rfl (Nat.le_of_ble_eq_true rfl) dX7_open_124 (fun H locs hP hD hS => ?_)
  have hP : va_P (dC, dI) vwCl [(aroom, .inr (9, [.ref asort, .ref anod, .ref atold, .int 3, .ref aheld, .int 0, .ref apair, .ref astep, .int 1, .int 0, .int (-1), .int w, .int v, .ref asize])), (q_4, .inr (12, [.int x1, .int (-1), .int x2, .int x3, .int x3, .int (-1), .int (-1), .int 0, .int 0, .int 0, .int 0, .int 0, .int 0, .int 0])), (astep, .inr (1, [.int u_9, .ref u_7, .int 1])), (u_7, .inl (u_8, 10, .inr (.inr (.inr (.inr (va_up (fun _ => none) (0 : Int32).toNatClampNeg (some q_4)))))))] H := hP
  have hD : va_D A [(aroom, .inr (9, [.ref asort, .ref anod, .ref atold, .int 3, .ref aheld, .int 0, .ref apair, .ref astep, .int 1, .int 0, .int (-1), .int w, .int v, .ref asize])), (q_4, .inr (12, [.int x1, .int (-1), .int x2, .int x3, .int x3, .int (-1), .int (-1), .int 0, .int 0, .int 0, .int 0, .int 0, .int 0, .int 0])), (astep, .inr (1, [.int u_9, .ref u_7, .int 1])), (u_7, .inl (u_8, 10, .inr (.inr (.inr (.inr (va_up (fun _ => none) (0 : Int32).toNatClampNeg (some q_4)))))))] := hD
  refine lv_aload hx hb dX7_open_127 (lv_at hl 0 rfl) ?_
  refine lv_iconst (v := 0) hx hb dX7_open_129 (by decide) ?_
  refine va_put (D := (dC, dI)) (ci := 12) (v := .int 0) (ty := .boolean) (C := RX10) (T := TX10) (N := 14) hx hb hts in_RX10 tyX10 tyX10_ok nmX10 hown hK hP hD hS 1 rfl rfl 12 (by decide) (hts (.fieldLink RX7 255 "Hornbook$Step" "isBack" "Z") (by decide +kernel)) (fun _ h9 => h9) rfl (by decide +kernel) rfl rfl (Nat.le_of_ble_eq_true rfl) dX7_open_130 (fun H locs hP hD hS => ?_)
  have hP : va_P (dC, dI) vwCl [(aroom, .inr (9, [.ref asort, .ref anod, .ref atold, .int 3, .ref aheld, .int 0, .ref apair, .ref astep, .int 1, .int 0, .int (-1), .int w, .int v, .ref asize])), (q_4, .inr (12, [.int x1, .int (-1), .int x2, .int x3, .int x3, .int (-1), .int (-1), .int 0, .int 0, .int 0, .int 0, .int 0, .int 0, .int 0])), (astep, .inr (1, [.int u_9, .ref u_7, .int 1])), (u_7, .inl (u_8, 10, .inr (.inr (.inr (.inr (va_up (fun _ => none) (0 : Int32).toNatClampNeg (some q_4)))))))] H := hP
  have hD : va_D A [(aroom, .inr (9, [.ref asort, .ref anod, .ref atold, .int 3, .ref aheld, .int 0, .ref apair, .ref astep, .int 1, .int 0, .int (-1), .int w, .int v, .ref asize])), (q_4, .inr (12, [.int x1, .int (-1), .int x2, .int x3, .int x3, .int (-1), .int (-1), .int 0, .int 0, .int 0, .int 0, .int 0, .int 0, .int 0])), (astep, .inr (1, [.int u_9, .ref u_7, .int 1])), (u_7, .inl (u_8, 10, .inr (.inr (.inr (.inr (va_up (fun _ => none) (0 : Int32).toNatClampNeg (some q_4)))))))] := hD
  refine lv_aload hx hb dX7_open_133 (lv_at hl 0 rfl) ?_
  refine lv_iconst (v := 0) hx hb dX7_open_135 (by decide) ?_
  refine va_put (D := (dC, dI)) (ci := 12) (v := .int 0) (ty := .boolean) (C := RX10) (T := TX10) (N := 14) hx hb hts in_RX10 tyX10 tyX10_ok nmX10 hown hK hP hD hS 1 rfl rfl 13 (by decide) (hts (.fieldLink RX7 258 "Hornbook$Step" "isAnswered" "Z") (by decide +kernel)) (fun _ h9 => h9) rfl (by decide +kernel) rfl rfl (Nat.le_of_ble_eq_true rfl) dX7_open_136 (fun H locs hP hD hS => ?_)
  have hP : va_P (dC, dI) vwCl [(aroom, .inr (9, [.ref asort, .ref anod, .ref atold, .int 3, .ref aheld, .int 0, .ref apair, .ref astep, .int 1, .int 0, .int (-1), .int w, .int v, .ref asize])), (q_4, .inr (12, [.int x1, .int (-1), .int x2, .int x3, .int x3, .int (-1), .int (-1), .int 0, .int 0, .int 0, .int 0, .int 0, .int 0, .int 0])), (astep, .inr (1, [.int u_9, .ref u_7, .int 1])), (u_7, .inl (u_8, 10, .inr (.inr (.inr (.inr (va_up (fun _ => none) (0 : Int32).toNatClampNeg (some q_4)))))))] H := hP
  have hD : va_D A [(aroom, .inr (9, [.ref asort, .ref anod, .ref atold, .int 3, .ref aheld, .int 0, .ref apair, .ref astep, .int 1, .int 0, .int (-1), .int w, .int v, .ref asize])), (q_4, .inr (12, [.int x1, .int (-1), .int x2, .int x3, .int x3, .int (-1), .int (-1), .int 0, .int 0, .int 0, .int 0, .int 0, .int 0, .int 0])), (astep, .inr (1, [.int u_9, .ref u_7, .int 1])), (u_7, .inl (u_8, 10, .inr (.inr (.inr (.inr (va_up (fun _ => none) (0 : Int32).toNatClampNeg (some q_4)))))))] := hD
  have hP9 := hP.sub (ws' := [(aroom, .inr (9, [.ref asort, .ref anod, .ref atold, .int 3, .ref aheld, .int 0, .ref apair, .ref astep, .int 1, .int 0, .int (-1), .int w, .int v, .ref asize])), (astep, .inr (1, [.int u_9, .ref u_7, .int 1])), (u_7, .inl (u_8, 10, .inr (.inr (.inr (.inr (va_up (fun _ => none) (0 : Int32).toNatClampNeg (some q_4))))))), (q_4, .inr (12, [.int x1, .int (-1), .int x2, .int x3, .int x3, .int (-1), .int (-1), .int 0, .int 0, .int 0, .int 0, .int 0, .int 0, .int 0]))]) [0, 2, 3, 1] rfl
  have hD9 := hD.sub (ws' := [(aroom, .inr (9, [.ref asort, .ref anod, .ref atold, .int 3, .ref aheld, .int 0, .ref apair, .ref astep, .int 1, .int 0, .int (-1), .int w, .int v, .ref asize])), (astep, .inr (1, [.int u_9, .ref u_7, .int 1])), (u_7, .inl (u_8, 10, .inr (.inr (.inr (.inr (va_up (fun _ => none) (0 : Int32).toNatClampNeg (some q_4))))))), (q_4, .inr (12, [.int x1, .int (-1), .int x2, .int x3, .int x3, .int (-1), .int (-1), .int 0, .int 0, .int 0, .int 0, .int 0, .int 0, .int 0]))]) [0, 2, 3, 1] (by decide) rfl
  have hK9 := hK.sub (tys' := [(u_8, .object "java/lang/Object")]) [0] rfl
  refine W.widen (k := 2) (n := 24) (Nat.le_of_ble_eq_true rfl) (Nat.le_of_ble_eq_true rfl) ?_
  exact W.vret hx hb hr (fun t ht hW => ⟨⟨(u_9, u_7, u_8, q_4), rfl, trivial, ⟨by rw [ht]; exact hP9, va_K.moved hW.alike hK9, hD9⟩⟩, hS.F ht⟩) hS.2.2 dX7_open_139

def wb_c_R_answer : List Cond := [.fieldLink RX7 56 "Hornbook$Room" "last" "I", .fieldLink RX7 49 "Hornbook$Room" "asking" "I"] ++ u_ws RX7 TX7 14
def w_c_R_answer : List Cond := .code yX7_answer cX7_answer 2 none :: wb_c_R_answer
set_option maxHeartbeats 4000000 in
set_option maxRecDepth 100000 in
theorem c_R_answer (l : Launch) (eD eI : Nat) (ad : Nat → Nat) (dC : Nat → ClassId) (dI : Nat → Nat → Nat) (sz : Nat) (aroom : Nat) (anod : Nat) (asort : Nat) (atold : Nat) (aheld : Nat) (apair : Nat) (astep : Nat) (asize : Nat) (v : Int32) (w : Int32) (nu : Int32) : Met l yX7_answer w_c_R_answer ({ frames := 0, cells := 0, slots := 0, locals := 0 }) (va_Pc [.ref aroom, .int v] (zPre eD eI ad (dC, dI) [(aroom, .inr (9, [.ref asort, .ref anod, .ref atold, .int 3, .ref aheld, .int 0, .ref apair, .ref astep, .int 1, .int 0, .int (-1), .int w, .int nu, .ref asize]))] [] sz)) (va_Qv (fun (_ : Unit) => True) (fun (_ : Unit) => zEnd (dC, dI) (va_A [(aroom, .inr (9, [.ref asort, .ref anod, .ref atold, .int 3, .ref aheld, .int 0, .ref apair, .ref astep, .int 1, .int 0, .int (-1), .int w, .int nu, .ref asize]))] sz) [(aroom, .inr (9, [.ref asort, .ref anod, .ref atold, .int 3, .ref aheld, .int 0, .ref apair, .ref astep, .int 0, .int 0, .int v, .int w, .int nu, .ref asize]))] []) (va_A [(aroom, .inr (9, [.ref asort, .ref anod, .ref atold, .int 3, .ref aheld, .int 0, .ref apair, .ref astep, .int 1, .int 0, .int (-1), .int w, .int nu, .ref asize]))] sz)) 0 0 (va_A [(aroom, .inr (9, [.ref asort, .ref anod, .ref atold, .int 3, .ref aheld, .int 0, .ref apair, .ref astep, .int 1, .int 0, .int (-1), .int w, .int nu, .ref asize]))] sz) := by
  refine Met.ofW (cc := cX7_answer) (maxL := 2) (ret := none) (by decide) rfl ?_
  intro p e s m args below meth c s₁ B hml hv
  obtain ⟨rfl, hsz, hP, hK, hD0, hE⟩ := hv
  have hx := B.exec
  have hb := B.bytes
  have hr := B.returns
  have hts := atoms_spec (ws := w_c_R_answer) B.pre
  have hown : s.vm.findClass RX7 = some m.cls := findClass_of_methodNamed B.named
  have hlocks := B.notSynchronized
  subst hsz
  have hD := hD0.self (sz := s.heap.size)
  generalize hAe : va_A [(aroom, .inr (9, [.ref asort, .ref anod, .ref atold, .int 3, .ref aheld, .int 0, .ref apair, .ref astep, .int 1, .int 0, .int (-1), .int w, .int nu, .ref asize]))] s.heap.size = A at hD hE ⊢
  have hA : ∀ q : Nat, s.heap.size ≤ q → A q := fun q h => by rw [← hAe]; exact Or.inr h
  have hS : va_S A s.heap s.heap [] := va_S.rf
  have hP : va_P (dC, dI) vwCl [(aroom, .inr (9, [.ref asort, .ref anod, .ref atold, .int 3, .ref aheld, .int 0, .ref apair, .ref astep, .int 1, .int 0, .int (-1), .int w, .int nu, .ref asize]))] s.heap := hP
  have hl := lv_entry ([.ref aroom, .int v]) (n := 2) (Nat.le_of_ble_eq_true rfl)
  rw [lg_entry_eq]
  generalize (lg_sl ([.ref aroom, .int v]) ++ List.replicate (2 - (lg_sl ([.ref aroom, .int v])).length) Slot.unset).toArray = ls at hl ⊢
  have hl : lv_has ls 2 [(0, .ref aroom), (1, .int v)] := hl
  have in_RX7 : ∀ w ∈ u_ws RX7 TX7 14, w ∈ w_c_R_answer := by decide +kernel
  refine lv_aload_n hx hb dX7_answer_0 rfl (lv_at hl 0 rfl) ?_
  refine lv_iload_n hx hb dX7_answer_1 rfl (lv_at hl 1 rfl) ?_
  refine va_put (D := (dC, dI)) (ci := 9) (v := .int v) (ty := .int) (C := RX7) (T := TX7) (N := 14) hx hb hts in_RX7 tyX7 tyX7_ok nmX7 hown hK hP hD hS 0 rfl rfl 10 (by decide) (hts (.fieldLink RX7 56 "Hornbook$Room" "last" "I") (by decide +kernel)) (fun _ h9 => h9) rfl (by decide +kernel) rfl rfl (Nat.le_of_ble_eq_true rfl) dX7_answer_2 (fun H locs hP hD hS => ?_)
  have hP : va_P (dC, dI) vwCl [(aroom, .inr (9, [.ref asort, .ref anod, .ref atold, .int 3, .ref aheld, .int 0, .ref apair, .ref astep, .int 1, .int 0, .int v, .int w, .int nu, .ref asize]))] H := hP
  have hD : va_D A [(aroom, .inr (9, [.ref asort, .ref anod, .ref atold, .int 3, .ref aheld, .int 0, .ref apair, .ref astep, .int 1, .int 0, .int v, .int w, .int nu, .ref asize]))] := hD
  refine lv_aload_n hx hb dX7_answer_5 rfl (lv_at hl 0 rfl) ?_
  refine lv_dup hx hb dX7_answer_6 rfl ?_
  refine va_get (D := (dC, dI)) (ci := 9) (v := .int 1) (C := RX7) (T := TX7) (N := 14) hx hb hts in_RX7 hown hK hP 0 rfl rfl 8 (by decide) (hts (.fieldLink RX7 49 "Hornbook$Room" "asking" "I") (by decide +kernel)) (fun _ h9 => h9) rfl dX7_answer_7 ?_
  refine lv_iconst (v := 1) hx hb dX7_answer_10 (by decide) ?_
  refine lv_isub hx hb dX7_answer_11 ?_
  refine z_top (v' := .int 0) (congrArg Value.int (by decide)) ?_
  refine va_put (D := (dC, dI)) (ci := 9) (v := .int 0) (ty := .int) (C := RX7) (T := TX7) (N := 14) hx hb hts in_RX7 tyX7 tyX7_ok nmX7 hown hK hP hD hS 0 rfl rfl 8 (by decide) (hts (.fieldLink RX7 49 "Hornbook$Room" "asking" "I") (by decide +kernel)) (fun _ h9 => h9) rfl (by decide +kernel) rfl rfl (Nat.le_of_ble_eq_true rfl) dX7_answer_12 (fun H locs hP hD hS => ?_)
  have hP : va_P (dC, dI) vwCl [(aroom, .inr (9, [.ref asort, .ref anod, .ref atold, .int 3, .ref aheld, .int 0, .ref apair, .ref astep, .int 0, .int 0, .int v, .int w, .int nu, .ref asize]))] H := hP
  have hD : va_D A [(aroom, .inr (9, [.ref asort, .ref anod, .ref atold, .int 3, .ref aheld, .int 0, .ref apair, .ref astep, .int 0, .int 0, .int v, .int w, .int nu, .ref asize]))] := hD
  have hP9 := hP.sub (ws' := [(aroom, .inr (9, [.ref asort, .ref anod, .ref atold, .int 3, .ref aheld, .int 0, .ref apair, .ref astep, .int 0, .int 0, .int v, .int w, .int nu, .ref asize]))]) [0] rfl
  have hD9 := hD.sub (ws' := [(aroom, .inr (9, [.ref asort, .ref anod, .ref atold, .int 3, .ref aheld, .int 0, .ref apair, .ref astep, .int 0, .int 0, .int v, .int w, .int nu, .ref asize]))]) [0] (by decide) rfl
  have hK9 := hK.sub (tys' := []) [] rfl
  refine W.widen (k := 0) (n := 0) (Nat.le_of_ble_eq_true rfl) (Nat.le_of_ble_eq_true rfl) ?_
  exact W.vret hx hb hr (fun t ht hW => ⟨⟨(), rfl, trivial, ⟨by rw [ht]; exact hP9, va_K.moved hW.alike hK9, hD9⟩⟩, hS.F ht⟩) hS.2.2 dX7_answer_15

def wb_c_R_known_00 : List Cond := []
def w_c_R_known_00 : List Cond := .code yX7_known cX7_known 5 (some .int) :: wb_c_R_known_00
set_option maxHeartbeats 4000000 in
set_option maxRecDepth 100000 in
theorem c_R_known_00 (l : Launch) (eD eI : Nat) (ad : Nat → Nat) (dC : Nat → ClassId) (dI : Nat → Nat → Nat) (sz : Nat) (aroom : Nat) (anod : Nat) (asort : Nat) (atold : Nat) (aheld : Nat) (apair : Nat) (astep : Nat) (asize : Nat) (nm : Nat) (nl : Nat) (n1 : Nat) (n2 : Nat) (nf : Nat) (ns : Nat) (nh : Nat) (nk : Nat) (np : Nat) (kL : ClassId) : Met l yX7_known w_c_R_known_00 ({ frames := 0, cells := 0, slots := 0, locals := 0 }) (va_Pc [.ref aroom, .int 0, .int 0] (zPre eD eI ad (dC, dI) [(aroom, .inr (9, [.ref asort, .ref anod, .ref atold, .int 3, .ref aheld, .int 0, .ref apair, .ref astep, .int 1, .int 0, .int (-1), .int 0, .int 0, .ref asize])), (anod, .inr (7, [.ref nm, .ref nl, .ref n1, .ref n2, .ref nf, .ref ns, .ref nh, .ref nk, .ref np, .int 16, .int 0, .int 16, .int 0, .int 0])), (ns, .inl (kL, 1024, .inr (.inl zSec))), (nf, .inl (kL, 1024, .inr (.inl zFir))), (asort, .inr (1, [.int 0, .ref eD, .int 0]))] [(kL, .long)] sz)) (va_Qi (fun (r : Int32) (_ : Unit) => r = 1) (fun (_ : Unit) => zEnd (dC, dI) (va_A [(aroom, .inr (9, [.ref asort, .ref anod, .ref atold, .int 3, .ref aheld, .int 0, .ref apair, .ref astep, .int 1, .int 0, .int (-1), .int 0, .int 0, .ref asize])), (anod, .inr (7, [.ref nm, .ref nl, .ref n1, .ref n2, .ref nf, .ref ns, .ref nh, .ref nk, .ref np, .int 16, .int 0, .int 16, .int 0, .int 0])), (ns, .inl (kL, 1024, .inr (.inl zSec))), (nf, .inl (kL, 1024, .inr (.inl zFir))), (asort, .inr (1, [.int 0, .ref eD, .int 0]))] sz) [(aroom, .inr (9, [.ref asort, .ref anod, .ref atold, .int 3, .ref aheld, .int 0, .ref apair, .ref astep, .int 1, .int 0, .int (-1), .int 0, .int 0, .ref asize])), (anod, .inr (7, [.ref nm, .ref nl, .ref n1, .ref n2, .ref nf, .ref ns, .ref nh, .ref nk, .ref np, .int 16, .int 0, .int 16, .int 0, .int 0])), (ns, .inl (kL, 1024, .inr (.inl zSec))), (nf, .inl (kL, 1024, .inr (.inl zFir))), (asort, .inr (1, [.int 0, .ref eD, .int 0]))] [(kL, .long)]) (va_A [(aroom, .inr (9, [.ref asort, .ref anod, .ref atold, .int 3, .ref aheld, .int 0, .ref apair, .ref astep, .int 1, .int 0, .int (-1), .int 0, .int 0, .ref asize])), (anod, .inr (7, [.ref nm, .ref nl, .ref n1, .ref n2, .ref nf, .ref ns, .ref nh, .ref nk, .ref np, .int 16, .int 0, .int 16, .int 0, .int 0])), (ns, .inl (kL, 1024, .inr (.inl zSec))), (nf, .inl (kL, 1024, .inr (.inl zFir))), (asort, .inr (1, [.int 0, .ref eD, .int 0]))] sz)) 0 0 (va_A [(aroom, .inr (9, [.ref asort, .ref anod, .ref atold, .int 3, .ref aheld, .int 0, .ref apair, .ref astep, .int 1, .int 0, .int (-1), .int 0, .int 0, .ref asize])), (anod, .inr (7, [.ref nm, .ref nl, .ref n1, .ref n2, .ref nf, .ref ns, .ref nh, .ref nk, .ref np, .int 16, .int 0, .int 16, .int 0, .int 0])), (ns, .inl (kL, 1024, .inr (.inl zSec))), (nf, .inl (kL, 1024, .inr (.inl zFir))), (asort, .inr (1, [.int 0, .ref eD, .int 0]))] sz) := by
  refine Met.ofW (cc := cX7_known) (maxL := 5) (ret := (some .int)) (by decide) rfl ?_
  intro p e s m args below meth c s₁ B hml hv
  obtain ⟨rfl, hsz, hP, hK, hD0, hE⟩ := hv
  have hx := B.exec
  have hb := B.bytes
  have hr := B.returns
  have hts := atoms_spec (ws := w_c_R_known_00) B.pre
  have hown : s.vm.findClass RX7 = some m.cls := findClass_of_methodNamed B.named
  have hlocks := B.notSynchronized
  subst hsz
  have hD := hD0.self (sz := s.heap.size)
  generalize hAe : va_A [(aroom, .inr (9, [.ref asort, .ref anod, .ref atold, .int 3, .ref aheld, .int 0, .ref apair, .ref astep, .int 1, .int 0, .int (-1), .int 0, .int 0, .ref asize])), (anod, .inr (7, [.ref nm, .ref nl, .ref n1, .ref n2, .ref nf, .ref ns, .ref nh, .ref nk, .ref np, .int 16, .int 0, .int 16, .int 0, .int 0])), (ns, .inl (kL, 1024, .inr (.inl zSec))), (nf, .inl (kL, 1024, .inr (.inl zFir))), (asort, .inr (1, [.int 0, .ref eD, .int 0]))] s.heap.size = A at hD hE ⊢
  have hA : ∀ q : Nat, s.heap.size ≤ q → A q := fun q h => by rw [← hAe]; exact Or.inr h
  have hS : va_S A s.heap s.heap [] := va_S.rf
  have hP : va_P (dC, dI) vwCl [(aroom, .inr (9, [.ref asort, .ref anod, .ref atold, .int 3, .ref aheld, .int 0, .ref apair, .ref astep, .int 1, .int 0, .int (-1), .int 0, .int 0, .ref asize])), (anod, .inr (7, [.ref nm, .ref nl, .ref n1, .ref n2, .ref nf, .ref ns, .ref nh, .ref nk, .ref np, .int 16, .int 0, .int 16, .int 0, .int 0])), (ns, .inl (kL, 1024, .inr (.inl zSec))), (nf, .inl (kL, 1024, .inr (.inl zFir))), (asort, .inr (1, [.int 0, .ref eD, .int 0]))] s.heap := hP
  have hl := lv_entry ([.ref aroom, .int 0, .int 0]) (n := 5) (Nat.le_of_ble_eq_true rfl)
  rw [lg_entry_eq]
  generalize (lg_sl ([.ref aroom, .int 0, .int 0]) ++ List.replicate (5 - (lg_sl ([.ref aroom, .int 0, .int 0])).length) Slot.unset).toArray = ls at hl ⊢
  have hl : lv_has ls 5 [(0, .ref aroom), (1, .int 0), (2, .int 0)] := hl
  refine lv_iload_n hx hb dX7_known_0 rfl (lv_at hl 1 rfl) ?_
  refine lv_iload_n hx hb dX7_known_1 rfl (lv_at hl 2 rfl) ?_
  refine lv_icmp_eq (tgt := 14) hx hb dX7_known_2 (by decide) (fun c_1 => ?_) (fun c_1 => ?_)
  rotate_left
  · exact absurd (by decide) c_1
  refine lv_iconst (v := 1) hx hb dX7_known_14 (by decide) ?_
  have hP9 := hP.sub (ws' := [(aroom, .inr (9, [.ref asort, .ref anod, .ref atold, .int 3, .ref aheld, .int 0, .ref apair, .ref astep, .int 1, .int 0, .int (-1), .int 0, .int 0, .ref asize])), (anod, .inr (7, [.ref nm, .ref nl, .ref n1, .ref n2, .ref nf, .ref ns, .ref nh, .ref nk, .ref np, .int 16, .int 0, .int 16, .int 0, .int 0])), (ns, .inl (kL, 1024, .inr (.inl zSec))), (nf, .inl (kL, 1024, .inr (.inl zFir))), (asort, .inr (1, [.int 0, .ref eD, .int 0]))]) [0, 1, 2, 3, 4] rfl
  have hD9 := hD.sub (ws' := [(aroom, .inr (9, [.ref asort, .ref anod, .ref atold, .int 3, .ref aheld, .int 0, .ref apair, .ref astep, .int 1, .int 0, .int (-1), .int 0, .int 0, .ref asize])), (anod, .inr (7, [.ref nm, .ref nl, .ref n1, .ref n2, .ref nf, .ref ns, .ref nh, .ref nk, .ref np, .int 16, .int 0, .int 16, .int 0, .int 0])), (ns, .inl (kL, 1024, .inr (.inl zSec))), (nf, .inl (kL, 1024, .inr (.inl zFir))), (asort, .inr (1, [.int 0, .ref eD, .int 0]))]) [0, 1, 2, 3, 4] (by decide) rfl
  have hK9 := hK.sub (tys' := [(kL, .long)]) [0] rfl
  refine W.widen (k := 0) (n := 0) (Nat.le_of_ble_eq_true rfl) (Nat.le_of_ble_eq_true rfl) ?_
  exact W.iret (v := 1) hx hb hr (fun t ht hW => ⟨⟨1, (), rfl, rfl, ⟨by rw [ht]; exact hP9, va_K.moved hW.alike hK9, hD9⟩⟩, hS.F ht⟩) hS.2.2 dX7_known_15

def wb_c_R_order_00 : List Cond := [.fieldLink RX7 21 "Hornbook$Room" "nodes" "LHornbook$Nodes;", .fieldLink RX7 152 "Hornbook$Step" "a" "I", .code yX5_through cX5_through 4 (some .int), .fieldLink RX5 28 "Hornbook$Nodes" "second" "[J", .methodLink RX7 194 yX5_through, .instanceMethod yX5_through, .selects RX5 yX5_through yX5_through, .initialized RX5, .fieldLink RX7 158 "Hornbook$Step" "b" "I", .fieldLink RX7 161 "Hornbook$Step" "x" "I", .fieldLink RX7 246 "Hornbook$Step" "phase" "I", .code yX7_known cX7_known 5 (some .int), .methodLink RX7 272 yX7_known, .instanceMethod yX7_known, .selects RX7 yX7_known yX7_known, .initialized RX7, .code yX7_answer cX7_answer 2 none, .fieldLink RX7 56 "Hornbook$Room" "last" "I", .fieldLink RX7 49 "Hornbook$Room" "asking" "I", .methodLink RX7 275 yX7_answer, .instanceMethod yX7_answer, .selects RX7 yX7_answer yX7_answer] ++ u_ws RX10 TX10 14 ++ u_ws RX5 TX5 14 ++ u_ws RX7 TX7 14
def w_c_R_order_00 : List Cond := .code yX7_stepOrder cX7_stepOrder 8 none :: wb_c_R_order_00
set_option maxRecDepth 100000 in
theorem g_c_R_order_00_0 : GoodIn w_c_R_order_00 (wsV RX7 194 RX5 yX5_through w_c_N_through_0) := goodIn_app (goodIn_of _ (by decide +kernel)) (goodIn_p (big := w_c_R_order_00) (.code yX5_through cX5_through 4 (some .int) :: wb_c_N_through_0) [3] rfl (by decide +kernel))
set_option maxRecDepth 100000 in
theorem g_c_R_order_00_1 : GoodIn w_c_R_order_00 (wsV RX7 194 RX5 yX5_through w_c_N_through_n) := goodIn_app (goodIn_of _ (by decide +kernel)) (goodIn_p (big := w_c_R_order_00) (.code yX5_through cX5_through 4 (some .int) :: wb_c_N_through_n) [3] rfl (by decide +kernel))
set_option maxRecDepth 100000 in
theorem g_c_R_order_00_2 : GoodIn w_c_R_order_00 (wsV RX7 272 RX7 yX7_known w_c_R_known_00) := goodIn_app (goodIn_of _ (by decide +kernel)) (goodIn_p (big := w_c_R_order_00) (.code yX7_known cX7_known 5 (some .int) :: wb_c_R_known_00) [12] rfl (by decide +kernel))
set_option maxRecDepth 100000 in
theorem g_c_R_order_00_3 : GoodIn w_c_R_order_00 (wsV RX7 275 RX7 yX7_answer w_c_R_answer) := goodIn_app (goodIn_of _ (by decide +kernel)) (goodIn_p (big := w_c_R_order_00) (.code yX7_answer cX7_answer 2 none :: wb_c_R_answer) [17] rfl (by decide +kernel))
set_option maxHeartbeats 4000000 in
set_option maxRecDepth 100000 in
theorem c_R_order_00 (l : Launch) (eD eI : Nat) (ad : Nat → Nat) (dC : Nat → ClassId) (dI : Nat → Nat → Nat) (sz : Nat) (aroom : Nat) (anod : Nat) (asort : Nat) (atold : Nat) (aheld : Nat) (apair : Nat) (astep : Nat) (asize : Nat) (nm : Nat) (nl : Nat) (n1 : Nat) (n2 : Nat) (nf : Nat) (ns : Nat) (nh : Nat) (nk : Nat) (np : Nat) (sp : Nat) (kL : ClassId) : Met l yX7_stepOrder w_c_R_order_00 ({ frames := 1, cells := 0, slots := 0, locals := 24 }) (va_Pc [.ref aroom, .ref sp] (zPre eD eI ad (dC, dI) [(aroom, .inr (9, [.ref asort, .ref anod, .ref atold, .int 3, .ref aheld, .int 0, .ref apair, .ref astep, .int 1, .int 0, .int (-1), .int 0, .int 0, .ref asize])), (anod, .inr (7, [.ref nm, .ref nl, .ref n1, .ref n2, .ref nf, .ref ns, .ref nh, .ref nk, .ref np, .int 16, .int 0, .int 16, .int 0, .int 0])), (ns, .inl (kL, 1024, .inr (.inl zSec))), (nf, .inl (kL, 1024, .inr (.inl zFir))), (asort, .inr (1, [.int 0, .ref eD, .int 0])), (sp, .inr (12, [.int 0, .int (-1), .int 0, .int 0, .int 0, .int (-1), .int (-1), .int 0, .int 0, .int 0, .int 0, .int 0, .int 0, .int 0]))] [(kL, .long)] sz)) (va_Qv (fun (_ : Unit) => True) (fun (_ : Unit) => zEnd (dC, dI) (va_A [(aroom, .inr (9, [.ref asort, .ref anod, .ref atold, .int 3, .ref aheld, .int 0, .ref apair, .ref astep, .int 1, .int 0, .int (-1), .int 0, .int 0, .ref asize])), (anod, .inr (7, [.ref nm, .ref nl, .ref n1, .ref n2, .ref nf, .ref ns, .ref nh, .ref nk, .ref np, .int 16, .int 0, .int 16, .int 0, .int 0])), (ns, .inl (kL, 1024, .inr (.inl zSec))), (nf, .inl (kL, 1024, .inr (.inl zFir))), (asort, .inr (1, [.int 0, .ref eD, .int 0])), (sp, .inr (12, [.int 0, .int (-1), .int 0, .int 0, .int 0, .int (-1), .int (-1), .int 0, .int 0, .int 0, .int 0, .int 0, .int 0, .int 0]))] sz) [(aroom, .inr (9, [.ref asort, .ref anod, .ref atold, .int 3, .ref aheld, .int 0, .ref apair, .ref astep, .int 0, .int 0, .int 1, .int 0, .int 0, .ref asize]))] []) (va_A [(aroom, .inr (9, [.ref asort, .ref anod, .ref atold, .int 3, .ref aheld, .int 0, .ref apair, .ref astep, .int 1, .int 0, .int (-1), .int 0, .int 0, .ref asize])), (anod, .inr (7, [.ref nm, .ref nl, .ref n1, .ref n2, .ref nf, .ref ns, .ref nh, .ref nk, .ref np, .int 16, .int 0, .int 16, .int 0, .int 0])), (ns, .inl (kL, 1024, .inr (.inl zSec))), (nf, .inl (kL, 1024, .inr (.inl zFir))), (asort, .inr (1, [.int 0, .ref eD, .int 0])), (sp, .inr (12, [.int 0, .int (-1), .int 0, .int 0, .int 0, .int (-1), .int (-1), .int 0, .int 0, .int 0, .int 0, .int 0, .int 0, .int 0]))] sz)) 0 0 (va_A [(aroom, .inr (9, [.ref asort, .ref anod, .ref atold, .int 3, .ref aheld, .int 0, .ref apair, .ref astep, .int 1, .int 0, .int (-1), .int 0, .int 0, .ref asize])), (anod, .inr (7, [.ref nm, .ref nl, .ref n1, .ref n2, .ref nf, .ref ns, .ref nh, .ref nk, .ref np, .int 16, .int 0, .int 16, .int 0, .int 0])), (ns, .inl (kL, 1024, .inr (.inl zSec))), (nf, .inl (kL, 1024, .inr (.inl zFir))), (asort, .inr (1, [.int 0, .ref eD, .int 0])), (sp, .inr (12, [.int 0, .int (-1), .int 0, .int 0, .int 0, .int (-1), .int (-1), .int 0, .int 0, .int 0, .int 0, .int 0, .int 0, .int 0]))] sz) := by
  refine Met.ofW (cc := cX7_stepOrder) (maxL := 8) (ret := none) (by decide) rfl ?_
  intro p e s m args below meth c s₁ B hml hv
  obtain ⟨rfl, hsz, hP, hK, hD0, hE⟩ := hv
  have hx := B.exec
  have hb := B.bytes
  have hr := B.returns
  have hts := atoms_spec (ws := w_c_R_order_00) B.pre
  have hown : s.vm.findClass RX7 = some m.cls := findClass_of_methodNamed B.named
  have hlocks := B.notSynchronized
  subst hsz
  have hD := hD0.self (sz := s.heap.size)
  generalize hAe : va_A [(aroom, .inr (9, [.ref asort, .ref anod, .ref atold, .int 3, .ref aheld, .int 0, .ref apair, .ref astep, .int 1, .int 0, .int (-1), .int 0, .int 0, .ref asize])), (anod, .inr (7, [.ref nm, .ref nl, .ref n1, .ref n2, .ref nf, .ref ns, .ref nh, .ref nk, .ref np, .int 16, .int 0, .int 16, .int 0, .int 0])), (ns, .inl (kL, 1024, .inr (.inl zSec))), (nf, .inl (kL, 1024, .inr (.inl zFir))), (asort, .inr (1, [.int 0, .ref eD, .int 0])), (sp, .inr (12, [.int 0, .int (-1), .int 0, .int 0, .int 0, .int (-1), .int (-1), .int 0, .int 0, .int 0, .int 0, .int 0, .int 0, .int 0]))] s.heap.size = A at hD hE ⊢
  have hA : ∀ q : Nat, s.heap.size ≤ q → A q := fun q h => by rw [← hAe]; exact Or.inr h
  have hS : va_S A s.heap s.heap [] := va_S.rf
  have hP : va_P (dC, dI) vwCl [(aroom, .inr (9, [.ref asort, .ref anod, .ref atold, .int 3, .ref aheld, .int 0, .ref apair, .ref astep, .int 1, .int 0, .int (-1), .int 0, .int 0, .ref asize])), (anod, .inr (7, [.ref nm, .ref nl, .ref n1, .ref n2, .ref nf, .ref ns, .ref nh, .ref nk, .ref np, .int 16, .int 0, .int 16, .int 0, .int 0])), (ns, .inl (kL, 1024, .inr (.inl zSec))), (nf, .inl (kL, 1024, .inr (.inl zFir))), (asort, .inr (1, [.int 0, .ref eD, .int 0])), (sp, .inr (12, [.int 0, .int (-1), .int 0, .int 0, .int 0, .int (-1), .int (-1), .int 0, .int 0, .int 0, .int 0, .int 0, .int 0, .int 0]))] s.heap := hP
  have hl := lv_entry ([.ref aroom, .ref sp]) (n := 8) (Nat.le_of_ble_eq_true rfl)
  rw [lg_entry_eq]
  generalize (lg_sl ([.ref aroom, .ref sp]) ++ List.replicate (8 - (lg_sl ([.ref aroom, .ref sp])).length) Slot.unset).toArray = ls at hl ⊢
  have hl : lv_has ls 8 [(0, .ref aroom), (1, .ref sp)] := hl
  have in_RX10 : ∀ w ∈ u_ws RX10 TX10 14, w ∈ w_c_R_order_00 := by decide +kernel
  have in_RX5 : ∀ w ∈ u_ws RX5 TX5 14, w ∈ w_c_R_order_00 := by decide +kernel
  have in_RX7 : ∀ w ∈ u_ws RX7 TX7 14, w ∈ w_c_R_order_00 := by decide +kernel
  refine lv_aload_n hx hb dX7_stepOrder_0 rfl (lv_at hl 1 rfl) ?_
  refine lv_aload_n hx hb dX7_stepOrder_1 rfl (lv_at hl 0 rfl) ?_
  refine va_get (D := (dC, dI)) (ci := 9) (v := .ref anod) (C := RX7) (T := TX7) (N := 14) hx hb hts in_RX7 hown hK hP 0 rfl rfl 1 (by decide) (hts (.fieldLink RX7 21 "Hornbook$Room" "nodes" "LHornbook$Nodes;") (by decide +kernel)) (fun _ h9 => h9) rfl dX7_stepOrder_2 ?_
  refine lv_aload_n hx hb dX7_stepOrder_5 rfl (lv_at hl 1 rfl) ?_
  refine va_get (D := (dC, dI)) (ci := 12) (v := .int 0) (C := RX10) (T := TX10) (N := 14) hx hb hts in_RX10 hown hK hP 5 rfl rfl 2 (by decide) (hts (.fieldLink RX7 152 "Hornbook$Step" "a" "I") (by decide +kernel)) (fun _ h9 => h9) rfl dX7_stepOrder_6 ?_
  refine z_i (wr := [(aroom, .inr (9, [.ref asort, .ref anod, .ref atold, .int 3, .ref aheld, .int 0, .ref apair, .ref astep, .int 1, .int 0, .int (-1), .int 0, .int 0, .ref asize])), (nf, .inl (kL, 1024, .inr (.inl zFir))), (asort, .inr (1, [.int 0, .ref eD, .int 0])), (sp, .inr (12, [.int 0, .int (-1), .int 0, .int 0, .int 0, .int (-1), .int (-1), .int 0, .int 0, .int 0, .int 0, .int 0, .int 0, .int 0]))]) (va_runV (As := [.int 0]) (rest := [.ref sp]) ⟨hx, hb, hml, hown, hts⟩ (c_N_through_0 l eD eI ad dC dI s.heap.size anod nm nl n1 n2 nf ns nh nk np kL) (cwV 1 hts g_c_R_order_00_0 rfl rfl rfl (by decide +kernel) ⟨Nat.le_of_ble_eq_true rfl, Nat.le_of_ble_eq_true rfl⟩) (z_preV (wc := [(anod, .inr (7, [.ref nm, .ref nl, .ref n1, .ref n2, .ref nf, .ref ns, .ref nh, .ref nk, .ref np, .int 16, .int 0, .int 16, .int 0, .int 0])), (ns, .inl (kL, 1024, .inr (.inl zSec)))]) hP hD hK hS hA hE [1, 2] [0] rfl (by decide) rfl (ci := 7) (q0 := 0) rfl rfl) rfl rfl hl.1 rfl (lv_room (Nat.le_of_ble_eq_true rfl)) dX7_stepOrder_9 ⟨Nat.le_of_ble_eq_true rfl, Nat.le_of_ble_eq_true rfl⟩) hP hD hK hS hA [1, 2] [0, 3, 4, 5] rfl rfl (by decide) (by decide) (fun r_1 u H locs hw_2 hP hD hK hS => ?_)
  obtain ⟨⟩ := u
  have hP : va_P (dC, dI) vwCl [(aroom, .inr (9, [.ref asort, .ref anod, .ref atold, .int 3, .ref aheld, .int 0, .ref apair, .ref astep, .int 1, .int 0, .int (-1), .int 0, .int 0, .ref asize])), (nf, .inl (kL, 1024, .inr (.inl zFir))), (asort, .inr (1, [.int 0, .ref eD, .int 0])), (sp, .inr (12, [.int 0, .int (-1), .int 0, .int 0, .int 0, .int (-1), .int (-1), .int 0, .int 0, .int 0, .int 0, .int 0, .int 0, .int 0])), (anod, .inr (7, [.ref nm, .ref nl, .ref n1, .ref n2, .ref nf, .ref ns, .ref nh, .ref nk, .ref np, .int 16, .int 0, .int 16, .int 0, .int 0])), (ns, .inl (kL, 1024, .inr (.inl zSec)))] H := hP
  have hD : va_D A [(aroom, .inr (9, [.ref asort, .ref anod, .ref atold, .int 3, .ref aheld, .int 0, .ref apair, .ref astep, .int 1, .int 0, .int (-1), .int 0, .int 0, .ref asize])), (nf, .inl (kL, 1024, .inr (.inl zFir))), (asort, .inr (1, [.int 0, .ref eD, .int 0])), (sp, .inr (12, [.int 0, .int (-1), .int 0, .int 0, .int 0, .int (-1), .int (-1), .int 0, .int 0, .int 0, .int 0, .int 0, .int 0, .int 0])), (anod, .inr (7, [.ref nm, .ref nl, .ref n1, .ref n2, .ref nf, .ref ns, .ref nh, .ref nk, .ref np, .int 16, .int 0, .int 16, .int 0, .int 0])), (ns, .inl (kL, 1024, .inr (.inl zSec)))] := hD
  have hK : va_K (dC, dI) vwCl [(kL, .long), (kL, .long)] s := hK
  have hw_2 : r_1 = 0 := hw_2
  have hw_2 := hw_2.symm
  subst hw_2
  refine va_put (D := (dC, dI)) (ci := 12) (v := .int 0) (ty := .int) (C := RX10) (T := TX10) (N := 14) hx hb hts in_RX10 tyX10 tyX10_ok nmX10 hown hK hP hD hS 3 rfl rfl 2 (by decide) (hts (.fieldLink RX7 152 "Hornbook$Step" "a" "I") (by decide +kernel)) (fun _ h9 => h9) rfl (by decide +kernel) rfl rfl (Nat.le_of_ble_eq_true rfl) dX7_stepOrder_12 (fun H locs hP hD hS => ?_)
  have hP : va_P (dC, dI) vwCl [(aroom, .inr (9, [.ref asort, .ref anod, .ref atold, .int 3, .ref aheld, .int 0, .ref apair, .ref astep, .int 1, .int 0, .int (-1), .int 0, .int 0, .ref asize])), (nf, .inl (kL, 1024, .inr (.inl zFir))), (asort, .inr (1, [.int 0, .ref eD, .int 0])), (sp, .inr (12, [.int 0, .int (-1), .int 0, .int 0, .int 0, .int (-1), .int (-1), .int 0, .int 0, .int 0, .int 0, .int 0, .int 0, .int 0])), (anod, .inr (7, [.ref nm, .ref nl, .ref n1, .ref n2, .ref nf, .ref ns, .ref nh, .ref nk, .ref np, .int 16, .int 0, .int 16, .int 0, .int 0])), (ns, .inl (kL, 1024, .inr (.inl zSec)))] H := hP
  have hD : va_D A [(aroom, .inr (9, [.ref asort, .ref anod, .ref atold, .int 3, .ref aheld, .int 0, .ref apair, .ref astep, .int 1, .int 0, .int (-1), .int 0, .int 0, .ref asize])), (nf, .inl (kL, 1024, .inr (.inl zFir))), (asort, .inr (1, [.int 0, .ref eD, .int 0])), (sp, .inr (12, [.int 0, .int (-1), .int 0, .int 0, .int 0, .int (-1), .int (-1), .int 0, .int 0, .int 0, .int 0, .int 0, .int 0, .int 0])), (anod, .inr (7, [.ref nm, .ref nl, .ref n1, .ref n2, .ref nf, .ref ns, .ref nh, .ref nk, .ref np, .int 16, .int 0, .int 16, .int 0, .int 0])), (ns, .inl (kL, 1024, .inr (.inl zSec)))] := hD
  refine lv_aload_n hx hb dX7_stepOrder_15 rfl (lv_at hl 1 rfl) ?_
  refine lv_aload_n hx hb dX7_stepOrder_16 rfl (lv_at hl 0 rfl) ?_
  refine va_get (D := (dC, dI)) (ci := 9) (v := .ref anod) (C := RX7) (T := TX7) (N := 14) hx hb hts in_RX7 hown hK hP 0 rfl rfl 1 (by decide) (hts (.fieldLink RX7 21 "Hornbook$Room" "nodes" "LHornbook$Nodes;") (by decide +kernel)) (fun _ h9 => h9) rfl dX7_stepOrder_17 ?_
  refine lv_aload_n hx hb dX7_stepOrder_20 rfl (lv_at hl 1 rfl) ?_
  refine va_get (D := (dC, dI)) (ci := 12) (v := .int 0) (C := RX10) (T := TX10) (N := 14) hx hb hts in_RX10 hown hK hP 3 rfl rfl 3 (by decide) (hts (.fieldLink RX7 158 "Hornbook$Step" "b" "I") (by decide +kernel)) (fun _ h9 => h9) rfl dX7_stepOrder_21 ?_
  refine z_i (wr := [(aroom, .inr (9, [.ref asort, .ref anod, .ref atold, .int 3, .ref aheld, .int 0, .ref apair, .ref astep, .int 1, .int 0, .int (-1), .int 0, .int 0, .ref asize])), (nf, .inl (kL, 1024, .inr (.inl zFir))), (asort, .inr (1, [.int 0, .ref eD, .int 0])), (sp, .inr (12, [.int 0, .int (-1), .int 0, .int 0, .int 0, .int (-1), .int (-1), .int 0, .int 0, .int 0, .int 0, .int 0, .int 0, .int 0]))]) (va_runV (As := [.int 0]) (rest := [.ref sp]) ⟨hx, hb, hml, hown, hts⟩ (c_N_through_0 l eD eI ad dC dI H.size anod nm nl n1 n2 nf ns nh nk np kL) (cwV 1 hts g_c_R_order_00_0 rfl rfl rfl (by decide +kernel) ⟨Nat.le_of_ble_eq_true rfl, Nat.le_of_ble_eq_true rfl⟩) (z_preV (wc := [(anod, .inr (7, [.ref nm, .ref nl, .ref n1, .ref n2, .ref nf, .ref ns, .ref nh, .ref nk, .ref np, .int 16, .int 0, .int 16, .int 0, .int 0])), (ns, .inl (kL, 1024, .inr (.inl zSec)))]) hP hD hK hS hA hE [4, 5] [0] rfl (by decide) rfl (ci := 7) (q0 := 0) rfl rfl) rfl rfl hl.1 rfl (lv_room (Nat.le_of_ble_eq_true rfl)) dX7_stepOrder_24 ⟨Nat.le_of_ble_eq_true rfl, Nat.le_of_ble_eq_true rfl⟩) hP hD hK hS hA [4, 5] [0, 1, 2, 3] rfl rfl (by decide) (by decide) (fun r_3 u H locs hw_4 hP hD hK hS => ?_)
  obtain ⟨⟩ := u
  have hP : va_P (dC, dI) vwCl [(aroom, .inr (9, [.ref asort, .ref anod, .ref atold, .int 3, .ref aheld, .int 0, .ref apair, .ref astep, .int 1, .int 0, .int (-1), .int 0, .int 0, .ref asize])), (nf, .inl (kL, 1024, .inr (.inl zFir))), (asort, .inr (1, [.int 0, .ref eD, .int 0])), (sp, .inr (12, [.int 0, .int (-1), .int 0, .int 0, .int 0, .int (-1), .int (-1), .int 0, .int 0, .int 0, .int 0, .int 0, .int 0, .int 0])), (anod, .inr (7, [.ref nm, .ref nl, .ref n1, .ref n2, .ref nf, .ref ns, .ref nh, .ref nk, .ref np, .int 16, .int 0, .int 16, .int 0, .int 0])), (ns, .inl (kL, 1024, .inr (.inl zSec)))] H := hP
  have hD : va_D A [(aroom, .inr (9, [.ref asort, .ref anod, .ref atold, .int 3, .ref aheld, .int 0, .ref apair, .ref astep, .int 1, .int 0, .int (-1), .int 0, .int 0, .ref asize])), (nf, .inl (kL, 1024, .inr (.inl zFir))), (asort, .inr (1, [.int 0, .ref eD, .int 0])), (sp, .inr (12, [.int 0, .int (-1), .int 0, .int 0, .int 0, .int (-1), .int (-1), .int 0, .int 0, .int 0, .int 0, .int 0, .int 0, .int 0])), (anod, .inr (7, [.ref nm, .ref nl, .ref n1, .ref n2, .ref nf, .ref ns, .ref nh, .ref nk, .ref np, .int 16, .int 0, .int 16, .int 0, .int 0])), (ns, .inl (kL, 1024, .inr (.inl zSec)))] := hD
  have hK : va_K (dC, dI) vwCl [(kL, .long), (kL, .long), (kL, .long)] s := hK
  have hw_4 : r_3 = 0 := hw_4
  have hw_4 := hw_4.symm
  subst hw_4
  refine va_put (D := (dC, dI)) (ci := 12) (v := .int 0) (ty := .int) (C := RX10) (T := TX10) (N := 14) hx hb hts in_RX10 tyX10 tyX10_ok nmX10 hown hK hP hD hS 3 rfl rfl 3 (by decide) (hts (.fieldLink RX7 158 "Hornbook$Step" "b" "I") (by decide +kernel)) (fun _ h9 => h9) rfl (by decide +kernel) rfl rfl (Nat.le_of_ble_eq_true rfl) dX7_stepOrder_27 (fun H locs hP hD hS => ?_)
  have hP : va_P (dC, dI) vwCl [(aroom, .inr (9, [.ref asort, .ref anod, .ref atold, .int 3, .ref aheld, .int 0, .ref apair, .ref astep, .int 1, .int 0, .int (-1), .int 0, .int 0, .ref asize])), (nf, .inl (kL, 1024, .inr (.inl zFir))), (asort, .inr (1, [.int 0, .ref eD, .int 0])), (sp, .inr (12, [.int 0, .int (-1), .int 0, .int 0, .int 0, .int (-1), .int (-1), .int 0, .int 0, .int 0, .int 0, .int 0, .int 0, .int 0])), (anod, .inr (7, [.ref nm, .ref nl, .ref n1, .ref n2, .ref nf, .ref ns, .ref nh, .ref nk, .ref np, .int 16, .int 0, .int 16, .int 0, .int 0])), (ns, .inl (kL, 1024, .inr (.inl zSec)))] H := hP
  have hD : va_D A [(aroom, .inr (9, [.ref asort, .ref anod, .ref atold, .int 3, .ref aheld, .int 0, .ref apair, .ref astep, .int 1, .int 0, .int (-1), .int 0, .int 0, .ref asize])), (nf, .inl (kL, 1024, .inr (.inl zFir))), (asort, .inr (1, [.int 0, .ref eD, .int 0])), (sp, .inr (12, [.int 0, .int (-1), .int 0, .int 0, .int 0, .int (-1), .int (-1), .int 0, .int 0, .int 0, .int 0, .int 0, .int 0, .int 0])), (anod, .inr (7, [.ref nm, .ref nl, .ref n1, .ref n2, .ref nf, .ref ns, .ref nh, .ref nk, .ref np, .int 16, .int 0, .int 16, .int 0, .int 0])), (ns, .inl (kL, 1024, .inr (.inl zSec)))] := hD
  refine lv_aload_n hx hb dX7_stepOrder_30 rfl (lv_at hl 1 rfl) ?_
  refine lv_aload_n hx hb dX7_stepOrder_31 rfl (lv_at hl 0 rfl) ?_
  refine va_get (D := (dC, dI)) (ci := 9) (v := .ref anod) (C := RX7) (T := TX7) (N := 14) hx hb hts in_RX7 hown hK hP 0 rfl rfl 1 (by decide) (hts (.fieldLink RX7 21 "Hornbook$Room" "nodes" "LHornbook$Nodes;") (by decide +kernel)) (fun _ h9 => h9) rfl dX7_stepOrder_32 ?_
  refine lv_aload_n hx hb dX7_stepOrder_35 rfl (lv_at hl 1 rfl) ?_
  refine va_get (D := (dC, dI)) (ci := 12) (v := .int (-1)) (C := RX10) (T := TX10) (N := 14) hx hb hts in_RX10 hown hK hP 3 rfl rfl 5 (by decide) (hts (.fieldLink RX7 161 "Hornbook$Step" "x" "I") (by decide +kernel)) (fun _ h9 => h9) rfl dX7_stepOrder_36 ?_
  refine z_i (wr := [(aroom, .inr (9, [.ref asort, .ref anod, .ref atold, .int 3, .ref aheld, .int 0, .ref apair, .ref astep, .int 1, .int 0, .int (-1), .int 0, .int 0, .ref asize])), (nf, .inl (kL, 1024, .inr (.inl zFir))), (asort, .inr (1, [.int 0, .ref eD, .int 0])), (sp, .inr (12, [.int 0, .int (-1), .int 0, .int 0, .int 0, .int (-1), .int (-1), .int 0, .int 0, .int 0, .int 0, .int 0, .int 0, .int 0])), (ns, .inl (kL, 1024, .inr (.inl zSec)))]) (va_runV (As := [.int (-1)]) (rest := [.ref sp]) ⟨hx, hb, hml, hown, hts⟩ (c_N_through_n l eD eI ad dC dI H.size anod nm nl n1 n2 nf ns nh nk np) (cwV 1 hts g_c_R_order_00_1 rfl rfl rfl (by decide +kernel) ⟨Nat.le_of_ble_eq_true rfl, Nat.le_of_ble_eq_true rfl⟩) (z_preV (wc := [(anod, .inr (7, [.ref nm, .ref nl, .ref n1, .ref n2, .ref nf, .ref ns, .ref nh, .ref nk, .ref np, .int 16, .int 0, .int 16, .int 0, .int 0]))]) hP hD hK hS hA hE [4] [] rfl (by decide) rfl (ci := 7) (q0 := 0) rfl rfl) rfl rfl hl.1 rfl (lv_room (Nat.le_of_ble_eq_true rfl)) dX7_stepOrder_39 ⟨Nat.le_of_ble_eq_true rfl, Nat.le_of_ble_eq_true rfl⟩) hP hD hK hS hA [4] [0, 1, 2, 3, 5] rfl rfl (by decide) (by decide) (fun r_5 u H locs hw_6 hP hD hK hS => ?_)
  obtain ⟨⟩ := u
  have hP : va_P (dC, dI) vwCl [(aroom, .inr (9, [.ref asort, .ref anod, .ref atold, .int 3, .ref aheld, .int 0, .ref apair, .ref astep, .int 1, .int 0, .int (-1), .int 0, .int 0, .ref asize])), (nf, .inl (kL, 1024, .inr (.inl zFir))), (asort, .inr (1, [.int 0, .ref eD, .int 0])), (sp, .inr (12, [.int 0, .int (-1), .int 0, .int 0, .int 0, .int (-1), .int (-1), .int 0, .int 0, .int 0, .int 0, .int 0, .int 0, .int 0])), (ns, .inl (kL, 1024, .inr (.inl zSec))), (anod, .inr (7, [.ref nm, .ref nl, .ref n1, .ref n2, .ref nf, .ref ns, .ref nh, .ref nk, .ref np, .int 16, .int 0, .int 16, .int 0, .int 0]))] H := hP
  have hD : va_D A [(aroom, .inr (9, [.ref asort, .ref anod, .ref atold, .int 3, .ref aheld, .int 0, .ref apair, .ref astep, .int 1, .int 0, .int (-1), .int 0, .int 0, .ref asize])), (nf, .inl (kL, 1024, .inr (.inl zFir))), (asort, .inr (1, [.int 0, .ref eD, .int 0])), (sp, .inr (12, [.int 0, .int (-1), .int 0, .int 0, .int 0, .int (-1), .int (-1), .int 0, .int 0, .int 0, .int 0, .int 0, .int 0, .int 0])), (ns, .inl (kL, 1024, .inr (.inl zSec))), (anod, .inr (7, [.ref nm, .ref nl, .ref n1, .ref n2, .ref nf, .ref ns, .ref nh, .ref nk, .ref np, .int 16, .int 0, .int 16, .int 0, .int 0]))] := hD
  have hK : va_K (dC, dI) vwCl [(kL, .long), (kL, .long), (kL, .long)] s := by simpa using hK
  have hw_6 : r_5 = (-1) := hw_6
  have hw_6 := hw_6.symm
  subst hw_6
  refine va_put (D := (dC, dI)) (ci := 12) (v := .int (-1)) (ty := .int) (C := RX10) (T := TX10) (N := 14) hx hb hts in_RX10 tyX10 tyX10_ok nmX10 hown hK hP hD hS 3 rfl rfl 5 (by decide) (hts (.fieldLink RX7 161 "Hornbook$Step" "x" "I") (by decide +kernel)) (fun _ h9 => h9) rfl (by decide +kernel) rfl rfl (Nat.le_of_ble_eq_true rfl) dX7_stepOrder_42 (fun H locs hP hD hS => ?_)
  have hP : va_P (dC, dI) vwCl [(aroom, .inr (9, [.ref asort, .ref anod, .ref atold, .int 3, .ref aheld, .int 0, .ref apair, .ref astep, .int 1, .int 0, .int (-1), .int 0, .int 0, .ref asize])), (nf, .inl (kL, 1024, .inr (.inl zFir))), (asort, .inr (1, [.int 0, .ref eD, .int 0])), (sp, .inr (12, [.int 0, .int (-1), .int 0, .int 0, .int 0, .int (-1), .int (-1), .int 0, .int 0, .int 0, .int 0, .int 0, .int 0, .int 0])), (ns, .inl (kL, 1024, .inr (.inl zSec))), (anod, .inr (7, [.ref nm, .ref nl, .ref n1, .ref n2, .ref nf, .ref ns, .ref nh, .ref nk, .ref np, .int 16, .int 0, .int 16, .int 0, .int 0]))] H := hP
  have hD : va_D A [(aroom, .inr (9, [.ref asort, .ref anod, .ref atold, .int 3, .ref aheld, .int 0, .ref apair, .ref astep, .int 1, .int 0, .int (-1), .int 0, .int 0, .ref asize])), (nf, .inl (kL, 1024, .inr (.inl zFir))), (asort, .inr (1, [.int 0, .ref eD, .int 0])), (sp, .inr (12, [.int 0, .int (-1), .int 0, .int 0, .int 0, .int (-1), .int (-1), .int 0, .int 0, .int 0, .int 0, .int 0, .int 0, .int 0])), (ns, .inl (kL, 1024, .inr (.inl zSec))), (anod, .inr (7, [.ref nm, .ref nl, .ref n1, .ref n2, .ref nf, .ref ns, .ref nh, .ref nk, .ref np, .int 16, .int 0, .int 16, .int 0, .int 0]))] := hD
  refine lv_aload_n hx hb dX7_stepOrder_45 rfl (lv_at hl 1 rfl) ?_
  refine va_get (D := (dC, dI)) (ci := 12) (v := .int 0) (C := RX10) (T := TX10) (N := 14) hx hb hts in_RX10 hown hK hP 3 rfl rfl 9 (by decide) (hts (.fieldLink RX7 246 "Hornbook$Step" "phase" "I") (by decide +kernel)) (fun _ h9 => h9) rfl dX7_stepOrder_46 ?_
  refine lv_if_ne (tgt := 138) hx hb dX7_stepOrder_49 (by decide) (fun c_7 => ?_) (fun c_7 => ?_)
  · exact absurd (by decide) c_7
  refine lv_aload_n hx hb dX7_stepOrder_52 rfl (lv_at hl 0 rfl) ?_
  refine lv_aload_n hx hb dX7_stepOrder_53 rfl (lv_at hl 1 rfl) ?_
  refine va_get (D := (dC, dI)) (ci := 12) (v := .int 0) (C := RX10) (T := TX10) (N := 14) hx hb hts in_RX10 hown hK hP 3 rfl rfl 2 (by decide) (hts (.fieldLink RX7 152 "Hornbook$Step" "a" "I") (by decide +kernel)) (fun _ h9 => h9) rfl dX7_stepOrder_54 ?_
  refine lv_aload_n hx hb dX7_stepOrder_57 rfl (lv_at hl 1 rfl) ?_
  refine va_get (D := (dC, dI)) (ci := 12) (v := .int 0) (C := RX10) (T := TX10) (N := 14) hx hb hts in_RX10 hown hK hP 3 rfl rfl 3 (by decide) (hts (.fieldLink RX7 158 "Hornbook$Step" "b" "I") (by decide +kernel)) (fun _ h9 => h9) rfl dX7_stepOrder_58 ?_
  refine z_i (wr := [(sp, .inr (12, [.int 0, .int (-1), .int 0, .int 0, .int 0, .int (-1), .int (-1), .int 0, .int 0, .int 0, .int 0, .int 0, .int 0, .int 0]))]) (va_runV (As := [.int 0, .int 0]) (rest := []) ⟨hx, hb, hml, hown, hts⟩ (c_R_known_00 l eD eI ad dC dI H.size aroom anod asort atold aheld apair astep asize nm nl n1 n2 nf ns nh nk np kL) (cwV 2 hts g_c_R_order_00_2 rfl rfl rfl (by decide +kernel) ⟨Nat.le_of_ble_eq_true rfl, Nat.le_of_ble_eq_true rfl⟩) (z_preV (wc := [(aroom, .inr (9, [.ref asort, .ref anod, .ref atold, .int 3, .ref aheld, .int 0, .ref apair, .ref astep, .int 1, .int 0, .int (-1), .int 0, .int 0, .ref asize])), (anod, .inr (7, [.ref nm, .ref nl, .ref n1, .ref n2, .ref nf, .ref ns, .ref nh, .ref nk, .ref np, .int 16, .int 0, .int 16, .int 0, .int 0])), (ns, .inl (kL, 1024, .inr (.inl zSec))), (nf, .inl (kL, 1024, .inr (.inl zFir))), (asort, .inr (1, [.int 0, .ref eD, .int 0]))]) hP hD hK hS hA hE [0, 5, 4, 1, 2] [0] rfl (by decide) rfl (ci := 9) (q0 := 0) rfl rfl) rfl rfl hl.1 rfl (lv_room (Nat.le_of_ble_eq_true rfl)) dX7_stepOrder_61 ⟨Nat.le_of_ble_eq_true rfl, Nat.le_of_ble_eq_true rfl⟩) hP hD hK hS hA [0, 5, 4, 1, 2] [3] rfl rfl (by decide) (by decide) (fun r_8 u H locs hw_9 hP hD hK hS => ?_)
  obtain ⟨⟩ := u
  have hP : va_P (dC, dI) vwCl [(sp, .inr (12, [.int 0, .int (-1), .int 0, .int 0, .int 0, .int (-1), .int (-1), .int 0, .int 0, .int 0, .int 0, .int 0, .int 0, .int 0])), (aroom, .inr (9, [.ref asort, .ref anod, .ref atold, .int 3, .ref aheld, .int 0, .ref apair, .ref astep, .int 1, .int 0, .int (-1), .int 0, .int 0, .ref asize])), (anod, .inr (7, [.ref nm, .ref nl, .ref n1, .ref n2, .ref nf, .ref ns, .ref nh, .ref nk, .ref np, .int 16, .int 0, .int 16, .int 0, .int 0])), (ns, .inl (kL, 1024, .inr (.inl zSec))), (nf, .inl (kL, 1024, .inr (.inl zFir))), (asort, .inr (1, [.int 0, .ref eD, .int 0]))] H := hP
  have hD : va_D A [(sp, .inr (12, [.int 0, .int (-1), .int 0, .int 0, .int 0, .int (-1), .int (-1), .int 0, .int 0, .int 0, .int 0, .int 0, .int 0, .int 0])), (aroom, .inr (9, [.ref asort, .ref anod, .ref atold, .int 3, .ref aheld, .int 0, .ref apair, .ref astep, .int 1, .int 0, .int (-1), .int 0, .int 0, .ref asize])), (anod, .inr (7, [.ref nm, .ref nl, .ref n1, .ref n2, .ref nf, .ref ns, .ref nh, .ref nk, .ref np, .int 16, .int 0, .int 16, .int 0, .int 0])), (ns, .inl (kL, 1024, .inr (.inl zSec))), (nf, .inl (kL, 1024, .inr (.inl zFir))), (asort, .inr (1, [.int 0, .ref eD, .int 0]))] := hD
  have hK : va_K (dC, dI) vwCl [(kL, .long), (kL, .long), (kL, .long), (kL, .long)] s := hK
  have hw_9 : r_8 = 1 := hw_9
  have hw_9 := hw_9.symm
  subst hw_9
  refine lv_istore_n (lv' := [(2, .int 1), (0, .ref aroom), (1, .ref sp)]) hx hb dX7_stepOrder_64 rfl hl (by decide) rfl (fun ls hl => ?_)
  refine lv_iload_n hx hb dX7_stepOrder_65 rfl (lv_at hl 0 rfl) ?_
  refine lv_iconst (v := (-1)) hx hb dX7_stepOrder_66 (by decide) ?_
  refine lv_icmp_eq (tgt := 76) hx hb dX7_stepOrder_67 (by decide) (fun c_10 => ?_) (fun c_10 => ?_)
  · exact absurd c_10 (by decide)
  refine lv_aload_n hx hb dX7_stepOrder_70 rfl (lv_at hl 1 rfl) ?_
  refine lv_iload_n hx hb dX7_stepOrder_71 rfl (lv_at hl 0 rfl) ?_
  refine z_v (wr := [(sp, .inr (12, [.int 0, .int (-1), .int 0, .int 0, .int 0, .int (-1), .int (-1), .int 0, .int 0, .int 0, .int 0, .int 0, .int 0, .int 0])), (anod, .inr (7, [.ref nm, .ref nl, .ref n1, .ref n2, .ref nf, .ref ns, .ref nh, .ref nk, .ref np, .int 16, .int 0, .int 16, .int 0, .int 0])), (ns, .inl (kL, 1024, .inr (.inl zSec))), (nf, .inl (kL, 1024, .inr (.inl zFir))), (asort, .inr (1, [.int 0, .ref eD, .int 0]))]) (va_runV (As := [.int 1]) (rest := []) ⟨hx, hb, hml, hown, hts⟩ (c_R_answer l eD eI ad dC dI H.size aroom anod asort atold aheld apair astep asize 1 0 0) (cwV 1 hts g_c_R_order_00_3 rfl rfl rfl (by decide +kernel) ⟨Nat.le_of_ble_eq_true rfl, Nat.le_of_ble_eq_true rfl⟩) (z_preV (wc := [(aroom, .inr (9, [.ref asort, .ref anod, .ref atold, .int 3, .ref aheld, .int 0, .ref apair, .ref astep, .int 1, .int 0, .int (-1), .int 0, .int 0, .ref asize]))]) hP hD hK hS hA hE [1] [] rfl (by decide) rfl (ci := 9) (q0 := 0) rfl rfl) rfl rfl hl.1 rfl (lv_room (Nat.le_of_ble_eq_true rfl)) dX7_stepOrder_72 ⟨Nat.le_of_ble_eq_true rfl, Nat.le_of_ble_eq_true rfl⟩) hP hD hK hS hA [1] [0, 2, 3, 4, 5] rfl rfl (by decide) (by decide) (fun u H locs hw_12 hP hD hK hS => ?_)
  obtain ⟨⟩ := u
  have hP : va_P (dC, dI) vwCl [(sp, .inr (12, [.int 0, .int (-1), .int 0, .int 0, .int 0, .int (-1), .int (-1), .int 0, .int 0, .int 0, .int 0, .int 0, .int 0, .int 0])), (anod, .inr (7, [.ref nm, .ref nl, .ref n1, .ref n2, .ref nf, .ref ns, .ref nh, .ref nk, .ref np, .int 16, .int 0, .int 16, .int 0, .int 0])), (ns, .inl (kL, 1024, .inr (.inl zSec))), (nf, .inl (kL, 1024, .inr (.inl zFir))), (asort, .inr (1, [.int 0, .ref eD, .int 0])), (aroom, .inr (9, [.ref asort, .ref anod, .ref atold, .int 3, .ref aheld, .int 0, .ref apair, .ref astep, .int 0, .int 0, .int 1, .int 0, .int 0, .ref asize]))] H := hP
  have hD : va_D A [(sp, .inr (12, [.int 0, .int (-1), .int 0, .int 0, .int 0, .int (-1), .int (-1), .int 0, .int 0, .int 0, .int 0, .int 0, .int 0, .int 0])), (anod, .inr (7, [.ref nm, .ref nl, .ref n1, .ref n2, .ref nf, .ref ns, .ref nh, .ref nk, .ref np, .int 16, .int 0, .int 16, .int 0, .int 0])), (ns, .inl (kL, 1024, .inr (.inl zSec))), (nf, .inl (kL, 1024, .inr (.inl zFir))), (asort, .inr (1, [.int 0, .ref eD, .int 0])), (aroom, .inr (9, [.ref asort, .ref anod, .ref atold, .int 3, .ref aheld, .int 0, .ref apair, .ref astep, .int 0, .int 0, .int 1, .int 0, .int 0, .ref asize]))] := hD
  have hK : va_K (dC, dI) vwCl [(kL, .long), (kL, .long), (kL, .long), (kL, .long)] s := by simpa using hK
  have hP9 := hP.sub (ws' := [(aroom, .inr (9, [.ref asort, .ref anod, .ref atold, .int 3, .ref aheld, .int 0, .ref apair, .ref astep, .int 0, .int 0, .int 1, .int 0, .int 0, .ref asize]))]) [5] rfl
  have hD9 := hD.sub (ws' := [(aroom, .inr (9, [.ref asort, .ref anod, .ref atold, .int 3, .ref aheld, .int 0, .ref apair, .ref astep, .int 0, .int 0, .int 1, .int 0, .int 0, .ref asize]))]) [5] (by decide) rfl
  have hK9 := hK.sub (tys' := []) [] rfl
  refine W.widen (k := 0) (n := 0) (Nat.le_of_ble_eq_true rfl) (Nat.le_of_ble_eq_true rfl) ?_
  exact W.vret hx hb hr (fun t ht hW => ⟨⟨(), rfl, trivial, ⟨by rw [ht]; exact hP9, va_K.moved hW.alike hK9, hD9⟩⟩, hS.F ht⟩) hS.2.2 dX7_stepOrder_75

def wb_c_R_known_01 : List Cond := [.fieldLink RX7 21 "Hornbook$Room" "nodes" "LHornbook$Nodes;", .code yX5_isJoin cX5_isJoin 2 (some .boolean), .fieldLink RX5 28 "Hornbook$Nodes" "second" "[J", .fieldLink RX5 24 "Hornbook$Nodes" "first" "[J", .methodLink RX7 197 yX5_isJoin, .instanceMethod yX5_isJoin, .selects RX5 yX5_isJoin yX5_isJoin, .initialized RX5, .code yX5_formOf cX5_formOf 2 (some .int), .methodLink RX7 187 yX5_formOf, .instanceMethod yX5_formOf, .selects RX5 yX5_formOf yX5_formOf, .fieldLink RX7 12 "Hornbook$Room" "sorts" "Ljava/util/ArrayList;", .code yJx4a65c_size_8abf5 cJx4a65c_size_8abf5 1 (some .int), .fieldLink RJx4a65c 48 "java/util/ArrayList" "size" "I", .methodLink RX7 139 yJx4a65c_size_8abf5, .instanceMethod yJx4a65c_size_8abf5, .selects RJx4a65c yJx4a65c_size_8abf5 yJx4a65c_size_8abf5, .initialized RJx4a65c] ++ u_ws RJx4a65c TJx4a65c 3 ++ u_ws RX5 TX5 14 ++ u_ws RX7 TX7 14
def w_c_R_known_01 : List Cond := .code yX7_known cX7_known 5 (some .int) :: wb_c_R_known_01
set_option maxRecDepth 100000 in
theorem g_c_R_known_01_0 : GoodIn w_c_R_known_01 (wsV RX7 197 RX5 yX5_isJoin w_c_N_isJoin_1) := goodIn_app (goodIn_of _ (by decide +kernel)) (goodIn_p (big := w_c_R_known_01) (.code yX5_isJoin cX5_isJoin 2 (some .boolean) :: wb_c_N_isJoin_1) [2] rfl (by decide +kernel))
set_option maxRecDepth 100000 in
theorem g_c_R_known_01_1 : GoodIn w_c_R_known_01 (wsV RX7 187 RX5 yX5_formOf w_c_N_form_0) := goodIn_app (goodIn_of _ (by decide +kernel)) (goodIn_p (big := w_c_R_known_01) (.code yX5_formOf cX5_formOf 2 (some .int) :: wb_c_N_form_0) [9] rfl (by decide +kernel))
set_option maxRecDepth 100000 in
theorem g_c_R_known_01_2 : GoodIn w_c_R_known_01 (wsV RX7 187 RX5 yX5_formOf w_c_N_form_1) := goodIn_app (goodIn_of _ (by decide +kernel)) (goodIn_p (big := w_c_R_known_01) (.code yX5_formOf cX5_formOf 2 (some .int) :: wb_c_N_form_1) [9] rfl (by decide +kernel))
set_option maxRecDepth 100000 in
theorem g_c_R_known_01_3 : GoodIn w_c_R_known_01 (wsV RX7 139 RJx4a65c yJx4a65c_size_8abf5 w_c_AL_size) := goodIn_app (goodIn_of _ (by decide +kernel)) (goodIn_p (big := w_c_R_known_01) (.code yJx4a65c_size_8abf5 cJx4a65c_size_8abf5 1 (some .int) :: wb_c_AL_size) [14] rfl (by decide +kernel))
set_option maxHeartbeats 4000000 in
set_option maxRecDepth 100000 in
theorem c_R_known_01 (l : Launch) (eD eI : Nat) (ad : Nat → Nat) (dC : Nat → ClassId) (dI : Nat → Nat → Nat) (sz : Nat) (aroom : Nat) (anod : Nat) (asort : Nat) (atold : Nat) (aheld : Nat) (apair : Nat) (astep : Nat) (asize : Nat) (nm : Nat) (nl : Nat) (n1 : Nat) (n2 : Nat) (nf : Nat) (ns : Nat) (nh : Nat) (nk : Nat) (np : Nat) (kL : ClassId) : Met l yX7_known w_c_R_known_01 ({ frames := 1, cells := 0, slots := 0, locals := 21 }) (va_Pc [.ref aroom, .int 0, .int 1] (zPre eD eI ad (dC, dI) [(aroom, .inr (9, [.ref asort, .ref anod, .ref atold, .int 3, .ref aheld, .int 0, .ref apair, .ref astep, .int 1, .int 0, .int (-1), .int 0, .int 0, .ref asize])), (anod, .inr (7, [.ref nm, .ref nl, .ref n1, .ref n2, .ref nf, .ref ns, .ref nh, .ref nk, .ref np, .int 16, .int 0, .int 16, .int 0, .int 0])), (ns, .inl (kL, 1024, .inr (.inl zSec))), (nf, .inl (kL, 1024, .inr (.inl zFir))), (asort, .inr (1, [.int 0, .ref eD, .int 0]))] [(kL, .long)] sz)) (va_Qi (fun (r : Int32) (_ : Unit) => r = 0) (fun (_ : Unit) => zEnd (dC, dI) (va_A [(aroom, .inr (9, [.ref asort, .ref anod, .ref atold, .int 3, .ref aheld, .int 0, .ref apair, .ref astep, .int 1, .int 0, .int (-1), .int 0, .int 0, .ref asize])), (anod, .inr (7, [.ref nm, .ref nl, .ref n1, .ref n2, .ref nf, .ref ns, .ref nh, .ref nk, .ref np, .int 16, .int 0, .int 16, .int 0, .int 0])), (ns, .inl (kL, 1024, .inr (.inl zSec))), (nf, .inl (kL, 1024, .inr (.inl zFir))), (asort, .inr (1, [.int 0, .ref eD, .int 0]))] sz) [(aroom, .inr (9, [.ref asort, .ref anod, .ref atold, .int 3, .ref aheld, .int 0, .ref apair, .ref astep, .int 1, .int 0, .int (-1), .int 0, .int 0, .ref asize])), (anod, .inr (7, [.ref nm, .ref nl, .ref n1, .ref n2, .ref nf, .ref ns, .ref nh, .ref nk, .ref np, .int 16, .int 0, .int 16, .int 0, .int 0])), (ns, .inl (kL, 1024, .inr (.inl zSec))), (nf, .inl (kL, 1024, .inr (.inl zFir))), (asort, .inr (1, [.int 0, .ref eD, .int 0]))] [(kL, .long)]) (va_A [(aroom, .inr (9, [.ref asort, .ref anod, .ref atold, .int 3, .ref aheld, .int 0, .ref apair, .ref astep, .int 1, .int 0, .int (-1), .int 0, .int 0, .ref asize])), (anod, .inr (7, [.ref nm, .ref nl, .ref n1, .ref n2, .ref nf, .ref ns, .ref nh, .ref nk, .ref np, .int 16, .int 0, .int 16, .int 0, .int 0])), (ns, .inl (kL, 1024, .inr (.inl zSec))), (nf, .inl (kL, 1024, .inr (.inl zFir))), (asort, .inr (1, [.int 0, .ref eD, .int 0]))] sz)) 0 0 (va_A [(aroom, .inr (9, [.ref asort, .ref anod, .ref atold, .int 3, .ref aheld, .int 0, .ref apair, .ref astep, .int 1, .int 0, .int (-1), .int 0, .int 0, .ref asize])), (anod, .inr (7, [.ref nm, .ref nl, .ref n1, .ref n2, .ref nf, .ref ns, .ref nh, .ref nk, .ref np, .int 16, .int 0, .int 16, .int 0, .int 0])), (ns, .inl (kL, 1024, .inr (.inl zSec))), (nf, .inl (kL, 1024, .inr (.inl zFir))), (asort, .inr (1, [.int 0, .ref eD, .int 0]))] sz) := by
  refine Met.ofW (cc := cX7_known) (maxL := 5) (ret := (some .int)) (by decide) rfl ?_
  intro p e s m args below meth c s₁ B hml hv
  obtain ⟨rfl, hsz, hP, hK, hD0, hE⟩ := hv
  have hx := B.exec
  have hb := B.bytes
  have hr := B.returns
  have hts := atoms_spec (ws := w_c_R_known_01) B.pre
  have hown : s.vm.findClass RX7 = some m.cls := findClass_of_methodNamed B.named
  have hlocks := B.notSynchronized
  subst hsz
  have hD := hD0.self (sz := s.heap.size)
  generalize hAe : va_A [(aroom, .inr (9, [.ref asort, .ref anod, .ref atold, .int 3, .ref aheld, .int 0, .ref apair, .ref astep, .int 1, .int 0, .int (-1), .int 0, .int 0, .ref asize])), (anod, .inr (7, [.ref nm, .ref nl, .ref n1, .ref n2, .ref nf, .ref ns, .ref nh, .ref nk, .ref np, .int 16, .int 0, .int 16, .int 0, .int 0])), (ns, .inl (kL, 1024, .inr (.inl zSec))), (nf, .inl (kL, 1024, .inr (.inl zFir))), (asort, .inr (1, [.int 0, .ref eD, .int 0]))] s.heap.size = A at hD hE ⊢
  have hA : ∀ q : Nat, s.heap.size ≤ q → A q := fun q h => by rw [← hAe]; exact Or.inr h
  have hS : va_S A s.heap s.heap [] := va_S.rf
  have hP : va_P (dC, dI) vwCl [(aroom, .inr (9, [.ref asort, .ref anod, .ref atold, .int 3, .ref aheld, .int 0, .ref apair, .ref astep, .int 1, .int 0, .int (-1), .int 0, .int 0, .ref asize])), (anod, .inr (7, [.ref nm, .ref nl, .ref n1, .ref n2, .ref nf, .ref ns, .ref nh, .ref nk, .ref np, .int 16, .int 0, .int 16, .int 0, .int 0])), (ns, .inl (kL, 1024, .inr (.inl zSec))), (nf, .inl (kL, 1024, .inr (.inl zFir))), (asort, .inr (1, [.int 0, .ref eD, .int 0]))] s.heap := hP
  have hl := lv_entry ([.ref aroom, .int 0, .int 1]) (n := 5) (Nat.le_of_ble_eq_true rfl)
  rw [lg_entry_eq]
  generalize (lg_sl ([.ref aroom, .int 0, .int 1]) ++ List.replicate (5 - (lg_sl ([.ref aroom, .int 0, .int 1])).length) Slot.unset).toArray = ls at hl ⊢
  have hl : lv_has ls 5 [(0, .ref aroom), (1, .int 0), (2, .int 1)] := hl
  have in_RJx4a65c : ∀ w ∈ u_ws RJx4a65c TJx4a65c 3, w ∈ w_c_R_known_01 := by decide +kernel
  have in_RX5 : ∀ w ∈ u_ws RX5 TX5 14, w ∈ w_c_R_known_01 := by decide +kernel
  have in_RX7 : ∀ w ∈ u_ws RX7 TX7 14, w ∈ w_c_R_known_01 := by decide +kernel
  refine lv_iload_n hx hb dX7_known_0 rfl (lv_at hl 1 rfl) ?_
  refine lv_iload_n hx hb dX7_known_1 rfl (lv_at hl 2 rfl) ?_
  refine lv_icmp_eq (tgt := 14) hx hb dX7_known_2 (by decide) (fun c_1 => ?_) (fun c_1 => ?_)
  · exact absurd c_1 (by decide)
  refine lv_iload_n hx hb dX7_known_5 rfl (lv_at hl 1 rfl) ?_
  refine lv_iconst (v := 1) hx hb dX7_known_6 (by decide) ?_
  refine lv_icmp_eq (tgt := 14) hx hb dX7_known_7 (by decide) (fun c_2 => ?_) (fun c_2 => ?_)
  · exact absurd c_2 (by decide)
  refine lv_iload_n hx hb dX7_known_10 rfl (lv_at hl 2 rfl) ?_
  refine lv_if_ne (tgt := 16) hx hb dX7_known_11 (by decide) (fun c_3 => ?_) (fun c_3 => ?_)
  rotate_left
  · exact absurd c_3 (by decide)
  refine lv_aload_n hx hb dX7_known_16 rfl (lv_at hl 0 rfl) ?_
  refine va_get (D := (dC, dI)) (ci := 9) (v := .ref anod) (C := RX7) (T := TX7) (N := 14) hx hb hts in_RX7 hown hK hP 0 rfl rfl 1 (by decide) (hts (.fieldLink RX7 21 "Hornbook$Room" "nodes" "LHornbook$Nodes;") (by decide +kernel)) (fun _ h9 => h9) rfl dX7_known_17 ?_
  refine lv_iload_n hx hb dX7_known_20 rfl (lv_at hl 2 rfl) ?_
  refine z_i (wr := [(aroom, .inr (9, [.ref asort, .ref anod, .ref atold, .int 3, .ref aheld, .int 0, .ref apair, .ref astep, .int 1, .int 0, .int (-1), .int 0, .int 0, .ref asize])), (asort, .inr (1, [.int 0, .ref eD, .int 0]))]) (va_runV (As := [.int 1]) (rest := []) ⟨hx, hb, hml, hown, hts⟩ (c_N_isJoin_1 l eD eI ad dC dI s.heap.size anod nm nl n1 n2 nf ns nh nk np kL) (cwV 1 hts g_c_R_known_01_0 rfl rfl rfl (by decide +kernel) ⟨Nat.le_of_ble_eq_true rfl, Nat.le_of_ble_eq_true rfl⟩) (z_preV (wc := [(anod, .inr (7, [.ref nm, .ref nl, .ref n1, .ref n2, .ref nf, .ref ns, .ref nh, .ref nk, .ref np, .int 16, .int 0, .int 16, .int 0, .int 0])), (ns, .inl (kL, 1024, .inr (.inl zSec))), (nf, .inl (kL, 1024, .inr (.inl zFir)))]) hP hD hK hS hA hE [1, 2, 3] [0] rfl (by decide) rfl (ci := 7) (q0 := 0) rfl rfl) rfl rfl hl.1 rfl (lv_room (Nat.le_of_ble_eq_true rfl)) dX7_known_21 ⟨Nat.le_of_ble_eq_true rfl, Nat.le_of_ble_eq_true rfl⟩) hP hD hK hS hA [1, 2, 3] [0, 4] rfl rfl (by decide) (by decide) (fun r_4 u H locs hw_5 hP hD hK hS => ?_)
  obtain ⟨⟩ := u
  have hP : va_P (dC, dI) vwCl [(aroom, .inr (9, [.ref asort, .ref anod, .ref atold, .int 3, .ref aheld, .int 0, .ref apair, .ref astep, .int 1, .int 0, .int (-1), .int 0, .int 0, .ref asize])), (asort, .inr (1, [.int 0, .ref eD, .int 0])), (anod, .inr (7, [.ref nm, .ref nl, .ref n1, .ref n2, .ref nf, .ref ns, .ref nh, .ref nk, .ref np, .int 16, .int 0, .int 16, .int 0, .int 0])), (ns, .inl (kL, 1024, .inr (.inl zSec))), (nf, .inl (kL, 1024, .inr (.inl zFir)))] H := hP
  have hD : va_D A [(aroom, .inr (9, [.ref asort, .ref anod, .ref atold, .int 3, .ref aheld, .int 0, .ref apair, .ref astep, .int 1, .int 0, .int (-1), .int 0, .int 0, .ref asize])), (asort, .inr (1, [.int 0, .ref eD, .int 0])), (anod, .inr (7, [.ref nm, .ref nl, .ref n1, .ref n2, .ref nf, .ref ns, .ref nh, .ref nk, .ref np, .int 16, .int 0, .int 16, .int 0, .int 0])), (ns, .inl (kL, 1024, .inr (.inl zSec))), (nf, .inl (kL, 1024, .inr (.inl zFir)))] := hD
  have hK : va_K (dC, dI) vwCl [(kL, .long), (kL, .long)] s := hK
  have hw_5 : r_4 = 0 := hw_5
  have hw_5 := hw_5.symm
  subst hw_5
  refine lv_if_eq (tgt := 55) hx hb dX7_known_24 (by decide) (fun c_6 => ?_) (fun c_6 => ?_)
  rotate_left
  · exact absurd (by decide) c_6
  refine lv_aload_n hx hb dX7_known_55 rfl (lv_at hl 0 rfl) ?_
  refine va_get (D := (dC, dI)) (ci := 9) (v := .ref anod) (C := RX7) (T := TX7) (N := 14) hx hb hts in_RX7 hown hK hP 0 rfl rfl 1 (by decide) (hts (.fieldLink RX7 21 "Hornbook$Room" "nodes" "LHornbook$Nodes;") (by decide +kernel)) (fun _ h9 => h9) rfl dX7_known_56 ?_
  refine lv_iload_n hx hb dX7_known_59 rfl (lv_at hl 1 rfl) ?_
  refine z_i (wr := [(aroom, .inr (9, [.ref asort, .ref anod, .ref atold, .int 3, .ref aheld, .int 0, .ref apair, .ref astep, .int 1, .int 0, .int (-1), .int 0, .int 0, .ref asize])), (asort, .inr (1, [.int 0, .ref eD, .int 0])), (nf, .inl (kL, 1024, .inr (.inl zFir)))]) (va_runV (As := [.int 0]) (rest := []) ⟨hx, hb, hml, hown, hts⟩ (c_N_form_0 l eD eI ad dC dI H.size anod nm nl n1 n2 nf ns nh nk np kL) (cwV 1 hts g_c_R_known_01_1 rfl rfl rfl (by decide +kernel) ⟨Nat.le_of_ble_eq_true rfl, Nat.le_of_ble_eq_true rfl⟩) (z_preV (wc := [(anod, .inr (7, [.ref nm, .ref nl, .ref n1, .ref n2, .ref nf, .ref ns, .ref nh, .ref nk, .ref np, .int 16, .int 0, .int 16, .int 0, .int 0])), (ns, .inl (kL, 1024, .inr (.inl zSec)))]) hP hD hK hS hA hE [2, 3] [0] rfl (by decide) rfl (ci := 7) (q0 := 0) rfl rfl) rfl rfl hl.1 rfl (lv_room (Nat.le_of_ble_eq_true rfl)) dX7_known_60 ⟨Nat.le_of_ble_eq_true rfl, Nat.le_of_ble_eq_true rfl⟩) hP hD hK hS hA [2, 3] [0, 1, 4] rfl rfl (by decide) (by decide) (fun r_7 u H locs hw_8 hP hD hK hS => ?_)
  obtain ⟨⟩ := u
  have hP : va_P (dC, dI) vwCl [(aroom, .inr (9, [.ref asort, .ref anod, .ref atold, .int 3, .ref aheld, .int 0, .ref apair, .ref astep, .int 1, .int 0, .int (-1), .int 0, .int 0, .ref asize])), (asort, .inr (1, [.int 0, .ref eD, .int 0])), (nf, .inl (kL, 1024, .inr (.inl zFir))), (anod, .inr (7, [.ref nm, .ref nl, .ref n1, .ref n2, .ref nf, .ref ns, .ref nh, .ref nk, .ref np, .int 16, .int 0, .int 16, .int 0, .int 0])), (ns, .inl (kL, 1024, .inr (.inl zSec)))] H := hP
  have hD : va_D A [(aroom, .inr (9, [.ref asort, .ref anod, .ref atold, .int 3, .ref aheld, .int 0, .ref apair, .ref astep, .int 1, .int 0, .int (-1), .int 0, .int 0, .ref asize])), (asort, .inr (1, [.int 0, .ref eD, .int 0])), (nf, .inl (kL, 1024, .inr (.inl zFir))), (anod, .inr (7, [.ref nm, .ref nl, .ref n1, .ref n2, .ref nf, .ref ns, .ref nh, .ref nk, .ref np, .int 16, .int 0, .int 16, .int 0, .int 0])), (ns, .inl (kL, 1024, .inr (.inl zSec)))] := hD
  have hK : va_K (dC, dI) vwCl [(kL, .long), (kL, .long), (kL, .long)] s := hK
  have hw_8 : r_7 = 14 := hw_8
  have hw_8 := hw_8.symm
  subst hw_8
  refine lv_istore_n (lv' := [(3, .int 14), (0, .ref aroom), (1, .int 0), (2, .int 1)]) hx hb dX7_known_63 rfl hl (by decide) rfl (fun ls hl => ?_)
  refine lv_aload_n hx hb dX7_known_64 rfl (lv_at hl 1 rfl) ?_
  refine va_get (D := (dC, dI)) (ci := 9) (v := .ref anod) (C := RX7) (T := TX7) (N := 14) hx hb hts in_RX7 hown hK hP 0 rfl rfl 1 (by decide) (hts (.fieldLink RX7 21 "Hornbook$Room" "nodes" "LHornbook$Nodes;") (by decide +kernel)) (fun _ h9 => h9) rfl dX7_known_65 ?_
  refine lv_iload_n hx hb dX7_known_68 rfl (lv_at hl 3 rfl) ?_
  refine z_i (wr := [(aroom, .inr (9, [.ref asort, .ref anod, .ref atold, .int 3, .ref aheld, .int 0, .ref apair, .ref astep, .int 1, .int 0, .int (-1), .int 0, .int 0, .ref asize])), (asort, .inr (1, [.int 0, .ref eD, .int 0])), (nf, .inl (kL, 1024, .inr (.inl zFir)))]) (va_runV (As := [.int 1]) (rest := []) ⟨hx, hb, hml, hown, hts⟩ (c_N_form_1 l eD eI ad dC dI H.size anod nm nl n1 n2 nf ns nh nk np kL) (cwV 1 hts g_c_R_known_01_2 rfl rfl rfl (by decide +kernel) ⟨Nat.le_of_ble_eq_true rfl, Nat.le_of_ble_eq_true rfl⟩) (z_preV (wc := [(anod, .inr (7, [.ref nm, .ref nl, .ref n1, .ref n2, .ref nf, .ref ns, .ref nh, .ref nk, .ref np, .int 16, .int 0, .int 16, .int 0, .int 0])), (ns, .inl (kL, 1024, .inr (.inl zSec)))]) hP hD hK hS hA hE [3, 4] [0] rfl (by decide) rfl (ci := 7) (q0 := 0) rfl rfl) rfl rfl hl.1 rfl (lv_room (Nat.le_of_ble_eq_true rfl)) dX7_known_69 ⟨Nat.le_of_ble_eq_true rfl, Nat.le_of_ble_eq_true rfl⟩) hP hD hK hS hA [3, 4] [0, 1, 2] rfl rfl (by decide) (by decide) (fun r_9 u H locs hw_10 hP hD hK hS => ?_)
  obtain ⟨⟩ := u
  have hP : va_P (dC, dI) vwCl [(aroom, .inr (9, [.ref asort, .ref anod, .ref atold, .int 3, .ref aheld, .int 0, .ref apair, .ref astep, .int 1, .int 0, .int (-1), .int 0, .int 0, .ref asize])), (asort, .inr (1, [.int 0, .ref eD, .int 0])), (nf, .inl (kL, 1024, .inr (.inl zFir))), (anod, .inr (7, [.ref nm, .ref nl, .ref n1, .ref n2, .ref nf, .ref ns, .ref nh, .ref nk, .ref np, .int 16, .int 0, .int 16, .int 0, .int 0])), (ns, .inl (kL, 1024, .inr (.inl zSec)))] H := hP
  have hD : va_D A [(aroom, .inr (9, [.ref asort, .ref anod, .ref atold, .int 3, .ref aheld, .int 0, .ref apair, .ref astep, .int 1, .int 0, .int (-1), .int 0, .int 0, .ref asize])), (asort, .inr (1, [.int 0, .ref eD, .int 0])), (nf, .inl (kL, 1024, .inr (.inl zFir))), (anod, .inr (7, [.ref nm, .ref nl, .ref n1, .ref n2, .ref nf, .ref ns, .ref nh, .ref nk, .ref np, .int 16, .int 0, .int 16, .int 0, .int 0])), (ns, .inl (kL, 1024, .inr (.inl zSec)))] := hD
  have hK : va_K (dC, dI) vwCl [(kL, .long), (kL, .long), (kL, .long), (kL, .long)] s := hK
  have hw_10 : r_9 = 14 := hw_10
  have hw_10 := hw_10.symm
  subst hw_10
  refine lv_istore (lv' := [(4, .int 14), (3, .int 14), (0, .ref aroom), (1, .int 0), (2, .int 1)]) hx hb dX7_known_72 hl (by decide) rfl (fun ls hl => ?_)
  refine lv_iload_n hx hb dX7_known_74 rfl (lv_at hl 1 rfl) ?_
  refine lv_bipush (v := 12) hx hb dX7_known_75 (by decide) ?_
  refine lv_icmp_eq (tgt := 87) hx hb dX7_known_77 (by decide) (fun c_11 => ?_) (fun c_11 => ?_)
  · exact absurd c_11 (by decide)
  refine lv_iload hx hb dX7_known_80 (lv_at hl 0 rfl) ?_
  refine lv_bipush (v := 12) hx hb dX7_known_82 (by decide) ?_
  refine lv_icmp_ne (tgt := 89) hx hb dX7_known_84 (by decide) (fun c_12 => ?_) (fun c_12 => ?_)
  rotate_left
  · exact absurd c_12 (by decide)
  refine lv_iload_n hx hb dX7_known_89 rfl (lv_at hl 1 rfl) ?_
  refine lv_aload_n hx hb dX7_known_90 rfl (lv_at hl 2 rfl) ?_
  refine va_get (D := (dC, dI)) (ci := 9) (v := .ref asort) (C := RX7) (T := TX7) (N := 14) hx hb hts in_RX7 hown hK hP 0 rfl rfl 0 (by decide) (hts (.fieldLink RX7 12 "Hornbook$Room" "sorts" "Ljava/util/ArrayList;") (by decide +kernel)) (fun _ h9 => h9) rfl dX7_known_91 ?_
  refine z_i (wr := [(aroom, .inr (9, [.ref asort, .ref anod, .ref atold, .int 3, .ref aheld, .int 0, .ref apair, .ref astep, .int 1, .int 0, .int (-1), .int 0, .int 0, .ref asize])), (nf, .inl (kL, 1024, .inr (.inl zFir))), (anod, .inr (7, [.ref nm, .ref nl, .ref n1, .ref n2, .ref nf, .ref ns, .ref nh, .ref nk, .ref np, .int 16, .int 0, .int 16, .int 0, .int 0])), (ns, .inl (kL, 1024, .inr (.inl zSec)))]) (va_runV (As := []) (rest := [.int 14]) ⟨hx, hb, hml, hown, hts⟩ (c_AL_size l eD eI ad dC dI H.size asort ((.int 0)) ((.ref eD)) 0) (cwV 0 hts g_c_R_known_01_3 rfl rfl rfl (by decide +kernel) ⟨Nat.le_of_ble_eq_true rfl, Nat.le_of_ble_eq_true rfl⟩) (z_preV (wc := [(asort, .inr (1, [.int 0, .ref eD, .int 0]))]) hP hD hK hS hA hE [1] [] rfl (by decide) rfl (ci := 1) (q0 := 0) rfl rfl) rfl rfl hl.1 rfl (lv_room (Nat.le_of_ble_eq_true rfl)) dX7_known_94 ⟨Nat.le_of_ble_eq_true rfl, Nat.le_of_ble_eq_true rfl⟩) hP hD hK hS hA [1] [0, 2, 3, 4] rfl rfl (by decide) (by decide) (fun r_13 u H locs hw_14 hP hD hK hS => ?_)
  obtain ⟨⟩ := u
  have hP : va_P (dC, dI) vwCl [(aroom, .inr (9, [.ref asort, .ref anod, .ref atold, .int 3, .ref aheld, .int 0, .ref apair, .ref astep, .int 1, .int 0, .int (-1), .int 0, .int 0, .ref asize])), (nf, .inl (kL, 1024, .inr (.inl zFir))), (anod, .inr (7, [.ref nm, .ref nl, .ref n1, .ref n2, .ref nf, .ref ns, .ref nh, .ref nk, .ref np, .int 16, .int 0, .int 16, .int 0, .int 0])), (ns, .inl (kL, 1024, .inr (.inl zSec))), (asort, .inr (1, [.int 0, .ref eD, .int 0]))] H := hP
  have hD : va_D A [(aroom, .inr (9, [.ref asort, .ref anod, .ref atold, .int 3, .ref aheld, .int 0, .ref apair, .ref astep, .int 1, .int 0, .int (-1), .int 0, .int 0, .ref asize])), (nf, .inl (kL, 1024, .inr (.inl zFir))), (anod, .inr (7, [.ref nm, .ref nl, .ref n1, .ref n2, .ref nf, .ref ns, .ref nh, .ref nk, .ref np, .int 16, .int 0, .int 16, .int 0, .int 0])), (ns, .inl (kL, 1024, .inr (.inl zSec))), (asort, .inr (1, [.int 0, .ref eD, .int 0]))] := hD
  have hK : va_K (dC, dI) vwCl [(kL, .long), (kL, .long), (kL, .long), (kL, .long)] s := by simpa using hK
  have hw_14 : r_13 = 0 := hw_14
  have hw_14 := hw_14.symm
  subst hw_14
  refine lv_icmp_ge (tgt := 131) hx hb dX7_known_97 (by decide) (fun c_15 => ?_) (fun c_15 => ?_)
  rotate_left
  · exact absurd (by decide) c_15
  refine lv_iconst (v := 0) hx hb dX7_known_131 (by decide) ?_
  have hP9 := hP.sub (ws' := [(aroom, .inr (9, [.ref asort, .ref anod, .ref atold, .int 3, .ref aheld, .int 0, .ref apair, .ref astep, .int 1, .int 0, .int (-1), .int 0, .int 0, .ref asize])), (anod, .inr (7, [.ref nm, .ref nl, .ref n1, .ref n2, .ref nf, .ref ns, .ref nh, .ref nk, .ref np, .int 16, .int 0, .int 16, .int 0, .int 0])), (ns, .inl (kL, 1024, .inr (.inl zSec))), (nf, .inl (kL, 1024, .inr (.inl zFir))), (asort, .inr (1, [.int 0, .ref eD, .int 0]))]) [0, 2, 3, 1, 4] rfl
  have hD9 := hD.sub (ws' := [(aroom, .inr (9, [.ref asort, .ref anod, .ref atold, .int 3, .ref aheld, .int 0, .ref apair, .ref astep, .int 1, .int 0, .int (-1), .int 0, .int 0, .ref asize])), (anod, .inr (7, [.ref nm, .ref nl, .ref n1, .ref n2, .ref nf, .ref ns, .ref nh, .ref nk, .ref np, .int 16, .int 0, .int 16, .int 0, .int 0])), (ns, .inl (kL, 1024, .inr (.inl zSec))), (nf, .inl (kL, 1024, .inr (.inl zFir))), (asort, .inr (1, [.int 0, .ref eD, .int 0]))]) [0, 2, 3, 1, 4] (by decide) rfl
  have hK9 := hK.sub (tys' := [(kL, .long)]) [0] rfl
  refine W.widen (k := 0) (n := 0) (Nat.le_of_ble_eq_true rfl) (Nat.le_of_ble_eq_true rfl) ?_
  exact W.iret (v := 0) hx hb hr (fun t ht hW => ⟨⟨0, (), rfl, rfl, ⟨by rw [ht]; exact hP9, va_K.moved hW.alike hK9, hD9⟩⟩, hS.F ht⟩) hS.2.2 dX7_known_132

def wb_c_R_order_01 : List Cond := [.fieldLink RX7 21 "Hornbook$Room" "nodes" "LHornbook$Nodes;", .fieldLink RX7 152 "Hornbook$Step" "a" "I", .code yX5_through cX5_through 4 (some .int), .fieldLink RX5 28 "Hornbook$Nodes" "second" "[J", .methodLink RX7 194 yX5_through, .instanceMethod yX5_through, .selects RX5 yX5_through yX5_through, .initialized RX5, .fieldLink RX7 158 "Hornbook$Step" "b" "I", .fieldLink RX7 161 "Hornbook$Step" "x" "I", .fieldLink RX7 246 "Hornbook$Step" "phase" "I", .code yX7_known cX7_known 5 (some .int), .code yX5_isJoin cX5_isJoin 2 (some .boolean), .fieldLink RX5 24 "Hornbook$Nodes" "first" "[J", .methodLink RX7 197 yX5_isJoin, .instanceMethod yX5_isJoin, .selects RX5 yX5_isJoin yX5_isJoin, .code yX5_formOf cX5_formOf 2 (some .int), .methodLink RX7 187 yX5_formOf, .instanceMethod yX5_formOf, .selects RX5 yX5_formOf yX5_formOf, .fieldLink RX7 12 "Hornbook$Room" "sorts" "Ljava/util/ArrayList;", .code yJx4a65c_size_8abf5 cJx4a65c_size_8abf5 1 (some .int), .fieldLink RJx4a65c 48 "java/util/ArrayList" "size" "I", .methodLink RX7 139 yJx4a65c_size_8abf5, .instanceMethod yJx4a65c_size_8abf5, .selects RJx4a65c yJx4a65c_size_8abf5 yJx4a65c_size_8abf5, .initialized RJx4a65c, .methodLink RX7 272 yX7_known, .instanceMethod yX7_known, .selects RX7 yX7_known yX7_known, .initialized RX7, .code yX7_answer cX7_answer 2 none, .fieldLink RX7 56 "Hornbook$Room" "last" "I", .fieldLink RX7 49 "Hornbook$Room" "asking" "I", .methodLink RX7 275 yX7_answer, .instanceMethod yX7_answer, .selects RX7 yX7_answer yX7_answer] ++ u_ws RJx4a65c TJx4a65c 3 ++ u_ws RX10 TX10 14 ++ u_ws RX5 TX5 14 ++ u_ws RX7 TX7 14
def w_c_R_order_01 : List Cond := .code yX7_stepOrder cX7_stepOrder 8 none :: wb_c_R_order_01
set_option maxRecDepth 100000 in
theorem g_c_R_order_01_0 : GoodIn w_c_R_order_01 (wsV RX7 194 RX5 yX5_through w_c_N_through_0) := goodIn_app (goodIn_of _ (by decide +kernel)) (goodIn_p (big := w_c_R_order_01) (.code yX5_through cX5_through 4 (some .int) :: wb_c_N_through_0) [3] rfl (by decide +kernel))
set_option maxRecDepth 100000 in
theorem g_c_R_order_01_1 : GoodIn w_c_R_order_01 (wsV RX7 194 RX5 yX5_through w_c_N_through_1) := goodIn_app (goodIn_of _ (by decide +kernel)) (goodIn_p (big := w_c_R_order_01) (.code yX5_through cX5_through 4 (some .int) :: wb_c_N_through_1) [3] rfl (by decide +kernel))
set_option maxRecDepth 100000 in
theorem g_c_R_order_01_2 : GoodIn w_c_R_order_01 (wsV RX7 194 RX5 yX5_through w_c_N_through_n) := goodIn_app (goodIn_of _ (by decide +kernel)) (goodIn_p (big := w_c_R_order_01) (.code yX5_through cX5_through 4 (some .int) :: wb_c_N_through_n) [3] rfl (by decide +kernel))
set_option maxRecDepth 100000 in
theorem g_c_R_order_01_3 : GoodIn w_c_R_order_01 (wsV RX7 272 RX7 yX7_known w_c_R_known_01) := goodIn_app (goodIn_of _ (by decide +kernel)) (goodIn_p (big := w_c_R_order_01) (.code yX7_known cX7_known 5 (some .int) :: wb_c_R_known_01) [12, 13, 18, 23] rfl (by decide +kernel))
set_option maxRecDepth 100000 in
theorem g_c_R_order_01_4 : GoodIn w_c_R_order_01 (wsV RX7 275 RX7 yX7_answer w_c_R_answer) := goodIn_app (goodIn_of _ (by decide +kernel)) (goodIn_p (big := w_c_R_order_01) (.code yX7_answer cX7_answer 2 none :: wb_c_R_answer) [33] rfl (by decide +kernel))
set_option maxHeartbeats 4000000 in
set_option maxRecDepth 100000 in
theorem c_R_order_01 (l : Launch) (eD eI : Nat) (ad : Nat → Nat) (dC : Nat → ClassId) (dI : Nat → Nat → Nat) (sz : Nat) (aroom : Nat) (anod : Nat) (asort : Nat) (atold : Nat) (aheld : Nat) (apair : Nat) (astep : Nat) (asize : Nat) (nm : Nat) (nl : Nat) (n1 : Nat) (n2 : Nat) (nf : Nat) (ns : Nat) (nh : Nat) (nk : Nat) (np : Nat) (sp : Nat) (kL : ClassId) : Met l yX7_stepOrder w_c_R_order_01 ({ frames := 2, cells := 0, slots := 0, locals := 45 }) (va_Pc [.ref aroom, .ref sp] (zPre eD eI ad (dC, dI) [(aroom, .inr (9, [.ref asort, .ref anod, .ref atold, .int 3, .ref aheld, .int 0, .ref apair, .ref astep, .int 1, .int 0, .int (-1), .int 0, .int 0, .ref asize])), (anod, .inr (7, [.ref nm, .ref nl, .ref n1, .ref n2, .ref nf, .ref ns, .ref nh, .ref nk, .ref np, .int 16, .int 0, .int 16, .int 0, .int 0])), (ns, .inl (kL, 1024, .inr (.inl zSec))), (nf, .inl (kL, 1024, .inr (.inl zFir))), (asort, .inr (1, [.int 0, .ref eD, .int 0])), (sp, .inr (12, [.int 0, .int (-1), .int 0, .int 1, .int 1, .int (-1), .int (-1), .int 0, .int 0, .int 0, .int 0, .int 0, .int 0, .int 0]))] [(kL, .long)] sz)) (va_Qv (fun (_ : Unit) => True) (fun (_ : Unit) => zEnd (dC, dI) (va_A [(aroom, .inr (9, [.ref asort, .ref anod, .ref atold, .int 3, .ref aheld, .int 0, .ref apair, .ref astep, .int 1, .int 0, .int (-1), .int 0, .int 0, .ref asize])), (anod, .inr (7, [.ref nm, .ref nl, .ref n1, .ref n2, .ref nf, .ref ns, .ref nh, .ref nk, .ref np, .int 16, .int 0, .int 16, .int 0, .int 0])), (ns, .inl (kL, 1024, .inr (.inl zSec))), (nf, .inl (kL, 1024, .inr (.inl zFir))), (asort, .inr (1, [.int 0, .ref eD, .int 0])), (sp, .inr (12, [.int 0, .int (-1), .int 0, .int 1, .int 1, .int (-1), .int (-1), .int 0, .int 0, .int 0, .int 0, .int 0, .int 0, .int 0]))] sz) [(aroom, .inr (9, [.ref asort, .ref anod, .ref atold, .int 3, .ref aheld, .int 0, .ref apair, .ref astep, .int 0, .int 0, .int 0, .int 0, .int 0, .ref asize]))] []) (va_A [(aroom, .inr (9, [.ref asort, .ref anod, .ref atold, .int 3, .ref aheld, .int 0, .ref apair, .ref astep, .int 1, .int 0, .int (-1), .int 0, .int 0, .ref asize])), (anod, .inr (7, [.ref nm, .ref nl, .ref n1, .ref n2, .ref nf, .ref ns, .ref nh, .ref nk, .ref np, .int 16, .int 0, .int 16, .int 0, .int 0])), (ns, .inl (kL, 1024, .inr (.inl zSec))), (nf, .inl (kL, 1024, .inr (.inl zFir))), (asort, .inr (1, [.int 0, .ref eD, .int 0])), (sp, .inr (12, [.int 0, .int (-1), .int 0, .int 1, .int 1, .int (-1), .int (-1), .int 0, .int 0, .int 0, .int 0, .int 0, .int 0, .int 0]))] sz)) 0 0 (va_A [(aroom, .inr (9, [.ref asort, .ref anod, .ref atold, .int 3, .ref aheld, .int 0, .ref apair, .ref astep, .int 1, .int 0, .int (-1), .int 0, .int 0, .ref asize])), (anod, .inr (7, [.ref nm, .ref nl, .ref n1, .ref n2, .ref nf, .ref ns, .ref nh, .ref nk, .ref np, .int 16, .int 0, .int 16, .int 0, .int 0])), (ns, .inl (kL, 1024, .inr (.inl zSec))), (nf, .inl (kL, 1024, .inr (.inl zFir))), (asort, .inr (1, [.int 0, .ref eD, .int 0])), (sp, .inr (12, [.int 0, .int (-1), .int 0, .int 1, .int 1, .int (-1), .int (-1), .int 0, .int 0, .int 0, .int 0, .int 0, .int 0, .int 0]))] sz) := by
  refine Met.ofW (cc := cX7_stepOrder) (maxL := 8) (ret := none) (by decide) rfl ?_
  intro p e s m args below meth c s₁ B hml hv
  obtain ⟨rfl, hsz, hP, hK, hD0, hE⟩ := hv
  have hx := B.exec
  have hb := B.bytes
  have hr := B.returns
  have hts := atoms_spec (ws := w_c_R_order_01) B.pre
  have hown : s.vm.findClass RX7 = some m.cls := findClass_of_methodNamed B.named
  have hlocks := B.notSynchronized
  subst hsz
  have hD := hD0.self (sz := s.heap.size)
  generalize hAe : va_A [(aroom, .inr (9, [.ref asort, .ref anod, .ref atold, .int 3, .ref aheld, .int 0, .ref apair, .ref astep, .int 1, .int 0, .int (-1), .int 0, .int 0, .ref asize])), (anod, .inr (7, [.ref nm, .ref nl, .ref n1, .ref n2, .ref nf, .ref ns, .ref nh, .ref nk, .ref np, .int 16, .int 0, .int 16, .int 0, .int 0])), (ns, .inl (kL, 1024, .inr (.inl zSec))), (nf, .inl (kL, 1024, .inr (.inl zFir))), (asort, .inr (1, [.int 0, .ref eD, .int 0])), (sp, .inr (12, [.int 0, .int (-1), .int 0, .int 1, .int 1, .int (-1), .int (-1), .int 0, .int 0, .int 0, .int 0, .int 0, .int 0, .int 0]))] s.heap.size = A at hD hE ⊢
  have hA : ∀ q : Nat, s.heap.size ≤ q → A q := fun q h => by rw [← hAe]; exact Or.inr h
  have hS : va_S A s.heap s.heap [] := va_S.rf
  have hP : va_P (dC, dI) vwCl [(aroom, .inr (9, [.ref asort, .ref anod, .ref atold, .int 3, .ref aheld, .int 0, .ref apair, .ref astep, .int 1, .int 0, .int (-1), .int 0, .int 0, .ref asize])), (anod, .inr (7, [.ref nm, .ref nl, .ref n1, .ref n2, .ref nf, .ref ns, .ref nh, .ref nk, .ref np, .int 16, .int 0, .int 16, .int 0, .int 0])), (ns, .inl (kL, 1024, .inr (.inl zSec))), (nf, .inl (kL, 1024, .inr (.inl zFir))), (asort, .inr (1, [.int 0, .ref eD, .int 0])), (sp, .inr (12, [.int 0, .int (-1), .int 0, .int 1, .int 1, .int (-1), .int (-1), .int 0, .int 0, .int 0, .int 0, .int 0, .int 0, .int 0]))] s.heap := hP
  have hl := lv_entry ([.ref aroom, .ref sp]) (n := 8) (Nat.le_of_ble_eq_true rfl)
  rw [lg_entry_eq]
  generalize (lg_sl ([.ref aroom, .ref sp]) ++ List.replicate (8 - (lg_sl ([.ref aroom, .ref sp])).length) Slot.unset).toArray = ls at hl ⊢
  have hl : lv_has ls 8 [(0, .ref aroom), (1, .ref sp)] := hl
  have in_RJx4a65c : ∀ w ∈ u_ws RJx4a65c TJx4a65c 3, w ∈ w_c_R_order_01 := by decide +kernel
  have in_RX10 : ∀ w ∈ u_ws RX10 TX10 14, w ∈ w_c_R_order_01 := by decide +kernel
  have in_RX5 : ∀ w ∈ u_ws RX5 TX5 14, w ∈ w_c_R_order_01 := by decide +kernel
  have in_RX7 : ∀ w ∈ u_ws RX7 TX7 14, w ∈ w_c_R_order_01 := by decide +kernel
  refine lv_aload_n hx hb dX7_stepOrder_0 rfl (lv_at hl 1 rfl) ?_
  refine lv_aload_n hx hb dX7_stepOrder_1 rfl (lv_at hl 0 rfl) ?_
  refine va_get (D := (dC, dI)) (ci := 9) (v := .ref anod) (C := RX7) (T := TX7) (N := 14) hx hb hts in_RX7 hown hK hP 0 rfl rfl 1 (by decide) (hts (.fieldLink RX7 21 "Hornbook$Room" "nodes" "LHornbook$Nodes;") (by decide +kernel)) (fun _ h9 => h9) rfl dX7_stepOrder_2 ?_
  refine lv_aload_n hx hb dX7_stepOrder_5 rfl (lv_at hl 1 rfl) ?_
  refine va_get (D := (dC, dI)) (ci := 12) (v := .int 0) (C := RX10) (T := TX10) (N := 14) hx hb hts in_RX10 hown hK hP 5 rfl rfl 2 (by decide) (hts (.fieldLink RX7 152 "Hornbook$Step" "a" "I") (by decide +kernel)) (fun _ h9 => h9) rfl dX7_stepOrder_6 ?_
  refine z_i (wr := [(aroom, .inr (9, [.ref asort, .ref anod, .ref atold, .int 3, .ref aheld, .int 0, .ref apair, .ref astep, .int 1, .int 0, .int (-1), .int 0, .int 0, .ref asize])), (nf, .inl (kL, 1024, .inr (.inl zFir))), (asort, .inr (1, [.int 0, .ref eD, .int 0])), (sp, .inr (12, [.int 0, .int (-1), .int 0, .int 1, .int 1, .int (-1), .int (-1), .int 0, .int 0, .int 0, .int 0, .int 0, .int 0, .int 0]))]) (va_runV (As := [.int 0]) (rest := [.ref sp]) ⟨hx, hb, hml, hown, hts⟩ (c_N_through_0 l eD eI ad dC dI s.heap.size anod nm nl n1 n2 nf ns nh nk np kL) (cwV 1 hts g_c_R_order_01_0 rfl rfl rfl (by decide +kernel) ⟨Nat.le_of_ble_eq_true rfl, Nat.le_of_ble_eq_true rfl⟩) (z_preV (wc := [(anod, .inr (7, [.ref nm, .ref nl, .ref n1, .ref n2, .ref nf, .ref ns, .ref nh, .ref nk, .ref np, .int 16, .int 0, .int 16, .int 0, .int 0])), (ns, .inl (kL, 1024, .inr (.inl zSec)))]) hP hD hK hS hA hE [1, 2] [0] rfl (by decide) rfl (ci := 7) (q0 := 0) rfl rfl) rfl rfl hl.1 rfl (lv_room (Nat.le_of_ble_eq_true rfl)) dX7_stepOrder_9 ⟨Nat.le_of_ble_eq_true rfl, Nat.le_of_ble_eq_true rfl⟩) hP hD hK hS hA [1, 2] [0, 3, 4, 5] rfl rfl (by decide) (by decide) (fun r_1 u H locs hw_2 hP hD hK hS => ?_)
  obtain ⟨⟩ := u
  have hP : va_P (dC, dI) vwCl [(aroom, .inr (9, [.ref asort, .ref anod, .ref atold, .int 3, .ref aheld, .int 0, .ref apair, .ref astep, .int 1, .int 0, .int (-1), .int 0, .int 0, .ref asize])), (nf, .inl (kL, 1024, .inr (.inl zFir))), (asort, .inr (1, [.int 0, .ref eD, .int 0])), (sp, .inr (12, [.int 0, .int (-1), .int 0, .int 1, .int 1, .int (-1), .int (-1), .int 0, .int 0, .int 0, .int 0, .int 0, .int 0, .int 0])), (anod, .inr (7, [.ref nm, .ref nl, .ref n1, .ref n2, .ref nf, .ref ns, .ref nh, .ref nk, .ref np, .int 16, .int 0, .int 16, .int 0, .int 0])), (ns, .inl (kL, 1024, .inr (.inl zSec)))] H := hP
  have hD : va_D A [(aroom, .inr (9, [.ref asort, .ref anod, .ref atold, .int 3, .ref aheld, .int 0, .ref apair, .ref astep, .int 1, .int 0, .int (-1), .int 0, .int 0, .ref asize])), (nf, .inl (kL, 1024, .inr (.inl zFir))), (asort, .inr (1, [.int 0, .ref eD, .int 0])), (sp, .inr (12, [.int 0, .int (-1), .int 0, .int 1, .int 1, .int (-1), .int (-1), .int 0, .int 0, .int 0, .int 0, .int 0, .int 0, .int 0])), (anod, .inr (7, [.ref nm, .ref nl, .ref n1, .ref n2, .ref nf, .ref ns, .ref nh, .ref nk, .ref np, .int 16, .int 0, .int 16, .int 0, .int 0])), (ns, .inl (kL, 1024, .inr (.inl zSec)))] := hD
  have hK : va_K (dC, dI) vwCl [(kL, .long), (kL, .long)] s := hK
  have hw_2 : r_1 = 0 := hw_2
  have hw_2 := hw_2.symm
  subst hw_2
  refine va_put (D := (dC, dI)) (ci := 12) (v := .int 0) (ty := .int) (C := RX10) (T := TX10) (N := 14) hx hb hts in_RX10 tyX10 tyX10_ok nmX10 hown hK hP hD hS 3 rfl rfl 2 (by decide) (hts (.fieldLink RX7 152 "Hornbook$Step" "a" "I") (by decide +kernel)) (fun _ h9 => h9) rfl (by decide +kernel) rfl rfl (Nat.le_of_ble_eq_true rfl) dX7_stepOrder_12 (fun H locs hP hD hS => ?_)
  have hP : va_P (dC, dI) vwCl [(aroom, .inr (9, [.ref asort, .ref anod, .ref atold, .int 3, .ref aheld, .int 0, .ref apair, .ref astep, .int 1, .int 0, .int (-1), .int 0, .int 0, .ref asize])), (nf, .inl (kL, 1024, .inr (.inl zFir))), (asort, .inr (1, [.int 0, .ref eD, .int 0])), (sp, .inr (12, [.int 0, .int (-1), .int 0, .int 1, .int 1, .int (-1), .int (-1), .int 0, .int 0, .int 0, .int 0, .int 0, .int 0, .int 0])), (anod, .inr (7, [.ref nm, .ref nl, .ref n1, .ref n2, .ref nf, .ref ns, .ref nh, .ref nk, .ref np, .int 16, .int 0, .int 16, .int 0, .int 0])), (ns, .inl (kL, 1024, .inr (.inl zSec)))] H := hP
  have hD : va_D A [(aroom, .inr (9, [.ref asort, .ref anod, .ref atold, .int 3, .ref aheld, .int 0, .ref apair, .ref astep, .int 1, .int 0, .int (-1), .int 0, .int 0, .ref asize])), (nf, .inl (kL, 1024, .inr (.inl zFir))), (asort, .inr (1, [.int 0, .ref eD, .int 0])), (sp, .inr (12, [.int 0, .int (-1), .int 0, .int 1, .int 1, .int (-1), .int (-1), .int 0, .int 0, .int 0, .int 0, .int 0, .int 0, .int 0])), (anod, .inr (7, [.ref nm, .ref nl, .ref n1, .ref n2, .ref nf, .ref ns, .ref nh, .ref nk, .ref np, .int 16, .int 0, .int 16, .int 0, .int 0])), (ns, .inl (kL, 1024, .inr (.inl zSec)))] := hD
  refine lv_aload_n hx hb dX7_stepOrder_15 rfl (lv_at hl 1 rfl) ?_
  refine lv_aload_n hx hb dX7_stepOrder_16 rfl (lv_at hl 0 rfl) ?_
  refine va_get (D := (dC, dI)) (ci := 9) (v := .ref anod) (C := RX7) (T := TX7) (N := 14) hx hb hts in_RX7 hown hK hP 0 rfl rfl 1 (by decide) (hts (.fieldLink RX7 21 "Hornbook$Room" "nodes" "LHornbook$Nodes;") (by decide +kernel)) (fun _ h9 => h9) rfl dX7_stepOrder_17 ?_
  refine lv_aload_n hx hb dX7_stepOrder_20 rfl (lv_at hl 1 rfl) ?_
  refine va_get (D := (dC, dI)) (ci := 12) (v := .int 1) (C := RX10) (T := TX10) (N := 14) hx hb hts in_RX10 hown hK hP 3 rfl rfl 3 (by decide) (hts (.fieldLink RX7 158 "Hornbook$Step" "b" "I") (by decide +kernel)) (fun _ h9 => h9) rfl dX7_stepOrder_21 ?_
  refine z_i (wr := [(aroom, .inr (9, [.ref asort, .ref anod, .ref atold, .int 3, .ref aheld, .int 0, .ref apair, .ref astep, .int 1, .int 0, .int (-1), .int 0, .int 0, .ref asize])), (nf, .inl (kL, 1024, .inr (.inl zFir))), (asort, .inr (1, [.int 0, .ref eD, .int 0])), (sp, .inr (12, [.int 0, .int (-1), .int 0, .int 1, .int 1, .int (-1), .int (-1), .int 0, .int 0, .int 0, .int 0, .int 0, .int 0, .int 0]))]) (va_runV (As := [.int 1]) (rest := [.ref sp]) ⟨hx, hb, hml, hown, hts⟩ (c_N_through_1 l eD eI ad dC dI H.size anod nm nl n1 n2 nf ns nh nk np kL) (cwV 1 hts g_c_R_order_01_1 rfl rfl rfl (by decide +kernel) ⟨Nat.le_of_ble_eq_true rfl, Nat.le_of_ble_eq_true rfl⟩) (z_preV (wc := [(anod, .inr (7, [.ref nm, .ref nl, .ref n1, .ref n2, .ref nf, .ref ns, .ref nh, .ref nk, .ref np, .int 16, .int 0, .int 16, .int 0, .int 0])), (ns, .inl (kL, 1024, .inr (.inl zSec)))]) hP hD hK hS hA hE [4, 5] [0] rfl (by decide) rfl (ci := 7) (q0 := 0) rfl rfl) rfl rfl hl.1 rfl (lv_room (Nat.le_of_ble_eq_true rfl)) dX7_stepOrder_24 ⟨Nat.le_of_ble_eq_true rfl, Nat.le_of_ble_eq_true rfl⟩) hP hD hK hS hA [4, 5] [0, 1, 2, 3] rfl rfl (by decide) (by decide) (fun r_3 u H locs hw_4 hP hD hK hS => ?_)
  obtain ⟨⟩ := u
  have hP : va_P (dC, dI) vwCl [(aroom, .inr (9, [.ref asort, .ref anod, .ref atold, .int 3, .ref aheld, .int 0, .ref apair, .ref astep, .int 1, .int 0, .int (-1), .int 0, .int 0, .ref asize])), (nf, .inl (kL, 1024, .inr (.inl zFir))), (asort, .inr (1, [.int 0, .ref eD, .int 0])), (sp, .inr (12, [.int 0, .int (-1), .int 0, .int 1, .int 1, .int (-1), .int (-1), .int 0, .int 0, .int 0, .int 0, .int 0, .int 0, .int 0])), (anod, .inr (7, [.ref nm, .ref nl, .ref n1, .ref n2, .ref nf, .ref ns, .ref nh, .ref nk, .ref np, .int 16, .int 0, .int 16, .int 0, .int 0])), (ns, .inl (kL, 1024, .inr (.inl zSec)))] H := hP
  have hD : va_D A [(aroom, .inr (9, [.ref asort, .ref anod, .ref atold, .int 3, .ref aheld, .int 0, .ref apair, .ref astep, .int 1, .int 0, .int (-1), .int 0, .int 0, .ref asize])), (nf, .inl (kL, 1024, .inr (.inl zFir))), (asort, .inr (1, [.int 0, .ref eD, .int 0])), (sp, .inr (12, [.int 0, .int (-1), .int 0, .int 1, .int 1, .int (-1), .int (-1), .int 0, .int 0, .int 0, .int 0, .int 0, .int 0, .int 0])), (anod, .inr (7, [.ref nm, .ref nl, .ref n1, .ref n2, .ref nf, .ref ns, .ref nh, .ref nk, .ref np, .int 16, .int 0, .int 16, .int 0, .int 0])), (ns, .inl (kL, 1024, .inr (.inl zSec)))] := hD
  have hK : va_K (dC, dI) vwCl [(kL, .long), (kL, .long), (kL, .long)] s := hK
  have hw_4 : r_3 = 1 := hw_4
  have hw_4 := hw_4.symm
  subst hw_4
  refine va_put (D := (dC, dI)) (ci := 12) (v := .int 1) (ty := .int) (C := RX10) (T := TX10) (N := 14) hx hb hts in_RX10 tyX10 tyX10_ok nmX10 hown hK hP hD hS 3 rfl rfl 3 (by decide) (hts (.fieldLink RX7 158 "Hornbook$Step" "b" "I") (by decide +kernel)) (fun _ h9 => h9) rfl (by decide +kernel) rfl rfl (Nat.le_of_ble_eq_true rfl) dX7_stepOrder_27 (fun H locs hP hD hS => ?_)
  have hP : va_P (dC, dI) vwCl [(aroom, .inr (9, [.ref asort, .ref anod, .ref atold, .int 3, .ref aheld, .int 0, .ref apair, .ref astep, .int 1, .int 0, .int (-1), .int 0, .int 0, .ref asize])), (nf, .inl (kL, 1024, .inr (.inl zFir))), (asort, .inr (1, [.int 0, .ref eD, .int 0])), (sp, .inr (12, [.int 0, .int (-1), .int 0, .int 1, .int 1, .int (-1), .int (-1), .int 0, .int 0, .int 0, .int 0, .int 0, .int 0, .int 0])), (anod, .inr (7, [.ref nm, .ref nl, .ref n1, .ref n2, .ref nf, .ref ns, .ref nh, .ref nk, .ref np, .int 16, .int 0, .int 16, .int 0, .int 0])), (ns, .inl (kL, 1024, .inr (.inl zSec)))] H := hP
  have hD : va_D A [(aroom, .inr (9, [.ref asort, .ref anod, .ref atold, .int 3, .ref aheld, .int 0, .ref apair, .ref astep, .int 1, .int 0, .int (-1), .int 0, .int 0, .ref asize])), (nf, .inl (kL, 1024, .inr (.inl zFir))), (asort, .inr (1, [.int 0, .ref eD, .int 0])), (sp, .inr (12, [.int 0, .int (-1), .int 0, .int 1, .int 1, .int (-1), .int (-1), .int 0, .int 0, .int 0, .int 0, .int 0, .int 0, .int 0])), (anod, .inr (7, [.ref nm, .ref nl, .ref n1, .ref n2, .ref nf, .ref ns, .ref nh, .ref nk, .ref np, .int 16, .int 0, .int 16, .int 0, .int 0])), (ns, .inl (kL, 1024, .inr (.inl zSec)))] := hD
  refine lv_aload_n hx hb dX7_stepOrder_30 rfl (lv_at hl 1 rfl) ?_
  refine lv_aload_n hx hb dX7_stepOrder_31 rfl (lv_at hl 0 rfl) ?_
  refine va_get (D := (dC, dI)) (ci := 9) (v := .ref anod) (C := RX7) (T := TX7) (N := 14) hx hb hts in_RX7 hown hK hP 0 rfl rfl 1 (by decide) (hts (.fieldLink RX7 21 "Hornbook$Room" "nodes" "LHornbook$Nodes;") (by decide +kernel)) (fun _ h9 => h9) rfl dX7_stepOrder_32 ?_
  refine lv_aload_n hx hb dX7_stepOrder_35 rfl (lv_at hl 1 rfl) ?_
  refine va_get (D := (dC, dI)) (ci := 12) (v := .int (-1)) (C := RX10) (T := TX10) (N := 14) hx hb hts in_RX10 hown hK hP 3 rfl rfl 5 (by decide) (hts (.fieldLink RX7 161 "Hornbook$Step" "x" "I") (by decide +kernel)) (fun _ h9 => h9) rfl dX7_stepOrder_36 ?_
  refine z_i (wr := [(aroom, .inr (9, [.ref asort, .ref anod, .ref atold, .int 3, .ref aheld, .int 0, .ref apair, .ref astep, .int 1, .int 0, .int (-1), .int 0, .int 0, .ref asize])), (nf, .inl (kL, 1024, .inr (.inl zFir))), (asort, .inr (1, [.int 0, .ref eD, .int 0])), (sp, .inr (12, [.int 0, .int (-1), .int 0, .int 1, .int 1, .int (-1), .int (-1), .int 0, .int 0, .int 0, .int 0, .int 0, .int 0, .int 0])), (ns, .inl (kL, 1024, .inr (.inl zSec)))]) (va_runV (As := [.int (-1)]) (rest := [.ref sp]) ⟨hx, hb, hml, hown, hts⟩ (c_N_through_n l eD eI ad dC dI H.size anod nm nl n1 n2 nf ns nh nk np) (cwV 1 hts g_c_R_order_01_2 rfl rfl rfl (by decide +kernel) ⟨Nat.le_of_ble_eq_true rfl, Nat.le_of_ble_eq_true rfl⟩) (z_preV (wc := [(anod, .inr (7, [.ref nm, .ref nl, .ref n1, .ref n2, .ref nf, .ref ns, .ref nh, .ref nk, .ref np, .int 16, .int 0, .int 16, .int 0, .int 0]))]) hP hD hK hS hA hE [4] [] rfl (by decide) rfl (ci := 7) (q0 := 0) rfl rfl) rfl rfl hl.1 rfl (lv_room (Nat.le_of_ble_eq_true rfl)) dX7_stepOrder_39 ⟨Nat.le_of_ble_eq_true rfl, Nat.le_of_ble_eq_true rfl⟩) hP hD hK hS hA [4] [0, 1, 2, 3, 5] rfl rfl (by decide) (by decide) (fun r_5 u H locs hw_6 hP hD hK hS => ?_)
  obtain ⟨⟩ := u
  have hP : va_P (dC, dI) vwCl [(aroom, .inr (9, [.ref asort, .ref anod, .ref atold, .int 3, .ref aheld, .int 0, .ref apair, .ref astep, .int 1, .int 0, .int (-1), .int 0, .int 0, .ref asize])), (nf, .inl (kL, 1024, .inr (.inl zFir))), (asort, .inr (1, [.int 0, .ref eD, .int 0])), (sp, .inr (12, [.int 0, .int (-1), .int 0, .int 1, .int 1, .int (-1), .int (-1), .int 0, .int 0, .int 0, .int 0, .int 0, .int 0, .int 0])), (ns, .inl (kL, 1024, .inr (.inl zSec))), (anod, .inr (7, [.ref nm, .ref nl, .ref n1, .ref n2, .ref nf, .ref ns, .ref nh, .ref nk, .ref np, .int 16, .int 0, .int 16, .int 0, .int 0]))] H := hP
  have hD : va_D A [(aroom, .inr (9, [.ref asort, .ref anod, .ref atold, .int 3, .ref aheld, .int 0, .ref apair, .ref astep, .int 1, .int 0, .int (-1), .int 0, .int 0, .ref asize])), (nf, .inl (kL, 1024, .inr (.inl zFir))), (asort, .inr (1, [.int 0, .ref eD, .int 0])), (sp, .inr (12, [.int 0, .int (-1), .int 0, .int 1, .int 1, .int (-1), .int (-1), .int 0, .int 0, .int 0, .int 0, .int 0, .int 0, .int 0])), (ns, .inl (kL, 1024, .inr (.inl zSec))), (anod, .inr (7, [.ref nm, .ref nl, .ref n1, .ref n2, .ref nf, .ref ns, .ref nh, .ref nk, .ref np, .int 16, .int 0, .int 16, .int 0, .int 0]))] := hD
  have hK : va_K (dC, dI) vwCl [(kL, .long), (kL, .long), (kL, .long)] s := by simpa using hK
  have hw_6 : r_5 = (-1) := hw_6
  have hw_6 := hw_6.symm
  subst hw_6
  refine va_put (D := (dC, dI)) (ci := 12) (v := .int (-1)) (ty := .int) (C := RX10) (T := TX10) (N := 14) hx hb hts in_RX10 tyX10 tyX10_ok nmX10 hown hK hP hD hS 3 rfl rfl 5 (by decide) (hts (.fieldLink RX7 161 "Hornbook$Step" "x" "I") (by decide +kernel)) (fun _ h9 => h9) rfl (by decide +kernel) rfl rfl (Nat.le_of_ble_eq_true rfl) dX7_stepOrder_42 (fun H locs hP hD hS => ?_)
  have hP : va_P (dC, dI) vwCl [(aroom, .inr (9, [.ref asort, .ref anod, .ref atold, .int 3, .ref aheld, .int 0, .ref apair, .ref astep, .int 1, .int 0, .int (-1), .int 0, .int 0, .ref asize])), (nf, .inl (kL, 1024, .inr (.inl zFir))), (asort, .inr (1, [.int 0, .ref eD, .int 0])), (sp, .inr (12, [.int 0, .int (-1), .int 0, .int 1, .int 1, .int (-1), .int (-1), .int 0, .int 0, .int 0, .int 0, .int 0, .int 0, .int 0])), (ns, .inl (kL, 1024, .inr (.inl zSec))), (anod, .inr (7, [.ref nm, .ref nl, .ref n1, .ref n2, .ref nf, .ref ns, .ref nh, .ref nk, .ref np, .int 16, .int 0, .int 16, .int 0, .int 0]))] H := hP
  have hD : va_D A [(aroom, .inr (9, [.ref asort, .ref anod, .ref atold, .int 3, .ref aheld, .int 0, .ref apair, .ref astep, .int 1, .int 0, .int (-1), .int 0, .int 0, .ref asize])), (nf, .inl (kL, 1024, .inr (.inl zFir))), (asort, .inr (1, [.int 0, .ref eD, .int 0])), (sp, .inr (12, [.int 0, .int (-1), .int 0, .int 1, .int 1, .int (-1), .int (-1), .int 0, .int 0, .int 0, .int 0, .int 0, .int 0, .int 0])), (ns, .inl (kL, 1024, .inr (.inl zSec))), (anod, .inr (7, [.ref nm, .ref nl, .ref n1, .ref n2, .ref nf, .ref ns, .ref nh, .ref nk, .ref np, .int 16, .int 0, .int 16, .int 0, .int 0]))] := hD
  refine lv_aload_n hx hb dX7_stepOrder_45 rfl (lv_at hl 1 rfl) ?_
  refine va_get (D := (dC, dI)) (ci := 12) (v := .int 0) (C := RX10) (T := TX10) (N := 14) hx hb hts in_RX10 hown hK hP 3 rfl rfl 9 (by decide) (hts (.fieldLink RX7 246 "Hornbook$Step" "phase" "I") (by decide +kernel)) (fun _ h9 => h9) rfl dX7_stepOrder_46 ?_
  refine lv_if_ne (tgt := 138) hx hb dX7_stepOrder_49 (by decide) (fun c_7 => ?_) (fun c_7 => ?_)
  · exact absurd (by decide) c_7
  refine lv_aload_n hx hb dX7_stepOrder_52 rfl (lv_at hl 0 rfl) ?_
  refine lv_aload_n hx hb dX7_stepOrder_53 rfl (lv_at hl 1 rfl) ?_
  refine va_get (D := (dC, dI)) (ci := 12) (v := .int 0) (C := RX10) (T := TX10) (N := 14) hx hb hts in_RX10 hown hK hP 3 rfl rfl 2 (by decide) (hts (.fieldLink RX7 152 "Hornbook$Step" "a" "I") (by decide +kernel)) (fun _ h9 => h9) rfl dX7_stepOrder_54 ?_
  refine lv_aload_n hx hb dX7_stepOrder_57 rfl (lv_at hl 1 rfl) ?_
  refine va_get (D := (dC, dI)) (ci := 12) (v := .int 1) (C := RX10) (T := TX10) (N := 14) hx hb hts in_RX10 hown hK hP 3 rfl rfl 3 (by decide) (hts (.fieldLink RX7 158 "Hornbook$Step" "b" "I") (by decide +kernel)) (fun _ h9 => h9) rfl dX7_stepOrder_58 ?_
  refine z_i (wr := [(sp, .inr (12, [.int 0, .int (-1), .int 0, .int 1, .int 1, .int (-1), .int (-1), .int 0, .int 0, .int 0, .int 0, .int 0, .int 0, .int 0]))]) (va_runV (As := [.int 0, .int 1]) (rest := []) ⟨hx, hb, hml, hown, hts⟩ (c_R_known_01 l eD eI ad dC dI H.size aroom anod asort atold aheld apair astep asize nm nl n1 n2 nf ns nh nk np kL) (cwV 2 hts g_c_R_order_01_3 rfl rfl rfl (by decide +kernel) ⟨Nat.le_of_ble_eq_true rfl, Nat.le_of_ble_eq_true rfl⟩) (z_preV (wc := [(aroom, .inr (9, [.ref asort, .ref anod, .ref atold, .int 3, .ref aheld, .int 0, .ref apair, .ref astep, .int 1, .int 0, .int (-1), .int 0, .int 0, .ref asize])), (anod, .inr (7, [.ref nm, .ref nl, .ref n1, .ref n2, .ref nf, .ref ns, .ref nh, .ref nk, .ref np, .int 16, .int 0, .int 16, .int 0, .int 0])), (ns, .inl (kL, 1024, .inr (.inl zSec))), (nf, .inl (kL, 1024, .inr (.inl zFir))), (asort, .inr (1, [.int 0, .ref eD, .int 0]))]) hP hD hK hS hA hE [0, 5, 4, 1, 2] [0] rfl (by decide) rfl (ci := 9) (q0 := 0) rfl rfl) rfl rfl hl.1 rfl (lv_room (Nat.le_of_ble_eq_true rfl)) dX7_stepOrder_61 ⟨Nat.le_of_ble_eq_true rfl, Nat.le_of_ble_eq_true rfl⟩) hP hD hK hS hA [0, 5, 4, 1, 2] [3] rfl rfl (by decide) (by decide) (fun r_8 u H locs hw_9 hP hD hK hS => ?_)
  obtain ⟨⟩ := u
  have hP : va_P (dC, dI) vwCl [(sp, .inr (12, [.int 0, .int (-1), .int 0, .int 1, .int 1, .int (-1), .int (-1), .int 0, .int 0, .int 0, .int 0, .int 0, .int 0, .int 0])), (aroom, .inr (9, [.ref asort, .ref anod, .ref atold, .int 3, .ref aheld, .int 0, .ref apair, .ref astep, .int 1, .int 0, .int (-1), .int 0, .int 0, .ref asize])), (anod, .inr (7, [.ref nm, .ref nl, .ref n1, .ref n2, .ref nf, .ref ns, .ref nh, .ref nk, .ref np, .int 16, .int 0, .int 16, .int 0, .int 0])), (ns, .inl (kL, 1024, .inr (.inl zSec))), (nf, .inl (kL, 1024, .inr (.inl zFir))), (asort, .inr (1, [.int 0, .ref eD, .int 0]))] H := hP
  have hD : va_D A [(sp, .inr (12, [.int 0, .int (-1), .int 0, .int 1, .int 1, .int (-1), .int (-1), .int 0, .int 0, .int 0, .int 0, .int 0, .int 0, .int 0])), (aroom, .inr (9, [.ref asort, .ref anod, .ref atold, .int 3, .ref aheld, .int 0, .ref apair, .ref astep, .int 1, .int 0, .int (-1), .int 0, .int 0, .ref asize])), (anod, .inr (7, [.ref nm, .ref nl, .ref n1, .ref n2, .ref nf, .ref ns, .ref nh, .ref nk, .ref np, .int 16, .int 0, .int 16, .int 0, .int 0])), (ns, .inl (kL, 1024, .inr (.inl zSec))), (nf, .inl (kL, 1024, .inr (.inl zFir))), (asort, .inr (1, [.int 0, .ref eD, .int 0]))] := hD
  have hK : va_K (dC, dI) vwCl [(kL, .long), (kL, .long), (kL, .long), (kL, .long)] s := hK
  have hw_9 : r_8 = 0 := hw_9
  have hw_9 := hw_9.symm
  subst hw_9
  refine lv_istore_n (lv' := [(2, .int 0), (0, .ref aroom), (1, .ref sp)]) hx hb dX7_stepOrder_64 rfl hl (by decide) rfl (fun ls hl => ?_)
  refine lv_iload_n hx hb dX7_stepOrder_65 rfl (lv_at hl 0 rfl) ?_
  refine lv_iconst (v := (-1)) hx hb dX7_stepOrder_66 (by decide) ?_
  refine lv_icmp_eq (tgt := 76) hx hb dX7_stepOrder_67 (by decide) (fun c_10 => ?_) (fun c_10 => ?_)
  · exact absurd c_10 (by decide)
  refine lv_aload_n hx hb dX7_stepOrder_70 rfl (lv_at hl 1 rfl) ?_
  refine lv_iload_n hx hb dX7_stepOrder_71 rfl (lv_at hl 0 rfl) ?_
  refine z_v (wr := [(sp, .inr (12, [.int 0, .int (-1), .int 0, .int 1, .int 1, .int (-1), .int (-1), .int 0, .int 0, .int 0, .int 0, .int 0, .int 0, .int 0])), (anod, .inr (7, [.ref nm, .ref nl, .ref n1, .ref n2, .ref nf, .ref ns, .ref nh, .ref nk, .ref np, .int 16, .int 0, .int 16, .int 0, .int 0])), (ns, .inl (kL, 1024, .inr (.inl zSec))), (nf, .inl (kL, 1024, .inr (.inl zFir))), (asort, .inr (1, [.int 0, .ref eD, .int 0]))]) (va_runV (As := [.int 0]) (rest := []) ⟨hx, hb, hml, hown, hts⟩ (c_R_answer l eD eI ad dC dI H.size aroom anod asort atold aheld apair astep asize 0 0 0) (cwV 1 hts g_c_R_order_01_4 rfl rfl rfl (by decide +kernel) ⟨Nat.le_of_ble_eq_true rfl, Nat.le_of_ble_eq_true rfl⟩) (z_preV (wc := [(aroom, .inr (9, [.ref asort, .ref anod, .ref atold, .int 3, .ref aheld, .int 0, .ref apair, .ref astep, .int 1, .int 0, .int (-1), .int 0, .int 0, .ref asize]))]) hP hD hK hS hA hE [1] [] rfl (by decide) rfl (ci := 9) (q0 := 0) rfl rfl) rfl rfl hl.1 rfl (lv_room (Nat.le_of_ble_eq_true rfl)) dX7_stepOrder_72 ⟨Nat.le_of_ble_eq_true rfl, Nat.le_of_ble_eq_true rfl⟩) hP hD hK hS hA [1] [0, 2, 3, 4, 5] rfl rfl (by decide) (by decide) (fun u H locs hw_12 hP hD hK hS => ?_)
  obtain ⟨⟩ := u
  have hP : va_P (dC, dI) vwCl [(sp, .inr (12, [.int 0, .int (-1), .int 0, .int 1, .int 1, .int (-1), .int (-1), .int 0, .int 0, .int 0, .int 0, .int 0, .int 0, .int 0])), (anod, .inr (7, [.ref nm, .ref nl, .ref n1, .ref n2, .ref nf, .ref ns, .ref nh, .ref nk, .ref np, .int 16, .int 0, .int 16, .int 0, .int 0])), (ns, .inl (kL, 1024, .inr (.inl zSec))), (nf, .inl (kL, 1024, .inr (.inl zFir))), (asort, .inr (1, [.int 0, .ref eD, .int 0])), (aroom, .inr (9, [.ref asort, .ref anod, .ref atold, .int 3, .ref aheld, .int 0, .ref apair, .ref astep, .int 0, .int 0, .int 0, .int 0, .int 0, .ref asize]))] H := hP
  have hD : va_D A [(sp, .inr (12, [.int 0, .int (-1), .int 0, .int 1, .int 1, .int (-1), .int (-1), .int 0, .int 0, .int 0, .int 0, .int 0, .int 0, .int 0])), (anod, .inr (7, [.ref nm, .ref nl, .ref n1, .ref n2, .ref nf, .ref ns, .ref nh, .ref nk, .ref np, .int 16, .int 0, .int 16, .int 0, .int 0])), (ns, .inl (kL, 1024, .inr (.inl zSec))), (nf, .inl (kL, 1024, .inr (.inl zFir))), (asort, .inr (1, [.int 0, .ref eD, .int 0])), (aroom, .inr (9, [.ref asort, .ref anod, .ref atold, .int 3, .ref aheld, .int 0, .ref apair, .ref astep, .int 0, .int 0, .int 0, .int 0, .int 0, .ref asize]))] := hD
  have hK : va_K (dC, dI) vwCl [(kL, .long), (kL, .long), (kL, .long), (kL, .long)] s := by simpa using hK
  have hP9 := hP.sub (ws' := [(aroom, .inr (9, [.ref asort, .ref anod, .ref atold, .int 3, .ref aheld, .int 0, .ref apair, .ref astep, .int 0, .int 0, .int 0, .int 0, .int 0, .ref asize]))]) [5] rfl
  have hD9 := hD.sub (ws' := [(aroom, .inr (9, [.ref asort, .ref anod, .ref atold, .int 3, .ref aheld, .int 0, .ref apair, .ref astep, .int 0, .int 0, .int 0, .int 0, .int 0, .ref asize]))]) [5] (by decide) rfl
  have hK9 := hK.sub (tys' := []) [] rfl
  refine W.widen (k := 0) (n := 0) (Nat.le_of_ble_eq_true rfl) (Nat.le_of_ble_eq_true rfl) ?_
  exact W.vret hx hb hr (fun t ht hW => ⟨⟨(), rfl, trivial, ⟨by rw [ht]; exact hP9, va_K.moved hW.alike hK9, hD9⟩⟩, hS.F ht⟩) hS.2.2 dX7_stepOrder_75

def wb_c_R_known_02 : List Cond := [.fieldLink RX7 21 "Hornbook$Room" "nodes" "LHornbook$Nodes;", .code yX5_isJoin cX5_isJoin 2 (some .boolean), .fieldLink RX5 28 "Hornbook$Nodes" "second" "[J", .fieldLink RX5 24 "Hornbook$Nodes" "first" "[J", .methodLink RX7 197 yX5_isJoin, .instanceMethod yX5_isJoin, .selects RX5 yX5_isJoin yX5_isJoin, .initialized RX5, .code yX5_formOf cX5_formOf 2 (some .int), .methodLink RX7 187 yX5_formOf, .instanceMethod yX5_formOf, .selects RX5 yX5_formOf yX5_formOf, .fieldLink RX7 12 "Hornbook$Room" "sorts" "Ljava/util/ArrayList;", .code yJx4a65c_size_8abf5 cJx4a65c_size_8abf5 1 (some .int), .fieldLink RJx4a65c 48 "java/util/ArrayList" "size" "I", .methodLink RX7 139 yJx4a65c_size_8abf5, .instanceMethod yJx4a65c_size_8abf5, .selects RJx4a65c yJx4a65c_size_8abf5 yJx4a65c_size_8abf5, .initialized RJx4a65c] ++ u_ws RJx4a65c TJx4a65c 3 ++ u_ws RX5 TX5 14 ++ u_ws RX7 TX7 14
def w_c_R_known_02 : List Cond := .code yX7_known cX7_known 5 (some .int) :: wb_c_R_known_02
set_option maxRecDepth 100000 in
theorem g_c_R_known_02_0 : GoodIn w_c_R_known_02 (wsV RX7 197 RX5 yX5_isJoin w_c_N_isJoin_2) := goodIn_app (goodIn_of _ (by decide +kernel)) (goodIn_p (big := w_c_R_known_02) (.code yX5_isJoin cX5_isJoin 2 (some .boolean) :: wb_c_N_isJoin_2) [2] rfl (by decide +kernel))
set_option maxRecDepth 100000 in
theorem g_c_R_known_02_1 : GoodIn w_c_R_known_02 (wsV RX7 187 RX5 yX5_formOf w_c_N_form_0) := goodIn_app (goodIn_of _ (by decide +kernel)) (goodIn_p (big := w_c_R_known_02) (.code yX5_formOf cX5_formOf 2 (some .int) :: wb_c_N_form_0) [9] rfl (by decide +kernel))
set_option maxRecDepth 100000 in
theorem g_c_R_known_02_2 : GoodIn w_c_R_known_02 (wsV RX7 187 RX5 yX5_formOf w_c_N_form_2) := goodIn_app (goodIn_of _ (by decide +kernel)) (goodIn_p (big := w_c_R_known_02) (.code yX5_formOf cX5_formOf 2 (some .int) :: wb_c_N_form_2) [9] rfl (by decide +kernel))
set_option maxRecDepth 100000 in
theorem g_c_R_known_02_3 : GoodIn w_c_R_known_02 (wsV RX7 139 RJx4a65c yJx4a65c_size_8abf5 w_c_AL_size) := goodIn_app (goodIn_of _ (by decide +kernel)) (goodIn_p (big := w_c_R_known_02) (.code yJx4a65c_size_8abf5 cJx4a65c_size_8abf5 1 (some .int) :: wb_c_AL_size) [14] rfl (by decide +kernel))
set_option maxHeartbeats 4000000 in
set_option maxRecDepth 100000 in
theorem c_R_known_02 (l : Launch) (eD eI : Nat) (ad : Nat → Nat) (dC : Nat → ClassId) (dI : Nat → Nat → Nat) (sz : Nat) (aroom : Nat) (anod : Nat) (asort : Nat) (atold : Nat) (aheld : Nat) (apair : Nat) (astep : Nat) (asize : Nat) (nm : Nat) (nl : Nat) (n1 : Nat) (n2 : Nat) (nf : Nat) (ns : Nat) (nh : Nat) (nk : Nat) (np : Nat) (kL : ClassId) : Met l yX7_known w_c_R_known_02 ({ frames := 1, cells := 0, slots := 0, locals := 21 }) (va_Pc [.ref aroom, .int 0, .int 2] (zPre eD eI ad (dC, dI) [(aroom, .inr (9, [.ref asort, .ref anod, .ref atold, .int 3, .ref aheld, .int 0, .ref apair, .ref astep, .int 1, .int 0, .int (-1), .int 0, .int 0, .ref asize])), (anod, .inr (7, [.ref nm, .ref nl, .ref n1, .ref n2, .ref nf, .ref ns, .ref nh, .ref nk, .ref np, .int 16, .int 0, .int 16, .int 0, .int 0])), (ns, .inl (kL, 1024, .inr (.inl zSec))), (nf, .inl (kL, 1024, .inr (.inl zFir))), (asort, .inr (1, [.int 0, .ref eD, .int 0]))] [(kL, .long)] sz)) (va_Qi (fun (r : Int32) (_ : Unit) => r = 0) (fun (_ : Unit) => zEnd (dC, dI) (va_A [(aroom, .inr (9, [.ref asort, .ref anod, .ref atold, .int 3, .ref aheld, .int 0, .ref apair, .ref astep, .int 1, .int 0, .int (-1), .int 0, .int 0, .ref asize])), (anod, .inr (7, [.ref nm, .ref nl, .ref n1, .ref n2, .ref nf, .ref ns, .ref nh, .ref nk, .ref np, .int 16, .int 0, .int 16, .int 0, .int 0])), (ns, .inl (kL, 1024, .inr (.inl zSec))), (nf, .inl (kL, 1024, .inr (.inl zFir))), (asort, .inr (1, [.int 0, .ref eD, .int 0]))] sz) [(aroom, .inr (9, [.ref asort, .ref anod, .ref atold, .int 3, .ref aheld, .int 0, .ref apair, .ref astep, .int 1, .int 0, .int (-1), .int 0, .int 0, .ref asize])), (anod, .inr (7, [.ref nm, .ref nl, .ref n1, .ref n2, .ref nf, .ref ns, .ref nh, .ref nk, .ref np, .int 16, .int 0, .int 16, .int 0, .int 0])), (ns, .inl (kL, 1024, .inr (.inl zSec))), (nf, .inl (kL, 1024, .inr (.inl zFir))), (asort, .inr (1, [.int 0, .ref eD, .int 0]))] [(kL, .long)]) (va_A [(aroom, .inr (9, [.ref asort, .ref anod, .ref atold, .int 3, .ref aheld, .int 0, .ref apair, .ref astep, .int 1, .int 0, .int (-1), .int 0, .int 0, .ref asize])), (anod, .inr (7, [.ref nm, .ref nl, .ref n1, .ref n2, .ref nf, .ref ns, .ref nh, .ref nk, .ref np, .int 16, .int 0, .int 16, .int 0, .int 0])), (ns, .inl (kL, 1024, .inr (.inl zSec))), (nf, .inl (kL, 1024, .inr (.inl zFir))), (asort, .inr (1, [.int 0, .ref eD, .int 0]))] sz)) 0 0 (va_A [(aroom, .inr (9, [.ref asort, .ref anod, .ref atold, .int 3, .ref aheld, .int 0, .ref apair, .ref astep, .int 1, .int 0, .int (-1), .int 0, .int 0, .ref asize])), (anod, .inr (7, [.ref nm, .ref nl, .ref n1, .ref n2, .ref nf, .ref ns, .ref nh, .ref nk, .ref np, .int 16, .int 0, .int 16, .int 0, .int 0])), (ns, .inl (kL, 1024, .inr (.inl zSec))), (nf, .inl (kL, 1024, .inr (.inl zFir))), (asort, .inr (1, [.int 0, .ref eD, .int 0]))] sz) := by
  refine Met.ofW (cc := cX7_known) (maxL := 5) (ret := (some .int)) (by decide) rfl ?_
  intro p e s m args below meth c s₁ B hml hv
  obtain ⟨rfl, hsz, hP, hK, hD0, hE⟩ := hv
  have hx := B.exec
  have hb := B.bytes
  have hr := B.returns
  have hts := atoms_spec (ws := w_c_R_known_02) B.pre
  have hown : s.vm.findClass RX7 = some m.cls := findClass_of_methodNamed B.named
  have hlocks := B.notSynchronized
  subst hsz
  have hD := hD0.self (sz := s.heap.size)
  generalize hAe : va_A [(aroom, .inr (9, [.ref asort, .ref anod, .ref atold, .int 3, .ref aheld, .int 0, .ref apair, .ref astep, .int 1, .int 0, .int (-1), .int 0, .int 0, .ref asize])), (anod, .inr (7, [.ref nm, .ref nl, .ref n1, .ref n2, .ref nf, .ref ns, .ref nh, .ref nk, .ref np, .int 16, .int 0, .int 16, .int 0, .int 0])), (ns, .inl (kL, 1024, .inr (.inl zSec))), (nf, .inl (kL, 1024, .inr (.inl zFir))), (asort, .inr (1, [.int 0, .ref eD, .int 0]))] s.heap.size = A at hD hE ⊢
  have hA : ∀ q : Nat, s.heap.size ≤ q → A q := fun q h => by rw [← hAe]; exact Or.inr h
  have hS : va_S A s.heap s.heap [] := va_S.rf
  have hP : va_P (dC, dI) vwCl [(aroom, .inr (9, [.ref asort, .ref anod, .ref atold, .int 3, .ref aheld, .int 0, .ref apair, .ref astep, .int 1, .int 0, .int (-1), .int 0, .int 0, .ref asize])), (anod, .inr (7, [.ref nm, .ref nl, .ref n1, .ref n2, .ref nf, .ref ns, .ref nh, .ref nk, .ref np, .int 16, .int 0, .int 16, .int 0, .int 0])), (ns, .inl (kL, 1024, .inr (.inl zSec))), (nf, .inl (kL, 1024, .inr (.inl zFir))), (asort, .inr (1, [.int 0, .ref eD, .int 0]))] s.heap := hP
  have hl := lv_entry ([.ref aroom, .int 0, .int 2]) (n := 5) (Nat.le_of_ble_eq_true rfl)
  rw [lg_entry_eq]
  generalize (lg_sl ([.ref aroom, .int 0, .int 2]) ++ List.replicate (5 - (lg_sl ([.ref aroom, .int 0, .int 2])).length) Slot.unset).toArray = ls at hl ⊢
  have hl : lv_has ls 5 [(0, .ref aroom), (1, .int 0), (2, .int 2)] := hl
  have in_RJx4a65c : ∀ w ∈ u_ws RJx4a65c TJx4a65c 3, w ∈ w_c_R_known_02 := by decide +kernel
  have in_RX5 : ∀ w ∈ u_ws RX5 TX5 14, w ∈ w_c_R_known_02 := by decide +kernel
  have in_RX7 : ∀ w ∈ u_ws RX7 TX7 14, w ∈ w_c_R_known_02 := by decide +kernel
  refine lv_iload_n hx hb dX7_known_0 rfl (lv_at hl 1 rfl) ?_
  refine lv_iload_n hx hb dX7_known_1 rfl (lv_at hl 2 rfl) ?_
  refine lv_icmp_eq (tgt := 14) hx hb dX7_known_2 (by decide) (fun c_1 => ?_) (fun c_1 => ?_)
  · exact absurd c_1 (by decide)
  refine lv_iload_n hx hb dX7_known_5 rfl (lv_at hl 1 rfl) ?_
  refine lv_iconst (v := 1) hx hb dX7_known_6 (by decide) ?_
  refine lv_icmp_eq (tgt := 14) hx hb dX7_known_7 (by decide) (fun c_2 => ?_) (fun c_2 => ?_)
  · exact absurd c_2 (by decide)
  refine lv_iload_n hx hb dX7_known_10 rfl (lv_at hl 2 rfl) ?_
  refine lv_if_ne (tgt := 16) hx hb dX7_known_11 (by decide) (fun c_3 => ?_) (fun c_3 => ?_)
  rotate_left
  · exact absurd c_3 (by decide)
  refine lv_aload_n hx hb dX7_known_16 rfl (lv_at hl 0 rfl) ?_
  refine va_get (D := (dC, dI)) (ci := 9) (v := .ref anod) (C := RX7) (T := TX7) (N := 14) hx hb hts in_RX7 hown hK hP 0 rfl rfl 1 (by decide) (hts (.fieldLink RX7 21 "Hornbook$Room" "nodes" "LHornbook$Nodes;") (by decide +kernel)) (fun _ h9 => h9) rfl dX7_known_17 ?_
  refine lv_iload_n hx hb dX7_known_20 rfl (lv_at hl 2 rfl) ?_
  refine z_i (wr := [(aroom, .inr (9, [.ref asort, .ref anod, .ref atold, .int 3, .ref aheld, .int 0, .ref apair, .ref astep, .int 1, .int 0, .int (-1), .int 0, .int 0, .ref asize])), (asort, .inr (1, [.int 0, .ref eD, .int 0]))]) (va_runV (As := [.int 2]) (rest := []) ⟨hx, hb, hml, hown, hts⟩ (c_N_isJoin_2 l eD eI ad dC dI s.heap.size anod nm nl n1 n2 nf ns nh nk np kL) (cwV 1 hts g_c_R_known_02_0 rfl rfl rfl (by decide +kernel) ⟨Nat.le_of_ble_eq_true rfl, Nat.le_of_ble_eq_true rfl⟩) (z_preV (wc := [(anod, .inr (7, [.ref nm, .ref nl, .ref n1, .ref n2, .ref nf, .ref ns, .ref nh, .ref nk, .ref np, .int 16, .int 0, .int 16, .int 0, .int 0])), (ns, .inl (kL, 1024, .inr (.inl zSec))), (nf, .inl (kL, 1024, .inr (.inl zFir)))]) hP hD hK hS hA hE [1, 2, 3] [0] rfl (by decide) rfl (ci := 7) (q0 := 0) rfl rfl) rfl rfl hl.1 rfl (lv_room (Nat.le_of_ble_eq_true rfl)) dX7_known_21 ⟨Nat.le_of_ble_eq_true rfl, Nat.le_of_ble_eq_true rfl⟩) hP hD hK hS hA [1, 2, 3] [0, 4] rfl rfl (by decide) (by decide) (fun r_4 u H locs hw_5 hP hD hK hS => ?_)
  obtain ⟨⟩ := u
  have hP : va_P (dC, dI) vwCl [(aroom, .inr (9, [.ref asort, .ref anod, .ref atold, .int 3, .ref aheld, .int 0, .ref apair, .ref astep, .int 1, .int 0, .int (-1), .int 0, .int 0, .ref asize])), (asort, .inr (1, [.int 0, .ref eD, .int 0])), (anod, .inr (7, [.ref nm, .ref nl, .ref n1, .ref n2, .ref nf, .ref ns, .ref nh, .ref nk, .ref np, .int 16, .int 0, .int 16, .int 0, .int 0])), (ns, .inl (kL, 1024, .inr (.inl zSec))), (nf, .inl (kL, 1024, .inr (.inl zFir)))] H := hP
  have hD : va_D A [(aroom, .inr (9, [.ref asort, .ref anod, .ref atold, .int 3, .ref aheld, .int 0, .ref apair, .ref astep, .int 1, .int 0, .int (-1), .int 0, .int 0, .ref asize])), (asort, .inr (1, [.int 0, .ref eD, .int 0])), (anod, .inr (7, [.ref nm, .ref nl, .ref n1, .ref n2, .ref nf, .ref ns, .ref nh, .ref nk, .ref np, .int 16, .int 0, .int 16, .int 0, .int 0])), (ns, .inl (kL, 1024, .inr (.inl zSec))), (nf, .inl (kL, 1024, .inr (.inl zFir)))] := hD
  have hK : va_K (dC, dI) vwCl [(kL, .long), (kL, .long)] s := hK
  have hw_5 : r_4 = 0 := hw_5
  have hw_5 := hw_5.symm
  subst hw_5
  refine lv_if_eq (tgt := 55) hx hb dX7_known_24 (by decide) (fun c_6 => ?_) (fun c_6 => ?_)
  rotate_left
  · exact absurd (by decide) c_6
  refine lv_aload_n hx hb dX7_known_55 rfl (lv_at hl 0 rfl) ?_
  refine va_get (D := (dC, dI)) (ci := 9) (v := .ref anod) (C := RX7) (T := TX7) (N := 14) hx hb hts in_RX7 hown hK hP 0 rfl rfl 1 (by decide) (hts (.fieldLink RX7 21 "Hornbook$Room" "nodes" "LHornbook$Nodes;") (by decide +kernel)) (fun _ h9 => h9) rfl dX7_known_56 ?_
  refine lv_iload_n hx hb dX7_known_59 rfl (lv_at hl 1 rfl) ?_
  refine z_i (wr := [(aroom, .inr (9, [.ref asort, .ref anod, .ref atold, .int 3, .ref aheld, .int 0, .ref apair, .ref astep, .int 1, .int 0, .int (-1), .int 0, .int 0, .ref asize])), (asort, .inr (1, [.int 0, .ref eD, .int 0])), (nf, .inl (kL, 1024, .inr (.inl zFir)))]) (va_runV (As := [.int 0]) (rest := []) ⟨hx, hb, hml, hown, hts⟩ (c_N_form_0 l eD eI ad dC dI H.size anod nm nl n1 n2 nf ns nh nk np kL) (cwV 1 hts g_c_R_known_02_1 rfl rfl rfl (by decide +kernel) ⟨Nat.le_of_ble_eq_true rfl, Nat.le_of_ble_eq_true rfl⟩) (z_preV (wc := [(anod, .inr (7, [.ref nm, .ref nl, .ref n1, .ref n2, .ref nf, .ref ns, .ref nh, .ref nk, .ref np, .int 16, .int 0, .int 16, .int 0, .int 0])), (ns, .inl (kL, 1024, .inr (.inl zSec)))]) hP hD hK hS hA hE [2, 3] [0] rfl (by decide) rfl (ci := 7) (q0 := 0) rfl rfl) rfl rfl hl.1 rfl (lv_room (Nat.le_of_ble_eq_true rfl)) dX7_known_60 ⟨Nat.le_of_ble_eq_true rfl, Nat.le_of_ble_eq_true rfl⟩) hP hD hK hS hA [2, 3] [0, 1, 4] rfl rfl (by decide) (by decide) (fun r_7 u H locs hw_8 hP hD hK hS => ?_)
  obtain ⟨⟩ := u
  have hP : va_P (dC, dI) vwCl [(aroom, .inr (9, [.ref asort, .ref anod, .ref atold, .int 3, .ref aheld, .int 0, .ref apair, .ref astep, .int 1, .int 0, .int (-1), .int 0, .int 0, .ref asize])), (asort, .inr (1, [.int 0, .ref eD, .int 0])), (nf, .inl (kL, 1024, .inr (.inl zFir))), (anod, .inr (7, [.ref nm, .ref nl, .ref n1, .ref n2, .ref nf, .ref ns, .ref nh, .ref nk, .ref np, .int 16, .int 0, .int 16, .int 0, .int 0])), (ns, .inl (kL, 1024, .inr (.inl zSec)))] H := hP
  have hD : va_D A [(aroom, .inr (9, [.ref asort, .ref anod, .ref atold, .int 3, .ref aheld, .int 0, .ref apair, .ref astep, .int 1, .int 0, .int (-1), .int 0, .int 0, .ref asize])), (asort, .inr (1, [.int 0, .ref eD, .int 0])), (nf, .inl (kL, 1024, .inr (.inl zFir))), (anod, .inr (7, [.ref nm, .ref nl, .ref n1, .ref n2, .ref nf, .ref ns, .ref nh, .ref nk, .ref np, .int 16, .int 0, .int 16, .int 0, .int 0])), (ns, .inl (kL, 1024, .inr (.inl zSec)))] := hD
  have hK : va_K (dC, dI) vwCl [(kL, .long), (kL, .long), (kL, .long)] s := hK
  have hw_8 : r_7 = 14 := hw_8
  have hw_8 := hw_8.symm
  subst hw_8
  refine lv_istore_n (lv' := [(3, .int 14), (0, .ref aroom), (1, .int 0), (2, .int 2)]) hx hb dX7_known_63 rfl hl (by decide) rfl (fun ls hl => ?_)
  refine lv_aload_n hx hb dX7_known_64 rfl (lv_at hl 1 rfl) ?_
  refine va_get (D := (dC, dI)) (ci := 9) (v := .ref anod) (C := RX7) (T := TX7) (N := 14) hx hb hts in_RX7 hown hK hP 0 rfl rfl 1 (by decide) (hts (.fieldLink RX7 21 "Hornbook$Room" "nodes" "LHornbook$Nodes;") (by decide +kernel)) (fun _ h9 => h9) rfl dX7_known_65 ?_
  refine lv_iload_n hx hb dX7_known_68 rfl (lv_at hl 3 rfl) ?_
  refine z_i (wr := [(aroom, .inr (9, [.ref asort, .ref anod, .ref atold, .int 3, .ref aheld, .int 0, .ref apair, .ref astep, .int 1, .int 0, .int (-1), .int 0, .int 0, .ref asize])), (asort, .inr (1, [.int 0, .ref eD, .int 0])), (nf, .inl (kL, 1024, .inr (.inl zFir)))]) (va_runV (As := [.int 2]) (rest := []) ⟨hx, hb, hml, hown, hts⟩ (c_N_form_2 l eD eI ad dC dI H.size anod nm nl n1 n2 nf ns nh nk np kL) (cwV 1 hts g_c_R_known_02_2 rfl rfl rfl (by decide +kernel) ⟨Nat.le_of_ble_eq_true rfl, Nat.le_of_ble_eq_true rfl⟩) (z_preV (wc := [(anod, .inr (7, [.ref nm, .ref nl, .ref n1, .ref n2, .ref nf, .ref ns, .ref nh, .ref nk, .ref np, .int 16, .int 0, .int 16, .int 0, .int 0])), (ns, .inl (kL, 1024, .inr (.inl zSec)))]) hP hD hK hS hA hE [3, 4] [0] rfl (by decide) rfl (ci := 7) (q0 := 0) rfl rfl) rfl rfl hl.1 rfl (lv_room (Nat.le_of_ble_eq_true rfl)) dX7_known_69 ⟨Nat.le_of_ble_eq_true rfl, Nat.le_of_ble_eq_true rfl⟩) hP hD hK hS hA [3, 4] [0, 1, 2] rfl rfl (by decide) (by decide) (fun r_9 u H locs hw_10 hP hD hK hS => ?_)
  obtain ⟨⟩ := u
  have hP : va_P (dC, dI) vwCl [(aroom, .inr (9, [.ref asort, .ref anod, .ref atold, .int 3, .ref aheld, .int 0, .ref apair, .ref astep, .int 1, .int 0, .int (-1), .int 0, .int 0, .ref asize])), (asort, .inr (1, [.int 0, .ref eD, .int 0])), (nf, .inl (kL, 1024, .inr (.inl zFir))), (anod, .inr (7, [.ref nm, .ref nl, .ref n1, .ref n2, .ref nf, .ref ns, .ref nh, .ref nk, .ref np, .int 16, .int 0, .int 16, .int 0, .int 0])), (ns, .inl (kL, 1024, .inr (.inl zSec)))] H := hP
  have hD : va_D A [(aroom, .inr (9, [.ref asort, .ref anod, .ref atold, .int 3, .ref aheld, .int 0, .ref apair, .ref astep, .int 1, .int 0, .int (-1), .int 0, .int 0, .ref asize])), (asort, .inr (1, [.int 0, .ref eD, .int 0])), (nf, .inl (kL, 1024, .inr (.inl zFir))), (anod, .inr (7, [.ref nm, .ref nl, .ref n1, .ref n2, .ref nf, .ref ns, .ref nh, .ref nk, .ref np, .int 16, .int 0, .int 16, .int 0, .int 0])), (ns, .inl (kL, 1024, .inr (.inl zSec)))] := hD
  have hK : va_K (dC, dI) vwCl [(kL, .long), (kL, .long), (kL, .long), (kL, .long)] s := hK
  have hw_10 : r_9 = 14 := hw_10
  have hw_10 := hw_10.symm
  subst hw_10
  refine lv_istore (lv' := [(4, .int 14), (3, .int 14), (0, .ref aroom), (1, .int 0), (2, .int 2)]) hx hb dX7_known_72 hl (by decide) rfl (fun ls hl => ?_)
  refine lv_iload_n hx hb dX7_known_74 rfl (lv_at hl 1 rfl) ?_
  refine lv_bipush (v := 12) hx hb dX7_known_75 (by decide) ?_
  refine lv_icmp_eq (tgt := 87) hx hb dX7_known_77 (by decide) (fun c_11 => ?_) (fun c_11 => ?_)
  · exact absurd c_11 (by decide)
  refine lv_iload hx hb dX7_known_80 (lv_at hl 0 rfl) ?_
  refine lv_bipush (v := 12) hx hb dX7_known_82 (by decide) ?_
  refine lv_icmp_ne (tgt := 89) hx hb dX7_known_84 (by decide) (fun c_12 => ?_) (fun c_12 => ?_)
  rotate_left
  · exact absurd c_12 (by decide)
  refine lv_iload_n hx hb dX7_known_89 rfl (lv_at hl 1 rfl) ?_
  refine lv_aload_n hx hb dX7_known_90 rfl (lv_at hl 2 rfl) ?_
  refine va_get (D := (dC, dI)) (ci := 9) (v := .ref asort) (C := RX7) (T := TX7) (N := 14) hx hb hts in_RX7 hown hK hP 0 rfl rfl 0 (by decide) (hts (.fieldLink RX7 12 "Hornbook$Room" "sorts" "Ljava/util/ArrayList;") (by decide +kernel)) (fun _ h9 => h9) rfl dX7_known_91 ?_
  refine z_i (wr := [(aroom, .inr (9, [.ref asort, .ref anod, .ref atold, .int 3, .ref aheld, .int 0, .ref apair, .ref astep, .int 1, .int 0, .int (-1), .int 0, .int 0, .ref asize])), (nf, .inl (kL, 1024, .inr (.inl zFir))), (anod, .inr (7, [.ref nm, .ref nl, .ref n1, .ref n2, .ref nf, .ref ns, .ref nh, .ref nk, .ref np, .int 16, .int 0, .int 16, .int 0, .int 0])), (ns, .inl (kL, 1024, .inr (.inl zSec)))]) (va_runV (As := []) (rest := [.int 14]) ⟨hx, hb, hml, hown, hts⟩ (c_AL_size l eD eI ad dC dI H.size asort ((.int 0)) ((.ref eD)) 0) (cwV 0 hts g_c_R_known_02_3 rfl rfl rfl (by decide +kernel) ⟨Nat.le_of_ble_eq_true rfl, Nat.le_of_ble_eq_true rfl⟩) (z_preV (wc := [(asort, .inr (1, [.int 0, .ref eD, .int 0]))]) hP hD hK hS hA hE [1] [] rfl (by decide) rfl (ci := 1) (q0 := 0) rfl rfl) rfl rfl hl.1 rfl (lv_room (Nat.le_of_ble_eq_true rfl)) dX7_known_94 ⟨Nat.le_of_ble_eq_true rfl, Nat.le_of_ble_eq_true rfl⟩) hP hD hK hS hA [1] [0, 2, 3, 4] rfl rfl (by decide) (by decide) (fun r_13 u H locs hw_14 hP hD hK hS => ?_)
  obtain ⟨⟩ := u
  have hP : va_P (dC, dI) vwCl [(aroom, .inr (9, [.ref asort, .ref anod, .ref atold, .int 3, .ref aheld, .int 0, .ref apair, .ref astep, .int 1, .int 0, .int (-1), .int 0, .int 0, .ref asize])), (nf, .inl (kL, 1024, .inr (.inl zFir))), (anod, .inr (7, [.ref nm, .ref nl, .ref n1, .ref n2, .ref nf, .ref ns, .ref nh, .ref nk, .ref np, .int 16, .int 0, .int 16, .int 0, .int 0])), (ns, .inl (kL, 1024, .inr (.inl zSec))), (asort, .inr (1, [.int 0, .ref eD, .int 0]))] H := hP
  have hD : va_D A [(aroom, .inr (9, [.ref asort, .ref anod, .ref atold, .int 3, .ref aheld, .int 0, .ref apair, .ref astep, .int 1, .int 0, .int (-1), .int 0, .int 0, .ref asize])), (nf, .inl (kL, 1024, .inr (.inl zFir))), (anod, .inr (7, [.ref nm, .ref nl, .ref n1, .ref n2, .ref nf, .ref ns, .ref nh, .ref nk, .ref np, .int 16, .int 0, .int 16, .int 0, .int 0])), (ns, .inl (kL, 1024, .inr (.inl zSec))), (asort, .inr (1, [.int 0, .ref eD, .int 0]))] := hD
  have hK : va_K (dC, dI) vwCl [(kL, .long), (kL, .long), (kL, .long), (kL, .long)] s := by simpa using hK
  have hw_14 : r_13 = 0 := hw_14
  have hw_14 := hw_14.symm
  subst hw_14
  refine lv_icmp_ge (tgt := 131) hx hb dX7_known_97 (by decide) (fun c_15 => ?_) (fun c_15 => ?_)
  rotate_left
  · exact absurd (by decide) c_15
  refine lv_iconst (v := 0) hx hb dX7_known_131 (by decide) ?_
  have hP9 := hP.sub (ws' := [(aroom, .inr (9, [.ref asort, .ref anod, .ref atold, .int 3, .ref aheld, .int 0, .ref apair, .ref astep, .int 1, .int 0, .int (-1), .int 0, .int 0, .ref asize])), (anod, .inr (7, [.ref nm, .ref nl, .ref n1, .ref n2, .ref nf, .ref ns, .ref nh, .ref nk, .ref np, .int 16, .int 0, .int 16, .int 0, .int 0])), (ns, .inl (kL, 1024, .inr (.inl zSec))), (nf, .inl (kL, 1024, .inr (.inl zFir))), (asort, .inr (1, [.int 0, .ref eD, .int 0]))]) [0, 2, 3, 1, 4] rfl
  have hD9 := hD.sub (ws' := [(aroom, .inr (9, [.ref asort, .ref anod, .ref atold, .int 3, .ref aheld, .int 0, .ref apair, .ref astep, .int 1, .int 0, .int (-1), .int 0, .int 0, .ref asize])), (anod, .inr (7, [.ref nm, .ref nl, .ref n1, .ref n2, .ref nf, .ref ns, .ref nh, .ref nk, .ref np, .int 16, .int 0, .int 16, .int 0, .int 0])), (ns, .inl (kL, 1024, .inr (.inl zSec))), (nf, .inl (kL, 1024, .inr (.inl zFir))), (asort, .inr (1, [.int 0, .ref eD, .int 0]))]) [0, 2, 3, 1, 4] (by decide) rfl
  have hK9 := hK.sub (tys' := [(kL, .long)]) [0] rfl
  refine W.widen (k := 0) (n := 0) (Nat.le_of_ble_eq_true rfl) (Nat.le_of_ble_eq_true rfl) ?_
  exact W.iret (v := 0) hx hb hr (fun t ht hW => ⟨⟨0, (), rfl, rfl, ⟨by rw [ht]; exact hP9, va_K.moved hW.alike hK9, hD9⟩⟩, hS.F ht⟩) hS.2.2 dX7_known_132

def wb_c_R_order_02 : List Cond := [.fieldLink RX7 21 "Hornbook$Room" "nodes" "LHornbook$Nodes;", .fieldLink RX7 152 "Hornbook$Step" "a" "I", .code yX5_through cX5_through 4 (some .int), .fieldLink RX5 28 "Hornbook$Nodes" "second" "[J", .methodLink RX7 194 yX5_through, .instanceMethod yX5_through, .selects RX5 yX5_through yX5_through, .initialized RX5, .fieldLink RX7 158 "Hornbook$Step" "b" "I", .fieldLink RX7 161 "Hornbook$Step" "x" "I", .fieldLink RX7 246 "Hornbook$Step" "phase" "I", .code yX7_known cX7_known 5 (some .int), .code yX5_isJoin cX5_isJoin 2 (some .boolean), .fieldLink RX5 24 "Hornbook$Nodes" "first" "[J", .methodLink RX7 197 yX5_isJoin, .instanceMethod yX5_isJoin, .selects RX5 yX5_isJoin yX5_isJoin, .code yX5_formOf cX5_formOf 2 (some .int), .methodLink RX7 187 yX5_formOf, .instanceMethod yX5_formOf, .selects RX5 yX5_formOf yX5_formOf, .fieldLink RX7 12 "Hornbook$Room" "sorts" "Ljava/util/ArrayList;", .code yJx4a65c_size_8abf5 cJx4a65c_size_8abf5 1 (some .int), .fieldLink RJx4a65c 48 "java/util/ArrayList" "size" "I", .methodLink RX7 139 yJx4a65c_size_8abf5, .instanceMethod yJx4a65c_size_8abf5, .selects RJx4a65c yJx4a65c_size_8abf5 yJx4a65c_size_8abf5, .initialized RJx4a65c, .methodLink RX7 272 yX7_known, .instanceMethod yX7_known, .selects RX7 yX7_known yX7_known, .initialized RX7, .code yX7_answer cX7_answer 2 none, .fieldLink RX7 56 "Hornbook$Room" "last" "I", .fieldLink RX7 49 "Hornbook$Room" "asking" "I", .methodLink RX7 275 yX7_answer, .instanceMethod yX7_answer, .selects RX7 yX7_answer yX7_answer] ++ u_ws RJx4a65c TJx4a65c 3 ++ u_ws RX10 TX10 14 ++ u_ws RX5 TX5 14 ++ u_ws RX7 TX7 14
def w_c_R_order_02 : List Cond := .code yX7_stepOrder cX7_stepOrder 8 none :: wb_c_R_order_02
set_option maxRecDepth 100000 in
theorem g_c_R_order_02_0 : GoodIn w_c_R_order_02 (wsV RX7 194 RX5 yX5_through w_c_N_through_0) := goodIn_app (goodIn_of _ (by decide +kernel)) (goodIn_p (big := w_c_R_order_02) (.code yX5_through cX5_through 4 (some .int) :: wb_c_N_through_0) [3] rfl (by decide +kernel))
set_option maxRecDepth 100000 in
theorem g_c_R_order_02_1 : GoodIn w_c_R_order_02 (wsV RX7 194 RX5 yX5_through w_c_N_through_2) := goodIn_app (goodIn_of _ (by decide +kernel)) (goodIn_p (big := w_c_R_order_02) (.code yX5_through cX5_through 4 (some .int) :: wb_c_N_through_2) [3] rfl (by decide +kernel))
set_option maxRecDepth 100000 in
theorem g_c_R_order_02_2 : GoodIn w_c_R_order_02 (wsV RX7 194 RX5 yX5_through w_c_N_through_n) := goodIn_app (goodIn_of _ (by decide +kernel)) (goodIn_p (big := w_c_R_order_02) (.code yX5_through cX5_through 4 (some .int) :: wb_c_N_through_n) [3] rfl (by decide +kernel))
set_option maxRecDepth 100000 in
theorem g_c_R_order_02_3 : GoodIn w_c_R_order_02 (wsV RX7 272 RX7 yX7_known w_c_R_known_02) := goodIn_app (goodIn_of _ (by decide +kernel)) (goodIn_p (big := w_c_R_order_02) (.code yX7_known cX7_known 5 (some .int) :: wb_c_R_known_02) [12, 13, 18, 23] rfl (by decide +kernel))
set_option maxRecDepth 100000 in
theorem g_c_R_order_02_4 : GoodIn w_c_R_order_02 (wsV RX7 275 RX7 yX7_answer w_c_R_answer) := goodIn_app (goodIn_of _ (by decide +kernel)) (goodIn_p (big := w_c_R_order_02) (.code yX7_answer cX7_answer 2 none :: wb_c_R_answer) [33] rfl (by decide +kernel))
set_option maxHeartbeats 4000000 in
set_option maxRecDepth 100000 in
theorem c_R_order_02 (l : Launch) (eD eI : Nat) (ad : Nat → Nat) (dC : Nat → ClassId) (dI : Nat → Nat → Nat) (sz : Nat) (aroom : Nat) (anod : Nat) (asort : Nat) (atold : Nat) (aheld : Nat) (apair : Nat) (astep : Nat) (asize : Nat) (nm : Nat) (nl : Nat) (n1 : Nat) (n2 : Nat) (nf : Nat) (ns : Nat) (nh : Nat) (nk : Nat) (np : Nat) (sp : Nat) (kL : ClassId) : Met l yX7_stepOrder w_c_R_order_02 ({ frames := 2, cells := 0, slots := 0, locals := 45 }) (va_Pc [.ref aroom, .ref sp] (zPre eD eI ad (dC, dI) [(aroom, .inr (9, [.ref asort, .ref anod, .ref atold, .int 3, .ref aheld, .int 0, .ref apair, .ref astep, .int 1, .int 0, .int (-1), .int 0, .int 0, .ref asize])), (anod, .inr (7, [.ref nm, .ref nl, .ref n1, .ref n2, .ref nf, .ref ns, .ref nh, .ref nk, .ref np, .int 16, .int 0, .int 16, .int 0, .int 0])), (ns, .inl (kL, 1024, .inr (.inl zSec))), (nf, .inl (kL, 1024, .inr (.inl zFir))), (asort, .inr (1, [.int 0, .ref eD, .int 0])), (sp, .inr (12, [.int 0, .int (-1), .int 0, .int 2, .int 2, .int (-1), .int (-1), .int 0, .int 0, .int 0, .int 0, .int 0, .int 0, .int 0]))] [(kL, .long)] sz)) (va_Qv (fun (_ : Unit) => True) (fun (_ : Unit) => zEnd (dC, dI) (va_A [(aroom, .inr (9, [.ref asort, .ref anod, .ref atold, .int 3, .ref aheld, .int 0, .ref apair, .ref astep, .int 1, .int 0, .int (-1), .int 0, .int 0, .ref asize])), (anod, .inr (7, [.ref nm, .ref nl, .ref n1, .ref n2, .ref nf, .ref ns, .ref nh, .ref nk, .ref np, .int 16, .int 0, .int 16, .int 0, .int 0])), (ns, .inl (kL, 1024, .inr (.inl zSec))), (nf, .inl (kL, 1024, .inr (.inl zFir))), (asort, .inr (1, [.int 0, .ref eD, .int 0])), (sp, .inr (12, [.int 0, .int (-1), .int 0, .int 2, .int 2, .int (-1), .int (-1), .int 0, .int 0, .int 0, .int 0, .int 0, .int 0, .int 0]))] sz) [(aroom, .inr (9, [.ref asort, .ref anod, .ref atold, .int 3, .ref aheld, .int 0, .ref apair, .ref astep, .int 0, .int 0, .int 0, .int 0, .int 0, .ref asize]))] []) (va_A [(aroom, .inr (9, [.ref asort, .ref anod, .ref atold, .int 3, .ref aheld, .int 0, .ref apair, .ref astep, .int 1, .int 0, .int (-1), .int 0, .int 0, .ref asize])), (anod, .inr (7, [.ref nm, .ref nl, .ref n1, .ref n2, .ref nf, .ref ns, .ref nh, .ref nk, .ref np, .int 16, .int 0, .int 16, .int 0, .int 0])), (ns, .inl (kL, 1024, .inr (.inl zSec))), (nf, .inl (kL, 1024, .inr (.inl zFir))), (asort, .inr (1, [.int 0, .ref eD, .int 0])), (sp, .inr (12, [.int 0, .int (-1), .int 0, .int 2, .int 2, .int (-1), .int (-1), .int 0, .int 0, .int 0, .int 0, .int 0, .int 0, .int 0]))] sz)) 0 0 (va_A [(aroom, .inr (9, [.ref asort, .ref anod, .ref atold, .int 3, .ref aheld, .int 0, .ref apair, .ref astep, .int 1, .int 0, .int (-1), .int 0, .int 0, .ref asize])), (anod, .inr (7, [.ref nm, .ref nl, .ref n1, .ref n2, .ref nf, .ref ns, .ref nh, .ref nk, .ref np, .int 16, .int 0, .int 16, .int 0, .int 0])), (ns, .inl (kL, 1024, .inr (.inl zSec))), (nf, .inl (kL, 1024, .inr (.inl zFir))), (asort, .inr (1, [.int 0, .ref eD, .int 0])), (sp, .inr (12, [.int 0, .int (-1), .int 0, .int 2, .int 2, .int (-1), .int (-1), .int 0, .int 0, .int 0, .int 0, .int 0, .int 0, .int 0]))] sz) := by
  refine Met.ofW (cc := cX7_stepOrder) (maxL := 8) (ret := none) (by decide) rfl ?_
  intro p e s m args below meth c s₁ B hml hv
  obtain ⟨rfl, hsz, hP, hK, hD0, hE⟩ := hv
  have hx := B.exec
  have hb := B.bytes
  have hr := B.returns
  have hts := atoms_spec (ws := w_c_R_order_02) B.pre
  have hown : s.vm.findClass RX7 = some m.cls := findClass_of_methodNamed B.named
  have hlocks := B.notSynchronized
  subst hsz
  have hD := hD0.self (sz := s.heap.size)
  generalize hAe : va_A [(aroom, .inr (9, [.ref asort, .ref anod, .ref atold, .int 3, .ref aheld, .int 0, .ref apair, .ref astep, .int 1, .int 0, .int (-1), .int 0, .int 0, .ref asize])), (anod, .inr (7, [.ref nm, .ref nl, .ref n1, .ref n2, .ref nf, .ref ns, .ref nh, .ref nk, .ref np, .int 16, .int 0, .int 16, .int 0, .int 0])), (ns, .inl (kL, 1024, .inr (.inl zSec))), (nf, .inl (kL, 1024, .inr (.inl zFir))), (asort, .inr (1, [.int 0, .ref eD, .int 0])), (sp, .inr (12, [.int 0, .int (-1), .int 0, .int 2, .int 2, .int (-1), .int (-1), .int 0, .int 0, .int 0, .int 0, .int 0, .int 0, .int 0]))] s.heap.size = A at hD hE ⊢
  have hA : ∀ q : Nat, s.heap.size ≤ q → A q := fun q h => by rw [← hAe]; exact Or.inr h
  have hS : va_S A s.heap s.heap [] := va_S.rf
  have hP : va_P (dC, dI) vwCl [(aroom, .inr (9, [.ref asort, .ref anod, .ref atold, .int 3, .ref aheld, .int 0, .ref apair, .ref astep, .int 1, .int 0, .int (-1), .int 0, .int 0, .ref asize])), (anod, .inr (7, [.ref nm, .ref nl, .ref n1, .ref n2, .ref nf, .ref ns, .ref nh, .ref nk, .ref np, .int 16, .int 0, .int 16, .int 0, .int 0])), (ns, .inl (kL, 1024, .inr (.inl zSec))), (nf, .inl (kL, 1024, .inr (.inl zFir))), (asort, .inr (1, [.int 0, .ref eD, .int 0])), (sp, .inr (12, [.int 0, .int (-1), .int 0, .int 2, .int 2, .int (-1), .int (-1), .int 0, .int 0, .int 0, .int 0, .int 0, .int 0, .int 0]))] s.heap := hP
  have hl := lv_entry ([.ref aroom, .ref sp]) (n := 8) (Nat.le_of_ble_eq_true rfl)
  rw [lg_entry_eq]
  generalize (lg_sl ([.ref aroom, .ref sp]) ++ List.replicate (8 - (lg_sl ([.ref aroom, .ref sp])).length) Slot.unset).toArray = ls at hl ⊢
  have hl : lv_has ls 8 [(0, .ref aroom), (1, .ref sp)] := hl
  have in_RJx4a65c : ∀ w ∈ u_ws RJx4a65c TJx4a65c 3, w ∈ w_c_R_order_02 := by decide +kernel
  have in_RX10 : ∀ w ∈ u_ws RX10 TX10 14, w ∈ w_c_R_order_02 := by decide +kernel
  have in_RX5 : ∀ w ∈ u_ws RX5 TX5 14, w ∈ w_c_R_order_02 := by decide +kernel
  have in_RX7 : ∀ w ∈ u_ws RX7 TX7 14, w ∈ w_c_R_order_02 := by decide +kernel
  refine lv_aload_n hx hb dX7_stepOrder_0 rfl (lv_at hl 1 rfl) ?_
  refine lv_aload_n hx hb dX7_stepOrder_1 rfl (lv_at hl 0 rfl) ?_
  refine va_get (D := (dC, dI)) (ci := 9) (v := .ref anod) (C := RX7) (T := TX7) (N := 14) hx hb hts in_RX7 hown hK hP 0 rfl rfl 1 (by decide) (hts (.fieldLink RX7 21 "Hornbook$Room" "nodes" "LHornbook$Nodes;") (by decide +kernel)) (fun _ h9 => h9) rfl dX7_stepOrder_2 ?_
  refine lv_aload_n hx hb dX7_stepOrder_5 rfl (lv_at hl 1 rfl) ?_
  refine va_get (D := (dC, dI)) (ci := 12) (v := .int 0) (C := RX10) (T := TX10) (N := 14) hx hb hts in_RX10 hown hK hP 5 rfl rfl 2 (by decide) (hts (.fieldLink RX7 152 "Hornbook$Step" "a" "I") (by decide +kernel)) (fun _ h9 => h9) rfl dX7_stepOrder_6 ?_
  refine z_i (wr := [(aroom, .inr (9, [.ref asort, .ref anod, .ref atold, .int 3, .ref aheld, .int 0, .ref apair, .ref astep, .int 1, .int 0, .int (-1), .int 0, .int 0, .ref asize])), (nf, .inl (kL, 1024, .inr (.inl zFir))), (asort, .inr (1, [.int 0, .ref eD, .int 0])), (sp, .inr (12, [.int 0, .int (-1), .int 0, .int 2, .int 2, .int (-1), .int (-1), .int 0, .int 0, .int 0, .int 0, .int 0, .int 0, .int 0]))]) (va_runV (As := [.int 0]) (rest := [.ref sp]) ⟨hx, hb, hml, hown, hts⟩ (c_N_through_0 l eD eI ad dC dI s.heap.size anod nm nl n1 n2 nf ns nh nk np kL) (cwV 1 hts g_c_R_order_02_0 rfl rfl rfl (by decide +kernel) ⟨Nat.le_of_ble_eq_true rfl, Nat.le_of_ble_eq_true rfl⟩) (z_preV (wc := [(anod, .inr (7, [.ref nm, .ref nl, .ref n1, .ref n2, .ref nf, .ref ns, .ref nh, .ref nk, .ref np, .int 16, .int 0, .int 16, .int 0, .int 0])), (ns, .inl (kL, 1024, .inr (.inl zSec)))]) hP hD hK hS hA hE [1, 2] [0] rfl (by decide) rfl (ci := 7) (q0 := 0) rfl rfl) rfl rfl hl.1 rfl (lv_room (Nat.le_of_ble_eq_true rfl)) dX7_stepOrder_9 ⟨Nat.le_of_ble_eq_true rfl, Nat.le_of_ble_eq_true rfl⟩) hP hD hK hS hA [1, 2] [0, 3, 4, 5] rfl rfl (by decide) (by decide) (fun r_1 u H locs hw_2 hP hD hK hS => ?_)
  obtain ⟨⟩ := u
  have hP : va_P (dC, dI) vwCl [(aroom, .inr (9, [.ref asort, .ref anod, .ref atold, .int 3, .ref aheld, .int 0, .ref apair, .ref astep, .int 1, .int 0, .int (-1), .int 0, .int 0, .ref asize])), (nf, .inl (kL, 1024, .inr (.inl zFir))), (asort, .inr (1, [.int 0, .ref eD, .int 0])), (sp, .inr (12, [.int 0, .int (-1), .int 0, .int 2, .int 2, .int (-1), .int (-1), .int 0, .int 0, .int 0, .int 0, .int 0, .int 0, .int 0])), (anod, .inr (7, [.ref nm, .ref nl, .ref n1, .ref n2, .ref nf, .ref ns, .ref nh, .ref nk, .ref np, .int 16, .int 0, .int 16, .int 0, .int 0])), (ns, .inl (kL, 1024, .inr (.inl zSec)))] H := hP
  have hD : va_D A [(aroom, .inr (9, [.ref asort, .ref anod, .ref atold, .int 3, .ref aheld, .int 0, .ref apair, .ref astep, .int 1, .int 0, .int (-1), .int 0, .int 0, .ref asize])), (nf, .inl (kL, 1024, .inr (.inl zFir))), (asort, .inr (1, [.int 0, .ref eD, .int 0])), (sp, .inr (12, [.int 0, .int (-1), .int 0, .int 2, .int 2, .int (-1), .int (-1), .int 0, .int 0, .int 0, .int 0, .int 0, .int 0, .int 0])), (anod, .inr (7, [.ref nm, .ref nl, .ref n1, .ref n2, .ref nf, .ref ns, .ref nh, .ref nk, .ref np, .int 16, .int 0, .int 16, .int 0, .int 0])), (ns, .inl (kL, 1024, .inr (.inl zSec)))] := hD
  have hK : va_K (dC, dI) vwCl [(kL, .long), (kL, .long)] s := hK
  have hw_2 : r_1 = 0 := hw_2
  have hw_2 := hw_2.symm
  subst hw_2
  refine va_put (D := (dC, dI)) (ci := 12) (v := .int 0) (ty := .int) (C := RX10) (T := TX10) (N := 14) hx hb hts in_RX10 tyX10 tyX10_ok nmX10 hown hK hP hD hS 3 rfl rfl 2 (by decide) (hts (.fieldLink RX7 152 "Hornbook$Step" "a" "I") (by decide +kernel)) (fun _ h9 => h9) rfl (by decide +kernel) rfl rfl (Nat.le_of_ble_eq_true rfl) dX7_stepOrder_12 (fun H locs hP hD hS => ?_)
  have hP : va_P (dC, dI) vwCl [(aroom, .inr (9, [.ref asort, .ref anod, .ref atold, .int 3, .ref aheld, .int 0, .ref apair, .ref astep, .int 1, .int 0, .int (-1), .int 0, .int 0, .ref asize])), (nf, .inl (kL, 1024, .inr (.inl zFir))), (asort, .inr (1, [.int 0, .ref eD, .int 0])), (sp, .inr (12, [.int 0, .int (-1), .int 0, .int 2, .int 2, .int (-1), .int (-1), .int 0, .int 0, .int 0, .int 0, .int 0, .int 0, .int 0])), (anod, .inr (7, [.ref nm, .ref nl, .ref n1, .ref n2, .ref nf, .ref ns, .ref nh, .ref nk, .ref np, .int 16, .int 0, .int 16, .int 0, .int 0])), (ns, .inl (kL, 1024, .inr (.inl zSec)))] H := hP
  have hD : va_D A [(aroom, .inr (9, [.ref asort, .ref anod, .ref atold, .int 3, .ref aheld, .int 0, .ref apair, .ref astep, .int 1, .int 0, .int (-1), .int 0, .int 0, .ref asize])), (nf, .inl (kL, 1024, .inr (.inl zFir))), (asort, .inr (1, [.int 0, .ref eD, .int 0])), (sp, .inr (12, [.int 0, .int (-1), .int 0, .int 2, .int 2, .int (-1), .int (-1), .int 0, .int 0, .int 0, .int 0, .int 0, .int 0, .int 0])), (anod, .inr (7, [.ref nm, .ref nl, .ref n1, .ref n2, .ref nf, .ref ns, .ref nh, .ref nk, .ref np, .int 16, .int 0, .int 16, .int 0, .int 0])), (ns, .inl (kL, 1024, .inr (.inl zSec)))] := hD
  refine lv_aload_n hx hb dX7_stepOrder_15 rfl (lv_at hl 1 rfl) ?_
  refine lv_aload_n hx hb dX7_stepOrder_16 rfl (lv_at hl 0 rfl) ?_
  refine va_get (D := (dC, dI)) (ci := 9) (v := .ref anod) (C := RX7) (T := TX7) (N := 14) hx hb hts in_RX7 hown hK hP 0 rfl rfl 1 (by decide) (hts (.fieldLink RX7 21 "Hornbook$Room" "nodes" "LHornbook$Nodes;") (by decide +kernel)) (fun _ h9 => h9) rfl dX7_stepOrder_17 ?_
  refine lv_aload_n hx hb dX7_stepOrder_20 rfl (lv_at hl 1 rfl) ?_
  refine va_get (D := (dC, dI)) (ci := 12) (v := .int 2) (C := RX10) (T := TX10) (N := 14) hx hb hts in_RX10 hown hK hP 3 rfl rfl 3 (by decide) (hts (.fieldLink RX7 158 "Hornbook$Step" "b" "I") (by decide +kernel)) (fun _ h9 => h9) rfl dX7_stepOrder_21 ?_
  refine z_i (wr := [(aroom, .inr (9, [.ref asort, .ref anod, .ref atold, .int 3, .ref aheld, .int 0, .ref apair, .ref astep, .int 1, .int 0, .int (-1), .int 0, .int 0, .ref asize])), (nf, .inl (kL, 1024, .inr (.inl zFir))), (asort, .inr (1, [.int 0, .ref eD, .int 0])), (sp, .inr (12, [.int 0, .int (-1), .int 0, .int 2, .int 2, .int (-1), .int (-1), .int 0, .int 0, .int 0, .int 0, .int 0, .int 0, .int 0]))]) (va_runV (As := [.int 2]) (rest := [.ref sp]) ⟨hx, hb, hml, hown, hts⟩ (c_N_through_2 l eD eI ad dC dI H.size anod nm nl n1 n2 nf ns nh nk np kL) (cwV 1 hts g_c_R_order_02_1 rfl rfl rfl (by decide +kernel) ⟨Nat.le_of_ble_eq_true rfl, Nat.le_of_ble_eq_true rfl⟩) (z_preV (wc := [(anod, .inr (7, [.ref nm, .ref nl, .ref n1, .ref n2, .ref nf, .ref ns, .ref nh, .ref nk, .ref np, .int 16, .int 0, .int 16, .int 0, .int 0])), (ns, .inl (kL, 1024, .inr (.inl zSec)))]) hP hD hK hS hA hE [4, 5] [0] rfl (by decide) rfl (ci := 7) (q0 := 0) rfl rfl) rfl rfl hl.1 rfl (lv_room (Nat.le_of_ble_eq_true rfl)) dX7_stepOrder_24 ⟨Nat.le_of_ble_eq_true rfl, Nat.le_of_ble_eq_true rfl⟩) hP hD hK hS hA [4, 5] [0, 1, 2, 3] rfl rfl (by decide) (by decide) (fun r_3 u H locs hw_4 hP hD hK hS => ?_)
  obtain ⟨⟩ := u
  have hP : va_P (dC, dI) vwCl [(aroom, .inr (9, [.ref asort, .ref anod, .ref atold, .int 3, .ref aheld, .int 0, .ref apair, .ref astep, .int 1, .int 0, .int (-1), .int 0, .int 0, .ref asize])), (nf, .inl (kL, 1024, .inr (.inl zFir))), (asort, .inr (1, [.int 0, .ref eD, .int 0])), (sp, .inr (12, [.int 0, .int (-1), .int 0, .int 2, .int 2, .int (-1), .int (-1), .int 0, .int 0, .int 0, .int 0, .int 0, .int 0, .int 0])), (anod, .inr (7, [.ref nm, .ref nl, .ref n1, .ref n2, .ref nf, .ref ns, .ref nh, .ref nk, .ref np, .int 16, .int 0, .int 16, .int 0, .int 0])), (ns, .inl (kL, 1024, .inr (.inl zSec)))] H := hP
  have hD : va_D A [(aroom, .inr (9, [.ref asort, .ref anod, .ref atold, .int 3, .ref aheld, .int 0, .ref apair, .ref astep, .int 1, .int 0, .int (-1), .int 0, .int 0, .ref asize])), (nf, .inl (kL, 1024, .inr (.inl zFir))), (asort, .inr (1, [.int 0, .ref eD, .int 0])), (sp, .inr (12, [.int 0, .int (-1), .int 0, .int 2, .int 2, .int (-1), .int (-1), .int 0, .int 0, .int 0, .int 0, .int 0, .int 0, .int 0])), (anod, .inr (7, [.ref nm, .ref nl, .ref n1, .ref n2, .ref nf, .ref ns, .ref nh, .ref nk, .ref np, .int 16, .int 0, .int 16, .int 0, .int 0])), (ns, .inl (kL, 1024, .inr (.inl zSec)))] := hD
  have hK : va_K (dC, dI) vwCl [(kL, .long), (kL, .long), (kL, .long)] s := hK
  have hw_4 : r_3 = 2 := hw_4
  have hw_4 := hw_4.symm
  subst hw_4
  refine va_put (D := (dC, dI)) (ci := 12) (v := .int 2) (ty := .int) (C := RX10) (T := TX10) (N := 14) hx hb hts in_RX10 tyX10 tyX10_ok nmX10 hown hK hP hD hS 3 rfl rfl 3 (by decide) (hts (.fieldLink RX7 158 "Hornbook$Step" "b" "I") (by decide +kernel)) (fun _ h9 => h9) rfl (by decide +kernel) rfl rfl (Nat.le_of_ble_eq_true rfl) dX7_stepOrder_27 (fun H locs hP hD hS => ?_)
  have hP : va_P (dC, dI) vwCl [(aroom, .inr (9, [.ref asort, .ref anod, .ref atold, .int 3, .ref aheld, .int 0, .ref apair, .ref astep, .int 1, .int 0, .int (-1), .int 0, .int 0, .ref asize])), (nf, .inl (kL, 1024, .inr (.inl zFir))), (asort, .inr (1, [.int 0, .ref eD, .int 0])), (sp, .inr (12, [.int 0, .int (-1), .int 0, .int 2, .int 2, .int (-1), .int (-1), .int 0, .int 0, .int 0, .int 0, .int 0, .int 0, .int 0])), (anod, .inr (7, [.ref nm, .ref nl, .ref n1, .ref n2, .ref nf, .ref ns, .ref nh, .ref nk, .ref np, .int 16, .int 0, .int 16, .int 0, .int 0])), (ns, .inl (kL, 1024, .inr (.inl zSec)))] H := hP
  have hD : va_D A [(aroom, .inr (9, [.ref asort, .ref anod, .ref atold, .int 3, .ref aheld, .int 0, .ref apair, .ref astep, .int 1, .int 0, .int (-1), .int 0, .int 0, .ref asize])), (nf, .inl (kL, 1024, .inr (.inl zFir))), (asort, .inr (1, [.int 0, .ref eD, .int 0])), (sp, .inr (12, [.int 0, .int (-1), .int 0, .int 2, .int 2, .int (-1), .int (-1), .int 0, .int 0, .int 0, .int 0, .int 0, .int 0, .int 0])), (anod, .inr (7, [.ref nm, .ref nl, .ref n1, .ref n2, .ref nf, .ref ns, .ref nh, .ref nk, .ref np, .int 16, .int 0, .int 16, .int 0, .int 0])), (ns, .inl (kL, 1024, .inr (.inl zSec)))] := hD
  refine lv_aload_n hx hb dX7_stepOrder_30 rfl (lv_at hl 1 rfl) ?_
  refine lv_aload_n hx hb dX7_stepOrder_31 rfl (lv_at hl 0 rfl) ?_
  refine va_get (D := (dC, dI)) (ci := 9) (v := .ref anod) (C := RX7) (T := TX7) (N := 14) hx hb hts in_RX7 hown hK hP 0 rfl rfl 1 (by decide) (hts (.fieldLink RX7 21 "Hornbook$Room" "nodes" "LHornbook$Nodes;") (by decide +kernel)) (fun _ h9 => h9) rfl dX7_stepOrder_32 ?_
  refine lv_aload_n hx hb dX7_stepOrder_35 rfl (lv_at hl 1 rfl) ?_
  refine va_get (D := (dC, dI)) (ci := 12) (v := .int (-1)) (C := RX10) (T := TX10) (N := 14) hx hb hts in_RX10 hown hK hP 3 rfl rfl 5 (by decide) (hts (.fieldLink RX7 161 "Hornbook$Step" "x" "I") (by decide +kernel)) (fun _ h9 => h9) rfl dX7_stepOrder_36 ?_
  refine z_i (wr := [(aroom, .inr (9, [.ref asort, .ref anod, .ref atold, .int 3, .ref aheld, .int 0, .ref apair, .ref astep, .int 1, .int 0, .int (-1), .int 0, .int 0, .ref asize])), (nf, .inl (kL, 1024, .inr (.inl zFir))), (asort, .inr (1, [.int 0, .ref eD, .int 0])), (sp, .inr (12, [.int 0, .int (-1), .int 0, .int 2, .int 2, .int (-1), .int (-1), .int 0, .int 0, .int 0, .int 0, .int 0, .int 0, .int 0])), (ns, .inl (kL, 1024, .inr (.inl zSec)))]) (va_runV (As := [.int (-1)]) (rest := [.ref sp]) ⟨hx, hb, hml, hown, hts⟩ (c_N_through_n l eD eI ad dC dI H.size anod nm nl n1 n2 nf ns nh nk np) (cwV 1 hts g_c_R_order_02_2 rfl rfl rfl (by decide +kernel) ⟨Nat.le_of_ble_eq_true rfl, Nat.le_of_ble_eq_true rfl⟩) (z_preV (wc := [(anod, .inr (7, [.ref nm, .ref nl, .ref n1, .ref n2, .ref nf, .ref ns, .ref nh, .ref nk, .ref np, .int 16, .int 0, .int 16, .int 0, .int 0]))]) hP hD hK hS hA hE [4] [] rfl (by decide) rfl (ci := 7) (q0 := 0) rfl rfl) rfl rfl hl.1 rfl (lv_room (Nat.le_of_ble_eq_true rfl)) dX7_stepOrder_39 ⟨Nat.le_of_ble_eq_true rfl, Nat.le_of_ble_eq_true rfl⟩) hP hD hK hS hA [4] [0, 1, 2, 3, 5] rfl rfl (by decide) (by decide) (fun r_5 u H locs hw_6 hP hD hK hS => ?_)
  obtain ⟨⟩ := u
  have hP : va_P (dC, dI) vwCl [(aroom, .inr (9, [.ref asort, .ref anod, .ref atold, .int 3, .ref aheld, .int 0, .ref apair, .ref astep, .int 1, .int 0, .int (-1), .int 0, .int 0, .ref asize])), (nf, .inl (kL, 1024, .inr (.inl zFir))), (asort, .inr (1, [.int 0, .ref eD, .int 0])), (sp, .inr (12, [.int 0, .int (-1), .int 0, .int 2, .int 2, .int (-1), .int (-1), .int 0, .int 0, .int 0, .int 0, .int 0, .int 0, .int 0])), (ns, .inl (kL, 1024, .inr (.inl zSec))), (anod, .inr (7, [.ref nm, .ref nl, .ref n1, .ref n2, .ref nf, .ref ns, .ref nh, .ref nk, .ref np, .int 16, .int 0, .int 16, .int 0, .int 0]))] H := hP
  have hD : va_D A [(aroom, .inr (9, [.ref asort, .ref anod, .ref atold, .int 3, .ref aheld, .int 0, .ref apair, .ref astep, .int 1, .int 0, .int (-1), .int 0, .int 0, .ref asize])), (nf, .inl (kL, 1024, .inr (.inl zFir))), (asort, .inr (1, [.int 0, .ref eD, .int 0])), (sp, .inr (12, [.int 0, .int (-1), .int 0, .int 2, .int 2, .int (-1), .int (-1), .int 0, .int 0, .int 0, .int 0, .int 0, .int 0, .int 0])), (ns, .inl (kL, 1024, .inr (.inl zSec))), (anod, .inr (7, [.ref nm, .ref nl, .ref n1, .ref n2, .ref nf, .ref ns, .ref nh, .ref nk, .ref np, .int 16, .int 0, .int 16, .int 0, .int 0]))] := hD
  have hK : va_K (dC, dI) vwCl [(kL, .long), (kL, .long), (kL, .long)] s := by simpa using hK
  have hw_6 : r_5 = (-1) := hw_6
  have hw_6 := hw_6.symm
  subst hw_6
  refine va_put (D := (dC, dI)) (ci := 12) (v := .int (-1)) (ty := .int) (C := RX10) (T := TX10) (N := 14) hx hb hts in_RX10 tyX10 tyX10_ok nmX10 hown hK hP hD hS 3 rfl rfl 5 (by decide) (hts (.fieldLink RX7 161 "Hornbook$Step" "x" "I") (by decide +kernel)) (fun _ h9 => h9) rfl (by decide +kernel) rfl rfl (Nat.le_of_ble_eq_true rfl) dX7_stepOrder_42 (fun H locs hP hD hS => ?_)
  have hP : va_P (dC, dI) vwCl [(aroom, .inr (9, [.ref asort, .ref anod, .ref atold, .int 3, .ref aheld, .int 0, .ref apair, .ref astep, .int 1, .int 0, .int (-1), .int 0, .int 0, .ref asize])), (nf, .inl (kL, 1024, .inr (.inl zFir))), (asort, .inr (1, [.int 0, .ref eD, .int 0])), (sp, .inr (12, [.int 0, .int (-1), .int 0, .int 2, .int 2, .int (-1), .int (-1), .int 0, .int 0, .int 0, .int 0, .int 0, .int 0, .int 0])), (ns, .inl (kL, 1024, .inr (.inl zSec))), (anod, .inr (7, [.ref nm, .ref nl, .ref n1, .ref n2, .ref nf, .ref ns, .ref nh, .ref nk, .ref np, .int 16, .int 0, .int 16, .int 0, .int 0]))] H := hP
  have hD : va_D A [(aroom, .inr (9, [.ref asort, .ref anod, .ref atold, .int 3, .ref aheld, .int 0, .ref apair, .ref astep, .int 1, .int 0, .int (-1), .int 0, .int 0, .ref asize])), (nf, .inl (kL, 1024, .inr (.inl zFir))), (asort, .inr (1, [.int 0, .ref eD, .int 0])), (sp, .inr (12, [.int 0, .int (-1), .int 0, .int 2, .int 2, .int (-1), .int (-1), .int 0, .int 0, .int 0, .int 0, .int 0, .int 0, .int 0])), (ns, .inl (kL, 1024, .inr (.inl zSec))), (anod, .inr (7, [.ref nm, .ref nl, .ref n1, .ref n2, .ref nf, .ref ns, .ref nh, .ref nk, .ref np, .int 16, .int 0, .int 16, .int 0, .int 0]))] := hD
  refine lv_aload_n hx hb dX7_stepOrder_45 rfl (lv_at hl 1 rfl) ?_
  refine va_get (D := (dC, dI)) (ci := 12) (v := .int 0) (C := RX10) (T := TX10) (N := 14) hx hb hts in_RX10 hown hK hP 3 rfl rfl 9 (by decide) (hts (.fieldLink RX7 246 "Hornbook$Step" "phase" "I") (by decide +kernel)) (fun _ h9 => h9) rfl dX7_stepOrder_46 ?_
  refine lv_if_ne (tgt := 138) hx hb dX7_stepOrder_49 (by decide) (fun c_7 => ?_) (fun c_7 => ?_)
  · exact absurd (by decide) c_7
  refine lv_aload_n hx hb dX7_stepOrder_52 rfl (lv_at hl 0 rfl) ?_
  refine lv_aload_n hx hb dX7_stepOrder_53 rfl (lv_at hl 1 rfl) ?_
  refine va_get (D := (dC, dI)) (ci := 12) (v := .int 0) (C := RX10) (T := TX10) (N := 14) hx hb hts in_RX10 hown hK hP 3 rfl rfl 2 (by decide) (hts (.fieldLink RX7 152 "Hornbook$Step" "a" "I") (by decide +kernel)) (fun _ h9 => h9) rfl dX7_stepOrder_54 ?_
  refine lv_aload_n hx hb dX7_stepOrder_57 rfl (lv_at hl 1 rfl) ?_
  refine va_get (D := (dC, dI)) (ci := 12) (v := .int 2) (C := RX10) (T := TX10) (N := 14) hx hb hts in_RX10 hown hK hP 3 rfl rfl 3 (by decide) (hts (.fieldLink RX7 158 "Hornbook$Step" "b" "I") (by decide +kernel)) (fun _ h9 => h9) rfl dX7_stepOrder_58 ?_
  refine z_i (wr := [(sp, .inr (12, [.int 0, .int (-1), .int 0, .int 2, .int 2, .int (-1), .int (-1), .int 0, .int 0, .int 0, .int 0, .int 0, .int 0, .int 0]))]) (va_runV (As := [.int 0, .int 2]) (rest := []) ⟨hx, hb, hml, hown, hts⟩ (c_R_known_02 l eD eI ad dC dI H.size aroom anod asort atold aheld apair astep asize nm nl n1 n2 nf ns nh nk np kL) (cwV 2 hts g_c_R_order_02_3 rfl rfl rfl (by decide +kernel) ⟨Nat.le_of_ble_eq_true rfl, Nat.le_of_ble_eq_true rfl⟩) (z_preV (wc := [(aroom, .inr (9, [.ref asort, .ref anod, .ref atold, .int 3, .ref aheld, .int 0, .ref apair, .ref astep, .int 1, .int 0, .int (-1), .int 0, .int 0, .ref asize])), (anod, .inr (7, [.ref nm, .ref nl, .ref n1, .ref n2, .ref nf, .ref ns, .ref nh, .ref nk, .ref np, .int 16, .int 0, .int 16, .int 0, .int 0])), (ns, .inl (kL, 1024, .inr (.inl zSec))), (nf, .inl (kL, 1024, .inr (.inl zFir))), (asort, .inr (1, [.int 0, .ref eD, .int 0]))]) hP hD hK hS hA hE [0, 5, 4, 1, 2] [0] rfl (by decide) rfl (ci := 9) (q0 := 0) rfl rfl) rfl rfl hl.1 rfl (lv_room (Nat.le_of_ble_eq_true rfl)) dX7_stepOrder_61 ⟨Nat.le_of_ble_eq_true rfl, Nat.le_of_ble_eq_true rfl⟩) hP hD hK hS hA [0, 5, 4, 1, 2] [3] rfl rfl (by decide) (by decide) (fun r_8 u H locs hw_9 hP hD hK hS => ?_)
  obtain ⟨⟩ := u
  have hP : va_P (dC, dI) vwCl [(sp, .inr (12, [.int 0, .int (-1), .int 0, .int 2, .int 2, .int (-1), .int (-1), .int 0, .int 0, .int 0, .int 0, .int 0, .int 0, .int 0])), (aroom, .inr (9, [.ref asort, .ref anod, .ref atold, .int 3, .ref aheld, .int 0, .ref apair, .ref astep, .int 1, .int 0, .int (-1), .int 0, .int 0, .ref asize])), (anod, .inr (7, [.ref nm, .ref nl, .ref n1, .ref n2, .ref nf, .ref ns, .ref nh, .ref nk, .ref np, .int 16, .int 0, .int 16, .int 0, .int 0])), (ns, .inl (kL, 1024, .inr (.inl zSec))), (nf, .inl (kL, 1024, .inr (.inl zFir))), (asort, .inr (1, [.int 0, .ref eD, .int 0]))] H := hP
  have hD : va_D A [(sp, .inr (12, [.int 0, .int (-1), .int 0, .int 2, .int 2, .int (-1), .int (-1), .int 0, .int 0, .int 0, .int 0, .int 0, .int 0, .int 0])), (aroom, .inr (9, [.ref asort, .ref anod, .ref atold, .int 3, .ref aheld, .int 0, .ref apair, .ref astep, .int 1, .int 0, .int (-1), .int 0, .int 0, .ref asize])), (anod, .inr (7, [.ref nm, .ref nl, .ref n1, .ref n2, .ref nf, .ref ns, .ref nh, .ref nk, .ref np, .int 16, .int 0, .int 16, .int 0, .int 0])), (ns, .inl (kL, 1024, .inr (.inl zSec))), (nf, .inl (kL, 1024, .inr (.inl zFir))), (asort, .inr (1, [.int 0, .ref eD, .int 0]))] := hD
  have hK : va_K (dC, dI) vwCl [(kL, .long), (kL, .long), (kL, .long), (kL, .long)] s := hK
  have hw_9 : r_8 = 0 := hw_9
  have hw_9 := hw_9.symm
  subst hw_9
  refine lv_istore_n (lv' := [(2, .int 0), (0, .ref aroom), (1, .ref sp)]) hx hb dX7_stepOrder_64 rfl hl (by decide) rfl (fun ls hl => ?_)
  refine lv_iload_n hx hb dX7_stepOrder_65 rfl (lv_at hl 0 rfl) ?_
  refine lv_iconst (v := (-1)) hx hb dX7_stepOrder_66 (by decide) ?_
  refine lv_icmp_eq (tgt := 76) hx hb dX7_stepOrder_67 (by decide) (fun c_10 => ?_) (fun c_10 => ?_)
  · exact absurd c_10 (by decide)
  refine lv_aload_n hx hb dX7_stepOrder_70 rfl (lv_at hl 1 rfl) ?_
  refine lv_iload_n hx hb dX7_stepOrder_71 rfl (lv_at hl 0 rfl) ?_
  refine z_v (wr := [(sp, .inr (12, [.int 0, .int (-1), .int 0, .int 2, .int 2, .int (-1), .int (-1), .int 0, .int 0, .int 0, .int 0, .int 0, .int 0, .int 0])), (anod, .inr (7, [.ref nm, .ref nl, .ref n1, .ref n2, .ref nf, .ref ns, .ref nh, .ref nk, .ref np, .int 16, .int 0, .int 16, .int 0, .int 0])), (ns, .inl (kL, 1024, .inr (.inl zSec))), (nf, .inl (kL, 1024, .inr (.inl zFir))), (asort, .inr (1, [.int 0, .ref eD, .int 0]))]) (va_runV (As := [.int 0]) (rest := []) ⟨hx, hb, hml, hown, hts⟩ (c_R_answer l eD eI ad dC dI H.size aroom anod asort atold aheld apair astep asize 0 0 0) (cwV 1 hts g_c_R_order_02_4 rfl rfl rfl (by decide +kernel) ⟨Nat.le_of_ble_eq_true rfl, Nat.le_of_ble_eq_true rfl⟩) (z_preV (wc := [(aroom, .inr (9, [.ref asort, .ref anod, .ref atold, .int 3, .ref aheld, .int 0, .ref apair, .ref astep, .int 1, .int 0, .int (-1), .int 0, .int 0, .ref asize]))]) hP hD hK hS hA hE [1] [] rfl (by decide) rfl (ci := 9) (q0 := 0) rfl rfl) rfl rfl hl.1 rfl (lv_room (Nat.le_of_ble_eq_true rfl)) dX7_stepOrder_72 ⟨Nat.le_of_ble_eq_true rfl, Nat.le_of_ble_eq_true rfl⟩) hP hD hK hS hA [1] [0, 2, 3, 4, 5] rfl rfl (by decide) (by decide) (fun u H locs hw_12 hP hD hK hS => ?_)
  obtain ⟨⟩ := u
  have hP : va_P (dC, dI) vwCl [(sp, .inr (12, [.int 0, .int (-1), .int 0, .int 2, .int 2, .int (-1), .int (-1), .int 0, .int 0, .int 0, .int 0, .int 0, .int 0, .int 0])), (anod, .inr (7, [.ref nm, .ref nl, .ref n1, .ref n2, .ref nf, .ref ns, .ref nh, .ref nk, .ref np, .int 16, .int 0, .int 16, .int 0, .int 0])), (ns, .inl (kL, 1024, .inr (.inl zSec))), (nf, .inl (kL, 1024, .inr (.inl zFir))), (asort, .inr (1, [.int 0, .ref eD, .int 0])), (aroom, .inr (9, [.ref asort, .ref anod, .ref atold, .int 3, .ref aheld, .int 0, .ref apair, .ref astep, .int 0, .int 0, .int 0, .int 0, .int 0, .ref asize]))] H := hP
  have hD : va_D A [(sp, .inr (12, [.int 0, .int (-1), .int 0, .int 2, .int 2, .int (-1), .int (-1), .int 0, .int 0, .int 0, .int 0, .int 0, .int 0, .int 0])), (anod, .inr (7, [.ref nm, .ref nl, .ref n1, .ref n2, .ref nf, .ref ns, .ref nh, .ref nk, .ref np, .int 16, .int 0, .int 16, .int 0, .int 0])), (ns, .inl (kL, 1024, .inr (.inl zSec))), (nf, .inl (kL, 1024, .inr (.inl zFir))), (asort, .inr (1, [.int 0, .ref eD, .int 0])), (aroom, .inr (9, [.ref asort, .ref anod, .ref atold, .int 3, .ref aheld, .int 0, .ref apair, .ref astep, .int 0, .int 0, .int 0, .int 0, .int 0, .ref asize]))] := hD
  have hK : va_K (dC, dI) vwCl [(kL, .long), (kL, .long), (kL, .long), (kL, .long)] s := by simpa using hK
  have hP9 := hP.sub (ws' := [(aroom, .inr (9, [.ref asort, .ref anod, .ref atold, .int 3, .ref aheld, .int 0, .ref apair, .ref astep, .int 0, .int 0, .int 0, .int 0, .int 0, .ref asize]))]) [5] rfl
  have hD9 := hD.sub (ws' := [(aroom, .inr (9, [.ref asort, .ref anod, .ref atold, .int 3, .ref aheld, .int 0, .ref apair, .ref astep, .int 0, .int 0, .int 0, .int 0, .int 0, .ref asize]))]) [5] (by decide) rfl
  have hK9 := hK.sub (tys' := []) [] rfl
  refine W.widen (k := 0) (n := 0) (Nat.le_of_ble_eq_true rfl) (Nat.le_of_ble_eq_true rfl) ?_
  exact W.vret hx hb hr (fun t ht hW => ⟨⟨(), rfl, trivial, ⟨by rw [ht]; exact hP9, va_K.moved hW.alike hK9, hD9⟩⟩, hS.F ht⟩) hS.2.2 dX7_stepOrder_75

def wb_c_R_known_10 : List Cond := []
def w_c_R_known_10 : List Cond := .code yX7_known cX7_known 5 (some .int) :: wb_c_R_known_10
set_option maxHeartbeats 4000000 in
set_option maxRecDepth 100000 in
theorem c_R_known_10 (l : Launch) (eD eI : Nat) (ad : Nat → Nat) (dC : Nat → ClassId) (dI : Nat → Nat → Nat) (sz : Nat) (aroom : Nat) (anod : Nat) (asort : Nat) (atold : Nat) (aheld : Nat) (apair : Nat) (astep : Nat) (asize : Nat) (nm : Nat) (nl : Nat) (n1 : Nat) (n2 : Nat) (nf : Nat) (ns : Nat) (nh : Nat) (nk : Nat) (np : Nat) (kL : ClassId) : Met l yX7_known w_c_R_known_10 ({ frames := 0, cells := 0, slots := 0, locals := 0 }) (va_Pc [.ref aroom, .int 1, .int 0] (zPre eD eI ad (dC, dI) [(aroom, .inr (9, [.ref asort, .ref anod, .ref atold, .int 3, .ref aheld, .int 0, .ref apair, .ref astep, .int 1, .int 0, .int (-1), .int 0, .int 0, .ref asize])), (anod, .inr (7, [.ref nm, .ref nl, .ref n1, .ref n2, .ref nf, .ref ns, .ref nh, .ref nk, .ref np, .int 16, .int 0, .int 16, .int 0, .int 0])), (ns, .inl (kL, 1024, .inr (.inl zSec))), (nf, .inl (kL, 1024, .inr (.inl zFir))), (asort, .inr (1, [.int 0, .ref eD, .int 0]))] [(kL, .long)] sz)) (va_Qi (fun (r : Int32) (_ : Unit) => r = 1) (fun (_ : Unit) => zEnd (dC, dI) (va_A [(aroom, .inr (9, [.ref asort, .ref anod, .ref atold, .int 3, .ref aheld, .int 0, .ref apair, .ref astep, .int 1, .int 0, .int (-1), .int 0, .int 0, .ref asize])), (anod, .inr (7, [.ref nm, .ref nl, .ref n1, .ref n2, .ref nf, .ref ns, .ref nh, .ref nk, .ref np, .int 16, .int 0, .int 16, .int 0, .int 0])), (ns, .inl (kL, 1024, .inr (.inl zSec))), (nf, .inl (kL, 1024, .inr (.inl zFir))), (asort, .inr (1, [.int 0, .ref eD, .int 0]))] sz) [(aroom, .inr (9, [.ref asort, .ref anod, .ref atold, .int 3, .ref aheld, .int 0, .ref apair, .ref astep, .int 1, .int 0, .int (-1), .int 0, .int 0, .ref asize])), (anod, .inr (7, [.ref nm, .ref nl, .ref n1, .ref n2, .ref nf, .ref ns, .ref nh, .ref nk, .ref np, .int 16, .int 0, .int 16, .int 0, .int 0])), (ns, .inl (kL, 1024, .inr (.inl zSec))), (nf, .inl (kL, 1024, .inr (.inl zFir))), (asort, .inr (1, [.int 0, .ref eD, .int 0]))] [(kL, .long)]) (va_A [(aroom, .inr (9, [.ref asort, .ref anod, .ref atold, .int 3, .ref aheld, .int 0, .ref apair, .ref astep, .int 1, .int 0, .int (-1), .int 0, .int 0, .ref asize])), (anod, .inr (7, [.ref nm, .ref nl, .ref n1, .ref n2, .ref nf, .ref ns, .ref nh, .ref nk, .ref np, .int 16, .int 0, .int 16, .int 0, .int 0])), (ns, .inl (kL, 1024, .inr (.inl zSec))), (nf, .inl (kL, 1024, .inr (.inl zFir))), (asort, .inr (1, [.int 0, .ref eD, .int 0]))] sz)) 0 0 (va_A [(aroom, .inr (9, [.ref asort, .ref anod, .ref atold, .int 3, .ref aheld, .int 0, .ref apair, .ref astep, .int 1, .int 0, .int (-1), .int 0, .int 0, .ref asize])), (anod, .inr (7, [.ref nm, .ref nl, .ref n1, .ref n2, .ref nf, .ref ns, .ref nh, .ref nk, .ref np, .int 16, .int 0, .int 16, .int 0, .int 0])), (ns, .inl (kL, 1024, .inr (.inl zSec))), (nf, .inl (kL, 1024, .inr (.inl zFir))), (asort, .inr (1, [.int 0, .ref eD, .int 0]))] sz) := by
  refine Met.ofW (cc := cX7_known) (maxL := 5) (ret := (some .int)) (by decide) rfl ?_
  intro p e s m args below meth c s₁ B hml hv
  obtain ⟨rfl, hsz, hP, hK, hD0, hE⟩ := hv
  have hx := B.exec
  have hb := B.bytes
  have hr := B.returns
  have hts := atoms_spec (ws := w_c_R_known_10) B.pre
  have hown : s.vm.findClass RX7 = some m.cls := findClass_of_methodNamed B.named
  have hlocks := B.notSynchronized
  subst hsz
  have hD := hD0.self (sz := s.heap.size)
  generalize hAe : va_A [(aroom, .inr (9, [.ref asort, .ref anod, .ref atold, .int 3, .ref aheld, .int 0, .ref apair, .ref astep, .int 1, .int 0, .int (-1), .int 0, .int 0, .ref asize])), (anod, .inr (7, [.ref nm, .ref nl, .ref n1, .ref n2, .ref nf, .ref ns, .ref nh, .ref nk, .ref np, .int 16, .int 0, .int 16, .int 0, .int 0])), (ns, .inl (kL, 1024, .inr (.inl zSec))), (nf, .inl (kL, 1024, .inr (.inl zFir))), (asort, .inr (1, [.int 0, .ref eD, .int 0]))] s.heap.size = A at hD hE ⊢
  have hA : ∀ q : Nat, s.heap.size ≤ q → A q := fun q h => by rw [← hAe]; exact Or.inr h
  have hS : va_S A s.heap s.heap [] := va_S.rf
  have hP : va_P (dC, dI) vwCl [(aroom, .inr (9, [.ref asort, .ref anod, .ref atold, .int 3, .ref aheld, .int 0, .ref apair, .ref astep, .int 1, .int 0, .int (-1), .int 0, .int 0, .ref asize])), (anod, .inr (7, [.ref nm, .ref nl, .ref n1, .ref n2, .ref nf, .ref ns, .ref nh, .ref nk, .ref np, .int 16, .int 0, .int 16, .int 0, .int 0])), (ns, .inl (kL, 1024, .inr (.inl zSec))), (nf, .inl (kL, 1024, .inr (.inl zFir))), (asort, .inr (1, [.int 0, .ref eD, .int 0]))] s.heap := hP
  have hl := lv_entry ([.ref aroom, .int 1, .int 0]) (n := 5) (Nat.le_of_ble_eq_true rfl)
  rw [lg_entry_eq]
  generalize (lg_sl ([.ref aroom, .int 1, .int 0]) ++ List.replicate (5 - (lg_sl ([.ref aroom, .int 1, .int 0])).length) Slot.unset).toArray = ls at hl ⊢
  have hl : lv_has ls 5 [(0, .ref aroom), (1, .int 1), (2, .int 0)] := hl
  refine lv_iload_n hx hb dX7_known_0 rfl (lv_at hl 1 rfl) ?_
  refine lv_iload_n hx hb dX7_known_1 rfl (lv_at hl 2 rfl) ?_
  refine lv_icmp_eq (tgt := 14) hx hb dX7_known_2 (by decide) (fun c_1 => ?_) (fun c_1 => ?_)
  · exact absurd c_1 (by decide)
  refine lv_iload_n hx hb dX7_known_5 rfl (lv_at hl 1 rfl) ?_
  refine lv_iconst (v := 1) hx hb dX7_known_6 (by decide) ?_
  refine lv_icmp_eq (tgt := 14) hx hb dX7_known_7 (by decide) (fun c_2 => ?_) (fun c_2 => ?_)
  rotate_left
  · exact absurd (by decide) c_2
  refine lv_iconst (v := 1) hx hb dX7_known_14 (by decide) ?_
  have hP9 := hP.sub (ws' := [(aroom, .inr (9, [.ref asort, .ref anod, .ref atold, .int 3, .ref aheld, .int 0, .ref apair, .ref astep, .int 1, .int 0, .int (-1), .int 0, .int 0, .ref asize])), (anod, .inr (7, [.ref nm, .ref nl, .ref n1, .ref n2, .ref nf, .ref ns, .ref nh, .ref nk, .ref np, .int 16, .int 0, .int 16, .int 0, .int 0])), (ns, .inl (kL, 1024, .inr (.inl zSec))), (nf, .inl (kL, 1024, .inr (.inl zFir))), (asort, .inr (1, [.int 0, .ref eD, .int 0]))]) [0, 1, 2, 3, 4] rfl
  have hD9 := hD.sub (ws' := [(aroom, .inr (9, [.ref asort, .ref anod, .ref atold, .int 3, .ref aheld, .int 0, .ref apair, .ref astep, .int 1, .int 0, .int (-1), .int 0, .int 0, .ref asize])), (anod, .inr (7, [.ref nm, .ref nl, .ref n1, .ref n2, .ref nf, .ref ns, .ref nh, .ref nk, .ref np, .int 16, .int 0, .int 16, .int 0, .int 0])), (ns, .inl (kL, 1024, .inr (.inl zSec))), (nf, .inl (kL, 1024, .inr (.inl zFir))), (asort, .inr (1, [.int 0, .ref eD, .int 0]))]) [0, 1, 2, 3, 4] (by decide) rfl
  have hK9 := hK.sub (tys' := [(kL, .long)]) [0] rfl
  refine W.widen (k := 0) (n := 0) (Nat.le_of_ble_eq_true rfl) (Nat.le_of_ble_eq_true rfl) ?_
  exact W.iret (v := 1) hx hb hr (fun t ht hW => ⟨⟨1, (), rfl, rfl, ⟨by rw [ht]; exact hP9, va_K.moved hW.alike hK9, hD9⟩⟩, hS.F ht⟩) hS.2.2 dX7_known_15

def wb_c_R_order_10 : List Cond := [.fieldLink RX7 21 "Hornbook$Room" "nodes" "LHornbook$Nodes;", .fieldLink RX7 152 "Hornbook$Step" "a" "I", .code yX5_through cX5_through 4 (some .int), .fieldLink RX5 28 "Hornbook$Nodes" "second" "[J", .methodLink RX7 194 yX5_through, .instanceMethod yX5_through, .selects RX5 yX5_through yX5_through, .initialized RX5, .fieldLink RX7 158 "Hornbook$Step" "b" "I", .fieldLink RX7 161 "Hornbook$Step" "x" "I", .fieldLink RX7 246 "Hornbook$Step" "phase" "I", .code yX7_known cX7_known 5 (some .int), .methodLink RX7 272 yX7_known, .instanceMethod yX7_known, .selects RX7 yX7_known yX7_known, .initialized RX7, .code yX7_answer cX7_answer 2 none, .fieldLink RX7 56 "Hornbook$Room" "last" "I", .fieldLink RX7 49 "Hornbook$Room" "asking" "I", .methodLink RX7 275 yX7_answer, .instanceMethod yX7_answer, .selects RX7 yX7_answer yX7_answer] ++ u_ws RX10 TX10 14 ++ u_ws RX5 TX5 14 ++ u_ws RX7 TX7 14
def w_c_R_order_10 : List Cond := .code yX7_stepOrder cX7_stepOrder 8 none :: wb_c_R_order_10
set_option maxRecDepth 100000 in
theorem g_c_R_order_10_0 : GoodIn w_c_R_order_10 (wsV RX7 194 RX5 yX5_through w_c_N_through_1) := goodIn_app (goodIn_of _ (by decide +kernel)) (goodIn_p (big := w_c_R_order_10) (.code yX5_through cX5_through 4 (some .int) :: wb_c_N_through_1) [3] rfl (by decide +kernel))
set_option maxRecDepth 100000 in
theorem g_c_R_order_10_1 : GoodIn w_c_R_order_10 (wsV RX7 194 RX5 yX5_through w_c_N_through_0) := goodIn_app (goodIn_of _ (by decide +kernel)) (goodIn_p (big := w_c_R_order_10) (.code yX5_through cX5_through 4 (some .int) :: wb_c_N_through_0) [3] rfl (by decide +kernel))
set_option maxRecDepth 100000 in
theorem g_c_R_order_10_2 : GoodIn w_c_R_order_10 (wsV RX7 194 RX5 yX5_through w_c_N_through_n) := goodIn_app (goodIn_of _ (by decide +kernel)) (goodIn_p (big := w_c_R_order_10) (.code yX5_through cX5_through 4 (some .int) :: wb_c_N_through_n) [3] rfl (by decide +kernel))
set_option maxRecDepth 100000 in
theorem g_c_R_order_10_3 : GoodIn w_c_R_order_10 (wsV RX7 272 RX7 yX7_known w_c_R_known_10) := goodIn_app (goodIn_of _ (by decide +kernel)) (goodIn_p (big := w_c_R_order_10) (.code yX7_known cX7_known 5 (some .int) :: wb_c_R_known_10) [12] rfl (by decide +kernel))
set_option maxRecDepth 100000 in
theorem g_c_R_order_10_4 : GoodIn w_c_R_order_10 (wsV RX7 275 RX7 yX7_answer w_c_R_answer) := goodIn_app (goodIn_of _ (by decide +kernel)) (goodIn_p (big := w_c_R_order_10) (.code yX7_answer cX7_answer 2 none :: wb_c_R_answer) [17] rfl (by decide +kernel))
set_option maxHeartbeats 4000000 in
set_option maxRecDepth 100000 in
theorem c_R_order_10 (l : Launch) (eD eI : Nat) (ad : Nat → Nat) (dC : Nat → ClassId) (dI : Nat → Nat → Nat) (sz : Nat) (aroom : Nat) (anod : Nat) (asort : Nat) (atold : Nat) (aheld : Nat) (apair : Nat) (astep : Nat) (asize : Nat) (nm : Nat) (nl : Nat) (n1 : Nat) (n2 : Nat) (nf : Nat) (ns : Nat) (nh : Nat) (nk : Nat) (np : Nat) (sp : Nat) (kL : ClassId) : Met l yX7_stepOrder w_c_R_order_10 ({ frames := 1, cells := 0, slots := 0, locals := 24 }) (va_Pc [.ref aroom, .ref sp] (zPre eD eI ad (dC, dI) [(aroom, .inr (9, [.ref asort, .ref anod, .ref atold, .int 3, .ref aheld, .int 0, .ref apair, .ref astep, .int 1, .int 0, .int (-1), .int 0, .int 0, .ref asize])), (anod, .inr (7, [.ref nm, .ref nl, .ref n1, .ref n2, .ref nf, .ref ns, .ref nh, .ref nk, .ref np, .int 16, .int 0, .int 16, .int 0, .int 0])), (ns, .inl (kL, 1024, .inr (.inl zSec))), (nf, .inl (kL, 1024, .inr (.inl zFir))), (asort, .inr (1, [.int 0, .ref eD, .int 0])), (sp, .inr (12, [.int 0, .int (-1), .int 1, .int 0, .int 0, .int (-1), .int (-1), .int 0, .int 0, .int 0, .int 0, .int 0, .int 0, .int 0]))] [(kL, .long)] sz)) (va_Qv (fun (_ : Unit) => True) (fun (_ : Unit) => zEnd (dC, dI) (va_A [(aroom, .inr (9, [.ref asort, .ref anod, .ref atold, .int 3, .ref aheld, .int 0, .ref apair, .ref astep, .int 1, .int 0, .int (-1), .int 0, .int 0, .ref asize])), (anod, .inr (7, [.ref nm, .ref nl, .ref n1, .ref n2, .ref nf, .ref ns, .ref nh, .ref nk, .ref np, .int 16, .int 0, .int 16, .int 0, .int 0])), (ns, .inl (kL, 1024, .inr (.inl zSec))), (nf, .inl (kL, 1024, .inr (.inl zFir))), (asort, .inr (1, [.int 0, .ref eD, .int 0])), (sp, .inr (12, [.int 0, .int (-1), .int 1, .int 0, .int 0, .int (-1), .int (-1), .int 0, .int 0, .int 0, .int 0, .int 0, .int 0, .int 0]))] sz) [(aroom, .inr (9, [.ref asort, .ref anod, .ref atold, .int 3, .ref aheld, .int 0, .ref apair, .ref astep, .int 0, .int 0, .int 1, .int 0, .int 0, .ref asize]))] []) (va_A [(aroom, .inr (9, [.ref asort, .ref anod, .ref atold, .int 3, .ref aheld, .int 0, .ref apair, .ref astep, .int 1, .int 0, .int (-1), .int 0, .int 0, .ref asize])), (anod, .inr (7, [.ref nm, .ref nl, .ref n1, .ref n2, .ref nf, .ref ns, .ref nh, .ref nk, .ref np, .int 16, .int 0, .int 16, .int 0, .int 0])), (ns, .inl (kL, 1024, .inr (.inl zSec))), (nf, .inl (kL, 1024, .inr (.inl zFir))), (asort, .inr (1, [.int 0, .ref eD, .int 0])), (sp, .inr (12, [.int 0, .int (-1), .int 1, .int 0, .int 0, .int (-1), .int (-1), .int 0, .int 0, .int 0, .int 0, .int 0, .int 0, .int 0]))] sz)) 0 0 (va_A [(aroom, .inr (9, [.ref asort, .ref anod, .ref atold, .int 3, .ref aheld, .int 0, .ref apair, .ref astep, .int 1, .int 0, .int (-1), .int 0, .int 0, .ref asize])), (anod, .inr (7, [.ref nm, .ref nl, .ref n1, .ref n2, .ref nf, .ref ns, .ref nh, .ref nk, .ref np, .int 16, .int 0, .int 16, .int 0, .int 0])), (ns, .inl (kL, 1024, .inr (.inl zSec))), (nf, .inl (kL, 1024, .inr (.inl zFir))), (asort, .inr (1, [.int 0, .ref eD, .int 0])), (sp, .inr (12, [.int 0, .int (-1), .int 1, .int 0, .int 0, .int (-1), .int (-1), .int 0, .int 0, .int 0, .int 0, .int 0, .int 0, .int 0]))] sz) := by
  refine Met.ofW (cc := cX7_stepOrder) (maxL := 8) (ret := none) (by decide) rfl ?_
  intro p e s m args below meth c s₁ B hml hv
  obtain ⟨rfl, hsz, hP, hK, hD0, hE⟩ := hv
  have hx := B.exec
  have hb := B.bytes
  have hr := B.returns
  have hts := atoms_spec (ws := w_c_R_order_10) B.pre
  have hown : s.vm.findClass RX7 = some m.cls := findClass_of_methodNamed B.named
  have hlocks := B.notSynchronized
  subst hsz
  have hD := hD0.self (sz := s.heap.size)
  generalize hAe : va_A [(aroom, .inr (9, [.ref asort, .ref anod, .ref atold, .int 3, .ref aheld, .int 0, .ref apair, .ref astep, .int 1, .int 0, .int (-1), .int 0, .int 0, .ref asize])), (anod, .inr (7, [.ref nm, .ref nl, .ref n1, .ref n2, .ref nf, .ref ns, .ref nh, .ref nk, .ref np, .int 16, .int 0, .int 16, .int 0, .int 0])), (ns, .inl (kL, 1024, .inr (.inl zSec))), (nf, .inl (kL, 1024, .inr (.inl zFir))), (asort, .inr (1, [.int 0, .ref eD, .int 0])), (sp, .inr (12, [.int 0, .int (-1), .int 1, .int 0, .int 0, .int (-1), .int (-1), .int 0, .int 0, .int 0, .int 0, .int 0, .int 0, .int 0]))] s.heap.size = A at hD hE ⊢
  have hA : ∀ q : Nat, s.heap.size ≤ q → A q := fun q h => by rw [← hAe]; exact Or.inr h
  have hS : va_S A s.heap s.heap [] := va_S.rf
  have hP : va_P (dC, dI) vwCl [(aroom, .inr (9, [.ref asort, .ref anod, .ref atold, .int 3, .ref aheld, .int 0, .ref apair, .ref astep, .int 1, .int 0, .int (-1), .int 0, .int 0, .ref asize])), (anod, .inr (7, [.ref nm, .ref nl, .ref n1, .ref n2, .ref nf, .ref ns, .ref nh, .ref nk, .ref np, .int 16, .int 0, .int 16, .int 0, .int 0])), (ns, .inl (kL, 1024, .inr (.inl zSec))), (nf, .inl (kL, 1024, .inr (.inl zFir))), (asort, .inr (1, [.int 0, .ref eD, .int 0])), (sp, .inr (12, [.int 0, .int (-1), .int 1, .int 0, .int 0, .int (-1), .int (-1), .int 0, .int 0, .int 0, .int 0, .int 0, .int 0, .int 0]))] s.heap := hP
  have hl := lv_entry ([.ref aroom, .ref sp]) (n := 8) (Nat.le_of_ble_eq_true rfl)
  rw [lg_entry_eq]
  generalize (lg_sl ([.ref aroom, .ref sp]) ++ List.replicate (8 - (lg_sl ([.ref aroom, .ref sp])).length) Slot.unset).toArray = ls at hl ⊢
  have hl : lv_has ls 8 [(0, .ref aroom), (1, .ref sp)] := hl
  have in_RX10 : ∀ w ∈ u_ws RX10 TX10 14, w ∈ w_c_R_order_10 := by decide +kernel
  have in_RX5 : ∀ w ∈ u_ws RX5 TX5 14, w ∈ w_c_R_order_10 := by decide +kernel
  have in_RX7 : ∀ w ∈ u_ws RX7 TX7 14, w ∈ w_c_R_order_10 := by decide +kernel
  refine lv_aload_n hx hb dX7_stepOrder_0 rfl (lv_at hl 1 rfl) ?_
  refine lv_aload_n hx hb dX7_stepOrder_1 rfl (lv_at hl 0 rfl) ?_
  refine va_get (D := (dC, dI)) (ci := 9) (v := .ref anod) (C := RX7) (T := TX7) (N := 14) hx hb hts in_RX7 hown hK hP 0 rfl rfl 1 (by decide) (hts (.fieldLink RX7 21 "Hornbook$Room" "nodes" "LHornbook$Nodes;") (by decide +kernel)) (fun _ h9 => h9) rfl dX7_stepOrder_2 ?_
  refine lv_aload_n hx hb dX7_stepOrder_5 rfl (lv_at hl 1 rfl) ?_
  refine va_get (D := (dC, dI)) (ci := 12) (v := .int 1) (C := RX10) (T := TX10) (N := 14) hx hb hts in_RX10 hown hK hP 5 rfl rfl 2 (by decide) (hts (.fieldLink RX7 152 "Hornbook$Step" "a" "I") (by decide +kernel)) (fun _ h9 => h9) rfl dX7_stepOrder_6 ?_
  refine z_i (wr := [(aroom, .inr (9, [.ref asort, .ref anod, .ref atold, .int 3, .ref aheld, .int 0, .ref apair, .ref astep, .int 1, .int 0, .int (-1), .int 0, .int 0, .ref asize])), (nf, .inl (kL, 1024, .inr (.inl zFir))), (asort, .inr (1, [.int 0, .ref eD, .int 0])), (sp, .inr (12, [.int 0, .int (-1), .int 1, .int 0, .int 0, .int (-1), .int (-1), .int 0, .int 0, .int 0, .int 0, .int 0, .int 0, .int 0]))]) (va_runV (As := [.int 1]) (rest := [.ref sp]) ⟨hx, hb, hml, hown, hts⟩ (c_N_through_1 l eD eI ad dC dI s.heap.size anod nm nl n1 n2 nf ns nh nk np kL) (cwV 1 hts g_c_R_order_10_0 rfl rfl rfl (by decide +kernel) ⟨Nat.le_of_ble_eq_true rfl, Nat.le_of_ble_eq_true rfl⟩) (z_preV (wc := [(anod, .inr (7, [.ref nm, .ref nl, .ref n1, .ref n2, .ref nf, .ref ns, .ref nh, .ref nk, .ref np, .int 16, .int 0, .int 16, .int 0, .int 0])), (ns, .inl (kL, 1024, .inr (.inl zSec)))]) hP hD hK hS hA hE [1, 2] [0] rfl (by decide) rfl (ci := 7) (q0 := 0) rfl rfl) rfl rfl hl.1 rfl (lv_room (Nat.le_of_ble_eq_true rfl)) dX7_stepOrder_9 ⟨Nat.le_of_ble_eq_true rfl, Nat.le_of_ble_eq_true rfl⟩) hP hD hK hS hA [1, 2] [0, 3, 4, 5] rfl rfl (by decide) (by decide) (fun r_1 u H locs hw_2 hP hD hK hS => ?_)
  obtain ⟨⟩ := u
  have hP : va_P (dC, dI) vwCl [(aroom, .inr (9, [.ref asort, .ref anod, .ref atold, .int 3, .ref aheld, .int 0, .ref apair, .ref astep, .int 1, .int 0, .int (-1), .int 0, .int 0, .ref asize])), (nf, .inl (kL, 1024, .inr (.inl zFir))), (asort, .inr (1, [.int 0, .ref eD, .int 0])), (sp, .inr (12, [.int 0, .int (-1), .int 1, .int 0, .int 0, .int (-1), .int (-1), .int 0, .int 0, .int 0, .int 0, .int 0, .int 0, .int 0])), (anod, .inr (7, [.ref nm, .ref nl, .ref n1, .ref n2, .ref nf, .ref ns, .ref nh, .ref nk, .ref np, .int 16, .int 0, .int 16, .int 0, .int 0])), (ns, .inl (kL, 1024, .inr (.inl zSec)))] H := hP
  have hD : va_D A [(aroom, .inr (9, [.ref asort, .ref anod, .ref atold, .int 3, .ref aheld, .int 0, .ref apair, .ref astep, .int 1, .int 0, .int (-1), .int 0, .int 0, .ref asize])), (nf, .inl (kL, 1024, .inr (.inl zFir))), (asort, .inr (1, [.int 0, .ref eD, .int 0])), (sp, .inr (12, [.int 0, .int (-1), .int 1, .int 0, .int 0, .int (-1), .int (-1), .int 0, .int 0, .int 0, .int 0, .int 0, .int 0, .int 0])), (anod, .inr (7, [.ref nm, .ref nl, .ref n1, .ref n2, .ref nf, .ref ns, .ref nh, .ref nk, .ref np, .int 16, .int 0, .int 16, .int 0, .int 0])), (ns, .inl (kL, 1024, .inr (.inl zSec)))] := hD
  have hK : va_K (dC, dI) vwCl [(kL, .long), (kL, .long)] s := hK
  have hw_2 : r_1 = 1 := hw_2
  have hw_2 := hw_2.symm
  subst hw_2
  refine va_put (D := (dC, dI)) (ci := 12) (v := .int 1) (ty := .int) (C := RX10) (T := TX10) (N := 14) hx hb hts in_RX10 tyX10 tyX10_ok nmX10 hown hK hP hD hS 3 rfl rfl 2 (by decide) (hts (.fieldLink RX7 152 "Hornbook$Step" "a" "I") (by decide +kernel)) (fun _ h9 => h9) rfl (by decide +kernel) rfl rfl (Nat.le_of_ble_eq_true rfl) dX7_stepOrder_12 (fun H locs hP hD hS => ?_)
  have hP : va_P (dC, dI) vwCl [(aroom, .inr (9, [.ref asort, .ref anod, .ref atold, .int 3, .ref aheld, .int 0, .ref apair, .ref astep, .int 1, .int 0, .int (-1), .int 0, .int 0, .ref asize])), (nf, .inl (kL, 1024, .inr (.inl zFir))), (asort, .inr (1, [.int 0, .ref eD, .int 0])), (sp, .inr (12, [.int 0, .int (-1), .int 1, .int 0, .int 0, .int (-1), .int (-1), .int 0, .int 0, .int 0, .int 0, .int 0, .int 0, .int 0])), (anod, .inr (7, [.ref nm, .ref nl, .ref n1, .ref n2, .ref nf, .ref ns, .ref nh, .ref nk, .ref np, .int 16, .int 0, .int 16, .int 0, .int 0])), (ns, .inl (kL, 1024, .inr (.inl zSec)))] H := hP
  have hD : va_D A [(aroom, .inr (9, [.ref asort, .ref anod, .ref atold, .int 3, .ref aheld, .int 0, .ref apair, .ref astep, .int 1, .int 0, .int (-1), .int 0, .int 0, .ref asize])), (nf, .inl (kL, 1024, .inr (.inl zFir))), (asort, .inr (1, [.int 0, .ref eD, .int 0])), (sp, .inr (12, [.int 0, .int (-1), .int 1, .int 0, .int 0, .int (-1), .int (-1), .int 0, .int 0, .int 0, .int 0, .int 0, .int 0, .int 0])), (anod, .inr (7, [.ref nm, .ref nl, .ref n1, .ref n2, .ref nf, .ref ns, .ref nh, .ref nk, .ref np, .int 16, .int 0, .int 16, .int 0, .int 0])), (ns, .inl (kL, 1024, .inr (.inl zSec)))] := hD
  refine lv_aload_n hx hb dX7_stepOrder_15 rfl (lv_at hl 1 rfl) ?_
  refine lv_aload_n hx hb dX7_stepOrder_16 rfl (lv_at hl 0 rfl) ?_
  refine va_get (D := (dC, dI)) (ci := 9) (v := .ref anod) (C := RX7) (T := TX7) (N := 14) hx hb hts in_RX7 hown hK hP 0 rfl rfl 1 (by decide) (hts (.fieldLink RX7 21 "Hornbook$Room" "nodes" "LHornbook$Nodes;") (by decide +kernel)) (fun _ h9 => h9) rfl dX7_stepOrder_17 ?_
  refine lv_aload_n hx hb dX7_stepOrder_20 rfl (lv_at hl 1 rfl) ?_
  refine va_get (D := (dC, dI)) (ci := 12) (v := .int 0) (C := RX10) (T := TX10) (N := 14) hx hb hts in_RX10 hown hK hP 3 rfl rfl 3 (by decide) (hts (.fieldLink RX7 158 "Hornbook$Step" "b" "I") (by decide +kernel)) (fun _ h9 => h9) rfl dX7_stepOrder_21 ?_
  refine z_i (wr := [(aroom, .inr (9, [.ref asort, .ref anod, .ref atold, .int 3, .ref aheld, .int 0, .ref apair, .ref astep, .int 1, .int 0, .int (-1), .int 0, .int 0, .ref asize])), (nf, .inl (kL, 1024, .inr (.inl zFir))), (asort, .inr (1, [.int 0, .ref eD, .int 0])), (sp, .inr (12, [.int 0, .int (-1), .int 1, .int 0, .int 0, .int (-1), .int (-1), .int 0, .int 0, .int 0, .int 0, .int 0, .int 0, .int 0]))]) (va_runV (As := [.int 0]) (rest := [.ref sp]) ⟨hx, hb, hml, hown, hts⟩ (c_N_through_0 l eD eI ad dC dI H.size anod nm nl n1 n2 nf ns nh nk np kL) (cwV 1 hts g_c_R_order_10_1 rfl rfl rfl (by decide +kernel) ⟨Nat.le_of_ble_eq_true rfl, Nat.le_of_ble_eq_true rfl⟩) (z_preV (wc := [(anod, .inr (7, [.ref nm, .ref nl, .ref n1, .ref n2, .ref nf, .ref ns, .ref nh, .ref nk, .ref np, .int 16, .int 0, .int 16, .int 0, .int 0])), (ns, .inl (kL, 1024, .inr (.inl zSec)))]) hP hD hK hS hA hE [4, 5] [0] rfl (by decide) rfl (ci := 7) (q0 := 0) rfl rfl) rfl rfl hl.1 rfl (lv_room (Nat.le_of_ble_eq_true rfl)) dX7_stepOrder_24 ⟨Nat.le_of_ble_eq_true rfl, Nat.le_of_ble_eq_true rfl⟩) hP hD hK hS hA [4, 5] [0, 1, 2, 3] rfl rfl (by decide) (by decide) (fun r_3 u H locs hw_4 hP hD hK hS => ?_)
  obtain ⟨⟩ := u
  have hP : va_P (dC, dI) vwCl [(aroom, .inr (9, [.ref asort, .ref anod, .ref atold, .int 3, .ref aheld, .int 0, .ref apair, .ref astep, .int 1, .int 0, .int (-1), .int 0, .int 0, .ref asize])), (nf, .inl (kL, 1024, .inr (.inl zFir))), (asort, .inr (1, [.int 0, .ref eD, .int 0])), (sp, .inr (12, [.int 0, .int (-1), .int 1, .int 0, .int 0, .int (-1), .int (-1), .int 0, .int 0, .int 0, .int 0, .int 0, .int 0, .int 0])), (anod, .inr (7, [.ref nm, .ref nl, .ref n1, .ref n2, .ref nf, .ref ns, .ref nh, .ref nk, .ref np, .int 16, .int 0, .int 16, .int 0, .int 0])), (ns, .inl (kL, 1024, .inr (.inl zSec)))] H := hP
  have hD : va_D A [(aroom, .inr (9, [.ref asort, .ref anod, .ref atold, .int 3, .ref aheld, .int 0, .ref apair, .ref astep, .int 1, .int 0, .int (-1), .int 0, .int 0, .ref asize])), (nf, .inl (kL, 1024, .inr (.inl zFir))), (asort, .inr (1, [.int 0, .ref eD, .int 0])), (sp, .inr (12, [.int 0, .int (-1), .int 1, .int 0, .int 0, .int (-1), .int (-1), .int 0, .int 0, .int 0, .int 0, .int 0, .int 0, .int 0])), (anod, .inr (7, [.ref nm, .ref nl, .ref n1, .ref n2, .ref nf, .ref ns, .ref nh, .ref nk, .ref np, .int 16, .int 0, .int 16, .int 0, .int 0])), (ns, .inl (kL, 1024, .inr (.inl zSec)))] := hD
  have hK : va_K (dC, dI) vwCl [(kL, .long), (kL, .long), (kL, .long)] s := hK
  have hw_4 : r_3 = 0 := hw_4
  have hw_4 := hw_4.symm
  subst hw_4
  refine va_put (D := (dC, dI)) (ci := 12) (v := .int 0) (ty := .int) (C := RX10) (T := TX10) (N := 14) hx hb hts in_RX10 tyX10 tyX10_ok nmX10 hown hK hP hD hS 3 rfl rfl 3 (by decide) (hts (.fieldLink RX7 158 "Hornbook$Step" "b" "I") (by decide +kernel)) (fun _ h9 => h9) rfl (by decide +kernel) rfl rfl (Nat.le_of_ble_eq_true rfl) dX7_stepOrder_27 (fun H locs hP hD hS => ?_)
  have hP : va_P (dC, dI) vwCl [(aroom, .inr (9, [.ref asort, .ref anod, .ref atold, .int 3, .ref aheld, .int 0, .ref apair, .ref astep, .int 1, .int 0, .int (-1), .int 0, .int 0, .ref asize])), (nf, .inl (kL, 1024, .inr (.inl zFir))), (asort, .inr (1, [.int 0, .ref eD, .int 0])), (sp, .inr (12, [.int 0, .int (-1), .int 1, .int 0, .int 0, .int (-1), .int (-1), .int 0, .int 0, .int 0, .int 0, .int 0, .int 0, .int 0])), (anod, .inr (7, [.ref nm, .ref nl, .ref n1, .ref n2, .ref nf, .ref ns, .ref nh, .ref nk, .ref np, .int 16, .int 0, .int 16, .int 0, .int 0])), (ns, .inl (kL, 1024, .inr (.inl zSec)))] H := hP
  have hD : va_D A [(aroom, .inr (9, [.ref asort, .ref anod, .ref atold, .int 3, .ref aheld, .int 0, .ref apair, .ref astep, .int 1, .int 0, .int (-1), .int 0, .int 0, .ref asize])), (nf, .inl (kL, 1024, .inr (.inl zFir))), (asort, .inr (1, [.int 0, .ref eD, .int 0])), (sp, .inr (12, [.int 0, .int (-1), .int 1, .int 0, .int 0, .int (-1), .int (-1), .int 0, .int 0, .int 0, .int 0, .int 0, .int 0, .int 0])), (anod, .inr (7, [.ref nm, .ref nl, .ref n1, .ref n2, .ref nf, .ref ns, .ref nh, .ref nk, .ref np, .int 16, .int 0, .int 16, .int 0, .int 0])), (ns, .inl (kL, 1024, .inr (.inl zSec)))] := hD
  refine lv_aload_n hx hb dX7_stepOrder_30 rfl (lv_at hl 1 rfl) ?_
  refine lv_aload_n hx hb dX7_stepOrder_31 rfl (lv_at hl 0 rfl) ?_
  refine va_get (D := (dC, dI)) (ci := 9) (v := .ref anod) (C := RX7) (T := TX7) (N := 14) hx hb hts in_RX7 hown hK hP 0 rfl rfl 1 (by decide) (hts (.fieldLink RX7 21 "Hornbook$Room" "nodes" "LHornbook$Nodes;") (by decide +kernel)) (fun _ h9 => h9) rfl dX7_stepOrder_32 ?_
  refine lv_aload_n hx hb dX7_stepOrder_35 rfl (lv_at hl 1 rfl) ?_
  refine va_get (D := (dC, dI)) (ci := 12) (v := .int (-1)) (C := RX10) (T := TX10) (N := 14) hx hb hts in_RX10 hown hK hP 3 rfl rfl 5 (by decide) (hts (.fieldLink RX7 161 "Hornbook$Step" "x" "I") (by decide +kernel)) (fun _ h9 => h9) rfl dX7_stepOrder_36 ?_
  refine z_i (wr := [(aroom, .inr (9, [.ref asort, .ref anod, .ref atold, .int 3, .ref aheld, .int 0, .ref apair, .ref astep, .int 1, .int 0, .int (-1), .int 0, .int 0, .ref asize])), (nf, .inl (kL, 1024, .inr (.inl zFir))), (asort, .inr (1, [.int 0, .ref eD, .int 0])), (sp, .inr (12, [.int 0, .int (-1), .int 1, .int 0, .int 0, .int (-1), .int (-1), .int 0, .int 0, .int 0, .int 0, .int 0, .int 0, .int 0])), (ns, .inl (kL, 1024, .inr (.inl zSec)))]) (va_runV (As := [.int (-1)]) (rest := [.ref sp]) ⟨hx, hb, hml, hown, hts⟩ (c_N_through_n l eD eI ad dC dI H.size anod nm nl n1 n2 nf ns nh nk np) (cwV 1 hts g_c_R_order_10_2 rfl rfl rfl (by decide +kernel) ⟨Nat.le_of_ble_eq_true rfl, Nat.le_of_ble_eq_true rfl⟩) (z_preV (wc := [(anod, .inr (7, [.ref nm, .ref nl, .ref n1, .ref n2, .ref nf, .ref ns, .ref nh, .ref nk, .ref np, .int 16, .int 0, .int 16, .int 0, .int 0]))]) hP hD hK hS hA hE [4] [] rfl (by decide) rfl (ci := 7) (q0 := 0) rfl rfl) rfl rfl hl.1 rfl (lv_room (Nat.le_of_ble_eq_true rfl)) dX7_stepOrder_39 ⟨Nat.le_of_ble_eq_true rfl, Nat.le_of_ble_eq_true rfl⟩) hP hD hK hS hA [4] [0, 1, 2, 3, 5] rfl rfl (by decide) (by decide) (fun r_5 u H locs hw_6 hP hD hK hS => ?_)
  obtain ⟨⟩ := u
  have hP : va_P (dC, dI) vwCl [(aroom, .inr (9, [.ref asort, .ref anod, .ref atold, .int 3, .ref aheld, .int 0, .ref apair, .ref astep, .int 1, .int 0, .int (-1), .int 0, .int 0, .ref asize])), (nf, .inl (kL, 1024, .inr (.inl zFir))), (asort, .inr (1, [.int 0, .ref eD, .int 0])), (sp, .inr (12, [.int 0, .int (-1), .int 1, .int 0, .int 0, .int (-1), .int (-1), .int 0, .int 0, .int 0, .int 0, .int 0, .int 0, .int 0])), (ns, .inl (kL, 1024, .inr (.inl zSec))), (anod, .inr (7, [.ref nm, .ref nl, .ref n1, .ref n2, .ref nf, .ref ns, .ref nh, .ref nk, .ref np, .int 16, .int 0, .int 16, .int 0, .int 0]))] H := hP
  have hD : va_D A [(aroom, .inr (9, [.ref asort, .ref anod, .ref atold, .int 3, .ref aheld, .int 0, .ref apair, .ref astep, .int 1, .int 0, .int (-1), .int 0, .int 0, .ref asize])), (nf, .inl (kL, 1024, .inr (.inl zFir))), (asort, .inr (1, [.int 0, .ref eD, .int 0])), (sp, .inr (12, [.int 0, .int (-1), .int 1, .int 0, .int 0, .int (-1), .int (-1), .int 0, .int 0, .int 0, .int 0, .int 0, .int 0, .int 0])), (ns, .inl (kL, 1024, .inr (.inl zSec))), (anod, .inr (7, [.ref nm, .ref nl, .ref n1, .ref n2, .ref nf, .ref ns, .ref nh, .ref nk, .ref np, .int 16, .int 0, .int 16, .int 0, .int 0]))] := hD
  have hK : va_K (dC, dI) vwCl [(kL, .long), (kL, .long), (kL, .long)] s := by simpa using hK
  have hw_6 : r_5 = (-1) := hw_6
  have hw_6 := hw_6.symm
  subst hw_6
  refine va_put (D := (dC, dI)) (ci := 12) (v := .int (-1)) (ty := .int) (C := RX10) (T := TX10) (N := 14) hx hb hts in_RX10 tyX10 tyX10_ok nmX10 hown hK hP hD hS 3 rfl rfl 5 (by decide) (hts (.fieldLink RX7 161 "Hornbook$Step" "x" "I") (by decide +kernel)) (fun _ h9 => h9) rfl (by decide +kernel) rfl rfl (Nat.le_of_ble_eq_true rfl) dX7_stepOrder_42 (fun H locs hP hD hS => ?_)
  have hP : va_P (dC, dI) vwCl [(aroom, .inr (9, [.ref asort, .ref anod, .ref atold, .int 3, .ref aheld, .int 0, .ref apair, .ref astep, .int 1, .int 0, .int (-1), .int 0, .int 0, .ref asize])), (nf, .inl (kL, 1024, .inr (.inl zFir))), (asort, .inr (1, [.int 0, .ref eD, .int 0])), (sp, .inr (12, [.int 0, .int (-1), .int 1, .int 0, .int 0, .int (-1), .int (-1), .int 0, .int 0, .int 0, .int 0, .int 0, .int 0, .int 0])), (ns, .inl (kL, 1024, .inr (.inl zSec))), (anod, .inr (7, [.ref nm, .ref nl, .ref n1, .ref n2, .ref nf, .ref ns, .ref nh, .ref nk, .ref np, .int 16, .int 0, .int 16, .int 0, .int 0]))] H := hP
  have hD : va_D A [(aroom, .inr (9, [.ref asort, .ref anod, .ref atold, .int 3, .ref aheld, .int 0, .ref apair, .ref astep, .int 1, .int 0, .int (-1), .int 0, .int 0, .ref asize])), (nf, .inl (kL, 1024, .inr (.inl zFir))), (asort, .inr (1, [.int 0, .ref eD, .int 0])), (sp, .inr (12, [.int 0, .int (-1), .int 1, .int 0, .int 0, .int (-1), .int (-1), .int 0, .int 0, .int 0, .int 0, .int 0, .int 0, .int 0])), (ns, .inl (kL, 1024, .inr (.inl zSec))), (anod, .inr (7, [.ref nm, .ref nl, .ref n1, .ref n2, .ref nf, .ref ns, .ref nh, .ref nk, .ref np, .int 16, .int 0, .int 16, .int 0, .int 0]))] := hD
  refine lv_aload_n hx hb dX7_stepOrder_45 rfl (lv_at hl 1 rfl) ?_
  refine va_get (D := (dC, dI)) (ci := 12) (v := .int 0) (C := RX10) (T := TX10) (N := 14) hx hb hts in_RX10 hown hK hP 3 rfl rfl 9 (by decide) (hts (.fieldLink RX7 246 "Hornbook$Step" "phase" "I") (by decide +kernel)) (fun _ h9 => h9) rfl dX7_stepOrder_46 ?_
  refine lv_if_ne (tgt := 138) hx hb dX7_stepOrder_49 (by decide) (fun c_7 => ?_) (fun c_7 => ?_)
  · exact absurd (by decide) c_7
  refine lv_aload_n hx hb dX7_stepOrder_52 rfl (lv_at hl 0 rfl) ?_
  refine lv_aload_n hx hb dX7_stepOrder_53 rfl (lv_at hl 1 rfl) ?_
  refine va_get (D := (dC, dI)) (ci := 12) (v := .int 1) (C := RX10) (T := TX10) (N := 14) hx hb hts in_RX10 hown hK hP 3 rfl rfl 2 (by decide) (hts (.fieldLink RX7 152 "Hornbook$Step" "a" "I") (by decide +kernel)) (fun _ h9 => h9) rfl dX7_stepOrder_54 ?_
  refine lv_aload_n hx hb dX7_stepOrder_57 rfl (lv_at hl 1 rfl) ?_
  refine va_get (D := (dC, dI)) (ci := 12) (v := .int 0) (C := RX10) (T := TX10) (N := 14) hx hb hts in_RX10 hown hK hP 3 rfl rfl 3 (by decide) (hts (.fieldLink RX7 158 "Hornbook$Step" "b" "I") (by decide +kernel)) (fun _ h9 => h9) rfl dX7_stepOrder_58 ?_
  refine z_i (wr := [(sp, .inr (12, [.int 0, .int (-1), .int 1, .int 0, .int 0, .int (-1), .int (-1), .int 0, .int 0, .int 0, .int 0, .int 0, .int 0, .int 0]))]) (va_runV (As := [.int 1, .int 0]) (rest := []) ⟨hx, hb, hml, hown, hts⟩ (c_R_known_10 l eD eI ad dC dI H.size aroom anod asort atold aheld apair astep asize nm nl n1 n2 nf ns nh nk np kL) (cwV 2 hts g_c_R_order_10_3 rfl rfl rfl (by decide +kernel) ⟨Nat.le_of_ble_eq_true rfl, Nat.le_of_ble_eq_true rfl⟩) (z_preV (wc := [(aroom, .inr (9, [.ref asort, .ref anod, .ref atold, .int 3, .ref aheld, .int 0, .ref apair, .ref astep, .int 1, .int 0, .int (-1), .int 0, .int 0, .ref asize])), (anod, .inr (7, [.ref nm, .ref nl, .ref n1, .ref n2, .ref nf, .ref ns, .ref nh, .ref nk, .ref np, .int 16, .int 0, .int 16, .int 0, .int 0])), (ns, .inl (kL, 1024, .inr (.inl zSec))), (nf, .inl (kL, 1024, .inr (.inl zFir))), (asort, .inr (1, [.int 0, .ref eD, .int 0]))]) hP hD hK hS hA hE [0, 5, 4, 1, 2] [0] rfl (by decide) rfl (ci := 9) (q0 := 0) rfl rfl) rfl rfl hl.1 rfl (lv_room (Nat.le_of_ble_eq_true rfl)) dX7_stepOrder_61 ⟨Nat.le_of_ble_eq_true rfl, Nat.le_of_ble_eq_true rfl⟩) hP hD hK hS hA [0, 5, 4, 1, 2] [3] rfl rfl (by decide) (by decide) (fun r_8 u H locs hw_9 hP hD hK hS => ?_)
  obtain ⟨⟩ := u
  have hP : va_P (dC, dI) vwCl [(sp, .inr (12, [.int 0, .int (-1), .int 1, .int 0, .int 0, .int (-1), .int (-1), .int 0, .int 0, .int 0, .int 0, .int 0, .int 0, .int 0])), (aroom, .inr (9, [.ref asort, .ref anod, .ref atold, .int 3, .ref aheld, .int 0, .ref apair, .ref astep, .int 1, .int 0, .int (-1), .int 0, .int 0, .ref asize])), (anod, .inr (7, [.ref nm, .ref nl, .ref n1, .ref n2, .ref nf, .ref ns, .ref nh, .ref nk, .ref np, .int 16, .int 0, .int 16, .int 0, .int 0])), (ns, .inl (kL, 1024, .inr (.inl zSec))), (nf, .inl (kL, 1024, .inr (.inl zFir))), (asort, .inr (1, [.int 0, .ref eD, .int 0]))] H := hP
  have hD : va_D A [(sp, .inr (12, [.int 0, .int (-1), .int 1, .int 0, .int 0, .int (-1), .int (-1), .int 0, .int 0, .int 0, .int 0, .int 0, .int 0, .int 0])), (aroom, .inr (9, [.ref asort, .ref anod, .ref atold, .int 3, .ref aheld, .int 0, .ref apair, .ref astep, .int 1, .int 0, .int (-1), .int 0, .int 0, .ref asize])), (anod, .inr (7, [.ref nm, .ref nl, .ref n1, .ref n2, .ref nf, .ref ns, .ref nh, .ref nk, .ref np, .int 16, .int 0, .int 16, .int 0, .int 0])), (ns, .inl (kL, 1024, .inr (.inl zSec))), (nf, .inl (kL, 1024, .inr (.inl zFir))), (asort, .inr (1, [.int 0, .ref eD, .int 0]))] := hD
  have hK : va_K (dC, dI) vwCl [(kL, .long), (kL, .long), (kL, .long), (kL, .long)] s := hK
  have hw_9 : r_8 = 1 := hw_9
  have hw_9 := hw_9.symm
  subst hw_9
  refine lv_istore_n (lv' := [(2, .int 1), (0, .ref aroom), (1, .ref sp)]) hx hb dX7_stepOrder_64 rfl hl (by decide) rfl (fun ls hl => ?_)
  refine lv_iload_n hx hb dX7_stepOrder_65 rfl (lv_at hl 0 rfl) ?_
  refine lv_iconst (v := (-1)) hx hb dX7_stepOrder_66 (by decide) ?_
  refine lv_icmp_eq (tgt := 76) hx hb dX7_stepOrder_67 (by decide) (fun c_10 => ?_) (fun c_10 => ?_)
  · exact absurd c_10 (by decide)
  refine lv_aload_n hx hb dX7_stepOrder_70 rfl (lv_at hl 1 rfl) ?_
  refine lv_iload_n hx hb dX7_stepOrder_71 rfl (lv_at hl 0 rfl) ?_
  refine z_v (wr := [(sp, .inr (12, [.int 0, .int (-1), .int 1, .int 0, .int 0, .int (-1), .int (-1), .int 0, .int 0, .int 0, .int 0, .int 0, .int 0, .int 0])), (anod, .inr (7, [.ref nm, .ref nl, .ref n1, .ref n2, .ref nf, .ref ns, .ref nh, .ref nk, .ref np, .int 16, .int 0, .int 16, .int 0, .int 0])), (ns, .inl (kL, 1024, .inr (.inl zSec))), (nf, .inl (kL, 1024, .inr (.inl zFir))), (asort, .inr (1, [.int 0, .ref eD, .int 0]))]) (va_runV (As := [.int 1]) (rest := []) ⟨hx, hb, hml, hown, hts⟩ (c_R_answer l eD eI ad dC dI H.size aroom anod asort atold aheld apair astep asize 1 0 0) (cwV 1 hts g_c_R_order_10_4 rfl rfl rfl (by decide +kernel) ⟨Nat.le_of_ble_eq_true rfl, Nat.le_of_ble_eq_true rfl⟩) (z_preV (wc := [(aroom, .inr (9, [.ref asort, .ref anod, .ref atold, .int 3, .ref aheld, .int 0, .ref apair, .ref astep, .int 1, .int 0, .int (-1), .int 0, .int 0, .ref asize]))]) hP hD hK hS hA hE [1] [] rfl (by decide) rfl (ci := 9) (q0 := 0) rfl rfl) rfl rfl hl.1 rfl (lv_room (Nat.le_of_ble_eq_true rfl)) dX7_stepOrder_72 ⟨Nat.le_of_ble_eq_true rfl, Nat.le_of_ble_eq_true rfl⟩) hP hD hK hS hA [1] [0, 2, 3, 4, 5] rfl rfl (by decide) (by decide) (fun u H locs hw_12 hP hD hK hS => ?_)
  obtain ⟨⟩ := u
  have hP : va_P (dC, dI) vwCl [(sp, .inr (12, [.int 0, .int (-1), .int 1, .int 0, .int 0, .int (-1), .int (-1), .int 0, .int 0, .int 0, .int 0, .int 0, .int 0, .int 0])), (anod, .inr (7, [.ref nm, .ref nl, .ref n1, .ref n2, .ref nf, .ref ns, .ref nh, .ref nk, .ref np, .int 16, .int 0, .int 16, .int 0, .int 0])), (ns, .inl (kL, 1024, .inr (.inl zSec))), (nf, .inl (kL, 1024, .inr (.inl zFir))), (asort, .inr (1, [.int 0, .ref eD, .int 0])), (aroom, .inr (9, [.ref asort, .ref anod, .ref atold, .int 3, .ref aheld, .int 0, .ref apair, .ref astep, .int 0, .int 0, .int 1, .int 0, .int 0, .ref asize]))] H := hP
  have hD : va_D A [(sp, .inr (12, [.int 0, .int (-1), .int 1, .int 0, .int 0, .int (-1), .int (-1), .int 0, .int 0, .int 0, .int 0, .int 0, .int 0, .int 0])), (anod, .inr (7, [.ref nm, .ref nl, .ref n1, .ref n2, .ref nf, .ref ns, .ref nh, .ref nk, .ref np, .int 16, .int 0, .int 16, .int 0, .int 0])), (ns, .inl (kL, 1024, .inr (.inl zSec))), (nf, .inl (kL, 1024, .inr (.inl zFir))), (asort, .inr (1, [.int 0, .ref eD, .int 0])), (aroom, .inr (9, [.ref asort, .ref anod, .ref atold, .int 3, .ref aheld, .int 0, .ref apair, .ref astep, .int 0, .int 0, .int 1, .int 0, .int 0, .ref asize]))] := hD
  have hK : va_K (dC, dI) vwCl [(kL, .long), (kL, .long), (kL, .long), (kL, .long)] s := by simpa using hK
  have hP9 := hP.sub (ws' := [(aroom, .inr (9, [.ref asort, .ref anod, .ref atold, .int 3, .ref aheld, .int 0, .ref apair, .ref astep, .int 0, .int 0, .int 1, .int 0, .int 0, .ref asize]))]) [5] rfl
  have hD9 := hD.sub (ws' := [(aroom, .inr (9, [.ref asort, .ref anod, .ref atold, .int 3, .ref aheld, .int 0, .ref apair, .ref astep, .int 0, .int 0, .int 1, .int 0, .int 0, .ref asize]))]) [5] (by decide) rfl
  have hK9 := hK.sub (tys' := []) [] rfl
  refine W.widen (k := 0) (n := 0) (Nat.le_of_ble_eq_true rfl) (Nat.le_of_ble_eq_true rfl) ?_
  exact W.vret hx hb hr (fun t ht hW => ⟨⟨(), rfl, trivial, ⟨by rw [ht]; exact hP9, va_K.moved hW.alike hK9, hD9⟩⟩, hS.F ht⟩) hS.2.2 dX7_stepOrder_75

def wb_c_R_known_11 : List Cond := []
def w_c_R_known_11 : List Cond := .code yX7_known cX7_known 5 (some .int) :: wb_c_R_known_11
set_option maxHeartbeats 4000000 in
set_option maxRecDepth 100000 in
theorem c_R_known_11 (l : Launch) (eD eI : Nat) (ad : Nat → Nat) (dC : Nat → ClassId) (dI : Nat → Nat → Nat) (sz : Nat) (aroom : Nat) (anod : Nat) (asort : Nat) (atold : Nat) (aheld : Nat) (apair : Nat) (astep : Nat) (asize : Nat) (nm : Nat) (nl : Nat) (n1 : Nat) (n2 : Nat) (nf : Nat) (ns : Nat) (nh : Nat) (nk : Nat) (np : Nat) (kL : ClassId) : Met l yX7_known w_c_R_known_11 ({ frames := 0, cells := 0, slots := 0, locals := 0 }) (va_Pc [.ref aroom, .int 1, .int 1] (zPre eD eI ad (dC, dI) [(aroom, .inr (9, [.ref asort, .ref anod, .ref atold, .int 3, .ref aheld, .int 0, .ref apair, .ref astep, .int 1, .int 0, .int (-1), .int 0, .int 0, .ref asize])), (anod, .inr (7, [.ref nm, .ref nl, .ref n1, .ref n2, .ref nf, .ref ns, .ref nh, .ref nk, .ref np, .int 16, .int 0, .int 16, .int 0, .int 0])), (ns, .inl (kL, 1024, .inr (.inl zSec))), (nf, .inl (kL, 1024, .inr (.inl zFir))), (asort, .inr (1, [.int 0, .ref eD, .int 0]))] [(kL, .long)] sz)) (va_Qi (fun (r : Int32) (_ : Unit) => r = 1) (fun (_ : Unit) => zEnd (dC, dI) (va_A [(aroom, .inr (9, [.ref asort, .ref anod, .ref atold, .int 3, .ref aheld, .int 0, .ref apair, .ref astep, .int 1, .int 0, .int (-1), .int 0, .int 0, .ref asize])), (anod, .inr (7, [.ref nm, .ref nl, .ref n1, .ref n2, .ref nf, .ref ns, .ref nh, .ref nk, .ref np, .int 16, .int 0, .int 16, .int 0, .int 0])), (ns, .inl (kL, 1024, .inr (.inl zSec))), (nf, .inl (kL, 1024, .inr (.inl zFir))), (asort, .inr (1, [.int 0, .ref eD, .int 0]))] sz) [(aroom, .inr (9, [.ref asort, .ref anod, .ref atold, .int 3, .ref aheld, .int 0, .ref apair, .ref astep, .int 1, .int 0, .int (-1), .int 0, .int 0, .ref asize])), (anod, .inr (7, [.ref nm, .ref nl, .ref n1, .ref n2, .ref nf, .ref ns, .ref nh, .ref nk, .ref np, .int 16, .int 0, .int 16, .int 0, .int 0])), (ns, .inl (kL, 1024, .inr (.inl zSec))), (nf, .inl (kL, 1024, .inr (.inl zFir))), (asort, .inr (1, [.int 0, .ref eD, .int 0]))] [(kL, .long)]) (va_A [(aroom, .inr (9, [.ref asort, .ref anod, .ref atold, .int 3, .ref aheld, .int 0, .ref apair, .ref astep, .int 1, .int 0, .int (-1), .int 0, .int 0, .ref asize])), (anod, .inr (7, [.ref nm, .ref nl, .ref n1, .ref n2, .ref nf, .ref ns, .ref nh, .ref nk, .ref np, .int 16, .int 0, .int 16, .int 0, .int 0])), (ns, .inl (kL, 1024, .inr (.inl zSec))), (nf, .inl (kL, 1024, .inr (.inl zFir))), (asort, .inr (1, [.int 0, .ref eD, .int 0]))] sz)) 0 0 (va_A [(aroom, .inr (9, [.ref asort, .ref anod, .ref atold, .int 3, .ref aheld, .int 0, .ref apair, .ref astep, .int 1, .int 0, .int (-1), .int 0, .int 0, .ref asize])), (anod, .inr (7, [.ref nm, .ref nl, .ref n1, .ref n2, .ref nf, .ref ns, .ref nh, .ref nk, .ref np, .int 16, .int 0, .int 16, .int 0, .int 0])), (ns, .inl (kL, 1024, .inr (.inl zSec))), (nf, .inl (kL, 1024, .inr (.inl zFir))), (asort, .inr (1, [.int 0, .ref eD, .int 0]))] sz) := by
  refine Met.ofW (cc := cX7_known) (maxL := 5) (ret := (some .int)) (by decide) rfl ?_
  intro p e s m args below meth c s₁ B hml hv
  obtain ⟨rfl, hsz, hP, hK, hD0, hE⟩ := hv
  have hx := B.exec
  have hb := B.bytes
  have hr := B.returns
  have hts := atoms_spec (ws := w_c_R_known_11) B.pre
  have hown : s.vm.findClass RX7 = some m.cls := findClass_of_methodNamed B.named
  have hlocks := B.notSynchronized
  subst hsz
  have hD := hD0.self (sz := s.heap.size)
  generalize hAe : va_A [(aroom, .inr (9, [.ref asort, .ref anod, .ref atold, .int 3, .ref aheld, .int 0, .ref apair, .ref astep, .int 1, .int 0, .int (-1), .int 0, .int 0, .ref asize])), (anod, .inr (7, [.ref nm, .ref nl, .ref n1, .ref n2, .ref nf, .ref ns, .ref nh, .ref nk, .ref np, .int 16, .int 0, .int 16, .int 0, .int 0])), (ns, .inl (kL, 1024, .inr (.inl zSec))), (nf, .inl (kL, 1024, .inr (.inl zFir))), (asort, .inr (1, [.int 0, .ref eD, .int 0]))] s.heap.size = A at hD hE ⊢
  have hA : ∀ q : Nat, s.heap.size ≤ q → A q := fun q h => by rw [← hAe]; exact Or.inr h
  have hS : va_S A s.heap s.heap [] := va_S.rf
  have hP : va_P (dC, dI) vwCl [(aroom, .inr (9, [.ref asort, .ref anod, .ref atold, .int 3, .ref aheld, .int 0, .ref apair, .ref astep, .int 1, .int 0, .int (-1), .int 0, .int 0, .ref asize])), (anod, .inr (7, [.ref nm, .ref nl, .ref n1, .ref n2, .ref nf, .ref ns, .ref nh, .ref nk, .ref np, .int 16, .int 0, .int 16, .int 0, .int 0])), (ns, .inl (kL, 1024, .inr (.inl zSec))), (nf, .inl (kL, 1024, .inr (.inl zFir))), (asort, .inr (1, [.int 0, .ref eD, .int 0]))] s.heap := hP
  have hl := lv_entry ([.ref aroom, .int 1, .int 1]) (n := 5) (Nat.le_of_ble_eq_true rfl)
  rw [lg_entry_eq]
  generalize (lg_sl ([.ref aroom, .int 1, .int 1]) ++ List.replicate (5 - (lg_sl ([.ref aroom, .int 1, .int 1])).length) Slot.unset).toArray = ls at hl ⊢
  have hl : lv_has ls 5 [(0, .ref aroom), (1, .int 1), (2, .int 1)] := hl
  refine lv_iload_n hx hb dX7_known_0 rfl (lv_at hl 1 rfl) ?_
  refine lv_iload_n hx hb dX7_known_1 rfl (lv_at hl 2 rfl) ?_
  refine lv_icmp_eq (tgt := 14) hx hb dX7_known_2 (by decide) (fun c_1 => ?_) (fun c_1 => ?_)
  rotate_left
  · exact absurd (by decide) c_1
  refine lv_iconst (v := 1) hx hb dX7_known_14 (by decide) ?_
  have hP9 := hP.sub (ws' := [(aroom, .inr (9, [.ref asort, .ref anod, .ref atold, .int 3, .ref aheld, .int 0, .ref apair, .ref astep, .int 1, .int 0, .int (-1), .int 0, .int 0, .ref asize])), (anod, .inr (7, [.ref nm, .ref nl, .ref n1, .ref n2, .ref nf, .ref ns, .ref nh, .ref nk, .ref np, .int 16, .int 0, .int 16, .int 0, .int 0])), (ns, .inl (kL, 1024, .inr (.inl zSec))), (nf, .inl (kL, 1024, .inr (.inl zFir))), (asort, .inr (1, [.int 0, .ref eD, .int 0]))]) [0, 1, 2, 3, 4] rfl
  have hD9 := hD.sub (ws' := [(aroom, .inr (9, [.ref asort, .ref anod, .ref atold, .int 3, .ref aheld, .int 0, .ref apair, .ref astep, .int 1, .int 0, .int (-1), .int 0, .int 0, .ref asize])), (anod, .inr (7, [.ref nm, .ref nl, .ref n1, .ref n2, .ref nf, .ref ns, .ref nh, .ref nk, .ref np, .int 16, .int 0, .int 16, .int 0, .int 0])), (ns, .inl (kL, 1024, .inr (.inl zSec))), (nf, .inl (kL, 1024, .inr (.inl zFir))), (asort, .inr (1, [.int 0, .ref eD, .int 0]))]) [0, 1, 2, 3, 4] (by decide) rfl
  have hK9 := hK.sub (tys' := [(kL, .long)]) [0] rfl
  refine W.widen (k := 0) (n := 0) (Nat.le_of_ble_eq_true rfl) (Nat.le_of_ble_eq_true rfl) ?_
  exact W.iret (v := 1) hx hb hr (fun t ht hW => ⟨⟨1, (), rfl, rfl, ⟨by rw [ht]; exact hP9, va_K.moved hW.alike hK9, hD9⟩⟩, hS.F ht⟩) hS.2.2 dX7_known_15

def wb_c_R_order_11 : List Cond := [.fieldLink RX7 21 "Hornbook$Room" "nodes" "LHornbook$Nodes;", .fieldLink RX7 152 "Hornbook$Step" "a" "I", .code yX5_through cX5_through 4 (some .int), .fieldLink RX5 28 "Hornbook$Nodes" "second" "[J", .methodLink RX7 194 yX5_through, .instanceMethod yX5_through, .selects RX5 yX5_through yX5_through, .initialized RX5, .fieldLink RX7 158 "Hornbook$Step" "b" "I", .fieldLink RX7 161 "Hornbook$Step" "x" "I", .fieldLink RX7 246 "Hornbook$Step" "phase" "I", .code yX7_known cX7_known 5 (some .int), .methodLink RX7 272 yX7_known, .instanceMethod yX7_known, .selects RX7 yX7_known yX7_known, .initialized RX7, .code yX7_answer cX7_answer 2 none, .fieldLink RX7 56 "Hornbook$Room" "last" "I", .fieldLink RX7 49 "Hornbook$Room" "asking" "I", .methodLink RX7 275 yX7_answer, .instanceMethod yX7_answer, .selects RX7 yX7_answer yX7_answer] ++ u_ws RX10 TX10 14 ++ u_ws RX5 TX5 14 ++ u_ws RX7 TX7 14
def w_c_R_order_11 : List Cond := .code yX7_stepOrder cX7_stepOrder 8 none :: wb_c_R_order_11
set_option maxRecDepth 100000 in
theorem g_c_R_order_11_0 : GoodIn w_c_R_order_11 (wsV RX7 194 RX5 yX5_through w_c_N_through_1) := goodIn_app (goodIn_of _ (by decide +kernel)) (goodIn_p (big := w_c_R_order_11) (.code yX5_through cX5_through 4 (some .int) :: wb_c_N_through_1) [3] rfl (by decide +kernel))
set_option maxRecDepth 100000 in
theorem g_c_R_order_11_1 : GoodIn w_c_R_order_11 (wsV RX7 194 RX5 yX5_through w_c_N_through_n) := goodIn_app (goodIn_of _ (by decide +kernel)) (goodIn_p (big := w_c_R_order_11) (.code yX5_through cX5_through 4 (some .int) :: wb_c_N_through_n) [3] rfl (by decide +kernel))
set_option maxRecDepth 100000 in
theorem g_c_R_order_11_2 : GoodIn w_c_R_order_11 (wsV RX7 272 RX7 yX7_known w_c_R_known_11) := goodIn_app (goodIn_of _ (by decide +kernel)) (goodIn_p (big := w_c_R_order_11) (.code yX7_known cX7_known 5 (some .int) :: wb_c_R_known_11) [12] rfl (by decide +kernel))
set_option maxRecDepth 100000 in
theorem g_c_R_order_11_3 : GoodIn w_c_R_order_11 (wsV RX7 275 RX7 yX7_answer w_c_R_answer) := goodIn_app (goodIn_of _ (by decide +kernel)) (goodIn_p (big := w_c_R_order_11) (.code yX7_answer cX7_answer 2 none :: wb_c_R_answer) [17] rfl (by decide +kernel))
set_option maxHeartbeats 4000000 in
set_option maxRecDepth 100000 in
theorem c_R_order_11 (l : Launch) (eD eI : Nat) (ad : Nat → Nat) (dC : Nat → ClassId) (dI : Nat → Nat → Nat) (sz : Nat) (aroom : Nat) (anod : Nat) (asort : Nat) (atold : Nat) (aheld : Nat) (apair : Nat) (astep : Nat) (asize : Nat) (nm : Nat) (nl : Nat) (n1 : Nat) (n2 : Nat) (nf : Nat) (ns : Nat) (nh : Nat) (nk : Nat) (np : Nat) (sp : Nat) (kL : ClassId) : Met l yX7_stepOrder w_c_R_order_11 ({ frames := 1, cells := 0, slots := 0, locals := 24 }) (va_Pc [.ref aroom, .ref sp] (zPre eD eI ad (dC, dI) [(aroom, .inr (9, [.ref asort, .ref anod, .ref atold, .int 3, .ref aheld, .int 0, .ref apair, .ref astep, .int 1, .int 0, .int (-1), .int 0, .int 0, .ref asize])), (anod, .inr (7, [.ref nm, .ref nl, .ref n1, .ref n2, .ref nf, .ref ns, .ref nh, .ref nk, .ref np, .int 16, .int 0, .int 16, .int 0, .int 0])), (ns, .inl (kL, 1024, .inr (.inl zSec))), (nf, .inl (kL, 1024, .inr (.inl zFir))), (asort, .inr (1, [.int 0, .ref eD, .int 0])), (sp, .inr (12, [.int 0, .int (-1), .int 1, .int 1, .int 1, .int (-1), .int (-1), .int 0, .int 0, .int 0, .int 0, .int 0, .int 0, .int 0]))] [(kL, .long)] sz)) (va_Qv (fun (_ : Unit) => True) (fun (_ : Unit) => zEnd (dC, dI) (va_A [(aroom, .inr (9, [.ref asort, .ref anod, .ref atold, .int 3, .ref aheld, .int 0, .ref apair, .ref astep, .int 1, .int 0, .int (-1), .int 0, .int 0, .ref asize])), (anod, .inr (7, [.ref nm, .ref nl, .ref n1, .ref n2, .ref nf, .ref ns, .ref nh, .ref nk, .ref np, .int 16, .int 0, .int 16, .int 0, .int 0])), (ns, .inl (kL, 1024, .inr (.inl zSec))), (nf, .inl (kL, 1024, .inr (.inl zFir))), (asort, .inr (1, [.int 0, .ref eD, .int 0])), (sp, .inr (12, [.int 0, .int (-1), .int 1, .int 1, .int 1, .int (-1), .int (-1), .int 0, .int 0, .int 0, .int 0, .int 0, .int 0, .int 0]))] sz) [(aroom, .inr (9, [.ref asort, .ref anod, .ref atold, .int 3, .ref aheld, .int 0, .ref apair, .ref astep, .int 0, .int 0, .int 1, .int 0, .int 0, .ref asize]))] []) (va_A [(aroom, .inr (9, [.ref asort, .ref anod, .ref atold, .int 3, .ref aheld, .int 0, .ref apair, .ref astep, .int 1, .int 0, .int (-1), .int 0, .int 0, .ref asize])), (anod, .inr (7, [.ref nm, .ref nl, .ref n1, .ref n2, .ref nf, .ref ns, .ref nh, .ref nk, .ref np, .int 16, .int 0, .int 16, .int 0, .int 0])), (ns, .inl (kL, 1024, .inr (.inl zSec))), (nf, .inl (kL, 1024, .inr (.inl zFir))), (asort, .inr (1, [.int 0, .ref eD, .int 0])), (sp, .inr (12, [.int 0, .int (-1), .int 1, .int 1, .int 1, .int (-1), .int (-1), .int 0, .int 0, .int 0, .int 0, .int 0, .int 0, .int 0]))] sz)) 0 0 (va_A [(aroom, .inr (9, [.ref asort, .ref anod, .ref atold, .int 3, .ref aheld, .int 0, .ref apair, .ref astep, .int 1, .int 0, .int (-1), .int 0, .int 0, .ref asize])), (anod, .inr (7, [.ref nm, .ref nl, .ref n1, .ref n2, .ref nf, .ref ns, .ref nh, .ref nk, .ref np, .int 16, .int 0, .int 16, .int 0, .int 0])), (ns, .inl (kL, 1024, .inr (.inl zSec))), (nf, .inl (kL, 1024, .inr (.inl zFir))), (asort, .inr (1, [.int 0, .ref eD, .int 0])), (sp, .inr (12, [.int 0, .int (-1), .int 1, .int 1, .int 1, .int (-1), .int (-1), .int 0, .int 0, .int 0, .int 0, .int 0, .int 0, .int 0]))] sz) := by
  refine Met.ofW (cc := cX7_stepOrder) (maxL := 8) (ret := none) (by decide) rfl ?_
  intro p e s m args below meth c s₁ B hml hv
  obtain ⟨rfl, hsz, hP, hK, hD0, hE⟩ := hv
  have hx := B.exec
  have hb := B.bytes
  have hr := B.returns
  have hts := atoms_spec (ws := w_c_R_order_11) B.pre
  have hown : s.vm.findClass RX7 = some m.cls := findClass_of_methodNamed B.named
  have hlocks := B.notSynchronized
  subst hsz
  have hD := hD0.self (sz := s.heap.size)
  generalize hAe : va_A [(aroom, .inr (9, [.ref asort, .ref anod, .ref atold, .int 3, .ref aheld, .int 0, .ref apair, .ref astep, .int 1, .int 0, .int (-1), .int 0, .int 0, .ref asize])), (anod, .inr (7, [.ref nm, .ref nl, .ref n1, .ref n2, .ref nf, .ref ns, .ref nh, .ref nk, .ref np, .int 16, .int 0, .int 16, .int 0, .int 0])), (ns, .inl (kL, 1024, .inr (.inl zSec))), (nf, .inl (kL, 1024, .inr (.inl zFir))), (asort, .inr (1, [.int 0, .ref eD, .int 0])), (sp, .inr (12, [.int 0, .int (-1), .int 1, .int 1, .int 1, .int (-1), .int (-1), .int 0, .int 0, .int 0, .int 0, .int 0, .int 0, .int 0]))] s.heap.size = A at hD hE ⊢
  have hA : ∀ q : Nat, s.heap.size ≤ q → A q := fun q h => by rw [← hAe]; exact Or.inr h
  have hS : va_S A s.heap s.heap [] := va_S.rf
  have hP : va_P (dC, dI) vwCl [(aroom, .inr (9, [.ref asort, .ref anod, .ref atold, .int 3, .ref aheld, .int 0, .ref apair, .ref astep, .int 1, .int 0, .int (-1), .int 0, .int 0, .ref asize])), (anod, .inr (7, [.ref nm, .ref nl, .ref n1, .ref n2, .ref nf, .ref ns, .ref nh, .ref nk, .ref np, .int 16, .int 0, .int 16, .int 0, .int 0])), (ns, .inl (kL, 1024, .inr (.inl zSec))), (nf, .inl (kL, 1024, .inr (.inl zFir))), (asort, .inr (1, [.int 0, .ref eD, .int 0])), (sp, .inr (12, [.int 0, .int (-1), .int 1, .int 1, .int 1, .int (-1), .int (-1), .int 0, .int 0, .int 0, .int 0, .int 0, .int 0, .int 0]))] s.heap := hP
  have hl := lv_entry ([.ref aroom, .ref sp]) (n := 8) (Nat.le_of_ble_eq_true rfl)
  rw [lg_entry_eq]
  generalize (lg_sl ([.ref aroom, .ref sp]) ++ List.replicate (8 - (lg_sl ([.ref aroom, .ref sp])).length) Slot.unset).toArray = ls at hl ⊢
  have hl : lv_has ls 8 [(0, .ref aroom), (1, .ref sp)] := hl
  have in_RX10 : ∀ w ∈ u_ws RX10 TX10 14, w ∈ w_c_R_order_11 := by decide +kernel
  have in_RX5 : ∀ w ∈ u_ws RX5 TX5 14, w ∈ w_c_R_order_11 := by decide +kernel
  have in_RX7 : ∀ w ∈ u_ws RX7 TX7 14, w ∈ w_c_R_order_11 := by decide +kernel
  refine lv_aload_n hx hb dX7_stepOrder_0 rfl (lv_at hl 1 rfl) ?_
  refine lv_aload_n hx hb dX7_stepOrder_1 rfl (lv_at hl 0 rfl) ?_
  refine va_get (D := (dC, dI)) (ci := 9) (v := .ref anod) (C := RX7) (T := TX7) (N := 14) hx hb hts in_RX7 hown hK hP 0 rfl rfl 1 (by decide) (hts (.fieldLink RX7 21 "Hornbook$Room" "nodes" "LHornbook$Nodes;") (by decide +kernel)) (fun _ h9 => h9) rfl dX7_stepOrder_2 ?_
  refine lv_aload_n hx hb dX7_stepOrder_5 rfl (lv_at hl 1 rfl) ?_
  refine va_get (D := (dC, dI)) (ci := 12) (v := .int 1) (C := RX10) (T := TX10) (N := 14) hx hb hts in_RX10 hown hK hP 5 rfl rfl 2 (by decide) (hts (.fieldLink RX7 152 "Hornbook$Step" "a" "I") (by decide +kernel)) (fun _ h9 => h9) rfl dX7_stepOrder_6 ?_
  refine z_i (wr := [(aroom, .inr (9, [.ref asort, .ref anod, .ref atold, .int 3, .ref aheld, .int 0, .ref apair, .ref astep, .int 1, .int 0, .int (-1), .int 0, .int 0, .ref asize])), (nf, .inl (kL, 1024, .inr (.inl zFir))), (asort, .inr (1, [.int 0, .ref eD, .int 0])), (sp, .inr (12, [.int 0, .int (-1), .int 1, .int 1, .int 1, .int (-1), .int (-1), .int 0, .int 0, .int 0, .int 0, .int 0, .int 0, .int 0]))]) (va_runV (As := [.int 1]) (rest := [.ref sp]) ⟨hx, hb, hml, hown, hts⟩ (c_N_through_1 l eD eI ad dC dI s.heap.size anod nm nl n1 n2 nf ns nh nk np kL) (cwV 1 hts g_c_R_order_11_0 rfl rfl rfl (by decide +kernel) ⟨Nat.le_of_ble_eq_true rfl, Nat.le_of_ble_eq_true rfl⟩) (z_preV (wc := [(anod, .inr (7, [.ref nm, .ref nl, .ref n1, .ref n2, .ref nf, .ref ns, .ref nh, .ref nk, .ref np, .int 16, .int 0, .int 16, .int 0, .int 0])), (ns, .inl (kL, 1024, .inr (.inl zSec)))]) hP hD hK hS hA hE [1, 2] [0] rfl (by decide) rfl (ci := 7) (q0 := 0) rfl rfl) rfl rfl hl.1 rfl (lv_room (Nat.le_of_ble_eq_true rfl)) dX7_stepOrder_9 ⟨Nat.le_of_ble_eq_true rfl, Nat.le_of_ble_eq_true rfl⟩) hP hD hK hS hA [1, 2] [0, 3, 4, 5] rfl rfl (by decide) (by decide) (fun r_1 u H locs hw_2 hP hD hK hS => ?_)
  obtain ⟨⟩ := u
  have hP : va_P (dC, dI) vwCl [(aroom, .inr (9, [.ref asort, .ref anod, .ref atold, .int 3, .ref aheld, .int 0, .ref apair, .ref astep, .int 1, .int 0, .int (-1), .int 0, .int 0, .ref asize])), (nf, .inl (kL, 1024, .inr (.inl zFir))), (asort, .inr (1, [.int 0, .ref eD, .int 0])), (sp, .inr (12, [.int 0, .int (-1), .int 1, .int 1, .int 1, .int (-1), .int (-1), .int 0, .int 0, .int 0, .int 0, .int 0, .int 0, .int 0])), (anod, .inr (7, [.ref nm, .ref nl, .ref n1, .ref n2, .ref nf, .ref ns, .ref nh, .ref nk, .ref np, .int 16, .int 0, .int 16, .int 0, .int 0])), (ns, .inl (kL, 1024, .inr (.inl zSec)))] H := hP
  have hD : va_D A [(aroom, .inr (9, [.ref asort, .ref anod, .ref atold, .int 3, .ref aheld, .int 0, .ref apair, .ref astep, .int 1, .int 0, .int (-1), .int 0, .int 0, .ref asize])), (nf, .inl (kL, 1024, .inr (.inl zFir))), (asort, .inr (1, [.int 0, .ref eD, .int 0])), (sp, .inr (12, [.int 0, .int (-1), .int 1, .int 1, .int 1, .int (-1), .int (-1), .int 0, .int 0, .int 0, .int 0, .int 0, .int 0, .int 0])), (anod, .inr (7, [.ref nm, .ref nl, .ref n1, .ref n2, .ref nf, .ref ns, .ref nh, .ref nk, .ref np, .int 16, .int 0, .int 16, .int 0, .int 0])), (ns, .inl (kL, 1024, .inr (.inl zSec)))] := hD
  have hK : va_K (dC, dI) vwCl [(kL, .long), (kL, .long)] s := hK
  have hw_2 : r_1 = 1 := hw_2
  have hw_2 := hw_2.symm
  subst hw_2
  refine va_put (D := (dC, dI)) (ci := 12) (v := .int 1) (ty := .int) (C := RX10) (T := TX10) (N := 14) hx hb hts in_RX10 tyX10 tyX10_ok nmX10 hown hK hP hD hS 3 rfl rfl 2 (by decide) (hts (.fieldLink RX7 152 "Hornbook$Step" "a" "I") (by decide +kernel)) (fun _ h9 => h9) rfl (by decide +kernel) rfl rfl (Nat.le_of_ble_eq_true rfl) dX7_stepOrder_12 (fun H locs hP hD hS => ?_)
  have hP : va_P (dC, dI) vwCl [(aroom, .inr (9, [.ref asort, .ref anod, .ref atold, .int 3, .ref aheld, .int 0, .ref apair, .ref astep, .int 1, .int 0, .int (-1), .int 0, .int 0, .ref asize])), (nf, .inl (kL, 1024, .inr (.inl zFir))), (asort, .inr (1, [.int 0, .ref eD, .int 0])), (sp, .inr (12, [.int 0, .int (-1), .int 1, .int 1, .int 1, .int (-1), .int (-1), .int 0, .int 0, .int 0, .int 0, .int 0, .int 0, .int 0])), (anod, .inr (7, [.ref nm, .ref nl, .ref n1, .ref n2, .ref nf, .ref ns, .ref nh, .ref nk, .ref np, .int 16, .int 0, .int 16, .int 0, .int 0])), (ns, .inl (kL, 1024, .inr (.inl zSec)))] H := hP
  have hD : va_D A [(aroom, .inr (9, [.ref asort, .ref anod, .ref atold, .int 3, .ref aheld, .int 0, .ref apair, .ref astep, .int 1, .int 0, .int (-1), .int 0, .int 0, .ref asize])), (nf, .inl (kL, 1024, .inr (.inl zFir))), (asort, .inr (1, [.int 0, .ref eD, .int 0])), (sp, .inr (12, [.int 0, .int (-1), .int 1, .int 1, .int 1, .int (-1), .int (-1), .int 0, .int 0, .int 0, .int 0, .int 0, .int 0, .int 0])), (anod, .inr (7, [.ref nm, .ref nl, .ref n1, .ref n2, .ref nf, .ref ns, .ref nh, .ref nk, .ref np, .int 16, .int 0, .int 16, .int 0, .int 0])), (ns, .inl (kL, 1024, .inr (.inl zSec)))] := hD
  refine lv_aload_n hx hb dX7_stepOrder_15 rfl (lv_at hl 1 rfl) ?_
  refine lv_aload_n hx hb dX7_stepOrder_16 rfl (lv_at hl 0 rfl) ?_
  refine va_get (D := (dC, dI)) (ci := 9) (v := .ref anod) (C := RX7) (T := TX7) (N := 14) hx hb hts in_RX7 hown hK hP 0 rfl rfl 1 (by decide) (hts (.fieldLink RX7 21 "Hornbook$Room" "nodes" "LHornbook$Nodes;") (by decide +kernel)) (fun _ h9 => h9) rfl dX7_stepOrder_17 ?_
  refine lv_aload_n hx hb dX7_stepOrder_20 rfl (lv_at hl 1 rfl) ?_
  refine va_get (D := (dC, dI)) (ci := 12) (v := .int 1) (C := RX10) (T := TX10) (N := 14) hx hb hts in_RX10 hown hK hP 3 rfl rfl 3 (by decide) (hts (.fieldLink RX7 158 "Hornbook$Step" "b" "I") (by decide +kernel)) (fun _ h9 => h9) rfl dX7_stepOrder_21 ?_
  refine z_i (wr := [(aroom, .inr (9, [.ref asort, .ref anod, .ref atold, .int 3, .ref aheld, .int 0, .ref apair, .ref astep, .int 1, .int 0, .int (-1), .int 0, .int 0, .ref asize])), (nf, .inl (kL, 1024, .inr (.inl zFir))), (asort, .inr (1, [.int 0, .ref eD, .int 0])), (sp, .inr (12, [.int 0, .int (-1), .int 1, .int 1, .int 1, .int (-1), .int (-1), .int 0, .int 0, .int 0, .int 0, .int 0, .int 0, .int 0]))]) (va_runV (As := [.int 1]) (rest := [.ref sp]) ⟨hx, hb, hml, hown, hts⟩ (c_N_through_1 l eD eI ad dC dI H.size anod nm nl n1 n2 nf ns nh nk np kL) (cwV 1 hts g_c_R_order_11_0 rfl rfl rfl (by decide +kernel) ⟨Nat.le_of_ble_eq_true rfl, Nat.le_of_ble_eq_true rfl⟩) (z_preV (wc := [(anod, .inr (7, [.ref nm, .ref nl, .ref n1, .ref n2, .ref nf, .ref ns, .ref nh, .ref nk, .ref np, .int 16, .int 0, .int 16, .int 0, .int 0])), (ns, .inl (kL, 1024, .inr (.inl zSec)))]) hP hD hK hS hA hE [4, 5] [0] rfl (by decide) rfl (ci := 7) (q0 := 0) rfl rfl) rfl rfl hl.1 rfl (lv_room (Nat.le_of_ble_eq_true rfl)) dX7_stepOrder_24 ⟨Nat.le_of_ble_eq_true rfl, Nat.le_of_ble_eq_true rfl⟩) hP hD hK hS hA [4, 5] [0, 1, 2, 3] rfl rfl (by decide) (by decide) (fun r_3 u H locs hw_4 hP hD hK hS => ?_)
  obtain ⟨⟩ := u
  have hP : va_P (dC, dI) vwCl [(aroom, .inr (9, [.ref asort, .ref anod, .ref atold, .int 3, .ref aheld, .int 0, .ref apair, .ref astep, .int 1, .int 0, .int (-1), .int 0, .int 0, .ref asize])), (nf, .inl (kL, 1024, .inr (.inl zFir))), (asort, .inr (1, [.int 0, .ref eD, .int 0])), (sp, .inr (12, [.int 0, .int (-1), .int 1, .int 1, .int 1, .int (-1), .int (-1), .int 0, .int 0, .int 0, .int 0, .int 0, .int 0, .int 0])), (anod, .inr (7, [.ref nm, .ref nl, .ref n1, .ref n2, .ref nf, .ref ns, .ref nh, .ref nk, .ref np, .int 16, .int 0, .int 16, .int 0, .int 0])), (ns, .inl (kL, 1024, .inr (.inl zSec)))] H := hP
  have hD : va_D A [(aroom, .inr (9, [.ref asort, .ref anod, .ref atold, .int 3, .ref aheld, .int 0, .ref apair, .ref astep, .int 1, .int 0, .int (-1), .int 0, .int 0, .ref asize])), (nf, .inl (kL, 1024, .inr (.inl zFir))), (asort, .inr (1, [.int 0, .ref eD, .int 0])), (sp, .inr (12, [.int 0, .int (-1), .int 1, .int 1, .int 1, .int (-1), .int (-1), .int 0, .int 0, .int 0, .int 0, .int 0, .int 0, .int 0])), (anod, .inr (7, [.ref nm, .ref nl, .ref n1, .ref n2, .ref nf, .ref ns, .ref nh, .ref nk, .ref np, .int 16, .int 0, .int 16, .int 0, .int 0])), (ns, .inl (kL, 1024, .inr (.inl zSec)))] := hD
  have hK : va_K (dC, dI) vwCl [(kL, .long), (kL, .long), (kL, .long)] s := hK
  have hw_4 : r_3 = 1 := hw_4
  have hw_4 := hw_4.symm
  subst hw_4
  refine va_put (D := (dC, dI)) (ci := 12) (v := .int 1) (ty := .int) (C := RX10) (T := TX10) (N := 14) hx hb hts in_RX10 tyX10 tyX10_ok nmX10 hown hK hP hD hS 3 rfl rfl 3 (by decide) (hts (.fieldLink RX7 158 "Hornbook$Step" "b" "I") (by decide +kernel)) (fun _ h9 => h9) rfl (by decide +kernel) rfl rfl (Nat.le_of_ble_eq_true rfl) dX7_stepOrder_27 (fun H locs hP hD hS => ?_)
  have hP : va_P (dC, dI) vwCl [(aroom, .inr (9, [.ref asort, .ref anod, .ref atold, .int 3, .ref aheld, .int 0, .ref apair, .ref astep, .int 1, .int 0, .int (-1), .int 0, .int 0, .ref asize])), (nf, .inl (kL, 1024, .inr (.inl zFir))), (asort, .inr (1, [.int 0, .ref eD, .int 0])), (sp, .inr (12, [.int 0, .int (-1), .int 1, .int 1, .int 1, .int (-1), .int (-1), .int 0, .int 0, .int 0, .int 0, .int 0, .int 0, .int 0])), (anod, .inr (7, [.ref nm, .ref nl, .ref n1, .ref n2, .ref nf, .ref ns, .ref nh, .ref nk, .ref np, .int 16, .int 0, .int 16, .int 0, .int 0])), (ns, .inl (kL, 1024, .inr (.inl zSec)))] H := hP
  have hD : va_D A [(aroom, .inr (9, [.ref asort, .ref anod, .ref atold, .int 3, .ref aheld, .int 0, .ref apair, .ref astep, .int 1, .int 0, .int (-1), .int 0, .int 0, .ref asize])), (nf, .inl (kL, 1024, .inr (.inl zFir))), (asort, .inr (1, [.int 0, .ref eD, .int 0])), (sp, .inr (12, [.int 0, .int (-1), .int 1, .int 1, .int 1, .int (-1), .int (-1), .int 0, .int 0, .int 0, .int 0, .int 0, .int 0, .int 0])), (anod, .inr (7, [.ref nm, .ref nl, .ref n1, .ref n2, .ref nf, .ref ns, .ref nh, .ref nk, .ref np, .int 16, .int 0, .int 16, .int 0, .int 0])), (ns, .inl (kL, 1024, .inr (.inl zSec)))] := hD
  refine lv_aload_n hx hb dX7_stepOrder_30 rfl (lv_at hl 1 rfl) ?_
  refine lv_aload_n hx hb dX7_stepOrder_31 rfl (lv_at hl 0 rfl) ?_
  refine va_get (D := (dC, dI)) (ci := 9) (v := .ref anod) (C := RX7) (T := TX7) (N := 14) hx hb hts in_RX7 hown hK hP 0 rfl rfl 1 (by decide) (hts (.fieldLink RX7 21 "Hornbook$Room" "nodes" "LHornbook$Nodes;") (by decide +kernel)) (fun _ h9 => h9) rfl dX7_stepOrder_32 ?_
  refine lv_aload_n hx hb dX7_stepOrder_35 rfl (lv_at hl 1 rfl) ?_
  refine va_get (D := (dC, dI)) (ci := 12) (v := .int (-1)) (C := RX10) (T := TX10) (N := 14) hx hb hts in_RX10 hown hK hP 3 rfl rfl 5 (by decide) (hts (.fieldLink RX7 161 "Hornbook$Step" "x" "I") (by decide +kernel)) (fun _ h9 => h9) rfl dX7_stepOrder_36 ?_
  refine z_i (wr := [(aroom, .inr (9, [.ref asort, .ref anod, .ref atold, .int 3, .ref aheld, .int 0, .ref apair, .ref astep, .int 1, .int 0, .int (-1), .int 0, .int 0, .ref asize])), (nf, .inl (kL, 1024, .inr (.inl zFir))), (asort, .inr (1, [.int 0, .ref eD, .int 0])), (sp, .inr (12, [.int 0, .int (-1), .int 1, .int 1, .int 1, .int (-1), .int (-1), .int 0, .int 0, .int 0, .int 0, .int 0, .int 0, .int 0])), (ns, .inl (kL, 1024, .inr (.inl zSec)))]) (va_runV (As := [.int (-1)]) (rest := [.ref sp]) ⟨hx, hb, hml, hown, hts⟩ (c_N_through_n l eD eI ad dC dI H.size anod nm nl n1 n2 nf ns nh nk np) (cwV 1 hts g_c_R_order_11_1 rfl rfl rfl (by decide +kernel) ⟨Nat.le_of_ble_eq_true rfl, Nat.le_of_ble_eq_true rfl⟩) (z_preV (wc := [(anod, .inr (7, [.ref nm, .ref nl, .ref n1, .ref n2, .ref nf, .ref ns, .ref nh, .ref nk, .ref np, .int 16, .int 0, .int 16, .int 0, .int 0]))]) hP hD hK hS hA hE [4] [] rfl (by decide) rfl (ci := 7) (q0 := 0) rfl rfl) rfl rfl hl.1 rfl (lv_room (Nat.le_of_ble_eq_true rfl)) dX7_stepOrder_39 ⟨Nat.le_of_ble_eq_true rfl, Nat.le_of_ble_eq_true rfl⟩) hP hD hK hS hA [4] [0, 1, 2, 3, 5] rfl rfl (by decide) (by decide) (fun r_5 u H locs hw_6 hP hD hK hS => ?_)
  obtain ⟨⟩ := u
  have hP : va_P (dC, dI) vwCl [(aroom, .inr (9, [.ref asort, .ref anod, .ref atold, .int 3, .ref aheld, .int 0, .ref apair, .ref astep, .int 1, .int 0, .int (-1), .int 0, .int 0, .ref asize])), (nf, .inl (kL, 1024, .inr (.inl zFir))), (asort, .inr (1, [.int 0, .ref eD, .int 0])), (sp, .inr (12, [.int 0, .int (-1), .int 1, .int 1, .int 1, .int (-1), .int (-1), .int 0, .int 0, .int 0, .int 0, .int 0, .int 0, .int 0])), (ns, .inl (kL, 1024, .inr (.inl zSec))), (anod, .inr (7, [.ref nm, .ref nl, .ref n1, .ref n2, .ref nf, .ref ns, .ref nh, .ref nk, .ref np, .int 16, .int 0, .int 16, .int 0, .int 0]))] H := hP
  have hD : va_D A [(aroom, .inr (9, [.ref asort, .ref anod, .ref atold, .int 3, .ref aheld, .int 0, .ref apair, .ref astep, .int 1, .int 0, .int (-1), .int 0, .int 0, .ref asize])), (nf, .inl (kL, 1024, .inr (.inl zFir))), (asort, .inr (1, [.int 0, .ref eD, .int 0])), (sp, .inr (12, [.int 0, .int (-1), .int 1, .int 1, .int 1, .int (-1), .int (-1), .int 0, .int 0, .int 0, .int 0, .int 0, .int 0, .int 0])), (ns, .inl (kL, 1024, .inr (.inl zSec))), (anod, .inr (7, [.ref nm, .ref nl, .ref n1, .ref n2, .ref nf, .ref ns, .ref nh, .ref nk, .ref np, .int 16, .int 0, .int 16, .int 0, .int 0]))] := hD
  have hK : va_K (dC, dI) vwCl [(kL, .long), (kL, .long), (kL, .long)] s := by simpa using hK
  have hw_6 : r_5 = (-1) := hw_6
  have hw_6 := hw_6.symm
  subst hw_6
  refine va_put (D := (dC, dI)) (ci := 12) (v := .int (-1)) (ty := .int) (C := RX10) (T := TX10) (N := 14) hx hb hts in_RX10 tyX10 tyX10_ok nmX10 hown hK hP hD hS 3 rfl rfl 5 (by decide) (hts (.fieldLink RX7 161 "Hornbook$Step" "x" "I") (by decide +kernel)) (fun _ h9 => h9) rfl (by decide +kernel) rfl rfl (Nat.le_of_ble_eq_true rfl) dX7_stepOrder_42 (fun H locs hP hD hS => ?_)
  have hP : va_P (dC, dI) vwCl [(aroom, .inr (9, [.ref asort, .ref anod, .ref atold, .int 3, .ref aheld, .int 0, .ref apair, .ref astep, .int 1, .int 0, .int (-1), .int 0, .int 0, .ref asize])), (nf, .inl (kL, 1024, .inr (.inl zFir))), (asort, .inr (1, [.int 0, .ref eD, .int 0])), (sp, .inr (12, [.int 0, .int (-1), .int 1, .int 1, .int 1, .int (-1), .int (-1), .int 0, .int 0, .int 0, .int 0, .int 0, .int 0, .int 0])), (ns, .inl (kL, 1024, .inr (.inl zSec))), (anod, .inr (7, [.ref nm, .ref nl, .ref n1, .ref n2, .ref nf, .ref ns, .ref nh, .ref nk, .ref np, .int 16, .int 0, .int 16, .int 0, .int 0]))] H := hP
  have hD : va_D A [(aroom, .inr (9, [.ref asort, .ref anod, .ref atold, .int 3, .ref aheld, .int 0, .ref apair, .ref astep, .int 1, .int 0, .int (-1), .int 0, .int 0, .ref asize])), (nf, .inl (kL, 1024, .inr (.inl zFir))), (asort, .inr (1, [.int 0, .ref eD, .int 0])), (sp, .inr (12, [.int 0, .int (-1), .int 1, .int 1, .int 1, .int (-1), .int (-1), .int 0, .int 0, .int 0, .int 0, .int 0, .int 0, .int 0])), (ns, .inl (kL, 1024, .inr (.inl zSec))), (anod, .inr (7, [.ref nm, .ref nl, .ref n1, .ref n2, .ref nf, .ref ns, .ref nh, .ref nk, .ref np, .int 16, .int 0, .int 16, .int 0, .int 0]))] := hD
  refine lv_aload_n hx hb dX7_stepOrder_45 rfl (lv_at hl 1 rfl) ?_
  refine va_get (D := (dC, dI)) (ci := 12) (v := .int 0) (C := RX10) (T := TX10) (N := 14) hx hb hts in_RX10 hown hK hP 3 rfl rfl 9 (by decide) (hts (.fieldLink RX7 246 "Hornbook$Step" "phase" "I") (by decide +kernel)) (fun _ h9 => h9) rfl dX7_stepOrder_46 ?_
  refine lv_if_ne (tgt := 138) hx hb dX7_stepOrder_49 (by decide) (fun c_7 => ?_) (fun c_7 => ?_)
  · exact absurd (by decide) c_7
  refine lv_aload_n hx hb dX7_stepOrder_52 rfl (lv_at hl 0 rfl) ?_
  refine lv_aload_n hx hb dX7_stepOrder_53 rfl (lv_at hl 1 rfl) ?_
  refine va_get (D := (dC, dI)) (ci := 12) (v := .int 1) (C := RX10) (T := TX10) (N := 14) hx hb hts in_RX10 hown hK hP 3 rfl rfl 2 (by decide) (hts (.fieldLink RX7 152 "Hornbook$Step" "a" "I") (by decide +kernel)) (fun _ h9 => h9) rfl dX7_stepOrder_54 ?_
  refine lv_aload_n hx hb dX7_stepOrder_57 rfl (lv_at hl 1 rfl) ?_
  refine va_get (D := (dC, dI)) (ci := 12) (v := .int 1) (C := RX10) (T := TX10) (N := 14) hx hb hts in_RX10 hown hK hP 3 rfl rfl 3 (by decide) (hts (.fieldLink RX7 158 "Hornbook$Step" "b" "I") (by decide +kernel)) (fun _ h9 => h9) rfl dX7_stepOrder_58 ?_
  refine z_i (wr := [(sp, .inr (12, [.int 0, .int (-1), .int 1, .int 1, .int 1, .int (-1), .int (-1), .int 0, .int 0, .int 0, .int 0, .int 0, .int 0, .int 0]))]) (va_runV (As := [.int 1, .int 1]) (rest := []) ⟨hx, hb, hml, hown, hts⟩ (c_R_known_11 l eD eI ad dC dI H.size aroom anod asort atold aheld apair astep asize nm nl n1 n2 nf ns nh nk np kL) (cwV 2 hts g_c_R_order_11_2 rfl rfl rfl (by decide +kernel) ⟨Nat.le_of_ble_eq_true rfl, Nat.le_of_ble_eq_true rfl⟩) (z_preV (wc := [(aroom, .inr (9, [.ref asort, .ref anod, .ref atold, .int 3, .ref aheld, .int 0, .ref apair, .ref astep, .int 1, .int 0, .int (-1), .int 0, .int 0, .ref asize])), (anod, .inr (7, [.ref nm, .ref nl, .ref n1, .ref n2, .ref nf, .ref ns, .ref nh, .ref nk, .ref np, .int 16, .int 0, .int 16, .int 0, .int 0])), (ns, .inl (kL, 1024, .inr (.inl zSec))), (nf, .inl (kL, 1024, .inr (.inl zFir))), (asort, .inr (1, [.int 0, .ref eD, .int 0]))]) hP hD hK hS hA hE [0, 5, 4, 1, 2] [0] rfl (by decide) rfl (ci := 9) (q0 := 0) rfl rfl) rfl rfl hl.1 rfl (lv_room (Nat.le_of_ble_eq_true rfl)) dX7_stepOrder_61 ⟨Nat.le_of_ble_eq_true rfl, Nat.le_of_ble_eq_true rfl⟩) hP hD hK hS hA [0, 5, 4, 1, 2] [3] rfl rfl (by decide) (by decide) (fun r_8 u H locs hw_9 hP hD hK hS => ?_)
  obtain ⟨⟩ := u
  have hP : va_P (dC, dI) vwCl [(sp, .inr (12, [.int 0, .int (-1), .int 1, .int 1, .int 1, .int (-1), .int (-1), .int 0, .int 0, .int 0, .int 0, .int 0, .int 0, .int 0])), (aroom, .inr (9, [.ref asort, .ref anod, .ref atold, .int 3, .ref aheld, .int 0, .ref apair, .ref astep, .int 1, .int 0, .int (-1), .int 0, .int 0, .ref asize])), (anod, .inr (7, [.ref nm, .ref nl, .ref n1, .ref n2, .ref nf, .ref ns, .ref nh, .ref nk, .ref np, .int 16, .int 0, .int 16, .int 0, .int 0])), (ns, .inl (kL, 1024, .inr (.inl zSec))), (nf, .inl (kL, 1024, .inr (.inl zFir))), (asort, .inr (1, [.int 0, .ref eD, .int 0]))] H := hP
  have hD : va_D A [(sp, .inr (12, [.int 0, .int (-1), .int 1, .int 1, .int 1, .int (-1), .int (-1), .int 0, .int 0, .int 0, .int 0, .int 0, .int 0, .int 0])), (aroom, .inr (9, [.ref asort, .ref anod, .ref atold, .int 3, .ref aheld, .int 0, .ref apair, .ref astep, .int 1, .int 0, .int (-1), .int 0, .int 0, .ref asize])), (anod, .inr (7, [.ref nm, .ref nl, .ref n1, .ref n2, .ref nf, .ref ns, .ref nh, .ref nk, .ref np, .int 16, .int 0, .int 16, .int 0, .int 0])), (ns, .inl (kL, 1024, .inr (.inl zSec))), (nf, .inl (kL, 1024, .inr (.inl zFir))), (asort, .inr (1, [.int 0, .ref eD, .int 0]))] := hD
  have hK : va_K (dC, dI) vwCl [(kL, .long), (kL, .long), (kL, .long), (kL, .long)] s := hK
  have hw_9 : r_8 = 1 := hw_9
  have hw_9 := hw_9.symm
  subst hw_9
  refine lv_istore_n (lv' := [(2, .int 1), (0, .ref aroom), (1, .ref sp)]) hx hb dX7_stepOrder_64 rfl hl (by decide) rfl (fun ls hl => ?_)
  refine lv_iload_n hx hb dX7_stepOrder_65 rfl (lv_at hl 0 rfl) ?_
  refine lv_iconst (v := (-1)) hx hb dX7_stepOrder_66 (by decide) ?_
  refine lv_icmp_eq (tgt := 76) hx hb dX7_stepOrder_67 (by decide) (fun c_10 => ?_) (fun c_10 => ?_)
  · exact absurd c_10 (by decide)
  refine lv_aload_n hx hb dX7_stepOrder_70 rfl (lv_at hl 1 rfl) ?_
  refine lv_iload_n hx hb dX7_stepOrder_71 rfl (lv_at hl 0 rfl) ?_
  refine z_v (wr := [(sp, .inr (12, [.int 0, .int (-1), .int 1, .int 1, .int 1, .int (-1), .int (-1), .int 0, .int 0, .int 0, .int 0, .int 0, .int 0, .int 0])), (anod, .inr (7, [.ref nm, .ref nl, .ref n1, .ref n2, .ref nf, .ref ns, .ref nh, .ref nk, .ref np, .int 16, .int 0, .int 16, .int 0, .int 0])), (ns, .inl (kL, 1024, .inr (.inl zSec))), (nf, .inl (kL, 1024, .inr (.inl zFir))), (asort, .inr (1, [.int 0, .ref eD, .int 0]))]) (va_runV (As := [.int 1]) (rest := []) ⟨hx, hb, hml, hown, hts⟩ (c_R_answer l eD eI ad dC dI H.size aroom anod asort atold aheld apair astep asize 1 0 0) (cwV 1 hts g_c_R_order_11_3 rfl rfl rfl (by decide +kernel) ⟨Nat.le_of_ble_eq_true rfl, Nat.le_of_ble_eq_true rfl⟩) (z_preV (wc := [(aroom, .inr (9, [.ref asort, .ref anod, .ref atold, .int 3, .ref aheld, .int 0, .ref apair, .ref astep, .int 1, .int 0, .int (-1), .int 0, .int 0, .ref asize]))]) hP hD hK hS hA hE [1] [] rfl (by decide) rfl (ci := 9) (q0 := 0) rfl rfl) rfl rfl hl.1 rfl (lv_room (Nat.le_of_ble_eq_true rfl)) dX7_stepOrder_72 ⟨Nat.le_of_ble_eq_true rfl, Nat.le_of_ble_eq_true rfl⟩) hP hD hK hS hA [1] [0, 2, 3, 4, 5] rfl rfl (by decide) (by decide) (fun u H locs hw_12 hP hD hK hS => ?_)
  obtain ⟨⟩ := u
  have hP : va_P (dC, dI) vwCl [(sp, .inr (12, [.int 0, .int (-1), .int 1, .int 1, .int 1, .int (-1), .int (-1), .int 0, .int 0, .int 0, .int 0, .int 0, .int 0, .int 0])), (anod, .inr (7, [.ref nm, .ref nl, .ref n1, .ref n2, .ref nf, .ref ns, .ref nh, .ref nk, .ref np, .int 16, .int 0, .int 16, .int 0, .int 0])), (ns, .inl (kL, 1024, .inr (.inl zSec))), (nf, .inl (kL, 1024, .inr (.inl zFir))), (asort, .inr (1, [.int 0, .ref eD, .int 0])), (aroom, .inr (9, [.ref asort, .ref anod, .ref atold, .int 3, .ref aheld, .int 0, .ref apair, .ref astep, .int 0, .int 0, .int 1, .int 0, .int 0, .ref asize]))] H := hP
  have hD : va_D A [(sp, .inr (12, [.int 0, .int (-1), .int 1, .int 1, .int 1, .int (-1), .int (-1), .int 0, .int 0, .int 0, .int 0, .int 0, .int 0, .int 0])), (anod, .inr (7, [.ref nm, .ref nl, .ref n1, .ref n2, .ref nf, .ref ns, .ref nh, .ref nk, .ref np, .int 16, .int 0, .int 16, .int 0, .int 0])), (ns, .inl (kL, 1024, .inr (.inl zSec))), (nf, .inl (kL, 1024, .inr (.inl zFir))), (asort, .inr (1, [.int 0, .ref eD, .int 0])), (aroom, .inr (9, [.ref asort, .ref anod, .ref atold, .int 3, .ref aheld, .int 0, .ref apair, .ref astep, .int 0, .int 0, .int 1, .int 0, .int 0, .ref asize]))] := hD
  have hK : va_K (dC, dI) vwCl [(kL, .long), (kL, .long), (kL, .long), (kL, .long)] s := by simpa using hK
  have hP9 := hP.sub (ws' := [(aroom, .inr (9, [.ref asort, .ref anod, .ref atold, .int 3, .ref aheld, .int 0, .ref apair, .ref astep, .int 0, .int 0, .int 1, .int 0, .int 0, .ref asize]))]) [5] rfl
  have hD9 := hD.sub (ws' := [(aroom, .inr (9, [.ref asort, .ref anod, .ref atold, .int 3, .ref aheld, .int 0, .ref apair, .ref astep, .int 0, .int 0, .int 1, .int 0, .int 0, .ref asize]))]) [5] (by decide) rfl
  have hK9 := hK.sub (tys' := []) [] rfl
  refine W.widen (k := 0) (n := 0) (Nat.le_of_ble_eq_true rfl) (Nat.le_of_ble_eq_true rfl) ?_
  exact W.vret hx hb hr (fun t ht hW => ⟨⟨(), rfl, trivial, ⟨by rw [ht]; exact hP9, va_K.moved hW.alike hK9, hD9⟩⟩, hS.F ht⟩) hS.2.2 dX7_stepOrder_75

def wb_c_R_known_12 : List Cond := []
def w_c_R_known_12 : List Cond := .code yX7_known cX7_known 5 (some .int) :: wb_c_R_known_12
set_option maxHeartbeats 4000000 in
set_option maxRecDepth 100000 in
theorem c_R_known_12 (l : Launch) (eD eI : Nat) (ad : Nat → Nat) (dC : Nat → ClassId) (dI : Nat → Nat → Nat) (sz : Nat) (aroom : Nat) (anod : Nat) (asort : Nat) (atold : Nat) (aheld : Nat) (apair : Nat) (astep : Nat) (asize : Nat) (nm : Nat) (nl : Nat) (n1 : Nat) (n2 : Nat) (nf : Nat) (ns : Nat) (nh : Nat) (nk : Nat) (np : Nat) (kL : ClassId) : Met l yX7_known w_c_R_known_12 ({ frames := 0, cells := 0, slots := 0, locals := 0 }) (va_Pc [.ref aroom, .int 1, .int 2] (zPre eD eI ad (dC, dI) [(aroom, .inr (9, [.ref asort, .ref anod, .ref atold, .int 3, .ref aheld, .int 0, .ref apair, .ref astep, .int 1, .int 0, .int (-1), .int 0, .int 0, .ref asize])), (anod, .inr (7, [.ref nm, .ref nl, .ref n1, .ref n2, .ref nf, .ref ns, .ref nh, .ref nk, .ref np, .int 16, .int 0, .int 16, .int 0, .int 0])), (ns, .inl (kL, 1024, .inr (.inl zSec))), (nf, .inl (kL, 1024, .inr (.inl zFir))), (asort, .inr (1, [.int 0, .ref eD, .int 0]))] [(kL, .long)] sz)) (va_Qi (fun (r : Int32) (_ : Unit) => r = 1) (fun (_ : Unit) => zEnd (dC, dI) (va_A [(aroom, .inr (9, [.ref asort, .ref anod, .ref atold, .int 3, .ref aheld, .int 0, .ref apair, .ref astep, .int 1, .int 0, .int (-1), .int 0, .int 0, .ref asize])), (anod, .inr (7, [.ref nm, .ref nl, .ref n1, .ref n2, .ref nf, .ref ns, .ref nh, .ref nk, .ref np, .int 16, .int 0, .int 16, .int 0, .int 0])), (ns, .inl (kL, 1024, .inr (.inl zSec))), (nf, .inl (kL, 1024, .inr (.inl zFir))), (asort, .inr (1, [.int 0, .ref eD, .int 0]))] sz) [(aroom, .inr (9, [.ref asort, .ref anod, .ref atold, .int 3, .ref aheld, .int 0, .ref apair, .ref astep, .int 1, .int 0, .int (-1), .int 0, .int 0, .ref asize])), (anod, .inr (7, [.ref nm, .ref nl, .ref n1, .ref n2, .ref nf, .ref ns, .ref nh, .ref nk, .ref np, .int 16, .int 0, .int 16, .int 0, .int 0])), (ns, .inl (kL, 1024, .inr (.inl zSec))), (nf, .inl (kL, 1024, .inr (.inl zFir))), (asort, .inr (1, [.int 0, .ref eD, .int 0]))] [(kL, .long)]) (va_A [(aroom, .inr (9, [.ref asort, .ref anod, .ref atold, .int 3, .ref aheld, .int 0, .ref apair, .ref astep, .int 1, .int 0, .int (-1), .int 0, .int 0, .ref asize])), (anod, .inr (7, [.ref nm, .ref nl, .ref n1, .ref n2, .ref nf, .ref ns, .ref nh, .ref nk, .ref np, .int 16, .int 0, .int 16, .int 0, .int 0])), (ns, .inl (kL, 1024, .inr (.inl zSec))), (nf, .inl (kL, 1024, .inr (.inl zFir))), (asort, .inr (1, [.int 0, .ref eD, .int 0]))] sz)) 0 0 (va_A [(aroom, .inr (9, [.ref asort, .ref anod, .ref atold, .int 3, .ref aheld, .int 0, .ref apair, .ref astep, .int 1, .int 0, .int (-1), .int 0, .int 0, .ref asize])), (anod, .inr (7, [.ref nm, .ref nl, .ref n1, .ref n2, .ref nf, .ref ns, .ref nh, .ref nk, .ref np, .int 16, .int 0, .int 16, .int 0, .int 0])), (ns, .inl (kL, 1024, .inr (.inl zSec))), (nf, .inl (kL, 1024, .inr (.inl zFir))), (asort, .inr (1, [.int 0, .ref eD, .int 0]))] sz) := by
  refine Met.ofW (cc := cX7_known) (maxL := 5) (ret := (some .int)) (by decide) rfl ?_
  intro p e s m args below meth c s₁ B hml hv
  obtain ⟨rfl, hsz, hP, hK, hD0, hE⟩ := hv
  have hx := B.exec
  have hb := B.bytes
  have hr := B.returns
  have hts := atoms_spec (ws := w_c_R_known_12) B.pre
  have hown : s.vm.findClass RX7 = some m.cls := findClass_of_methodNamed B.named
  have hlocks := B.notSynchronized
  subst hsz
  have hD := hD0.self (sz := s.heap.size)
  generalize hAe : va_A [(aroom, .inr (9, [.ref asort, .ref anod, .ref atold, .int 3, .ref aheld, .int 0, .ref apair, .ref astep, .int 1, .int 0, .int (-1), .int 0, .int 0, .ref asize])), (anod, .inr (7, [.ref nm, .ref nl, .ref n1, .ref n2, .ref nf, .ref ns, .ref nh, .ref nk, .ref np, .int 16, .int 0, .int 16, .int 0, .int 0])), (ns, .inl (kL, 1024, .inr (.inl zSec))), (nf, .inl (kL, 1024, .inr (.inl zFir))), (asort, .inr (1, [.int 0, .ref eD, .int 0]))] s.heap.size = A at hD hE ⊢
  have hA : ∀ q : Nat, s.heap.size ≤ q → A q := fun q h => by rw [← hAe]; exact Or.inr h
  have hS : va_S A s.heap s.heap [] := va_S.rf
  have hP : va_P (dC, dI) vwCl [(aroom, .inr (9, [.ref asort, .ref anod, .ref atold, .int 3, .ref aheld, .int 0, .ref apair, .ref astep, .int 1, .int 0, .int (-1), .int 0, .int 0, .ref asize])), (anod, .inr (7, [.ref nm, .ref nl, .ref n1, .ref n2, .ref nf, .ref ns, .ref nh, .ref nk, .ref np, .int 16, .int 0, .int 16, .int 0, .int 0])), (ns, .inl (kL, 1024, .inr (.inl zSec))), (nf, .inl (kL, 1024, .inr (.inl zFir))), (asort, .inr (1, [.int 0, .ref eD, .int 0]))] s.heap := hP
  have hl := lv_entry ([.ref aroom, .int 1, .int 2]) (n := 5) (Nat.le_of_ble_eq_true rfl)
  rw [lg_entry_eq]
  generalize (lg_sl ([.ref aroom, .int 1, .int 2]) ++ List.replicate (5 - (lg_sl ([.ref aroom, .int 1, .int 2])).length) Slot.unset).toArray = ls at hl ⊢
  have hl : lv_has ls 5 [(0, .ref aroom), (1, .int 1), (2, .int 2)] := hl
  refine lv_iload_n hx hb dX7_known_0 rfl (lv_at hl 1 rfl) ?_
  refine lv_iload_n hx hb dX7_known_1 rfl (lv_at hl 2 rfl) ?_
  refine lv_icmp_eq (tgt := 14) hx hb dX7_known_2 (by decide) (fun c_1 => ?_) (fun c_1 => ?_)
  · exact absurd c_1 (by decide)
  refine lv_iload_n hx hb dX7_known_5 rfl (lv_at hl 1 rfl) ?_
  refine lv_iconst (v := 1) hx hb dX7_known_6 (by decide) ?_
  refine lv_icmp_eq (tgt := 14) hx hb dX7_known_7 (by decide) (fun c_2 => ?_) (fun c_2 => ?_)
  rotate_left
  · exact absurd (by decide) c_2
  refine lv_iconst (v := 1) hx hb dX7_known_14 (by decide) ?_
  have hP9 := hP.sub (ws' := [(aroom, .inr (9, [.ref asort, .ref anod, .ref atold, .int 3, .ref aheld, .int 0, .ref apair, .ref astep, .int 1, .int 0, .int (-1), .int 0, .int 0, .ref asize])), (anod, .inr (7, [.ref nm, .ref nl, .ref n1, .ref n2, .ref nf, .ref ns, .ref nh, .ref nk, .ref np, .int 16, .int 0, .int 16, .int 0, .int 0])), (ns, .inl (kL, 1024, .inr (.inl zSec))), (nf, .inl (kL, 1024, .inr (.inl zFir))), (asort, .inr (1, [.int 0, .ref eD, .int 0]))]) [0, 1, 2, 3, 4] rfl
  have hD9 := hD.sub (ws' := [(aroom, .inr (9, [.ref asort, .ref anod, .ref atold, .int 3, .ref aheld, .int 0, .ref apair, .ref astep, .int 1, .int 0, .int (-1), .int 0, .int 0, .ref asize])), (anod, .inr (7, [.ref nm, .ref nl, .ref n1, .ref n2, .ref nf, .ref ns, .ref nh, .ref nk, .ref np, .int 16, .int 0, .int 16, .int 0, .int 0])), (ns, .inl (kL, 1024, .inr (.inl zSec))), (nf, .inl (kL, 1024, .inr (.inl zFir))), (asort, .inr (1, [.int 0, .ref eD, .int 0]))]) [0, 1, 2, 3, 4] (by decide) rfl
  have hK9 := hK.sub (tys' := [(kL, .long)]) [0] rfl
  refine W.widen (k := 0) (n := 0) (Nat.le_of_ble_eq_true rfl) (Nat.le_of_ble_eq_true rfl) ?_
  exact W.iret (v := 1) hx hb hr (fun t ht hW => ⟨⟨1, (), rfl, rfl, ⟨by rw [ht]; exact hP9, va_K.moved hW.alike hK9, hD9⟩⟩, hS.F ht⟩) hS.2.2 dX7_known_15
