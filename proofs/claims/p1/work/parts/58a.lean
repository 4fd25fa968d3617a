theorem dL_wouldChoose_0 : decode cL_wouldChoose 0 = .ok (.aload 5, 2) := by decide +kernel
theorem dL_wouldChoose_2 : decode cL_wouldChoose 2 = .ok (.iconst 0, 1) := by decide +kernel
theorem dL_wouldChoose_3 : decode cL_wouldChoose 3 = .ok (.aload_n 0, 1) := by decide +kernel
theorem dL_wouldChoose_4 : decode cL_wouldChoose 4 = .ok (.iload_n 1, 1) := by decide +kernel
theorem dL_wouldChoose_5 : decode cL_wouldChoose 5 = .ok (.iload_n 2, 1) := by decide +kernel
theorem dL_wouldChoose_6 : decode cL_wouldChoose 6 = .ok (.iload_n 3, 1) := by decide +kernel
theorem dL_wouldChoose_7 : decode cL_wouldChoose 7 = .ok (.iload 4, 2) := by decide +kernel
theorem dL_wouldChoose_9 : decode cL_wouldChoose 9 = .ok (.invokevirtual 91, 3) := by decide +kernel
theorem dL_wouldChoose_17 : decode cL_wouldChoose 17 = .ok (.astore 6, 2) := by decide +kernel
theorem dL_wouldChoose_19 : decode cL_wouldChoose 19 = .ok (.iconst 1, 1) := by decide +kernel
theorem dL_wouldChoose_20 : decode cL_wouldChoose 20 = .ok (.ireturn, 1) := by decide +kernel
theorem dL_wouldChoose_21 : decode cL_wouldChoose 21 = .ok (.astore 6, 2) := by decide +kernel
theorem dL_wouldChoose_23 : decode cL_wouldChoose 23 = .ok (.iconst 2, 1) := by decide +kernel
theorem dL_wouldChoose_24 : decode cL_wouldChoose 24 = .ok (.ireturn, 1) := by decide +kernel
theorem dL_wouldChoose_12 : decode cL_wouldChoose 12 = .ok (.i2l, 1) := by decide +kernel
theorem dL_wouldChoose_13 : decode cL_wouldChoose 13 = .ok (.lastore, 1) := by decide +kernel
theorem dL_wouldChoose_14 : decode cL_wouldChoose 14 = .ok (.goto 11, 3) := by decide +kernel
theorem dL_wouldChoose_25 : decode cL_wouldChoose 25 = .ok (.iconst 0, 1) := by decide +kernel
theorem dL_wouldChoose_26 : decode cL_wouldChoose 26 = .ok (.ireturn, 1) := by decide +kernel
def wb_c_L_wouldChoose : List Cond := [.code yX11_wouldChoose cX11_wouldChoose 6 (some .int), .code yX11_needType cX11_needType 2 none, .classLink RX11 277 "java/lang/IndexOutOfBoundsException", .initialized "java/lang/IndexOutOfBoundsException", .methodLink RX11 116 yX11_needType, .instanceMethod yX11_needType, .selects RX11 yX11_needType yX11_needType, .initialized RX11, .methodLink RL 91 yX11_wouldChoose, .instanceMethod yX11_wouldChoose, .selects RX11 yX11_wouldChoose yX11_wouldChoose, .classLink RL 21 "java/lang/IndexOutOfBoundsException", .fieldLink RX11 31 "Hornbook" "room" "LHornbook$Room;", .fieldLink RX11 344 "Hornbook$Room" "tellings" "I", .code yX11_needTypeOrNone cX11_needTypeOrNone 2 none, .methodLink RX11 158 yX11_needTypeOrNone, .instanceMethod yX11_needTypeOrNone, .selects RX11 yX11_needTypeOrNone yX11_needTypeOrNone, .code yX11_needName cX11_needName 1 none, .classLink RX11 66 "java/lang/IllegalArgumentException", .initialized "java/lang/IllegalArgumentException", .methodLink RX11 193 yX11_needName, .static yX11_needName, .classLink RL 13 "java/lang/IllegalArgumentException", .code yX11_needInOrder cX11_needInOrder 2 none, .methodLink RX11 161 yX11_needInOrder, .static yX11_needInOrder, .code yX11_needClosed cX11_needClosed 2 none, .code yX7_toldAt cX7_toldAt 2 (some .int), .fieldLink RX7 29 "Hornbook$Room" "tellings" "I", .fieldLink RX7 25 "Hornbook$Room" "told" "[I", .methodLink RX11 123 yX7_toldAt, .instanceMethod yX7_toldAt, .selects RX7 yX7_toldAt yX7_toldAt, .initialized RX7, .code yX11_has cX11_has 3 (some .boolean), .fieldLink RX11 38 "Hornbook" "nodes" "LHornbook$Nodes;", .code yX5_openOf cX5_openOf 2 (some .int), .fieldLink RX5 28 "Hornbook$Nodes" "second" "[J", .fieldLink RX5 24 "Hornbook$Nodes" "first" "[J", .methodLink RX11 367 yX5_openOf, .instanceMethod yX5_openOf, .selects RX5 yX5_openOf yX5_openOf, .initialized RX5, .methodLink RX11 138 yX11_has, .instanceMethod yX11_has, .selects RX11 yX11_has yX11_has, .methodLink RX11 225 yX11_needClosed, .instanceMethod yX11_needClosed, .selects RX11 yX11_needClosed yX11_needClosed, .fieldLink RX11 19 "Hornbook" "chooser" "LHornbook$Chooser;", .code yX1_choose cX1_choose 10 (some .int), .fieldLink RX1 12 "Hornbook$Chooser" "room" "LHornbook$Room;", .fieldLink RX1 53 "Hornbook$Room" "holding" "I", .code yX7_hold cX7_hold 2 none, .methodLink RX1 56 yX7_hold, .instanceMethod yX7_hold, .selects RX7 yX7_hold yX7_hold, .fieldLink RX1 42 "Hornbook$Chooser" "seen" "I", .code yX7_ask cX7_ask 7 (some .int), .fieldLink RX7 49 "Hornbook$Room" "asking" "I", .fieldLink RX7 56 "Hornbook$Room" "last" "I", .fieldLink RX7 52 "Hornbook$Room" "isTidied" "Z", .code yX7_open cX7_open 5 none, .fieldLink RX7 46 "Hornbook$Room" "steps" "Ljava/util/ArrayList;", .code yJx4a65c_size_8abf5 cJx4a65c_size_8abf5 1 (some .int), .fieldLink RJx4a65c 48 "java/util/ArrayList" "size" "I", .methodLink RX7 139 yJx4a65c_size_8abf5, .instanceMethod yJx4a65c_size_8abf5, .selects RJx4a65c yJx4a65c_size_8abf5 yJx4a65c_size_8abf5, .initialized RJx4a65c, .classLink RX7 147 RX10, .instantiable RX10 14, .initialized RX10, .code yX10_init cX10_init 1 none, .methodLink RX10 1 objectInit, .instanceMethod objectInit, .code objectInit ⟨#[0xb1]⟩ 1 none, .instanceMethod yX10_init, .code yJx4a65c_add_9ea2d cJx4a65c_add_9ea2d 2 (some .boolean), .sameField "java/util/ArrayList" "java/util/AbstractList" "modCount" "I", .fieldLink RJx4a65c 63 "java/util/ArrayList" "modCount" "I", .fieldLink RJx4a65c 9 "java/util/ArrayList" "elementData" "[Ljava/lang/Object;", .code yJx4a65c_add_72be8 cJx4a65c_add_72be8 4 none, .code yJx4a65c_grow_d5877 cJx4a65c_grow_d5877 1 (some (.array (.object "java/lang/Object"))), .code yJx4a65c_grow_92f84 cJx4a65c_grow_92f84 4 (some (.array (.object "java/lang/Object"))), .fieldLink RJx4a65c 39 "java/util/ArrayList" "DEFAULTCAPACITY_EMPTY_ELEMENTDATA" "[Ljava/lang/Object;", .methodLink RJx4a65c 79 Lib.Math.max.name, .static Lib.Math.max.name, .initialized "java/lang/Math", .code Lib.Math.max.name Lib.Math.max.code 2 (some .int), .classLink RJx4a65c 7 "java/lang/Object", .methodLink RJx4a65c 69 yJx4a65c_grow_92f84, .instanceMethod yJx4a65c_grow_92f84, .selects RJx4a65c yJx4a65c_grow_92f84 yJx4a65c_grow_92f84, .methodLink RJx4a65c 129 yJx4a65c_grow_d5877, .instanceMethod yJx4a65c_grow_d5877, .selects RJx4a65c yJx4a65c_grow_d5877 yJx4a65c_grow_d5877, .methodLink RJx4a65c 131 yJx4a65c_add_72be8, .instanceMethod yJx4a65c_add_72be8, .selects RJx4a65c yJx4a65c_add_72be8 yJx4a65c_add_72be8, .methodLink RX7 239 yJx4a65c_add_9ea2d, .instanceMethod yJx4a65c_add_9ea2d, .selects RJx4a65c yJx4a65c_add_9ea2d yJx4a65c_add_9ea2d, .code yJx4a65c_get_915e3 cJx4a65c_get_915e3 2 (some (.object "java/lang/Object")), .code yJ15_checkIndex_7cf53 cJ15_checkIndex_7cf53 2 (some .int), .code yJ3_checkIndex_8e157 cJ3_checkIndex_8e157 3 (some .int), .methodLink RJ15 105 yJ3_checkIndex_8e157, .static yJ3_checkIndex_8e157, .initialized RJ3, .methodLink RJx4a65c 118 yJ15_checkIndex_7cf53, .static yJ15_checkIndex_7cf53, .initialized RJ15, .code yJx4a65c_elementData_915e3 cJx4a65c_elementData_915e3 2 (some (.object "java/lang/Object")), .methodLink RJx4a65c 123 yJx4a65c_elementData_915e3, .instanceMethod yJx4a65c_elementData_915e3, .selects RJx4a65c yJx4a65c_elementData_915e3 yJx4a65c_elementData_915e3, .methodLink RX7 143 yJx4a65c_get_915e3, .instanceMethod yJx4a65c_get_915e3, .selects RJx4a65c yJx4a65c_get_915e3 yJx4a65c_get_915e3, .classLink RX7 147 "Hornbook$Step", .fieldLink RX7 155 "Hornbook$Step" "kind" "I", .fieldLink RX7 149 "Hornbook$Step" "self" "I", .fieldLink RX7 152 "Hornbook$Step" "a" "I", .fieldLink RX7 158 "Hornbook$Step" "b" "I", .fieldLink RX7 243 "Hornbook$Step" "wanted" "I", .fieldLink RX7 161 "Hornbook$Step" "x" "I", .fieldLink RX7 164 "Hornbook$Step" "y" "I", .fieldLink RX7 167 "Hornbook$Step" "one" "I", .fieldLink RX7 170 "Hornbook$Step" "other" "I", .fieldLink RX7 246 "Hornbook$Step" "phase" "I", .fieldLink RX7 249 "Hornbook$Step" "place" "I", .fieldLink RX7 252 "Hornbook$Step" "turn" "I", .fieldLink RX7 255 "Hornbook$Step" "isBack" "Z", .fieldLink RX7 258 "Hornbook$Step" "isAnswered" "Z", .methodLink RX7 205 yX7_open, .instanceMethod yX7_open, .selects RX7 yX7_open yX7_open, .constantLong RX7 209 (1099511627776), .fieldLink RX7 21 "Hornbook$Room" "nodes" "LHornbook$Nodes;", .code yX5_isFull cX5_isFull 1 (some .boolean), .fieldLink RX5 47 "Hornbook$Nodes" "count" "I", .methodLink RX7 87 yX5_isFull, .instanceMethod yX5_isFull, .selects RX5 yX5_isFull yX5_isFull, .fieldLink RX7 42 "Hornbook$Room" "pairs" "LHornbook$Pairs;", .code yX6_isCrowded cX6_isCrowded 1 (some .boolean), .fieldLink RX6 15 "Hornbook$Pairs" "count" "I", .fieldLink RX6 9 "Hornbook$Pairs" "slots" "[J", .methodLink RX7 211 yX6_isCrowded, .instanceMethod yX6_isCrowded, .selects RX6 yX6_isCrowded yX6_isCrowded, .initialized RX6, .code yX7_stepForm cX7_stepForm 3 none, .code yX5_through cX5_through 4 (some .int), .methodLink RX7 194 yX5_through, .instanceMethod yX5_through, .selects RX5 yX5_through yX5_through, .code yX5_isShut cX5_isShut 2 (some .boolean), .methodLink RX7 278 yX5_isShut, .instanceMethod yX5_isShut, .selects RX5 yX5_isShut yX5_isShut, .code yX7_answer cX7_answer 2 none, .methodLink RX7 275 yX7_answer, .instanceMethod yX7_answer, .selects RX7 yX7_answer yX7_answer, .methodLink RX7 217 yX7_stepForm, .instanceMethod yX7_stepForm, .selects RX7 yX7_stepForm yX7_stepForm, .methodLink RX1 60 yX7_ask, .instanceMethod yX7_ask, .selects RX7 yX7_ask yX7_ask, .fieldLink RX1 64 "Hornbook$Room" "nodes" "LHornbook$Nodes;", .code yX5_formOf cX5_formOf 2 (some .int), .methodLink RX1 68 yX5_formOf, .instanceMethod yX5_formOf, .selects RX5 yX5_formOf yX5_formOf, .fieldLink RX1 74 "Hornbook$Room" "sorts" "Ljava/util/ArrayList;", .methodLink RX1 77 yJx4a65c_size_8abf5, .fieldLink RX1 45 "Hornbook$Chooser" "taking" "I", .fieldLink RX1 48 "Hornbook$Chooser" "best" "LHornbook$Candidate;", .code yX7_letGo cX7_letGo 2 none, .fieldLink RX7 36 "Hornbook$Room" "holding" "I", .methodLink RX7 78 Lib.Math.max.name, .methodLink RX7 84 Lib.Math.min.name, .static Lib.Math.min.name, .code Lib.Math.min.name Lib.Math.min.code 2 (some .int), .methodLink RX1 116 yX7_letGo, .instanceMethod yX7_letGo, .selects RX7 yX7_letGo yX7_letGo, .methodLink RX11 303 yX1_choose, .instanceMethod yX1_choose, .selects RX1 yX1_choose yX1_choose, .initialized RX1] ++ u_ws RJx4a65c TJx4a65c 3 ++ u_ws RX1 TX1 9 ++ u_ws RX10 TX10 14 ++ u_ws RX11 TX11 10 ++ u_ws RX5 TX5 14 ++ u_ws RX6 TX6 3 ++ u_ws RX7 TX7 14
def w_c_L_wouldChoose : List Cond := .codeWith yL_wouldChoose cL_wouldChoose 7 (some .int) [(0, 14, 17, 21), (0, 14, 21, 13)] :: (wb_c_L_wouldChoose ++ zAt)
set_option maxRecDepth 100000 in
theorem g_c_L_wouldChoose_0 : GoodIn w_c_L_wouldChoose (wsV RL 91 RX11 yX11_wouldChoose w_c_H_would_Al) := goodIn_app (goodIn_of _ (by decide +kernel)) (goodIn_ca (goodIn_p (big := w_c_L_wouldChoose) (.code yX11_wouldChoose cX11_wouldChoose 6 (some .int) :: wb_c_H_would_Al) [1, 2] rfl (by decide +kernel)) (goodIn_sub (fun _ h => List.mem_cons_of_mem _ (List.mem_append_right _ h)) zAt_good))
set_option maxRecDepth 100000 in
theorem g_c_L_wouldChoose_1 : GoodIn w_c_L_wouldChoose (wsV RL 91 RX11 yX11_wouldChoose w_c_H_would_Ah) := goodIn_app (goodIn_of _ (by decide +kernel)) (goodIn_ca (goodIn_p (big := w_c_L_wouldChoose) (.code yX11_wouldChoose cX11_wouldChoose 6 (some .int) :: wb_c_H_would_Ah) [1, 2] rfl (by decide +kernel)) (goodIn_sub (fun _ h => List.mem_cons_of_mem _ (List.mem_append_right _ h)) zAt_good))
set_option maxRecDepth 100000 in
theorem g_c_L_wouldChoose_2 : GoodIn w_c_L_wouldChoose (wsV RL 91 RX11 yX11_wouldChoose w_c_H_would_Dnnl) := goodIn_app (goodIn_of _ (by decide +kernel)) (goodIn_ca (goodIn_p (big := w_c_L_wouldChoose) (.code yX11_wouldChoose cX11_wouldChoose 6 (some .int) :: wb_c_H_would_Dnnl) [1, 2, 15, 19] rfl (by decide +kernel)) (goodIn_sub (fun _ h => List.mem_cons_of_mem _ (List.mem_append_right _ h)) zAt_good))
set_option maxRecDepth 100000 in
theorem g_c_L_wouldChoose_3 : GoodIn w_c_L_wouldChoose (wsV RL 91 RX11 yX11_wouldChoose w_c_H_would_Dnnh) := goodIn_app (goodIn_of _ (by decide +kernel)) (goodIn_ca (goodIn_p (big := w_c_L_wouldChoose) (.code yX11_wouldChoose cX11_wouldChoose 6 (some .int) :: wb_c_H_would_Dnnh) [1, 2, 15, 19] rfl (by decide +kernel)) (goodIn_sub (fun _ h => List.mem_cons_of_mem _ (List.mem_append_right _ h)) zAt_good))
set_option maxRecDepth 100000 in
theorem g_c_L_wouldChoose_4 : GoodIn w_c_L_wouldChoose (wsV RL 91 RX11 yX11_wouldChoose w_c_H_would_I0nn) := goodIn_app (goodIn_of _ (by decide +kernel)) (goodIn_p (big := w_c_L_wouldChoose) (.code yX11_wouldChoose cX11_wouldChoose 6 (some .int) :: wb_c_H_would_I0nn) [1, 2, 15, 19, 25, 28, 29, 36, 38, 52, 55, 60, 64, 66, 75, 78, 80, 84, 85, 86, 91, 105, 106, 107, 114, 141, 147, 154, 155, 159, 163, 174, 182, 187] rfl (by decide +kernel))
set_option maxRecDepth 100000 in
theorem g_c_L_wouldChoose_5 : GoodIn w_c_L_wouldChoose (wsV RL 91 RX11 yX11_wouldChoose w_c_H_would_I1nn) := goodIn_app (goodIn_of _ (by decide +kernel)) (goodIn_p (big := w_c_L_wouldChoose) (.code yX11_wouldChoose cX11_wouldChoose 6 (some .int) :: wb_c_H_would_I1nn) [1, 2, 15, 19, 25, 28, 29, 36, 38, 52, 55, 60, 64, 66, 75, 78, 80, 84, 85, 86, 91, 105, 106, 107, 114, 141, 147, 154, 155, 159, 163, 174, 182, 187] rfl (by decide +kernel))
set_option maxRecDepth 100000 in
theorem g_c_L_wouldChoose_6 : GoodIn w_c_L_wouldChoose (wsV RL 91 RX11 yX11_wouldChoose w_c_H_would_Fnn) := goodIn_app (goodIn_of _ (by decide +kernel)) (goodIn_ca (goodIn_p (big := w_c_L_wouldChoose) (.code yX11_wouldChoose cX11_wouldChoose 6 (some .int) :: wb_c_H_would_Fnn) [1, 2, 15, 19, 25, 28, 29, 36, 38] rfl (by decide +kernel)) (goodIn_sub (fun _ h => List.mem_cons_of_mem _ (List.mem_append_right _ h)) zAt_good))
set_option maxRecDepth 100000 in
theorem g_c_L_wouldChoose_7 : GoodIn w_c_L_wouldChoose (wsV RL 91 RX11 yX11_wouldChoose w_c_H_would_Cnl) := goodIn_app (goodIn_of _ (by decide +kernel)) (goodIn_ca (goodIn_p (big := w_c_L_wouldChoose) (.code yX11_wouldChoose cX11_wouldChoose 6 (some .int) :: wb_c_H_would_Cnl) [1, 2, 15] rfl (by decide +kernel)) (goodIn_sub (fun _ h => List.mem_cons_of_mem _ (List.mem_append_right _ h)) zAt_good))
set_option maxRecDepth 100000 in
theorem g_c_L_wouldChoose_8 : GoodIn w_c_L_wouldChoose (wsV RL 91 RX11 yX11_wouldChoose w_c_H_would_Cnh) := goodIn_app (goodIn_of _ (by decide +kernel)) (goodIn_ca (goodIn_p (big := w_c_L_wouldChoose) (.code yX11_wouldChoose cX11_wouldChoose 6 (some .int) :: wb_c_H_would_Cnh) [1, 2, 15] rfl (by decide +kernel)) (goodIn_sub (fun _ h => List.mem_cons_of_mem _ (List.mem_append_right _ h)) zAt_good))
set_option maxRecDepth 100000 in
theorem g_c_L_wouldChoose_9 : GoodIn w_c_L_wouldChoose (wsV RL 91 RX11 yX11_wouldChoose w_c_H_would_Dnkl) := goodIn_app (goodIn_of _ (by decide +kernel)) (goodIn_ca (goodIn_p (big := w_c_L_wouldChoose) (.code yX11_wouldChoose cX11_wouldChoose 6 (some .int) :: wb_c_H_would_Dnkl) [1, 2, 15, 19] rfl (by decide +kernel)) (goodIn_sub (fun _ h => List.mem_cons_of_mem _ (List.mem_append_right _ h)) zAt_good))
set_option maxRecDepth 100000 in
theorem g_c_L_wouldChoose_10 : GoodIn w_c_L_wouldChoose (wsV RL 91 RX11 yX11_wouldChoose w_c_H_would_Dnkh) := goodIn_app (goodIn_of _ (by decide +kernel)) (goodIn_ca (goodIn_p (big := w_c_L_wouldChoose) (.code yX11_wouldChoose cX11_wouldChoose 6 (some .int) :: wb_c_H_would_Dnkh) [1, 2, 15, 19] rfl (by decide +kernel)) (goodIn_sub (fun _ h => List.mem_cons_of_mem _ (List.mem_append_right _ h)) zAt_good))
set_option maxRecDepth 100000 in
theorem g_c_L_wouldChoose_11 : GoodIn w_c_L_wouldChoose (wsV RL 91 RX11 yX11_wouldChoose w_c_H_would_E) := goodIn_app (goodIn_of _ (by decide +kernel)) (goodIn_ca (goodIn_p (big := w_c_L_wouldChoose) (.code yX11_wouldChoose cX11_wouldChoose 6 (some .int) :: wb_c_H_would_E) [1, 2, 15, 19, 25] rfl (by decide +kernel)) (goodIn_sub (fun _ h => List.mem_cons_of_mem _ (List.mem_append_right _ h)) zAt_good))
set_option maxRecDepth 100000 in
theorem g_c_L_wouldChoose_12 : GoodIn w_c_L_wouldChoose (wsV RL 91 RX11 yX11_wouldChoose w_c_H_would_Bl) := goodIn_app (goodIn_of _ (by decide +kernel)) (goodIn_ca (goodIn_p (big := w_c_L_wouldChoose) (.code yX11_wouldChoose cX11_wouldChoose 6 (some .int) :: wb_c_H_would_Bl) [1, 2, 15] rfl (by decide +kernel)) (goodIn_sub (fun _ h => List.mem_cons_of_mem _ (List.mem_append_right _ h)) zAt_good))
set_option maxRecDepth 100000 in
theorem g_c_L_wouldChoose_13 : GoodIn w_c_L_wouldChoose (wsV RL 91 RX11 yX11_wouldChoose w_c_H_would_Bh) := goodIn_app (goodIn_of _ (by decide +kernel)) (goodIn_ca (goodIn_p (big := w_c_L_wouldChoose) (.code yX11_wouldChoose cX11_wouldChoose 6 (some .int) :: wb_c_H_would_Bh) [1, 2, 15] rfl (by decide +kernel)) (goodIn_sub (fun _ h => List.mem_cons_of_mem _ (List.mem_append_right _ h)) zAt_good))
set_option maxRecDepth 100000 in
theorem g_c_L_wouldChoose_14 : GoodIn w_c_L_wouldChoose (wsV RL 91 RX11 yX11_wouldChoose w_c_H_would_Dknl) := goodIn_app (goodIn_of _ (by decide +kernel)) (goodIn_ca (goodIn_p (big := w_c_L_wouldChoose) (.code yX11_wouldChoose cX11_wouldChoose 6 (some .int) :: wb_c_H_would_Dknl) [1, 2, 15, 19] rfl (by decide +kernel)) (goodIn_sub (fun _ h => List.mem_cons_of_mem _ (List.mem_append_right _ h)) zAt_good))
set_option maxRecDepth 100000 in
theorem g_c_L_wouldChoose_15 : GoodIn w_c_L_wouldChoose (wsV RL 91 RX11 yX11_wouldChoose w_c_H_would_Dknh) := goodIn_app (goodIn_of _ (by decide +kernel)) (goodIn_ca (goodIn_p (big := w_c_L_wouldChoose) (.code yX11_wouldChoose cX11_wouldChoose 6 (some .int) :: wb_c_H_would_Dknh) [1, 2, 15, 19] rfl (by decide +kernel)) (goodIn_sub (fun _ h => List.mem_cons_of_mem _ (List.mem_append_right _ h)) zAt_good))
set_option maxRecDepth 100000 in
theorem g_c_L_wouldChoose_16 : GoodIn w_c_L_wouldChoose (wsV RL 91 RX11 yX11_wouldChoose w_c_H_would_Fkn) := goodIn_app (goodIn_of _ (by decide +kernel)) (goodIn_ca (goodIn_p (big := w_c_L_wouldChoose) (.code yX11_wouldChoose cX11_wouldChoose 6 (some .int) :: wb_c_H_would_Fkn) [1, 2, 15, 19, 25, 28, 29, 36, 38] rfl (by decide +kernel)) (goodIn_sub (fun _ h => List.mem_cons_of_mem _ (List.mem_append_right _ h)) zAt_good))
set_option maxRecDepth 100000 in
theorem g_c_L_wouldChoose_17 : GoodIn w_c_L_wouldChoose (wsV RL 91 RX11 yX11_wouldChoose w_c_H_would_Gn) := goodIn_app (goodIn_of _ (by decide +kernel)) (goodIn_ca (goodIn_p (big := w_c_L_wouldChoose) (.code yX11_wouldChoose cX11_wouldChoose 6 (some .int) :: wb_c_H_would_Gn) [1, 2, 15, 19, 25, 28, 29, 36, 38] rfl (by decide +kernel)) (goodIn_sub (fun _ h => List.mem_cons_of_mem _ (List.mem_append_right _ h)) zAt_good))
set_option maxRecDepth 100000 in
theorem g_c_L_wouldChoose_18 : GoodIn w_c_L_wouldChoose (wsV RL 91 RX11 yX11_wouldChoose w_c_H_would_I0kn) := goodIn_app (goodIn_of _ (by decide +kernel)) (goodIn_p (big := w_c_L_wouldChoose) (.code yX11_wouldChoose cX11_wouldChoose 6 (some .int) :: wb_c_H_would_I0kn) [1, 2, 15, 19, 25, 28, 29, 36, 38, 52, 55, 60, 64, 66, 75, 78, 80, 84, 85, 86, 91, 105, 106, 107, 114, 141, 147, 154, 155, 159, 163, 174, 182, 187] rfl (by decide +kernel))
set_option maxRecDepth 100000 in
theorem g_c_L_wouldChoose_19 : GoodIn w_c_L_wouldChoose (wsV RL 91 RX11 yX11_wouldChoose w_c_H_would_I1kn) := goodIn_app (goodIn_of _ (by decide +kernel)) (goodIn_p (big := w_c_L_wouldChoose) (.code yX11_wouldChoose cX11_wouldChoose 6 (some .int) :: wb_c_H_would_I1kn) [1, 2, 15, 19, 25, 28, 29, 36, 38, 52, 55, 60, 64, 66, 75, 78, 80, 84, 85, 86, 91, 105, 106, 107, 114, 141, 147, 154, 155, 159, 163, 174, 182, 187] rfl (by decide +kernel))
set_option maxRecDepth 100000 in
theorem g_c_L_wouldChoose_20 : GoodIn w_c_L_wouldChoose (wsV RL 91 RX11 yX11_wouldChoose w_c_H_would_Ckl) := goodIn_app (goodIn_of _ (by decide +kernel)) (goodIn_ca (goodIn_p (big := w_c_L_wouldChoose) (.code yX11_wouldChoose cX11_wouldChoose 6 (some .int) :: wb_c_H_would_Ckl) [1, 2, 15] rfl (by decide +kernel)) (goodIn_sub (fun _ h => List.mem_cons_of_mem _ (List.mem_append_right _ h)) zAt_good))
set_option maxRecDepth 100000 in
theorem g_c_L_wouldChoose_21 : GoodIn w_c_L_wouldChoose (wsV RL 91 RX11 yX11_wouldChoose w_c_H_would_Ckh) := goodIn_app (goodIn_of _ (by decide +kernel)) (goodIn_ca (goodIn_p (big := w_c_L_wouldChoose) (.code yX11_wouldChoose cX11_wouldChoose 6 (some .int) :: wb_c_H_would_Ckh) [1, 2, 15] rfl (by decide +kernel)) (goodIn_sub (fun _ h => List.mem_cons_of_mem _ (List.mem_append_right _ h)) zAt_good))
set_option maxRecDepth 100000 in
theorem g_c_L_wouldChoose_22 : GoodIn w_c_L_wouldChoose (wsV RL 91 RX11 yX11_wouldChoose w_c_H_would_Dkkl) := goodIn_app (goodIn_of _ (by decide +kernel)) (goodIn_ca (goodIn_p (big := w_c_L_wouldChoose) (.code yX11_wouldChoose cX11_wouldChoose 6 (some .int) :: wb_c_H_would_Dkkl) [1, 2, 15, 19] rfl (by decide +kernel)) (goodIn_sub (fun _ h => List.mem_cons_of_mem _ (List.mem_append_right _ h)) zAt_good))
set_option maxRecDepth 100000 in
theorem g_c_L_wouldChoose_23 : GoodIn w_c_L_wouldChoose (wsV RL 91 RX11 yX11_wouldChoose w_c_H_would_Dkkh) := goodIn_app (goodIn_of _ (by decide +kernel)) (goodIn_ca (goodIn_p (big := w_c_L_wouldChoose) (.code yX11_wouldChoose cX11_wouldChoose 6 (some .int) :: wb_c_H_would_Dkkh) [1, 2, 15, 19] rfl (by decide +kernel)) (goodIn_sub (fun _ h => List.mem_cons_of_mem _ (List.mem_append_right _ h)) zAt_good))
set_option maxRecDepth 100000 in
theorem g_c_L_wouldChoose_24 : GoodIn w_c_L_wouldChoose (wsV RL 91 RX11 yX11_wouldChoose w_c_H_would_Fkk) := goodIn_app (goodIn_of _ (by decide +kernel)) (goodIn_ca (goodIn_p (big := w_c_L_wouldChoose) (.code yX11_wouldChoose cX11_wouldChoose 6 (some .int) :: wb_c_H_would_Fkk) [1, 2, 15, 19, 25, 28, 29, 36, 38] rfl (by decide +kernel)) (goodIn_sub (fun _ h => List.mem_cons_of_mem _ (List.mem_append_right _ h)) zAt_good))
set_option maxRecDepth 100000 in
theorem g_c_L_wouldChoose_25 : GoodIn w_c_L_wouldChoose (wsV RL 91 RX11 yX11_wouldChoose w_c_H_would_Gk) := goodIn_app (goodIn_of _ (by decide +kernel)) (goodIn_ca (goodIn_p (big := w_c_L_wouldChoose) (.code yX11_wouldChoose cX11_wouldChoose 6 (some .int) :: wb_c_H_would_Gk) [1, 2, 15, 19, 25, 28, 29, 36, 38] rfl (by decide +kernel)) (goodIn_sub (fun _ h => List.mem_cons_of_mem _ (List.mem_append_right _ h)) zAt_good))
set_option maxRecDepth 100000 in
theorem g_c_L_wouldChoose_26 : GoodIn w_c_L_wouldChoose (wsV RL 91 RX11 yX11_wouldChoose w_c_H_would_H) := goodIn_app (goodIn_of _ (by decide +kernel)) (goodIn_ca (goodIn_p (big := w_c_L_wouldChoose) (.code yX11_wouldChoose cX11_wouldChoose 6 (some .int) :: wb_c_H_would_H) [1, 2, 15, 19, 25, 28, 29, 36, 38] rfl (by decide +kernel)) (goodIn_sub (fun _ h => List.mem_cons_of_mem _ (List.mem_append_right _ h)) zAt_good))
set_option maxRecDepth 100000 in
theorem g_c_L_wouldChoose_27 : GoodIn w_c_L_wouldChoose (wsV RL 91 RX11 yX11_wouldChoose w_c_H_would_I0kk) := goodIn_app (goodIn_of _ (by decide +kernel)) (goodIn_p (big := w_c_L_wouldChoose) (.code yX11_wouldChoose cX11_wouldChoose 6 (some .int) :: wb_c_H_would_I0kk) [1, 2, 15, 19, 25, 28, 29, 36, 38, 52, 55, 60, 64, 66, 75, 78, 80, 84, 85, 86, 91, 105, 106, 107, 114, 141, 147, 154, 155, 159, 163, 174, 182, 187] rfl (by decide +kernel))
set_option maxRecDepth 100000 in
theorem g_c_L_wouldChoose_28 : GoodIn w_c_L_wouldChoose (wsV RL 91 RX11 yX11_wouldChoose w_c_H_would_I1kk) := goodIn_app (goodIn_of _ (by decide +kernel)) (goodIn_p (big := w_c_L_wouldChoose) (.code yX11_wouldChoose cX11_wouldChoose 6 (some .int) :: wb_c_H_would_I1kk) [1, 2, 15, 19, 25, 28, 29, 36, 38, 52, 55, 60, 64, 66, 75, 78, 80, 84, 85, 86, 91, 105, 106, 107, 114, 141, 147, 154, 155, 159, 163, 174, 182, 187] rfl (by decide +kernel))
set_option maxHeartbeats 4000000 in
set_option maxRecDepth 100000 in
theorem c_L_wouldChoose (l : Launch) (hfl : l.flags = flags0) (eD eI : Nat) (ad : Nat → Nat) (dC : Nat → ClassId) (dI : Nat → Nat → Nat) (sz : Nat) (hh : Nat) (aexpr : Nat) (achoo : Nat) (ameth : Nat) (aroom : Nat) (anod : Nat) (asort : Nat) (anote : Nat) (amet : Nat) (atold : Nat) (aheld : Nat) (apair : Nat) (astep : Nat) (asize : Nat) (nm : Nat) (nl : Nat) (n1 : Nat) (n2 : Nat) (nf : Nat) (ns : Nat) (nh : Nat) (nk : Nat) (np : Nat) (apsl : Nat) (acand : Nat) (ahint : Nat) (ou : Nat) (kI : ClassId) (kL : ClassId) (x1 : Int32) (x2 : Int32) (x3 : Int32) (x4 : Int32) (fo : Nat → Int64) : vx_Met l yL_wouldChoose w_c_L_wouldChoose ({ frames := 9, cells := 2, slots := 24, locals := 205 }) (va_Pc [.ref hh, .int x1, .int x2, .int x3, .int x4, .ref ou] (zPreD eD eI ad (dC, dI) [(hh, .inr (13, [.ref aexpr, .ref achoo, .ref ameth, .ref aroom, .ref anod, .ref asort, .ref anote, .ref amet, .int 0, .int 1])), (achoo, .inr (3, [.ref aroom, .ref ameth, .ref acand, .ref ahint, .int 0, .int (-1), .int 0, .int 0, .null])), (aroom, .inr (9, [.ref asort, .ref anod, .ref atold, .int 3, .ref aheld, .int 0, .ref apair, .ref astep, .int 0, .int 0, .int (-1), .int 0, .int 0, .ref asize])), (atold, .inl (kI, 60, .inl zTold)), (anod, .inr (7, [.ref nm, .ref nl, .ref n1, .ref n2, .ref nf, .ref ns, .ref nh, .ref nk, .ref np, .int 16, .int 0, .int 16, .int 0, .int 0])), (ns, .inl (kL, 1024, .inr (.inl zSec))), (nf, .inl (kL, 1024, .inr (.inl zFir))), (asort, .inr (1, [.int 0, .ref eD, .int 0])), (astep, .inr (1, [.int 0, .ref eD, .int 0])), (apair, .inr (8, [.ref apsl, .int 0, .int 0])), (apsl, .inl (kL, 512, .inr (.inl (fun _ => 0)))), (ou, .inl (kL, 1, .inr (.inl fo)))] [(kI, .int), (kL, .long)] sz)) (va_Qi (fun (r : Int32) (u : Int32 × (Nat → Int64)) => match u with | (k2, fo2) => r = k2 ∧ k2 = (if x1 < 0 ∨ 2 < x1 then 1 else if ¬ x3 = (-1) ∧ (x3 < 0 ∨ 2 < x3) then 1 else if ¬ x4 = (-1) ∧ (x4 < 0 ∨ 2 < x4) then 1 else if x2 < 0 ∨ 9 < x2 then 2 else if x3 = (-1) ∧ ¬ x4 = (-1) then 2 else if x1 = 2 ∨ x3 = 2 ∨ x4 = 2 then 2 else 0) ∧ (k2 = 0 → fo2 (0 : Int32).toNatClampNeg = ((-1) : Int32).toInt64)) (fun (u : Int32 × (Nat → Int64)) => match u with | (k2, fo2) => zEnd (dC, dI) (va_A [(hh, .inr (13, [.ref aexpr, .ref achoo, .ref ameth, .ref aroom, .ref anod, .ref asort, .ref anote, .ref amet, .int 0, .int 1])), (achoo, .inr (3, [.ref aroom, .ref ameth, .ref acand, .ref ahint, .int 0, .int (-1), .int 0, .int 0, .null])), (aroom, .inr (9, [.ref asort, .ref anod, .ref atold, .int 3, .ref aheld, .int 0, .ref apair, .ref astep, .int 0, .int 0, .int (-1), .int 0, .int 0, .ref asize])), (atold, .inl (kI, 60, .inl zTold)), (anod, .inr (7, [.ref nm, .ref nl, .ref n1, .ref n2, .ref nf, .ref ns, .ref nh, .ref nk, .ref np, .int 16, .int 0, .int 16, .int 0, .int 0])), (ns, .inl (kL, 1024, .inr (.inl zSec))), (nf, .inl (kL, 1024, .inr (.inl zFir))), (asort, .inr (1, [.int 0, .ref eD, .int 0])), (astep, .inr (1, [.int 0, .ref eD, .int 0])), (apair, .inr (8, [.ref apsl, .int 0, .int 0])), (apsl, .inl (kL, 512, .inr (.inl (fun _ => 0)))), (ou, .inl (kL, 1, .inr (.inl fo)))] sz) [(ou, .inl (kL, 1, .inr (.inl fo2)))] [(kL, .long)]) (va_A [(hh, .inr (13, [.ref aexpr, .ref achoo, .ref ameth, .ref aroom, .ref anod, .ref asort, .ref anote, .ref amet, .int 0, .int 1])), (achoo, .inr (3, [.ref aroom, .ref ameth, .ref acand, .ref ahint, .int 0, .int (-1), .int 0, .int 0, .null])), (aroom, .inr (9, [.ref asort, .ref anod, .ref atold, .int 3, .ref aheld, .int 0, .ref apair, .ref astep, .int 0, .int 0, .int (-1), .int 0, .int 0, .ref asize])), (atold, .inl (kI, 60, .inl zTold)), (anod, .inr (7, [.ref nm, .ref nl, .ref n1, .ref n2, .ref nf, .ref ns, .ref nh, .ref nk, .ref np, .int 16, .int 0, .int 16, .int 0, .int 0])), (ns, .inl (kL, 1024, .inr (.inl zSec))), (nf, .inl (kL, 1024, .inr (.inl zFir))), (asort, .inr (1, [.int 0, .ref eD, .int 0])), (astep, .inr (1, [.int 0, .ref eD, .int 0])), (apair, .inr (8, [.ref apsl, .int 0, .int 0])), (apsl, .inl (kL, 512, .inr (.inl (fun _ => 0)))), (ou, .inl (kL, 1, .inr (.inl fo)))] sz)) (zX (fun _ => False) (va_A [(hh, .inr (13, [.ref aexpr, .ref achoo, .ref ameth, .ref aroom, .ref anod, .ref asort, .ref anote, .ref amet, .int 0, .int 1])), (achoo, .inr (3, [.ref aroom, .ref ameth, .ref acand, .ref ahint, .int 0, .int (-1), .int 0, .int 0, .null])), (aroom, .inr (9, [.ref asort, .ref anod, .ref atold, .int 3, .ref aheld, .int 0, .ref apair, .ref astep, .int 0, .int 0, .int (-1), .int 0, .int 0, .ref asize])), (atold, .inl (kI, 60, .inl zTold)), (anod, .inr (7, [.ref nm, .ref nl, .ref n1, .ref n2, .ref nf, .ref ns, .ref nh, .ref nk, .ref np, .int 16, .int 0, .int 16, .int 0, .int 0])), (ns, .inl (kL, 1024, .inr (.inl zSec))), (nf, .inl (kL, 1024, .inr (.inl zFir))), (asort, .inr (1, [.int 0, .ref eD, .int 0])), (astep, .inr (1, [.int 0, .ref eD, .int 0])), (apair, .inr (8, [.ref apsl, .int 0, .int 0])), (apsl, .inl (kL, 512, .inr (.inl (fun _ => 0)))), (ou, .inl (kL, 1, .inr (.inl fo)))] sz)) 2 24 (va_A [(hh, .inr (13, [.ref aexpr, .ref achoo, .ref ameth, .ref aroom, .ref anod, .ref asort, .ref anote, .ref amet, .int 0, .int 1])), (achoo, .inr (3, [.ref aroom, .ref ameth, .ref acand, .ref ahint, .int 0, .int (-1), .int 0, .int 0, .null])), (aroom, .inr (9, [.ref asort, .ref anod, .ref atold, .int 3, .ref aheld, .int 0, .ref apair, .ref astep, .int 0, .int 0, .int (-1), .int 0, .int 0, .ref asize])), (atold, .inl (kI, 60, .inl zTold)), (anod, .inr (7, [.ref nm, .ref nl, .ref n1, .ref n2, .ref nf, .ref ns, .ref nh, .ref nk, .ref np, .int 16, .int 0, .int 16, .int 0, .int 0])), (ns, .inl (kL, 1024, .inr (.inl zSec))), (nf, .inl (kL, 1024, .inr (.inl zFir))), (asort, .inr (1, [.int 0, .ref eD, .int 0])), (astep, .inr (1, [.int 0, .ref eD, .int 0])), (apair, .inr (8, [.ref apsl, .int 0, .int 0])), (apsl, .inl (kL, 512, .inr (.inl (fun _ => 0)))), (ou, .inl (kL, 1, .inr (.inl fo)))] sz) := by
  refine vx_ofWH (cc := cL_wouldChoose) (maxL := 7) (ret := (some .int)) (hh := [(0, 14, 17, 21), (0, 14, 21, 13)]) (by decide +kernel) rfl ?_
  intro p e s m args below meth c s₁ B hml hv
  obtain ⟨rfl, ⟨hsz, hP, hK, hD0, hE⟩, hDc⟩ := hv
  have hx := B.exec
  have hb := B.bytes
  have hr := B.returns
  have hts := atoms_spec (ws := w_c_L_wouldChoose) B.pre
  have hown : s.vm.findClass RL = some m.cls := findClass_of_methodNamed B.named
  have hlocks := B.notSynchronized
  have htab := vx_table (x := yL_wouldChoose) B (hts (.codeWith yL_wouldChoose cL_wouldChoose 7 (some .int) [(0, 14, 17, 21), (0, 14, 21, 13)]) List.mem_cons_self)
  subst hsz
  have hD := hD0.self (sz := s.heap.size)
  generalize hAe : va_A [(hh, .inr (13, [.ref aexpr, .ref achoo, .ref ameth, .ref aroom, .ref anod, .ref asort, .ref anote, .ref amet, .int 0, .int 1])), (achoo, .inr (3, [.ref aroom, .ref ameth, .ref acand, .ref ahint, .int 0, .int (-1), .int 0, .int 0, .null])), (aroom, .inr (9, [.ref asort, .ref anod, .ref atold, .int 3, .ref aheld, .int 0, .ref apair, .ref astep, .int 0, .int 0, .int (-1), .int 0, .int 0, .ref asize])), (atold, .inl (kI, 60, .inl zTold)), (anod, .inr (7, [.ref nm, .ref nl, .ref n1, .ref n2, .ref nf, .ref ns, .ref nh, .ref nk, .ref np, .int 16, .int 0, .int 16, .int 0, .int 0])), (ns, .inl (kL, 1024, .inr (.inl zSec))), (nf, .inl (kL, 1024, .inr (.inl zFir))), (asort, .inr (1, [.int 0, .ref eD, .int 0])), (astep, .inr (1, [.int 0, .ref eD, .int 0])), (apair, .inr (8, [.ref apsl, .int 0, .int 0])), (apsl, .inl (kL, 512, .inr (.inl (fun _ => 0)))), (ou, .inl (kL, 1, .inr (.inl fo)))] s.heap.size = A at hD hE ⊢
  have hA : ∀ q : Nat, s.heap.size ≤ q → A q := fun q h => by rw [← hAe]; exact Or.inr h
  have hS : va_S A s.heap s.heap [] := va_S.rf
  have hP : va_P (dC, dI) vwCl [(hh, .inr (13, [.ref aexpr, .ref achoo, .ref ameth, .ref aroom, .ref anod, .ref asort, .ref anote, .ref amet, .int 0, .int 1])), (achoo, .inr (3, [.ref aroom, .ref ameth, .ref acand, .ref ahint, .int 0, .int (-1), .int 0, .int 0, .null])), (aroom, .inr (9, [.ref asort, .ref anod, .ref atold, .int 3, .ref aheld, .int 0, .ref apair, .ref astep, .int 0, .int 0, .int (-1), .int 0, .int 0, .ref asize])), (atold, .inl (kI, 60, .inl zTold)), (anod, .inr (7, [.ref nm, .ref nl, .ref n1, .ref n2, .ref nf, .ref ns, .ref nh, .ref nk, .ref np, .int 16, .int 0, .int 16, .int 0, .int 0])), (ns, .inl (kL, 1024, .inr (.inl zSec))), (nf, .inl (kL, 1024, .inr (.inl zFir))), (asort, .inr (1, [.int 0, .ref eD, .int 0])), (astep, .inr (1, [.int 0, .ref eD, .int 0])), (apair, .inr (8, [.ref apsl, .int 0, .int 0])), (apsl, .inl (kL, 512, .inr (.inl (fun _ => 0)))), (ou, .inl (kL, 1, .inr (.inl fo)))] s.heap := hP
  have hl := lv_entry ([.ref hh, .int x1, .int x2, .int x3, .int x4, .ref ou]) (n := 7) (Nat.le_of_ble_eq_true rfl)
  rw [lg_entry_eq]
  generalize (lg_sl ([.ref hh, .int x1, .int x2, .int x3, .int x4, .ref ou]) ++ List.replicate (7 - (lg_sl ([.ref hh, .int x1, .int x2, .int x3, .int x4, .ref ou])).length) Slot.unset).toArray = ls at hl ⊢
  have hl : lv_has ls 7 [(0, .ref hh), (1, .int x1), (2, .int x2), (3, .int x3), (4, .int x4), (5, .ref ou)] := hl
  have in_RJx4a65c : ∀ w ∈ u_ws RJx4a65c TJx4a65c 3, w ∈ w_c_L_wouldChoose := by decide +kernel
  have in_RX1 : ∀ w ∈ u_ws RX1 TX1 9, w ∈ w_c_L_wouldChoose := by decide +kernel
  have in_RX10 : ∀ w ∈ u_ws RX10 TX10 14, w ∈ w_c_L_wouldChoose := by decide +kernel
  have in_RX11 : ∀ w ∈ u_ws RX11 TX11 10, w ∈ w_c_L_wouldChoose := by decide +kernel
  have in_RX5 : ∀ w ∈ u_ws RX5 TX5 14, w ∈ w_c_L_wouldChoose := by decide +kernel
  have in_RX6 : ∀ w ∈ u_ws RX6 TX6 3, w ∈ w_c_L_wouldChoose := by decide +kernel
  have in_RX7 : ∀ w ∈ u_ws RX7 TX7 14, w ∈ w_c_L_wouldChoose := by decide +kernel
  rcases z_splitQ x1 with hx11 | ⟨hx10, hx11⟩ | ⟨hx10, hx11⟩
  · refine lv_aload hx hb dL_wouldChoose_0 (lv_at hl 5 rfl) ?_
    refine lv_iconst (v := 0) hx hb dL_wouldChoose_2 (by decide) ?_
    refine lv_aload_n hx hb dL_wouldChoose_3 rfl (lv_at hl 0 rfl) ?_
    refine lv_iload_n hx hb dL_wouldChoose_4 rfl (lv_at hl 1 rfl) ?_
    refine lv_iload_n hx hb dL_wouldChoose_5 rfl (lv_at hl 2 rfl) ?_
    refine lv_iload_n hx hb dL_wouldChoose_6 rfl (lv_at hl 3 rfl) ?_
    refine lv_iload hx hb dL_wouldChoose_7 (lv_at hl 4 rfl) ?_
    refine zx_i (wr := [(achoo, .inr (3, [.ref aroom, .ref ameth, .ref acand, .ref ahint, .int 0, .int (-1), .int 0, .int 0, .null])), (atold, .inl (kI, 60, .inl zTold)), (anod, .inr (7, [.ref nm, .ref nl, .ref n1, .ref n2, .ref nf, .ref ns, .ref nh, .ref nk, .ref np, .int 16, .int 0, .int 16, .int 0, .int 0])), (ns, .inl (kL, 1024, .inr (.inl zSec))), (nf, .inl (kL, 1024, .inr (.inl zFir))), (asort, .inr (1, [.int 0, .ref eD, .int 0])), (astep, .inr (1, [.int 0, .ref eD, .int 0])), (apair, .inr (8, [.ref apsl, .int 0, .int 0])), (apsl, .inl (kL, 512, .inr (.inl (fun _ => 0)))), (ou, .inl (kL, 1, .inr (.inl fo)))]) (vx_runV (As := [.int x1, .int x2, .int x3, .int x4]) (rest := [.int 0, .ref ou]) ⟨hx, hb, hml, hown, hts⟩ (c_H_would_Al l hfl eD eI ad dC dI s.heap.size hh aexpr achoo ameth aroom anod asort anote amet atold aheld apair astep asize x1 x2 x3 x4 (hx11)) (cwV 4 hts g_c_L_wouldChoose_0 rfl rfl rfl (by decide +kernel) ⟨Nat.le_of_ble_eq_true rfl, Nat.le_of_ble_eq_true rfl⟩) (z_preVD (wc := [(hh, .inr (13, [.ref aexpr, .ref achoo, .ref ameth, .ref aroom, .ref anod, .ref asort, .ref anote, .ref amet, .int 0, .int 1])), (aroom, .inr (9, [.ref asort, .ref anod, .ref atold, .int 3, .ref aheld, .int 0, .ref apair, .ref astep, .int 0, .int 0, .int (-1), .int 0, .int 0, .ref asize]))]) hP hD hK hS hA hE [0, 2] [] rfl (by decide) rfl (ci := 13) (q0 := 0) rfl rfl hDc) rfl rfl hl.1 rfl (lv_room (Nat.le_of_ble_eq_true rfl)) dL_wouldChoose_9 ⟨Nat.le_of_ble_eq_true rfl, Nat.le_of_ble_eq_true rfl⟩) hP hD hK hS hA [0, 2] [1, 3, 4, 5, 6, 7, 8, 9, 10, 11] rfl rfl (by decide) (by decide) (fun E ce q9 H locs hbad hP hD hS h91 h92 h93 => ?_) (fun r_1 u H locs hw_2 hP hD hK hS => ?_)
    · have hbad : E = "java/lang/IndexOutOfBoundsException" := hbad
      subst hbad
      refine vx_catch (name := "java/lang/IndexOutOfBoundsException") hown [] ⟨0, 14, 17, 21⟩ [⟨0, 14, 21, 13⟩] (by rw [htab]; rfl) (fun z h => by simp at h) (by decide) (by decide) (hts (.classLink RL 21 "java/lang/IndexOutOfBoundsException") (by decide +kernel)) (va_Nw.use rfl (hE.2.2.2.2.2.2.2.1 ("java/lang/IndexOutOfBoundsException", "java/lang/IndexOutOfBoundsException") (by decide +kernel))) h91 h92 h93 ?_
      refine W.eq (g2 := F0 m 17 ls [.ref q9]) rfl ?_
      refine lv_astore (lv' := [(6, .ref q9), (0, .ref hh), (1, .int x1), (2, .int x2), (3, .int x3), (4, .int x4), (5, .ref ou)]) hx hb dL_wouldChoose_17 hl (by decide) rfl (fun ls hl => ?_)
      refine lv_iconst (v := 1) hx hb dL_wouldChoose_19 (by decide) ?_
      have hP9 := hP.sub (ws' := [(ou, .inl (kL, 1, .inr (.inl fo)))]) [9] rfl
      have hD9 := hD.sub (ws' := [(ou, .inl (kL, 1, .inr (.inl fo)))]) [9] (by decide) rfl
      have hK9 := hK.sub (tys' := [(kL, .long)]) [1] rfl
      refine W.widen (k := 2) (n := 24) (Nat.le_of_ble_eq_true rfl) (Nat.le_of_ble_eq_true rfl) ?_
      refine vx_ret ?_
      exact W.iret (v := 1) hx hb hr (fun t ht hW => ⟨⟨1, (1, (fo)), rfl, ⟨rfl, by first | decide | simp [hx11], fun h => absurd h (by decide)⟩, ⟨by rw [ht]; exact hP9, va_K.moved hW.alike hK9, hD9⟩⟩, hS.F ht⟩) hS.2.2 dL_wouldChoose_20
    exact absurd hw_2 id
  · refine lv_aload hx hb dL_wouldChoose_0 (lv_at hl 5 rfl) ?_
    refine lv_iconst (v := 0) hx hb dL_wouldChoose_2 (by decide) ?_
    refine lv_aload_n hx hb dL_wouldChoose_3 rfl (lv_at hl 0 rfl) ?_
    refine lv_iload_n hx hb dL_wouldChoose_4 rfl (lv_at hl 1 rfl) ?_
    refine lv_iload_n hx hb dL_wouldChoose_5 rfl (lv_at hl 2 rfl) ?_
    refine lv_iload_n hx hb dL_wouldChoose_6 rfl (lv_at hl 3 rfl) ?_
    refine lv_iload hx hb dL_wouldChoose_7 (lv_at hl 4 rfl) ?_
    refine zx_i (wr := [(achoo, .inr (3, [.ref aroom, .ref ameth, .ref acand, .ref ahint, .int 0, .int (-1), .int 0, .int 0, .null])), (atold, .inl (kI, 60, .inl zTold)), (anod, .inr (7, [.ref nm, .ref nl, .ref n1, .ref n2, .ref nf, .ref ns, .ref nh, .ref nk, .ref np, .int 16, .int 0, .int 16, .int 0, .int 0])), (ns, .inl (kL, 1024, .inr (.inl zSec))), (nf, .inl (kL, 1024, .inr (.inl zFir))), (asort, .inr (1, [.int 0, .ref eD, .int 0])), (astep, .inr (1, [.int 0, .ref eD, .int 0])), (apair, .inr (8, [.ref apsl, .int 0, .int 0])), (apsl, .inl (kL, 512, .inr (.inl (fun _ => 0)))), (ou, .inl (kL, 1, .inr (.inl fo)))]) (vx_runV (As := [.int x1, .int x2, .int x3, .int x4]) (rest := [.int 0, .ref ou]) ⟨hx, hb, hml, hown, hts⟩ (c_H_would_Ah l hfl eD eI ad dC dI s.heap.size hh aexpr achoo ameth aroom anod asort anote amet atold aheld apair astep asize x1 x2 x3 x4 (hx10) (hx11)) (cwV 4 hts g_c_L_wouldChoose_1 rfl rfl rfl (by decide +kernel) ⟨Nat.le_of_ble_eq_true rfl, Nat.le_of_ble_eq_true rfl⟩) (z_preVD (wc := [(hh, .inr (13, [.ref aexpr, .ref achoo, .ref ameth, .ref aroom, .ref anod, .ref asort, .ref anote, .ref amet, .int 0, .int 1])), (aroom, .inr (9, [.ref asort, .ref anod, .ref atold, .int 3, .ref aheld, .int 0, .ref apair, .ref astep, .int 0, .int 0, .int (-1), .int 0, .int 0, .ref asize]))]) hP hD hK hS hA hE [0, 2] [] rfl (by decide) rfl (ci := 13) (q0 := 0) rfl rfl hDc) rfl rfl hl.1 rfl (lv_room (Nat.le_of_ble_eq_true rfl)) dL_wouldChoose_9 ⟨Nat.le_of_ble_eq_true rfl, Nat.le_of_ble_eq_true rfl⟩) hP hD hK hS hA [0, 2] [1, 3, 4, 5, 6, 7, 8, 9, 10, 11] rfl rfl (by decide) (by decide) (fun E ce q9 H locs hbad hP hD hS h91 h92 h93 => ?_) (fun r_3 u H locs hw_4 hP hD hK hS => ?_)
    · have hbad : E = "java/lang/IndexOutOfBoundsException" := hbad
      subst hbad
      refine vx_catch (name := "java/lang/IndexOutOfBoundsException") hown [] ⟨0, 14, 17, 21⟩ [⟨0, 14, 21, 13⟩] (by rw [htab]; rfl) (fun z h => by simp at h) (by decide) (by decide) (hts (.classLink RL 21 "java/lang/IndexOutOfBoundsException") (by decide +kernel)) (va_Nw.use rfl (hE.2.2.2.2.2.2.2.1 ("java/lang/IndexOutOfBoundsException", "java/lang/IndexOutOfBoundsException") (by decide +kernel))) h91 h92 h93 ?_
      refine W.eq (g2 := F0 m 17 ls [.ref q9]) rfl ?_
      refine lv_astore (lv' := [(6, .ref q9), (0, .ref hh), (1, .int x1), (2, .int x2), (3, .int x3), (4, .int x4), (5, .ref ou)]) hx hb dL_wouldChoose_17 hl (by decide) rfl (fun ls hl => ?_)
      refine lv_iconst (v := 1) hx hb dL_wouldChoose_19 (by decide) ?_
      have hP9 := hP.sub (ws' := [(ou, .inl (kL, 1, .inr (.inl fo)))]) [9] rfl
      have hD9 := hD.sub (ws' := [(ou, .inl (kL, 1, .inr (.inl fo)))]) [9] (by decide) rfl
      have hK9 := hK.sub (tys' := [(kL, .long)]) [1] rfl
      refine W.widen (k := 2) (n := 24) (Nat.le_of_ble_eq_true rfl) (Nat.le_of_ble_eq_true rfl) ?_
      refine vx_ret ?_
      exact W.iret (v := 1) hx hb hr (fun t ht hW => ⟨⟨1, (1, (fo)), rfl, ⟨rfl, by first | decide | simp [hx10, hx11], fun h => absurd h (by decide)⟩, ⟨by rw [ht]; exact hP9, va_K.moved hW.alike hK9, hD9⟩⟩, hS.F ht⟩) hS.2.2 dL_wouldChoose_20
    exact absurd hw_4 id
  · rcases z_splitP x3 with rfl | ⟨hx39, hx31⟩ | ⟨hx39, hx30, hx31⟩ | ⟨hx39, hx30, hx31⟩
    · rcases z_splitP x4 with rfl | ⟨hx49, hx41⟩ | ⟨hx49, hx40, hx41⟩ | ⟨hx49, hx40, hx41⟩
      · rcases z_splitM x2 with hx21 | ⟨hx20, hx21⟩ | ⟨hx20, hx21⟩
        · refine lv_aload hx hb dL_wouldChoose_0 (lv_at hl 5 rfl) ?_
          refine lv_iconst (v := 0) hx hb dL_wouldChoose_2 (by decide) ?_
          refine lv_aload_n hx hb dL_wouldChoose_3 rfl (lv_at hl 0 rfl) ?_
          refine lv_iload_n hx hb dL_wouldChoose_4 rfl (lv_at hl 1 rfl) ?_
          refine lv_iload_n hx hb dL_wouldChoose_5 rfl (lv_at hl 2 rfl) ?_
          refine lv_iload_n hx hb dL_wouldChoose_6 rfl (lv_at hl 3 rfl) ?_
          refine lv_iload hx hb dL_wouldChoose_7 (lv_at hl 4 rfl) ?_
          refine zx_i (wr := [(achoo, .inr (3, [.ref aroom, .ref ameth, .ref acand, .ref ahint, .int 0, .int (-1), .int 0, .int 0, .null])), (atold, .inl (kI, 60, .inl zTold)), (anod, .inr (7, [.ref nm, .ref nl, .ref n1, .ref n2, .ref nf, .ref ns, .ref nh, .ref nk, .ref np, .int 16, .int 0, .int 16, .int 0, .int 0])), (ns, .inl (kL, 1024, .inr (.inl zSec))), (nf, .inl (kL, 1024, .inr (.inl zFir))), (asort, .inr (1, [.int 0, .ref eD, .int 0])), (astep, .inr (1, [.int 0, .ref eD, .int 0])), (apair, .inr (8, [.ref apsl, .int 0, .int 0])), (apsl, .inl (kL, 512, .inr (.inl (fun _ => 0)))), (ou, .inl (kL, 1, .inr (.inl fo)))]) (vx_runV (As := [.int x1, .int x2, .int (-1), .int (-1)]) (rest := [.int 0, .ref ou]) ⟨hx, hb, hml, hown, hts⟩ (c_H_would_Dnnl l hfl eD eI ad dC dI s.heap.size hh aexpr achoo ameth aroom anod asort anote amet atold aheld apair astep asize x1 x2 (hx10) (hx11) (hx21)) (cwV 4 hts g_c_L_wouldChoose_2 rfl rfl rfl (by decide +kernel) ⟨Nat.le_of_ble_eq_true rfl, Nat.le_of_ble_eq_true rfl⟩) (z_preVD (wc := [(hh, .inr (13, [.ref aexpr, .ref achoo, .ref ameth, .ref aroom, .ref anod, .ref asort, .ref anote, .ref amet, .int 0, .int 1])), (aroom, .inr (9, [.ref asort, .ref anod, .ref atold, .int 3, .ref aheld, .int 0, .ref apair, .ref astep, .int 0, .int 0, .int (-1), .int 0, .int 0, .ref asize]))]) hP hD hK hS hA hE [0, 2] [] rfl (by decide) rfl (ci := 13) (q0 := 0) rfl rfl hDc) rfl rfl hl.1 rfl (lv_room (Nat.le_of_ble_eq_true rfl)) dL_wouldChoose_9 ⟨Nat.le_of_ble_eq_true rfl, Nat.le_of_ble_eq_true rfl⟩) hP hD hK hS hA [0, 2] [1, 3, 4, 5, 6, 7, 8, 9, 10, 11] rfl rfl (by decide) (by decide) (fun E ce q9 H locs hbad hP hD hS h91 h92 h93 => ?_) (fun r_5 u H locs hw_6 hP hD hK hS => ?_)
          · have hbad : E = "java/lang/IllegalArgumentException" := hbad
            subst hbad
            refine vx_catch (name := "java/lang/IllegalArgumentException") hown [⟨0, 14, 17, 21⟩] ⟨0, 14, 21, 13⟩ [] (by rw [htab]; rfl) (fun z h => by
                simp only [List.mem_cons, List.not_mem_nil, or_false] at h
                rcases h with rfl
                · exact Or.inr ⟨by decide, "java/lang/IndexOutOfBoundsException", (hts (.classLink RL 21 "java/lang/IndexOutOfBoundsException") (by decide +kernel)), hE.2.2.2.2.2.2.2.2.1 ("java/lang/IllegalArgumentException", "java/lang/IndexOutOfBoundsException") (by decide +kernel)⟩) (by decide) (by decide) (hts (.classLink RL 13 "java/lang/IllegalArgumentException") (by decide +kernel)) (va_Nw.use rfl (hE.2.2.2.2.2.2.2.1 ("java/lang/IllegalArgumentException", "java/lang/IllegalArgumentException") (by decide +kernel))) h91 h92 h93 ?_
            refine W.eq (g2 := F0 m 21 ls [.ref q9]) rfl ?_
            refine lv_astore (lv' := [(6, .ref q9), (0, .ref hh), (1, .int x1), (2, .int x2), (3, .int (-1)), (4, .int (-1)), (5, .ref ou)]) hx hb dL_wouldChoose_21 hl (by decide) rfl (fun ls hl => ?_)
            refine lv_iconst (v := 2) hx hb dL_wouldChoose_23 (by decide) ?_
            have hP9 := hP.sub (ws' := [(ou, .inl (kL, 1, .inr (.inl fo)))]) [9] rfl
            have hD9 := hD.sub (ws' := [(ou, .inl (kL, 1, .inr (.inl fo)))]) [9] (by decide) rfl
            have hK9 := hK.sub (tys' := [(kL, .long)]) [1] rfl
            refine W.widen (k := 2) (n := 24) (Nat.le_of_ble_eq_true rfl) (Nat.le_of_ble_eq_true rfl) ?_
            refine vx_ret ?_
            exact W.iret (v := 2) hx hb hr (fun t ht hW => ⟨⟨2, (2, (fo)), rfl, ⟨rfl, by first | decide | simp [hx10, hx11, hx21], fun h => absurd h (by decide)⟩, ⟨by rw [ht]; exact hP9, va_K.moved hW.alike hK9, hD9⟩⟩, hS.F ht⟩) hS.2.2 dL_wouldChoose_24
          exact absurd hw_6 id
        · refine lv_aload hx hb dL_wouldChoose_0 (lv_at hl 5 rfl) ?_
          refine lv_iconst (v := 0) hx hb dL_wouldChoose_2 (by decide) ?_
          refine lv_aload_n hx hb dL_wouldChoose_3 rfl (lv_at hl 0 rfl) ?_
          refine lv_iload_n hx hb dL_wouldChoose_4 rfl (lv_at hl 1 rfl) ?_
          refine lv_iload_n hx hb dL_wouldChoose_5 rfl (lv_at hl 2 rfl) ?_
          refine lv_iload_n hx hb dL_wouldChoose_6 rfl (lv_at hl 3 rfl) ?_
          refine lv_iload hx hb dL_wouldChoose_7 (lv_at hl 4 rfl) ?_
          refine zx_i (wr := [(achoo, .inr (3, [.ref aroom, .ref ameth, .ref acand, .ref ahint, .int 0, .int (-1), .int 0, .int 0, .null])), (atold, .inl (kI, 60, .inl zTold)), (anod, .inr (7, [.ref nm, .ref nl, .ref n1, .ref n2, .ref nf, .ref ns, .ref nh, .ref nk, .ref np, .int 16, .int 0, .int 16, .int 0, .int 0])), (ns, .inl (kL, 1024, .inr (.inl zSec))), (nf, .inl (kL, 1024, .inr (.inl zFir))), (asort, .inr (1, [.int 0, .ref eD, .int 0])), (astep, .inr (1, [.int 0, .ref eD, .int 0])), (apair, .inr (8, [.ref apsl, .int 0, .int 0])), (apsl, .inl (kL, 512, .inr (.inl (fun _ => 0)))), (ou, .inl (kL, 1, .inr (.inl fo)))]) (vx_runV (As := [.int x1, .int x2, .int (-1), .int (-1)]) (rest := [.int 0, .ref ou]) ⟨hx, hb, hml, hown, hts⟩ (c_H_would_Dnnh l hfl eD eI ad dC dI s.heap.size hh aexpr achoo ameth aroom anod asort anote amet atold aheld apair astep asize x1 x2 (hx10) (hx11) (hx20) (hx21)) (cwV 4 hts g_c_L_wouldChoose_3 rfl rfl rfl (by decide +kernel) ⟨Nat.le_of_ble_eq_true rfl, Nat.le_of_ble_eq_true rfl⟩) (z_preVD (wc := [(hh, .inr (13, [.ref aexpr, .ref achoo, .ref ameth, .ref aroom, .ref anod, .ref asort, .ref anote, .ref amet, .int 0, .int 1])), (aroom, .inr (9, [.ref asort, .ref anod, .ref atold, .int 3, .ref aheld, .int 0, .ref apair, .ref astep, .int 0, .int 0, .int (-1), .int 0, .int 0, .ref asize]))]) hP hD hK hS hA hE [0, 2] [] rfl (by decide) rfl (ci := 13) (q0 := 0) rfl rfl hDc) rfl rfl hl.1 rfl (lv_room (Nat.le_of_ble_eq_true rfl)) dL_wouldChoose_9 ⟨Nat.le_of_ble_eq_true rfl, Nat.le_of_ble_eq_true rfl⟩) hP hD hK hS hA [0, 2] [1, 3, 4, 5, 6, 7, 8, 9, 10, 11] rfl rfl (by decide) (by decide) (fun E ce q9 H locs hbad hP hD hS h91 h92 h93 => ?_) (fun r_7 u H locs hw_8 hP hD hK hS => ?_)
          · have hbad : E = "java/lang/IllegalArgumentException" := hbad
            subst hbad
            refine vx_catch (name := "java/lang/IllegalArgumentException") hown [⟨0, 14, 17, 21⟩] ⟨0, 14, 21, 13⟩ [] (by rw [htab]; rfl) (fun z h => by
                simp only [List.mem_cons, List.not_mem_nil, or_false] at h
                rcases h with rfl
                · exact Or.inr ⟨by decide, "java/lang/IndexOutOfBoundsException", (hts (.classLink RL 21 "java/lang/IndexOutOfBoundsException") (by decide +kernel)), hE.2.2.2.2.2.2.2.2.1 ("java/lang/IllegalArgumentException", "java/lang/IndexOutOfBoundsException") (by decide +kernel)⟩) (by decide) (by decide) (hts (.classLink RL 13 "java/lang/IllegalArgumentException") (by decide +kernel)) (va_Nw.use rfl (hE.2.2.2.2.2.2.2.1 ("java/lang/IllegalArgumentException", "java/lang/IllegalArgumentException") (by decide +kernel))) h91 h92 h93 ?_
            refine W.eq (g2 := F0 m 21 ls [.ref q9]) rfl ?_
            refine lv_astore (lv' := [(6, .ref q9), (0, .ref hh), (1, .int x1), (2, .int x2), (3, .int (-1)), (4, .int (-1)), (5, .ref ou)]) hx hb dL_wouldChoose_21 hl (by decide) rfl (fun ls hl => ?_)
            refine lv_iconst (v := 2) hx hb dL_wouldChoose_23 (by decide) ?_
            have hP9 := hP.sub (ws' := [(ou, .inl (kL, 1, .inr (.inl fo)))]) [9] rfl
            have hD9 := hD.sub (ws' := [(ou, .inl (kL, 1, .inr (.inl fo)))]) [9] (by decide) rfl
            have hK9 := hK.sub (tys' := [(kL, .long)]) [1] rfl
            refine W.widen (k := 2) (n := 24) (Nat.le_of_ble_eq_true rfl) (Nat.le_of_ble_eq_true rfl) ?_
            refine vx_ret ?_
            exact W.iret (v := 2) hx hb hr (fun t ht hW => ⟨⟨2, (2, (fo)), rfl, ⟨rfl, by first | decide | simp [hx10, hx11, hx20, hx21], fun h => absurd h (by decide)⟩, ⟨by rw [ht]; exact hP9, va_K.moved hW.alike hK9, hD9⟩⟩, hS.F ht⟩) hS.2.2 dL_wouldChoose_24
          exact absurd hw_8 id
        · rcases z_ok3  (hx10) (hx11) with rfl | rfl | rfl
          · refine lv_aload hx hb dL_wouldChoose_0 (lv_at hl 5 rfl) ?_
            refine lv_iconst (v := 0) hx hb dL_wouldChoose_2 (by decide) ?_
            refine lv_aload_n hx hb dL_wouldChoose_3 rfl (lv_at hl 0 rfl) ?_
            refine lv_iload_n hx hb dL_wouldChoose_4 rfl (lv_at hl 1 rfl) ?_
            refine lv_iload_n hx hb dL_wouldChoose_5 rfl (lv_at hl 2 rfl) ?_
            refine lv_iload_n hx hb dL_wouldChoose_6 rfl (lv_at hl 3 rfl) ?_
            refine lv_iload hx hb dL_wouldChoose_7 (lv_at hl 4 rfl) ?_
            refine z_i (wr := [(ou, .inl (kL, 1, .inr (.inl fo)))]) (va_runV (As := [.int 0, .int x2, .int (-1), .int (-1)]) (rest := [.int 0, .ref ou]) ⟨hx, hb, hml, hown, hts⟩ (c_H_would_I0nn l eD eI ad dC dI s.heap.size hh aexpr achoo ameth aroom anod asort anote amet atold aheld apair astep asize nm nl n1 n2 nf ns nh nk np apsl acand ahint kI kL x2 (hx20) (hx21)) (cwV 4 hts g_c_L_wouldChoose_4 rfl rfl rfl (by decide +kernel) ⟨Nat.le_of_ble_eq_true rfl, Nat.le_of_ble_eq_true rfl⟩) (z_preV (wc := [(hh, .inr (13, [.ref aexpr, .ref achoo, .ref ameth, .ref aroom, .ref anod, .ref asort, .ref anote, .ref amet, .int 0, .int 1])), (achoo, .inr (3, [.ref aroom, .ref ameth, .ref acand, .ref ahint, .int 0, .int (-1), .int 0, .int 0, .null])), (aroom, .inr (9, [.ref asort, .ref anod, .ref atold, .int 3, .ref aheld, .int 0, .ref apair, .ref astep, .int 0, .int 0, .int (-1), .int 0, .int 0, .ref asize])), (atold, .inl (kI, 60, .inl zTold)), (anod, .inr (7, [.ref nm, .ref nl, .ref n1, .ref n2, .ref nf, .ref ns, .ref nh, .ref nk, .ref np, .int 16, .int 0, .int 16, .int 0, .int 0])), (ns, .inl (kL, 1024, .inr (.inl zSec))), (nf, .inl (kL, 1024, .inr (.inl zFir))), (asort, .inr (1, [.int 0, .ref eD, .int 0])), (astep, .inr (1, [.int 0, .ref eD, .int 0])), (apair, .inr (8, [.ref apsl, .int 0, .int 0])), (apsl, .inl (kL, 512, .inr (.inl (fun _ => 0))))]) hP hD hK hS hA hE [0, 1, 2, 3, 4, 5, 6, 7, 8, 9, 10] [0, 1] rfl (by decide) rfl (ci := 13) (q0 := 0) rfl rfl) rfl rfl hl.1 rfl (lv_room (Nat.le_of_ble_eq_true rfl)) dL_wouldChoose_9 ⟨Nat.le_of_ble_eq_true rfl, Nat.le_of_ble_eq_true rfl⟩) hP hD hK hS hA [0, 1, 2, 3, 4, 5, 6, 7, 8, 9, 10] [11] rfl rfl (by decide) (by decide) (fun r_9 u H locs hw_10 hP hD hK hS => ?_)
            obtain ⟨⟩ := u
            have hP : va_P (dC, dI) vwCl [(ou, .inl (kL, 1, .inr (.inl fo)))] H := hP
            have hD : va_D A [(ou, .inl (kL, 1, .inr (.inl fo)))] := hD
            have hK : va_K (dC, dI) vwCl [(kI, .int), (kL, .long)] s := by simpa using hK
            have hw_10 : r_9 = (-1) := hw_10
            have hw_10 := hw_10.symm
            subst hw_10
            refine lv_i2l (v := (-1)) hx hb dL_wouldChoose_12 (by decide) ?_
            refine va_last (D := (dC, dI)) hx hb hK hP hD hS 0 1 rfl rfl (by unfold vp_in; decide) dL_wouldChoose_13 (fun H locs hP hD hS => ?_)
            have hP : va_P (dC, dI) vwCl [(ou, .inl (kL, 1, .inr (.inl (vp_updL fo (0 : Int32).toNatClampNeg (-1)))))] H := hP
            have hD : va_D A [(ou, .inl (kL, 1, .inr (.inl (vp_updL fo (0 : Int32).toNatClampNeg (-1)))))] := hD
            refine lv_goto (tgt := 25) hx hb dL_wouldChoose_14 (by decide) ?_
            refine lv_iconst (v := 0) hx hb dL_wouldChoose_25 (by decide) ?_
            have hP9 := hP.sub (ws' := [(ou, .inl (kL, 1, .inr (.inl (vp_updL fo (0 : Int32).toNatClampNeg (-1)))))]) [0] rfl
            have hD9 := hD.sub (ws' := [(ou, .inl (kL, 1, .inr (.inl (vp_updL fo (0 : Int32).toNatClampNeg (-1)))))]) [0] (by decide) rfl
            have hK9 := hK.sub (tys' := [(kL, .long)]) [1] rfl
            refine W.widen (k := 2) (n := 24) (Nat.le_of_ble_eq_true rfl) (Nat.le_of_ble_eq_true rfl) ?_
            refine vx_ret ?_
            exact W.iret (v := 0) hx hb hr (fun t ht hW => ⟨⟨0, (0, (vp_updL fo (0 : Int32).toNatClampNeg (-1))), rfl, ⟨rfl, by first | decide | simp [hx10, hx11, hx20, hx21], by first | exact fun _ => rfl | exact fun _ => by simp [vp_updL, hx10, hx11, hx20, hx21]⟩, ⟨by rw [ht]; exact hP9, va_K.moved hW.alike hK9, hD9⟩⟩, hS.F ht⟩) hS.2.2 dL_wouldChoose_26
          · refine lv_aload hx hb dL_wouldChoose_0 (lv_at hl 5 rfl) ?_
            refine lv_iconst (v := 0) hx hb dL_wouldChoose_2 (by decide) ?_
            refine lv_aload_n hx hb dL_wouldChoose_3 rfl (lv_at hl 0 rfl) ?_
            refine lv_iload_n hx hb dL_wouldChoose_4 rfl (lv_at hl 1 rfl) ?_
            refine lv_iload_n hx hb dL_wouldChoose_5 rfl (lv_at hl 2 rfl) ?_
            refine lv_iload_n hx hb dL_wouldChoose_6 rfl (lv_at hl 3 rfl) ?_
            refine lv_iload hx hb dL_wouldChoose_7 (lv_at hl 4 rfl) ?_
            refine z_i (wr := [(ou, .inl (kL, 1, .inr (.inl fo)))]) (va_runV (As := [.int 1, .int x2, .int (-1), .int (-1)]) (rest := [.int 0, .ref ou]) ⟨hx, hb, hml, hown, hts⟩ (c_H_would_I1nn l eD eI ad dC dI s.heap.size hh aexpr achoo ameth aroom anod asort anote amet atold aheld apair astep asize nm nl n1 n2 nf ns nh nk np apsl acand ahint kI kL x2 (hx20) (hx21)) (cwV 4 hts g_c_L_wouldChoose_5 rfl rfl rfl (by decide +kernel) ⟨Nat.le_of_ble_eq_true rfl, Nat.le_of_ble_eq_true rfl⟩) (z_preV (wc := [(hh, .inr (13, [.ref aexpr, .ref achoo, .ref ameth, .ref aroom, .ref anod, .ref asort, .ref anote, .ref amet, .int 0, .int 1])), (achoo, .inr (3, [.ref aroom, .ref ameth, .ref acand, .ref ahint, .int 0, .int (-1), .int 0, .int 0, .null])), (aroom, .inr (9, [.ref asort, .ref anod, .ref atold, .int 3, .ref aheld, .int 0, .ref apair, .ref astep, .int 0, .int 0, .int (-1), .int 0, .int 0, .ref asize])), (atold, .inl (kI, 60, .inl zTold)), (anod, .inr (7, [.ref nm, .ref nl, .ref n1, .ref n2, .ref nf, .ref ns, .ref nh, .ref nk, .ref np, .int 16, .int 0, .int 16, .int 0, .int 0])), (ns, .inl (kL, 1024, .inr (.inl zSec))), (nf, .inl (kL, 1024, .inr (.inl zFir))), (asort, .inr (1, [.int 0, .ref eD, .int 0])), (astep, .inr (1, [.int 0, .ref eD, .int 0])), (apair, .inr (8, [.ref apsl, .int 0, .int 0])), (apsl, .inl (kL, 512, .inr (.inl (fun _ => 0))))]) hP hD hK hS hA hE [0, 1, 2, 3, 4, 5, 6, 7, 8, 9, 10] [0, 1] rfl (by decide) rfl (ci := 13) (q0 := 0) rfl rfl) rfl rfl hl.1 rfl (lv_room (Nat.le_of_ble_eq_true rfl)) dL_wouldChoose_9 ⟨Nat.le_of_ble_eq_true rfl, Nat.le_of_ble_eq_true rfl⟩) hP hD hK hS hA [0, 1, 2, 3, 4, 5, 6, 7, 8, 9, 10] [11] rfl rfl (by decide) (by decide) (fun r_11 u H locs hw_12 hP hD hK hS => ?_)
            obtain ⟨⟩ := u
            have hP : va_P (dC, dI) vwCl [(ou, .inl (kL, 1, .inr (.inl fo)))] H := hP
            have hD : va_D A [(ou, .inl (kL, 1, .inr (.inl fo)))] := hD
            have hK : va_K (dC, dI) vwCl [(kI, .int), (kL, .long)] s := by simpa using hK
            have hw_12 : r_11 = (-1) := hw_12
            have hw_12 := hw_12.symm
            subst hw_12
            refine lv_i2l (v := (-1)) hx hb dL_wouldChoose_12 (by decide) ?_
            refine va_last (D := (dC, dI)) hx hb hK hP hD hS 0 1 rfl rfl (by unfold vp_in; decide) dL_wouldChoose_13 (fun H locs hP hD hS => ?_)
            have hP : va_P (dC, dI) vwCl [(ou, .inl (kL, 1, .inr (.inl (vp_updL fo (0 : Int32).toNatClampNeg (-1)))))] H := hP
            have hD : va_D A [(ou, .inl (kL, 1, .inr (.inl (vp_updL fo (0 : Int32).toNatClampNeg (-1)))))] := hD
            refine lv_goto (tgt := 25) hx hb dL_wouldChoose_14 (by decide) ?_
            refine lv_iconst (v := 0) hx hb dL_wouldChoose_25 (by decide) ?_
            have hP9 := hP.sub (ws' := [(ou, .inl (kL, 1, .inr (.inl (vp_updL fo (0 : Int32).toNatClampNeg (-1)))))]) [0] rfl
            have hD9 := hD.sub (ws' := [(ou, .inl (kL, 1, .inr (.inl (vp_updL fo (0 : Int32).toNatClampNeg (-1)))))]) [0] (by decide) rfl
            have hK9 := hK.sub (tys' := [(kL, .long)]) [1] rfl
            refine W.widen (k := 2) (n := 24) (Nat.le_of_ble_eq_true rfl) (Nat.le_of_ble_eq_true rfl) ?_
            refine vx_ret ?_
            exact W.iret (v := 0) hx hb hr (fun t ht hW => ⟨⟨0, (0, (vp_updL fo (0 : Int32).toNatClampNeg (-1))), rfl, ⟨rfl, by first | decide | simp [hx10, hx11, hx20, hx21], by first | exact fun _ => rfl | exact fun _ => by simp [vp_updL, hx10, hx11, hx20, hx21]⟩, ⟨by rw [ht]; exact hP9, va_K.moved hW.alike hK9, hD9⟩⟩, hS.F ht⟩) hS.2.2 dL_wouldChoose_26
          · refine lv_aload hx hb dL_wouldChoose_0 (lv_at hl 5 rfl) ?_
            refine lv_iconst (v := 0) hx hb dL_wouldChoose_2 (by decide) ?_
            refine lv_aload_n hx hb dL_wouldChoose_3 rfl (lv_at hl 0 rfl) ?_
            refine lv_iload_n hx hb dL_wouldChoose_4 rfl (lv_at hl 1 rfl) ?_
            refine lv_iload_n hx hb dL_wouldChoose_5 rfl (lv_at hl 2 rfl) ?_
            refine lv_iload_n hx hb dL_wouldChoose_6 rfl (lv_at hl 3 rfl) ?_
            refine lv_iload hx hb dL_wouldChoose_7 (lv_at hl 4 rfl) ?_
            refine zx_i (wr := [(achoo, .inr (3, [.ref aroom, .ref ameth, .ref acand, .ref ahint, .int 0, .int (-1), .int 0, .int 0, .null])), (asort, .inr (1, [.int 0, .ref eD, .int 0])), (astep, .inr (1, [.int 0, .ref eD, .int 0])), (apair, .inr (8, [.ref apsl, .int 0, .int 0])), (apsl, .inl (kL, 512, .inr (.inl (fun _ => 0)))), (ou, .inl (kL, 1, .inr (.inl fo)))]) (vx_runV (As := [.int 2, .int x2, .int (-1), .int (-1)]) (rest := [.int 0, .ref ou]) ⟨hx, hb, hml, hown, hts⟩ (c_H_would_Fnn l hfl eD eI ad dC dI s.heap.size hh aexpr achoo ameth aroom anod asort anote amet atold aheld apair astep asize nm nl n1 n2 nf ns nh nk np kI kL x2 (hx20) (hx21)) (cwV 4 hts g_c_L_wouldChoose_6 rfl rfl rfl (by decide +kernel) ⟨Nat.le_of_ble_eq_true rfl, Nat.le_of_ble_eq_true rfl⟩) (z_preVD (wc := [(hh, .inr (13, [.ref aexpr, .ref achoo, .ref ameth, .ref aroom, .ref anod, .ref asort, .ref anote, .ref amet, .int 0, .int 1])), (aroom, .inr (9, [.ref asort, .ref anod, .ref atold, .int 3, .ref aheld, .int 0, .ref apair, .ref astep, .int 0, .int 0, .int (-1), .int 0, .int 0, .ref asize])), (atold, .inl (kI, 60, .inl zTold)), (anod, .inr (7, [.ref nm, .ref nl, .ref n1, .ref n2, .ref nf, .ref ns, .ref nh, .ref nk, .ref np, .int 16, .int 0, .int 16, .int 0, .int 0])), (ns, .inl (kL, 1024, .inr (.inl zSec))), (nf, .inl (kL, 1024, .inr (.inl zFir)))]) hP hD hK hS hA hE [0, 2, 3, 4, 5, 6] [0, 1] rfl (by decide) rfl (ci := 13) (q0 := 0) rfl rfl hDc) rfl rfl hl.1 rfl (lv_room (Nat.le_of_ble_eq_true rfl)) dL_wouldChoose_9 ⟨Nat.le_of_ble_eq_true rfl, Nat.le_of_ble_eq_true rfl⟩) hP hD hK hS hA [0, 2, 3, 4, 5, 6] [1, 7, 8, 9, 10, 11] rfl rfl (by decide) (by decide) (fun E ce q9 H locs hbad hP hD hS h91 h92 h93 => ?_) (fun r_13 u H locs hw_14 hP hD hK hS => ?_)
            · have hbad : E = "java/lang/IllegalArgumentException" := hbad
              subst hbad
              refine vx_catch (name := "java/lang/IllegalArgumentException") hown [⟨0, 14, 17, 21⟩] ⟨0, 14, 21, 13⟩ [] (by rw [htab]; rfl) (fun z h => by
                  simp only [List.mem_cons, List.not_mem_nil, or_false] at h
                  rcases h with rfl
                  · exact Or.inr ⟨by decide, "java/lang/IndexOutOfBoundsException", (hts (.classLink RL 21 "java/lang/IndexOutOfBoundsException") (by decide +kernel)), hE.2.2.2.2.2.2.2.2.1 ("java/lang/IllegalArgumentException", "java/lang/IndexOutOfBoundsException") (by decide +kernel)⟩) (by decide) (by decide) (hts (.classLink RL 13 "java/lang/IllegalArgumentException") (by decide +kernel)) (va_Nw.use rfl (hE.2.2.2.2.2.2.2.1 ("java/lang/IllegalArgumentException", "java/lang/IllegalArgumentException") (by decide +kernel))) h91 h92 h93 ?_
              refine W.eq (g2 := F0 m 21 ls [.ref q9]) rfl ?_
              refine lv_astore (lv' := [(6, .ref q9), (0, .ref hh), (1, .int 2), (2, .int x2), (3, .int (-1)), (4, .int (-1)), (5, .ref ou)]) hx hb dL_wouldChoose_21 hl (by decide) rfl (fun ls hl => ?_)
              refine lv_iconst (v := 2) hx hb dL_wouldChoose_23 (by decide) ?_
              have hP9 := hP.sub (ws' := [(ou, .inl (kL, 1, .inr (.inl fo)))]) [5] rfl
              have hD9 := hD.sub (ws' := [(ou, .inl (kL, 1, .inr (.inl fo)))]) [5] (by decide) rfl
              have hK9 := hK.sub (tys' := [(kL, .long)]) [1] rfl
              refine W.widen (k := 2) (n := 24) (Nat.le_of_ble_eq_true rfl) (Nat.le_of_ble_eq_true rfl) ?_
              refine vx_ret ?_
              exact W.iret (v := 2) hx hb hr (fun t ht hW => ⟨⟨2, (2, (fo)), rfl, ⟨rfl, by first | decide | simp [hx10, hx11, hx20, hx21], fun h => absurd h (by decide)⟩, ⟨by rw [ht]; exact hP9, va_K.moved hW.alike hK9, hD9⟩⟩, hS.F ht⟩) hS.2.2 dL_wouldChoose_24
            exact absurd hw_14 id
      · refine lv_aload hx hb dL_wouldChoose_0 (lv_at hl 5 rfl) ?_
        refine lv_iconst (v := 0) hx hb dL_wouldChoose_2 (by decide) ?_
        refine lv_aload_n hx hb dL_wouldChoose_3 rfl (lv_at hl 0 rfl) ?_
        refine lv_iload_n hx hb dL_wouldChoose_4 rfl (lv_at hl 1 rfl) ?_
        refine lv_iload_n hx hb dL_wouldChoose_5 rfl (lv_at hl 2 rfl) ?_
        refine lv_iload_n hx hb dL_wouldChoose_6 rfl (lv_at hl 3 rfl) ?_
        refine lv_iload hx hb dL_wouldChoose_7 (lv_at hl 4 rfl) ?_
        refine zx_i (wr := [(achoo, .inr (3, [.ref aroom, .ref ameth, .ref acand, .ref ahint, .int 0, .int (-1), .int 0, .int 0, .null])), (atold, .inl (kI, 60, .inl zTold)), (anod, .inr (7, [.ref nm, .ref nl, .ref n1, .ref n2, .ref nf, .ref ns, .ref nh, .ref nk, .ref np, .int 16, .int 0, .int 16, .int 0, .int 0])), (ns, .inl (kL, 1024, .inr (.inl zSec))), (nf, .inl (kL, 1024, .inr (.inl zFir))), (asort, .inr (1, [.int 0, .ref eD, .int 0])), (astep, .inr (1, [.int 0, .ref eD, .int 0])), (apair, .inr (8, [.ref apsl, .int 0, .int 0])), (apsl, .inl (kL, 512, .inr (.inl (fun _ => 0)))), (ou, .inl (kL, 1, .inr (.inl fo)))]) (vx_runV (As := [.int x1, .int x2, .int (-1), .int x4]) (rest := [.int 0, .ref ou]) ⟨hx, hb, hml, hown, hts⟩ (c_H_would_Cnl l hfl eD eI ad dC dI s.heap.size hh aexpr achoo ameth aroom anod asort anote amet atold aheld apair astep asize x1 x2 x4 (hx10) (hx11) (hx49) (hx41)) (cwV 4 hts g_c_L_wouldChoose_7 rfl rfl rfl (by decide +kernel) ⟨Nat.le_of_ble_eq_true rfl, Nat.le_of_ble_eq_true rfl⟩) (z_preVD (wc := [(hh, .inr (13, [.ref aexpr, .ref achoo, .ref ameth, .ref aroom, .ref anod, .ref asort, .ref anote, .ref amet, .int 0, .int 1])), (aroom, .inr (9, [.ref asort, .ref anod, .ref atold, .int 3, .ref aheld, .int 0, .ref apair, .ref astep, .int 0, .int 0, .int (-1), .int 0, .int 0, .ref asize]))]) hP hD hK hS hA hE [0, 2] [] rfl (by decide) rfl (ci := 13) (q0 := 0) rfl rfl hDc) rfl rfl hl.1 rfl (lv_room (Nat.le_of_ble_eq_true rfl)) dL_wouldChoose_9 ⟨Nat.le_of_ble_eq_true rfl, Nat.le_of_ble_eq_true rfl⟩) hP hD hK hS hA [0, 2] [1, 3, 4, 5, 6, 7, 8, 9, 10, 11] rfl rfl (by decide) (by decide) (fun E ce q9 H locs hbad hP hD hS h91 h92 h93 => ?_) (fun r_15 u H locs hw_16 hP hD hK hS => ?_)
        · have hbad : E = "java/lang/IndexOutOfBoundsException" := hbad
          subst hbad
          refine vx_catch (name := "java/lang/IndexOutOfBoundsException") hown [] ⟨0, 14, 17, 21⟩ [⟨0, 14, 21, 13⟩] (by rw [htab]; rfl) (fun z h => by simp at h) (by decide) (by decide) (hts (.classLink RL 21 "java/lang/IndexOutOfBoundsException") (by decide +kernel)) (va_Nw.use rfl (hE.2.2.2.2.2.2.2.1 ("java/lang/IndexOutOfBoundsException", "java/lang/IndexOutOfBoundsException") (by decide +kernel))) h91 h92 h93 ?_
          refine W.eq (g2 := F0 m 17 ls [.ref q9]) rfl ?_
          refine lv_astore (lv' := [(6, .ref q9), (0, .ref hh), (1, .int x1), (2, .int x2), (3, .int (-1)), (4, .int x4), (5, .ref ou)]) hx hb dL_wouldChoose_17 hl (by decide) rfl (fun ls hl => ?_)
          refine lv_iconst (v := 1) hx hb dL_wouldChoose_19 (by decide) ?_
          have hP9 := hP.sub (ws' := [(ou, .inl (kL, 1, .inr (.inl fo)))]) [9] rfl
          have hD9 := hD.sub (ws' := [(ou, .inl (kL, 1, .inr (.inl fo)))]) [9] (by decide) rfl
          have hK9 := hK.sub (tys' := [(kL, .long)]) [1] rfl
          refine W.widen (k := 2) (n := 24) (Nat.le_of_ble_eq_true rfl) (Nat.le_of_ble_eq_true rfl) ?_
          refine vx_ret ?_
          exact W.iret (v := 1) hx hb hr (fun t ht hW => ⟨⟨1, (1, (fo)), rfl, ⟨rfl, by first | decide | simp [hx10, hx11, hx49, hx41], fun h => absurd h (by decide)⟩, ⟨by rw [ht]; exact hP9, va_K.moved hW.alike hK9, hD9⟩⟩, hS.F ht⟩) hS.2.2 dL_wouldChoose_20
        exact absurd hw_16 id
      · refine lv_aload hx hb dL_wouldChoose_0 (lv_at hl 5 rfl) ?_
        refine lv_iconst (v := 0) hx hb dL_wouldChoose_2 (by decide) ?_
        refine lv_aload_n hx hb dL_wouldChoose_3 rfl (lv_at hl 0 rfl) ?_
        refine lv_iload_n hx hb dL_wouldChoose_4 rfl (lv_at hl 1 rfl) ?_
        refine lv_iload_n hx hb dL_wouldChoose_5 rfl (lv_at hl 2 rfl) ?_
        refine lv_iload_n hx hb dL_wouldChoose_6 rfl (lv_at hl 3 rfl) ?_
        refine lv_iload hx hb dL_wouldChoose_7 (lv_at hl 4 rfl) ?_
        refine zx_i (wr := [(achoo, .inr (3, [.ref aroom, .ref ameth, .ref acand, .ref ahint, .int 0, .int (-1), .int 0, .int 0, .null])), (atold, .inl (kI, 60, .inl zTold)), (anod, .inr (7, [.ref nm, .ref nl, .ref n1, .ref n2, .ref nf, .ref ns, .ref nh, .ref nk, .ref np, .int 16, .int 0, .int 16, .int 0, .int 0])), (ns, .inl (kL, 1024, .inr (.inl zSec))), (nf, .inl (kL, 1024, .inr (.inl zFir))), (asort, .inr (1, [.int 0, .ref eD, .int 0])), (astep, .inr (1, [.int 0, .ref eD, .int 0])), (apair, .inr (8, [.ref apsl, .int 0, .int 0])), (apsl, .inl (kL, 512, .inr (.inl (fun _ => 0)))), (ou, .inl (kL, 1, .inr (.inl fo)))]) (vx_runV (As := [.int x1, .int x2, .int (-1), .int x4]) (rest := [.int 0, .ref ou]) ⟨hx, hb, hml, hown, hts⟩ (c_H_would_Cnh l hfl eD eI ad dC dI s.heap.size hh aexpr achoo ameth aroom anod asort anote amet atold aheld apair astep asize x1 x2 x4 (hx10) (hx11) (hx49) (hx40) (hx41)) (cwV 4 hts g_c_L_wouldChoose_8 rfl rfl rfl (by decide +kernel) ⟨Nat.le_of_ble_eq_true rfl, Nat.le_of_ble_eq_true rfl⟩) (z_preVD (wc := [(hh, .inr (13, [.ref aexpr, .ref achoo, .ref ameth, .ref aroom, .ref anod, .ref asort, .ref anote, .ref amet, .int 0, .int 1])), (aroom, .inr (9, [.ref asort, .ref anod, .ref atold, .int 3, .ref aheld, .int 0, .ref apair, .ref astep, .int 0, .int 0, .int (-1), .int 0, .int 0, .ref asize]))]) hP hD hK hS hA hE [0, 2] [] rfl (by decide) rfl (ci := 13) (q0 := 0) rfl rfl hDc) rfl rfl hl.1 rfl (lv_room (Nat.le_of_ble_eq_true rfl)) dL_wouldChoose_9 ⟨Nat.le_of_ble_eq_true rfl, Nat.le_of_ble_eq_true rfl⟩) hP hD hK hS hA [0, 2] [1, 3, 4, 5, 6, 7, 8, 9, 10, 11] rfl rfl (by decide) (by decide) (fun E ce q9 H locs hbad hP hD hS h91 h92 h93 => ?_) (fun r_17 u H locs hw_18 hP hD hK hS => ?_)
        · have hbad : E = "java/lang/IndexOutOfBoundsException" := hbad
          subst hbad
          refine vx_catch (name := "java/lang/IndexOutOfBoundsException") hown [] ⟨0, 14, 17, 21⟩ [⟨0, 14, 21, 13⟩] (by rw [htab]; rfl) (fun z h => by simp at h) (by decide) (by decide) (hts (.classLink RL 21 "java/lang/IndexOutOfBoundsException") (by decide +kernel)) (va_Nw.use rfl (hE.2.2.2.2.2.2.2.1 ("java/lang/IndexOutOfBoundsException", "java/lang/IndexOutOfBoundsException") (by decide +kernel))) h91 h92 h93 ?_
          refine W.eq (g2 := F0 m 17 ls [.ref q9]) rfl ?_
          refine lv_astore (lv' := [(6, .ref q9), (0, .ref hh), (1, .int x1), (2, .int x2), (3, .int (-1)), (4, .int x4), (5, .ref ou)]) hx hb dL_wouldChoose_17 hl (by decide) rfl (fun ls hl => ?_)
          refine lv_iconst (v := 1) hx hb dL_wouldChoose_19 (by decide) ?_
          have hP9 := hP.sub (ws' := [(ou, .inl (kL, 1, .inr (.inl fo)))]) [9] rfl
          have hD9 := hD.sub (ws' := [(ou, .inl (kL, 1, .inr (.inl fo)))]) [9] (by decide) rfl
          have hK9 := hK.sub (tys' := [(kL, .long)]) [1] rfl
          refine W.widen (k := 2) (n := 24) (Nat.le_of_ble_eq_true rfl) (Nat.le_of_ble_eq_true rfl) ?_
          refine vx_ret ?_
          exact W.iret (v := 1) hx hb hr (fun t ht hW => ⟨⟨1, (1, (fo)), rfl, ⟨rfl, by first | decide | simp [hx10, hx11, hx49, hx40, hx41], fun h => absurd h (by decide)⟩, ⟨by rw [ht]; exact hP9, va_K.moved hW.alike hK9, hD9⟩⟩, hS.F ht⟩) hS.2.2 dL_wouldChoose_20
        exact absurd hw_18 id
      · rcases z_splitM x2 with hx21 | ⟨hx20, hx21⟩ | ⟨hx20, hx21⟩
        · refine lv_aload hx hb dL_wouldChoose_0 (lv_at hl 5 rfl) ?_
          refine lv_iconst (v := 0) hx hb dL_wouldChoose_2 (by decide) ?_
          refine lv_aload_n hx hb dL_wouldChoose_3 rfl (lv_at hl 0 rfl) ?_
          refine lv_iload_n hx hb dL_wouldChoose_4 rfl (lv_at hl 1 rfl) ?_
          refine lv_iload_n hx hb dL_wouldChoose_5 rfl (lv_at hl 2 rfl) ?_
          refine lv_iload_n hx hb dL_wouldChoose_6 rfl (lv_at hl 3 rfl) ?_
          refine lv_iload hx hb dL_wouldChoose_7 (lv_at hl 4 rfl) ?_
          refine zx_i (wr := [(achoo, .inr (3, [.ref aroom, .ref ameth, .ref acand, .ref ahint, .int 0, .int (-1), .int 0, .int 0, .null])), (atold, .inl (kI, 60, .inl zTold)), (anod, .inr (7, [.ref nm, .ref nl, .ref n1, .ref n2, .ref nf, .ref ns, .ref nh, .ref nk, .ref np, .int 16, .int 0, .int 16, .int 0, .int 0])), (ns, .inl (kL, 1024, .inr (.inl zSec))), (nf, .inl (kL, 1024, .inr (.inl zFir))), (asort, .inr (1, [.int 0, .ref eD, .int 0])), (astep, .inr (1, [.int 0, .ref eD, .int 0])), (apair, .inr (8, [.ref apsl, .int 0, .int 0])), (apsl, .inl (kL, 512, .inr (.inl (fun _ => 0)))), (ou, .inl (kL, 1, .inr (.inl fo)))]) (vx_runV (As := [.int x1, .int x2, .int (-1), .int x4]) (rest := [.int 0, .ref ou]) ⟨hx, hb, hml, hown, hts⟩ (c_H_would_Dnkl l hfl eD eI ad dC dI s.heap.size hh aexpr achoo ameth aroom anod asort anote amet atold aheld apair astep asize x1 x2 x4 (hx10) (hx11) (hx49) (hx40) (hx41) (hx21)) (cwV 4 hts g_c_L_wouldChoose_9 rfl rfl rfl (by decide +kernel) ⟨Nat.le_of_ble_eq_true rfl, Nat.le_of_ble_eq_true rfl⟩) (z_preVD (wc := [(hh, .inr (13, [.ref aexpr, .ref achoo, .ref ameth, .ref aroom, .ref anod, .ref asort, .ref anote, .ref amet, .int 0, .int 1])), (aroom, .inr (9, [.ref asort, .ref anod, .ref atold, .int 3, .ref aheld, .int 0, .ref apair, .ref astep, .int 0, .int 0, .int (-1), .int 0, .int 0, .ref asize]))]) hP hD hK hS hA hE [0, 2] [] rfl (by decide) rfl (ci := 13) (q0 := 0) rfl rfl hDc) rfl rfl hl.1 rfl (lv_room (Nat.le_of_ble_eq_true rfl)) dL_wouldChoose_9 ⟨Nat.le_of_ble_eq_true rfl, Nat.le_of_ble_eq_true rfl⟩) hP hD hK hS hA [0, 2] [1, 3, 4, 5, 6, 7, 8, 9, 10, 11] rfl rfl (by decide) (by decide) (fun E ce q9 H locs hbad hP hD hS h91 h92 h93 => ?_) (fun r_19 u H locs hw_20 hP hD hK hS => ?_)
          · have hbad : E = "java/lang/IllegalArgumentException" := hbad
            subst hbad
            refine vx_catch (name := "java/lang/IllegalArgumentException") hown [⟨0, 14, 17, 21⟩] ⟨0, 14, 21, 13⟩ [] (by rw [htab]; rfl) (fun z h => by
                simp only [List.mem_cons, List.not_mem_nil, or_false] at h
                rcases h with rfl
                · exact Or.inr ⟨by decide, "java/lang/IndexOutOfBoundsException", (hts (.classLink RL 21 "java/lang/IndexOutOfBoundsException") (by decide +kernel)), hE.2.2.2.2.2.2.2.2.1 ("java/lang/IllegalArgumentException", "java/lang/IndexOutOfBoundsException") (by decide +kernel)⟩) (by decide) (by decide) (hts (.classLink RL 13 "java/lang/IllegalArgumentException") (by decide +kernel)) (va_Nw.use rfl (hE.2.2.2.2.2.2.2.1 ("java/lang/IllegalArgumentException", "java/lang/IllegalArgumentException") (by decide +kernel))) h91 h92 h93 ?_
            refine W.eq (g2 := F0 m 21 ls [.ref q9]) rfl ?_
            refine lv_astore (lv' := [(6, .ref q9), (0, .ref hh), (1, .int x1), (2, .int x2), (3, .int (-1)), (4, .int x4), (5, .ref ou)]) hx hb dL_wouldChoose_21 hl (by decide) rfl (fun ls hl => ?_)
            refine lv_iconst (v := 2) hx hb dL_wouldChoose_23 (by decide) ?_
            have hP9 := hP.sub (ws' := [(ou, .inl (kL, 1, .inr (.inl fo)))]) [9] rfl
            have hD9 := hD.sub (ws' := [(ou, .inl (kL, 1, .inr (.inl fo)))]) [9] (by decide) rfl
            have hK9 := hK.sub (tys' := [(kL, .long)]) [1] rfl
            refine W.widen (k := 2) (n := 24) (Nat.le_of_ble_eq_true rfl) (Nat.le_of_ble_eq_true rfl) ?_
            refine vx_ret ?_
            exact W.iret (v := 2) hx hb hr (fun t ht hW => ⟨⟨2, (2, (fo)), rfl, ⟨rfl, by first | decide | simp [hx10, hx11, hx49, hx40, hx41, hx21], fun h => absurd h (by decide)⟩, ⟨by rw [ht]; exact hP9, va_K.moved hW.alike hK9, hD9⟩⟩, hS.F ht⟩) hS.2.2 dL_wouldChoose_24
          exact absurd hw_20 id
        · refine lv_aload hx hb dL_wouldChoose_0 (lv_at hl 5 rfl) ?_
          refine lv_iconst (v := 0) hx hb dL_wouldChoose_2 (by decide) ?_
          refine lv_aload_n hx hb dL_wouldChoose_3 rfl (lv_at hl 0 rfl) ?_
          refine lv_iload_n hx hb dL_wouldChoose_4 rfl (lv_at hl 1 rfl) ?_
          refine lv_iload_n hx hb dL_wouldChoose_5 rfl (lv_at hl 2 rfl) ?_
          refine lv_iload_n hx hb dL_wouldChoose_6 rfl (lv_at hl 3 rfl) ?_
          refine lv_iload hx hb dL_wouldChoose_7 (lv_at hl 4 rfl) ?_
          refine zx_i (wr := [(achoo, .inr (3, [.ref aroom, .ref ameth, .ref acand, .ref ahint, .int 0, .int (-1), .int 0, .int 0, .null])), (atold, .inl (kI, 60, .inl zTold)), (anod, .inr (7, [.ref nm, .ref nl, .ref n1, .ref n2, .ref nf, .ref ns, .ref nh, .ref nk, .ref np, .int 16, .int 0, .int 16, .int 0, .int 0])), (ns, .inl (kL, 1024, .inr (.inl zSec))), (nf, .inl (kL, 1024, .inr (.inl zFir))), (asort, .inr (1, [.int 0, .ref eD, .int 0])), (astep, .inr (1, [.int 0, .ref eD, .int 0])), (apair, .inr (8, [.ref apsl, .int 0, .int 0])), (apsl, .inl (kL, 512, .inr (.inl (fun _ => 0)))), (ou, .inl (kL, 1, .inr (.inl fo)))]) (vx_runV (As := [.int x1, .int x2, .int (-1), .int x4]) (rest := [.int 0, .ref ou]) ⟨hx, hb, hml, hown, hts⟩ (c_H_would_Dnkh l hfl eD eI ad dC dI s.heap.size hh aexpr achoo ameth aroom anod asort anote amet atold aheld apair astep asize x1 x2 x4 (hx10) (hx11) (hx49) (hx40) (hx41) (hx20) (hx21)) (cwV 4 hts g_c_L_wouldChoose_10 rfl rfl rfl (by decide +kernel) ⟨Nat.le_of_ble_eq_true rfl, Nat.le_of_ble_eq_true rfl⟩) (z_preVD (wc := [(hh, .inr (13, [.ref aexpr, .ref achoo, .ref ameth, .ref aroom, .ref anod, .ref asort, .ref anote, .ref amet, .int 0, .int 1])), (aroom, .inr (9, [.ref asort, .ref anod, .ref atold, .int 3, .ref aheld, .int 0, .ref apair, .ref astep, .int 0, .int 0, .int (-1), .int 0, .int 0, .ref asize]))]) hP hD hK hS hA hE [0, 2] [] rfl (by decide) rfl (ci := 13) (q0 := 0) rfl rfl hDc) rfl rfl hl.1 rfl (lv_room (Nat.le_of_ble_eq_true rfl)) dL_wouldChoose_9 ⟨Nat.le_of_ble_eq_true rfl, Nat.le_of_ble_eq_true rfl⟩) hP hD hK hS hA [0, 2] [1, 3, 4, 5, 6, 7, 8, 9, 10, 11] rfl rfl (by decide) (by decide) (fun E ce q9 H locs hbad hP hD hS h91 h92 h93 => ?_) (fun r_21 u H locs hw_22 hP hD hK hS => ?_)
          · have hbad : E = "java/lang/IllegalArgumentException" := hbad
            subst hbad
            refine vx_catch (name := "java/lang/IllegalArgumentException") hown [⟨0, 14, 17, 21⟩] ⟨0, 14, 21, 13⟩ [] (by rw [htab]; rfl) (fun z h => by
                simp only [List.mem_cons, List.not_mem_nil, or_false] at h
                rcases h with rfl
                · exact Or.inr ⟨by decide, "java/lang/IndexOutOfBoundsException", (hts (.classLink RL 21 "java/lang/IndexOutOfBoundsException") (by decide +kernel)), hE.2.2.2.2.2.2.2.2.1 ("java/lang/IllegalArgumentException", "java/lang/IndexOutOfBoundsException") (by decide +kernel)⟩) (by decide) (by decide) (hts (.classLink RL 13 "java/lang/IllegalArgumentException") (by decide +kernel)) (va_Nw.use rfl (hE.2.2.2.2.2.2.2.1 ("java/lang/IllegalArgumentException", "java/lang/IllegalArgumentException") (by decide +kernel))) h91 h92 h93 ?_
            refine W.eq (g2 := F0 m 21 ls [.ref q9]) rfl ?_
            refine lv_astore (lv' := [(6, .ref q9), (0, .ref hh), (1, .int x1), (2, .int x2), (3, .int (-1)), (4, .int x4), (5, .ref ou)]) hx hb dL_wouldChoose_21 hl (by decide) rfl (fun ls hl => ?_)
            refine lv_iconst (v := 2) hx hb dL_wouldChoose_23 (by decide) ?_
            have hP9 := hP.sub (ws' := [(ou, .inl (kL, 1, .inr (.inl fo)))]) [9] rfl
            have hD9 := hD.sub (ws' := [(ou, .inl (kL, 1, .inr (.inl fo)))]) [9] (by decide) rfl
            have hK9 := hK.sub (tys' := [(kL, .long)]) [1] rfl
            refine W.widen (k := 2) (n := 24) (Nat.le_of_ble_eq_true rfl) (Nat.le_of_ble_eq_true rfl) ?_
            refine vx_ret ?_
            exact W.iret (v := 2) hx hb hr (fun t ht hW => ⟨⟨2, (2, (fo)), rfl, ⟨rfl, by first | decide | simp [hx10, hx11, hx49, hx40, hx41, hx20, hx21], fun h => absurd h (by decide)⟩, ⟨by rw [ht]; exact hP9, va_K.moved hW.alike hK9, hD9⟩⟩, hS.F ht⟩) hS.2.2 dL_wouldChoose_24
          exact absurd hw_22 id
        · refine lv_aload hx hb dL_wouldChoose_0 (lv_at hl 5 rfl) ?_
          refine lv_iconst (v := 0) hx hb dL_wouldChoose_2 (by decide) ?_
          refine lv_aload_n hx hb dL_wouldChoose_3 rfl (lv_at hl 0 rfl) ?_
          refine lv_iload_n hx hb dL_wouldChoose_4 rfl (lv_at hl 1 rfl) ?_
          refine lv_iload_n hx hb dL_wouldChoose_5 rfl (lv_at hl 2 rfl) ?_
          refine lv_iload_n hx hb dL_wouldChoose_6 rfl (lv_at hl 3 rfl) ?_
          refine lv_iload hx hb dL_wouldChoose_7 (lv_at hl 4 rfl) ?_
          refine zx_i (wr := [(achoo, .inr (3, [.ref aroom, .ref ameth, .ref acand, .ref ahint, .int 0, .int (-1), .int 0, .int 0, .null])), (atold, .inl (kI, 60, .inl zTold)), (anod, .inr (7, [.ref nm, .ref nl, .ref n1, .ref n2, .ref nf, .ref ns, .ref nh, .ref nk, .ref np, .int 16, .int 0, .int 16, .int 0, .int 0])), (ns, .inl (kL, 1024, .inr (.inl zSec))), (nf, .inl (kL, 1024, .inr (.inl zFir))), (asort, .inr (1, [.int 0, .ref eD, .int 0])), (astep, .inr (1, [.int 0, .ref eD, .int 0])), (apair, .inr (8, [.ref apsl, .int 0, .int 0])), (apsl, .inl (kL, 512, .inr (.inl (fun _ => 0)))), (ou, .inl (kL, 1, .inr (.inl fo)))]) (vx_runV (As := [.int x1, .int x2, .int (-1), .int x4]) (rest := [.int 0, .ref ou]) ⟨hx, hb, hml, hown, hts⟩ (c_H_would_E l hfl eD eI ad dC dI s.heap.size hh aexpr achoo ameth aroom anod asort anote amet atold aheld apair astep asize x1 x2 x4 (hx10) (hx11) (hx49) (hx40) (hx41) (hx20) (hx21)) (cwV 4 hts g_c_L_wouldChoose_11 rfl rfl rfl (by decide +kernel) ⟨Nat.le_of_ble_eq_true rfl, Nat.le_of_ble_eq_true rfl⟩) (z_preVD (wc := [(hh, .inr (13, [.ref aexpr, .ref achoo, .ref ameth, .ref aroom, .ref anod, .ref asort, .ref anote, .ref amet, .int 0, .int 1])), (aroom, .inr (9, [.ref asort, .ref anod, .ref atold, .int 3, .ref aheld, .int 0, .ref apair, .ref astep, .int 0, .int 0, .int (-1), .int 0, .int 0, .ref asize]))]) hP hD hK hS hA hE [0, 2] [] rfl (by decide) rfl (ci := 13) (q0 := 0) rfl rfl hDc) rfl rfl hl.1 rfl (lv_room (Nat.le_of_ble_eq_true rfl)) dL_wouldChoose_9 ⟨Nat.le_of_ble_eq_true rfl, Nat.le_of_ble_eq_true rfl⟩) hP hD hK hS hA [0, 2] [1, 3, 4, 5, 6, 7, 8, 9, 10, 11] rfl rfl (by decide) (by decide) (fun E ce q9 H locs hbad hP hD hS h91 h92 h93 => ?_) (fun r_23 u H locs hw_24 hP hD hK hS => ?_)
          · have hbad : E = "java/lang/IllegalArgumentException" := hbad
            subst hbad
            refine vx_catch (name := "java/lang/IllegalArgumentException") hown [⟨0, 14, 17, 21⟩] ⟨0, 14, 21, 13⟩ [] (by rw [htab]; rfl) (fun z h => by
                simp only [List.mem_cons, List.not_mem_nil, or_false] at h
                rcases h with rfl
                · exact Or.inr ⟨by decide, "java/lang/IndexOutOfBoundsException", (hts (.classLink RL 21 "java/lang/IndexOutOfBoundsException") (by decide +kernel)), hE.2.2.2.2.2.2.2.2.1 ("java/lang/IllegalArgumentException", "java/lang/IndexOutOfBoundsException") (by decide +kernel)⟩) (by decide) (by decide) (hts (.classLink RL 13 "java/lang/IllegalArgumentException") (by decide +kernel)) (va_Nw.use rfl (hE.2.2.2.2.2.2.2.1 ("java/lang/IllegalArgumentException", "java/lang/IllegalArgumentException") (by decide +kernel))) h91 h92 h93 ?_
            refine W.eq (g2 := F0 m 21 ls [.ref q9]) rfl ?_
            refine lv_astore (lv' := [(6, .ref q9), (0, .ref hh), (1, .int x1), (2, .int x2), (3, .int (-1)), (4, .int x4), (5, .ref ou)]) hx hb dL_wouldChoose_21 hl (by decide) rfl (fun ls hl => ?_)
            refine lv_iconst (v := 2) hx hb dL_wouldChoose_23 (by decide) ?_
            have hP9 := hP.sub (ws' := [(ou, .inl (kL, 1, .inr (.inl fo)))]) [9] rfl
            have hD9 := hD.sub (ws' := [(ou, .inl (kL, 1, .inr (.inl fo)))]) [9] (by decide) rfl
            have hK9 := hK.sub (tys' := [(kL, .long)]) [1] rfl
            refine W.widen (k := 2) (n := 24) (Nat.le_of_ble_eq_true rfl) (Nat.le_of_ble_eq_true rfl) ?_
            refine vx_ret ?_
            exact W.iret (v := 2) hx hb hr (fun t ht hW => ⟨⟨2, (2, (fo)), rfl, ⟨rfl, by first | decide | simp [hx10, hx11, hx49, hx40, hx41, hx20, hx21], fun h => absurd h (by decide)⟩, ⟨by rw [ht]; exact hP9, va_K.moved hW.alike hK9, hD9⟩⟩, hS.F ht⟩) hS.2.2 dL_wouldChoose_24
          exact absurd hw_24 id
    · refine lv_aload hx hb dL_wouldChoose_0 (lv_at hl 5 rfl) ?_
      refine lv_iconst (v := 0) hx hb dL_wouldChoose_2 (by decide) ?_
      refine lv_aload_n hx hb dL_wouldChoose_3 rfl (lv_at hl 0 rfl) ?_
      refine lv_iload_n hx hb dL_wouldChoose_4 rfl (lv_at hl 1 rfl) ?_
      refine lv_iload_n hx hb dL_wouldChoose_5 rfl (lv_at hl 2 rfl) ?_
      refine lv_iload_n hx hb dL_wouldChoose_6 rfl (lv_at hl 3 rfl) ?_
      refine lv_iload hx hb dL_wouldChoose_7 (lv_at hl 4 rfl) ?_
      refine zx_i (wr := [(achoo, .inr (3, [.ref aroom, .ref ameth, .ref acand, .ref ahint, .int 0, .int (-1), .int 0, .int 0, .null])), (atold, .inl (kI, 60, .inl zTold)), (anod, .inr (7, [.ref nm, .ref nl, .ref n1, .ref n2, .ref nf, .ref ns, .ref nh, .ref nk, .ref np, .int 16, .int 0, .int 16, .int 0, .int 0])), (ns, .inl (kL, 1024, .inr (.inl zSec))), (nf, .inl (kL, 1024, .inr (.inl zFir))), (asort, .inr (1, [.int 0, .ref eD, .int 0])), (astep, .inr (1, [.int 0, .ref eD, .int 0])), (apair, .inr (8, [.ref apsl, .int 0, .int 0])), (apsl, .inl (kL, 512, .inr (.inl (fun _ => 0)))), (ou, .inl (kL, 1, .inr (.inl fo)))]) (vx_runV (As := [.int x1, .int x2, .int x3, .int x4]) (rest := [.int 0, .ref ou]) ⟨hx, hb, hml, hown, hts⟩ (c_H_would_Bl l hfl eD eI ad dC dI s.heap.size hh aexpr achoo ameth aroom anod asort anote amet atold aheld apair astep asize x1 x2 x3 x4 (hx10) (hx11) (hx39) (hx31)) (cwV 4 hts g_c_L_wouldChoose_12 rfl rfl rfl (by decide +kernel) ⟨Nat.le_of_ble_eq_true rfl, Nat.le_of_ble_eq_true rfl⟩) (z_preVD (wc := [(hh, .inr (13, [.ref aexpr, .ref achoo, .ref ameth, .ref aroom, .ref anod, .ref asort, .ref anote, .ref amet, .int 0, .int 1])), (aroom, .inr (9, [.ref asort, .ref anod, .ref atold, .int 3, .ref aheld, .int 0, .ref apair, .ref astep, .int 0, .int 0, .int (-1), .int 0, .int 0, .ref asize]))]) hP hD hK hS hA hE [0, 2] [] rfl (by decide) rfl (ci := 13) (q0 := 0) rfl rfl hDc) rfl rfl hl.1 rfl (lv_room (Nat.le_of_ble_eq_true rfl)) dL_wouldChoose_9 ⟨Nat.le_of_ble_eq_true rfl, Nat.le_of_ble_eq_true rfl⟩) hP hD hK hS hA [0, 2] [1, 3, 4, 5, 6, 7, 8, 9, 10, 11] rfl rfl (by decide) (by decide) (fun E ce q9 H locs hbad hP hD hS h91 h92 h93 => ?_) (fun r_25 u H locs hw_26 hP hD hK hS => ?_)
      · have hbad : E = "java/lang/IndexOutOfBoundsException" := hbad
        subst hbad
        refine vx_catch (name := "java/lang/IndexOutOfBoundsException") hown [] ⟨0, 14, 17, 21⟩ [⟨0, 14, 21, 13⟩] (by rw [htab]; rfl) (fun z h => by simp at h) (by decide) (by decide) (hts (.classLink RL 21 "java/lang/IndexOutOfBoundsException") (by decide +kernel)) (va_Nw.use rfl (hE.2.2.2.2.2.2.2.1 ("java/lang/IndexOutOfBoundsException", "java/lang/IndexOutOfBoundsException") (by decide +kernel))) h91 h92 h93 ?_
        refine W.eq (g2 := F0 m 17 ls [.ref q9]) rfl ?_
        refine lv_astore (lv' := [(6, .ref q9), (0, .ref hh), (1, .int x1), (2, .int x2), (3, .int x3), (4, .int x4), (5, .ref ou)]) hx hb dL_wouldChoose_17 hl (by decide) rfl (fun ls hl => ?_)
        refine lv_iconst (v := 1) hx hb dL_wouldChoose_19 (by decide) ?_
        have hP9 := hP.sub (ws' := [(ou, .inl (kL, 1, .inr (.inl fo)))]) [9] rfl
        have hD9 := hD.sub (ws' := [(ou, .inl (kL, 1, .inr (.inl fo)))]) [9] (by decide) rfl
        have hK9 := hK.sub (tys' := [(kL, .long)]) [1] rfl
        refine W.widen (k := 2) (n := 24) (Nat.le_of_ble_eq_true rfl) (Nat.le_of_ble_eq_true rfl) ?_
        refine vx_ret ?_
        exact W.iret (v := 1) hx hb hr (fun t ht hW => ⟨⟨1, (1, (fo)), rfl, ⟨rfl, by first | decide | simp [hx10, hx11, hx39, hx31], fun h => absurd h (by decide)⟩, ⟨by rw [ht]; exact hP9, va_K.moved hW.alike hK9, hD9⟩⟩, hS.F ht⟩) hS.2.2 dL_wouldChoose_20
      exact absurd hw_26 id
    · refine lv_aload hx hb dL_wouldChoose_0 (lv_at hl 5 rfl) ?_
      refine lv_iconst (v := 0) hx hb dL_wouldChoose_2 (by decide) ?_
      refine lv_aload_n hx hb dL_wouldChoose_3 rfl (lv_at hl 0 rfl) ?_
      refine lv_iload_n hx hb dL_wouldChoose_4 rfl (lv_at hl 1 rfl) ?_
      refine lv_iload_n hx hb dL_wouldChoose_5 rfl (lv_at hl 2 rfl) ?_
      refine lv_iload_n hx hb dL_wouldChoose_6 rfl (lv_at hl 3 rfl) ?_
      refine lv_iload hx hb dL_wouldChoose_7 (lv_at hl 4 rfl) ?_
      refine zx_i (wr := [(achoo, .inr (3, [.ref aroom, .ref ameth, .ref acand, .ref ahint, .int 0, .int (-1), .int 0, .int 0, .null])), (atold, .inl (kI, 60, .inl zTold)), (anod, .inr (7, [.ref nm, .ref nl, .ref n1, .ref n2, .ref nf, .ref ns, .ref nh, .ref nk, .ref np, .int 16, .int 0, .int 16, .int 0, .int 0])), (ns, .inl (kL, 1024, .inr (.inl zSec))), (nf, .inl (kL, 1024, .inr (.inl zFir))), (asort, .inr (1, [.int 0, .ref eD, .int 0])), (astep, .inr (1, [.int 0, .ref eD, .int 0])), (apair, .inr (8, [.ref apsl, .int 0, .int 0])), (apsl, .inl (kL, 512, .inr (.inl (fun _ => 0)))), (ou, .inl (kL, 1, .inr (.inl fo)))]) (vx_runV (As := [.int x1, .int x2, .int x3, .int x4]) (rest := [.int 0, .ref ou]) ⟨hx, hb, hml, hown, hts⟩ (c_H_would_Bh l hfl eD eI ad dC dI s.heap.size hh aexpr achoo ameth aroom anod asort anote amet atold aheld apair astep asize x1 x2 x3 x4 (hx10) (hx11) (hx39) (hx30) (hx31)) (cwV 4 hts g_c_L_wouldChoose_13 rfl rfl rfl (by decide +kernel) ⟨Nat.le_of_ble_eq_true rfl, Nat.le_of_ble_eq_true rfl⟩) (z_preVD (wc := [(hh, .inr (13, [.ref aexpr, .ref achoo, .ref ameth, .ref aroom, .ref anod, .ref asort, .ref anote, .ref amet, .int 0, .int 1])), (aroom, .inr (9, [.ref asort, .ref anod, .ref atold, .int 3, .ref aheld, .int 0, .ref apair, .ref astep, .int 0, .int 0, .int (-1), .int 0, .int 0, .ref asize]))]) hP hD hK hS hA hE [0, 2] [] rfl (by decide) rfl (ci := 13) (q0 := 0) rfl rfl hDc) rfl rfl hl.1 rfl (lv_room (Nat.le_of_ble_eq_true rfl)) dL_wouldChoose_9 ⟨Nat.le_of_ble_eq_true rfl, Nat.le_of_ble_eq_true rfl⟩) hP hD hK hS hA [0, 2] [1, 3, 4, 5, 6, 7, 8, 9, 10, 11] rfl rfl (by decide) (by decide) (fun E ce q9 H locs hbad hP hD hS h91 h92 h93 => ?_) (fun r_27 u H locs hw_28 hP hD hK hS => ?_)
      · have hbad : E = "java/lang/IndexOutOfBoundsException" := hbad
        subst hbad
        refine vx_catch (name := "java/lang/IndexOutOfBoundsException") hown [] ⟨0, 14, 17, 21⟩ [⟨0, 14, 21, 13⟩] (by rw [htab]; rfl) (fun z h => by simp at h) (by decide) (by decide) (hts (.classLink RL 21 "java/lang/IndexOutOfBoundsException") (by decide +kernel)) (va_Nw.use rfl (hE.2.2.2.2.2.2.2.1 ("java/lang/IndexOutOfBoundsException", "java/lang/IndexOutOfBoundsException") (by decide +kernel))) h91 h92 h93 ?_
        refine W.eq (g2 := F0 m 17 ls [.ref q9]) rfl ?_
        refine lv_astore (lv' := [(6, .ref q9), (0, .ref hh), (1, .int x1), (2, .int x2), (3, .int x3), (4, .int x4), (5, .ref ou)]) hx hb dL_wouldChoose_17 hl (by decide) rfl (fun ls hl => ?_)
        refine lv_iconst (v := 1) hx hb dL_wouldChoose_19 (by decide) ?_
        have hP9 := hP.sub (ws' := [(ou, .inl (kL, 1, .inr (.inl fo)))]) [9] rfl
        have hD9 := hD.sub (ws' := [(ou, .inl (kL, 1, .inr (.inl fo)))]) [9] (by decide) rfl
        have hK9 := hK.sub (tys' := [(kL, .long)]) [1] rfl
        refine W.widen (k := 2) (n := 24) (Nat.le_of_ble_eq_true rfl) (Nat.le_of_ble_eq_true rfl) ?_
        refine vx_ret ?_
        exact W.iret (v := 1) hx hb hr (fun t ht hW => ⟨⟨1, (1, (fo)), rfl, ⟨rfl, by first | decide | simp [hx10, hx11, hx39, hx30, hx31], fun h => absurd h (by decide)⟩, ⟨by rw [ht]; exact hP9, va_K.moved hW.alike hK9, hD9⟩⟩, hS.F ht⟩) hS.2.2 dL_wouldChoose_20
      exact absurd hw_28 id
    · rcases z_splitP x4 with rfl | ⟨hx49, hx41⟩ | ⟨hx49, hx40, hx41⟩ | ⟨hx49, hx40, hx41⟩
      · rcases z_splitM x2 with hx21 | ⟨hx20, hx21⟩ | ⟨hx20, hx21⟩
        · refine lv_aload hx hb dL_wouldChoose_0 (lv_at hl 5 rfl) ?_
          refine lv_iconst (v := 0) hx hb dL_wouldChoose_2 (by decide) ?_
          refine lv_aload_n hx hb dL_wouldChoose_3 rfl (lv_at hl 0 rfl) ?_
          refine lv_iload_n hx hb dL_wouldChoose_4 rfl (lv_at hl 1 rfl) ?_
          refine lv_iload_n hx hb dL_wouldChoose_5 rfl (lv_at hl 2 rfl) ?_
          refine lv_iload_n hx hb dL_wouldChoose_6 rfl (lv_at hl 3 rfl) ?_
          refine lv_iload hx hb dL_wouldChoose_7 (lv_at hl 4 rfl) ?_
          refine zx_i (wr := [(achoo, .inr (3, [.ref aroom, .ref ameth, .ref acand, .ref ahint, .int 0, .int (-1), .int 0, .int 0, .null])), (atold, .inl (kI, 60, .inl zTold)), (anod, .inr (7, [.ref nm, .ref nl, .ref n1, .ref n2, .ref nf, .ref ns, .ref nh, .ref nk, .ref np, .int 16, .int 0, .int 16, .int 0, .int 0])), (ns, .inl (kL, 1024, .inr (.inl zSec))), (nf, .inl (kL, 1024, .inr (.inl zFir))), (asort, .inr (1, [.int 0, .ref eD, .int 0])), (astep, .inr (1, [.int 0, .ref eD, .int 0])), (apair, .inr (8, [.ref apsl, .int 0, .int 0])), (apsl, .inl (kL, 512, .inr (.inl (fun _ => 0)))), (ou, .inl (kL, 1, .inr (.inl fo)))]) (vx_runV (As := [.int x1, .int x2, .int x3, .int (-1)]) (rest := [.int 0, .ref ou]) ⟨hx, hb, hml, hown, hts⟩ (c_H_would_Dknl l hfl eD eI ad dC dI s.heap.size hh aexpr achoo ameth aroom anod asort anote amet atold aheld apair astep asize x1 x2 x3 (hx10) (hx11) (hx39) (hx30) (hx31) (hx21)) (cwV 4 hts g_c_L_wouldChoose_14 rfl rfl rfl (by decide +kernel) ⟨Nat.le_of_ble_eq_true rfl, Nat.le_of_ble_eq_true rfl⟩) (z_preVD (wc := [(hh, .inr (13, [.ref aexpr, .ref achoo, .ref ameth, .ref aroom, .ref anod, .ref asort, .ref anote, .ref amet, .int 0, .int 1])), (aroom, .inr (9, [.ref asort, .ref anod, .ref atold, .int 3, .ref aheld, .int 0, .ref apair, .ref astep, .int 0, .int 0, .int (-1), .int 0, .int 0, .ref asize]))]) hP hD hK hS hA hE [0, 2] [] rfl (by decide) rfl (ci := 13) (q0 := 0) rfl rfl hDc) rfl rfl hl.1 rfl (lv_room (Nat.le_of_ble_eq_true rfl)) dL_wouldChoose_9 ⟨Nat.le_of_ble_eq_true rfl, Nat.le_of_ble_eq_true rfl⟩) hP hD hK hS hA [0, 2] [1, 3, 4, 5, 6, 7, 8, 9, 10, 11] rfl rfl (by decide) (by decide) (fun E ce q9 H locs hbad hP hD hS h91 h92 h93 => ?_) (fun r_29 u H locs hw_30 hP hD hK hS => ?_)
          · have hbad : E = "java/lang/IllegalArgumentException" := hbad
            subst hbad
            refine vx_catch (name := "java/lang/IllegalArgumentException") hown [⟨0, 14, 17, 21⟩] ⟨0, 14, 21, 13⟩ [] (by rw [htab]; rfl) (fun z h => by
                simp only [List.mem_cons, List.not_mem_nil, or_false] at h
                rcases h with rfl
                · exact Or.inr ⟨by decide, "java/lang/IndexOutOfBoundsException", (hts (.classLink RL 21 "java/lang/IndexOutOfBoundsException") (by decide +kernel)), hE.2.2.2.2.2.2.2.2.1 ("java/lang/IllegalArgumentException", "java/lang/IndexOutOfBoundsException") (by decide +kernel)⟩) (by decide) (by decide) (hts (.classLink RL 13 "java/lang/IllegalArgumentException") (by decide +kernel)) (va_Nw.use rfl (hE.2.2.2.2.2.2.2.1 ("java/lang/IllegalArgumentException", "java/lang/IllegalArgumentException") (by decide +kernel))) h91 h92 h93 ?_
            refine W.eq (g2 := F0 m 21 ls [.ref q9]) rfl ?_
            refine lv_astore (lv' := [(6, .ref q9), (0, .ref hh), (1, .int x1), (2, .int x2), (3, .int x3), (4, .int (-1)), (5, .ref ou)]) hx hb dL_wouldChoose_21 hl (by decide) rfl (fun ls hl => ?_)
            refine lv_iconst (v := 2) hx hb dL_wouldChoose_23 (by decide) ?_
            have hP9 := hP.sub (ws' := [(ou, .inl (kL, 1, .inr (.inl fo)))]) [9] rfl
            have hD9 := hD.sub (ws' := [(ou, .inl (kL, 1, .inr (.inl fo)))]) [9] (by decide) rfl
            have hK9 := hK.sub (tys' := [(kL, .long)]) [1] rfl
            refine W.widen (k := 2) (n := 24) (Nat.le_of_ble_eq_true rfl) (Nat.le_of_ble_eq_true rfl) ?_
            refine vx_ret ?_
            exact W.iret (v := 2) hx hb hr (fun t ht hW => ⟨⟨2, (2, (fo)), rfl, ⟨rfl, by first | decide | simp [hx10, hx11, hx39, hx30, hx31, hx21], fun h => absurd h (by decide)⟩, ⟨by rw [ht]; exact hP9, va_K.moved hW.alike hK9, hD9⟩⟩, hS.F ht⟩) hS.2.2 dL_wouldChoose_24
          exact absurd hw_30 id
        · refine lv_aload hx hb dL_wouldChoose_0 (lv_at hl 5 rfl) ?_
          refine lv_iconst (v := 0) hx hb dL_wouldChoose_2 (by decide) ?_
          refine lv_aload_n hx hb dL_wouldChoose_3 rfl (lv_at hl 0 rfl) ?_
          refine lv_iload_n hx hb dL_wouldChoose_4 rfl (lv_at hl 1 rfl) ?_
          refine lv_iload_n hx hb dL_wouldChoose_5 rfl (lv_at hl 2 rfl) ?_
          refine lv_iload_n hx hb dL_wouldChoose_6 rfl (lv_at hl 3 rfl) ?_
          refine lv_iload hx hb dL_wouldChoose_7 (lv_at hl 4 rfl) ?_
          refine zx_i (wr := [(achoo, .inr (3, [.ref aroom, .ref ameth, .ref acand, .ref ahint, .int 0, .int (-1), .int 0, .int 0, .null])), (atold, .inl (kI, 60, .inl zTold)), (anod, .inr (7, [.ref nm, .ref nl, .ref n1, .ref n2, .ref nf, .ref ns, .ref nh, .ref nk, .ref np, .int 16, .int 0, .int 16, .int 0, .int 0])), (ns, .inl (kL, 1024, .inr (.inl zSec))), (nf, .inl (kL, 1024, .inr (.inl zFir))), (asort, .inr (1, [.int 0, .ref eD, .int 0])), (astep, .inr (1, [.int 0, .ref eD, .int 0])), (apair, .inr (8, [.ref apsl, .int 0, .int 0])), (apsl, .inl (kL, 512, .inr (.inl (fun _ => 0)))), (ou, .inl (kL, 1, .inr (.inl fo)))]) (vx_runV (As := [.int x1, .int x2, .int x3, .int (-1)]) (rest := [.int 0, .ref ou]) ⟨hx, hb, hml, hown, hts⟩ (c_H_would_Dknh l hfl eD eI ad dC dI s.heap.size hh aexpr achoo ameth aroom anod asort anote amet atold aheld apair astep asize x1 x2 x3 (hx10) (hx11) (hx39) (hx30) (hx31) (hx20) (hx21)) (cwV 4 hts g_c_L_wouldChoose_15 rfl rfl rfl (by decide +kernel) ⟨Nat.le_of_ble_eq_true rfl, Nat.le_of_ble_eq_true rfl⟩) (z_preVD (wc := [(hh, .inr (13, [.ref aexpr, .ref achoo, .ref ameth, .ref aroom, .ref anod, .ref asort, .ref anote, .ref amet, .int 0, .int 1])), (aroom, .inr (9, [.ref asort, .ref anod, .ref atold, .int 3, .ref aheld, .int 0, .ref apair, .ref astep, .int 0, .int 0, .int (-1), .int 0, .int 0, .ref asize]))]) hP hD hK hS hA hE [0, 2] [] rfl (by decide) rfl (ci := 13) (q0 := 0) rfl rfl hDc) rfl rfl hl.1 rfl (lv_room (Nat.le_of_ble_eq_true rfl)) dL_wouldChoose_9 ⟨Nat.le_of_ble_eq_true rfl, Nat.le_of_ble_eq_true rfl⟩) hP hD hK hS hA [0, 2] [1, 3, 4, 5, 6, 7, 8, 9, 10, 11] rfl rfl (by decide) (by decide) (fun E ce q9 H locs hbad hP hD hS h91 h92 h93 => ?_) (fun r_31 u H locs hw_32 hP hD hK hS => ?_)
          · have hbad : E = "java/lang/IllegalArgumentException" := hbad
            subst hbad
            refine vx_catch (name := "java/lang/IllegalArgumentException") hown [⟨0, 14, 17, 21⟩] ⟨0, 14, 21, 13⟩ [] (by rw [htab]; rfl) (fun z h => by
                simp only [List.mem_cons, List.not_mem_nil, or_false] at h
                rcases h with rfl
                · exact Or.inr ⟨by decide, "java/lang/IndexOutOfBoundsException", (hts (.classLink RL 21 "java/lang/IndexOutOfBoundsException") (by decide +kernel)), hE.2.2.2.2.2.2.2.2.1 ("java/lang/IllegalArgumentException", "java/lang/IndexOutOfBoundsException") (by decide +kernel)⟩) (by decide) (by decide) (hts (.classLink RL 13 "java/lang/IllegalArgumentException") (by decide +kernel)) (va_Nw.use rfl (hE.2.2.2.2.2.2.2.1 ("java/lang/IllegalArgumentException", "java/lang/IllegalArgumentException") (by decide +kernel))) h91 h92 h93 ?_
            refine W.eq (g2 := F0 m 21 ls [.ref q9]) rfl ?_
            refine lv_astore (lv' := [(6, .ref q9), (0, .ref hh), (1, .int x1), (2, .int x2), (3, .int x3), (4, .int (-1)), (5, .ref ou)]) hx hb dL_wouldChoose_21 hl (by decide) rfl (fun ls hl => ?_)
            refine lv_iconst (v := 2) hx hb dL_wouldChoose_23 (by decide) ?_
            have hP9 := hP.sub (ws' := [(ou, .inl (kL, 1, .inr (.inl fo)))]) [9] rfl
            have hD9 := hD.sub (ws' := [(ou, .inl (kL, 1, .inr (.inl fo)))]) [9] (by decide) rfl
            have hK9 := hK.sub (tys' := [(kL, .long)]) [1] rfl
            refine W.widen (k := 2) (n := 24) (Nat.le_of_ble_eq_true rfl) (Nat.le_of_ble_eq_true rfl) ?_
            refine vx_ret ?_
            exact W.iret (v := 2) hx hb hr (fun t ht hW => ⟨⟨2, (2, (fo)), rfl, ⟨rfl, by first | decide | simp [hx10, hx11, hx39, hx30, hx31, hx20, hx21], fun h => absurd h (by decide)⟩, ⟨by rw [ht]; exact hP9, va_K.moved hW.alike hK9, hD9⟩⟩, hS.F ht⟩) hS.2.2 dL_wouldChoose_24
          exact absurd hw_32 id
        · rcases z_ok2  (hx10) (hx11) with rfl | hx12
          · refine lv_aload hx hb dL_wouldChoose_0 (lv_at hl 5 rfl) ?_
            refine lv_iconst (v := 0) hx hb dL_wouldChoose_2 (by decide) ?_
            refine lv_aload_n hx hb dL_wouldChoose_3 rfl (lv_at hl 0 rfl) ?_
            refine lv_iload_n hx hb dL_wouldChoose_4 rfl (lv_at hl 1 rfl) ?_
            refine lv_iload_n hx hb dL_wouldChoose_5 rfl (lv_at hl 2 rfl) ?_
            refine lv_iload_n hx hb dL_wouldChoose_6 rfl (lv_at hl 3 rfl) ?_
            refine lv_iload hx hb dL_wouldChoose_7 (lv_at hl 4 rfl) ?_
            refine zx_i (wr := [(achoo, .inr (3, [.ref aroom, .ref ameth, .ref acand, .ref ahint, .int 0, .int (-1), .int 0, .int 0, .null])), (asort, .inr (1, [.int 0, .ref eD, .int 0])), (astep, .inr (1, [.int 0, .ref eD, .int 0])), (apair, .inr (8, [.ref apsl, .int 0, .int 0])), (apsl, .inl (kL, 512, .inr (.inl (fun _ => 0)))), (ou, .inl (kL, 1, .inr (.inl fo)))]) (vx_runV (As := [.int 2, .int x2, .int x3, .int (-1)]) (rest := [.int 0, .ref ou]) ⟨hx, hb, hml, hown, hts⟩ (c_H_would_Fkn l hfl eD eI ad dC dI s.heap.size hh aexpr achoo ameth aroom anod asort anote amet atold aheld apair astep asize nm nl n1 n2 nf ns nh nk np kI kL x2 x3 (hx39) (hx30) (hx31) (hx20) (hx21)) (cwV 4 hts g_c_L_wouldChoose_16 rfl rfl rfl (by decide +kernel) ⟨Nat.le_of_ble_eq_true rfl, Nat.le_of_ble_eq_true rfl⟩) (z_preVD (wc := [(hh, .inr (13, [.ref aexpr, .ref achoo, .ref ameth, .ref aroom, .ref anod, .ref asort, .ref anote, .ref amet, .int 0, .int 1])), (aroom, .inr (9, [.ref asort, .ref anod, .ref atold, .int 3, .ref aheld, .int 0, .ref apair, .ref astep, .int 0, .int 0, .int (-1), .int 0, .int 0, .ref asize])), (atold, .inl (kI, 60, .inl zTold)), (anod, .inr (7, [.ref nm, .ref nl, .ref n1, .ref n2, .ref nf, .ref ns, .ref nh, .ref nk, .ref np, .int 16, .int 0, .int 16, .int 0, .int 0])), (ns, .inl (kL, 1024, .inr (.inl zSec))), (nf, .inl (kL, 1024, .inr (.inl zFir)))]) hP hD hK hS hA hE [0, 2, 3, 4, 5, 6] [0, 1] rfl (by decide) rfl (ci := 13) (q0 := 0) rfl rfl hDc) rfl rfl hl.1 rfl (lv_room (Nat.le_of_ble_eq_true rfl)) dL_wouldChoose_9 ⟨Nat.le_of_ble_eq_true rfl, Nat.le_of_ble_eq_true rfl⟩) hP hD hK hS hA [0, 2, 3, 4, 5, 6] [1, 7, 8, 9, 10, 11] rfl rfl (by decide) (by decide) (fun E ce q9 H locs hbad hP hD hS h91 h92 h93 => ?_) (fun r_33 u H locs hw_34 hP hD hK hS => ?_)
            · have hbad : E = "java/lang/IllegalArgumentException" := hbad
              subst hbad
              refine vx_catch (name := "java/lang/IllegalArgumentException") hown [⟨0, 14, 17, 21⟩] ⟨0, 14, 21, 13⟩ [] (by rw [htab]; rfl) (fun z h => by
                  simp only [List.mem_cons, List.not_mem_nil, or_false] at h
                  rcases h with rfl
                  · exact Or.inr ⟨by decide, "java/lang/IndexOutOfBoundsException", (hts (.classLink RL 21 "java/lang/IndexOutOfBoundsException") (by decide +kernel)), hE.2.2.2.2.2.2.2.2.1 ("java/lang/IllegalArgumentException", "java/lang/IndexOutOfBoundsException") (by decide +kernel)⟩) (by decide) (by decide) (hts (.classLink RL 13 "java/lang/IllegalArgumentException") (by decide +kernel)) (va_Nw.use rfl (hE.2.2.2.2.2.2.2.1 ("java/lang/IllegalArgumentException", "java/lang/IllegalArgumentException") (by decide +kernel))) h91 h92 h93 ?_
              refine W.eq (g2 := F0 m 21 ls [.ref q9]) rfl ?_
              refine lv_astore (lv' := [(6, .ref q9), (0, .ref hh), (1, .int 2), (2, .int x2), (3, .int x3), (4, .int (-1)), (5, .ref ou)]) hx hb dL_wouldChoose_21 hl (by decide) rfl (fun ls hl => ?_)
              refine lv_iconst (v := 2) hx hb dL_wouldChoose_23 (by decide) ?_
              have hP9 := hP.sub (ws' := [(ou, .inl (kL, 1, .inr (.inl fo)))]) [5] rfl
              have hD9 := hD.sub (ws' := [(ou, .inl (kL, 1, .inr (.inl fo)))]) [5] (by decide) rfl
              have hK9 := hK.sub (tys' := [(kL, .long)]) [1] rfl
              refine W.widen (k := 2) (n := 24) (Nat.le_of_ble_eq_true rfl) (Nat.le_of_ble_eq_true rfl) ?_
              refine vx_ret ?_
              exact W.iret (v := 2) hx hb hr (fun t ht hW => ⟨⟨2, (2, (fo)), rfl, ⟨rfl, by first | decide | simp [hx10, hx11, hx39, hx30, hx31, hx20, hx21], fun h => absurd h (by decide)⟩, ⟨by rw [ht]; exact hP9, va_K.moved hW.alike hK9, hD9⟩⟩, hS.F ht⟩) hS.2.2 dL_wouldChoose_24
            exact absurd hw_34 id
          · rcases z_ok2  (hx30) (hx31) with rfl | hx32
            · refine lv_aload hx hb dL_wouldChoose_0 (lv_at hl 5 rfl) ?_
              refine lv_iconst (v := 0) hx hb dL_wouldChoose_2 (by decide) ?_
              refine lv_aload_n hx hb dL_wouldChoose_3 rfl (lv_at hl 0 rfl) ?_
              refine lv_iload_n hx hb dL_wouldChoose_4 rfl (lv_at hl 1 rfl) ?_
              refine lv_iload_n hx hb dL_wouldChoose_5 rfl (lv_at hl 2 rfl) ?_
              refine lv_iload_n hx hb dL_wouldChoose_6 rfl (lv_at hl 3 rfl) ?_
              refine lv_iload hx hb dL_wouldChoose_7 (lv_at hl 4 rfl) ?_
              refine zx_i (wr := [(achoo, .inr (3, [.ref aroom, .ref ameth, .ref acand, .ref ahint, .int 0, .int (-1), .int 0, .int 0, .null])), (asort, .inr (1, [.int 0, .ref eD, .int 0])), (astep, .inr (1, [.int 0, .ref eD, .int 0])), (apair, .inr (8, [.ref apsl, .int 0, .int 0])), (apsl, .inl (kL, 512, .inr (.inl (fun _ => 0)))), (ou, .inl (kL, 1, .inr (.inl fo)))]) (vx_runV (As := [.int x1, .int x2, .int 2, .int (-1)]) (rest := [.int 0, .ref ou]) ⟨hx, hb, hml, hown, hts⟩ (c_H_would_Gn l hfl eD eI ad dC dI s.heap.size hh aexpr achoo ameth aroom anod asort anote amet atold aheld apair astep asize nm nl n1 n2 nf ns nh nk np kI kL x1 x2 (hx10) (hx12) (hx20) (hx21)) (cwV 4 hts g_c_L_wouldChoose_17 rfl rfl rfl (by decide +kernel) ⟨Nat.le_of_ble_eq_true rfl, Nat.le_of_ble_eq_true rfl⟩) (z_preVD (wc := [(hh, .inr (13, [.ref aexpr, .ref achoo, .ref ameth, .ref aroom, .ref anod, .ref asort, .ref anote, .ref amet, .int 0, .int 1])), (aroom, .inr (9, [.ref asort, .ref anod, .ref atold, .int 3, .ref aheld, .int 0, .ref apair, .ref astep, .int 0, .int 0, .int (-1), .int 0, .int 0, .ref asize])), (atold, .inl (kI, 60, .inl zTold)), (anod, .inr (7, [.ref nm, .ref nl, .ref n1, .ref n2, .ref nf, .ref ns, .ref nh, .ref nk, .ref np, .int 16, .int 0, .int 16, .int 0, .int 0])), (ns, .inl (kL, 1024, .inr (.inl zSec))), (nf, .inl (kL, 1024, .inr (.inl zFir)))]) hP hD hK hS hA hE [0, 2, 3, 4, 5, 6] [0, 1] rfl (by decide) rfl (ci := 13) (q0 := 0) rfl rfl hDc) rfl rfl hl.1 rfl (lv_room (Nat.le_of_ble_eq_true rfl)) dL_wouldChoose_9 ⟨Nat.le_of_ble_eq_true rfl, Nat.le_of_ble_eq_true rfl⟩) hP hD hK hS hA [0, 2, 3, 4, 5, 6] [1, 7, 8, 9, 10, 11] rfl rfl (by decide) (by decide) (fun E ce q9 H locs hbad hP hD hS h91 h92 h93 => ?_) (fun r_35 u H locs hw_36 hP hD hK hS => ?_)
              · have hbad : E = "java/lang/IllegalArgumentException" := hbad
                subst hbad
                refine vx_catch (name := "java/lang/IllegalArgumentException") hown [⟨0, 14, 17, 21⟩] ⟨0, 14, 21, 13⟩ [] (by rw [htab]; rfl) (fun z h => by
                    simp only [List.mem_cons, List.not_mem_nil, or_false] at h
                    rcases h with rfl
                    · exact Or.inr ⟨by decide, "java/lang/IndexOutOfBoundsException", (hts (.classLink RL 21 "java/lang/IndexOutOfBoundsException") (by decide +kernel)), hE.2.2.2.2.2.2.2.2.1 ("java/lang/IllegalArgumentException", "java/lang/IndexOutOfBoundsException") (by decide +kernel)⟩) (by decide) (by decide) (hts (.classLink RL 13 "java/lang/IllegalArgumentException") (by decide +kernel)) (va_Nw.use rfl (hE.2.2.2.2.2.2.2.1 ("java/lang/IllegalArgumentException", "java/lang/IllegalArgumentException") (by decide +kernel))) h91 h92 h93 ?_
                refine W.eq (g2 := F0 m 21 ls [.ref q9]) rfl ?_
                refine lv_astore (lv' := [(6, .ref q9), (0, .ref hh), (1, .int x1), (2, .int x2), (3, .int 2), (4, .int (-1)), (5, .ref ou)]) hx hb dL_wouldChoose_21 hl (by decide) rfl (fun ls hl => ?_)
                refine lv_iconst (v := 2) hx hb dL_wouldChoose_23 (by decide) ?_
                have hP9 := hP.sub (ws' := [(ou, .inl (kL, 1, .inr (.inl fo)))]) [5] rfl
                have hD9 := hD.sub (ws' := [(ou, .inl (kL, 1, .inr (.inl fo)))]) [5] (by decide) rfl
                have hK9 := hK.sub (tys' := [(kL, .long)]) [1] rfl
                refine W.widen (k := 2) (n := 24) (Nat.le_of_ble_eq_true rfl) (Nat.le_of_ble_eq_true rfl) ?_
                refine vx_ret ?_
                exact W.iret (v := 2) hx hb hr (fun t ht hW => ⟨⟨2, (2, (fo)), rfl, ⟨rfl, by first | decide | simp [hx10, hx11, hx39, hx30, hx31, hx20, hx21, hx12, (show ¬ x1 = 2 from fun e => hx12 (by rw [e]; decide))], fun h => absurd h (by decide)⟩, ⟨by rw [ht]; exact hP9, va_K.moved hW.alike hK9, hD9⟩⟩, hS.F ht⟩) hS.2.2 dL_wouldChoose_24
              exact absurd hw_36 id
            · rcases z_ok1  (hx10) (hx12) with rfl | rfl
              · refine lv_aload hx hb dL_wouldChoose_0 (lv_at hl 5 rfl) ?_
                refine lv_iconst (v := 0) hx hb dL_wouldChoose_2 (by decide) ?_
                refine lv_aload_n hx hb dL_wouldChoose_3 rfl (lv_at hl 0 rfl) ?_
                refine lv_iload_n hx hb dL_wouldChoose_4 rfl (lv_at hl 1 rfl) ?_
                refine lv_iload_n hx hb dL_wouldChoose_5 rfl (lv_at hl 2 rfl) ?_
                refine lv_iload_n hx hb dL_wouldChoose_6 rfl (lv_at hl 3 rfl) ?_
                refine lv_iload hx hb dL_wouldChoose_7 (lv_at hl 4 rfl) ?_
                refine z_i (wr := [(ou, .inl (kL, 1, .inr (.inl fo)))]) (va_runV (As := [.int 0, .int x2, .int x3, .int (-1)]) (rest := [.int 0, .ref ou]) ⟨hx, hb, hml, hown, hts⟩ (c_H_would_I0kn l eD eI ad dC dI s.heap.size hh aexpr achoo ameth aroom anod asort anote amet atold aheld apair astep asize nm nl n1 n2 nf ns nh nk np apsl acand ahint kI kL x2 x3 (hx39) (hx30) (hx32) (hx20) (hx21)) (cwV 4 hts g_c_L_wouldChoose_18 rfl rfl rfl (by decide +kernel) ⟨Nat.le_of_ble_eq_true rfl, Nat.le_of_ble_eq_true rfl⟩) (z_preV (wc := [(hh, .inr (13, [.ref aexpr, .ref achoo, .ref ameth, .ref aroom, .ref anod, .ref asort, .ref anote, .ref amet, .int 0, .int 1])), (achoo, .inr (3, [.ref aroom, .ref ameth, .ref acand, .ref ahint, .int 0, .int (-1), .int 0, .int 0, .null])), (aroom, .inr (9, [.ref asort, .ref anod, .ref atold, .int 3, .ref aheld, .int 0, .ref apair, .ref astep, .int 0, .int 0, .int (-1), .int 0, .int 0, .ref asize])), (atold, .inl (kI, 60, .inl zTold)), (anod, .inr (7, [.ref nm, .ref nl, .ref n1, .ref n2, .ref nf, .ref ns, .ref nh, .ref nk, .ref np, .int 16, .int 0, .int 16, .int 0, .int 0])), (ns, .inl (kL, 1024, .inr (.inl zSec))), (nf, .inl (kL, 1024, .inr (.inl zFir))), (asort, .inr (1, [.int 0, .ref eD, .int 0])), (astep, .inr (1, [.int 0, .ref eD, .int 0])), (apair, .inr (8, [.ref apsl, .int 0, .int 0])), (apsl, .inl (kL, 512, .inr (.inl (fun _ => 0))))]) hP hD hK hS hA hE [0, 1, 2, 3, 4, 5, 6, 7, 8, 9, 10] [0, 1] rfl (by decide) rfl (ci := 13) (q0 := 0) rfl rfl) rfl rfl hl.1 rfl (lv_room (Nat.le_of_ble_eq_true rfl)) dL_wouldChoose_9 ⟨Nat.le_of_ble_eq_true rfl, Nat.le_of_ble_eq_true rfl⟩) hP hD hK hS hA [0, 1, 2, 3, 4, 5, 6, 7, 8, 9, 10] [11] rfl rfl (by decide) (by decide) (fun r_37 u H locs hw_38 hP hD hK hS => ?_)
                obtain ⟨⟩ := u
                have hP : va_P (dC, dI) vwCl [(ou, .inl (kL, 1, .inr (.inl fo)))] H := hP
                have hD : va_D A [(ou, .inl (kL, 1, .inr (.inl fo)))] := hD
                have hK : va_K (dC, dI) vwCl [(kI, .int), (kL, .long)] s := by simpa using hK
                have hw_38 : r_37 = (-1) := hw_38
                have hw_38 := hw_38.symm
                subst hw_38
                refine lv_i2l (v := (-1)) hx hb dL_wouldChoose_12 (by decide) ?_
                refine va_last (D := (dC, dI)) hx hb hK hP hD hS 0 1 rfl rfl (by unfold vp_in; decide) dL_wouldChoose_13 (fun H locs hP hD hS => ?_)
                have hP : va_P (dC, dI) vwCl [(ou, .inl (kL, 1, .inr (.inl (vp_updL fo (0 : Int32).toNatClampNeg (-1)))))] H := hP
                have hD : va_D A [(ou, .inl (kL, 1, .inr (.inl (vp_updL fo (0 : Int32).toNatClampNeg (-1)))))] := hD
                refine lv_goto (tgt := 25) hx hb dL_wouldChoose_14 (by decide) ?_
                refine lv_iconst (v := 0) hx hb dL_wouldChoose_25 (by decide) ?_
                have hP9 := hP.sub (ws' := [(ou, .inl (kL, 1, .inr (.inl (vp_updL fo (0 : Int32).toNatClampNeg (-1)))))]) [0] rfl
                have hD9 := hD.sub (ws' := [(ou, .inl (kL, 1, .inr (.inl (vp_updL fo (0 : Int32).toNatClampNeg (-1)))))]) [0] (by decide) rfl
                have hK9 := hK.sub (tys' := [(kL, .long)]) [1] rfl
                refine W.widen (k := 2) (n := 24) (Nat.le_of_ble_eq_true rfl) (Nat.le_of_ble_eq_true rfl) ?_
                refine vx_ret ?_
                exact W.iret (v := 0) hx hb hr (fun t ht hW => ⟨⟨0, (0, (vp_updL fo (0 : Int32).toNatClampNeg (-1))), rfl, ⟨rfl, by first | decide | simp [hx10, hx11, hx39, hx30, hx31, hx20, hx21, hx12, hx32, (show ¬ x3 = 2 from fun e => hx32 (by rw [e]; decide))], by first | exact fun _ => rfl | exact fun _ => by simp [vp_updL, hx10, hx11, hx39, hx30, hx31, hx20, hx21, hx12, hx32]⟩, ⟨by rw [ht]; exact hP9, va_K.moved hW.alike hK9, hD9⟩⟩, hS.F ht⟩) hS.2.2 dL_wouldChoose_26
              · refine lv_aload hx hb dL_wouldChoose_0 (lv_at hl 5 rfl) ?_
                refine lv_iconst (v := 0) hx hb dL_wouldChoose_2 (by decide) ?_
                refine lv_aload_n hx hb dL_wouldChoose_3 rfl (lv_at hl 0 rfl) ?_
                refine lv_iload_n hx hb dL_wouldChoose_4 rfl (lv_at hl 1 rfl) ?_
                refine lv_iload_n hx hb dL_wouldChoose_5 rfl (lv_at hl 2 rfl) ?_
                refine lv_iload_n hx hb dL_wouldChoose_6 rfl (lv_at hl 3 rfl) ?_
                refine lv_iload hx hb dL_wouldChoose_7 (lv_at hl 4 rfl) ?_
                refine z_i (wr := [(ou, .inl (kL, 1, .inr (.inl fo)))]) (va_runV (As := [.int 1, .int x2, .int x3, .int (-1)]) (rest := [.int 0, .ref ou]) ⟨hx, hb, hml, hown, hts⟩ (c_H_would_I1kn l eD eI ad dC dI s.heap.size hh aexpr achoo ameth aroom anod asort anote amet atold aheld apair astep asize nm nl n1 n2 nf ns nh nk np apsl acand ahint kI kL x2 x3 (hx39) (hx30) (hx32) (hx20) (hx21)) (cwV 4 hts g_c_L_wouldChoose_19 rfl rfl rfl (by decide +kernel) ⟨Nat.le_of_ble_eq_true rfl, Nat.le_of_ble_eq_true rfl⟩) (z_preV (wc := [(hh, .inr (13, [.ref aexpr, .ref achoo, .ref ameth, .ref aroom, .ref anod, .ref asort, .ref anote, .ref amet, .int 0, .int 1])), (achoo, .inr (3, [.ref aroom, .ref ameth, .ref acand, .ref ahint, .int 0, .int (-1), .int 0, .int 0, .null])), (aroom, .inr (9, [.ref asort, .ref anod, .ref atold, .int 3, .ref aheld, .int 0, .ref apair, .ref astep, .int 0, .int 0, .int (-1), .int 0, .int 0, .ref asize])), (atold, .inl (kI, 60, .inl zTold)), (anod, .inr (7, [.ref nm, .ref nl, .ref n1, .ref n2, .ref nf, .ref ns, .ref nh, .ref nk, .ref np, .int 16, .int 0, .int 16, .int 0, .int 0])), (ns, .inl (kL, 1024, .inr (.inl zSec))), (nf, .inl (kL, 1024, .inr (.inl zFir))), (asort, .inr (1, [.int 0, .ref eD, .int 0])), (astep, .inr (1, [.int 0, .ref eD, .int 0])), (apair, .inr (8, [.ref apsl, .int 0, .int 0])), (apsl, .inl (kL, 512, .inr (.inl (fun _ => 0))))]) hP hD hK hS hA hE [0, 1, 2, 3, 4, 5, 6, 7, 8, 9, 10] [0, 1] rfl (by decide) rfl (ci := 13) (q0 := 0) rfl rfl) rfl rfl hl.1 rfl (lv_room (Nat.le_of_ble_eq_true rfl)) dL_wouldChoose_9 ⟨Nat.le_of_ble_eq_true rfl, Nat.le_of_ble_eq_true rfl⟩) hP hD hK hS hA [0, 1, 2, 3, 4, 5, 6, 7, 8, 9, 10] [11] rfl rfl (by decide) (by decide) (fun r_39 u H locs hw_40 hP hD hK hS => ?_)
                obtain ⟨⟩ := u
                have hP : va_P (dC, dI) vwCl [(ou, .inl (kL, 1, .inr (.inl fo)))] H := hP
                have hD : va_D A [(ou, .inl (kL, 1, .inr (.inl fo)))] := hD
                have hK : va_K (dC, dI) vwCl [(kI, .int), (kL, .long)] s := by simpa using hK
                have hw_40 : r_39 = (-1) := hw_40
                have hw_40 := hw_40.symm
                subst hw_40
                refine lv_i2l (v := (-1)) hx hb dL_wouldChoose_12 (by decide) ?_
                refine va_last (D := (dC, dI)) hx hb hK hP hD hS 0 1 rfl rfl (by unfold vp_in; decide) dL_wouldChoose_13 (fun H locs hP hD hS => ?_)
                have hP : va_P (dC, dI) vwCl [(ou, .inl (kL, 1, .inr (.inl (vp_updL fo (0 : Int32).toNatClampNeg (-1)))))] H := hP
                have hD : va_D A [(ou, .inl (kL, 1, .inr (.inl (vp_updL fo (0 : Int32).toNatClampNeg (-1)))))] := hD
                refine lv_goto (tgt := 25) hx hb dL_wouldChoose_14 (by decide) ?_
                refine lv_iconst (v := 0) hx hb dL_wouldChoose_25 (by decide) ?_
                have hP9 := hP.sub (ws' := [(ou, .inl (kL, 1, .inr (.inl (vp_updL fo (0 : Int32).toNatClampNeg (-1)))))]) [0] rfl
                have hD9 := hD.sub (ws' := [(ou, .inl (kL, 1, .inr (.inl (vp_updL fo (0 : Int32).toNatClampNeg (-1)))))]) [0] (by decide) rfl
                have hK9 := hK.sub (tys' := [(kL, .long)]) [1] rfl
                refine W.widen (k := 2) (n := 24) (Nat.le_of_ble_eq_true rfl) (Nat.le_of_ble_eq_true rfl) ?_
                refine vx_ret ?_
                exact W.iret (v := 0) hx hb hr (fun t ht hW => ⟨⟨0, (0, (vp_updL fo (0 : Int32).toNatClampNeg (-1))), rfl, ⟨rfl, by first | decide | simp [hx10, hx11, hx39, hx30, hx31, hx20, hx21, hx12, hx32, (show ¬ x3 = 2 from fun e => hx32 (by rw [e]; decide))], by first | exact fun _ => rfl | exact fun _ => by simp [vp_updL, hx10, hx11, hx39, hx30, hx31, hx20, hx21, hx12, hx32]⟩, ⟨by rw [ht]; exact hP9, va_K.moved hW.alike hK9, hD9⟩⟩, hS.F ht⟩) hS.2.2 dL_wouldChoose_26
      · refine lv_aload hx hb dL_wouldChoose_0 (lv_at hl 5 rfl) ?_
        refine lv_iconst (v := 0) hx hb dL_wouldChoose_2 (by decide) ?_
        refine lv_aload_n hx hb dL_wouldChoose_3 rfl (lv_at hl 0 rfl) ?_
        refine lv_iload_n hx hb dL_wouldChoose_4 rfl (lv_at hl 1 rfl) ?_
        refine lv_iload_n hx hb dL_wouldChoose_5 rfl (lv_at hl 2 rfl) ?_
        refine lv_iload_n hx hb dL_wouldChoose_6 rfl (lv_at hl 3 rfl) ?_
        refine lv_iload hx hb dL_wouldChoose_7 (lv_at hl 4 rfl) ?_
        refine zx_i (wr := [(achoo, .inr (3, [.ref aroom, .ref ameth, .ref acand, .ref ahint, .int 0, .int (-1), .int 0, .int 0, .null])), (atold, .inl (kI, 60, .inl zTold)), (anod, .inr (7, [.ref nm, .ref nl, .ref n1, .ref n2, .ref nf, .ref ns, .ref nh, .ref nk, .ref np, .int 16, .int 0, .int 16, .int 0, .int 0])), (ns, .inl (kL, 1024, .inr (.inl zSec))), (nf, .inl (kL, 1024, .inr (.inl zFir))), (asort, .inr (1, [.int 0, .ref eD, .int 0])), (astep, .inr (1, [.int 0, .ref eD, .int 0])), (apair, .inr (8, [.ref apsl, .int 0, .int 0])), (apsl, .inl (kL, 512, .inr (.inl (fun _ => 0)))), (ou, .inl (kL, 1, .inr (.inl fo)))]) (vx_runV (As := [.int x1, .int x2, .int x3, .int x4]) (rest := [.int 0, .ref ou]) ⟨hx, hb, hml, hown, hts⟩ (c_H_would_Ckl l hfl eD eI ad dC dI s.heap.size hh aexpr achoo ameth aroom anod asort anote amet atold aheld apair astep asize x1 x2 x3 x4 (hx10) (hx11) (hx39) (hx30) (hx31) (hx49) (hx41)) (cwV 4 hts g_c_L_wouldChoose_20 rfl rfl rfl (by decide +kernel) ⟨Nat.le_of_ble_eq_true rfl, Nat.le_of_ble_eq_true rfl⟩) (z_preVD (wc := [(hh, .inr (13, [.ref aexpr, .ref achoo, .ref ameth, .ref aroom, .ref anod, .ref asort, .ref anote, .ref amet, .int 0, .int 1])), (aroom, .inr (9, [.ref asort, .ref anod, .ref atold, .int 3, .ref aheld, .int 0, .ref apair, .ref astep, .int 0, .int 0, .int (-1), .int 0, .int 0, .ref asize]))]) hP hD hK hS hA hE [0, 2] [] rfl (by decide) rfl (ci := 13) (q0 := 0) rfl rfl hDc) rfl rfl hl.1 rfl (lv_room (Nat.le_of_ble_eq_true rfl)) dL_wouldChoose_9 ⟨Nat.le_of_ble_eq_true rfl, Nat.le_of_ble_eq_true rfl⟩) hP hD hK hS hA [0, 2] [1, 3, 4, 5, 6, 7, 8, 9, 10, 11] rfl rfl (by decide) (by decide) (fun E ce q9 H locs hbad hP hD hS h91 h92 h93 => ?_) (fun r_41 u H locs hw_42 hP hD hK hS => ?_)
        · have hbad : E = "java/lang/IndexOutOfBoundsException" := hbad
          subst hbad
          refine vx_catch (name := "java/lang/IndexOutOfBoundsException") hown [] ⟨0, 14, 17, 21⟩ [⟨0, 14, 21, 13⟩] (by rw [htab]; rfl) (fun z h => by simp at h) (by decide) (by decide) (hts (.classLink RL 21 "java/lang/IndexOutOfBoundsException") (by decide +kernel)) (va_Nw.use rfl (hE.2.2.2.2.2.2.2.1 ("java/lang/IndexOutOfBoundsException", "java/lang/IndexOutOfBoundsException") (by decide +kernel))) h91 h92 h93 ?_
          refine W.eq (g2 := F0 m 17 ls [.ref q9]) rfl ?_
          refine lv_astore (lv' := [(6, .ref q9), (0, .ref hh), (1, .int x1), (2, .int x2), (3, .int x3), (4, .int x4), (5, .ref ou)]) hx hb dL_wouldChoose_17 hl (by decide) rfl (fun ls hl => ?_)
          refine lv_iconst (v := 1) hx hb dL_wouldChoose_19 (by decide) ?_
          have hP9 := hP.sub (ws' := [(ou, .inl (kL, 1, .inr (.inl fo)))]) [9] rfl
          have hD9 := hD.sub (ws' := [(ou, .inl (kL, 1, .inr (.inl fo)))]) [9] (by decide) rfl
          have hK9 := hK.sub (tys' := [(kL, .long)]) [1] rfl
          refine W.widen (k := 2) (n := 24) (Nat.le_of_ble_eq_true rfl) (Nat.le_of_ble_eq_true rfl) ?_
          refine vx_ret ?_
          exact W.iret (v := 1) hx hb hr (fun t ht hW => ⟨⟨1, (1, (fo)), rfl, ⟨rfl, by first | decide | simp [hx10, hx11, hx39, hx30, hx31, hx49, hx41], fun h => absurd h (by decide)⟩, ⟨by rw [ht]; exact hP9, va_K.moved hW.alike hK9, hD9⟩⟩, hS.F ht⟩) hS.2.2 dL_wouldChoose_20
        exact absurd hw_42 id
      · refine lv_aload hx hb dL_wouldChoose_0 (lv_at hl 5 rfl) ?_
        refine lv_iconst (v := 0) hx hb dL_wouldChoose_2 (by decide) ?_
        refine lv_aload_n hx hb dL_wouldChoose_3 rfl (lv_at hl 0 rfl) ?_
        refine lv_iload_n hx hb dL_wouldChoose_4 rfl (lv_at hl 1 rfl) ?_
        refine lv_iload_n hx hb dL_wouldChoose_5 rfl (lv_at hl 2 rfl) ?_
        refine lv_iload_n hx hb dL_wouldChoose_6 rfl (lv_at hl 3 rfl) ?_
        refine lv_iload hx hb dL_wouldChoose_7 (lv_at hl 4 rfl) ?_
        refine zx_i (wr := [(achoo, .inr (3, [.ref aroom, .ref ameth, .ref acand, .ref ahint, .int 0, .int (-1), .int 0, .int 0, .null])), (atold, .inl (kI, 60, .inl zTold)), (anod, .inr (7, [.ref nm, .ref nl, .ref n1, .ref n2, .ref nf, .ref ns, .ref nh, .ref nk, .ref np, .int 16, .int 0, .int 16, .int 0, .int 0])), (ns, .inl (kL, 1024, .inr (.inl zSec))), (nf, .inl (kL, 1024, .inr (.inl zFir))), (asort, .inr (1, [.int 0, .ref eD, .int 0])), (astep, .inr (1, [.int 0, .ref eD, .int 0])), (apair, .inr (8, [.ref apsl, .int 0, .int 0])), (apsl, .inl (kL, 512, .inr (.inl (fun _ => 0)))), (ou, .inl (kL, 1, .inr (.inl fo)))]) (vx_runV (As := [.int x1, .int x2, .int x3, .int x4]) (rest := [.int 0, .ref ou]) ⟨hx, hb, hml, hown, hts⟩ (c_H_would_Ckh l hfl eD eI ad dC dI s.heap.size hh aexpr achoo ameth aroom anod asort anote amet atold aheld apair astep asize x1 x2 x3 x4 (hx10) (hx11) (hx39) (hx30) (hx31) (hx49) (hx40) (hx41)) (cwV 4 hts g_c_L_wouldChoose_21 rfl rfl rfl (by decide +kernel) ⟨Nat.le_of_ble_eq_true rfl, Nat.le_of_ble_eq_true rfl⟩) (z_preVD (wc := [(hh, .inr (13, [.ref aexpr, .ref achoo, .ref ameth, .ref aroom, .ref anod, .ref asort, .ref anote, .ref amet, .int 0, .int 1])), (aroom, .inr (9, [.ref asort, .ref anod, .ref atold, .int 3, .ref aheld, .int 0, .ref apair, .ref astep, .int 0, .int 0, .int (-1), .int 0, .int 0, .ref asize]))]) hP hD hK hS hA hE [0, 2] [] rfl (by decide) rfl (ci := 13) (q0 := 0) rfl rfl hDc) rfl rfl hl.1 rfl (lv_room (Nat.le_of_ble_eq_true rfl)) dL_wouldChoose_9 ⟨Nat.le_of_ble_eq_true rfl, Nat.le_of_ble_eq_true rfl⟩) hP hD hK hS hA [0, 2] [1, 3, 4, 5, 6, 7, 8, 9, 10, 11] rfl rfl (by decide) (by decide) (fun E ce q9 H locs hbad hP hD hS h91 h92 h93 => ?_) (fun r_43 u H locs hw_44 hP hD hK hS => ?_)
        · have hbad : E = "java/lang/IndexOutOfBoundsException" := hbad
          subst hbad
          refine vx_catch (name := "java/lang/IndexOutOfBoundsException") hown [] ⟨0, 14, 17, 21⟩ [⟨0, 14, 21, 13⟩] (by rw [htab]; rfl) (fun z h => by simp at h) (by decide) (by decide) (hts (.classLink RL 21 "java/lang/IndexOutOfBoundsException") (by decide +kernel)) (va_Nw.use rfl (hE.2.2.2.2.2.2.2.1 ("java/lang/IndexOutOfBoundsException", "java/lang/IndexOutOfBoundsException") (by decide +kernel))) h91 h92 h93 ?_
          refine W.eq (g2 := F0 m 17 ls [.ref q9]) rfl ?_
          refine lv_astore (lv' := [(6, .ref q9), (0, .ref hh), (1, .int x1), (2, .int x2), (3, .int x3), (4, .int x4), (5, .ref ou)]) hx hb dL_wouldChoose_17 hl (by decide) rfl (fun ls hl => ?_)
          refine lv_iconst (v := 1) hx hb dL_wouldChoose_19 (by decide) ?_
          have hP9 := hP.sub (ws' := [(ou, .inl (kL, 1, .inr (.inl fo)))]) [9] rfl
          have hD9 := hD.sub (ws' := [(ou, .inl (kL, 1, .inr (.inl fo)))]) [9] (by decide) rfl
          have hK9 := hK.sub (tys' := [(kL, .long)]) [1] rfl
          refine W.widen (k := 2) (n := 24) (Nat.le_of_ble_eq_true rfl) (Nat.le_of_ble_eq_true rfl) ?_
          refine vx_ret ?_
          exact W.iret (v := 1) hx hb hr (fun t ht hW => ⟨⟨1, (1, (fo)), rfl, ⟨rfl, by first | decide | simp [hx10, hx11, hx39, hx30, hx31, hx49, hx40, hx41], fun h => absurd h (by decide)⟩, ⟨by rw [ht]; exact hP9, va_K.moved hW.alike hK9, hD9⟩⟩, hS.F ht⟩) hS.2.2 dL_wouldChoose_20
        exact absurd hw_44 id
      · rcases z_splitM x2 with hx21 | ⟨hx20, hx21⟩ | ⟨hx20, hx21⟩
        · refine lv_aload hx hb dL_wouldChoose_0 (lv_at hl 5 rfl) ?_
          refine lv_iconst (v := 0) hx hb dL_wouldChoose_2 (by decide) ?_
          refine lv_aload_n hx hb dL_wouldChoose_3 rfl (lv_at hl 0 rfl) ?_
          refine lv_iload_n hx hb dL_wouldChoose_4 rfl (lv_at hl 1 rfl) ?_
          refine lv_iload_n hx hb dL_wouldChoose_5 rfl (lv_at hl 2 rfl) ?_
          refine lv_iload_n hx hb dL_wouldChoose_6 rfl (lv_at hl 3 rfl) ?_
          refine lv_iload hx hb dL_wouldChoose_7 (lv_at hl 4 rfl) ?_
          refine zx_i (wr := [(achoo, .inr (3, [.ref aroom, .ref ameth, .ref acand, .ref ahint, .int 0, .int (-1), .int 0, .int 0, .null])), (atold, .inl (kI, 60, .inl zTold)), (anod, .inr (7, [.ref nm, .ref nl, .ref n1, .ref n2, .ref nf, .ref ns, .ref nh, .ref nk, .ref np, .int 16, .int 0, .int 16, .int 0, .int 0])), (ns, .inl (kL, 1024, .inr (.inl zSec))), (nf, .inl (kL, 1024, .inr (.inl zFir))), (asort, .inr (1, [.int 0, .ref eD, .int 0])), (astep, .inr (1, [.int 0, .ref eD, .int 0])), (apair, .inr (8, [.ref apsl, .int 0, .int 0])), (apsl, .inl (kL, 512, .inr (.inl (fun _ => 0)))), (ou, .inl (kL, 1, .inr (.inl fo)))]) (vx_runV (As := [.int x1, .int x2, .int x3, .int x4]) (rest := [.int 0, .ref ou]) ⟨hx, hb, hml, hown, hts⟩ (c_H_would_Dkkl l hfl eD eI ad dC dI s.heap.size hh aexpr achoo ameth aroom anod asort anote amet atold aheld apair astep asize x1 x2 x3 x4 (hx10) (hx11) (hx39) (hx30) (hx31) (hx49) (hx40) (hx41) (hx21)) (cwV 4 hts g_c_L_wouldChoose_22 rfl rfl rfl (by decide +kernel) ⟨Nat.le_of_ble_eq_true rfl, Nat.le_of_ble_eq_true rfl⟩) (z_preVD (wc := [(hh, .inr (13, [.ref aexpr, .ref achoo, .ref ameth, .ref aroom, .ref anod, .ref asort, .ref anote, .ref amet, .int 0, .int 1])), (aroom, .inr (9, [.ref asort, .ref anod, .ref atold, .int 3, .ref aheld, .int 0, .ref apair, .ref astep, .int 0, .int 0, .int (-1), .int 0, .int 0, .ref asize]))]) hP hD hK hS hA hE [0, 2] [] rfl (by decide) rfl (ci := 13) (q0 := 0) rfl rfl hDc) rfl rfl hl.1 rfl (lv_room (Nat.le_of_ble_eq_true rfl)) dL_wouldChoose_9 ⟨Nat.le_of_ble_eq_true rfl, Nat.le_of_ble_eq_true rfl⟩) hP hD hK hS hA [0, 2] [1, 3, 4, 5, 6, 7, 8, 9, 10, 11] rfl rfl (by decide) (by decide) (fun E ce q9 H locs hbad hP hD hS h91 h92 h93 => ?_) (fun r_45 u H locs hw_46 hP hD hK hS => ?_)
          · have hbad : E = "java/lang/IllegalArgumentException" := hbad
            subst hbad
            refine vx_catch (name := "java/lang/IllegalArgumentException") hown [⟨0, 14, 17, 21⟩] ⟨0, 14, 21, 13⟩ [] (by rw [htab]; rfl) (fun z h => by
                simp only [List.mem_cons, List.not_mem_nil, or_false] at h
                rcases h with rfl
                · exact Or.inr ⟨by decide, "java/lang/IndexOutOfBoundsException", (hts (.classLink RL 21 "java/lang/IndexOutOfBoundsException") (by decide +kernel)), hE.2.2.2.2.2.2.2.2.1 ("java/lang/IllegalArgumentException", "java/lang/IndexOutOfBoundsException") (by decide +kernel)⟩) (by decide) (by decide) (hts (.classLink RL 13 "java/lang/IllegalArgumentException") (by decide +kernel)) (va_Nw.use rfl (hE.2.2.2.2.2.2.2.1 ("java/lang/IllegalArgumentException", "java/lang/IllegalArgumentException") (by decide +kernel))) h91 h92 h93 ?_
            refine W.eq (g2 := F0 m 21 ls [.ref q9]) rfl ?_
            refine lv_astore (lv' := [(6, .ref q9), (0, .ref hh), (1, .int x1), (2, .int x2), (3, .int x3), (4, .int x4), (5, .ref ou)]) hx hb dL_wouldChoose_21 hl (by decide) rfl (fun ls hl => ?_)
            refine lv_iconst (v := 2) hx hb dL_wouldChoose_23 (by decide) ?_
            have hP9 := hP.sub (ws' := [(ou, .inl (kL, 1, .inr (.inl fo)))]) [9] rfl
            have hD9 := hD.sub (ws' := [(ou, .inl (kL, 1, .inr (.inl fo)))]) [9] (by decide) rfl
            have hK9 := hK.sub (tys' := [(kL, .long)]) [1] rfl
            refine W.widen (k := 2) (n := 24) (Nat.le_of_ble_eq_true rfl) (Nat.le_of_ble_eq_true rfl) ?_
            refine vx_ret ?_
            exact W.iret (v := 2) hx hb hr (fun t ht hW => ⟨⟨2, (2, (fo)), rfl, ⟨rfl, by first | decide | simp [hx10, hx11, hx39, hx30, hx31, hx49, hx40, hx41, hx21], fun h => absurd h (by decide)⟩, ⟨by rw [ht]; exact hP9, va_K.moved hW.alike hK9, hD9⟩⟩, hS.F ht⟩) hS.2.2 dL_wouldChoose_24
          exact absurd hw_46 id
        · refine lv_aload hx hb dL_wouldChoose_0 (lv_at hl 5 rfl) ?_
          refine lv_iconst (v := 0) hx hb dL_wouldChoose_2 (by decide) ?_
          refine lv_aload_n hx hb dL_wouldChoose_3 rfl (lv_at hl 0 rfl) ?_
          refine lv_iload_n hx hb dL_wouldChoose_4 rfl (lv_at hl 1 rfl) ?_
          refine lv_iload_n hx hb dL_wouldChoose_5 rfl (lv_at hl 2 rfl) ?_
          refine lv_iload_n hx hb dL_wouldChoose_6 rfl (lv_at hl 3 rfl) ?_
          refine lv_iload hx hb dL_wouldChoose_7 (lv_at hl 4 rfl) ?_
          refine zx_i (wr := [(achoo, .inr (3, [.ref aroom, .ref ameth, .ref acand, .ref ahint, .int 0, .int (-1), .int 0, .int 0, .null])), (atold, .inl (kI, 60, .inl zTold)), (anod, .inr (7, [.ref nm, .ref nl, .ref n1, .ref n2, .ref nf, .ref ns, .ref nh, .ref nk, .ref np, .int 16, .int 0, .int 16, .int 0, .int 0])), (ns, .inl (kL, 1024, .inr (.inl zSec))), (nf, .inl (kL, 1024, .inr (.inl zFir))), (asort, .inr (1, [.int 0, .ref eD, .int 0])), (astep, .inr (1, [.int 0, .ref eD, .int 0])), (apair, .inr (8, [.ref apsl, .int 0, .int 0])), (apsl, .inl (kL, 512, .inr (.inl (fun _ => 0)))), (ou, .inl (kL, 1, .inr (.inl fo)))]) (vx_runV (As := [.int x1, .int x2, .int x3, .int x4]) (rest := [.int 0, .ref ou]) ⟨hx, hb, hml, hown, hts⟩ (c_H_would_Dkkh l hfl eD eI ad dC dI s.heap.size hh aexpr achoo ameth aroom anod asort anote amet atold aheld apair astep asize x1 x2 x3 x4 (hx10) (hx11) (hx39) (hx30) (hx31) (hx49) (hx40) (hx41) (hx20) (hx21)) (cwV 4 hts g_c_L_wouldChoose_23 rfl rfl rfl (by decide +kernel) ⟨Nat.le_of_ble_eq_true rfl, Nat.le_of_ble_eq_true rfl⟩) (z_preVD (wc := [(hh, .inr (13, [.ref aexpr, .ref achoo, .ref ameth, .ref aroom, .ref anod, .ref asort, .ref anote, .ref amet, .int 0, .int 1])), (aroom, .inr (9, [.ref asort, .ref anod, .ref atold, .int 3, .ref aheld, .int 0, .ref apair, .ref astep, .int 0, .int 0, .int (-1), .int 0, .int 0, .ref asize]))]) hP hD hK hS hA hE [0, 2] [] rfl (by decide) rfl (ci := 13) (q0 := 0) rfl rfl hDc) rfl rfl hl.1 rfl (lv_room (Nat.le_of_ble_eq_true rfl)) dL_wouldChoose_9 ⟨Nat.le_of_ble_eq_true rfl, Nat.le_of_ble_eq_true rfl⟩) hP hD hK hS hA [0, 2] [1, 3, 4, 5, 6, 7, 8, 9, 10, 11] rfl rfl (by decide) (by decide) (fun E ce q9 H locs hbad hP hD hS h91 h92 h93 => ?_) (fun r_47 u H locs hw_48 hP hD hK hS => ?_)
          · have hbad : E = "java/lang/IllegalArgumentException" := hbad
            subst hbad
            refine vx_catch (name := "java/lang/IllegalArgumentException") hown [⟨0, 14, 17, 21⟩] ⟨0, 14, 21, 13⟩ [] (by rw [htab]; rfl) (fun z h => by
                simp only [List.mem_cons, List.not_mem_nil, or_false] at h
                rcases h with rfl
                · exact Or.inr ⟨by decide, "java/lang/IndexOutOfBoundsException", (hts (.classLink RL 21 "java/lang/IndexOutOfBoundsException") (by decide +kernel)), hE.2.2.2.2.2.2.2.2.1 ("java/lang/IllegalArgumentException", "java/lang/IndexOutOfBoundsException") (by decide +kernel)⟩) (by decide) (by decide) (hts (.classLink RL 13 "java/lang/IllegalArgumentException") (by decide +kernel)) (va_Nw.use rfl (hE.2.2.2.2.2.2.2.1 ("java/lang/IllegalArgumentException", "java/lang/IllegalArgumentException") (by decide +kernel))) h91 h92 h93 ?_
            refine W.eq (g2 := F0 m 21 ls [.ref q9]) rfl ?_
            refine lv_astore (lv' := [(6, .ref q9), (0, .ref hh), (1, .int x1), (2, .int x2), (3, .int x3), (4, .int x4), (5, .ref ou)]) hx hb dL_wouldChoose_21 hl (by decide) rfl (fun ls hl => ?_)
            refine lv_iconst (v := 2) hx hb dL_wouldChoose_23 (by decide) ?_
            have hP9 := hP.sub (ws' := [(ou, .inl (kL, 1, .inr (.inl fo)))]) [9] rfl
            have hD9 := hD.sub (ws' := [(ou, .inl (kL, 1, .inr (.inl fo)))]) [9] (by decide) rfl
            have hK9 := hK.sub (tys' := [(kL, .long)]) [1] rfl
            refine W.widen (k := 2) (n := 24) (Nat.le_of_ble_eq_true rfl) (Nat.le_of_ble_eq_true rfl) ?_
            refine vx_ret ?_
            exact W.iret (v := 2) hx hb hr (fun t ht hW => ⟨⟨2, (2, (fo)), rfl, ⟨rfl, by first | decide | simp [hx10, hx11, hx39, hx30, hx31, hx49, hx40, hx41, hx20, hx21], fun h => absurd h (by decide)⟩, ⟨by rw [ht]; exact hP9, va_K.moved hW.alike hK9, hD9⟩⟩, hS.F ht⟩) hS.2.2 dL_wouldChoose_24
          exact absurd hw_48 id
        · rcases z_ok2  (hx10) (hx11) with rfl | hx12
          · refine lv_aload hx hb dL_wouldChoose_0 (lv_at hl 5 rfl) ?_
            refine lv_iconst (v := 0) hx hb dL_wouldChoose_2 (by decide) ?_
            refine lv_aload_n hx hb dL_wouldChoose_3 rfl (lv_at hl 0 rfl) ?_
            refine lv_iload_n hx hb dL_wouldChoose_4 rfl (lv_at hl 1 rfl) ?_
            refine lv_iload_n hx hb dL_wouldChoose_5 rfl (lv_at hl 2 rfl) ?_
            refine lv_iload_n hx hb dL_wouldChoose_6 rfl (lv_at hl 3 rfl) ?_
            refine lv_iload hx hb dL_wouldChoose_7 (lv_at hl 4 rfl) ?_
            refine zx_i (wr := [(achoo, .inr (3, [.ref aroom, .ref ameth, .ref acand, .ref ahint, .int 0, .int (-1), .int 0, .int 0, .null])), (asort, .inr (1, [.int 0, .ref eD, .int 0])), (astep, .inr (1, [.int 0, .ref eD, .int 0])), (apair, .inr (8, [.ref apsl, .int 0, .int 0])), (apsl, .inl (kL, 512, .inr (.inl (fun _ => 0)))), (ou, .inl (kL, 1, .inr (.inl fo)))]) (vx_runV (As := [.int 2, .int x2, .int x3, .int x4]) (rest := [.int 0, .ref ou]) ⟨hx, hb, hml, hown, hts⟩ (c_H_would_Fkk l hfl eD eI ad dC dI s.heap.size hh aexpr achoo ameth aroom anod asort anote amet atold aheld apair astep asize nm nl n1 n2 nf ns nh nk np kI kL x2 x3 x4 (hx39) (hx30) (hx31) (hx49) (hx40) (hx41) (hx20) (hx21)) (cwV 4 hts g_c_L_wouldChoose_24 rfl rfl rfl (by decide +kernel) ⟨Nat.le_of_ble_eq_true rfl, Nat.le_of_ble_eq_true rfl⟩) (z_preVD (wc := [(hh, .inr (13, [.ref aexpr, .ref achoo, .ref ameth, .ref aroom, .ref anod, .ref asort, .ref anote, .ref amet, .int 0, .int 1])), (aroom, .inr (9, [.ref asort, .ref anod, .ref atold, .int 3, .ref aheld, .int 0, .ref apair, .ref astep, .int 0, .int 0, .int (-1), .int 0, .int 0, .ref asize])), (atold, .inl (kI, 60, .inl zTold)), (anod, .inr (7, [.ref nm, .ref nl, .ref n1, .ref n2, .ref nf, .ref ns, .ref nh, .ref nk, .ref np, .int 16, .int 0, .int 16, .int 0, .int 0])), (ns, .inl (kL, 1024, .inr (.inl zSec))), (nf, .inl (kL, 1024, .inr (.inl zFir)))]) hP hD hK hS hA hE [0, 2, 3, 4, 5, 6] [0, 1] rfl (by decide) rfl (ci := 13) (q0 := 0) rfl rfl hDc) rfl rfl hl.1 rfl (lv_room (Nat.le_of_ble_eq_true rfl)) dL_wouldChoose_9 ⟨Nat.le_of_ble_eq_true rfl, Nat.le_of_ble_eq_true rfl⟩) hP hD hK hS hA [0, 2, 3, 4, 5, 6] [1, 7, 8, 9, 10, 11] rfl rfl (by decide) (by decide) (fun E ce q9 H locs hbad hP hD hS h91 h92 h93 => ?_) (fun r_49 u H locs hw_50 hP hD hK hS => ?_)
            · have hbad : E = "java/lang/IllegalArgumentException" := hbad
              subst hbad
              refine vx_catch (name := "java/lang/IllegalArgumentException") hown [⟨0, 14, 17, 21⟩] ⟨0, 14, 21, 13⟩ [] (by rw [htab]; rfl) (fun z h => by
                  simp only [List.mem_cons, List.not_mem_nil, or_false] at h
                  rcases h with rfl
                  · exact Or.inr ⟨by decide, "java/lang/IndexOutOfBoundsException", (hts (.classLink RL 21 "java/lang/IndexOutOfBoundsException") (by decide +kernel)), hE.2.2.2.2.2.2.2.2.1 ("java/lang/IllegalArgumentException", "java/lang/IndexOutOfBoundsException") (by decide +kernel)⟩) (by decide) (by decide) (hts (.classLink RL 13 "java/lang/IllegalArgumentException") (by decide +kernel)) (va_Nw.use rfl (hE.2.2.2.2.2.2.2.1 ("java/lang/IllegalArgumentException", "java/lang/IllegalArgumentException") (by decide +kernel))) h91 h92 h93 ?_
              refine W.eq (g2 := F0 m 21 ls [.ref q9]) rfl ?_
              refine lv_astore (lv' := [(6, .ref q9), (0, .ref hh), (1, .int 2), (2, .int x2), (3, .int x3), (4, .int x4), (5, .ref ou)]) hx hb dL_wouldChoose_21 hl (by decide) rfl (fun ls hl => ?_)
              refine lv_iconst (v := 2) hx hb dL_wouldChoose_23 (by decide) ?_
              have hP9 := hP.sub (ws' := [(ou, .inl (kL, 1, .inr (.inl fo)))]) [5] rfl
              have hD9 := hD.sub (ws' := [(ou, .inl (kL, 1, .inr (.inl fo)))]) [5] (by decide) rfl
              have hK9 := hK.sub (tys' := [(kL, .long)]) [1] rfl
              refine W.widen (k := 2) (n := 24) (Nat.le_of_ble_eq_true rfl) (Nat.le_of_ble_eq_true rfl) ?_
              refine vx_ret ?_
              exact W.iret (v := 2) hx hb hr (fun t ht hW => ⟨⟨2, (2, (fo)), rfl, ⟨rfl, by first | decide | simp [hx10, hx11, hx39, hx30, hx31, hx49, hx40, hx41, hx20, hx21], fun h => absurd h (by decide)⟩, ⟨by rw [ht]; exact hP9, va_K.moved hW.alike hK9, hD9⟩⟩, hS.F ht⟩) hS.2.2 dL_wouldChoose_24
            exact absurd hw_50 id
          · rcases z_ok2  (hx30) (hx31) with rfl | hx32
            · refine lv_aload hx hb dL_wouldChoose_0 (lv_at hl 5 rfl) ?_
              refine lv_iconst (v := 0) hx hb dL_wouldChoose_2 (by decide) ?_
              refine lv_aload_n hx hb dL_wouldChoose_3 rfl (lv_at hl 0 rfl) ?_
              refine lv_iload_n hx hb dL_wouldChoose_4 rfl (lv_at hl 1 rfl) ?_
              refine lv_iload_n hx hb dL_wouldChoose_5 rfl (lv_at hl 2 rfl) ?_
              refine lv_iload_n hx hb dL_wouldChoose_6 rfl (lv_at hl 3 rfl) ?_
              refine lv_iload hx hb dL_wouldChoose_7 (lv_at hl 4 rfl) ?_
              refine zx_i (wr := [(achoo, .inr (3, [.ref aroom, .ref ameth, .ref acand, .ref ahint, .int 0, .int (-1), .int 0, .int 0, .null])), (asort, .inr (1, [.int 0, .ref eD, .int 0])), (astep, .inr (1, [.int 0, .ref eD, .int 0])), (apair, .inr (8, [.ref apsl, .int 0, .int 0])), (apsl, .inl (kL, 512, .inr (.inl (fun _ => 0)))), (ou, .inl (kL, 1, .inr (.inl fo)))]) (vx_runV (As := [.int x1, .int x2, .int 2, .int x4]) (rest := [.int 0, .ref ou]) ⟨hx, hb, hml, hown, hts⟩ (c_H_would_Gk l hfl eD eI ad dC dI s.heap.size hh aexpr achoo ameth aroom anod asort anote amet atold aheld apair astep asize nm nl n1 n2 nf ns nh nk np kI kL x1 x2 x4 (hx10) (hx12) (hx49) (hx40) (hx41) (hx20) (hx21)) (cwV 4 hts g_c_L_wouldChoose_25 rfl rfl rfl (by decide +kernel) ⟨Nat.le_of_ble_eq_true rfl, Nat.le_of_ble_eq_true rfl⟩) (z_preVD (wc := [(hh, .inr (13, [.ref aexpr, .ref achoo, .ref ameth, .ref aroom, .ref anod, .ref asort, .ref anote, .ref amet, .int 0, .int 1])), (aroom, .inr (9, [.ref asort, .ref anod, .ref atold, .int 3, .ref aheld, .int 0, .ref apair, .ref astep, .int 0, .int 0, .int (-1), .int 0, .int 0, .ref asize])), (atold, .inl (kI, 60, .inl zTold)), (anod, .inr (7, [.ref nm, .ref nl, .ref n1, .ref n2, .ref nf, .ref ns, .ref nh, .ref nk, .ref np, .int 16, .int 0, .int 16, .int 0, .int 0])), (ns, .inl (kL, 1024, .inr (.inl zSec))), (nf, .inl (kL, 1024, .inr (.inl zFir)))]) hP hD hK hS hA hE [0, 2, 3, 4, 5, 6] [0, 1] rfl (by decide) rfl (ci := 13) (q0 := 0) rfl rfl hDc) rfl rfl hl.1 rfl (lv_room (Nat.le_of_ble_eq_true rfl)) dL_wouldChoose_9 ⟨Nat.le_of_ble_eq_true rfl, Nat.le_of_ble_eq_true rfl⟩) hP hD hK hS hA [0, 2, 3, 4, 5, 6] [1, 7, 8, 9, 10, 11] rfl rfl (by decide) (by decide) (fun E ce q9 H locs hbad hP hD hS h91 h92 h93 => ?_) (fun r_51 u H locs hw_52 hP hD hK hS => ?_)
              · have hbad : E = "java/lang/IllegalArgumentException" := hbad
                subst hbad
                refine vx_catch (name := "java/lang/IllegalArgumentException") hown [⟨0, 14, 17, 21⟩] ⟨0, 14, 21, 13⟩ [] (by rw [htab]; rfl) (fun z h => by
                    simp only [List.mem_cons, List.not_mem_nil, or_false] at h
                    rcases h with rfl
                    · exact Or.inr ⟨by decide, "java/lang/IndexOutOfBoundsException", (hts (.classLink RL 21 "java/lang/IndexOutOfBoundsException") (by decide +kernel)), hE.2.2.2.2.2.2.2.2.1 ("java/lang/IllegalArgumentException", "java/lang/IndexOutOfBoundsException") (by decide +kernel)⟩) (by decide) (by decide) (hts (.classLink RL 13 "java/lang/IllegalArgumentException") (by decide +kernel)) (va_Nw.use rfl (hE.2.2.2.2.2.2.2.1 ("java/lang/IllegalArgumentException", "java/lang/IllegalArgumentException") (by decide +kernel))) h91 h92 h93 ?_
                refine W.eq (g2 := F0 m 21 ls [.ref q9]) rfl ?_
                refine lv_astore (lv' := [(6, .ref q9), (0, .ref hh), (1, .int x1), (2, .int x2), (3, .int 2), (4, .int x4), (5, .ref ou)]) hx hb dL_wouldChoose_21 hl (by decide) rfl (fun ls hl => ?_)
                refine lv_iconst (v := 2) hx hb dL_wouldChoose_23 (by decide) ?_
                have hP9 := hP.sub (ws' := [(ou, .inl (kL, 1, .inr (.inl fo)))]) [5] rfl
                have hD9 := hD.sub (ws' := [(ou, .inl (kL, 1, .inr (.inl fo)))]) [5] (by decide) rfl
                have hK9 := hK.sub (tys' := [(kL, .long)]) [1] rfl
                refine W.widen (k := 2) (n := 24) (Nat.le_of_ble_eq_true rfl) (Nat.le_of_ble_eq_true rfl) ?_
                refine vx_ret ?_
                exact W.iret (v := 2) hx hb hr (fun t ht hW => ⟨⟨2, (2, (fo)), rfl, ⟨rfl, by first | decide | simp [hx10, hx11, hx39, hx30, hx31, hx49, hx40, hx41, hx20, hx21, hx12, (show ¬ x1 = 2 from fun e => hx12 (by rw [e]; decide))], fun h => absurd h (by decide)⟩, ⟨by rw [ht]; exact hP9, va_K.moved hW.alike hK9, hD9⟩⟩, hS.F ht⟩) hS.2.2 dL_wouldChoose_24
              exact absurd hw_52 id
            · rcases z_ok2  (hx40) (hx41) with rfl | hx42
              · refine lv_aload hx hb dL_wouldChoose_0 (lv_at hl 5 rfl) ?_
                refine lv_iconst (v := 0) hx hb dL_wouldChoose_2 (by decide) ?_
                refine lv_aload_n hx hb dL_wouldChoose_3 rfl (lv_at hl 0 rfl) ?_
                refine lv_iload_n hx hb dL_wouldChoose_4 rfl (lv_at hl 1 rfl) ?_
                refine lv_iload_n hx hb dL_wouldChoose_5 rfl (lv_at hl 2 rfl) ?_
                refine lv_iload_n hx hb dL_wouldChoose_6 rfl (lv_at hl 3 rfl) ?_
                refine lv_iload hx hb dL_wouldChoose_7 (lv_at hl 4 rfl) ?_
                refine zx_i (wr := [(achoo, .inr (3, [.ref aroom, .ref ameth, .ref acand, .ref ahint, .int 0, .int (-1), .int 0, .int 0, .null])), (asort, .inr (1, [.int 0, .ref eD, .int 0])), (astep, .inr (1, [.int 0, .ref eD, .int 0])), (apair, .inr (8, [.ref apsl, .int 0, .int 0])), (apsl, .inl (kL, 512, .inr (.inl (fun _ => 0)))), (ou, .inl (kL, 1, .inr (.inl fo)))]) (vx_runV (As := [.int x1, .int x2, .int x3, .int 2]) (rest := [.int 0, .ref ou]) ⟨hx, hb, hml, hown, hts⟩ (c_H_would_H l hfl eD eI ad dC dI s.heap.size hh aexpr achoo ameth aroom anod asort anote amet atold aheld apair astep asize nm nl n1 n2 nf ns nh nk np kI kL x1 x2 x3 (hx10) (hx12) (hx39) (hx30) (hx32) (hx20) (hx21)) (cwV 4 hts g_c_L_wouldChoose_26 rfl rfl rfl (by decide +kernel) ⟨Nat.le_of_ble_eq_true rfl, Nat.le_of_ble_eq_true rfl⟩) (z_preVD (wc := [(hh, .inr (13, [.ref aexpr, .ref achoo, .ref ameth, .ref aroom, .ref anod, .ref asort, .ref anote, .ref amet, .int 0, .int 1])), (aroom, .inr (9, [.ref asort, .ref anod, .ref atold, .int 3, .ref aheld, .int 0, .ref apair, .ref astep, .int 0, .int 0, .int (-1), .int 0, .int 0, .ref asize])), (atold, .inl (kI, 60, .inl zTold)), (anod, .inr (7, [.ref nm, .ref nl, .ref n1, .ref n2, .ref nf, .ref ns, .ref nh, .ref nk, .ref np, .int 16, .int 0, .int 16, .int 0, .int 0])), (ns, .inl (kL, 1024, .inr (.inl zSec))), (nf, .inl (kL, 1024, .inr (.inl zFir)))]) hP hD hK hS hA hE [0, 2, 3, 4, 5, 6] [0, 1] rfl (by decide) rfl (ci := 13) (q0 := 0) rfl rfl hDc) rfl rfl hl.1 rfl (lv_room (Nat.le_of_ble_eq_true rfl)) dL_wouldChoose_9 ⟨Nat.le_of_ble_eq_true rfl, Nat.le_of_ble_eq_true rfl⟩) hP hD hK hS hA [0, 2, 3, 4, 5, 6] [1, 7, 8, 9, 10, 11] rfl rfl (by decide) (by decide) (fun E ce q9 H locs hbad hP hD hS h91 h92 h93 => ?_) (fun r_53 u H locs hw_54 hP hD hK hS => ?_)
                · have hbad : E = "java/lang/IllegalArgumentException" := hbad
                  subst hbad
                  refine vx_catch (name := "java/lang/IllegalArgumentException") hown [⟨0, 14, 17, 21⟩] ⟨0, 14, 21, 13⟩ [] (by rw [htab]; rfl) (fun z h => by
                      simp only [List.mem_cons, List.not_mem_nil, or_false] at h
                      rcases h with rfl
                      · exact Or.inr ⟨by decide, "java/lang/IndexOutOfBoundsException", (hts (.classLink RL 21 "java/lang/IndexOutOfBoundsException") (by decide +kernel)), hE.2.2.2.2.2.2.2.2.1 ("java/lang/IllegalArgumentException", "java/lang/IndexOutOfBoundsException") (by decide +kernel)⟩) (by decide) (by decide) (hts (.classLink RL 13 "java/lang/IllegalArgumentException") (by decide +kernel)) (va_Nw.use rfl (hE.2.2.2.2.2.2.2.1 ("java/lang/IllegalArgumentException", "java/lang/IllegalArgumentException") (by decide +kernel))) h91 h92 h93 ?_
                  refine W.eq (g2 := F0 m 21 ls [.ref q9]) rfl ?_
                  refine lv_astore (lv' := [(6, .ref q9), (0, .ref hh), (1, .int x1), (2, .int x2), (3, .int x3), (4, .int 2), (5, .ref ou)]) hx hb dL_wouldChoose_21 hl (by decide) rfl (fun ls hl => ?_)
                  refine lv_iconst (v := 2) hx hb dL_wouldChoose_23 (by decide) ?_
                  have hP9 := hP.sub (ws' := [(ou, .inl (kL, 1, .inr (.inl fo)))]) [5] rfl
                  have hD9 := hD.sub (ws' := [(ou, .inl (kL, 1, .inr (.inl fo)))]) [5] (by decide) rfl
                  have hK9 := hK.sub (tys' := [(kL, .long)]) [1] rfl
                  refine W.widen (k := 2) (n := 24) (Nat.le_of_ble_eq_true rfl) (Nat.le_of_ble_eq_true rfl) ?_
                  refine vx_ret ?_
                  exact W.iret (v := 2) hx hb hr (fun t ht hW => ⟨⟨2, (2, (fo)), rfl, ⟨rfl, by first | decide | simp [hx10, hx11, hx39, hx30, hx31, hx49, hx40, hx41, hx20, hx21, hx12, hx32, (show ¬ x1 = 2 from fun e => hx12 (by rw [e]; decide)), (show ¬ x3 = 2 from fun e => hx32 (by rw [e]; decide))], fun h => absurd h (by decide)⟩, ⟨by rw [ht]; exact hP9, va_K.moved hW.alike hK9, hD9⟩⟩, hS.F ht⟩) hS.2.2 dL_wouldChoose_24
                exact absurd hw_54 id
              · rcases z_ok1  (hx10) (hx12) with rfl | rfl
                · refine lv_aload hx hb dL_wouldChoose_0 (lv_at hl 5 rfl) ?_
                  refine lv_iconst (v := 0) hx hb dL_wouldChoose_2 (by decide) ?_
                  refine lv_aload_n hx hb dL_wouldChoose_3 rfl (lv_at hl 0 rfl) ?_
                  refine lv_iload_n hx hb dL_wouldChoose_4 rfl (lv_at hl 1 rfl) ?_
                  refine lv_iload_n hx hb dL_wouldChoose_5 rfl (lv_at hl 2 rfl) ?_
                  refine lv_iload_n hx hb dL_wouldChoose_6 rfl (lv_at hl 3 rfl) ?_
                  refine lv_iload hx hb dL_wouldChoose_7 (lv_at hl 4 rfl) ?_
                  refine z_i (wr := [(ou, .inl (kL, 1, .inr (.inl fo)))]) (va_runV (As := [.int 0, .int x2, .int x3, .int x4]) (rest := [.int 0, .ref ou]) ⟨hx, hb, hml, hown, hts⟩ (c_H_would_I0kk l eD eI ad dC dI s.heap.size hh aexpr achoo ameth aroom anod asort anote amet atold aheld apair astep asize nm nl n1 n2 nf ns nh nk np apsl acand ahint kI kL x2 x3 x4 (hx39) (hx30) (hx32) (hx49) (hx40) (hx42) (hx20) (hx21)) (cwV 4 hts g_c_L_wouldChoose_27 rfl rfl rfl (by decide +kernel) ⟨Nat.le_of_ble_eq_true rfl, Nat.le_of_ble_eq_true rfl⟩) (z_preV (wc := [(hh, .inr (13, [.ref aexpr, .ref achoo, .ref ameth, .ref aroom, .ref anod, .ref asort, .ref anote, .ref amet, .int 0, .int 1])), (achoo, .inr (3, [.ref aroom, .ref ameth, .ref acand, .ref ahint, .int 0, .int (-1), .int 0, .int 0, .null])), (aroom, .inr (9, [.ref asort, .ref anod, .ref atold, .int 3, .ref aheld, .int 0, .ref apair, .ref astep, .int 0, .int 0, .int (-1), .int 0, .int 0, .ref asize])), (atold, .inl (kI, 60, .inl zTold)), (anod, .inr (7, [.ref nm, .ref nl, .ref n1, .ref n2, .ref nf, .ref ns, .ref nh, .ref nk, .ref np, .int 16, .int 0, .int 16, .int 0, .int 0])), (ns, .inl (kL, 1024, .inr (.inl zSec))), (nf, .inl (kL, 1024, .inr (.inl zFir))), (asort, .inr (1, [.int 0, .ref eD, .int 0])), (astep, .inr (1, [.int 0, .ref eD, .int 0])), (apair, .inr (8, [.ref apsl, .int 0, .int 0])), (apsl, .inl (kL, 512, .inr (.inl (fun _ => 0))))]) hP hD hK hS hA hE [0, 1, 2, 3, 4, 5, 6, 7, 8, 9, 10] [0, 1] rfl (by decide) rfl (ci := 13) (q0 := 0) rfl rfl) rfl rfl hl.1 rfl (lv_room (Nat.le_of_ble_eq_true rfl)) dL_wouldChoose_9 ⟨Nat.le_of_ble_eq_true rfl, Nat.le_of_ble_eq_true rfl⟩) hP hD hK hS hA [0, 1, 2, 3, 4, 5, 6, 7, 8, 9, 10] [11] rfl rfl (by decide) (by decide) (fun r_55 u H locs hw_56 hP hD hK hS => ?_)
                  obtain ⟨⟩ := u
                  have hP : va_P (dC, dI) vwCl [(ou, .inl (kL, 1, .inr (.inl fo)))] H := hP
                  have hD : va_D A [(ou, .inl (kL, 1, .inr (.inl fo)))] := hD
                  have hK : va_K (dC, dI) vwCl [(kI, .int), (kL, .long)] s := by simpa using hK
                  have hw_56 : r_55 = (-1) := hw_56
                  have hw_56 := hw_56.symm
                  subst hw_56
                  refine lv_i2l (v := (-1)) hx hb dL_wouldChoose_12 (by decide) ?_
                  refine va_last (D := (dC, dI)) hx hb hK hP hD hS 0 1 rfl rfl (by unfold vp_in; decide) dL_wouldChoose_13 (fun H locs hP hD hS => ?_)
                  have hP : va_P (dC, dI) vwCl [(ou, .inl (kL, 1, .inr (.inl (vp_updL fo (0 : Int32).toNatClampNeg (-1)))))] H := hP
                  have hD : va_D A [(ou, .inl (kL, 1, .inr (.inl (vp_updL fo (0 : Int32).toNatClampNeg (-1)))))] := hD
                  refine lv_goto (tgt := 25) hx hb dL_wouldChoose_14 (by decide) ?_
                  refine lv_iconst (v := 0) hx hb dL_wouldChoose_25 (by decide) ?_
                  have hP9 := hP.sub (ws' := [(ou, .inl (kL, 1, .inr (.inl (vp_updL fo (0 : Int32).toNatClampNeg (-1)))))]) [0] rfl
                  have hD9 := hD.sub (ws' := [(ou, .inl (kL, 1, .inr (.inl (vp_updL fo (0 : Int32).toNatClampNeg (-1)))))]) [0] (by decide) rfl
                  have hK9 := hK.sub (tys' := [(kL, .long)]) [1] rfl
                  refine W.widen (k := 2) (n := 24) (Nat.le_of_ble_eq_true rfl) (Nat.le_of_ble_eq_true rfl) ?_
                  refine vx_ret ?_
                  exact W.iret (v := 0) hx hb hr (fun t ht hW => ⟨⟨0, (0, (vp_updL fo (0 : Int32).toNatClampNeg (-1))), rfl, ⟨rfl, by first | decide | simp [hx10, hx11, hx39, hx30, hx31, hx49, hx40, hx41, hx20, hx21, hx12, hx32, hx42, (show ¬ x3 = 2 from fun e => hx32 (by rw [e]; decide)), (show ¬ x4 = 2 from fun e => hx42 (by rw [e]; decide))], by first | exact fun _ => rfl | exact fun _ => by simp [vp_updL, hx10, hx11, hx39, hx30, hx31, hx49, hx40, hx41, hx20, hx21, hx12, hx32, hx42]⟩, ⟨by rw [ht]; exact hP9, va_K.moved hW.alike hK9, hD9⟩⟩, hS.F ht⟩) hS.2.2 dL_wouldChoose_26
                · refine lv_aload hx hb dL_wouldChoose_0 (lv_at hl 5 rfl) ?_
                  refine lv_iconst (v := 0) hx hb dL_wouldChoose_2 (by decide) ?_
                  refine lv_aload_n hx hb dL_wouldChoose_3 rfl (lv_at hl 0 rfl) ?_
                  refine lv_iload_n hx hb dL_wouldChoose_4 rfl (lv_at hl 1 rfl) ?_
                  refine lv_iload_n hx hb dL_wouldChoose_5 rfl (lv_at hl 2 rfl) ?_
                  refine lv_iload_n hx hb dL_wouldChoose_6 rfl (lv_at hl 3 rfl) ?_
                  refine lv_iload hx hb dL_wouldChoose_7 (lv_at hl 4 rfl) ?_
                  refine z_i (wr := [(ou, .inl (kL, 1, .inr (.inl fo)))]) (va_runV (As := [.int 1, .int x2, .int x3, .int x4]) (rest := [.int 0, .ref ou]) ⟨hx, hb, hml, hown, hts⟩ (c_H_would_I1kk l eD eI ad dC dI s.heap.size hh aexpr achoo ameth aroom anod asort anote amet atold aheld apair astep asize nm nl n1 n2 nf ns nh nk np apsl acand ahint kI kL x2 x3 x4 (hx39) (hx30) (hx32) (hx49) (hx40) (hx42) (hx20) (hx21)) (cwV 4 hts g_c_L_wouldChoose_28 rfl rfl rfl (by decide +kernel) ⟨Nat.le_of_ble_eq_true rfl, Nat.le_of_ble_eq_true rfl⟩) (z_preV (wc := [(hh, .inr (13, [.ref aexpr, .ref achoo, .ref ameth, .ref aroom, .ref anod, .ref asort, .ref anote, .ref amet, .int 0, .int 1])), (achoo, .inr (3, [.ref aroom, .ref ameth, .ref acand, .ref ahint, .int 0, .int (-1), .int 0, .int 0, .null])), (aroom, .inr (9, [.ref asort, .ref anod, .ref atold, .int 3, .ref aheld, .int 0, .ref apair, .ref astep, .int 0, .int 0, .int (-1), .int 0, .int 0, .ref asize])), (atold, .inl (kI, 60, .inl zTold)), (anod, .inr (7, [.ref nm, .ref nl, .ref n1, .ref n2, .ref nf, .ref ns, .ref nh, .ref nk, .ref np, .int 16, .int 0, .int 16, .int 0, .int 0])), (ns, .inl (kL, 1024, .inr (.inl zSec))), (nf, .inl (kL, 1024, .inr (.inl zFir))), (asort, .inr (1, [.int 0, .ref eD, .int 0])), (astep, .inr (1, [.int 0, .ref eD, .int 0])), (apair, .inr (8, [.ref apsl, .int 0, .int 0])), (apsl, .inl (kL, 512, .inr (.inl (fun _ => 0))))]) hP hD hK hS hA hE [0, 1, 2, 3, 4, 5, 6, 7, 8, 9, 10] [0, 1] rfl (by decide) rfl (ci := 13) (q0 := 0) rfl rfl) rfl rfl hl.1 rfl (lv_room (Nat.le_of_ble_eq_true rfl)) dL_wouldChoose_9 ⟨Nat.le_of_ble_eq_true rfl, Nat.le_of_ble_eq_true rfl⟩) hP hD hK hS hA [0, 1, 2, 3, 4, 5, 6, 7, 8, 9, 10] [11] rfl rfl (by decide) (by decide) (fun r_57 u H locs hw_58 hP hD hK hS => ?_)
                  obtain ⟨⟩ := u
                  have hP : va_P (dC, dI) vwCl [(ou, .inl (kL, 1, .inr (.inl fo)))] H := hP
                  have hD : va_D A [(ou, .inl (kL, 1, .inr (.inl fo)))] := hD
                  have hK : va_K (dC, dI) vwCl [(kI, .int), (kL, .long)] s := by simpa using hK
                  have hw_58 : r_57 = (-1) := hw_58
                  have hw_58 := hw_58.symm
                  subst hw_58
                  refine lv_i2l (v := (-1)) hx hb dL_wouldChoose_12 (by decide) ?_
                  refine va_last (D := (dC, dI)) hx hb hK hP hD hS 0 1 rfl rfl (by unfold vp_in; decide) dL_wouldChoose_13 (fun H locs hP hD hS => ?_)
                  have hP : va_P (dC, dI) vwCl [(ou, .inl (kL, 1, .inr (.inl (vp_updL fo (0 : Int32).toNatClampNeg (-1)))))] H := hP
                  have hD : va_D A [(ou, .inl (kL, 1, .inr (.inl (vp_updL fo (0 : Int32).toNatClampNeg (-1)))))] := hD
                  refine lv_goto (tgt := 25) hx hb dL_wouldChoose_14 (by decide) ?_
                  refine lv_iconst (v := 0) hx hb dL_wouldChoose_25 (by decide) ?_
                  have hP9 := hP.sub (ws' := [(ou, .inl (kL, 1, .inr (.inl (vp_updL fo (0 : Int32).toNatClampNeg (-1)))))]) [0] rfl
                  have hD9 := hD.sub (ws' := [(ou, .inl (kL, 1, .inr (.inl (vp_updL fo (0 : Int32).toNatClampNeg (-1)))))]) [0] (by decide) rfl
                  have hK9 := hK.sub (tys' := [(kL, .long)]) [1] rfl
                  refine W.widen (k := 2) (n := 24) (Nat.le_of_ble_eq_true rfl) (Nat.le_of_ble_eq_true rfl) ?_
                  refine vx_ret ?_
                  exact W.iret (v := 0) hx hb hr (fun t ht hW => ⟨⟨0, (0, (vp_updL fo (0 : Int32).toNatClampNeg (-1))), rfl, ⟨rfl, by first | decide | simp [hx10, hx11, hx39, hx30, hx31, hx49, hx40, hx41, hx20, hx21, hx12, hx32, hx42, (show ¬ x3 = 2 from fun e => hx32 (by rw [e]; decide)), (show ¬ x4 = 2 from fun e => hx42 (by rw [e]; decide))], by first | exact fun _ => rfl | exact fun _ => by simp [vp_updL, hx10, hx11, hx39, hx30, hx31, hx49, hx40, hx41, hx20, hx21, hx12, hx32, hx42]⟩, ⟨by rw [ht]; exact hP9, va_K.moved hW.alike hK9, hD9⟩⟩, hS.F ht⟩) hS.2.2 dL_wouldChoose_26
