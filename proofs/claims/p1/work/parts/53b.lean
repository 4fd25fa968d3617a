theorem dL_isUnder_0 : decode cL_isUnder 0 = .ok (.aload_n 3, 1) := by decide +kernel
theorem dL_isUnder_1 : decode cL_isUnder 1 = .ok (.iconst 0, 1) := by decide +kernel
theorem dL_isUnder_2 : decode cL_isUnder 2 = .ok (.aload_n 0, 1) := by decide +kernel
theorem dL_isUnder_3 : decode cL_isUnder 3 = .ok (.iload_n 1, 1) := by decide +kernel
theorem dL_isUnder_4 : decode cL_isUnder 4 = .ok (.iload_n 2, 1) := by decide +kernel
theorem dL_isUnder_5 : decode cL_isUnder 5 = .ok (.invokevirtual 57, 3) := by decide +kernel
theorem dL_isUnder_20 : decode cL_isUnder 20 = .ok (.astore 4, 2) := by decide +kernel
theorem dL_isUnder_22 : decode cL_isUnder 22 = .ok (.iconst 1, 1) := by decide +kernel
theorem dL_isUnder_23 : decode cL_isUnder 23 = .ok (.ireturn, 1) := by decide +kernel
theorem dL_isUnder_8 : decode cL_isUnder 8 = .ok (.ifCond .eq 7, 3) := by decide +kernel
theorem dL_isUnder_11 : decode cL_isUnder 11 = .ok (.lconst 1, 1) := by decide +kernel
theorem dL_isUnder_12 : decode cL_isUnder 12 = .ok (.goto 4, 3) := by decide +kernel
theorem dL_isUnder_16 : decode cL_isUnder 16 = .ok (.lastore, 1) := by decide +kernel
theorem dL_isUnder_17 : decode cL_isUnder 17 = .ok (.goto 7, 3) := by decide +kernel
theorem dL_isUnder_24 : decode cL_isUnder 24 = .ok (.iconst 0, 1) := by decide +kernel
theorem dL_isUnder_25 : decode cL_isUnder 25 = .ok (.ireturn, 1) := by decide +kernel
theorem dL_isUnder_15 : decode cL_isUnder 15 = .ok (.lconst 0, 1) := by decide +kernel
theorem dL_road_0 : decode cL_road 0 = .ok (.aload 4, 2) := by decide +kernel
theorem dL_road_2 : decode cL_road 2 = .ok (.iconst 0, 1) := by decide +kernel
theorem dL_road_3 : decode cL_road 3 = .ok (.aload_n 0, 1) := by decide +kernel
theorem dL_road_4 : decode cL_road 4 = .ok (.iload_n 1, 1) := by decide +kernel
theorem dL_road_5 : decode cL_road 5 = .ok (.iload_n 2, 1) := by decide +kernel
theorem dL_road_6 : decode cL_road 6 = .ok (.iload_n 3, 1) := by decide +kernel
theorem dL_road_7 : decode cL_road 7 = .ok (.invokevirtual 60, 3) := by decide +kernel
theorem dL_road_15 : decode cL_road 15 = .ok (.astore 5, 2) := by decide +kernel
theorem dL_road_17 : decode cL_road 17 = .ok (.iconst 1, 1) := by decide +kernel
theorem dL_road_18 : decode cL_road 18 = .ok (.ireturn, 1) := by decide +kernel
theorem dL_road_10 : decode cL_road 10 = .ok (.i2l, 1) := by decide +kernel
theorem dL_road_11 : decode cL_road 11 = .ok (.lastore, 1) := by decide +kernel
theorem dL_road_12 : decode cL_road 12 = .ok (.goto 7, 3) := by decide +kernel
theorem dL_road_19 : decode cL_road 19 = .ok (.iconst 0, 1) := by decide +kernel
theorem dL_road_20 : decode cL_road 20 = .ok (.ireturn, 1) := by decide +kernel
theorem dL_join_0 : decode cL_join 0 = .ok (.aload 4, 2) := by decide +kernel
theorem dL_join_2 : decode cL_join 2 = .ok (.iconst 0, 1) := by decide +kernel
theorem dL_join_3 : decode cL_join 3 = .ok (.aload_n 0, 1) := by decide +kernel
theorem dL_join_4 : decode cL_join 4 = .ok (.iload_n 1, 1) := by decide +kernel
theorem dL_join_5 : decode cL_join 5 = .ok (.iload_n 2, 1) := by decide +kernel
theorem dL_join_6 : decode cL_join 6 = .ok (.iload_n 3, 1) := by decide +kernel
theorem dL_join_7 : decode cL_join 7 = .ok (.invokevirtual 63, 3) := by decide +kernel
theorem dL_join_15 : decode cL_join 15 = .ok (.astore 5, 2) := by decide +kernel
theorem dL_join_17 : decode cL_join 17 = .ok (.iconst 1, 1) := by decide +kernel
theorem dL_join_18 : decode cL_join 18 = .ok (.ireturn, 1) := by decide +kernel
theorem dL_join_10 : decode cL_join 10 = .ok (.i2l, 1) := by decide +kernel
theorem dL_join_11 : decode cL_join 11 = .ok (.lastore, 1) := by decide +kernel
theorem dL_join_12 : decode cL_join 12 = .ok (.goto 7, 3) := by decide +kernel
theorem dL_join_19 : decode cL_join 19 = .ok (.iconst 0, 1) := by decide +kernel
theorem dL_join_20 : decode cL_join 20 = .ok (.ireturn, 1) := by decide +kernel
def wb_c_L_isUnder : List Cond := [.code yX11_isUnder cX11_isUnder 3 (some .boolean), .code yX11_needType cX11_needType 2 none, .classLink RX11 277 "java/lang/IndexOutOfBoundsException", .initialized "java/lang/IndexOutOfBoundsException", .methodLink RX11 116 yX11_needType, .instanceMethod yX11_needType, .selects RX11 yX11_needType yX11_needType, .initialized RX11, .methodLink RL 57 yX11_isUnder, .instanceMethod yX11_isUnder, .selects RX11 yX11_isUnder yX11_isUnder, .classLink RL 21 "java/lang/IndexOutOfBoundsException", .fieldLink RX11 31 "Hornbook" "room" "LHornbook$Room;", .fieldLink RX11 344 "Hornbook$Room" "tellings" "I", .code yX7_toldAt cX7_toldAt 2 (some .int), .fieldLink RX7 29 "Hornbook$Room" "tellings" "I", .fieldLink RX7 25 "Hornbook$Room" "told" "[I", .methodLink RX11 123 yX7_toldAt, .instanceMethod yX7_toldAt, .selects RX7 yX7_toldAt yX7_toldAt, .initialized RX7, .code yX7_ask cX7_ask 7 (some .int), .fieldLink RX7 49 "Hornbook$Room" "asking" "I", .fieldLink RX7 56 "Hornbook$Room" "last" "I", .fieldLink RX7 52 "Hornbook$Room" "isTidied" "Z", .code yX7_open cX7_open 5 none, .fieldLink RX7 46 "Hornbook$Room" "steps" "Ljava/util/ArrayList;", .code yJx4a65c_size_8abf5 cJx4a65c_size_8abf5 1 (some .int), .fieldLink RJx4a65c 48 "java/util/ArrayList" "size" "I", .methodLink RX7 139 yJx4a65c_size_8abf5, .instanceMethod yJx4a65c_size_8abf5, .selects RJx4a65c yJx4a65c_size_8abf5 yJx4a65c_size_8abf5, .initialized RJx4a65c, .classLink RX7 147 RX10, .instantiable RX10 14, .initialized RX10, .code yX10_init cX10_init 1 none, .methodLink RX10 1 objectInit, .instanceMethod objectInit, .code objectInit ⟨#[0xb1]⟩ 1 none, .instanceMethod yX10_init, .code yJx4a65c_add_9ea2d cJx4a65c_add_9ea2d 2 (some .boolean), .sameField "java/util/ArrayList" "java/util/AbstractList" "modCount" "I", .fieldLink RJx4a65c 63 "java/util/ArrayList" "modCount" "I", .fieldLink RJx4a65c 9 "java/util/ArrayList" "elementData" "[Ljava/lang/Object;", .code yJx4a65c_add_72be8 cJx4a65c_add_72be8 4 none, .code yJx4a65c_grow_d5877 cJx4a65c_grow_d5877 1 (some (.array (.object "java/lang/Object"))), .code yJx4a65c_grow_92f84 cJx4a65c_grow_92f84 4 (some (.array (.object "java/lang/Object"))), .fieldLink RJx4a65c 39 "java/util/ArrayList" "DEFAULTCAPACITY_EMPTY_ELEMENTDATA" "[Ljava/lang/Object;", .methodLink RJx4a65c 79 Lib.Math.max.name, .static Lib.Math.max.name, .initialized "java/lang/Math", .code Lib.Math.max.name Lib.Math.max.code 2 (some .int), .classLink RJx4a65c 7 "java/lang/Object", .methodLink RJx4a65c 69 yJx4a65c_grow_92f84, .instanceMethod yJx4a65c_grow_92f84, .selects RJx4a65c yJx4a65c_grow_92f84 yJx4a65c_grow_92f84, .methodLink RJx4a65c 129 yJx4a65c_grow_d5877, .instanceMethod yJx4a65c_grow_d5877, .selects RJx4a65c yJx4a65c_grow_d5877 yJx4a65c_grow_d5877, .methodLink RJx4a65c 131 yJx4a65c_add_72be8, .instanceMethod yJx4a65c_add_72be8, .selects RJx4a65c yJx4a65c_add_72be8 yJx4a65c_add_72be8, .methodLink RX7 239 yJx4a65c_add_9ea2d, .instanceMethod yJx4a65c_add_9ea2d, .selects RJx4a65c yJx4a65c_add_9ea2d yJx4a65c_add_9ea2d, .code yJx4a65c_get_915e3 cJx4a65c_get_915e3 2 (some (.object "java/lang/Object")), .code yJ15_checkIndex_7cf53 cJ15_checkIndex_7cf53 2 (some .int), .code yJ3_checkIndex_8e157 cJ3_checkIndex_8e157 3 (some .int), .methodLink RJ15 105 yJ3_checkIndex_8e157, .static yJ3_checkIndex_8e157, .initialized RJ3, .methodLink RJx4a65c 118 yJ15_checkIndex_7cf53, .static yJ15_checkIndex_7cf53, .initialized RJ15, .code yJx4a65c_elementData_915e3 cJx4a65c_elementData_915e3 2 (some (.object "java/lang/Object")), .methodLink RJx4a65c 123 yJx4a65c_elementData_915e3, .instanceMethod yJx4a65c_elementData_915e3, .selects RJx4a65c yJx4a65c_elementData_915e3 yJx4a65c_elementData_915e3, .methodLink RX7 143 yJx4a65c_get_915e3, .instanceMethod yJx4a65c_get_915e3, .selects RJx4a65c yJx4a65c_get_915e3 yJx4a65c_get_915e3, .classLink RX7 147 "Hornbook$Step", .fieldLink RX7 155 "Hornbook$Step" "kind" "I", .fieldLink RX7 149 "Hornbook$Step" "self" "I", .fieldLink RX7 152 "Hornbook$Step" "a" "I", .fieldLink RX7 158 "Hornbook$Step" "b" "I", .fieldLink RX7 243 "Hornbook$Step" "wanted" "I", .fieldLink RX7 161 "Hornbook$Step" "x" "I", .fieldLink RX7 164 "Hornbook$Step" "y" "I", .fieldLink RX7 167 "Hornbook$Step" "one" "I", .fieldLink RX7 170 "Hornbook$Step" "other" "I", .fieldLink RX7 246 "Hornbook$Step" "phase" "I", .fieldLink RX7 249 "Hornbook$Step" "place" "I", .fieldLink RX7 252 "Hornbook$Step" "turn" "I", .fieldLink RX7 255 "Hornbook$Step" "isBack" "Z", .fieldLink RX7 258 "Hornbook$Step" "isAnswered" "Z", .methodLink RX7 205 yX7_open, .instanceMethod yX7_open, .selects RX7 yX7_open yX7_open, .constantLong RX7 209 (1099511627776), .fieldLink RX7 21 "Hornbook$Room" "nodes" "LHornbook$Nodes;", .code yX5_isFull cX5_isFull 1 (some .boolean), .fieldLink RX5 47 "Hornbook$Nodes" "count" "I", .fieldLink RX5 28 "Hornbook$Nodes" "second" "[J", .methodLink RX7 87 yX5_isFull, .instanceMethod yX5_isFull, .selects RX5 yX5_isFull yX5_isFull, .initialized RX5, .fieldLink RX7 42 "Hornbook$Room" "pairs" "LHornbook$Pairs;", .code yX6_isCrowded cX6_isCrowded 1 (some .boolean), .fieldLink RX6 15 "Hornbook$Pairs" "count" "I", .fieldLink RX6 9 "Hornbook$Pairs" "slots" "[J", .methodLink RX7 211 yX6_isCrowded, .instanceMethod yX6_isCrowded, .selects RX6 yX6_isCrowded yX6_isCrowded, .initialized RX6, .code yX7_stepOrder cX7_stepOrder 8 none, .code yX5_through cX5_through 4 (some .int), .methodLink RX7 194 yX5_through, .instanceMethod yX5_through, .selects RX5 yX5_through yX5_through, .code yX7_known cX7_known 5 (some .int), .methodLink RX7 272 yX7_known, .instanceMethod yX7_known, .selects RX7 yX7_known yX7_known, .code yX7_answer cX7_answer 2 none, .methodLink RX7 275 yX7_answer, .instanceMethod yX7_answer, .selects RX7 yX7_answer yX7_answer, .methodLink RX7 213 yX7_stepOrder, .instanceMethod yX7_stepOrder, .selects RX7 yX7_stepOrder yX7_stepOrder, .methodLink RX11 242 yX7_ask, .instanceMethod yX7_ask, .selects RX7 yX7_ask yX7_ask, .code yX5_isJoin cX5_isJoin 2 (some .boolean), .fieldLink RX5 24 "Hornbook$Nodes" "first" "[J", .methodLink RX7 197 yX5_isJoin, .instanceMethod yX5_isJoin, .selects RX5 yX5_isJoin yX5_isJoin, .code yX5_formOf cX5_formOf 2 (some .int), .methodLink RX7 187 yX5_formOf, .instanceMethod yX5_formOf, .selects RX5 yX5_formOf yX5_formOf, .fieldLink RX7 12 "Hornbook$Room" "sorts" "Ljava/util/ArrayList;"] ++ u_ws RJx4a65c TJx4a65c 3 ++ u_ws RX10 TX10 14 ++ u_ws RX11 TX11 10 ++ u_ws RX5 TX5 14 ++ u_ws RX6 TX6 3 ++ u_ws RX7 TX7 14
def w_c_L_isUnder : List Cond := .codeWith yL_isUnder cL_isUnder 5 (some .int) [(0, 17, 20, 21)] :: (wb_c_L_isUnder ++ zAt)
set_option maxRecDepth 100000 in
theorem g_c_L_isUnder_0 : GoodIn w_c_L_isUnder (wsV RL 57 RX11 yX11_isUnder w_c_H_isUnder_l) := goodIn_app (goodIn_of _ (by decide +kernel)) (goodIn_ca (goodIn_p (big := w_c_L_isUnder) (.code yX11_isUnder cX11_isUnder 3 (some .boolean) :: wb_c_H_isUnder_l) [1, 2] rfl (by decide +kernel)) (goodIn_sub (fun _ h => List.mem_cons_of_mem _ (List.mem_append_right _ h)) zAt_good))
set_option maxRecDepth 100000 in
theorem g_c_L_isUnder_1 : GoodIn w_c_L_isUnder (wsV RL 57 RX11 yX11_isUnder w_c_H_isUnder_h) := goodIn_app (goodIn_of _ (by decide +kernel)) (goodIn_ca (goodIn_p (big := w_c_L_isUnder) (.code yX11_isUnder cX11_isUnder 3 (some .boolean) :: wb_c_H_isUnder_h) [1, 2] rfl (by decide +kernel)) (goodIn_sub (fun _ h => List.mem_cons_of_mem _ (List.mem_append_right _ h)) zAt_good))
set_option maxRecDepth 100000 in
theorem g_c_L_isUnder_2 : GoodIn w_c_L_isUnder (wsV RL 57 RX11 yX11_isUnder w_c_H_isUnder_kl) := goodIn_app (goodIn_of _ (by decide +kernel)) (goodIn_ca (goodIn_p (big := w_c_L_isUnder) (.code yX11_isUnder cX11_isUnder 3 (some .boolean) :: wb_c_H_isUnder_kl) [1, 2] rfl (by decide +kernel)) (goodIn_sub (fun _ h => List.mem_cons_of_mem _ (List.mem_append_right _ h)) zAt_good))
set_option maxRecDepth 100000 in
theorem g_c_L_isUnder_3 : GoodIn w_c_L_isUnder (wsV RL 57 RX11 yX11_isUnder w_c_H_isUnder_kh) := goodIn_app (goodIn_of _ (by decide +kernel)) (goodIn_ca (goodIn_p (big := w_c_L_isUnder) (.code yX11_isUnder cX11_isUnder 3 (some .boolean) :: wb_c_H_isUnder_kh) [1, 2] rfl (by decide +kernel)) (goodIn_sub (fun _ h => List.mem_cons_of_mem _ (List.mem_append_right _ h)) zAt_good))
set_option maxRecDepth 100000 in
theorem g_c_L_isUnder_4 : GoodIn w_c_L_isUnder (wsV RL 57 RX11 yX11_isUnder w_c_H_isUnder_00) := goodIn_app (goodIn_of _ (by decide +kernel)) (goodIn_p (big := w_c_L_isUnder) (.code yX11_isUnder cX11_isUnder 3 (some .boolean) :: wb_c_H_isUnder_00) [1, 2, 15, 22, 26, 28, 37, 40, 42, 46, 47, 48, 53, 67, 68, 69, 76, 103, 111, 118, 119, 123, 127] rfl (by decide +kernel))
set_option maxRecDepth 100000 in
theorem g_c_L_isUnder_5 : GoodIn w_c_L_isUnder (wsV RL 57 RX11 yX11_isUnder w_c_H_isUnder_01) := goodIn_app (goodIn_of _ (by decide +kernel)) (goodIn_p (big := w_c_L_isUnder) (.code yX11_isUnder cX11_isUnder 3 (some .boolean) :: wb_c_H_isUnder_01) [1, 2, 15, 22, 26, 28, 37, 40, 42, 46, 47, 48, 53, 67, 68, 69, 76, 103, 111, 118, 119, 123, 137, 142, 127] rfl (by decide +kernel))
set_option maxRecDepth 100000 in
theorem g_c_L_isUnder_6 : GoodIn w_c_L_isUnder (wsV RL 57 RX11 yX11_isUnder w_c_H_isUnder_02) := goodIn_app (goodIn_of _ (by decide +kernel)) (goodIn_p (big := w_c_L_isUnder) (.code yX11_isUnder cX11_isUnder 3 (some .boolean) :: wb_c_H_isUnder_02) [1, 2, 15, 22, 26, 28, 37, 40, 42, 46, 47, 48, 53, 67, 68, 69, 76, 103, 111, 118, 119, 123, 137, 142, 127] rfl (by decide +kernel))
set_option maxRecDepth 100000 in
theorem g_c_L_isUnder_7 : GoodIn w_c_L_isUnder (wsV RL 57 RX11 yX11_isUnder w_c_H_isUnder_10) := goodIn_app (goodIn_of _ (by decide +kernel)) (goodIn_p (big := w_c_L_isUnder) (.code yX11_isUnder cX11_isUnder 3 (some .boolean) :: wb_c_H_isUnder_10) [1, 2, 15, 22, 26, 28, 37, 40, 42, 46, 47, 48, 53, 67, 68, 69, 76, 103, 111, 118, 119, 123, 127] rfl (by decide +kernel))
set_option maxRecDepth 100000 in
theorem g_c_L_isUnder_8 : GoodIn w_c_L_isUnder (wsV RL 57 RX11 yX11_isUnder w_c_H_isUnder_11) := goodIn_app (goodIn_of _ (by decide +kernel)) (goodIn_p (big := w_c_L_isUnder) (.code yX11_isUnder cX11_isUnder 3 (some .boolean) :: wb_c_H_isUnder_11) [1, 2, 15, 22, 26, 28, 37, 40, 42, 46, 47, 48, 53, 67, 68, 69, 76, 103, 111, 118, 119, 123, 127] rfl (by decide +kernel))
set_option maxRecDepth 100000 in
theorem g_c_L_isUnder_9 : GoodIn w_c_L_isUnder (wsV RL 57 RX11 yX11_isUnder w_c_H_isUnder_12) := goodIn_app (goodIn_of _ (by decide +kernel)) (goodIn_p (big := w_c_L_isUnder) (.code yX11_isUnder cX11_isUnder 3 (some .boolean) :: wb_c_H_isUnder_12) [1, 2, 15, 22, 26, 28, 37, 40, 42, 46, 47, 48, 53, 67, 68, 69, 76, 103, 111, 118, 119, 123, 127] rfl (by decide +kernel))
set_option maxRecDepth 100000 in
theorem g_c_L_isUnder_10 : GoodIn w_c_L_isUnder (wsV RL 57 RX11 yX11_isUnder w_c_H_isUnder_20) := goodIn_app (goodIn_of _ (by decide +kernel)) (goodIn_p (big := w_c_L_isUnder) (.code yX11_isUnder cX11_isUnder 3 (some .boolean) :: wb_c_H_isUnder_20) [1, 2, 15, 22, 26, 28, 37, 40, 42, 46, 47, 48, 53, 67, 68, 69, 76, 103, 111, 118, 119, 123, 127] rfl (by decide +kernel))
set_option maxRecDepth 100000 in
theorem g_c_L_isUnder_11 : GoodIn w_c_L_isUnder (wsV RL 57 RX11 yX11_isUnder w_c_H_isUnder_21) := goodIn_app (goodIn_of _ (by decide +kernel)) (goodIn_p (big := w_c_L_isUnder) (.code yX11_isUnder cX11_isUnder 3 (some .boolean) :: wb_c_H_isUnder_21) [1, 2, 15, 22, 26, 28, 37, 40, 42, 46, 47, 48, 53, 67, 68, 69, 76, 103, 111, 118, 119, 123, 137, 142, 127] rfl (by decide +kernel))
set_option maxRecDepth 100000 in
theorem g_c_L_isUnder_12 : GoodIn w_c_L_isUnder (wsV RL 57 RX11 yX11_isUnder w_c_H_isUnder_22) := goodIn_app (goodIn_of _ (by decide +kernel)) (goodIn_p (big := w_c_L_isUnder) (.code yX11_isUnder cX11_isUnder 3 (some .boolean) :: wb_c_H_isUnder_22) [1, 2, 15, 22, 26, 28, 37, 40, 42, 46, 47, 48, 53, 67, 68, 69, 76, 103, 111, 118, 119, 123, 127] rfl (by decide +kernel))
set_option maxHeartbeats 4000000 in
set_option maxRecDepth 100000 in
theorem c_L_isUnder (l : Launch) (hfl : l.flags = flags0) (eD eI : Nat) (ad : Nat → Nat) (dC : Nat → ClassId) (dI : Nat → Nat → Nat) (sz : Nat) (hh : Nat) (aexpr : Nat) (achoo : Nat) (ameth : Nat) (aroom : Nat) (anod : Nat) (asort : Nat) (anote : Nat) (amet : Nat) (atold : Nat) (aheld : Nat) (apair : Nat) (astep : Nat) (asize : Nat) (nm : Nat) (nl : Nat) (n1 : Nat) (n2 : Nat) (nf : Nat) (ns : Nat) (nh : Nat) (nk : Nat) (np : Nat) (apsl : Nat) (ou : Nat) (kI : ClassId) (kL : ClassId) (x1 : Int32) (x2 : Int32) (fo : Nat → Int64) : vx_Met l yL_isUnder w_c_L_isUnder ({ frames := 8, cells := 2, slots := 24, locals := 173 }) (va_Pc [.ref hh, .int x1, .int x2, .ref ou] (zPreD eD eI ad (dC, dI) [(hh, .inr (13, [.ref aexpr, .ref achoo, .ref ameth, .ref aroom, .ref anod, .ref asort, .ref anote, .ref amet, .int 0, .int 1])), (aroom, .inr (9, [.ref asort, .ref anod, .ref atold, .int 3, .ref aheld, .int 0, .ref apair, .ref astep, .int 0, .int 0, .int (-1), .int 0, .int 0, .ref asize])), (atold, .inl (kI, 60, .inl zTold)), (anod, .inr (7, [.ref nm, .ref nl, .ref n1, .ref n2, .ref nf, .ref ns, .ref nh, .ref nk, .ref np, .int 16, .int 0, .int 16, .int 0, .int 0])), (ns, .inl (kL, 1024, .inr (.inl zSec))), (nf, .inl (kL, 1024, .inr (.inl zFir))), (asort, .inr (1, [.int 0, .ref eD, .int 0])), (astep, .inr (1, [.int 0, .ref eD, .int 0])), (apair, .inr (8, [.ref apsl, .int 0, .int 0])), (apsl, .inl (kL, 512, .inr (.inl (fun _ => 0)))), (ou, .inl (kL, 1, .inr (.inl fo)))] [(kI, .int), (kL, .long)] sz)) (va_Qi (fun (r : Int32) (u : Int32 × (Nat → Int64)) => match u with | (k2, fo2) => r = k2 ∧ k2 = (if x1 < 0 ∨ 2 < x1 ∨ x2 < 0 ∨ 2 < x2 then 1 else 0) ∧ (k2 = 0 → fo2 (0 : Int32).toNatClampNeg = (if x1 = x2 ∨ x1 = 1 ∨ x2 = 0 then 1 else 0))) (fun (u : Int32 × (Nat → Int64)) => match u with | (k2, fo2) => zEnd (dC, dI) (va_A [(hh, .inr (13, [.ref aexpr, .ref achoo, .ref ameth, .ref aroom, .ref anod, .ref asort, .ref anote, .ref amet, .int 0, .int 1])), (aroom, .inr (9, [.ref asort, .ref anod, .ref atold, .int 3, .ref aheld, .int 0, .ref apair, .ref astep, .int 0, .int 0, .int (-1), .int 0, .int 0, .ref asize])), (atold, .inl (kI, 60, .inl zTold)), (anod, .inr (7, [.ref nm, .ref nl, .ref n1, .ref n2, .ref nf, .ref ns, .ref nh, .ref nk, .ref np, .int 16, .int 0, .int 16, .int 0, .int 0])), (ns, .inl (kL, 1024, .inr (.inl zSec))), (nf, .inl (kL, 1024, .inr (.inl zFir))), (asort, .inr (1, [.int 0, .ref eD, .int 0])), (astep, .inr (1, [.int 0, .ref eD, .int 0])), (apair, .inr (8, [.ref apsl, .int 0, .int 0])), (apsl, .inl (kL, 512, .inr (.inl (fun _ => 0)))), (ou, .inl (kL, 1, .inr (.inl fo)))] sz) [(ou, .inl (kL, 1, .inr (.inl fo2)))] [(kL, .long)]) (va_A [(hh, .inr (13, [.ref aexpr, .ref achoo, .ref ameth, .ref aroom, .ref anod, .ref asort, .ref anote, .ref amet, .int 0, .int 1])), (aroom, .inr (9, [.ref asort, .ref anod, .ref atold, .int 3, .ref aheld, .int 0, .ref apair, .ref astep, .int 0, .int 0, .int (-1), .int 0, .int 0, .ref asize])), (atold, .inl (kI, 60, .inl zTold)), (anod, .inr (7, [.ref nm, .ref nl, .ref n1, .ref n2, .ref nf, .ref ns, .ref nh, .ref nk, .ref np, .int 16, .int 0, .int 16, .int 0, .int 0])), (ns, .inl (kL, 1024, .inr (.inl zSec))), (nf, .inl (kL, 1024, .inr (.inl zFir))), (asort, .inr (1, [.int 0, .ref eD, .int 0])), (astep, .inr (1, [.int 0, .ref eD, .int 0])), (apair, .inr (8, [.ref apsl, .int 0, .int 0])), (apsl, .inl (kL, 512, .inr (.inl (fun _ => 0)))), (ou, .inl (kL, 1, .inr (.inl fo)))] sz)) (zX (fun _ => False) (va_A [(hh, .inr (13, [.ref aexpr, .ref achoo, .ref ameth, .ref aroom, .ref anod, .ref asort, .ref anote, .ref amet, .int 0, .int 1])), (aroom, .inr (9, [.ref asort, .ref anod, .ref atold, .int 3, .ref aheld, .int 0, .ref apair, .ref astep, .int 0, .int 0, .int (-1), .int 0, .int 0, .ref asize])), (atold, .inl (kI, 60, .inl zTold)), (anod, .inr (7, [.ref nm, .ref nl, .ref n1, .ref n2, .ref nf, .ref ns, .ref nh, .ref nk, .ref np, .int 16, .int 0, .int 16, .int 0, .int 0])), (ns, .inl (kL, 1024, .inr (.inl zSec))), (nf, .inl (kL, 1024, .inr (.inl zFir))), (asort, .inr (1, [.int 0, .ref eD, .int 0])), (astep, .inr (1, [.int 0, .ref eD, .int 0])), (apair, .inr (8, [.ref apsl, .int 0, .int 0])), (apsl, .inl (kL, 512, .inr (.inl (fun _ => 0)))), (ou, .inl (kL, 1, .inr (.inl fo)))] sz)) 2 24 (va_A [(hh, .inr (13, [.ref aexpr, .ref achoo, .ref ameth, .ref aroom, .ref anod, .ref asort, .ref anote, .ref amet, .int 0, .int 1])), (aroom, .inr (9, [.ref asort, .ref anod, .ref atold, .int 3, .ref aheld, .int 0, .ref apair, .ref astep, .int 0, .int 0, .int (-1), .int 0, .int 0, .ref asize])), (atold, .inl (kI, 60, .inl zTold)), (anod, .inr (7, [.ref nm, .ref nl, .ref n1, .ref n2, .ref nf, .ref ns, .ref nh, .ref nk, .ref np, .int 16, .int 0, .int 16, .int 0, .int 0])), (ns, .inl (kL, 1024, .inr (.inl zSec))), (nf, .inl (kL, 1024, .inr (.inl zFir))), (asort, .inr (1, [.int 0, .ref eD, .int 0])), (astep, .inr (1, [.int 0, .ref eD, .int 0])), (apair, .inr (8, [.ref apsl, .int 0, .int 0])), (apsl, .inl (kL, 512, .inr (.inl (fun _ => 0)))), (ou, .inl (kL, 1, .inr (.inl fo)))] sz) := by
  refine vx_ofWH (cc := cL_isUnder) (maxL := 5) (ret := (some .int)) (hh := [(0, 17, 20, 21)]) (by decide +kernel) rfl ?_
  intro p e s m args below meth c s₁ B hml hv
  obtain ⟨rfl, ⟨hsz, hP, hK, hD0, hE⟩, hDc⟩ := hv
  have hx := B.exec
  have hb := B.bytes
  have hr := B.returns
  have hts := atoms_spec (ws := w_c_L_isUnder) B.pre
  have hown : s.vm.findClass RL = some m.cls := findClass_of_methodNamed B.named
  have hlocks := B.notSynchronized
  have htab := vx_table (x := yL_isUnder) B (hts (.codeWith yL_isUnder cL_isUnder 5 (some .int) [(0, 17, 20, 21)]) List.mem_cons_self)
  subst hsz
  have hD := hD0.self (sz := s.heap.size)
  generalize hAe : va_A [(hh, .inr (13, [.ref aexpr, .ref achoo, .ref ameth, .ref aroom, .ref anod, .ref asort, .ref anote, .ref amet, .int 0, .int 1])), (aroom, .inr (9, [.ref asort, .ref anod, .ref atold, .int 3, .ref aheld, .int 0, .ref apair, .ref astep, .int 0, .int 0, .int (-1), .int 0, .int 0, .ref asize])), (atold, .inl (kI, 60, .inl zTold)), (anod, .inr (7, [.ref nm, .ref nl, .ref n1, .ref n2, .ref nf, .ref ns, .ref nh, .ref nk, .ref np, .int 16, .int 0, .int 16, .int 0, .int 0])), (ns, .inl (kL, 1024, .inr (.inl zSec))), (nf, .inl (kL, 1024, .inr (.inl zFir))), (asort, .inr (1, [.int 0, .ref eD, .int 0])), (astep, .inr (1, [.int 0, .ref eD, .int 0])), (apair, .inr (8, [.ref apsl, .int 0, .int 0])), (apsl, .inl (kL, 512, .inr (.inl (fun _ => 0)))), (ou, .inl (kL, 1, .inr (.inl fo)))] s.heap.size = A at hD hE ⊢
  have hA : ∀ q : Nat, s.heap.size ≤ q → A q := fun q h => by rw [← hAe]; exact Or.inr h
  have hS : va_S A s.heap s.heap [] := va_S.rf
  have hP : va_P (dC, dI) vwCl [(hh, .inr (13, [.ref aexpr, .ref achoo, .ref ameth, .ref aroom, .ref anod, .ref asort, .ref anote, .ref amet, .int 0, .int 1])), (aroom, .inr (9, [.ref asort, .ref anod, .ref atold, .int 3, .ref aheld, .int 0, .ref apair, .ref astep, .int 0, .int 0, .int (-1), .int 0, .int 0, .ref asize])), (atold, .inl (kI, 60, .inl zTold)), (anod, .inr (7, [.ref nm, .ref nl, .ref n1, .ref n2, .ref nf, .ref ns, .ref nh, .ref nk, .ref np, .int 16, .int 0, .int 16, .int 0, .int 0])), (ns, .inl (kL, 1024, .inr (.inl zSec))), (nf, .inl (kL, 1024, .inr (.inl zFir))), (asort, .inr (1, [.int 0, .ref eD, .int 0])), (astep, .inr (1, [.int 0, .ref eD, .int 0])), (apair, .inr (8, [.ref apsl, .int 0, .int 0])), (apsl, .inl (kL, 512, .inr (.inl (fun _ => 0)))), (ou, .inl (kL, 1, .inr (.inl fo)))] s.heap := hP
  have hl := lv_entry ([.ref hh, .int x1, .int x2, .ref ou]) (n := 5) (Nat.le_of_ble_eq_true rfl)
  rw [lg_entry_eq]
  generalize (lg_sl ([.ref hh, .int x1, .int x2, .ref ou]) ++ List.replicate (5 - (lg_sl ([.ref hh, .int x1, .int x2, .ref ou])).length) Slot.unset).toArray = ls at hl ⊢
  have hl : lv_has ls 5 [(0, .ref hh), (1, .int x1), (2, .int x2), (3, .ref ou)] := hl
  have in_RJx4a65c : ∀ w ∈ u_ws RJx4a65c TJx4a65c 3, w ∈ w_c_L_isUnder := by decide +kernel
  have in_RX10 : ∀ w ∈ u_ws RX10 TX10 14, w ∈ w_c_L_isUnder := by decide +kernel
  have in_RX11 : ∀ w ∈ u_ws RX11 TX11 10, w ∈ w_c_L_isUnder := by decide +kernel
  have in_RX5 : ∀ w ∈ u_ws RX5 TX5 14, w ∈ w_c_L_isUnder := by decide +kernel
  have in_RX6 : ∀ w ∈ u_ws RX6 TX6 3, w ∈ w_c_L_isUnder := by decide +kernel
  have in_RX7 : ∀ w ∈ u_ws RX7 TX7 14, w ∈ w_c_L_isUnder := by decide +kernel
  rcases z_split3 x1 with hx11 | ⟨hx10, hx11⟩ | rfl | rfl | rfl
  · refine lv_aload_n hx hb dL_isUnder_0 rfl (lv_at hl 3 rfl) ?_
    refine lv_iconst (v := 0) hx hb dL_isUnder_1 (by decide) ?_
    refine lv_aload_n hx hb dL_isUnder_2 rfl (lv_at hl 0 rfl) ?_
    refine lv_iload_n hx hb dL_isUnder_3 rfl (lv_at hl 1 rfl) ?_
    refine lv_iload_n hx hb dL_isUnder_4 rfl (lv_at hl 2 rfl) ?_
    refine zx_i (wr := [(atold, .inl (kI, 60, .inl zTold)), (anod, .inr (7, [.ref nm, .ref nl, .ref n1, .ref n2, .ref nf, .ref ns, .ref nh, .ref nk, .ref np, .int 16, .int 0, .int 16, .int 0, .int 0])), (ns, .inl (kL, 1024, .inr (.inl zSec))), (nf, .inl (kL, 1024, .inr (.inl zFir))), (asort, .inr (1, [.int 0, .ref eD, .int 0])), (astep, .inr (1, [.int 0, .ref eD, .int 0])), (apair, .inr (8, [.ref apsl, .int 0, .int 0])), (apsl, .inl (kL, 512, .inr (.inl (fun _ => 0)))), (ou, .inl (kL, 1, .inr (.inl fo)))]) (vx_runV (As := [.int x1, .int x2]) (rest := [.int 0, .ref ou]) ⟨hx, hb, hml, hown, hts⟩ (c_H_isUnder_l l hfl eD eI ad dC dI s.heap.size hh aexpr achoo ameth aroom anod asort anote amet atold aheld apair astep asize x1 x2 (hx11)) (cwV 2 hts g_c_L_isUnder_0 rfl rfl rfl (by decide +kernel) ⟨Nat.le_of_ble_eq_true rfl, Nat.le_of_ble_eq_true rfl⟩) (z_preVD (wc := [(hh, .inr (13, [.ref aexpr, .ref achoo, .ref ameth, .ref aroom, .ref anod, .ref asort, .ref anote, .ref amet, .int 0, .int 1])), (aroom, .inr (9, [.ref asort, .ref anod, .ref atold, .int 3, .ref aheld, .int 0, .ref apair, .ref astep, .int 0, .int 0, .int (-1), .int 0, .int 0, .ref asize]))]) hP hD hK hS hA hE [0, 1] [] rfl (by decide) rfl (ci := 13) (q0 := 0) rfl rfl hDc) rfl rfl hl.1 rfl (lv_room (Nat.le_of_ble_eq_true rfl)) dL_isUnder_5 ⟨Nat.le_of_ble_eq_true rfl, Nat.le_of_ble_eq_true rfl⟩) hP hD hK hS hA [0, 1] [2, 3, 4, 5, 6, 7, 8, 9, 10] rfl rfl (by decide) (by decide) (fun E ce q9 H locs hbad hP hD hS h91 h92 h93 => ?_) (fun r_1 u H locs hw_2 hP hD hK hS => ?_)
    · have hbad : E = "java/lang/IndexOutOfBoundsException" := hbad
      subst hbad
      refine vx_catch (name := "java/lang/IndexOutOfBoundsException") hown [] ⟨0, 17, 20, 21⟩ [] (by rw [htab]; rfl) (fun z h => by simp at h) (by decide) (by decide) (hts (.classLink RL 21 "java/lang/IndexOutOfBoundsException") (by decide +kernel)) (va_Nw.use rfl (hE.2.2.2.2.2.2.2.1 ("java/lang/IndexOutOfBoundsException", "java/lang/IndexOutOfBoundsException") (by decide +kernel))) h91 h92 h93 ?_
      refine W.eq (g2 := F0 m 20 ls [.ref q9]) rfl ?_
      refine lv_astore (lv' := [(4, .ref q9), (0, .ref hh), (1, .int x1), (2, .int x2), (3, .ref ou)]) hx hb dL_isUnder_20 hl (by decide) rfl (fun ls hl => ?_)
      refine lv_iconst (v := 1) hx hb dL_isUnder_22 (by decide) ?_
      have hP9 := hP.sub (ws' := [(ou, .inl (kL, 1, .inr (.inl fo)))]) [8] rfl
      have hD9 := hD.sub (ws' := [(ou, .inl (kL, 1, .inr (.inl fo)))]) [8] (by decide) rfl
      have hK9 := hK.sub (tys' := [(kL, .long)]) [1] rfl
      refine W.widen (k := 2) (n := 24) (Nat.le_of_ble_eq_true rfl) (Nat.le_of_ble_eq_true rfl) ?_
      refine vx_ret ?_
      exact W.iret (v := 1) hx hb hr (fun t ht hW => ⟨⟨1, (1, (fo)), rfl, ⟨rfl, by first | exact fun h => absurd h (by decide) | exact fun _ => rfl | rfl | decide | simp [hx11], fun h => absurd h (by decide)⟩, ⟨by rw [ht]; exact hP9, va_K.moved hW.alike hK9, hD9⟩⟩, hS.F ht⟩) hS.2.2 dL_isUnder_23
    exact absurd hw_2 id
  · refine lv_aload_n hx hb dL_isUnder_0 rfl (lv_at hl 3 rfl) ?_
    refine lv_iconst (v := 0) hx hb dL_isUnder_1 (by decide) ?_
    refine lv_aload_n hx hb dL_isUnder_2 rfl (lv_at hl 0 rfl) ?_
    refine lv_iload_n hx hb dL_isUnder_3 rfl (lv_at hl 1 rfl) ?_
    refine lv_iload_n hx hb dL_isUnder_4 rfl (lv_at hl 2 rfl) ?_
    refine zx_i (wr := [(atold, .inl (kI, 60, .inl zTold)), (anod, .inr (7, [.ref nm, .ref nl, .ref n1, .ref n2, .ref nf, .ref ns, .ref nh, .ref nk, .ref np, .int 16, .int 0, .int 16, .int 0, .int 0])), (ns, .inl (kL, 1024, .inr (.inl zSec))), (nf, .inl (kL, 1024, .inr (.inl zFir))), (asort, .inr (1, [.int 0, .ref eD, .int 0])), (astep, .inr (1, [.int 0, .ref eD, .int 0])), (apair, .inr (8, [.ref apsl, .int 0, .int 0])), (apsl, .inl (kL, 512, .inr (.inl (fun _ => 0)))), (ou, .inl (kL, 1, .inr (.inl fo)))]) (vx_runV (As := [.int x1, .int x2]) (rest := [.int 0, .ref ou]) ⟨hx, hb, hml, hown, hts⟩ (c_H_isUnder_h l hfl eD eI ad dC dI s.heap.size hh aexpr achoo ameth aroom anod asort anote amet atold aheld apair astep asize x1 x2 (hx10) (hx11)) (cwV 2 hts g_c_L_isUnder_1 rfl rfl rfl (by decide +kernel) ⟨Nat.le_of_ble_eq_true rfl, Nat.le_of_ble_eq_true rfl⟩) (z_preVD (wc := [(hh, .inr (13, [.ref aexpr, .ref achoo, .ref ameth, .ref aroom, .ref anod, .ref asort, .ref anote, .ref amet, .int 0, .int 1])), (aroom, .inr (9, [.ref asort, .ref anod, .ref atold, .int 3, .ref aheld, .int 0, .ref apair, .ref astep, .int 0, .int 0, .int (-1), .int 0, .int 0, .ref asize]))]) hP hD hK hS hA hE [0, 1] [] rfl (by decide) rfl (ci := 13) (q0 := 0) rfl rfl hDc) rfl rfl hl.1 rfl (lv_room (Nat.le_of_ble_eq_true rfl)) dL_isUnder_5 ⟨Nat.le_of_ble_eq_true rfl, Nat.le_of_ble_eq_true rfl⟩) hP hD hK hS hA [0, 1] [2, 3, 4, 5, 6, 7, 8, 9, 10] rfl rfl (by decide) (by decide) (fun E ce q9 H locs hbad hP hD hS h91 h92 h93 => ?_) (fun r_3 u H locs hw_4 hP hD hK hS => ?_)
    · have hbad : E = "java/lang/IndexOutOfBoundsException" := hbad
      subst hbad
      refine vx_catch (name := "java/lang/IndexOutOfBoundsException") hown [] ⟨0, 17, 20, 21⟩ [] (by rw [htab]; rfl) (fun z h => by simp at h) (by decide) (by decide) (hts (.classLink RL 21 "java/lang/IndexOutOfBoundsException") (by decide +kernel)) (va_Nw.use rfl (hE.2.2.2.2.2.2.2.1 ("java/lang/IndexOutOfBoundsException", "java/lang/IndexOutOfBoundsException") (by decide +kernel))) h91 h92 h93 ?_
      refine W.eq (g2 := F0 m 20 ls [.ref q9]) rfl ?_
      refine lv_astore (lv' := [(4, .ref q9), (0, .ref hh), (1, .int x1), (2, .int x2), (3, .ref ou)]) hx hb dL_isUnder_20 hl (by decide) rfl (fun ls hl => ?_)
      refine lv_iconst (v := 1) hx hb dL_isUnder_22 (by decide) ?_
      have hP9 := hP.sub (ws' := [(ou, .inl (kL, 1, .inr (.inl fo)))]) [8] rfl
      have hD9 := hD.sub (ws' := [(ou, .inl (kL, 1, .inr (.inl fo)))]) [8] (by decide) rfl
      have hK9 := hK.sub (tys' := [(kL, .long)]) [1] rfl
      refine W.widen (k := 2) (n := 24) (Nat.le_of_ble_eq_true rfl) (Nat.le_of_ble_eq_true rfl) ?_
      refine vx_ret ?_
      exact W.iret (v := 1) hx hb hr (fun t ht hW => ⟨⟨1, (1, (fo)), rfl, ⟨rfl, by first | exact fun h => absurd h (by decide) | exact fun _ => rfl | rfl | decide | simp [hx10, hx11], fun h => absurd h (by decide)⟩, ⟨by rw [ht]; exact hP9, va_K.moved hW.alike hK9, hD9⟩⟩, hS.F ht⟩) hS.2.2 dL_isUnder_23
    exact absurd hw_4 id
  · rcases z_split3 x2 with hx21 | ⟨hx20, hx21⟩ | rfl | rfl | rfl
    · refine lv_aload_n hx hb dL_isUnder_0 rfl (lv_at hl 3 rfl) ?_
      refine lv_iconst (v := 0) hx hb dL_isUnder_1 (by decide) ?_
      refine lv_aload_n hx hb dL_isUnder_2 rfl (lv_at hl 0 rfl) ?_
      refine lv_iload_n hx hb dL_isUnder_3 rfl (lv_at hl 1 rfl) ?_
      refine lv_iload_n hx hb dL_isUnder_4 rfl (lv_at hl 2 rfl) ?_
      refine zx_i (wr := [(atold, .inl (kI, 60, .inl zTold)), (anod, .inr (7, [.ref nm, .ref nl, .ref n1, .ref n2, .ref nf, .ref ns, .ref nh, .ref nk, .ref np, .int 16, .int 0, .int 16, .int 0, .int 0])), (ns, .inl (kL, 1024, .inr (.inl zSec))), (nf, .inl (kL, 1024, .inr (.inl zFir))), (asort, .inr (1, [.int 0, .ref eD, .int 0])), (astep, .inr (1, [.int 0, .ref eD, .int 0])), (apair, .inr (8, [.ref apsl, .int 0, .int 0])), (apsl, .inl (kL, 512, .inr (.inl (fun _ => 0)))), (ou, .inl (kL, 1, .inr (.inl fo)))]) (vx_runV (As := [.int 0, .int x2]) (rest := [.int 0, .ref ou]) ⟨hx, hb, hml, hown, hts⟩ (c_H_isUnder_kl l hfl eD eI ad dC dI s.heap.size hh aexpr achoo ameth aroom anod asort anote amet atold aheld apair astep asize 0 x2 (by decide) (by decide) (hx21)) (cwV 2 hts g_c_L_isUnder_2 rfl rfl rfl (by decide +kernel) ⟨Nat.le_of_ble_eq_true rfl, Nat.le_of_ble_eq_true rfl⟩) (z_preVD (wc := [(hh, .inr (13, [.ref aexpr, .ref achoo, .ref ameth, .ref aroom, .ref anod, .ref asort, .ref anote, .ref amet, .int 0, .int 1])), (aroom, .inr (9, [.ref asort, .ref anod, .ref atold, .int 3, .ref aheld, .int 0, .ref apair, .ref astep, .int 0, .int 0, .int (-1), .int 0, .int 0, .ref asize]))]) hP hD hK hS hA hE [0, 1] [] rfl (by decide) rfl (ci := 13) (q0 := 0) rfl rfl hDc) rfl rfl hl.1 rfl (lv_room (Nat.le_of_ble_eq_true rfl)) dL_isUnder_5 ⟨Nat.le_of_ble_eq_true rfl, Nat.le_of_ble_eq_true rfl⟩) hP hD hK hS hA [0, 1] [2, 3, 4, 5, 6, 7, 8, 9, 10] rfl rfl (by decide) (by decide) (fun E ce q9 H locs hbad hP hD hS h91 h92 h93 => ?_) (fun r_5 u H locs hw_6 hP hD hK hS => ?_)
      · have hbad : E = "java/lang/IndexOutOfBoundsException" := hbad
        subst hbad
        refine vx_catch (name := "java/lang/IndexOutOfBoundsException") hown [] ⟨0, 17, 20, 21⟩ [] (by rw [htab]; rfl) (fun z h => by simp at h) (by decide) (by decide) (hts (.classLink RL 21 "java/lang/IndexOutOfBoundsException") (by decide +kernel)) (va_Nw.use rfl (hE.2.2.2.2.2.2.2.1 ("java/lang/IndexOutOfBoundsException", "java/lang/IndexOutOfBoundsException") (by decide +kernel))) h91 h92 h93 ?_
        refine W.eq (g2 := F0 m 20 ls [.ref q9]) rfl ?_
        refine lv_astore (lv' := [(4, .ref q9), (0, .ref hh), (1, .int 0), (2, .int x2), (3, .ref ou)]) hx hb dL_isUnder_20 hl (by decide) rfl (fun ls hl => ?_)
        refine lv_iconst (v := 1) hx hb dL_isUnder_22 (by decide) ?_
        have hP9 := hP.sub (ws' := [(ou, .inl (kL, 1, .inr (.inl fo)))]) [8] rfl
        have hD9 := hD.sub (ws' := [(ou, .inl (kL, 1, .inr (.inl fo)))]) [8] (by decide) rfl
        have hK9 := hK.sub (tys' := [(kL, .long)]) [1] rfl
        refine W.widen (k := 2) (n := 24) (Nat.le_of_ble_eq_true rfl) (Nat.le_of_ble_eq_true rfl) ?_
        refine vx_ret ?_
        exact W.iret (v := 1) hx hb hr (fun t ht hW => ⟨⟨1, (1, (fo)), rfl, ⟨rfl, by first | exact fun h => absurd h (by decide) | exact fun _ => rfl | rfl | decide | simp [hx21], fun h => absurd h (by decide)⟩, ⟨by rw [ht]; exact hP9, va_K.moved hW.alike hK9, hD9⟩⟩, hS.F ht⟩) hS.2.2 dL_isUnder_23
      exact absurd hw_6 id
    · refine lv_aload_n hx hb dL_isUnder_0 rfl (lv_at hl 3 rfl) ?_
      refine lv_iconst (v := 0) hx hb dL_isUnder_1 (by decide) ?_
      refine lv_aload_n hx hb dL_isUnder_2 rfl (lv_at hl 0 rfl) ?_
      refine lv_iload_n hx hb dL_isUnder_3 rfl (lv_at hl 1 rfl) ?_
      refine lv_iload_n hx hb dL_isUnder_4 rfl (lv_at hl 2 rfl) ?_
      refine zx_i (wr := [(atold, .inl (kI, 60, .inl zTold)), (anod, .inr (7, [.ref nm, .ref nl, .ref n1, .ref n2, .ref nf, .ref ns, .ref nh, .ref nk, .ref np, .int 16, .int 0, .int 16, .int 0, .int 0])), (ns, .inl (kL, 1024, .inr (.inl zSec))), (nf, .inl (kL, 1024, .inr (.inl zFir))), (asort, .inr (1, [.int 0, .ref eD, .int 0])), (astep, .inr (1, [.int 0, .ref eD, .int 0])), (apair, .inr (8, [.ref apsl, .int 0, .int 0])), (apsl, .inl (kL, 512, .inr (.inl (fun _ => 0)))), (ou, .inl (kL, 1, .inr (.inl fo)))]) (vx_runV (As := [.int 0, .int x2]) (rest := [.int 0, .ref ou]) ⟨hx, hb, hml, hown, hts⟩ (c_H_isUnder_kh l hfl eD eI ad dC dI s.heap.size hh aexpr achoo ameth aroom anod asort anote amet atold aheld apair astep asize 0 x2 (by decide) (by decide) (hx20) (hx21)) (cwV 2 hts g_c_L_isUnder_3 rfl rfl rfl (by decide +kernel) ⟨Nat.le_of_ble_eq_true rfl, Nat.le_of_ble_eq_true rfl⟩) (z_preVD (wc := [(hh, .inr (13, [.ref aexpr, .ref achoo, .ref ameth, .ref aroom, .ref anod, .ref asort, .ref anote, .ref amet, .int 0, .int 1])), (aroom, .inr (9, [.ref asort, .ref anod, .ref atold, .int 3, .ref aheld, .int 0, .ref apair, .ref astep, .int 0, .int 0, .int (-1), .int 0, .int 0, .ref asize]))]) hP hD hK hS hA hE [0, 1] [] rfl (by decide) rfl (ci := 13) (q0 := 0) rfl rfl hDc) rfl rfl hl.1 rfl (lv_room (Nat.le_of_ble_eq_true rfl)) dL_isUnder_5 ⟨Nat.le_of_ble_eq_true rfl, Nat.le_of_ble_eq_true rfl⟩) hP hD hK hS hA [0, 1] [2, 3, 4, 5, 6, 7, 8, 9, 10] rfl rfl (by decide) (by decide) (fun E ce q9 H locs hbad hP hD hS h91 h92 h93 => ?_) (fun r_7 u H locs hw_8 hP hD hK hS => ?_)
      · have hbad : E = "java/lang/IndexOutOfBoundsException" := hbad
        subst hbad
        refine vx_catch (name := "java/lang/IndexOutOfBoundsException") hown [] ⟨0, 17, 20, 21⟩ [] (by rw [htab]; rfl) (fun z h => by simp at h) (by decide) (by decide) (hts (.classLink RL 21 "java/lang/IndexOutOfBoundsException") (by decide +kernel)) (va_Nw.use rfl (hE.2.2.2.2.2.2.2.1 ("java/lang/IndexOutOfBoundsException", "java/lang/IndexOutOfBoundsException") (by decide +kernel))) h91 h92 h93 ?_
        refine W.eq (g2 := F0 m 20 ls [.ref q9]) rfl ?_
        refine lv_astore (lv' := [(4, .ref q9), (0, .ref hh), (1, .int 0), (2, .int x2), (3, .ref ou)]) hx hb dL_isUnder_20 hl (by decide) rfl (fun ls hl => ?_)
        refine lv_iconst (v := 1) hx hb dL_isUnder_22 (by decide) ?_
        have hP9 := hP.sub (ws' := [(ou, .inl (kL, 1, .inr (.inl fo)))]) [8] rfl
        have hD9 := hD.sub (ws' := [(ou, .inl (kL, 1, .inr (.inl fo)))]) [8] (by decide) rfl
        have hK9 := hK.sub (tys' := [(kL, .long)]) [1] rfl
        refine W.widen (k := 2) (n := 24) (Nat.le_of_ble_eq_true rfl) (Nat.le_of_ble_eq_true rfl) ?_
        refine vx_ret ?_
        exact W.iret (v := 1) hx hb hr (fun t ht hW => ⟨⟨1, (1, (fo)), rfl, ⟨rfl, by first | exact fun h => absurd h (by decide) | exact fun _ => rfl | rfl | decide | simp [hx20, hx21], fun h => absurd h (by decide)⟩, ⟨by rw [ht]; exact hP9, va_K.moved hW.alike hK9, hD9⟩⟩, hS.F ht⟩) hS.2.2 dL_isUnder_23
      exact absurd hw_8 id
    · refine lv_aload_n hx hb dL_isUnder_0 rfl (lv_at hl 3 rfl) ?_
      refine lv_iconst (v := 0) hx hb dL_isUnder_1 (by decide) ?_
      refine lv_aload_n hx hb dL_isUnder_2 rfl (lv_at hl 0 rfl) ?_
      refine lv_iload_n hx hb dL_isUnder_3 rfl (lv_at hl 1 rfl) ?_
      refine lv_iload_n hx hb dL_isUnder_4 rfl (lv_at hl 2 rfl) ?_
      refine z_i (wr := [(ou, .inl (kL, 1, .inr (.inl fo)))]) (va_runV (As := [.int 0, .int 0]) (rest := [.int 0, .ref ou]) ⟨hx, hb, hml, hown, hts⟩ (c_H_isUnder_00 l eD eI ad dC dI s.heap.size hh aexpr achoo ameth aroom anod asort anote amet atold aheld apair astep asize nm nl n1 n2 nf ns nh nk np apsl kI kL) (cwV 2 hts g_c_L_isUnder_4 rfl rfl rfl (by decide +kernel) ⟨Nat.le_of_ble_eq_true rfl, Nat.le_of_ble_eq_true rfl⟩) (z_preV (wc := [(hh, .inr (13, [.ref aexpr, .ref achoo, .ref ameth, .ref aroom, .ref anod, .ref asort, .ref anote, .ref amet, .int 0, .int 1])), (aroom, .inr (9, [.ref asort, .ref anod, .ref atold, .int 3, .ref aheld, .int 0, .ref apair, .ref astep, .int 0, .int 0, .int (-1), .int 0, .int 0, .ref asize])), (atold, .inl (kI, 60, .inl zTold)), (anod, .inr (7, [.ref nm, .ref nl, .ref n1, .ref n2, .ref nf, .ref ns, .ref nh, .ref nk, .ref np, .int 16, .int 0, .int 16, .int 0, .int 0])), (ns, .inl (kL, 1024, .inr (.inl zSec))), (nf, .inl (kL, 1024, .inr (.inl zFir))), (asort, .inr (1, [.int 0, .ref eD, .int 0])), (astep, .inr (1, [.int 0, .ref eD, .int 0])), (apair, .inr (8, [.ref apsl, .int 0, .int 0])), (apsl, .inl (kL, 512, .inr (.inl (fun _ => 0))))]) hP hD hK hS hA hE [0, 1, 2, 3, 4, 5, 6, 7, 8, 9] [0, 1] rfl (by decide) rfl (ci := 13) (q0 := 0) rfl rfl) rfl rfl hl.1 rfl (lv_room (Nat.le_of_ble_eq_true rfl)) dL_isUnder_5 ⟨Nat.le_of_ble_eq_true rfl, Nat.le_of_ble_eq_true rfl⟩) hP hD hK hS hA [0, 1, 2, 3, 4, 5, 6, 7, 8, 9] [10] rfl rfl (by decide) (by decide) (fun r_9 u H locs hw_10 hP hD hK hS => ?_)
      obtain ⟨⟩ := u
      have hP : va_P (dC, dI) vwCl [(ou, .inl (kL, 1, .inr (.inl fo)))] H := hP
      have hD : va_D A [(ou, .inl (kL, 1, .inr (.inl fo)))] := hD
      have hK : va_K (dC, dI) vwCl [(kI, .int), (kL, .long)] s := by simpa using hK
      have hw_10 : r_9 = 1 := hw_10
      have hw_10 := hw_10.symm
      subst hw_10
      refine lv_if_eq (tgt := 15) hx hb dL_isUnder_8 (by decide) (fun c_11 => ?_) (fun c_11 => ?_)
      · exact absurd c_11 (by decide)
      refine lv_lconst (v := 1) hx hb dL_isUnder_11 (by decide) ?_
      refine lv_goto (tgt := 16) hx hb dL_isUnder_12 (by decide) ?_
      refine va_last (D := (dC, dI)) hx hb hK hP hD hS 0 1 rfl rfl (by unfold vp_in; decide) dL_isUnder_16 (fun H locs hP hD hS => ?_)
      have hP : va_P (dC, dI) vwCl [(ou, .inl (kL, 1, .inr (.inl (vp_updL fo (0 : Int32).toNatClampNeg 1))))] H := hP
      have hD : va_D A [(ou, .inl (kL, 1, .inr (.inl (vp_updL fo (0 : Int32).toNatClampNeg 1))))] := hD
      refine lv_goto (tgt := 24) hx hb dL_isUnder_17 (by decide) ?_
      refine lv_iconst (v := 0) hx hb dL_isUnder_24 (by decide) ?_
      have hP9 := hP.sub (ws' := [(ou, .inl (kL, 1, .inr (.inl (vp_updL fo (0 : Int32).toNatClampNeg 1))))]) [0] rfl
      have hD9 := hD.sub (ws' := [(ou, .inl (kL, 1, .inr (.inl (vp_updL fo (0 : Int32).toNatClampNeg 1))))]) [0] (by decide) rfl
      have hK9 := hK.sub (tys' := [(kL, .long)]) [1] rfl
      refine W.widen (k := 2) (n := 24) (Nat.le_of_ble_eq_true rfl) (Nat.le_of_ble_eq_true rfl) ?_
      refine vx_ret ?_
      exact W.iret (v := 0) hx hb hr (fun t ht hW => ⟨⟨0, (0, (vp_updL fo (0 : Int32).toNatClampNeg 1)), rfl, ⟨rfl, by first | exact fun h => absurd h (by decide) | exact fun _ => rfl | rfl | decide | simp, by first | exact fun _ => rfl | exact fun _ => by simp [vp_updL]⟩, ⟨by rw [ht]; exact hP9, va_K.moved hW.alike hK9, hD9⟩⟩, hS.F ht⟩) hS.2.2 dL_isUnder_25
    · refine lv_aload_n hx hb dL_isUnder_0 rfl (lv_at hl 3 rfl) ?_
      refine lv_iconst (v := 0) hx hb dL_isUnder_1 (by decide) ?_
      refine lv_aload_n hx hb dL_isUnder_2 rfl (lv_at hl 0 rfl) ?_
      refine lv_iload_n hx hb dL_isUnder_3 rfl (lv_at hl 1 rfl) ?_
      refine lv_iload_n hx hb dL_isUnder_4 rfl (lv_at hl 2 rfl) ?_
      refine z_i (wr := [(ou, .inl (kL, 1, .inr (.inl fo)))]) (va_runV (As := [.int 0, .int 1]) (rest := [.int 0, .ref ou]) ⟨hx, hb, hml, hown, hts⟩ (c_H_isUnder_01 l eD eI ad dC dI s.heap.size hh aexpr achoo ameth aroom anod asort anote amet atold aheld apair astep asize nm nl n1 n2 nf ns nh nk np apsl kI kL) (cwV 2 hts g_c_L_isUnder_5 rfl rfl rfl (by decide +kernel) ⟨Nat.le_of_ble_eq_true rfl, Nat.le_of_ble_eq_true rfl⟩) (z_preV (wc := [(hh, .inr (13, [.ref aexpr, .ref achoo, .ref ameth, .ref aroom, .ref anod, .ref asort, .ref anote, .ref amet, .int 0, .int 1])), (aroom, .inr (9, [.ref asort, .ref anod, .ref atold, .int 3, .ref aheld, .int 0, .ref apair, .ref astep, .int 0, .int 0, .int (-1), .int 0, .int 0, .ref asize])), (atold, .inl (kI, 60, .inl zTold)), (anod, .inr (7, [.ref nm, .ref nl, .ref n1, .ref n2, .ref nf, .ref ns, .ref nh, .ref nk, .ref np, .int 16, .int 0, .int 16, .int 0, .int 0])), (ns, .inl (kL, 1024, .inr (.inl zSec))), (nf, .inl (kL, 1024, .inr (.inl zFir))), (asort, .inr (1, [.int 0, .ref eD, .int 0])), (astep, .inr (1, [.int 0, .ref eD, .int 0])), (apair, .inr (8, [.ref apsl, .int 0, .int 0])), (apsl, .inl (kL, 512, .inr (.inl (fun _ => 0))))]) hP hD hK hS hA hE [0, 1, 2, 3, 4, 5, 6, 7, 8, 9] [0, 1] rfl (by decide) rfl (ci := 13) (q0 := 0) rfl rfl) rfl rfl hl.1 rfl (lv_room (Nat.le_of_ble_eq_true rfl)) dL_isUnder_5 ⟨Nat.le_of_ble_eq_true rfl, Nat.le_of_ble_eq_true rfl⟩) hP hD hK hS hA [0, 1, 2, 3, 4, 5, 6, 7, 8, 9] [10] rfl rfl (by decide) (by decide) (fun r_12 u H locs hw_13 hP hD hK hS => ?_)
      obtain ⟨⟩ := u
      have hP : va_P (dC, dI) vwCl [(ou, .inl (kL, 1, .inr (.inl fo)))] H := hP
      have hD : va_D A [(ou, .inl (kL, 1, .inr (.inl fo)))] := hD
      have hK : va_K (dC, dI) vwCl [(kI, .int), (kL, .long)] s := by simpa using hK
      have hw_13 : r_12 = 0 := hw_13
      have hw_13 := hw_13.symm
      subst hw_13
      refine lv_if_eq (tgt := 15) hx hb dL_isUnder_8 (by decide) (fun c_14 => ?_) (fun c_14 => ?_)
      rotate_left
      · exact absurd (by decide) c_14
      refine lv_lconst (v := 0) hx hb dL_isUnder_15 (by decide) ?_
      refine va_last (D := (dC, dI)) hx hb hK hP hD hS 0 1 rfl rfl (by unfold vp_in; decide) dL_isUnder_16 (fun H locs hP hD hS => ?_)
      have hP : va_P (dC, dI) vwCl [(ou, .inl (kL, 1, .inr (.inl (vp_updL fo (0 : Int32).toNatClampNeg 0))))] H := hP
      have hD : va_D A [(ou, .inl (kL, 1, .inr (.inl (vp_updL fo (0 : Int32).toNatClampNeg 0))))] := hD
      refine lv_goto (tgt := 24) hx hb dL_isUnder_17 (by decide) ?_
      refine lv_iconst (v := 0) hx hb dL_isUnder_24 (by decide) ?_
      have hP9 := hP.sub (ws' := [(ou, .inl (kL, 1, .inr (.inl (vp_updL fo (0 : Int32).toNatClampNeg 0))))]) [0] rfl
      have hD9 := hD.sub (ws' := [(ou, .inl (kL, 1, .inr (.inl (vp_updL fo (0 : Int32).toNatClampNeg 0))))]) [0] (by decide) rfl
      have hK9 := hK.sub (tys' := [(kL, .long)]) [1] rfl
      refine W.widen (k := 2) (n := 24) (Nat.le_of_ble_eq_true rfl) (Nat.le_of_ble_eq_true rfl) ?_
      refine vx_ret ?_
      exact W.iret (v := 0) hx hb hr (fun t ht hW => ⟨⟨0, (0, (vp_updL fo (0 : Int32).toNatClampNeg 0)), rfl, ⟨rfl, by first | exact fun h => absurd h (by decide) | exact fun _ => rfl | rfl | decide | simp, by first | exact fun _ => rfl | exact fun _ => by simp [vp_updL]⟩, ⟨by rw [ht]; exact hP9, va_K.moved hW.alike hK9, hD9⟩⟩, hS.F ht⟩) hS.2.2 dL_isUnder_25
    · refine lv_aload_n hx hb dL_isUnder_0 rfl (lv_at hl 3 rfl) ?_
      refine lv_iconst (v := 0) hx hb dL_isUnder_1 (by decide) ?_
      refine lv_aload_n hx hb dL_isUnder_2 rfl (lv_at hl 0 rfl) ?_
      refine lv_iload_n hx hb dL_isUnder_3 rfl (lv_at hl 1 rfl) ?_
      refine lv_iload_n hx hb dL_isUnder_4 rfl (lv_at hl 2 rfl) ?_
      refine z_i (wr := [(ou, .inl (kL, 1, .inr (.inl fo)))]) (va_runV (As := [.int 0, .int 2]) (rest := [.int 0, .ref ou]) ⟨hx, hb, hml, hown, hts⟩ (c_H_isUnder_02 l eD eI ad dC dI s.heap.size hh aexpr achoo ameth aroom anod asort anote amet atold aheld apair astep asize nm nl n1 n2 nf ns nh nk np apsl kI kL) (cwV 2 hts g_c_L_isUnder_6 rfl rfl rfl (by decide +kernel) ⟨Nat.le_of_ble_eq_true rfl, Nat.le_of_ble_eq_true rfl⟩) (z_preV (wc := [(hh, .inr (13, [.ref aexpr, .ref achoo, .ref ameth, .ref aroom, .ref anod, .ref asort, .ref anote, .ref amet, .int 0, .int 1])), (aroom, .inr (9, [.ref asort, .ref anod, .ref atold, .int 3, .ref aheld, .int 0, .ref apair, .ref astep, .int 0, .int 0, .int (-1), .int 0, .int 0, .ref asize])), (atold, .inl (kI, 60, .inl zTold)), (anod, .inr (7, [.ref nm, .ref nl, .ref n1, .ref n2, .ref nf, .ref ns, .ref nh, .ref nk, .ref np, .int 16, .int 0, .int 16, .int 0, .int 0])), (ns, .inl (kL, 1024, .inr (.inl zSec))), (nf, .inl (kL, 1024, .inr (.inl zFir))), (asort, .inr (1, [.int 0, .ref eD, .int 0])), (astep, .inr (1, [.int 0, .ref eD, .int 0])), (apair, .inr (8, [.ref apsl, .int 0, .int 0])), (apsl, .inl (kL, 512, .inr (.inl (fun _ => 0))))]) hP hD hK hS hA hE [0, 1, 2, 3, 4, 5, 6, 7, 8, 9] [0, 1] rfl (by decide) rfl (ci := 13) (q0 := 0) rfl rfl) rfl rfl hl.1 rfl (lv_room (Nat.le_of_ble_eq_true rfl)) dL_isUnder_5 ⟨Nat.le_of_ble_eq_true rfl, Nat.le_of_ble_eq_true rfl⟩) hP hD hK hS hA [0, 1, 2, 3, 4, 5, 6, 7, 8, 9] [10] rfl rfl (by decide) (by decide) (fun r_15 u H locs hw_16 hP hD hK hS => ?_)
      obtain ⟨⟩ := u
      have hP : va_P (dC, dI) vwCl [(ou, .inl (kL, 1, .inr (.inl fo)))] H := hP
      have hD : va_D A [(ou, .inl (kL, 1, .inr (.inl fo)))] := hD
      have hK : va_K (dC, dI) vwCl [(kI, .int), (kL, .long)] s := by simpa using hK
      have hw_16 : r_15 = 0 := hw_16
      have hw_16 := hw_16.symm
      subst hw_16
      refine lv_if_eq (tgt := 15) hx hb dL_isUnder_8 (by decide) (fun c_17 => ?_) (fun c_17 => ?_)
      rotate_left
      · exact absurd (by decide) c_17
      refine lv_lconst (v := 0) hx hb dL_isUnder_15 (by decide) ?_
      refine va_last (D := (dC, dI)) hx hb hK hP hD hS 0 1 rfl rfl (by unfold vp_in; decide) dL_isUnder_16 (fun H locs hP hD hS => ?_)
      have hP : va_P (dC, dI) vwCl [(ou, .inl (kL, 1, .inr (.inl (vp_updL fo (0 : Int32).toNatClampNeg 0))))] H := hP
      have hD : va_D A [(ou, .inl (kL, 1, .inr (.inl (vp_updL fo (0 : Int32).toNatClampNeg 0))))] := hD
      refine lv_goto (tgt := 24) hx hb dL_isUnder_17 (by decide) ?_
      refine lv_iconst (v := 0) hx hb dL_isUnder_24 (by decide) ?_
      have hP9 := hP.sub (ws' := [(ou, .inl (kL, 1, .inr (.inl (vp_updL fo (0 : Int32).toNatClampNeg 0))))]) [0] rfl
      have hD9 := hD.sub (ws' := [(ou, .inl (kL, 1, .inr (.inl (vp_updL fo (0 : Int32).toNatClampNeg 0))))]) [0] (by decide) rfl
      have hK9 := hK.sub (tys' := [(kL, .long)]) [1] rfl
      refine W.widen (k := 2) (n := 24) (Nat.le_of_ble_eq_true rfl) (Nat.le_of_ble_eq_true rfl) ?_
      refine vx_ret ?_
      exact W.iret (v := 0) hx hb hr (fun t ht hW => ⟨⟨0, (0, (vp_updL fo (0 : Int32).toNatClampNeg 0)), rfl, ⟨rfl, by first | exact fun h => absurd h (by decide) | exact fun _ => rfl | rfl | decide | simp, by first | exact fun _ => rfl | exact fun _ => by simp [vp_updL]⟩, ⟨by rw [ht]; exact hP9, va_K.moved hW.alike hK9, hD9⟩⟩, hS.F ht⟩) hS.2.2 dL_isUnder_25
  · rcases z_split3 x2 with hx21 | ⟨hx20, hx21⟩ | rfl | rfl | rfl
    · refine lv_aload_n hx hb dL_isUnder_0 rfl (lv_at hl 3 rfl) ?_
      refine lv_iconst (v := 0) hx hb dL_isUnder_1 (by decide) ?_
      refine lv_aload_n hx hb dL_isUnder_2 rfl (lv_at hl 0 rfl) ?_
      refine lv_iload_n hx hb dL_isUnder_3 rfl (lv_at hl 1 rfl) ?_
      refine lv_iload_n hx hb dL_isUnder_4 rfl (lv_at hl 2 rfl) ?_
      refine zx_i (wr := [(atold, .inl (kI, 60, .inl zTold)), (anod, .inr (7, [.ref nm, .ref nl, .ref n1, .ref n2, .ref nf, .ref ns, .ref nh, .ref nk, .ref np, .int 16, .int 0, .int 16, .int 0, .int 0])), (ns, .inl (kL, 1024, .inr (.inl zSec))), (nf, .inl (kL, 1024, .inr (.inl zFir))), (asort, .inr (1, [.int 0, .ref eD, .int 0])), (astep, .inr (1, [.int 0, .ref eD, .int 0])), (apair, .inr (8, [.ref apsl, .int 0, .int 0])), (apsl, .inl (kL, 512, .inr (.inl (fun _ => 0)))), (ou, .inl (kL, 1, .inr (.inl fo)))]) (vx_runV (As := [.int 1, .int x2]) (rest := [.int 0, .ref ou]) ⟨hx, hb, hml, hown, hts⟩ (c_H_isUnder_kl l hfl eD eI ad dC dI s.heap.size hh aexpr achoo ameth aroom anod asort anote amet atold aheld apair astep asize 1 x2 (by decide) (by decide) (hx21)) (cwV 2 hts g_c_L_isUnder_2 rfl rfl rfl (by decide +kernel) ⟨Nat.le_of_ble_eq_true rfl, Nat.le_of_ble_eq_true rfl⟩) (z_preVD (wc := [(hh, .inr (13, [.ref aexpr, .ref achoo, .ref ameth, .ref aroom, .ref anod, .ref asort, .ref anote, .ref amet, .int 0, .int 1])), (aroom, .inr (9, [.ref asort, .ref anod, .ref atold, .int 3, .ref aheld, .int 0, .ref apair, .ref astep, .int 0, .int 0, .int (-1), .int 0, .int 0, .ref asize]))]) hP hD hK hS hA hE [0, 1] [] rfl (by decide) rfl (ci := 13) (q0 := 0) rfl rfl hDc) rfl rfl hl.1 rfl (lv_room (Nat.le_of_ble_eq_true rfl)) dL_isUnder_5 ⟨Nat.le_of_ble_eq_true rfl, Nat.le_of_ble_eq_true rfl⟩) hP hD hK hS hA [0, 1] [2, 3, 4, 5, 6, 7, 8, 9, 10] rfl rfl (by decide) (by decide) (fun E ce q9 H locs hbad hP hD hS h91 h92 h93 => ?_) (fun r_18 u H locs hw_19 hP hD hK hS => ?_)
      · have hbad : E = "java/lang/IndexOutOfBoundsException" := hbad
        subst hbad
        refine vx_catch (name := "java/lang/IndexOutOfBoundsException") hown [] ⟨0, 17, 20, 21⟩ [] (by rw [htab]; rfl) (fun z h => by simp at h) (by decide) (by decide) (hts (.classLink RL 21 "java/lang/IndexOutOfBoundsException") (by decide +kernel)) (va_Nw.use rfl (hE.2.2.2.2.2.2.2.1 ("java/lang/IndexOutOfBoundsException", "java/lang/IndexOutOfBoundsException") (by decide +kernel))) h91 h92 h93 ?_
        refine W.eq (g2 := F0 m 20 ls [.ref q9]) rfl ?_
        refine lv_astore (lv' := [(4, .ref q9), (0, .ref hh), (1, .int 1), (2, .int x2), (3, .ref ou)]) hx hb dL_isUnder_20 hl (by decide) rfl (fun ls hl => ?_)
        refine lv_iconst (v := 1) hx hb dL_isUnder_22 (by decide) ?_
        have hP9 := hP.sub (ws' := [(ou, .inl (kL, 1, .inr (.inl fo)))]) [8] rfl
        have hD9 := hD.sub (ws' := [(ou, .inl (kL, 1, .inr (.inl fo)))]) [8] (by decide) rfl
        have hK9 := hK.sub (tys' := [(kL, .long)]) [1] rfl
        refine W.widen (k := 2) (n := 24) (Nat.le_of_ble_eq_true rfl) (Nat.le_of_ble_eq_true rfl) ?_
        refine vx_ret ?_
        exact W.iret (v := 1) hx hb hr (fun t ht hW => ⟨⟨1, (1, (fo)), rfl, ⟨rfl, by first | exact fun h => absurd h (by decide) | exact fun _ => rfl | rfl | decide | simp [hx21], fun h => absurd h (by decide)⟩, ⟨by rw [ht]; exact hP9, va_K.moved hW.alike hK9, hD9⟩⟩, hS.F ht⟩) hS.2.2 dL_isUnder_23
      exact absurd hw_19 id
    · refine lv_aload_n hx hb dL_isUnder_0 rfl (lv_at hl 3 rfl) ?_
      refine lv_iconst (v := 0) hx hb dL_isUnder_1 (by decide) ?_
      refine lv_aload_n hx hb dL_isUnder_2 rfl (lv_at hl 0 rfl) ?_
      refine lv_iload_n hx hb dL_isUnder_3 rfl (lv_at hl 1 rfl) ?_
      refine lv_iload_n hx hb dL_isUnder_4 rfl (lv_at hl 2 rfl) ?_
      refine zx_i (wr := [(atold, .inl (kI, 60, .inl zTold)), (anod, .inr (7, [.ref nm, .ref nl, .ref n1, .ref n2, .ref nf, .ref ns, .ref nh, .ref nk, .ref np, .int 16, .int 0, .int 16, .int 0, .int 0])), (ns, .inl (kL, 1024, .inr (.inl zSec))), (nf, .inl (kL, 1024, .inr (.inl zFir))), (asort, .inr (1, [.int 0, .ref eD, .int 0])), (astep, .inr (1, [.int 0, .ref eD, .int 0])), (apair, .inr (8, [.ref apsl, .int 0, .int 0])), (apsl, .inl (kL, 512, .inr (.inl (fun _ => 0)))), (ou, .inl (kL, 1, .inr (.inl fo)))]) (vx_runV (As := [.int 1, .int x2]) (rest := [.int 0, .ref ou]) ⟨hx, hb, hml, hown, hts⟩ (c_H_isUnder_kh l hfl eD eI ad dC dI s.heap.size hh aexpr achoo ameth aroom anod asort anote amet atold aheld apair astep asize 1 x2 (by decide) (by decide) (hx20) (hx21)) (cwV 2 hts g_c_L_isUnder_3 rfl rfl rfl (by decide +kernel) ⟨Nat.le_of_ble_eq_true rfl, Nat.le_of_ble_eq_true rfl⟩) (z_preVD (wc := [(hh, .inr (13, [.ref aexpr, .ref achoo, .ref ameth, .ref aroom, .ref anod, .ref asort, .ref anote, .ref amet, .int 0, .int 1])), (aroom, .inr (9, [.ref asort, .ref anod, .ref atold, .int 3, .ref aheld, .int 0, .ref apair, .ref astep, .int 0, .int 0, .int (-1), .int 0, .int 0, .ref asize]))]) hP hD hK hS hA hE [0, 1] [] rfl (by decide) rfl (ci := 13) (q0 := 0) rfl rfl hDc) rfl rfl hl.1 rfl (lv_room (Nat.le_of_ble_eq_true rfl)) dL_isUnder_5 ⟨Nat.le_of_ble_eq_true rfl, Nat.le_of_ble_eq_true rfl⟩) hP hD hK hS hA [0, 1] [2, 3, 4, 5, 6, 7, 8, 9, 10] rfl rfl (by decide) (by decide) (fun E ce q9 H locs hbad hP hD hS h91 h92 h93 => ?_) (fun r_20 u H locs hw_21 hP hD hK hS => ?_)
      · have hbad : E = "java/lang/IndexOutOfBoundsException" := hbad
        subst hbad
        refine vx_catch (name := "java/lang/IndexOutOfBoundsException") hown [] ⟨0, 17, 20, 21⟩ [] (by rw [htab]; rfl) (fun z h => by simp at h) (by decide) (by decide) (hts (.classLink RL 21 "java/lang/IndexOutOfBoundsException") (by decide +kernel)) (va_Nw.use rfl (hE.2.2.2.2.2.2.2.1 ("java/lang/IndexOutOfBoundsException", "java/lang/IndexOutOfBoundsException") (by decide +kernel))) h91 h92 h93 ?_
        refine W.eq (g2 := F0 m 20 ls [.ref q9]) rfl ?_
        refine lv_astore (lv' := [(4, .ref q9), (0, .ref hh), (1, .int 1), (2, .int x2), (3, .ref ou)]) hx hb dL_isUnder_20 hl (by decide) rfl (fun ls hl => ?_)
        refine lv_iconst (v := 1) hx hb dL_isUnder_22 (by decide) ?_
        have hP9 := hP.sub (ws' := [(ou, .inl (kL, 1, .inr (.inl fo)))]) [8] rfl
        have hD9 := hD.sub (ws' := [(ou, .inl (kL, 1, .inr (.inl fo)))]) [8] (by decide) rfl
        have hK9 := hK.sub (tys' := [(kL, .long)]) [1] rfl
        refine W.widen (k := 2) (n := 24) (Nat.le_of_ble_eq_true rfl) (Nat.le_of_ble_eq_true rfl) ?_
        refine vx_ret ?_
        exact W.iret (v := 1) hx hb hr (fun t ht hW => ⟨⟨1, (1, (fo)), rfl, ⟨rfl, by first | exact fun h => absurd h (by decide) | exact fun _ => rfl | rfl | decide | simp [hx20, hx21], fun h => absurd h (by decide)⟩, ⟨by rw [ht]; exact hP9, va_K.moved hW.alike hK9, hD9⟩⟩, hS.F ht⟩) hS.2.2 dL_isUnder_23
      exact absurd hw_21 id
    · refine lv_aload_n hx hb dL_isUnder_0 rfl (lv_at hl 3 rfl) ?_
      refine lv_iconst (v := 0) hx hb dL_isUnder_1 (by decide) ?_
      refine lv_aload_n hx hb dL_isUnder_2 rfl (lv_at hl 0 rfl) ?_
      refine lv_iload_n hx hb dL_isUnder_3 rfl (lv_at hl 1 rfl) ?_
      refine lv_iload_n hx hb dL_isUnder_4 rfl (lv_at hl 2 rfl) ?_
      refine z_i (wr := [(ou, .inl (kL, 1, .inr (.inl fo)))]) (va_runV (As := [.int 1, .int 0]) (rest := [.int 0, .ref ou]) ⟨hx, hb, hml, hown, hts⟩ (c_H_isUnder_10 l eD eI ad dC dI s.heap.size hh aexpr achoo ameth aroom anod asort anote amet atold aheld apair astep asize nm nl n1 n2 nf ns nh nk np apsl kI kL) (cwV 2 hts g_c_L_isUnder_7 rfl rfl rfl (by decide +kernel) ⟨Nat.le_of_ble_eq_true rfl, Nat.le_of_ble_eq_true rfl⟩) (z_preV (wc := [(hh, .inr (13, [.ref aexpr, .ref achoo, .ref ameth, .ref aroom, .ref anod, .ref asort, .ref anote, .ref amet, .int 0, .int 1])), (aroom, .inr (9, [.ref asort, .ref anod, .ref atold, .int 3, .ref aheld, .int 0, .ref apair, .ref astep, .int 0, .int 0, .int (-1), .int 0, .int 0, .ref asize])), (atold, .inl (kI, 60, .inl zTold)), (anod, .inr (7, [.ref nm, .ref nl, .ref n1, .ref n2, .ref nf, .ref ns, .ref nh, .ref nk, .ref np, .int 16, .int 0, .int 16, .int 0, .int 0])), (ns, .inl (kL, 1024, .inr (.inl zSec))), (nf, .inl (kL, 1024, .inr (.inl zFir))), (asort, .inr (1, [.int 0, .ref eD, .int 0])), (astep, .inr (1, [.int 0, .ref eD, .int 0])), (apair, .inr (8, [.ref apsl, .int 0, .int 0])), (apsl, .inl (kL, 512, .inr (.inl (fun _ => 0))))]) hP hD hK hS hA hE [0, 1, 2, 3, 4, 5, 6, 7, 8, 9] [0, 1] rfl (by decide) rfl (ci := 13) (q0 := 0) rfl rfl) rfl rfl hl.1 rfl (lv_room (Nat.le_of_ble_eq_true rfl)) dL_isUnder_5 ⟨Nat.le_of_ble_eq_true rfl, Nat.le_of_ble_eq_true rfl⟩) hP hD hK hS hA [0, 1, 2, 3, 4, 5, 6, 7, 8, 9] [10] rfl rfl (by decide) (by decide) (fun r_22 u H locs hw_23 hP hD hK hS => ?_)
      obtain ⟨⟩ := u
      have hP : va_P (dC, dI) vwCl [(ou, .inl (kL, 1, .inr (.inl fo)))] H := hP
      have hD : va_D A [(ou, .inl (kL, 1, .inr (.inl fo)))] := hD
      have hK : va_K (dC, dI) vwCl [(kI, .int), (kL, .long)] s := by simpa using hK
      have hw_23 : r_22 = 1 := hw_23
      have hw_23 := hw_23.symm
      subst hw_23
      refine lv_if_eq (tgt := 15) hx hb dL_isUnder_8 (by decide) (fun c_24 => ?_) (fun c_24 => ?_)
      · exact absurd c_24 (by decide)
      refine lv_lconst (v := 1) hx hb dL_isUnder_11 (by decide) ?_
      refine lv_goto (tgt := 16) hx hb dL_isUnder_12 (by decide) ?_
      refine va_last (D := (dC, dI)) hx hb hK hP hD hS 0 1 rfl rfl (by unfold vp_in; decide) dL_isUnder_16 (fun H locs hP hD hS => ?_)
      have hP : va_P (dC, dI) vwCl [(ou, .inl (kL, 1, .inr (.inl (vp_updL fo (0 : Int32).toNatClampNeg 1))))] H := hP
      have hD : va_D A [(ou, .inl (kL, 1, .inr (.inl (vp_updL fo (0 : Int32).toNatClampNeg 1))))] := hD
      refine lv_goto (tgt := 24) hx hb dL_isUnder_17 (by decide) ?_
      refine lv_iconst (v := 0) hx hb dL_isUnder_24 (by decide) ?_
      have hP9 := hP.sub (ws' := [(ou, .inl (kL, 1, .inr (.inl (vp_updL fo (0 : Int32).toNatClampNeg 1))))]) [0] rfl
      have hD9 := hD.sub (ws' := [(ou, .inl (kL, 1, .inr (.inl (vp_updL fo (0 : Int32).toNatClampNeg 1))))]) [0] (by decide) rfl
      have hK9 := hK.sub (tys' := [(kL, .long)]) [1] rfl
      refine W.widen (k := 2) (n := 24) (Nat.le_of_ble_eq_true rfl) (Nat.le_of_ble_eq_true rfl) ?_
      refine vx_ret ?_
      exact W.iret (v := 0) hx hb hr (fun t ht hW => ⟨⟨0, (0, (vp_updL fo (0 : Int32).toNatClampNeg 1)), rfl, ⟨rfl, by first | exact fun h => absurd h (by decide) | exact fun _ => rfl | rfl | decide | simp, by first | exact fun _ => rfl | exact fun _ => by simp [vp_updL]⟩, ⟨by rw [ht]; exact hP9, va_K.moved hW.alike hK9, hD9⟩⟩, hS.F ht⟩) hS.2.2 dL_isUnder_25
    · refine lv_aload_n hx hb dL_isUnder_0 rfl (lv_at hl 3 rfl) ?_
      refine lv_iconst (v := 0) hx hb dL_isUnder_1 (by decide) ?_
      refine lv_aload_n hx hb dL_isUnder_2 rfl (lv_at hl 0 rfl) ?_
      refine lv_iload_n hx hb dL_isUnder_3 rfl (lv_at hl 1 rfl) ?_
      refine lv_iload_n hx hb dL_isUnder_4 rfl (lv_at hl 2 rfl) ?_
      refine z_i (wr := [(ou, .inl (kL, 1, .inr (.inl fo)))]) (va_runV (As := [.int 1, .int 1]) (rest := [.int 0, .ref ou]) ⟨hx, hb, hml, hown, hts⟩ (c_H_isUnder_11 l eD eI ad dC dI s.heap.size hh aexpr achoo ameth aroom anod asort anote amet atold aheld apair astep asize nm nl n1 n2 nf ns nh nk np apsl kI kL) (cwV 2 hts g_c_L_isUnder_8 rfl rfl rfl (by decide +kernel) ⟨Nat.le_of_ble_eq_true rfl, Nat.le_of_ble_eq_true rfl⟩) (z_preV (wc := [(hh, .inr (13, [.ref aexpr, .ref achoo, .ref ameth, .ref aroom, .ref anod, .ref asort, .ref anote, .ref amet, .int 0, .int 1])), (aroom, .inr (9, [.ref asort, .ref anod, .ref atold, .int 3, .ref aheld, .int 0, .ref apair, .ref astep, .int 0, .int 0, .int (-1), .int 0, .int 0, .ref asize])), (atold, .inl (kI, 60, .inl zTold)), (anod, .inr (7, [.ref nm, .ref nl, .ref n1, .ref n2, .ref nf, .ref ns, .ref nh, .ref nk, .ref np, .int 16, .int 0, .int 16, .int 0, .int 0])), (ns, .inl (kL, 1024, .inr (.inl zSec))), (nf, .inl (kL, 1024, .inr (.inl zFir))), (asort, .inr (1, [.int 0, .ref eD, .int 0])), (astep, .inr (1, [.int 0, .ref eD, .int 0])), (apair, .inr (8, [.ref apsl, .int 0, .int 0])), (apsl, .inl (kL, 512, .inr (.inl (fun _ => 0))))]) hP hD hK hS hA hE [0, 1, 2, 3, 4, 5, 6, 7, 8, 9] [0, 1] rfl (by decide) rfl (ci := 13) (q0 := 0) rfl rfl) rfl rfl hl.1 rfl (lv_room (Nat.le_of_ble_eq_true rfl)) dL_isUnder_5 ⟨Nat.le_of_ble_eq_true rfl, Nat.le_of_ble_eq_true rfl⟩) hP hD hK hS hA [0, 1, 2, 3, 4, 5, 6, 7, 8, 9] [10] rfl rfl (by decide) (by decide) (fun r_25 u H locs hw_26 hP hD hK hS => ?_)
      obtain ⟨⟩ := u
      have hP : va_P (dC, dI) vwCl [(ou, .inl (kL, 1, .inr (.inl fo)))] H := hP
      have hD : va_D A [(ou, .inl (kL, 1, .inr (.inl fo)))] := hD
      have hK : va_K (dC, dI) vwCl [(kI, .int), (kL, .long)] s := by simpa using hK
      have hw_26 : r_25 = 1 := hw_26
      have hw_26 := hw_26.symm
      subst hw_26
      refine lv_if_eq (tgt := 15) hx hb dL_isUnder_8 (by decide) (fun c_27 => ?_) (fun c_27 => ?_)
      · exact absurd c_27 (by decide)
      refine lv_lconst (v := 1) hx hb dL_isUnder_11 (by decide) ?_
      refine lv_goto (tgt := 16) hx hb dL_isUnder_12 (by decide) ?_
      refine va_last (D := (dC, dI)) hx hb hK hP hD hS 0 1 rfl rfl (by unfold vp_in; decide) dL_isUnder_16 (fun H locs hP hD hS => ?_)
      have hP : va_P (dC, dI) vwCl [(ou, .inl (kL, 1, .inr (.inl (vp_updL fo (0 : Int32).toNatClampNeg 1))))] H := hP
      have hD : va_D A [(ou, .inl (kL, 1, .inr (.inl (vp_updL fo (0 : Int32).toNatClampNeg 1))))] := hD
      refine lv_goto (tgt := 24) hx hb dL_isUnder_17 (by decide) ?_
      refine lv_iconst (v := 0) hx hb dL_isUnder_24 (by decide) ?_
      have hP9 := hP.sub (ws' := [(ou, .inl (kL, 1, .inr (.inl (vp_updL fo (0 : Int32).toNatClampNeg 1))))]) [0] rfl
      have hD9 := hD.sub (ws' := [(ou, .inl (kL, 1, .inr (.inl (vp_updL fo (0 : Int32).toNatClampNeg 1))))]) [0] (by decide) rfl
      have hK9 := hK.sub (tys' := [(kL, .long)]) [1] rfl
      refine W.widen (k := 2) (n := 24) (Nat.le_of_ble_eq_true rfl) (Nat.le_of_ble_eq_true rfl) ?_
      refine vx_ret ?_
      exact W.iret (v := 0) hx hb hr (fun t ht hW => ⟨⟨0, (0, (vp_updL fo (0 : Int32).toNatClampNeg 1)), rfl, ⟨rfl, by first | exact fun h => absurd h (by decide) | exact fun _ => rfl | rfl | decide | simp, by first | exact fun _ => rfl | exact fun _ => by simp [vp_updL]⟩, ⟨by rw [ht]; exact hP9, va_K.moved hW.alike hK9, hD9⟩⟩, hS.F ht⟩) hS.2.2 dL_isUnder_25
    · refine lv_aload_n hx hb dL_isUnder_0 rfl (lv_at hl 3 rfl) ?_
      refine lv_iconst (v := 0) hx hb dL_isUnder_1 (by decide) ?_
      refine lv_aload_n hx hb dL_isUnder_2 rfl (lv_at hl 0 rfl) ?_
      refine lv_iload_n hx hb dL_isUnder_3 rfl (lv_at hl 1 rfl) ?_
      refine lv_iload_n hx hb dL_isUnder_4 rfl (lv_at hl 2 rfl) ?_
      refine z_i (wr := [(ou, .inl (kL, 1, .inr (.inl fo)))]) (va_runV (As := [.int 1, .int 2]) (rest := [.int 0, .ref ou]) ⟨hx, hb, hml, hown, hts⟩ (c_H_isUnder_12 l eD eI ad dC dI s.heap.size hh aexpr achoo ameth aroom anod asort anote amet atold aheld apair astep asize nm nl n1 n2 nf ns nh nk np apsl kI kL) (cwV 2 hts g_c_L_isUnder_9 rfl rfl rfl (by decide +kernel) ⟨Nat.le_of_ble_eq_true rfl, Nat.le_of_ble_eq_true rfl⟩) (z_preV (wc := [(hh, .inr (13, [.ref aexpr, .ref achoo, .ref ameth, .ref aroom, .ref anod, .ref asort, .ref anote, .ref amet, .int 0, .int 1])), (aroom, .inr (9, [.ref asort, .ref anod, .ref atold, .int 3, .ref aheld, .int 0, .ref apair, .ref astep, .int 0, .int 0, .int (-1), .int 0, .int 0, .ref asize])), (atold, .inl (kI, 60, .inl zTold)), (anod, .inr (7, [.ref nm, .ref nl, .ref n1, .ref n2, .ref nf, .ref ns, .ref nh, .ref nk, .ref np, .int 16, .int 0, .int 16, .int 0, .int 0])), (ns, .inl (kL, 1024, .inr (.inl zSec))), (nf, .inl (kL, 1024, .inr (.inl zFir))), (asort, .inr (1, [.int 0, .ref eD, .int 0])), (astep, .inr (1, [.int 0, .ref eD, .int 0])), (apair, .inr (8, [.ref apsl, .int 0, .int 0])), (apsl, .inl (kL, 512, .inr (.inl (fun _ => 0))))]) hP hD hK hS hA hE [0, 1, 2, 3, 4, 5, 6, 7, 8, 9] [0, 1] rfl (by decide) rfl (ci := 13) (q0 := 0) rfl rfl) rfl rfl hl.1 rfl (lv_room (Nat.le_of_ble_eq_true rfl)) dL_isUnder_5 ⟨Nat.le_of_ble_eq_true rfl, Nat.le_of_ble_eq_true rfl⟩) hP hD hK hS hA [0, 1, 2, 3, 4, 5, 6, 7, 8, 9] [10] rfl rfl (by decide) (by decide) (fun r_28 u H locs hw_29 hP hD hK hS => ?_)
      obtain ⟨⟩ := u
      have hP : va_P (dC, dI) vwCl [(ou, .inl (kL, 1, .inr (.inl fo)))] H := hP
      have hD : va_D A [(ou, .inl (kL, 1, .inr (.inl fo)))] := hD
      have hK : va_K (dC, dI) vwCl [(kI, .int), (kL, .long)] s := by simpa using hK
      have hw_29 : r_28 = 1 := hw_29
      have hw_29 := hw_29.symm
      subst hw_29
      refine lv_if_eq (tgt := 15) hx hb dL_isUnder_8 (by decide) (fun c_30 => ?_) (fun c_30 => ?_)
      · exact absurd c_30 (by decide)
      refine lv_lconst (v := 1) hx hb dL_isUnder_11 (by decide) ?_
      refine lv_goto (tgt := 16) hx hb dL_isUnder_12 (by decide) ?_
      refine va_last (D := (dC, dI)) hx hb hK hP hD hS 0 1 rfl rfl (by unfold vp_in; decide) dL_isUnder_16 (fun H locs hP hD hS => ?_)
      have hP : va_P (dC, dI) vwCl [(ou, .inl (kL, 1, .inr (.inl (vp_updL fo (0 : Int32).toNatClampNeg 1))))] H := hP
      have hD : va_D A [(ou, .inl (kL, 1, .inr (.inl (vp_updL fo (0 : Int32).toNatClampNeg 1))))] := hD
      refine lv_goto (tgt := 24) hx hb dL_isUnder_17 (by decide) ?_
      refine lv_iconst (v := 0) hx hb dL_isUnder_24 (by decide) ?_
      have hP9 := hP.sub (ws' := [(ou, .inl (kL, 1, .inr (.inl (vp_updL fo (0 : Int32).toNatClampNeg 1))))]) [0] rfl
      have hD9 := hD.sub (ws' := [(ou, .inl (kL, 1, .inr (.inl (vp_updL fo (0 : Int32).toNatClampNeg 1))))]) [0] (by decide) rfl
      have hK9 := hK.sub (tys' := [(kL, .long)]) [1] rfl
      refine W.widen (k := 2) (n := 24) (Nat.le_of_ble_eq_true rfl) (Nat.le_of_ble_eq_true rfl) ?_
      refine vx_ret ?_
      exact W.iret (v := 0) hx hb hr (fun t ht hW => ⟨⟨0, (0, (vp_updL fo (0 : Int32).toNatClampNeg 1)), rfl, ⟨rfl, by first | exact fun h => absurd h (by decide) | exact fun _ => rfl | rfl | decide | simp, by first | exact fun _ => rfl | exact fun _ => by simp [vp_updL]⟩, ⟨by rw [ht]; exact hP9, va_K.moved hW.alike hK9, hD9⟩⟩, hS.F ht⟩) hS.2.2 dL_isUnder_25
  · rcases z_split3 x2 with hx21 | ⟨hx20, hx21⟩ | rfl | rfl | rfl
    · refine lv_aload_n hx hb dL_isUnder_0 rfl (lv_at hl 3 rfl) ?_
      refine lv_iconst (v := 0) hx hb dL_isUnder_1 (by decide) ?_
      refine lv_aload_n hx hb dL_isUnder_2 rfl (lv_at hl 0 rfl) ?_
      refine lv_iload_n hx hb dL_isUnder_3 rfl (lv_at hl 1 rfl) ?_
      refine lv_iload_n hx hb dL_isUnder_4 rfl (lv_at hl 2 rfl) ?_
      refine zx_i (wr := [(atold, .inl (kI, 60, .inl zTold)), (anod, .inr (7, [.ref nm, .ref nl, .ref n1, .ref n2, .ref nf, .ref ns, .ref nh, .ref nk, .ref np, .int 16, .int 0, .int 16, .int 0, .int 0])), (ns, .inl (kL, 1024, .inr (.inl zSec))), (nf, .inl (kL, 1024, .inr (.inl zFir))), (asort, .inr (1, [.int 0, .ref eD, .int 0])), (astep, .inr (1, [.int 0, .ref eD, .int 0])), (apair, .inr (8, [.ref apsl, .int 0, .int 0])), (apsl, .inl (kL, 512, .inr (.inl (fun _ => 0)))), (ou, .inl (kL, 1, .inr (.inl fo)))]) (vx_runV (As := [.int 2, .int x2]) (rest := [.int 0, .ref ou]) ⟨hx, hb, hml, hown, hts⟩ (c_H_isUnder_kl l hfl eD eI ad dC dI s.heap.size hh aexpr achoo ameth aroom anod asort anote amet atold aheld apair astep asize 2 x2 (by decide) (by decide) (hx21)) (cwV 2 hts g_c_L_isUnder_2 rfl rfl rfl (by decide +kernel) ⟨Nat.le_of_ble_eq_true rfl, Nat.le_of_ble_eq_true rfl⟩) (z_preVD (wc := [(hh, .inr (13, [.ref aexpr, .ref achoo, .ref ameth, .ref aroom, .ref anod, .ref asort, .ref anote, .ref amet, .int 0, .int 1])), (aroom, .inr (9, [.ref asort, .ref anod, .ref atold, .int 3, .ref aheld, .int 0, .ref apair, .ref astep, .int 0, .int 0, .int (-1), .int 0, .int 0, .ref asize]))]) hP hD hK hS hA hE [0, 1] [] rfl (by decide) rfl (ci := 13) (q0 := 0) rfl rfl hDc) rfl rfl hl.1 rfl (lv_room (Nat.le_of_ble_eq_true rfl)) dL_isUnder_5 ⟨Nat.le_of_ble_eq_true rfl, Nat.le_of_ble_eq_true rfl⟩) hP hD hK hS hA [0, 1] [2, 3, 4, 5, 6, 7, 8, 9, 10] rfl rfl (by decide) (by decide) (fun E ce q9 H locs hbad hP hD hS h91 h92 h93 => ?_) (fun r_31 u H locs hw_32 hP hD hK hS => ?_)
      · have hbad : E = "java/lang/IndexOutOfBoundsException" := hbad
        subst hbad
        refine vx_catch (name := "java/lang/IndexOutOfBoundsException") hown [] ⟨0, 17, 20, 21⟩ [] (by rw [htab]; rfl) (fun z h => by simp at h) (by decide) (by decide) (hts (.classLink RL 21 "java/lang/IndexOutOfBoundsException") (by decide +kernel)) (va_Nw.use rfl (hE.2.2.2.2.2.2.2.1 ("java/lang/IndexOutOfBoundsException", "java/lang/IndexOutOfBoundsException") (by decide +kernel))) h91 h92 h93 ?_
        refine W.eq (g2 := F0 m 20 ls [.ref q9]) rfl ?_
        refine lv_astore (lv' := [(4, .ref q9), (0, .ref hh), (1, .int 2), (2, .int x2), (3, .ref ou)]) hx hb dL_isUnder_20 hl (by decide) rfl (fun ls hl => ?_)
        refine lv_iconst (v := 1) hx hb dL_isUnder_22 (by decide) ?_
        have hP9 := hP.sub (ws' := [(ou, .inl (kL, 1, .inr (.inl fo)))]) [8] rfl
        have hD9 := hD.sub (ws' := [(ou, .inl (kL, 1, .inr (.inl fo)))]) [8] (by decide) rfl
        have hK9 := hK.sub (tys' := [(kL, .long)]) [1] rfl
        refine W.widen (k := 2) (n := 24) (Nat.le_of_ble_eq_true rfl) (Nat.le_of_ble_eq_true rfl) ?_
        refine vx_ret ?_
        exact W.iret (v := 1) hx hb hr (fun t ht hW => ⟨⟨1, (1, (fo)), rfl, ⟨rfl, by first | exact fun h => absurd h (by decide) | exact fun _ => rfl | rfl | decide | simp [hx21], fun h => absurd h (by decide)⟩, ⟨by rw [ht]; exact hP9, va_K.moved hW.alike hK9, hD9⟩⟩, hS.F ht⟩) hS.2.2 dL_isUnder_23
      exact absurd hw_32 id
    · refine lv_aload_n hx hb dL_isUnder_0 rfl (lv_at hl 3 rfl) ?_
      refine lv_iconst (v := 0) hx hb dL_isUnder_1 (by decide) ?_
      refine lv_aload_n hx hb dL_isUnder_2 rfl (lv_at hl 0 rfl) ?_
      refine lv_iload_n hx hb dL_isUnder_3 rfl (lv_at hl 1 rfl) ?_
      refine lv_iload_n hx hb dL_isUnder_4 rfl (lv_at hl 2 rfl) ?_
      refine zx_i (wr := [(atold, .inl (kI, 60, .inl zTold)), (anod, .inr (7, [.ref nm, .ref nl, .ref n1, .ref n2, .ref nf, .ref ns, .ref nh, .ref nk, .ref np, .int 16, .int 0, .int 16, .int 0, .int 0])), (ns, .inl (kL, 1024, .inr (.inl zSec))), (nf, .inl (kL, 1024, .inr (.inl zFir))), (asort, .inr (1, [.int 0, .ref eD, .int 0])), (astep, .inr (1, [.int 0, .ref eD, .int 0])), (apair, .inr (8, [.ref apsl, .int 0, .int 0])), (apsl, .inl (kL, 512, .inr (.inl (fun _ => 0)))), (ou, .inl (kL, 1, .inr (.inl fo)))]) (vx_runV (As := [.int 2, .int x2]) (rest := [.int 0, .ref ou]) ⟨hx, hb, hml, hown, hts⟩ (c_H_isUnder_kh l hfl eD eI ad dC dI s.heap.size hh aexpr achoo ameth aroom anod asort anote amet atold aheld apair astep asize 2 x2 (by decide) (by decide) (hx20) (hx21)) (cwV 2 hts g_c_L_isUnder_3 rfl rfl rfl (by decide +kernel) ⟨Nat.le_of_ble_eq_true rfl, Nat.le_of_ble_eq_true rfl⟩) (z_preVD (wc := [(hh, .inr (13, [.ref aexpr, .ref achoo, .ref ameth, .ref aroom, .ref anod, .ref asort, .ref anote, .ref amet, .int 0, .int 1])), (aroom, .inr (9, [.ref asort, .ref anod, .ref atold, .int 3, .ref aheld, .int 0, .ref apair, .ref astep, .int 0, .int 0, .int (-1), .int 0, .int 0, .ref asize]))]) hP hD hK hS hA hE [0, 1] [] rfl (by decide) rfl (ci := 13) (q0 := 0) rfl rfl hDc) rfl rfl hl.1 rfl (lv_room (Nat.le_of_ble_eq_true rfl)) dL_isUnder_5 ⟨Nat.le_of_ble_eq_true rfl, Nat.le_of_ble_eq_true rfl⟩) hP hD hK hS hA [0, 1] [2, 3, 4, 5, 6, 7, 8, 9, 10] rfl rfl (by decide) (by decide) (fun E ce q9 H locs hbad hP hD hS h91 h92 h93 => ?_) (fun r_33 u H locs hw_34 hP hD hK hS => ?_)
      · have hbad : E = "java/lang/IndexOutOfBoundsException" := hbad
        subst hbad
        refine vx_catch (name := "java/lang/IndexOutOfBoundsException") hown [] ⟨0, 17, 20, 21⟩ [] (by rw [htab]; rfl) (fun z h => by simp at h) (by decide) (by decide) (hts (.classLink RL 21 "java/lang/IndexOutOfBoundsException") (by decide +kernel)) (va_Nw.use rfl (hE.2.2.2.2.2.2.2.1 ("java/lang/IndexOutOfBoundsException", "java/lang/IndexOutOfBoundsException") (by decide +kernel))) h91 h92 h93 ?_
        refine W.eq (g2 := F0 m 20 ls [.ref q9]) rfl ?_
        refine lv_astore (lv' := [(4, .ref q9), (0, .ref hh), (1, .int 2), (2, .int x2), (3, .ref ou)]) hx hb dL_isUnder_20 hl (by decide) rfl (fun ls hl => ?_)
        refine lv_iconst (v := 1) hx hb dL_isUnder_22 (by decide) ?_
        have hP9 := hP.sub (ws' := [(ou, .inl (kL, 1, .inr (.inl fo)))]) [8] rfl
        have hD9 := hD.sub (ws' := [(ou, .inl (kL, 1, .inr (.inl fo)))]) [8] (by decide) rfl
        have hK9 := hK.sub (tys' := [(kL, .long)]) [1] rfl
        refine W.widen (k := 2) (n := 24) (Nat.le_of_ble_eq_true rfl) (Nat.le_of_ble_eq_true rfl) ?_
        refine vx_ret ?_
        exact W.iret (v := 1) hx hb hr (fun t ht hW => ⟨⟨1, (1, (fo)), rfl, ⟨rfl, by first | exact fun h => absurd h (by decide) | exact fun _ => rfl | rfl | decide | simp [hx20, hx21], fun h => absurd h (by decide)⟩, ⟨by rw [ht]; exact hP9, va_K.moved hW.alike hK9, hD9⟩⟩, hS.F ht⟩) hS.2.2 dL_isUnder_23
      exact absurd hw_34 id
    · refine lv_aload_n hx hb dL_isUnder_0 rfl (lv_at hl 3 rfl) ?_
      refine lv_iconst (v := 0) hx hb dL_isUnder_1 (by decide) ?_
      refine lv_aload_n hx hb dL_isUnder_2 rfl (lv_at hl 0 rfl) ?_
      refine lv_iload_n hx hb dL_isUnder_3 rfl (lv_at hl 1 rfl) ?_
      refine lv_iload_n hx hb dL_isUnder_4 rfl (lv_at hl 2 rfl) ?_
      refine z_i (wr := [(ou, .inl (kL, 1, .inr (.inl fo)))]) (va_runV (As := [.int 2, .int 0]) (rest := [.int 0, .ref ou]) ⟨hx, hb, hml, hown, hts⟩ (c_H_isUnder_20 l eD eI ad dC dI s.heap.size hh aexpr achoo ameth aroom anod asort anote amet atold aheld apair astep asize nm nl n1 n2 nf ns nh nk np apsl kI kL) (cwV 2 hts g_c_L_isUnder_10 rfl rfl rfl (by decide +kernel) ⟨Nat.le_of_ble_eq_true rfl, Nat.le_of_ble_eq_true rfl⟩) (z_preV (wc := [(hh, .inr (13, [.ref aexpr, .ref achoo, .ref ameth, .ref aroom, .ref anod, .ref asort, .ref anote, .ref amet, .int 0, .int 1])), (aroom, .inr (9, [.ref asort, .ref anod, .ref atold, .int 3, .ref aheld, .int 0, .ref apair, .ref astep, .int 0, .int 0, .int (-1), .int 0, .int 0, .ref asize])), (atold, .inl (kI, 60, .inl zTold)), (anod, .inr (7, [.ref nm, .ref nl, .ref n1, .ref n2, .ref nf, .ref ns, .ref nh, .ref nk, .ref np, .int 16, .int 0, .int 16, .int 0, .int 0])), (ns, .inl (kL, 1024, .inr (.inl zSec))), (nf, .inl (kL, 1024, .inr (.inl zFir))), (asort, .inr (1, [.int 0, .ref eD, .int 0])), (astep, .inr (1, [.int 0, .ref eD, .int 0])), (apair, .inr (8, [.ref apsl, .int 0, .int 0])), (apsl, .inl (kL, 512, .inr (.inl (fun _ => 0))))]) hP hD hK hS hA hE [0, 1, 2, 3, 4, 5, 6, 7, 8, 9] [0, 1] rfl (by decide) rfl (ci := 13) (q0 := 0) rfl rfl) rfl rfl hl.1 rfl (lv_room (Nat.le_of_ble_eq_true rfl)) dL_isUnder_5 ⟨Nat.le_of_ble_eq_true rfl, Nat.le_of_ble_eq_true rfl⟩) hP hD hK hS hA [0, 1, 2, 3, 4, 5, 6, 7, 8, 9] [10] rfl rfl (by decide) (by decide) (fun r_35 u H locs hw_36 hP hD hK hS => ?_)
      obtain ⟨⟩ := u
      have hP : va_P (dC, dI) vwCl [(ou, .inl (kL, 1, .inr (.inl fo)))] H := hP
      have hD : va_D A [(ou, .inl (kL, 1, .inr (.inl fo)))] := hD
      have hK : va_K (dC, dI) vwCl [(kI, .int), (kL, .long)] s := by simpa using hK
      have hw_36 : r_35 = 1 := hw_36
      have hw_36 := hw_36.symm
      subst hw_36
      refine lv_if_eq (tgt := 15) hx hb dL_isUnder_8 (by decide) (fun c_37 => ?_) (fun c_37 => ?_)
      · exact absurd c_37 (by decide)
      refine lv_lconst (v := 1) hx hb dL_isUnder_11 (by decide) ?_
      refine lv_goto (tgt := 16) hx hb dL_isUnder_12 (by decide) ?_
      refine va_last (D := (dC, dI)) hx hb hK hP hD hS 0 1 rfl rfl (by unfold vp_in; decide) dL_isUnder_16 (fun H locs hP hD hS => ?_)
      have hP : va_P (dC, dI) vwCl [(ou, .inl (kL, 1, .inr (.inl (vp_updL fo (0 : Int32).toNatClampNeg 1))))] H := hP
      have hD : va_D A [(ou, .inl (kL, 1, .inr (.inl (vp_updL fo (0 : Int32).toNatClampNeg 1))))] := hD
      refine lv_goto (tgt := 24) hx hb dL_isUnder_17 (by decide) ?_
      refine lv_iconst (v := 0) hx hb dL_isUnder_24 (by decide) ?_
      have hP9 := hP.sub (ws' := [(ou, .inl (kL, 1, .inr (.inl (vp_updL fo (0 : Int32).toNatClampNeg 1))))]) [0] rfl
      have hD9 := hD.sub (ws' := [(ou, .inl (kL, 1, .inr (.inl (vp_updL fo (0 : Int32).toNatClampNeg 1))))]) [0] (by decide) rfl
      have hK9 := hK.sub (tys' := [(kL, .long)]) [1] rfl
      refine W.widen (k := 2) (n := 24) (Nat.le_of_ble_eq_true rfl) (Nat.le_of_ble_eq_true rfl) ?_
      refine vx_ret ?_
      exact W.iret (v := 0) hx hb hr (fun t ht hW => ⟨⟨0, (0, (vp_updL fo (0 : Int32).toNatClampNeg 1)), rfl, ⟨rfl, by first | exact fun h => absurd h (by decide) | exact fun _ => rfl | rfl | decide | simp, by first | exact fun _ => rfl | exact fun _ => by simp [vp_updL]⟩, ⟨by rw [ht]; exact hP9, va_K.moved hW.alike hK9, hD9⟩⟩, hS.F ht⟩) hS.2.2 dL_isUnder_25
    · refine lv_aload_n hx hb dL_isUnder_0 rfl (lv_at hl 3 rfl) ?_
      refine lv_iconst (v := 0) hx hb dL_isUnder_1 (by decide) ?_
      refine lv_aload_n hx hb dL_isUnder_2 rfl (lv_at hl 0 rfl) ?_
      refine lv_iload_n hx hb dL_isUnder_3 rfl (lv_at hl 1 rfl) ?_
      refine lv_iload_n hx hb dL_isUnder_4 rfl (lv_at hl 2 rfl) ?_
      refine z_i (wr := [(ou, .inl (kL, 1, .inr (.inl fo)))]) (va_runV (As := [.int 2, .int 1]) (rest := [.int 0, .ref ou]) ⟨hx, hb, hml, hown, hts⟩ (c_H_isUnder_21 l eD eI ad dC dI s.heap.size hh aexpr achoo ameth aroom anod asort anote amet atold aheld apair astep asize nm nl n1 n2 nf ns nh nk np apsl kI kL) (cwV 2 hts g_c_L_isUnder_11 rfl rfl rfl (by decide +kernel) ⟨Nat.le_of_ble_eq_true rfl, Nat.le_of_ble_eq_true rfl⟩) (z_preV (wc := [(hh, .inr (13, [.ref aexpr, .ref achoo, .ref ameth, .ref aroom, .ref anod, .ref asort, .ref anote, .ref amet, .int 0, .int 1])), (aroom, .inr (9, [.ref asort, .ref anod, .ref atold, .int 3, .ref aheld, .int 0, .ref apair, .ref astep, .int 0, .int 0, .int (-1), .int 0, .int 0, .ref asize])), (atold, .inl (kI, 60, .inl zTold)), (anod, .inr (7, [.ref nm, .ref nl, .ref n1, .ref n2, .ref nf, .ref ns, .ref nh, .ref nk, .ref np, .int 16, .int 0, .int 16, .int 0, .int 0])), (ns, .inl (kL, 1024, .inr (.inl zSec))), (nf, .inl (kL, 1024, .inr (.inl zFir))), (asort, .inr (1, [.int 0, .ref eD, .int 0])), (astep, .inr (1, [.int 0, .ref eD, .int 0])), (apair, .inr (8, [.ref apsl, .int 0, .int 0])), (apsl, .inl (kL, 512, .inr (.inl (fun _ => 0))))]) hP hD hK hS hA hE [0, 1, 2, 3, 4, 5, 6, 7, 8, 9] [0, 1] rfl (by decide) rfl (ci := 13) (q0 := 0) rfl rfl) rfl rfl hl.1 rfl (lv_room (Nat.le_of_ble_eq_true rfl)) dL_isUnder_5 ⟨Nat.le_of_ble_eq_true rfl, Nat.le_of_ble_eq_true rfl⟩) hP hD hK hS hA [0, 1, 2, 3, 4, 5, 6, 7, 8, 9] [10] rfl rfl (by decide) (by decide) (fun r_38 u H locs hw_39 hP hD hK hS => ?_)
      obtain ⟨⟩ := u
      have hP : va_P (dC, dI) vwCl [(ou, .inl (kL, 1, .inr (.inl fo)))] H := hP
      have hD : va_D A [(ou, .inl (kL, 1, .inr (.inl fo)))] := hD
      have hK : va_K (dC, dI) vwCl [(kI, .int), (kL, .long)] s := by simpa using hK
      have hw_39 : r_38 = 0 := hw_39
      have hw_39 := hw_39.symm
      subst hw_39
      refine lv_if_eq (tgt := 15) hx hb dL_isUnder_8 (by decide) (fun c_40 => ?_) (fun c_40 => ?_)
      rotate_left
      · exact absurd (by decide) c_40
      refine lv_lconst (v := 0) hx hb dL_isUnder_15 (by decide) ?_
      refine va_last (D := (dC, dI)) hx hb hK hP hD hS 0 1 rfl rfl (by unfold vp_in; decide) dL_isUnder_16 (fun H locs hP hD hS => ?_)
      have hP : va_P (dC, dI) vwCl [(ou, .inl (kL, 1, .inr (.inl (vp_updL fo (0 : Int32).toNatClampNeg 0))))] H := hP
      have hD : va_D A [(ou, .inl (kL, 1, .inr (.inl (vp_updL fo (0 : Int32).toNatClampNeg 0))))] := hD
      refine lv_goto (tgt := 24) hx hb dL_isUnder_17 (by decide) ?_
      refine lv_iconst (v := 0) hx hb dL_isUnder_24 (by decide) ?_
      have hP9 := hP.sub (ws' := [(ou, .inl (kL, 1, .inr (.inl (vp_updL fo (0 : Int32).toNatClampNeg 0))))]) [0] rfl
      have hD9 := hD.sub (ws' := [(ou, .inl (kL, 1, .inr (.inl (vp_updL fo (0 : Int32).toNatClampNeg 0))))]) [0] (by decide) rfl
      have hK9 := hK.sub (tys' := [(kL, .long)]) [1] rfl
      refine W.widen (k := 2) (n := 24) (Nat.le_of_ble_eq_true rfl) (Nat.le_of_ble_eq_true rfl) ?_
      refine vx_ret ?_
      exact W.iret (v := 0) hx hb hr (fun t ht hW => ⟨⟨0, (0, (vp_updL fo (0 : Int32).toNatClampNeg 0)), rfl, ⟨rfl, by first | exact fun h => absurd h (by decide) | exact fun _ => rfl | rfl | decide | simp, by first | exact fun _ => rfl | exact fun _ => by simp [vp_updL]⟩, ⟨by rw [ht]; exact hP9, va_K.moved hW.alike hK9, hD9⟩⟩, hS.F ht⟩) hS.2.2 dL_isUnder_25
    · refine lv_aload_n hx hb dL_isUnder_0 rfl (lv_at hl 3 rfl) ?_
      refine lv_iconst (v := 0) hx hb dL_isUnder_1 (by decide) ?_
      refine lv_aload_n hx hb dL_isUnder_2 rfl (lv_at hl 0 rfl) ?_
      refine lv_iload_n hx hb dL_isUnder_3 rfl (lv_at hl 1 rfl) ?_
      refine lv_iload_n hx hb dL_isUnder_4 rfl (lv_at hl 2 rfl) ?_
      refine z_i (wr := [(ou, .inl (kL, 1, .inr (.inl fo)))]) (va_runV (As := [.int 2, .int 2]) (rest := [.int 0, .ref ou]) ⟨hx, hb, hml, hown, hts⟩ (c_H_isUnder_22 l eD eI ad dC dI s.heap.size hh aexpr achoo ameth aroom anod asort anote amet atold aheld apair astep asize nm nl n1 n2 nf ns nh nk np apsl kI kL) (cwV 2 hts g_c_L_isUnder_12 rfl rfl rfl (by decide +kernel) ⟨Nat.le_of_ble_eq_true rfl, Nat.le_of_ble_eq_true rfl⟩) (z_preV (wc := [(hh, .inr (13, [.ref aexpr, .ref achoo, .ref ameth, .ref aroom, .ref anod, .ref asort, .ref anote, .ref amet, .int 0, .int 1])), (aroom, .inr (9, [.ref asort, .ref anod, .ref atold, .int 3, .ref aheld, .int 0, .ref apair, .ref astep, .int 0, .int 0, .int (-1), .int 0, .int 0, .ref asize])), (atold, .inl (kI, 60, .inl zTold)), (anod, .inr (7, [.ref nm, .ref nl, .ref n1, .ref n2, .ref nf, .ref ns, .ref nh, .ref nk, .ref np, .int 16, .int 0, .int 16, .int 0, .int 0])), (ns, .inl (kL, 1024, .inr (.inl zSec))), (nf, .inl (kL, 1024, .inr (.inl zFir))), (asort, .inr (1, [.int 0, .ref eD, .int 0])), (astep, .inr (1, [.int 0, .ref eD, .int 0])), (apair, .inr (8, [.ref apsl, .int 0, .int 0])), (apsl, .inl (kL, 512, .inr (.inl (fun _ => 0))))]) hP hD hK hS hA hE [0, 1, 2, 3, 4, 5, 6, 7, 8, 9] [0, 1] rfl (by decide) rfl (ci := 13) (q0 := 0) rfl rfl) rfl rfl hl.1 rfl (lv_room (Nat.le_of_ble_eq_true rfl)) dL_isUnder_5 ⟨Nat.le_of_ble_eq_true rfl, Nat.le_of_ble_eq_true rfl⟩) hP hD hK hS hA [0, 1, 2, 3, 4, 5, 6, 7, 8, 9] [10] rfl rfl (by decide) (by decide) (fun r_41 u H locs hw_42 hP hD hK hS => ?_)
      obtain ⟨⟩ := u
      have hP : va_P (dC, dI) vwCl [(ou, .inl (kL, 1, .inr (.inl fo)))] H := hP
      have hD : va_D A [(ou, .inl (kL, 1, .inr (.inl fo)))] := hD
      have hK : va_K (dC, dI) vwCl [(kI, .int), (kL, .long)] s := by simpa using hK
      have hw_42 : r_41 = 1 := hw_42
      have hw_42 := hw_42.symm
      subst hw_42
      refine lv_if_eq (tgt := 15) hx hb dL_isUnder_8 (by decide) (fun c_43 => ?_) (fun c_43 => ?_)
      · exact absurd c_43 (by decide)
      refine lv_lconst (v := 1) hx hb dL_isUnder_11 (by decide) ?_
      refine lv_goto (tgt := 16) hx hb dL_isUnder_12 (by decide) ?_
      refine va_last (D := (dC, dI)) hx hb hK hP hD hS 0 1 rfl rfl (by unfold vp_in; decide) dL_isUnder_16 (fun H locs hP hD hS => ?_)
      have hP : va_P (dC, dI) vwCl [(ou, .inl (kL, 1, .inr (.inl (vp_updL fo (0 : Int32).toNatClampNeg 1))))] H := hP
      have hD : va_D A [(ou, .inl (kL, 1, .inr (.inl (vp_updL fo (0 : Int32).toNatClampNeg 1))))] := hD
      refine lv_goto (tgt := 24) hx hb dL_isUnder_17 (by decide) ?_
      refine lv_iconst (v := 0) hx hb dL_isUnder_24 (by decide) ?_
      have hP9 := hP.sub (ws' := [(ou, .inl (kL, 1, .inr (.inl (vp_updL fo (0 : Int32).toNatClampNeg 1))))]) [0] rfl
      have hD9 := hD.sub (ws' := [(ou, .inl (kL, 1, .inr (.inl (vp_updL fo (0 : Int32).toNatClampNeg 1))))]) [0] (by decide) rfl
      have hK9 := hK.sub (tys' := [(kL, .long)]) [1] rfl
      refine W.widen (k := 2) (n := 24) (Nat.le_of_ble_eq_true rfl) (Nat.le_of_ble_eq_true rfl) ?_
      refine vx_ret ?_
      exact W.iret (v := 0) hx hb hr (fun t ht hW => ⟨⟨0, (0, (vp_updL fo (0 : Int32).toNatClampNeg 1)), rfl, ⟨rfl, by first | exact fun h => absurd h (by decide) | exact fun _ => rfl | rfl | decide | simp, by first | exact fun _ => rfl | exact fun _ => by simp [vp_updL]⟩, ⟨by rw [ht]; exact hP9, va_K.moved hW.alike hK9, hD9⟩⟩, hS.F ht⟩) hS.2.2 dL_isUnder_25

def wb_c_L_road : List Cond := [.code yX11_road cX11_road 4 (some .int), .code yX11_needType cX11_needType 2 none, .classLink RX11 277 "java/lang/IndexOutOfBoundsException", .initialized "java/lang/IndexOutOfBoundsException", .methodLink RX11 116 yX11_needType, .instanceMethod yX11_needType, .selects RX11 yX11_needType yX11_needType, .initialized RX11, .methodLink RL 60 yX11_road, .instanceMethod yX11_road, .selects RX11 yX11_road yX11_road, .classLink RL 21 "java/lang/IndexOutOfBoundsException", .fieldLink RX11 31 "Hornbook" "room" "LHornbook$Room;", .fieldLink RX11 344 "Hornbook$Room" "tellings" "I", .code yX7_toldAt cX7_toldAt 2 (some .int), .fieldLink RX7 29 "Hornbook$Room" "tellings" "I", .fieldLink RX7 25 "Hornbook$Room" "told" "[I", .methodLink RX11 123 yX7_toldAt, .instanceMethod yX7_toldAt, .selects RX7 yX7_toldAt yX7_toldAt, .initialized RX7, .code yX11_roadAt cX11_roadAt 5 (some .int), .fieldLink RX11 38 "Hornbook" "nodes" "LHornbook$Nodes;", .code yX5_formOf cX5_formOf 2 (some .int), .fieldLink RX5 28 "Hornbook$Nodes" "second" "[J", .methodLink RX11 127 yX5_formOf, .instanceMethod yX5_formOf, .selects RX5 yX5_formOf yX5_formOf, .initialized RX5, .fieldLink RX11 42 "Hornbook" "sorts" "Ljava/util/ArrayList;", .code yJx4a65c_size_8abf5 cJx4a65c_size_8abf5 1 (some .int), .fieldLink RJx4a65c 48 "java/util/ArrayList" "size" "I", .methodLink RX11 73 yJx4a65c_size_8abf5, .instanceMethod yJx4a65c_size_8abf5, .selects RJx4a65c yJx4a65c_size_8abf5 yJx4a65c_size_8abf5, .initialized RJx4a65c, .methodLink RX11 245 yX11_roadAt, .instanceMethod yX11_roadAt, .selects RX11 yX11_roadAt yX11_roadAt, .code yX7_lineAt cX7_lineAt 3 (some .int), .methodLink RX11 248 yX7_lineAt, .instanceMethod yX7_lineAt, .selects RX7 yX7_lineAt yX7_lineAt] ++ u_ws RJx4a65c TJx4a65c 3 ++ u_ws RX11 TX11 10 ++ u_ws RX5 TX5 14 ++ u_ws RX7 TX7 14
def w_c_L_road : List Cond := .codeWith yL_road cL_road 6 (some .int) [(0, 12, 15, 21)] :: (wb_c_L_road ++ zAt)
set_option maxRecDepth 100000 in
theorem g_c_L_road_0 : GoodIn w_c_L_road (wsV RL 60 RX11 yX11_road w_c_H_road_l) := goodIn_app (goodIn_of _ (by decide +kernel)) (goodIn_ca (goodIn_p (big := w_c_L_road) (.code yX11_road cX11_road 4 (some .int) :: wb_c_H_road_l) [1, 2] rfl (by decide +kernel)) (goodIn_sub (fun _ h => List.mem_cons_of_mem _ (List.mem_append_right _ h)) zAt_good))
set_option maxRecDepth 100000 in
theorem g_c_L_road_1 : GoodIn w_c_L_road (wsV RL 60 RX11 yX11_road w_c_H_road_h) := goodIn_app (goodIn_of _ (by decide +kernel)) (goodIn_ca (goodIn_p (big := w_c_L_road) (.code yX11_road cX11_road 4 (some .int) :: wb_c_H_road_h) [1, 2] rfl (by decide +kernel)) (goodIn_sub (fun _ h => List.mem_cons_of_mem _ (List.mem_append_right _ h)) zAt_good))
set_option maxRecDepth 100000 in
theorem g_c_L_road_2 : GoodIn w_c_L_road (wsV RL 60 RX11 yX11_road w_c_H_road_0) := goodIn_app (goodIn_of _ (by decide +kernel)) (goodIn_p (big := w_c_L_road) (.code yX11_road cX11_road 4 (some .int) :: wb_c_H_road_0) [1, 2, 15, 22, 24, 31, 40] rfl (by decide +kernel))
set_option maxRecDepth 100000 in
theorem g_c_L_road_3 : GoodIn w_c_L_road (wsV RL 60 RX11 yX11_road w_c_H_road_1) := goodIn_app (goodIn_of _ (by decide +kernel)) (goodIn_p (big := w_c_L_road) (.code yX11_road cX11_road 4 (some .int) :: wb_c_H_road_1) [1, 2, 15, 22, 24, 31, 40] rfl (by decide +kernel))
set_option maxRecDepth 100000 in
theorem g_c_L_road_4 : GoodIn w_c_L_road (wsV RL 60 RX11 yX11_road w_c_H_road_2) := goodIn_app (goodIn_of _ (by decide +kernel)) (goodIn_p (big := w_c_L_road) (.code yX11_road cX11_road 4 (some .int) :: wb_c_H_road_2) [1, 2, 15, 22, 24, 31, 40] rfl (by decide +kernel))
set_option maxHeartbeats 4000000 in
set_option maxRecDepth 100000 in
theorem c_L_road (l : Launch) (hfl : l.flags = flags0) (eD eI : Nat) (ad : Nat → Nat) (dC : Nat → ClassId) (dI : Nat → Nat → Nat) (sz : Nat) (hh : Nat) (aexpr : Nat) (achoo : Nat) (ameth : Nat) (aroom : Nat) (anod : Nat) (asort : Nat) (anote : Nat) (amet : Nat) (atold : Nat) (aheld : Nat) (apair : Nat) (astep : Nat) (asize : Nat) (nm : Nat) (nl : Nat) (n1 : Nat) (n2 : Nat) (nf : Nat) (ns : Nat) (nh : Nat) (nk : Nat) (np : Nat) (ou : Nat) (kI : ClassId) (kL : ClassId) (x1 : Int32) (x2 : Int32) (x3 : Int32) (fo : Nat → Int64) : vx_Met l yL_road w_c_L_road ({ frames := 8, cells := 1, slots := 6, locals := 126 }) (va_Pc [.ref hh, .int x1, .int x2, .int x3, .ref ou] (zPreD eD eI ad (dC, dI) [(hh, .inr (13, [.ref aexpr, .ref achoo, .ref ameth, .ref aroom, .ref anod, .ref asort, .ref anote, .ref amet, .int 0, .int 1])), (aroom, .inr (9, [.ref asort, .ref anod, .ref atold, .int 3, .ref aheld, .int 0, .ref apair, .ref astep, .int 0, .int 0, .int (-1), .int 0, .int 0, .ref asize])), (atold, .inl (kI, 60, .inl zTold)), (anod, .inr (7, [.ref nm, .ref nl, .ref n1, .ref n2, .ref nf, .ref ns, .ref nh, .ref nk, .ref np, .int 16, .int 0, .int 16, .int 0, .int 0])), (ns, .inl (kL, 1024, .inr (.inl zSec))), (asort, .inr (1, [.int 0, .ref eD, .int 0])), (ou, .inl (kL, 1, .inr (.inl fo)))] [(kI, .int), (kL, .long)] sz)) (va_Qi (fun (r : Int32) (u : Int32 × (Nat → Int64)) => match u with | (k2, fo2) => r = k2 ∧ k2 = (if x1 < 0 ∨ 2 < x1 then 1 else 0) ∧ (k2 = 0 → fo2 (0 : Int32).toNatClampNeg = ((-9) : Int32).toInt64)) (fun (u : Int32 × (Nat → Int64)) => match u with | (k2, fo2) => zEnd (dC, dI) (va_A [(hh, .inr (13, [.ref aexpr, .ref achoo, .ref ameth, .ref aroom, .ref anod, .ref asort, .ref anote, .ref amet, .int 0, .int 1])), (aroom, .inr (9, [.ref asort, .ref anod, .ref atold, .int 3, .ref aheld, .int 0, .ref apair, .ref astep, .int 0, .int 0, .int (-1), .int 0, .int 0, .ref asize])), (atold, .inl (kI, 60, .inl zTold)), (anod, .inr (7, [.ref nm, .ref nl, .ref n1, .ref n2, .ref nf, .ref ns, .ref nh, .ref nk, .ref np, .int 16, .int 0, .int 16, .int 0, .int 0])), (ns, .inl (kL, 1024, .inr (.inl zSec))), (asort, .inr (1, [.int 0, .ref eD, .int 0])), (ou, .inl (kL, 1, .inr (.inl fo)))] sz) [(ou, .inl (kL, 1, .inr (.inl fo2)))] [(kL, .long)]) (va_A [(hh, .inr (13, [.ref aexpr, .ref achoo, .ref ameth, .ref aroom, .ref anod, .ref asort, .ref anote, .ref amet, .int 0, .int 1])), (aroom, .inr (9, [.ref asort, .ref anod, .ref atold, .int 3, .ref aheld, .int 0, .ref apair, .ref astep, .int 0, .int 0, .int (-1), .int 0, .int 0, .ref asize])), (atold, .inl (kI, 60, .inl zTold)), (anod, .inr (7, [.ref nm, .ref nl, .ref n1, .ref n2, .ref nf, .ref ns, .ref nh, .ref nk, .ref np, .int 16, .int 0, .int 16, .int 0, .int 0])), (ns, .inl (kL, 1024, .inr (.inl zSec))), (asort, .inr (1, [.int 0, .ref eD, .int 0])), (ou, .inl (kL, 1, .inr (.inl fo)))] sz)) (zX (fun _ => False) (va_A [(hh, .inr (13, [.ref aexpr, .ref achoo, .ref ameth, .ref aroom, .ref anod, .ref asort, .ref anote, .ref amet, .int 0, .int 1])), (aroom, .inr (9, [.ref asort, .ref anod, .ref atold, .int 3, .ref aheld, .int 0, .ref apair, .ref astep, .int 0, .int 0, .int (-1), .int 0, .int 0, .ref asize])), (atold, .inl (kI, 60, .inl zTold)), (anod, .inr (7, [.ref nm, .ref nl, .ref n1, .ref n2, .ref nf, .ref ns, .ref nh, .ref nk, .ref np, .int 16, .int 0, .int 16, .int 0, .int 0])), (ns, .inl (kL, 1024, .inr (.inl zSec))), (asort, .inr (1, [.int 0, .ref eD, .int 0])), (ou, .inl (kL, 1, .inr (.inl fo)))] sz)) 1 6 (va_A [(hh, .inr (13, [.ref aexpr, .ref achoo, .ref ameth, .ref aroom, .ref anod, .ref asort, .ref anote, .ref amet, .int 0, .int 1])), (aroom, .inr (9, [.ref asort, .ref anod, .ref atold, .int 3, .ref aheld, .int 0, .ref apair, .ref astep, .int 0, .int 0, .int (-1), .int 0, .int 0, .ref asize])), (atold, .inl (kI, 60, .inl zTold)), (anod, .inr (7, [.ref nm, .ref nl, .ref n1, .ref n2, .ref nf, .ref ns, .ref nh, .ref nk, .ref np, .int 16, .int 0, .int 16, .int 0, .int 0])), (ns, .inl (kL, 1024, .inr (.inl zSec))), (asort, .inr (1, [.int 0, .ref eD, .int 0])), (ou, .inl (kL, 1, .inr (.inl fo)))] sz) := by
  refine vx_ofWH (cc := cL_road) (maxL := 6) (ret := (some .int)) (hh := [(0, 12, 15, 21)]) (by decide +kernel) rfl ?_
  intro p e s m args below meth c s₁ B hml hv
  obtain ⟨rfl, ⟨hsz, hP, hK, hD0, hE⟩, hDc⟩ := hv
  have hx := B.exec
  have hb := B.bytes
  have hr := B.returns
  have hts := atoms_spec (ws := w_c_L_road) B.pre
  have hown : s.vm.findClass RL = some m.cls := findClass_of_methodNamed B.named
  have hlocks := B.notSynchronized
  have htab := vx_table (x := yL_road) B (hts (.codeWith yL_road cL_road 6 (some .int) [(0, 12, 15, 21)]) List.mem_cons_self)
  subst hsz
  have hD := hD0.self (sz := s.heap.size)
  generalize hAe : va_A [(hh, .inr (13, [.ref aexpr, .ref achoo, .ref ameth, .ref aroom, .ref anod, .ref asort, .ref anote, .ref amet, .int 0, .int 1])), (aroom, .inr (9, [.ref asort, .ref anod, .ref atold, .int 3, .ref aheld, .int 0, .ref apair, .ref astep, .int 0, .int 0, .int (-1), .int 0, .int 0, .ref asize])), (atold, .inl (kI, 60, .inl zTold)), (anod, .inr (7, [.ref nm, .ref nl, .ref n1, .ref n2, .ref nf, .ref ns, .ref nh, .ref nk, .ref np, .int 16, .int 0, .int 16, .int 0, .int 0])), (ns, .inl (kL, 1024, .inr (.inl zSec))), (asort, .inr (1, [.int 0, .ref eD, .int 0])), (ou, .inl (kL, 1, .inr (.inl fo)))] s.heap.size = A at hD hE ⊢
  have hA : ∀ q : Nat, s.heap.size ≤ q → A q := fun q h => by rw [← hAe]; exact Or.inr h
  have hS : va_S A s.heap s.heap [] := va_S.rf
  have hP : va_P (dC, dI) vwCl [(hh, .inr (13, [.ref aexpr, .ref achoo, .ref ameth, .ref aroom, .ref anod, .ref asort, .ref anote, .ref amet, .int 0, .int 1])), (aroom, .inr (9, [.ref asort, .ref anod, .ref atold, .int 3, .ref aheld, .int 0, .ref apair, .ref astep, .int 0, .int 0, .int (-1), .int 0, .int 0, .ref asize])), (atold, .inl (kI, 60, .inl zTold)), (anod, .inr (7, [.ref nm, .ref nl, .ref n1, .ref n2, .ref nf, .ref ns, .ref nh, .ref nk, .ref np, .int 16, .int 0, .int 16, .int 0, .int 0])), (ns, .inl (kL, 1024, .inr (.inl zSec))), (asort, .inr (1, [.int 0, .ref eD, .int 0])), (ou, .inl (kL, 1, .inr (.inl fo)))] s.heap := hP
  have hl := lv_entry ([.ref hh, .int x1, .int x2, .int x3, .ref ou]) (n := 6) (Nat.le_of_ble_eq_true rfl)
  rw [lg_entry_eq]
  generalize (lg_sl ([.ref hh, .int x1, .int x2, .int x3, .ref ou]) ++ List.replicate (6 - (lg_sl ([.ref hh, .int x1, .int x2, .int x3, .ref ou])).length) Slot.unset).toArray = ls at hl ⊢
  have hl : lv_has ls 6 [(0, .ref hh), (1, .int x1), (2, .int x2), (3, .int x3), (4, .ref ou)] := hl
  have in_RJx4a65c : ∀ w ∈ u_ws RJx4a65c TJx4a65c 3, w ∈ w_c_L_road := by decide +kernel
  have in_RX11 : ∀ w ∈ u_ws RX11 TX11 10, w ∈ w_c_L_road := by decide +kernel
  have in_RX5 : ∀ w ∈ u_ws RX5 TX5 14, w ∈ w_c_L_road := by decide +kernel
  have in_RX7 : ∀ w ∈ u_ws RX7 TX7 14, w ∈ w_c_L_road := by decide +kernel
  rcases z_split3 x1 with hx11 | ⟨hx10, hx11⟩ | rfl | rfl | rfl
  · refine lv_aload hx hb dL_road_0 (lv_at hl 4 rfl) ?_
    refine lv_iconst (v := 0) hx hb dL_road_2 (by decide) ?_
    refine lv_aload_n hx hb dL_road_3 rfl (lv_at hl 0 rfl) ?_
    refine lv_iload_n hx hb dL_road_4 rfl (lv_at hl 1 rfl) ?_
    refine lv_iload_n hx hb dL_road_5 rfl (lv_at hl 2 rfl) ?_
    refine lv_iload_n hx hb dL_road_6 rfl (lv_at hl 3 rfl) ?_
    refine zx_i (wr := [(ou, .inl (kL, 1, .inr (.inl fo)))]) (vx_runV (As := [.int x1, .int x2, .int x3]) (rest := [.int 0, .ref ou]) ⟨hx, hb, hml, hown, hts⟩ (c_H_road_l l hfl eD eI ad dC dI s.heap.size hh aexpr achoo ameth aroom anod asort anote amet atold aheld apair astep asize nm nl n1 n2 nf ns nh nk np kI kL x1 x2 x3 (hx11)) (cwV 3 hts g_c_L_road_0 rfl rfl rfl (by decide +kernel) ⟨Nat.le_of_ble_eq_true rfl, Nat.le_of_ble_eq_true rfl⟩) (z_preVD (wc := [(hh, .inr (13, [.ref aexpr, .ref achoo, .ref ameth, .ref aroom, .ref anod, .ref asort, .ref anote, .ref amet, .int 0, .int 1])), (aroom, .inr (9, [.ref asort, .ref anod, .ref atold, .int 3, .ref aheld, .int 0, .ref apair, .ref astep, .int 0, .int 0, .int (-1), .int 0, .int 0, .ref asize])), (atold, .inl (kI, 60, .inl zTold)), (anod, .inr (7, [.ref nm, .ref nl, .ref n1, .ref n2, .ref nf, .ref ns, .ref nh, .ref nk, .ref np, .int 16, .int 0, .int 16, .int 0, .int 0])), (ns, .inl (kL, 1024, .inr (.inl zSec))), (asort, .inr (1, [.int 0, .ref eD, .int 0]))]) hP hD hK hS hA hE [0, 1, 2, 3, 4, 5] [0, 1] rfl (by decide) rfl (ci := 13) (q0 := 0) rfl rfl hDc) rfl rfl hl.1 rfl (lv_room (Nat.le_of_ble_eq_true rfl)) dL_road_7 ⟨Nat.le_of_ble_eq_true rfl, Nat.le_of_ble_eq_true rfl⟩) hP hD hK hS hA [0, 1, 2, 3, 4, 5] [6] rfl rfl (by decide) (by decide) (fun E ce q9 H locs hbad hP hD hS h91 h92 h93 => ?_) (fun r_1 u H locs hw_2 hP hD hK hS => ?_)
    · have hbad : E = "java/lang/IndexOutOfBoundsException" := hbad
      subst hbad
      refine vx_catch (name := "java/lang/IndexOutOfBoundsException") hown [] ⟨0, 12, 15, 21⟩ [] (by rw [htab]; rfl) (fun z h => by simp at h) (by decide) (by decide) (hts (.classLink RL 21 "java/lang/IndexOutOfBoundsException") (by decide +kernel)) (va_Nw.use rfl (hE.2.2.2.2.2.2.2.1 ("java/lang/IndexOutOfBoundsException", "java/lang/IndexOutOfBoundsException") (by decide +kernel))) h91 h92 h93 ?_
      refine W.eq (g2 := F0 m 15 ls [.ref q9]) rfl ?_
      refine lv_astore (lv' := [(5, .ref q9), (0, .ref hh), (1, .int x1), (2, .int x2), (3, .int x3), (4, .ref ou)]) hx hb dL_road_15 hl (by decide) rfl (fun ls hl => ?_)
      refine lv_iconst (v := 1) hx hb dL_road_17 (by decide) ?_
      have hP9 := hP.sub (ws' := [(ou, .inl (kL, 1, .inr (.inl fo)))]) [0] rfl
      have hD9 := hD.sub (ws' := [(ou, .inl (kL, 1, .inr (.inl fo)))]) [0] (by decide) rfl
      have hK9 := hK.sub (tys' := [(kL, .long)]) [1] rfl
      refine W.widen (k := 1) (n := 6) (Nat.le_of_ble_eq_true rfl) (Nat.le_of_ble_eq_true rfl) ?_
      refine vx_ret ?_
      exact W.iret (v := 1) hx hb hr (fun t ht hW => ⟨⟨1, (1, (fo)), rfl, ⟨rfl, by first | exact fun h => absurd h (by decide) | exact fun _ => rfl | rfl | decide | simp [hx11], fun h => absurd h (by decide)⟩, ⟨by rw [ht]; exact hP9, va_K.moved hW.alike hK9, hD9⟩⟩, hS.F ht⟩) hS.2.2 dL_road_18
    exact absurd hw_2 id
  · refine lv_aload hx hb dL_road_0 (lv_at hl 4 rfl) ?_
    refine lv_iconst (v := 0) hx hb dL_road_2 (by decide) ?_
    refine lv_aload_n hx hb dL_road_3 rfl (lv_at hl 0 rfl) ?_
    refine lv_iload_n hx hb dL_road_4 rfl (lv_at hl 1 rfl) ?_
    refine lv_iload_n hx hb dL_road_5 rfl (lv_at hl 2 rfl) ?_
    refine lv_iload_n hx hb dL_road_6 rfl (lv_at hl 3 rfl) ?_
    refine zx_i (wr := [(ou, .inl (kL, 1, .inr (.inl fo)))]) (vx_runV (As := [.int x1, .int x2, .int x3]) (rest := [.int 0, .ref ou]) ⟨hx, hb, hml, hown, hts⟩ (c_H_road_h l hfl eD eI ad dC dI s.heap.size hh aexpr achoo ameth aroom anod asort anote amet atold aheld apair astep asize nm nl n1 n2 nf ns nh nk np kI kL x1 x2 x3 (hx10) (hx11)) (cwV 3 hts g_c_L_road_1 rfl rfl rfl (by decide +kernel) ⟨Nat.le_of_ble_eq_true rfl, Nat.le_of_ble_eq_true rfl⟩) (z_preVD (wc := [(hh, .inr (13, [.ref aexpr, .ref achoo, .ref ameth, .ref aroom, .ref anod, .ref asort, .ref anote, .ref amet, .int 0, .int 1])), (aroom, .inr (9, [.ref asort, .ref anod, .ref atold, .int 3, .ref aheld, .int 0, .ref apair, .ref astep, .int 0, .int 0, .int (-1), .int 0, .int 0, .ref asize])), (atold, .inl (kI, 60, .inl zTold)), (anod, .inr (7, [.ref nm, .ref nl, .ref n1, .ref n2, .ref nf, .ref ns, .ref nh, .ref nk, .ref np, .int 16, .int 0, .int 16, .int 0, .int 0])), (ns, .inl (kL, 1024, .inr (.inl zSec))), (asort, .inr (1, [.int 0, .ref eD, .int 0]))]) hP hD hK hS hA hE [0, 1, 2, 3, 4, 5] [0, 1] rfl (by decide) rfl (ci := 13) (q0 := 0) rfl rfl hDc) rfl rfl hl.1 rfl (lv_room (Nat.le_of_ble_eq_true rfl)) dL_road_7 ⟨Nat.le_of_ble_eq_true rfl, Nat.le_of_ble_eq_true rfl⟩) hP hD hK hS hA [0, 1, 2, 3, 4, 5] [6] rfl rfl (by decide) (by decide) (fun E ce q9 H locs hbad hP hD hS h91 h92 h93 => ?_) (fun r_3 u H locs hw_4 hP hD hK hS => ?_)
    · have hbad : E = "java/lang/IndexOutOfBoundsException" := hbad
      subst hbad
      refine vx_catch (name := "java/lang/IndexOutOfBoundsException") hown [] ⟨0, 12, 15, 21⟩ [] (by rw [htab]; rfl) (fun z h => by simp at h) (by decide) (by decide) (hts (.classLink RL 21 "java/lang/IndexOutOfBoundsException") (by decide +kernel)) (va_Nw.use rfl (hE.2.2.2.2.2.2.2.1 ("java/lang/IndexOutOfBoundsException", "java/lang/IndexOutOfBoundsException") (by decide +kernel))) h91 h92 h93 ?_
      refine W.eq (g2 := F0 m 15 ls [.ref q9]) rfl ?_
      refine lv_astore (lv' := [(5, .ref q9), (0, .ref hh), (1, .int x1), (2, .int x2), (3, .int x3), (4, .ref ou)]) hx hb dL_road_15 hl (by decide) rfl (fun ls hl => ?_)
      refine lv_iconst (v := 1) hx hb dL_road_17 (by decide) ?_
      have hP9 := hP.sub (ws' := [(ou, .inl (kL, 1, .inr (.inl fo)))]) [0] rfl
      have hD9 := hD.sub (ws' := [(ou, .inl (kL, 1, .inr (.inl fo)))]) [0] (by decide) rfl
      have hK9 := hK.sub (tys' := [(kL, .long)]) [1] rfl
      refine W.widen (k := 1) (n := 6) (Nat.le_of_ble_eq_true rfl) (Nat.le_of_ble_eq_true rfl) ?_
      refine vx_ret ?_
      exact W.iret (v := 1) hx hb hr (fun t ht hW => ⟨⟨1, (1, (fo)), rfl, ⟨rfl, by first | exact fun h => absurd h (by decide) | exact fun _ => rfl | rfl | decide | simp [hx10, hx11], fun h => absurd h (by decide)⟩, ⟨by rw [ht]; exact hP9, va_K.moved hW.alike hK9, hD9⟩⟩, hS.F ht⟩) hS.2.2 dL_road_18
    exact absurd hw_4 id
  · refine lv_aload hx hb dL_road_0 (lv_at hl 4 rfl) ?_
    refine lv_iconst (v := 0) hx hb dL_road_2 (by decide) ?_
    refine lv_aload_n hx hb dL_road_3 rfl (lv_at hl 0 rfl) ?_
    refine lv_iload_n hx hb dL_road_4 rfl (lv_at hl 1 rfl) ?_
    refine lv_iload_n hx hb dL_road_5 rfl (lv_at hl 2 rfl) ?_
    refine lv_iload_n hx hb dL_road_6 rfl (lv_at hl 3 rfl) ?_
    refine z_i (wr := [(ou, .inl (kL, 1, .inr (.inl fo)))]) (va_runV (As := [.int 0, .int x2, .int x3]) (rest := [.int 0, .ref ou]) ⟨hx, hb, hml, hown, hts⟩ (c_H_road_0 l eD eI ad dC dI s.heap.size hh aexpr achoo ameth aroom anod asort anote amet atold aheld apair astep asize nm nl n1 n2 nf ns nh nk np kI kL x2 x3) (cwV 3 hts g_c_L_road_2 rfl rfl rfl (by decide +kernel) ⟨Nat.le_of_ble_eq_true rfl, Nat.le_of_ble_eq_true rfl⟩) (z_preV (wc := [(hh, .inr (13, [.ref aexpr, .ref achoo, .ref ameth, .ref aroom, .ref anod, .ref asort, .ref anote, .ref amet, .int 0, .int 1])), (aroom, .inr (9, [.ref asort, .ref anod, .ref atold, .int 3, .ref aheld, .int 0, .ref apair, .ref astep, .int 0, .int 0, .int (-1), .int 0, .int 0, .ref asize])), (atold, .inl (kI, 60, .inl zTold)), (anod, .inr (7, [.ref nm, .ref nl, .ref n1, .ref n2, .ref nf, .ref ns, .ref nh, .ref nk, .ref np, .int 16, .int 0, .int 16, .int 0, .int 0])), (ns, .inl (kL, 1024, .inr (.inl zSec))), (asort, .inr (1, [.int 0, .ref eD, .int 0]))]) hP hD hK hS hA hE [0, 1, 2, 3, 4, 5] [0, 1] rfl (by decide) rfl (ci := 13) (q0 := 0) rfl rfl) rfl rfl hl.1 rfl (lv_room (Nat.le_of_ble_eq_true rfl)) dL_road_7 ⟨Nat.le_of_ble_eq_true rfl, Nat.le_of_ble_eq_true rfl⟩) hP hD hK hS hA [0, 1, 2, 3, 4, 5] [6] rfl rfl (by decide) (by decide) (fun r_5 u H locs hw_6 hP hD hK hS => ?_)
    obtain ⟨⟩ := u
    have hP : va_P (dC, dI) vwCl [(ou, .inl (kL, 1, .inr (.inl fo))), (hh, .inr (13, [.ref aexpr, .ref achoo, .ref ameth, .ref aroom, .ref anod, .ref asort, .ref anote, .ref amet, .int 0, .int 1])), (aroom, .inr (9, [.ref asort, .ref anod, .ref atold, .int 3, .ref aheld, .int 0, .ref apair, .ref astep, .int 0, .int 0, .int (-1), .int 0, .int 0, .ref asize])), (atold, .inl (kI, 60, .inl zTold)), (anod, .inr (7, [.ref nm, .ref nl, .ref n1, .ref n2, .ref nf, .ref ns, .ref nh, .ref nk, .ref np, .int 16, .int 0, .int 16, .int 0, .int 0])), (ns, .inl (kL, 1024, .inr (.inl zSec))), (asort, .inr (1, [.int 0, .ref eD, .int 0]))] H := hP
    have hD : va_D A [(ou, .inl (kL, 1, .inr (.inl fo))), (hh, .inr (13, [.ref aexpr, .ref achoo, .ref ameth, .ref aroom, .ref anod, .ref asort, .ref anote, .ref amet, .int 0, .int 1])), (aroom, .inr (9, [.ref asort, .ref anod, .ref atold, .int 3, .ref aheld, .int 0, .ref apair, .ref astep, .int 0, .int 0, .int (-1), .int 0, .int 0, .ref asize])), (atold, .inl (kI, 60, .inl zTold)), (anod, .inr (7, [.ref nm, .ref nl, .ref n1, .ref n2, .ref nf, .ref ns, .ref nh, .ref nk, .ref np, .int 16, .int 0, .int 16, .int 0, .int 0])), (ns, .inl (kL, 1024, .inr (.inl zSec))), (asort, .inr (1, [.int 0, .ref eD, .int 0]))] := hD
    have hK : va_K (dC, dI) vwCl [(kI, .int), (kL, .long), (kI, .int), (kL, .long)] s := hK
    have hw_6 : r_5 = (-9) := hw_6
    have hw_6 := hw_6.symm
    subst hw_6
    refine lv_i2l (v := (-9)) hx hb dL_road_10 (by decide) ?_
    refine va_last (D := (dC, dI)) hx hb hK hP hD hS 0 1 rfl rfl (by unfold vp_in; decide) dL_road_11 (fun H locs hP hD hS => ?_)
    have hP : va_P (dC, dI) vwCl [(ou, .inl (kL, 1, .inr (.inl (vp_updL fo (0 : Int32).toNatClampNeg (-9))))), (hh, .inr (13, [.ref aexpr, .ref achoo, .ref ameth, .ref aroom, .ref anod, .ref asort, .ref anote, .ref amet, .int 0, .int 1])), (aroom, .inr (9, [.ref asort, .ref anod, .ref atold, .int 3, .ref aheld, .int 0, .ref apair, .ref astep, .int 0, .int 0, .int (-1), .int 0, .int 0, .ref asize])), (atold, .inl (kI, 60, .inl zTold)), (anod, .inr (7, [.ref nm, .ref nl, .ref n1, .ref n2, .ref nf, .ref ns, .ref nh, .ref nk, .ref np, .int 16, .int 0, .int 16, .int 0, .int 0])), (ns, .inl (kL, 1024, .inr (.inl zSec))), (asort, .inr (1, [.int 0, .ref eD, .int 0]))] H := hP
    have hD : va_D A [(ou, .inl (kL, 1, .inr (.inl (vp_updL fo (0 : Int32).toNatClampNeg (-9))))), (hh, .inr (13, [.ref aexpr, .ref achoo, .ref ameth, .ref aroom, .ref anod, .ref asort, .ref anote, .ref amet, .int 0, .int 1])), (aroom, .inr (9, [.ref asort, .ref anod, .ref atold, .int 3, .ref aheld, .int 0, .ref apair, .ref astep, .int 0, .int 0, .int (-1), .int 0, .int 0, .ref asize])), (atold, .inl (kI, 60, .inl zTold)), (anod, .inr (7, [.ref nm, .ref nl, .ref n1, .ref n2, .ref nf, .ref ns, .ref nh, .ref nk, .ref np, .int 16, .int 0, .int 16, .int 0, .int 0])), (ns, .inl (kL, 1024, .inr (.inl zSec))), (asort, .inr (1, [.int 0, .ref eD, .int 0]))] := hD
    refine lv_goto (tgt := 19) hx hb dL_road_12 (by decide) ?_
    refine lv_iconst (v := 0) hx hb dL_road_19 (by decide) ?_
    have hP9 := hP.sub (ws' := [(ou, .inl (kL, 1, .inr (.inl (vp_updL fo (0 : Int32).toNatClampNeg (-9)))))]) [0] rfl
    have hD9 := hD.sub (ws' := [(ou, .inl (kL, 1, .inr (.inl (vp_updL fo (0 : Int32).toNatClampNeg (-9)))))]) [0] (by decide) rfl
    have hK9 := hK.sub (tys' := [(kL, .long)]) [1] rfl
    refine W.widen (k := 1) (n := 6) (Nat.le_of_ble_eq_true rfl) (Nat.le_of_ble_eq_true rfl) ?_
    refine vx_ret ?_
    exact W.iret (v := 0) hx hb hr (fun t ht hW => ⟨⟨0, (0, (vp_updL fo (0 : Int32).toNatClampNeg (-9))), rfl, ⟨rfl, by first | exact fun h => absurd h (by decide) | exact fun _ => rfl | rfl | decide | simp, by first | exact fun _ => rfl | exact fun _ => by simp [vp_updL]⟩, ⟨by rw [ht]; exact hP9, va_K.moved hW.alike hK9, hD9⟩⟩, hS.F ht⟩) hS.2.2 dL_road_20
  · refine lv_aload hx hb dL_road_0 (lv_at hl 4 rfl) ?_
    refine lv_iconst (v := 0) hx hb dL_road_2 (by decide) ?_
    refine lv_aload_n hx hb dL_road_3 rfl (lv_at hl 0 rfl) ?_
    refine lv_iload_n hx hb dL_road_4 rfl (lv_at hl 1 rfl) ?_
    refine lv_iload_n hx hb dL_road_5 rfl (lv_at hl 2 rfl) ?_
    refine lv_iload_n hx hb dL_road_6 rfl (lv_at hl 3 rfl) ?_
    refine z_i (wr := [(ou, .inl (kL, 1, .inr (.inl fo)))]) (va_runV (As := [.int 1, .int x2, .int x3]) (rest := [.int 0, .ref ou]) ⟨hx, hb, hml, hown, hts⟩ (c_H_road_1 l eD eI ad dC dI s.heap.size hh aexpr achoo ameth aroom anod asort anote amet atold aheld apair astep asize nm nl n1 n2 nf ns nh nk np kI kL x2 x3) (cwV 3 hts g_c_L_road_3 rfl rfl rfl (by decide +kernel) ⟨Nat.le_of_ble_eq_true rfl, Nat.le_of_ble_eq_true rfl⟩) (z_preV (wc := [(hh, .inr (13, [.ref aexpr, .ref achoo, .ref ameth, .ref aroom, .ref anod, .ref asort, .ref anote, .ref amet, .int 0, .int 1])), (aroom, .inr (9, [.ref asort, .ref anod, .ref atold, .int 3, .ref aheld, .int 0, .ref apair, .ref astep, .int 0, .int 0, .int (-1), .int 0, .int 0, .ref asize])), (atold, .inl (kI, 60, .inl zTold)), (anod, .inr (7, [.ref nm, .ref nl, .ref n1, .ref n2, .ref nf, .ref ns, .ref nh, .ref nk, .ref np, .int 16, .int 0, .int 16, .int 0, .int 0])), (ns, .inl (kL, 1024, .inr (.inl zSec))), (asort, .inr (1, [.int 0, .ref eD, .int 0]))]) hP hD hK hS hA hE [0, 1, 2, 3, 4, 5] [0, 1] rfl (by decide) rfl (ci := 13) (q0 := 0) rfl rfl) rfl rfl hl.1 rfl (lv_room (Nat.le_of_ble_eq_true rfl)) dL_road_7 ⟨Nat.le_of_ble_eq_true rfl, Nat.le_of_ble_eq_true rfl⟩) hP hD hK hS hA [0, 1, 2, 3, 4, 5] [6] rfl rfl (by decide) (by decide) (fun r_7 u H locs hw_8 hP hD hK hS => ?_)
    obtain ⟨⟩ := u
    have hP : va_P (dC, dI) vwCl [(ou, .inl (kL, 1, .inr (.inl fo))), (hh, .inr (13, [.ref aexpr, .ref achoo, .ref ameth, .ref aroom, .ref anod, .ref asort, .ref anote, .ref amet, .int 0, .int 1])), (aroom, .inr (9, [.ref asort, .ref anod, .ref atold, .int 3, .ref aheld, .int 0, .ref apair, .ref astep, .int 0, .int 0, .int (-1), .int 0, .int 0, .ref asize])), (atold, .inl (kI, 60, .inl zTold)), (anod, .inr (7, [.ref nm, .ref nl, .ref n1, .ref n2, .ref nf, .ref ns, .ref nh, .ref nk, .ref np, .int 16, .int 0, .int 16, .int 0, .int 0])), (ns, .inl (kL, 1024, .inr (.inl zSec))), (asort, .inr (1, [.int 0, .ref eD, .int 0]))] H := hP
    have hD : va_D A [(ou, .inl (kL, 1, .inr (.inl fo))), (hh, .inr (13, [.ref aexpr, .ref achoo, .ref ameth, .ref aroom, .ref anod, .ref asort, .ref anote, .ref amet, .int 0, .int 1])), (aroom, .inr (9, [.ref asort, .ref anod, .ref atold, .int 3, .ref aheld, .int 0, .ref apair, .ref astep, .int 0, .int 0, .int (-1), .int 0, .int 0, .ref asize])), (atold, .inl (kI, 60, .inl zTold)), (anod, .inr (7, [.ref nm, .ref nl, .ref n1, .ref n2, .ref nf, .ref ns, .ref nh, .ref nk, .ref np, .int 16, .int 0, .int 16, .int 0, .int 0])), (ns, .inl (kL, 1024, .inr (.inl zSec))), (asort, .inr (1, [.int 0, .ref eD, .int 0]))] := hD
    have hK : va_K (dC, dI) vwCl [(kI, .int), (kL, .long), (kI, .int), (kL, .long)] s := hK
    have hw_8 : r_7 = (-9) := hw_8
    have hw_8 := hw_8.symm
    subst hw_8
    refine lv_i2l (v := (-9)) hx hb dL_road_10 (by decide) ?_
    refine va_last (D := (dC, dI)) hx hb hK hP hD hS 0 1 rfl rfl (by unfold vp_in; decide) dL_road_11 (fun H locs hP hD hS => ?_)
    have hP : va_P (dC, dI) vwCl [(ou, .inl (kL, 1, .inr (.inl (vp_updL fo (0 : Int32).toNatClampNeg (-9))))), (hh, .inr (13, [.ref aexpr, .ref achoo, .ref ameth, .ref aroom, .ref anod, .ref asort, .ref anote, .ref amet, .int 0, .int 1])), (aroom, .inr (9, [.ref asort, .ref anod, .ref atold, .int 3, .ref aheld, .int 0, .ref apair, .ref astep, .int 0, .int 0, .int (-1), .int 0, .int 0, .ref asize])), (atold, .inl (kI, 60, .inl zTold)), (anod, .inr (7, [.ref nm, .ref nl, .ref n1, .ref n2, .ref nf, .ref ns, .ref nh, .ref nk, .ref np, .int 16, .int 0, .int 16, .int 0, .int 0])), (ns, .inl (kL, 1024, .inr (.inl zSec))), (asort, .inr (1, [.int 0, .ref eD, .int 0]))] H := hP
    have hD : va_D A [(ou, .inl (kL, 1, .inr (.inl (vp_updL fo (0 : Int32).toNatClampNeg (-9))))), (hh, .inr (13, [.ref aexpr, .ref achoo, .ref ameth, .ref aroom, .ref anod, .ref asort, .ref anote, .ref amet, .int 0, .int 1])), (aroom, .inr (9, [.ref asort, .ref anod, .ref atold, .int 3, .ref aheld, .int 0, .ref apair, .ref astep, .int 0, .int 0, .int (-1), .int 0, .int 0, .ref asize])), (atold, .inl (kI, 60, .inl zTold)), (anod, .inr (7, [.ref nm, .ref nl, .ref n1, .ref n2, .ref nf, .ref ns, .ref nh, .ref nk, .ref np, .int 16, .int 0, .int 16, .int 0, .int 0])), (ns, .inl (kL, 1024, .inr (.inl zSec))), (asort, .inr (1, [.int 0, .ref eD, .int 0]))] := hD
    refine lv_goto (tgt := 19) hx hb dL_road_12 (by decide) ?_
    refine lv_iconst (v := 0) hx hb dL_road_19 (by decide) ?_
    have hP9 := hP.sub (ws' := [(ou, .inl (kL, 1, .inr (.inl (vp_updL fo (0 : Int32).toNatClampNeg (-9)))))]) [0] rfl
    have hD9 := hD.sub (ws' := [(ou, .inl (kL, 1, .inr (.inl (vp_updL fo (0 : Int32).toNatClampNeg (-9)))))]) [0] (by decide) rfl
    have hK9 := hK.sub (tys' := [(kL, .long)]) [1] rfl
    refine W.widen (k := 1) (n := 6) (Nat.le_of_ble_eq_true rfl) (Nat.le_of_ble_eq_true rfl) ?_
    refine vx_ret ?_
    exact W.iret (v := 0) hx hb hr (fun t ht hW => ⟨⟨0, (0, (vp_updL fo (0 : Int32).toNatClampNeg (-9))), rfl, ⟨rfl, by first | exact fun h => absurd h (by decide) | exact fun _ => rfl | rfl | decide | simp, by first | exact fun _ => rfl | exact fun _ => by simp [vp_updL]⟩, ⟨by rw [ht]; exact hP9, va_K.moved hW.alike hK9, hD9⟩⟩, hS.F ht⟩) hS.2.2 dL_road_20
  · refine lv_aload hx hb dL_road_0 (lv_at hl 4 rfl) ?_
    refine lv_iconst (v := 0) hx hb dL_road_2 (by decide) ?_
    refine lv_aload_n hx hb dL_road_3 rfl (lv_at hl 0 rfl) ?_
    refine lv_iload_n hx hb dL_road_4 rfl (lv_at hl 1 rfl) ?_
    refine lv_iload_n hx hb dL_road_5 rfl (lv_at hl 2 rfl) ?_
    refine lv_iload_n hx hb dL_road_6 rfl (lv_at hl 3 rfl) ?_
    refine z_i (wr := [(ou, .inl (kL, 1, .inr (.inl fo)))]) (va_runV (As := [.int 2, .int x2, .int x3]) (rest := [.int 0, .ref ou]) ⟨hx, hb, hml, hown, hts⟩ (c_H_road_2 l eD eI ad dC dI s.heap.size hh aexpr achoo ameth aroom anod asort anote amet atold aheld apair astep asize nm nl n1 n2 nf ns nh nk np kI kL x2 x3) (cwV 3 hts g_c_L_road_4 rfl rfl rfl (by decide +kernel) ⟨Nat.le_of_ble_eq_true rfl, Nat.le_of_ble_eq_true rfl⟩) (z_preV (wc := [(hh, .inr (13, [.ref aexpr, .ref achoo, .ref ameth, .ref aroom, .ref anod, .ref asort, .ref anote, .ref amet, .int 0, .int 1])), (aroom, .inr (9, [.ref asort, .ref anod, .ref atold, .int 3, .ref aheld, .int 0, .ref apair, .ref astep, .int 0, .int 0, .int (-1), .int 0, .int 0, .ref asize])), (atold, .inl (kI, 60, .inl zTold)), (anod, .inr (7, [.ref nm, .ref nl, .ref n1, .ref n2, .ref nf, .ref ns, .ref nh, .ref nk, .ref np, .int 16, .int 0, .int 16, .int 0, .int 0])), (ns, .inl (kL, 1024, .inr (.inl zSec))), (asort, .inr (1, [.int 0, .ref eD, .int 0]))]) hP hD hK hS hA hE [0, 1, 2, 3, 4, 5] [0, 1] rfl (by decide) rfl (ci := 13) (q0 := 0) rfl rfl) rfl rfl hl.1 rfl (lv_room (Nat.le_of_ble_eq_true rfl)) dL_road_7 ⟨Nat.le_of_ble_eq_true rfl, Nat.le_of_ble_eq_true rfl⟩) hP hD hK hS hA [0, 1, 2, 3, 4, 5] [6] rfl rfl (by decide) (by decide) (fun r_9 u H locs hw_10 hP hD hK hS => ?_)
    obtain ⟨⟩ := u
    have hP : va_P (dC, dI) vwCl [(ou, .inl (kL, 1, .inr (.inl fo))), (hh, .inr (13, [.ref aexpr, .ref achoo, .ref ameth, .ref aroom, .ref anod, .ref asort, .ref anote, .ref amet, .int 0, .int 1])), (aroom, .inr (9, [.ref asort, .ref anod, .ref atold, .int 3, .ref aheld, .int 0, .ref apair, .ref astep, .int 0, .int 0, .int (-1), .int 0, .int 0, .ref asize])), (atold, .inl (kI, 60, .inl zTold)), (anod, .inr (7, [.ref nm, .ref nl, .ref n1, .ref n2, .ref nf, .ref ns, .ref nh, .ref nk, .ref np, .int 16, .int 0, .int 16, .int 0, .int 0])), (ns, .inl (kL, 1024, .inr (.inl zSec))), (asort, .inr (1, [.int 0, .ref eD, .int 0]))] H := hP
    have hD : va_D A [(ou, .inl (kL, 1, .inr (.inl fo))), (hh, .inr (13, [.ref aexpr, .ref achoo, .ref ameth, .ref aroom, .ref anod, .ref asort, .ref anote, .ref amet, .int 0, .int 1])), (aroom, .inr (9, [.ref asort, .ref anod, .ref atold, .int 3, .ref aheld, .int 0, .ref apair, .ref astep, .int 0, .int 0, .int (-1), .int 0, .int 0, .ref asize])), (atold, .inl (kI, 60, .inl zTold)), (anod, .inr (7, [.ref nm, .ref nl, .ref n1, .ref n2, .ref nf, .ref ns, .ref nh, .ref nk, .ref np, .int 16, .int 0, .int 16, .int 0, .int 0])), (ns, .inl (kL, 1024, .inr (.inl zSec))), (asort, .inr (1, [.int 0, .ref eD, .int 0]))] := hD
    have hK : va_K (dC, dI) vwCl [(kI, .int), (kL, .long), (kI, .int), (kL, .long)] s := hK
    have hw_10 : r_9 = (-9) := hw_10
    have hw_10 := hw_10.symm
    subst hw_10
    refine lv_i2l (v := (-9)) hx hb dL_road_10 (by decide) ?_
    refine va_last (D := (dC, dI)) hx hb hK hP hD hS 0 1 rfl rfl (by unfold vp_in; decide) dL_road_11 (fun H locs hP hD hS => ?_)
    have hP : va_P (dC, dI) vwCl [(ou, .inl (kL, 1, .inr (.inl (vp_updL fo (0 : Int32).toNatClampNeg (-9))))), (hh, .inr (13, [.ref aexpr, .ref achoo, .ref ameth, .ref aroom, .ref anod, .ref asort, .ref anote, .ref amet, .int 0, .int 1])), (aroom, .inr (9, [.ref asort, .ref anod, .ref atold, .int 3, .ref aheld, .int 0, .ref apair, .ref astep, .int 0, .int 0, .int (-1), .int 0, .int 0, .ref asize])), (atold, .inl (kI, 60, .inl zTold)), (anod, .inr (7, [.ref nm, .ref nl, .ref n1, .ref n2, .ref nf, .ref ns, .ref nh, .ref nk, .ref np, .int 16, .int 0, .int 16, .int 0, .int 0])), (ns, .inl (kL, 1024, .inr (.inl zSec))), (asort, .inr (1, [.int 0, .ref eD, .int 0]))] H := hP
    have hD : va_D A [(ou, .inl (kL, 1, .inr (.inl (vp_updL fo (0 : Int32).toNatClampNeg (-9))))), (hh, .inr (13, [.ref aexpr, .ref achoo, .ref ameth, .ref aroom, .ref anod, .ref asort, .ref anote, .ref amet, .int 0, .int 1])), (aroom, .inr (9, [.ref asort, .ref anod, .ref atold, .int 3, .ref aheld, .int 0, .ref apair, .ref astep, .int 0, .int 0, .int (-1), .int 0, .int 0, .ref asize])), (atold, .inl (kI, 60, .inl zTold)), (anod, .inr (7, [.ref nm, .ref nl, .ref n1, .ref n2, .ref nf, .ref ns, .ref nh, .ref nk, .ref np, .int 16, .int 0, .int 16, .int 0, .int 0])), (ns, .inl (kL, 1024, .inr (.inl zSec))), (asort, .inr (1, [.int 0, .ref eD, .int 0]))] := hD
    refine lv_goto (tgt := 19) hx hb dL_road_12 (by decide) ?_
    refine lv_iconst (v := 0) hx hb dL_road_19 (by decide) ?_
    have hP9 := hP.sub (ws' := [(ou, .inl (kL, 1, .inr (.inl (vp_updL fo (0 : Int32).toNatClampNeg (-9)))))]) [0] rfl
    have hD9 := hD.sub (ws' := [(ou, .inl (kL, 1, .inr (.inl (vp_updL fo (0 : Int32).toNatClampNeg (-9)))))]) [0] (by decide) rfl
    have hK9 := hK.sub (tys' := [(kL, .long)]) [1] rfl
    refine W.widen (k := 1) (n := 6) (Nat.le_of_ble_eq_true rfl) (Nat.le_of_ble_eq_true rfl) ?_
    refine vx_ret ?_
    exact W.iret (v := 0) hx hb hr (fun t ht hW => ⟨⟨0, (0, (vp_updL fo (0 : Int32).toNatClampNeg (-9))), rfl, ⟨rfl, by first | exact fun h => absurd h (by decide) | exact fun _ => rfl | rfl | decide | simp, by first | exact fun _ => rfl | exact fun _ => by simp [vp_updL]⟩, ⟨by rw [ht]; exact hP9, va_K.moved hW.alike hK9, hD9⟩⟩, hS.F ht⟩) hS.2.2 dL_road_20

def wb_c_L_join : List Cond := [.code yX11_join cX11_join 4 (some .int), .code yX11_needType cX11_needType 2 none, .classLink RX11 277 "java/lang/IndexOutOfBoundsException", .initialized "java/lang/IndexOutOfBoundsException", .methodLink RX11 116 yX11_needType, .instanceMethod yX11_needType, .selects RX11 yX11_needType yX11_needType, .initialized RX11, .methodLink RL 63 yX11_join, .instanceMethod yX11_join, .selects RX11 yX11_join yX11_join, .classLink RL 21 "java/lang/IndexOutOfBoundsException", .fieldLink RX11 31 "Hornbook" "room" "LHornbook$Room;", .fieldLink RX11 344 "Hornbook$Room" "tellings" "I", .code yX7_tidy cX7_tidy 1 none, .fieldLink RX7 52 "Hornbook$Room" "isTidied" "Z", .fieldLink RX7 21 "Hornbook$Room" "nodes" "LHornbook$Nodes;", .code yX5_isFull cX5_isFull 1 (some .boolean), .fieldLink RX5 47 "Hornbook$Nodes" "count" "I", .fieldLink RX5 28 "Hornbook$Nodes" "second" "[J", .methodLink RX7 87 yX5_isFull, .instanceMethod yX5_isFull, .selects RX5 yX5_isFull yX5_isFull, .initialized RX5, .methodLink RX11 175 yX7_tidy, .instanceMethod yX7_tidy, .selects RX7 yX7_tidy yX7_tidy, .initialized RX7, .code yX7_toldAt cX7_toldAt 2 (some .int), .fieldLink RX7 29 "Hornbook$Room" "tellings" "I", .fieldLink RX7 25 "Hornbook$Room" "told" "[I", .methodLink RX11 123 yX7_toldAt, .instanceMethod yX7_toldAt, .selects RX7 yX7_toldAt yX7_toldAt, .code yX7_joinOf cX7_joinOf 5 (some .int), .code yX5_through cX5_through 4 (some .int), .methodLink RX7 194 yX5_through, .instanceMethod yX5_through, .selects RX5 yX5_through yX5_through, .methodLink RX11 251 yX7_joinOf, .instanceMethod yX7_joinOf, .selects RX7 yX7_joinOf yX7_joinOf, .code yX7_lineAt cX7_lineAt 3 (some .int), .fieldLink RX7 59 "Hornbook$Room" "passing" "I", .fieldLink RX7 62 "Hornbook$Room" "left" "I", .code yX7_ask cX7_ask 7 (some .int), .fieldLink RX7 49 "Hornbook$Room" "asking" "I", .fieldLink RX7 56 "Hornbook$Room" "last" "I", .code yX7_open cX7_open 5 none, .fieldLink RX7 46 "Hornbook$Room" "steps" "Ljava/util/ArrayList;", .code yJx4a65c_size_8abf5 cJx4a65c_size_8abf5 1 (some .int), .fieldLink RJx4a65c 48 "java/util/ArrayList" "size" "I", .methodLink RX7 139 yJx4a65c_size_8abf5, .instanceMethod yJx4a65c_size_8abf5, .selects RJx4a65c yJx4a65c_size_8abf5 yJx4a65c_size_8abf5, .initialized RJx4a65c, .classLink RX7 147 RX10, .instantiable RX10 14, .initialized RX10, .code yX10_init cX10_init 1 none, .methodLink RX10 1 objectInit, .instanceMethod objectInit, .code objectInit ⟨#[0xb1]⟩ 1 none, .instanceMethod yX10_init, .code yJx4a65c_add_9ea2d cJx4a65c_add_9ea2d 2 (some .boolean), .sameField "java/util/ArrayList" "java/util/AbstractList" "modCount" "I", .fieldLink RJx4a65c 63 "java/util/ArrayList" "modCount" "I", .fieldLink RJx4a65c 9 "java/util/ArrayList" "elementData" "[Ljava/lang/Object;", .code yJx4a65c_add_72be8 cJx4a65c_add_72be8 4 none, .code yJx4a65c_grow_d5877 cJx4a65c_grow_d5877 1 (some (.array (.object "java/lang/Object"))), .code yJx4a65c_grow_92f84 cJx4a65c_grow_92f84 4 (some (.array (.object "java/lang/Object"))), .fieldLink RJx4a65c 39 "java/util/ArrayList" "DEFAULTCAPACITY_EMPTY_ELEMENTDATA" "[Ljava/lang/Object;", .methodLink RJx4a65c 79 Lib.Math.max.name, .static Lib.Math.max.name, .initialized "java/lang/Math", .code Lib.Math.max.name Lib.Math.max.code 2 (some .int), .classLink RJx4a65c 7 "java/lang/Object", .methodLink RJx4a65c 69 yJx4a65c_grow_92f84, .instanceMethod yJx4a65c_grow_92f84, .selects RJx4a65c yJx4a65c_grow_92f84 yJx4a65c_grow_92f84, .methodLink RJx4a65c 129 yJx4a65c_grow_d5877, .instanceMethod yJx4a65c_grow_d5877, .selects RJx4a65c yJx4a65c_grow_d5877 yJx4a65c_grow_d5877, .methodLink RJx4a65c 131 yJx4a65c_add_72be8, .instanceMethod yJx4a65c_add_72be8, .selects RJx4a65c yJx4a65c_add_72be8 yJx4a65c_add_72be8, .methodLink RX7 239 yJx4a65c_add_9ea2d, .instanceMethod yJx4a65c_add_9ea2d, .selects RJx4a65c yJx4a65c_add_9ea2d yJx4a65c_add_9ea2d, .code yJx4a65c_get_915e3 cJx4a65c_get_915e3 2 (some (.object "java/lang/Object")), .code yJ15_checkIndex_7cf53 cJ15_checkIndex_7cf53 2 (some .int), .code yJ3_checkIndex_8e157 cJ3_checkIndex_8e157 3 (some .int), .methodLink RJ15 105 yJ3_checkIndex_8e157, .static yJ3_checkIndex_8e157, .initialized RJ3, .methodLink RJx4a65c 118 yJ15_checkIndex_7cf53, .static yJ15_checkIndex_7cf53, .initialized RJ15, .code yJx4a65c_elementData_915e3 cJx4a65c_elementData_915e3 2 (some (.object "java/lang/Object")), .methodLink RJx4a65c 123 yJx4a65c_elementData_915e3, .instanceMethod yJx4a65c_elementData_915e3, .selects RJx4a65c yJx4a65c_elementData_915e3 yJx4a65c_elementData_915e3, .methodLink RX7 143 yJx4a65c_get_915e3, .instanceMethod yJx4a65c_get_915e3, .selects RJx4a65c yJx4a65c_get_915e3 yJx4a65c_get_915e3, .classLink RX7 147 "Hornbook$Step", .fieldLink RX7 155 "Hornbook$Step" "kind" "I", .fieldLink RX7 149 "Hornbook$Step" "self" "I", .fieldLink RX7 152 "Hornbook$Step" "a" "I", .fieldLink RX7 158 "Hornbook$Step" "b" "I", .fieldLink RX7 243 "Hornbook$Step" "wanted" "I", .fieldLink RX7 161 "Hornbook$Step" "x" "I", .fieldLink RX7 164 "Hornbook$Step" "y" "I", .fieldLink RX7 167 "Hornbook$Step" "one" "I", .fieldLink RX7 170 "Hornbook$Step" "other" "I", .fieldLink RX7 246 "Hornbook$Step" "phase" "I", .fieldLink RX7 249 "Hornbook$Step" "place" "I", .fieldLink RX7 252 "Hornbook$Step" "turn" "I", .fieldLink RX7 255 "Hornbook$Step" "isBack" "Z", .fieldLink RX7 258 "Hornbook$Step" "isAnswered" "Z", .methodLink RX7 205 yX7_open, .instanceMethod yX7_open, .selects RX7 yX7_open yX7_open, .constantLong RX7 209 (1099511627776), .fieldLink RX7 42 "Hornbook$Room" "pairs" "LHornbook$Pairs;", .code yX6_isCrowded cX6_isCrowded 1 (some .boolean), .fieldLink RX6 15 "Hornbook$Pairs" "count" "I", .fieldLink RX6 9 "Hornbook$Pairs" "slots" "[J", .methodLink RX7 211 yX6_isCrowded, .instanceMethod yX6_isCrowded, .selects RX6 yX6_isCrowded yX6_isCrowded, .initialized RX6, .code yX7_stepLine cX7_stepLine 4 none, .code yX5_formOf cX5_formOf 2 (some .int), .methodLink RX7 187 yX5_formOf, .instanceMethod yX5_formOf, .selects RX5 yX5_formOf yX5_formOf, .fieldLink RX7 68 "Hornbook$Room" "sizes" "LHornbook$Sizes;", .code yX8_find cX8_find 4 (some .int), .fieldLink RX8 9 "Hornbook$Sizes" "slots" "[J", .methodLink RX7 331 yX8_find, .instanceMethod yX8_find, .selects RX8 yX8_find yX8_find, .initialized RX8, .fieldLink RX7 12 "Hornbook$Room" "sorts" "Ljava/util/ArrayList;", .code yX7_answer cX7_answer 2 none, .methodLink RX7 275 yX7_answer, .instanceMethod yX7_answer, .selects RX7 yX7_answer yX7_answer, .methodLink RX7 235 yX7_stepLine, .instanceMethod yX7_stepLine, .selects RX7 yX7_stepLine yX7_stepLine, .methodLink RX7 202 yX7_ask, .instanceMethod yX7_ask, .selects RX7 yX7_ask yX7_ask, .methodLink RX11 248 yX7_lineAt, .instanceMethod yX7_lineAt, .selects RX7 yX7_lineAt yX7_lineAt] ++ u_ws RJx4a65c TJx4a65c 3 ++ u_ws RX10 TX10 14 ++ u_ws RX11 TX11 10 ++ u_ws RX5 TX5 14 ++ u_ws RX6 TX6 3 ++ u_ws RX7 TX7 14 ++ u_ws RX8 TX8 2
def w_c_L_join : List Cond := .codeWith yL_join cL_join 6 (some .int) [(0, 12, 15, 21)] :: (wb_c_L_join ++ zAt)
set_option maxRecDepth 100000 in
theorem g_c_L_join_0 : GoodIn w_c_L_join (wsV RL 63 RX11 yX11_join w_c_H_join_l) := goodIn_app (goodIn_of _ (by decide +kernel)) (goodIn_ca (goodIn_p (big := w_c_L_join) (.code yX11_join cX11_join 4 (some .int) :: wb_c_H_join_l) [1, 2] rfl (by decide +kernel)) (goodIn_sub (fun _ h => List.mem_cons_of_mem _ (List.mem_append_right _ h)) zAt_good))
set_option maxRecDepth 100000 in
theorem g_c_L_join_1 : GoodIn w_c_L_join (wsV RL 63 RX11 yX11_join w_c_H_join_h) := goodIn_app (goodIn_of _ (by decide +kernel)) (goodIn_ca (goodIn_p (big := w_c_L_join) (.code yX11_join cX11_join 4 (some .int) :: wb_c_H_join_h) [1, 2] rfl (by decide +kernel)) (goodIn_sub (fun _ h => List.mem_cons_of_mem _ (List.mem_append_right _ h)) zAt_good))
set_option maxRecDepth 100000 in
theorem g_c_L_join_2 : GoodIn w_c_L_join (wsV RL 63 RX11 yX11_join w_c_H_join_kl) := goodIn_app (goodIn_of _ (by decide +kernel)) (goodIn_ca (goodIn_p (big := w_c_L_join) (.code yX11_join cX11_join 4 (some .int) :: wb_c_H_join_kl) [1, 2] rfl (by decide +kernel)) (goodIn_sub (fun _ h => List.mem_cons_of_mem _ (List.mem_append_right _ h)) zAt_good))
set_option maxRecDepth 100000 in
theorem g_c_L_join_3 : GoodIn w_c_L_join (wsV RL 63 RX11 yX11_join w_c_H_join_kh) := goodIn_app (goodIn_of _ (by decide +kernel)) (goodIn_ca (goodIn_p (big := w_c_L_join) (.code yX11_join cX11_join 4 (some .int) :: wb_c_H_join_kh) [1, 2] rfl (by decide +kernel)) (goodIn_sub (fun _ h => List.mem_cons_of_mem _ (List.mem_append_right _ h)) zAt_good))
set_option maxRecDepth 100000 in
theorem g_c_L_join_4 : GoodIn w_c_L_join (wsV RL 63 RX11 yX11_join w_c_H_join_00) := goodIn_app (goodIn_of _ (by decide +kernel)) (goodIn_p (big := w_c_L_join) (.code yX11_join cX11_join 4 (some .int) :: wb_c_H_join_00) [1, 2, 15, 18, 29, 35, 36, 43, 46, 49, 51, 60, 63, 65, 69, 70, 71, 76, 90, 91, 92, 99, 126, 133, 134, 139, 146] rfl (by decide +kernel))
set_option maxRecDepth 100000 in
theorem g_c_L_join_5 : GoodIn w_c_L_join (wsV RL 63 RX11 yX11_join w_c_H_join_01) := goodIn_app (goodIn_of _ (by decide +kernel)) (goodIn_p (big := w_c_L_join) (.code yX11_join cX11_join 4 (some .int) :: wb_c_H_join_01) [1, 2, 15, 18, 29, 35, 36, 43, 46, 49, 51, 60, 63, 65, 69, 70, 71, 76, 90, 91, 92, 99, 126, 133, 134, 139, 146] rfl (by decide +kernel))
set_option maxRecDepth 100000 in
theorem g_c_L_join_6 : GoodIn w_c_L_join (wsV RL 63 RX11 yX11_join w_c_H_join_02) := goodIn_app (goodIn_of _ (by decide +kernel)) (goodIn_p (big := w_c_L_join) (.code yX11_join cX11_join 4 (some .int) :: wb_c_H_join_02) [1, 2, 15, 18, 29, 35, 36, 43, 46, 49, 51, 60, 63, 65, 69, 70, 71, 76, 90, 91, 92, 99, 126, 133, 134, 139, 146] rfl (by decide +kernel))
set_option maxRecDepth 100000 in
theorem g_c_L_join_7 : GoodIn w_c_L_join (wsV RL 63 RX11 yX11_join w_c_H_join_10) := goodIn_app (goodIn_of _ (by decide +kernel)) (goodIn_p (big := w_c_L_join) (.code yX11_join cX11_join 4 (some .int) :: wb_c_H_join_10) [1, 2, 15, 18, 29, 35, 36, 43, 46, 49, 51, 60, 63, 65, 69, 70, 71, 76, 90, 91, 92, 99, 126, 133, 134, 139, 146] rfl (by decide +kernel))
set_option maxRecDepth 100000 in
theorem g_c_L_join_8 : GoodIn w_c_L_join (wsV RL 63 RX11 yX11_join w_c_H_join_11) := goodIn_app (goodIn_of _ (by decide +kernel)) (goodIn_p (big := w_c_L_join) (.code yX11_join cX11_join 4 (some .int) :: wb_c_H_join_11) [1, 2, 15, 18, 29, 35, 36, 43, 46, 49, 51, 60, 63, 65, 69, 70, 71, 76, 90, 91, 92, 99, 126, 133, 134, 139, 146] rfl (by decide +kernel))
set_option maxRecDepth 100000 in
theorem g_c_L_join_9 : GoodIn w_c_L_join (wsV RL 63 RX11 yX11_join w_c_H_join_12) := goodIn_app (goodIn_of _ (by decide +kernel)) (goodIn_p (big := w_c_L_join) (.code yX11_join cX11_join 4 (some .int) :: wb_c_H_join_12) [1, 2, 15, 18, 29, 35, 36, 43, 46, 49, 51, 60, 63, 65, 69, 70, 71, 76, 90, 91, 92, 99, 126, 133, 134, 139, 146] rfl (by decide +kernel))
set_option maxRecDepth 100000 in
theorem g_c_L_join_10 : GoodIn w_c_L_join (wsV RL 63 RX11 yX11_join w_c_H_join_20) := goodIn_app (goodIn_of _ (by decide +kernel)) (goodIn_p (big := w_c_L_join) (.code yX11_join cX11_join 4 (some .int) :: wb_c_H_join_20) [1, 2, 15, 18, 29, 35, 36, 43, 46, 49, 51, 60, 63, 65, 69, 70, 71, 76, 90, 91, 92, 99, 126, 133, 134, 139, 146] rfl (by decide +kernel))
set_option maxRecDepth 100000 in
theorem g_c_L_join_11 : GoodIn w_c_L_join (wsV RL 63 RX11 yX11_join w_c_H_join_21) := goodIn_app (goodIn_of _ (by decide +kernel)) (goodIn_p (big := w_c_L_join) (.code yX11_join cX11_join 4 (some .int) :: wb_c_H_join_21) [1, 2, 15, 18, 29, 35, 36, 43, 46, 49, 51, 60, 63, 65, 69, 70, 71, 76, 90, 91, 92, 99, 126, 133, 134, 139, 146] rfl (by decide +kernel))
set_option maxRecDepth 100000 in
theorem g_c_L_join_12 : GoodIn w_c_L_join (wsV RL 63 RX11 yX11_join w_c_H_join_22) := goodIn_app (goodIn_of _ (by decide +kernel)) (goodIn_p (big := w_c_L_join) (.code yX11_join cX11_join 4 (some .int) :: wb_c_H_join_22) [1, 2, 15, 18, 29, 35, 36, 43, 46, 49, 51, 60, 63, 65, 69, 70, 71, 76, 90, 91, 92, 99, 126, 133, 134, 139, 146] rfl (by decide +kernel))
set_option maxHeartbeats 4000000 in
set_option maxRecDepth 100000 in
theorem c_L_join (l : Launch) (hfl : l.flags = flags0) (eD eI : Nat) (ad : Nat → Nat) (dC : Nat → ClassId) (dI : Nat → Nat → Nat) (sz : Nat) (hh : Nat) (aexpr : Nat) (achoo : Nat) (ameth : Nat) (aroom : Nat) (anod : Nat) (asort : Nat) (anote : Nat) (amet : Nat) (atold : Nat) (aheld : Nat) (apair : Nat) (astep : Nat) (asize : Nat) (nm : Nat) (nl : Nat) (n1 : Nat) (n2 : Nat) (nf : Nat) (ns : Nat) (nh : Nat) (nk : Nat) (np : Nat) (apsl : Nat) (azsl : Nat) (ou : Nat) (kI : ClassId) (kL : ClassId) (x1 : Int32) (x2 : Int32) (x3 : Int32) (fo : Nat → Int64) : vx_Met l yL_join w_c_L_join ({ frames := 9, cells := 2, slots := 24, locals := 196 }) (va_Pc [.ref hh, .int x1, .int x2, .int x3, .ref ou] (zPreD eD eI ad (dC, dI) [(hh, .inr (13, [.ref aexpr, .ref achoo, .ref ameth, .ref aroom, .ref anod, .ref asort, .ref anote, .ref amet, .int 0, .int 1])), (aroom, .inr (9, [.ref asort, .ref anod, .ref atold, .int 3, .ref aheld, .int 0, .ref apair, .ref astep, .int 0, .int 0, .int (-1), .int 0, .int 0, .ref asize])), (atold, .inl (kI, 60, .inl zTold)), (anod, .inr (7, [.ref nm, .ref nl, .ref n1, .ref n2, .ref nf, .ref ns, .ref nh, .ref nk, .ref np, .int 16, .int 0, .int 16, .int 0, .int 0])), (ns, .inl (kL, 1024, .inr (.inl zSec))), (asort, .inr (1, [.int 0, .ref eD, .int 0])), (astep, .inr (1, [.int 0, .ref eD, .int 0])), (apair, .inr (8, [.ref apsl, .int 0, .int 0])), (apsl, .inl (kL, 512, .inr (.inl (fun _ => 0)))), (asize, .inr (10, [.ref azsl, .int 0])), (azsl, .inl (kL, 0, .inr (.inl (fun _ => 0)))), (ou, .inl (kL, 1, .inr (.inl fo)))] [(kI, .int), (kL, .long)] sz)) (va_Qi (fun (r : Int32) (u : Int32 × (Nat → Int64)) => match u with | (k2, fo2) => r = k2 ∧ k2 = (if x1 < 0 ∨ 2 < x1 ∨ x2 < 0 ∨ 2 < x2 then 1 else 0) ∧ (k2 = 0 → fo2 (0 : Int32).toNatClampNeg = ((if x3 = 0 then (if x1 = x2 ∨ x1 = 1 ∨ x2 = 0 then -1 - x2 else -1 - x1) else (-9)) : Int32).toInt64)) (fun (u : Int32 × (Nat → Int64)) => match u with | (k2, fo2) => zEnd (dC, dI) (va_A [(hh, .inr (13, [.ref aexpr, .ref achoo, .ref ameth, .ref aroom, .ref anod, .ref asort, .ref anote, .ref amet, .int 0, .int 1])), (aroom, .inr (9, [.ref asort, .ref anod, .ref atold, .int 3, .ref aheld, .int 0, .ref apair, .ref astep, .int 0, .int 0, .int (-1), .int 0, .int 0, .ref asize])), (atold, .inl (kI, 60, .inl zTold)), (anod, .inr (7, [.ref nm, .ref nl, .ref n1, .ref n2, .ref nf, .ref ns, .ref nh, .ref nk, .ref np, .int 16, .int 0, .int 16, .int 0, .int 0])), (ns, .inl (kL, 1024, .inr (.inl zSec))), (asort, .inr (1, [.int 0, .ref eD, .int 0])), (astep, .inr (1, [.int 0, .ref eD, .int 0])), (apair, .inr (8, [.ref apsl, .int 0, .int 0])), (apsl, .inl (kL, 512, .inr (.inl (fun _ => 0)))), (asize, .inr (10, [.ref azsl, .int 0])), (azsl, .inl (kL, 0, .inr (.inl (fun _ => 0)))), (ou, .inl (kL, 1, .inr (.inl fo)))] sz) [(ou, .inl (kL, 1, .inr (.inl fo2)))] [(kL, .long)]) (va_A [(hh, .inr (13, [.ref aexpr, .ref achoo, .ref ameth, .ref aroom, .ref anod, .ref asort, .ref anote, .ref amet, .int 0, .int 1])), (aroom, .inr (9, [.ref asort, .ref anod, .ref atold, .int 3, .ref aheld, .int 0, .ref apair, .ref astep, .int 0, .int 0, .int (-1), .int 0, .int 0, .ref asize])), (atold, .inl (kI, 60, .inl zTold)), (anod, .inr (7, [.ref nm, .ref nl, .ref n1, .ref n2, .ref nf, .ref ns, .ref nh, .ref nk, .ref np, .int 16, .int 0, .int 16, .int 0, .int 0])), (ns, .inl (kL, 1024, .inr (.inl zSec))), (asort, .inr (1, [.int 0, .ref eD, .int 0])), (astep, .inr (1, [.int 0, .ref eD, .int 0])), (apair, .inr (8, [.ref apsl, .int 0, .int 0])), (apsl, .inl (kL, 512, .inr (.inl (fun _ => 0)))), (asize, .inr (10, [.ref azsl, .int 0])), (azsl, .inl (kL, 0, .inr (.inl (fun _ => 0)))), (ou, .inl (kL, 1, .inr (.inl fo)))] sz)) (zX (fun _ => False) (va_A [(hh, .inr (13, [.ref aexpr, .ref achoo, .ref ameth, .ref aroom, .ref anod, .ref asort, .ref anote, .ref amet, .int 0, .int 1])), (aroom, .inr (9, [.ref asort, .ref anod, .ref atold, .int 3, .ref aheld, .int 0, .ref apair, .ref astep, .int 0, .int 0, .int (-1), .int 0, .int 0, .ref asize])), (atold, .inl (kI, 60, .inl zTold)), (anod, .inr (7, [.ref nm, .ref nl, .ref n1, .ref n2, .ref nf, .ref ns, .ref nh, .ref nk, .ref np, .int 16, .int 0, .int 16, .int 0, .int 0])), (ns, .inl (kL, 1024, .inr (.inl zSec))), (asort, .inr (1, [.int 0, .ref eD, .int 0])), (astep, .inr (1, [.int 0, .ref eD, .int 0])), (apair, .inr (8, [.ref apsl, .int 0, .int 0])), (apsl, .inl (kL, 512, .inr (.inl (fun _ => 0)))), (asize, .inr (10, [.ref azsl, .int 0])), (azsl, .inl (kL, 0, .inr (.inl (fun _ => 0)))), (ou, .inl (kL, 1, .inr (.inl fo)))] sz)) 2 24 (va_A [(hh, .inr (13, [.ref aexpr, .ref achoo, .ref ameth, .ref aroom, .ref anod, .ref asort, .ref anote, .ref amet, .int 0, .int 1])), (aroom, .inr (9, [.ref asort, .ref anod, .ref atold, .int 3, .ref aheld, .int 0, .ref apair, .ref astep, .int 0, .int 0, .int (-1), .int 0, .int 0, .ref asize])), (atold, .inl (kI, 60, .inl zTold)), (anod, .inr (7, [.ref nm, .ref nl, .ref n1, .ref n2, .ref nf, .ref ns, .ref nh, .ref nk, .ref np, .int 16, .int 0, .int 16, .int 0, .int 0])), (ns, .inl (kL, 1024, .inr (.inl zSec))), (asort, .inr (1, [.int 0, .ref eD, .int 0])), (astep, .inr (1, [.int 0, .ref eD, .int 0])), (apair, .inr (8, [.ref apsl, .int 0, .int 0])), (apsl, .inl (kL, 512, .inr (.inl (fun _ => 0)))), (asize, .inr (10, [.ref azsl, .int 0])), (azsl, .inl (kL, 0, .inr (.inl (fun _ => 0)))), (ou, .inl (kL, 1, .inr (.inl fo)))] sz) := by
  refine vx_ofWH (cc := cL_join) (maxL := 6) (ret := (some .int)) (hh := [(0, 12, 15, 21)]) (by decide +kernel) rfl ?_
  intro p e s m args below meth c s₁ B hml hv
  obtain ⟨rfl, ⟨hsz, hP, hK, hD0, hE⟩, hDc⟩ := hv
  have hx := B.exec
  have hb := B.bytes
  have hr := B.returns
  have hts := atoms_spec (ws := w_c_L_join) B.pre
  have hown : s.vm.findClass RL = some m.cls := findClass_of_methodNamed B.named
  have hlocks := B.notSynchronized
  have htab := vx_table (x := yL_join) B (hts (.codeWith yL_join cL_join 6 (some .int) [(0, 12, 15, 21)]) List.mem_cons_self)
  subst hsz
  have hD := hD0.self (sz := s.heap.size)
  generalize hAe : va_A [(hh, .inr (13, [.ref aexpr, .ref achoo, .ref ameth, .ref aroom, .ref anod, .ref asort, .ref anote, .ref amet, .int 0, .int 1])), (aroom, .inr (9, [.ref asort, .ref anod, .ref atold, .int 3, .ref aheld, .int 0, .ref apair, .ref astep, .int 0, .int 0, .int (-1), .int 0, .int 0, .ref asize])), (atold, .inl (kI, 60, .inl zTold)), (anod, .inr (7, [.ref nm, .ref nl, .ref n1, .ref n2, .ref nf, .ref ns, .ref nh, .ref nk, .ref np, .int 16, .int 0, .int 16, .int 0, .int 0])), (ns, .inl (kL, 1024, .inr (.inl zSec))), (asort, .inr (1, [.int 0, .ref eD, .int 0])), (astep, .inr (1, [.int 0, .ref eD, .int 0])), (apair, .inr (8, [.ref apsl, .int 0, .int 0])), (apsl, .inl (kL, 512, .inr (.inl (fun _ => 0)))), (asize, .inr (10, [.ref azsl, .int 0])), (azsl, .inl (kL, 0, .inr (.inl (fun _ => 0)))), (ou, .inl (kL, 1, .inr (.inl fo)))] s.heap.size = A at hD hE ⊢
  have hA : ∀ q : Nat, s.heap.size ≤ q → A q := fun q h => by rw [← hAe]; exact Or.inr h
  have hS : va_S A s.heap s.heap [] := va_S.rf
  have hP : va_P (dC, dI) vwCl [(hh, .inr (13, [.ref aexpr, .ref achoo, .ref ameth, .ref aroom, .ref anod, .ref asort, .ref anote, .ref amet, .int 0, .int 1])), (aroom, .inr (9, [.ref asort, .ref anod, .ref atold, .int 3, .ref aheld, .int 0, .ref apair, .ref astep, .int 0, .int 0, .int (-1), .int 0, .int 0, .ref asize])), (atold, .inl (kI, 60, .inl zTold)), (anod, .inr (7, [.ref nm, .ref nl, .ref n1, .ref n2, .ref nf, .ref ns, .ref nh, .ref nk, .ref np, .int 16, .int 0, .int 16, .int 0, .int 0])), (ns, .inl (kL, 1024, .inr (.inl zSec))), (asort, .inr (1, [.int 0, .ref eD, .int 0])), (astep, .inr (1, [.int 0, .ref eD, .int 0])), (apair, .inr (8, [.ref apsl, .int 0, .int 0])), (apsl, .inl (kL, 512, .inr (.inl (fun _ => 0)))), (asize, .inr (10, [.ref azsl, .int 0])), (azsl, .inl (kL, 0, .inr (.inl (fun _ => 0)))), (ou, .inl (kL, 1, .inr (.inl fo)))] s.heap := hP
  have hl := lv_entry ([.ref hh, .int x1, .int x2, .int x3, .ref ou]) (n := 6) (Nat.le_of_ble_eq_true rfl)
  rw [lg_entry_eq]
  generalize (lg_sl ([.ref hh, .int x1, .int x2, .int x3, .ref ou]) ++ List.replicate (6 - (lg_sl ([.ref hh, .int x1, .int x2, .int x3, .ref ou])).length) Slot.unset).toArray = ls at hl ⊢
  have hl : lv_has ls 6 [(0, .ref hh), (1, .int x1), (2, .int x2), (3, .int x3), (4, .ref ou)] := hl
  have in_RJx4a65c : ∀ w ∈ u_ws RJx4a65c TJx4a65c 3, w ∈ w_c_L_join := by decide +kernel
  have in_RX10 : ∀ w ∈ u_ws RX10 TX10 14, w ∈ w_c_L_join := by decide +kernel
  have in_RX11 : ∀ w ∈ u_ws RX11 TX11 10, w ∈ w_c_L_join := by decide +kernel
  have in_RX5 : ∀ w ∈ u_ws RX5 TX5 14, w ∈ w_c_L_join := by decide +kernel
  have in_RX6 : ∀ w ∈ u_ws RX6 TX6 3, w ∈ w_c_L_join := by decide +kernel
  have in_RX7 : ∀ w ∈ u_ws RX7 TX7 14, w ∈ w_c_L_join := by decide +kernel
  have in_RX8 : ∀ w ∈ u_ws RX8 TX8 2, w ∈ w_c_L_join := by decide +kernel
  rcases z_split3 x1 with hx11 | ⟨hx10, hx11⟩ | rfl | rfl | rfl
  · refine lv_aload hx hb dL_join_0 (lv_at hl 4 rfl) ?_
    refine lv_iconst (v := 0) hx hb dL_join_2 (by decide) ?_
    refine lv_aload_n hx hb dL_join_3 rfl (lv_at hl 0 rfl) ?_
    refine lv_iload_n hx hb dL_join_4 rfl (lv_at hl 1 rfl) ?_
    refine lv_iload_n hx hb dL_join_5 rfl (lv_at hl 2 rfl) ?_
    refine lv_iload_n hx hb dL_join_6 rfl (lv_at hl 3 rfl) ?_
    refine zx_i (wr := [(atold, .inl (kI, 60, .inl zTold)), (anod, .inr (7, [.ref nm, .ref nl, .ref n1, .ref n2, .ref nf, .ref ns, .ref nh, .ref nk, .ref np, .int 16, .int 0, .int 16, .int 0, .int 0])), (ns, .inl (kL, 1024, .inr (.inl zSec))), (asort, .inr (1, [.int 0, .ref eD, .int 0])), (astep, .inr (1, [.int 0, .ref eD, .int 0])), (apair, .inr (8, [.ref apsl, .int 0, .int 0])), (apsl, .inl (kL, 512, .inr (.inl (fun _ => 0)))), (asize, .inr (10, [.ref azsl, .int 0])), (azsl, .inl (kL, 0, .inr (.inl (fun _ => 0)))), (ou, .inl (kL, 1, .inr (.inl fo)))]) (vx_runV (As := [.int x1, .int x2, .int x3]) (rest := [.int 0, .ref ou]) ⟨hx, hb, hml, hown, hts⟩ (c_H_join_l l hfl eD eI ad dC dI s.heap.size hh aexpr achoo ameth aroom anod asort anote amet atold aheld apair astep asize x1 x2 x3 (hx11)) (cwV 3 hts g_c_L_join_0 rfl rfl rfl (by decide +kernel) ⟨Nat.le_of_ble_eq_true rfl, Nat.le_of_ble_eq_true rfl⟩) (z_preVD (wc := [(hh, .inr (13, [.ref aexpr, .ref achoo, .ref ameth, .ref aroom, .ref anod, .ref asort, .ref anote, .ref amet, .int 0, .int 1])), (aroom, .inr (9, [.ref asort, .ref anod, .ref atold, .int 3, .ref aheld, .int 0, .ref apair, .ref astep, .int 0, .int 0, .int (-1), .int 0, .int 0, .ref asize]))]) hP hD hK hS hA hE [0, 1] [] rfl (by decide) rfl (ci := 13) (q0 := 0) rfl rfl hDc) rfl rfl hl.1 rfl (lv_room (Nat.le_of_ble_eq_true rfl)) dL_join_7 ⟨Nat.le_of_ble_eq_true rfl, Nat.le_of_ble_eq_true rfl⟩) hP hD hK hS hA [0, 1] [2, 3, 4, 5, 6, 7, 8, 9, 10, 11] rfl rfl (by decide) (by decide) (fun E ce q9 H locs hbad hP hD hS h91 h92 h93 => ?_) (fun r_1 u H locs hw_2 hP hD hK hS => ?_)
    · have hbad : E = "java/lang/IndexOutOfBoundsException" := hbad
      subst hbad
      refine vx_catch (name := "java/lang/IndexOutOfBoundsException") hown [] ⟨0, 12, 15, 21⟩ [] (by rw [htab]; rfl) (fun z h => by simp at h) (by decide) (by decide) (hts (.classLink RL 21 "java/lang/IndexOutOfBoundsException") (by decide +kernel)) (va_Nw.use rfl (hE.2.2.2.2.2.2.2.1 ("java/lang/IndexOutOfBoundsException", "java/lang/IndexOutOfBoundsException") (by decide +kernel))) h91 h92 h93 ?_
      refine W.eq (g2 := F0 m 15 ls [.ref q9]) rfl ?_
      refine lv_astore (lv' := [(5, .ref q9), (0, .ref hh), (1, .int x1), (2, .int x2), (3, .int x3), (4, .ref ou)]) hx hb dL_join_15 hl (by decide) rfl (fun ls hl => ?_)
      refine lv_iconst (v := 1) hx hb dL_join_17 (by decide) ?_
      have hP9 := hP.sub (ws' := [(ou, .inl (kL, 1, .inr (.inl fo)))]) [9] rfl
      have hD9 := hD.sub (ws' := [(ou, .inl (kL, 1, .inr (.inl fo)))]) [9] (by decide) rfl
      have hK9 := hK.sub (tys' := [(kL, .long)]) [1] rfl
      refine W.widen (k := 2) (n := 24) (Nat.le_of_ble_eq_true rfl) (Nat.le_of_ble_eq_true rfl) ?_
      refine vx_ret ?_
      exact W.iret (v := 1) hx hb hr (fun t ht hW => ⟨⟨1, (1, (fo)), rfl, ⟨rfl, by first | exact fun h => absurd h (by decide) | exact fun _ => rfl | rfl | decide | simp [hx11], fun h => absurd h (by decide)⟩, ⟨by rw [ht]; exact hP9, va_K.moved hW.alike hK9, hD9⟩⟩, hS.F ht⟩) hS.2.2 dL_join_18
    exact absurd hw_2 id
  · refine lv_aload hx hb dL_join_0 (lv_at hl 4 rfl) ?_
    refine lv_iconst (v := 0) hx hb dL_join_2 (by decide) ?_
    refine lv_aload_n hx hb dL_join_3 rfl (lv_at hl 0 rfl) ?_
    refine lv_iload_n hx hb dL_join_4 rfl (lv_at hl 1 rfl) ?_
    refine lv_iload_n hx hb dL_join_5 rfl (lv_at hl 2 rfl) ?_
    refine lv_iload_n hx hb dL_join_6 rfl (lv_at hl 3 rfl) ?_
    refine zx_i (wr := [(atold, .inl (kI, 60, .inl zTold)), (anod, .inr (7, [.ref nm, .ref nl, .ref n1, .ref n2, .ref nf, .ref ns, .ref nh, .ref nk, .ref np, .int 16, .int 0, .int 16, .int 0, .int 0])), (ns, .inl (kL, 1024, .inr (.inl zSec))), (asort, .inr (1, [.int 0, .ref eD, .int 0])), (astep, .inr (1, [.int 0, .ref eD, .int 0])), (apair, .inr (8, [.ref apsl, .int 0, .int 0])), (apsl, .inl (kL, 512, .inr (.inl (fun _ => 0)))), (asize, .inr (10, [.ref azsl, .int 0])), (azsl, .inl (kL, 0, .inr (.inl (fun _ => 0)))), (ou, .inl (kL, 1, .inr (.inl fo)))]) (vx_runV (As := [.int x1, .int x2, .int x3]) (rest := [.int 0, .ref ou]) ⟨hx, hb, hml, hown, hts⟩ (c_H_join_h l hfl eD eI ad dC dI s.heap.size hh aexpr achoo ameth aroom anod asort anote amet atold aheld apair astep asize x1 x2 x3 (hx10) (hx11)) (cwV 3 hts g_c_L_join_1 rfl rfl rfl (by decide +kernel) ⟨Nat.le_of_ble_eq_true rfl, Nat.le_of_ble_eq_true rfl⟩) (z_preVD (wc := [(hh, .inr (13, [.ref aexpr, .ref achoo, .ref ameth, .ref aroom, .ref anod, .ref asort, .ref anote, .ref amet, .int 0, .int 1])), (aroom, .inr (9, [.ref asort, .ref anod, .ref atold, .int 3, .ref aheld, .int 0, .ref apair, .ref astep, .int 0, .int 0, .int (-1), .int 0, .int 0, .ref asize]))]) hP hD hK hS hA hE [0, 1] [] rfl (by decide) rfl (ci := 13) (q0 := 0) rfl rfl hDc) rfl rfl hl.1 rfl (lv_room (Nat.le_of_ble_eq_true rfl)) dL_join_7 ⟨Nat.le_of_ble_eq_true rfl, Nat.le_of_ble_eq_true rfl⟩) hP hD hK hS hA [0, 1] [2, 3, 4, 5, 6, 7, 8, 9, 10, 11] rfl rfl (by decide) (by decide) (fun E ce q9 H locs hbad hP hD hS h91 h92 h93 => ?_) (fun r_3 u H locs hw_4 hP hD hK hS => ?_)
    · have hbad : E = "java/lang/IndexOutOfBoundsException" := hbad
      subst hbad
      refine vx_catch (name := "java/lang/IndexOutOfBoundsException") hown [] ⟨0, 12, 15, 21⟩ [] (by rw [htab]; rfl) (fun z h => by simp at h) (by decide) (by decide) (hts (.classLink RL 21 "java/lang/IndexOutOfBoundsException") (by decide +kernel)) (va_Nw.use rfl (hE.2.2.2.2.2.2.2.1 ("java/lang/IndexOutOfBoundsException", "java/lang/IndexOutOfBoundsException") (by decide +kernel))) h91 h92 h93 ?_
      refine W.eq (g2 := F0 m 15 ls [.ref q9]) rfl ?_
      refine lv_astore (lv' := [(5, .ref q9), (0, .ref hh), (1, .int x1), (2, .int x2), (3, .int x3), (4, .ref ou)]) hx hb dL_join_15 hl (by decide) rfl (fun ls hl => ?_)
      refine lv_iconst (v := 1) hx hb dL_join_17 (by decide) ?_
      have hP9 := hP.sub (ws' := [(ou, .inl (kL, 1, .inr (.inl fo)))]) [9] rfl
      have hD9 := hD.sub (ws' := [(ou, .inl (kL, 1, .inr (.inl fo)))]) [9] (by decide) rfl
      have hK9 := hK.sub (tys' := [(kL, .long)]) [1] rfl
      refine W.widen (k := 2) (n := 24) (Nat.le_of_ble_eq_true rfl) (Nat.le_of_ble_eq_true rfl) ?_
      refine vx_ret ?_
      exact W.iret (v := 1) hx hb hr (fun t ht hW => ⟨⟨1, (1, (fo)), rfl, ⟨rfl, by first | exact fun h => absurd h (by decide) | exact fun _ => rfl | rfl | decide | simp [hx10, hx11], fun h => absurd h (by decide)⟩, ⟨by rw [ht]; exact hP9, va_K.moved hW.alike hK9, hD9⟩⟩, hS.F ht⟩) hS.2.2 dL_join_18
    exact absurd hw_4 id
  · rcases z_split3 x2 with hx21 | ⟨hx20, hx21⟩ | rfl | rfl | rfl
    · refine lv_aload hx hb dL_join_0 (lv_at hl 4 rfl) ?_
      refine lv_iconst (v := 0) hx hb dL_join_2 (by decide) ?_
      refine lv_aload_n hx hb dL_join_3 rfl (lv_at hl 0 rfl) ?_
      refine lv_iload_n hx hb dL_join_4 rfl (lv_at hl 1 rfl) ?_
      refine lv_iload_n hx hb dL_join_5 rfl (lv_at hl 2 rfl) ?_
      refine lv_iload_n hx hb dL_join_6 rfl (lv_at hl 3 rfl) ?_
      refine zx_i (wr := [(atold, .inl (kI, 60, .inl zTold)), (anod, .inr (7, [.ref nm, .ref nl, .ref n1, .ref n2, .ref nf, .ref ns, .ref nh, .ref nk, .ref np, .int 16, .int 0, .int 16, .int 0, .int 0])), (ns, .inl (kL, 1024, .inr (.inl zSec))), (asort, .inr (1, [.int 0, .ref eD, .int 0])), (astep, .inr (1, [.int 0, .ref eD, .int 0])), (apair, .inr (8, [.ref apsl, .int 0, .int 0])), (apsl, .inl (kL, 512, .inr (.inl (fun _ => 0)))), (asize, .inr (10, [.ref azsl, .int 0])), (azsl, .inl (kL, 0, .inr (.inl (fun _ => 0)))), (ou, .inl (kL, 1, .inr (.inl fo)))]) (vx_runV (As := [.int 0, .int x2, .int x3]) (rest := [.int 0, .ref ou]) ⟨hx, hb, hml, hown, hts⟩ (c_H_join_kl l hfl eD eI ad dC dI s.heap.size hh aexpr achoo ameth aroom anod asort anote amet atold aheld apair astep asize 0 x2 x3 (by decide) (by decide) (hx21)) (cwV 3 hts g_c_L_join_2 rfl rfl rfl (by decide +kernel) ⟨Nat.le_of_ble_eq_true rfl, Nat.le_of_ble_eq_true rfl⟩) (z_preVD (wc := [(hh, .inr (13, [.ref aexpr, .ref achoo, .ref ameth, .ref aroom, .ref anod, .ref asort, .ref anote, .ref amet, .int 0, .int 1])), (aroom, .inr (9, [.ref asort, .ref anod, .ref atold, .int 3, .ref aheld, .int 0, .ref apair, .ref astep, .int 0, .int 0, .int (-1), .int 0, .int 0, .ref asize]))]) hP hD hK hS hA hE [0, 1] [] rfl (by decide) rfl (ci := 13) (q0 := 0) rfl rfl hDc) rfl rfl hl.1 rfl (lv_room (Nat.le_of_ble_eq_true rfl)) dL_join_7 ⟨Nat.le_of_ble_eq_true rfl, Nat.le_of_ble_eq_true rfl⟩) hP hD hK hS hA [0, 1] [2, 3, 4, 5, 6, 7, 8, 9, 10, 11] rfl rfl (by decide) (by decide) (fun E ce q9 H locs hbad hP hD hS h91 h92 h93 => ?_) (fun r_5 u H locs hw_6 hP hD hK hS => ?_)
      · have hbad : E = "java/lang/IndexOutOfBoundsException" := hbad
        subst hbad
        refine vx_catch (name := "java/lang/IndexOutOfBoundsException") hown [] ⟨0, 12, 15, 21⟩ [] (by rw [htab]; rfl) (fun z h => by simp at h) (by decide) (by decide) (hts (.classLink RL 21 "java/lang/IndexOutOfBoundsException") (by decide +kernel)) (va_Nw.use rfl (hE.2.2.2.2.2.2.2.1 ("java/lang/IndexOutOfBoundsException", "java/lang/IndexOutOfBoundsException") (by decide +kernel))) h91 h92 h93 ?_
        refine W.eq (g2 := F0 m 15 ls [.ref q9]) rfl ?_
        refine lv_astore (lv' := [(5, .ref q9), (0, .ref hh), (1, .int 0), (2, .int x2), (3, .int x3), (4, .ref ou)]) hx hb dL_join_15 hl (by decide) rfl (fun ls hl => ?_)
        refine lv_iconst (v := 1) hx hb dL_join_17 (by decide) ?_
        have hP9 := hP.sub (ws' := [(ou, .inl (kL, 1, .inr (.inl fo)))]) [9] rfl
        have hD9 := hD.sub (ws' := [(ou, .inl (kL, 1, .inr (.inl fo)))]) [9] (by decide) rfl
        have hK9 := hK.sub (tys' := [(kL, .long)]) [1] rfl
        refine W.widen (k := 2) (n := 24) (Nat.le_of_ble_eq_true rfl) (Nat.le_of_ble_eq_true rfl) ?_
        refine vx_ret ?_
        exact W.iret (v := 1) hx hb hr (fun t ht hW => ⟨⟨1, (1, (fo)), rfl, ⟨rfl, by first | exact fun h => absurd h (by decide) | exact fun _ => rfl | rfl | decide | simp [hx21], fun h => absurd h (by decide)⟩, ⟨by rw [ht]; exact hP9, va_K.moved hW.alike hK9, hD9⟩⟩, hS.F ht⟩) hS.2.2 dL_join_18
      exact absurd hw_6 id
    · refine lv_aload hx hb dL_join_0 (lv_at hl 4 rfl) ?_
      refine lv_iconst (v := 0) hx hb dL_join_2 (by decide) ?_
      refine lv_aload_n hx hb dL_join_3 rfl (lv_at hl 0 rfl) ?_
      refine lv_iload_n hx hb dL_join_4 rfl (lv_at hl 1 rfl) ?_
      refine lv_iload_n hx hb dL_join_5 rfl (lv_at hl 2 rfl) ?_
      refine lv_iload_n hx hb dL_join_6 rfl (lv_at hl 3 rfl) ?_
      refine zx_i (wr := [(atold, .inl (kI, 60, .inl zTold)), (anod, .inr (7, [.ref nm, .ref nl, .ref n1, .ref n2, .ref nf, .ref ns, .ref nh, .ref nk, .ref np, .int 16, .int 0, .int 16, .int 0, .int 0])), (ns, .inl (kL, 1024, .inr (.inl zSec))), (asort, .inr (1, [.int 0, .ref eD, .int 0])), (astep, .inr (1, [.int 0, .ref eD, .int 0])), (apair, .inr (8, [.ref apsl, .int 0, .int 0])), (apsl, .inl (kL, 512, .inr (.inl (fun _ => 0)))), (asize, .inr (10, [.ref azsl, .int 0])), (azsl, .inl (kL, 0, .inr (.inl (fun _ => 0)))), (ou, .inl (kL, 1, .inr (.inl fo)))]) (vx_runV (As := [.int 0, .int x2, .int x3]) (rest := [.int 0, .ref ou]) ⟨hx, hb, hml, hown, hts⟩ (c_H_join_kh l hfl eD eI ad dC dI s.heap.size hh aexpr achoo ameth aroom anod asort anote amet atold aheld apair astep asize 0 x2 x3 (by decide) (by decide) (hx20) (hx21)) (cwV 3 hts g_c_L_join_3 rfl rfl rfl (by decide +kernel) ⟨Nat.le_of_ble_eq_true rfl, Nat.le_of_ble_eq_true rfl⟩) (z_preVD (wc := [(hh, .inr (13, [.ref aexpr, .ref achoo, .ref ameth, .ref aroom, .ref anod, .ref asort, .ref anote, .ref amet, .int 0, .int 1])), (aroom, .inr (9, [.ref asort, .ref anod, .ref atold, .int 3, .ref aheld, .int 0, .ref apair, .ref astep, .int 0, .int 0, .int (-1), .int 0, .int 0, .ref asize]))]) hP hD hK hS hA hE [0, 1] [] rfl (by decide) rfl (ci := 13) (q0 := 0) rfl rfl hDc) rfl rfl hl.1 rfl (lv_room (Nat.le_of_ble_eq_true rfl)) dL_join_7 ⟨Nat.le_of_ble_eq_true rfl, Nat.le_of_ble_eq_true rfl⟩) hP hD hK hS hA [0, 1] [2, 3, 4, 5, 6, 7, 8, 9, 10, 11] rfl rfl (by decide) (by decide) (fun E ce q9 H locs hbad hP hD hS h91 h92 h93 => ?_) (fun r_7 u H locs hw_8 hP hD hK hS => ?_)
      · have hbad : E = "java/lang/IndexOutOfBoundsException" := hbad
        subst hbad
        refine vx_catch (name := "java/lang/IndexOutOfBoundsException") hown [] ⟨0, 12, 15, 21⟩ [] (by rw [htab]; rfl) (fun z h => by simp at h) (by decide) (by decide) (hts (.classLink RL 21 "java/lang/IndexOutOfBoundsException") (by decide +kernel)) (va_Nw.use rfl (hE.2.2.2.2.2.2.2.1 ("java/lang/IndexOutOfBoundsException", "java/lang/IndexOutOfBoundsException") (by decide +kernel))) h91 h92 h93 ?_
        refine W.eq (g2 := F0 m 15 ls [.ref q9]) rfl ?_
        refine lv_astore (lv' := [(5, .ref q9), (0, .ref hh), (1, .int 0), (2, .int x2), (3, .int x3), (4, .ref ou)]) hx hb dL_join_15 hl (by decide) rfl (fun ls hl => ?_)
        refine lv_iconst (v := 1) hx hb dL_join_17 (by decide) ?_
        have hP9 := hP.sub (ws' := [(ou, .inl (kL, 1, .inr (.inl fo)))]) [9] rfl
        have hD9 := hD.sub (ws' := [(ou, .inl (kL, 1, .inr (.inl fo)))]) [9] (by decide) rfl
        have hK9 := hK.sub (tys' := [(kL, .long)]) [1] rfl
        refine W.widen (k := 2) (n := 24) (Nat.le_of_ble_eq_true rfl) (Nat.le_of_ble_eq_true rfl) ?_
        refine vx_ret ?_
        exact W.iret (v := 1) hx hb hr (fun t ht hW => ⟨⟨1, (1, (fo)), rfl, ⟨rfl, by first | exact fun h => absurd h (by decide) | exact fun _ => rfl | rfl | decide | simp [hx20, hx21], fun h => absurd h (by decide)⟩, ⟨by rw [ht]; exact hP9, va_K.moved hW.alike hK9, hD9⟩⟩, hS.F ht⟩) hS.2.2 dL_join_18
      exact absurd hw_8 id
    · refine lv_aload hx hb dL_join_0 (lv_at hl 4 rfl) ?_
      refine lv_iconst (v := 0) hx hb dL_join_2 (by decide) ?_
      refine lv_aload_n hx hb dL_join_3 rfl (lv_at hl 0 rfl) ?_
      refine lv_iload_n hx hb dL_join_4 rfl (lv_at hl 1 rfl) ?_
      refine lv_iload_n hx hb dL_join_5 rfl (lv_at hl 2 rfl) ?_
      refine lv_iload_n hx hb dL_join_6 rfl (lv_at hl 3 rfl) ?_
      refine z_i (wr := [(ou, .inl (kL, 1, .inr (.inl fo)))]) (va_runV (As := [.int 0, .int 0, .int x3]) (rest := [.int 0, .ref ou]) ⟨hx, hb, hml, hown, hts⟩ (c_H_join_00 l eD eI ad dC dI s.heap.size hh aexpr achoo ameth aroom anod asort anote amet atold aheld apair astep asize nm nl n1 n2 nf ns nh nk np apsl azsl kI kL x3) (cwV 3 hts g_c_L_join_4 rfl rfl rfl (by decide +kernel) ⟨Nat.le_of_ble_eq_true rfl, Nat.le_of_ble_eq_true rfl⟩) (z_preV (wc := [(hh, .inr (13, [.ref aexpr, .ref achoo, .ref ameth, .ref aroom, .ref anod, .ref asort, .ref anote, .ref amet, .int 0, .int 1])), (aroom, .inr (9, [.ref asort, .ref anod, .ref atold, .int 3, .ref aheld, .int 0, .ref apair, .ref astep, .int 0, .int 0, .int (-1), .int 0, .int 0, .ref asize])), (atold, .inl (kI, 60, .inl zTold)), (anod, .inr (7, [.ref nm, .ref nl, .ref n1, .ref n2, .ref nf, .ref ns, .ref nh, .ref nk, .ref np, .int 16, .int 0, .int 16, .int 0, .int 0])), (ns, .inl (kL, 1024, .inr (.inl zSec))), (asort, .inr (1, [.int 0, .ref eD, .int 0])), (astep, .inr (1, [.int 0, .ref eD, .int 0])), (apair, .inr (8, [.ref apsl, .int 0, .int 0])), (apsl, .inl (kL, 512, .inr (.inl (fun _ => 0)))), (asize, .inr (10, [.ref azsl, .int 0])), (azsl, .inl (kL, 0, .inr (.inl (fun _ => 0))))]) hP hD hK hS hA hE [0, 1, 2, 3, 4, 5, 6, 7, 8, 9, 10] [0, 1] rfl (by decide) rfl (ci := 13) (q0 := 0) rfl rfl) rfl rfl hl.1 rfl (lv_room (Nat.le_of_ble_eq_true rfl)) dL_join_7 ⟨Nat.le_of_ble_eq_true rfl, Nat.le_of_ble_eq_true rfl⟩) hP hD hK hS hA [0, 1, 2, 3, 4, 5, 6, 7, 8, 9, 10] [11] rfl rfl (by decide) (by decide) (fun r_10 u H locs hw_11 hP hD hK hS => ?_)
      obtain ⟨u_9, rfl⟩ : ∃ z, z = u := ⟨_, rfl⟩
      have hP : va_P (dC, dI) vwCl [(ou, .inl (kL, 1, .inr (.inl fo)))] H := hP
      have hD : va_D A [(ou, .inl (kL, 1, .inr (.inl fo)))] := hD
      have hK : va_K (dC, dI) vwCl [(kI, .int), (kL, .long)] s := by simpa using hK
      have hw_11 : r_10 = u_9 ∧ u_9 = (if x3 = 0 then (-1) else (-9)) := hw_11
      obtain ⟨hw_11, hp_12⟩ := hw_11
      have hw_11 := hw_11.symm
      subst hw_11
      refine lv_i2l (v := u_9.toInt64) hx hb dL_join_10 rfl ?_
      refine va_last (D := (dC, dI)) hx hb hK hP hD hS 0 1 rfl rfl (by unfold vp_in; decide) dL_join_11 (fun H locs hP hD hS => ?_)
      have hP : va_P (dC, dI) vwCl [(ou, .inl (kL, 1, .inr (.inl (vp_updL fo (0 : Int32).toNatClampNeg u_9.toInt64))))] H := hP
      have hD : va_D A [(ou, .inl (kL, 1, .inr (.inl (vp_updL fo (0 : Int32).toNatClampNeg u_9.toInt64))))] := hD
      refine lv_goto (tgt := 19) hx hb dL_join_12 (by decide) ?_
      refine lv_iconst (v := 0) hx hb dL_join_19 (by decide) ?_
      have hP9 := hP.sub (ws' := [(ou, .inl (kL, 1, .inr (.inl (vp_updL fo (0 : Int32).toNatClampNeg u_9.toInt64))))]) [0] rfl
      have hD9 := hD.sub (ws' := [(ou, .inl (kL, 1, .inr (.inl (vp_updL fo (0 : Int32).toNatClampNeg u_9.toInt64))))]) [0] (by decide) rfl
      have hK9 := hK.sub (tys' := [(kL, .long)]) [1] rfl
      refine W.widen (k := 2) (n := 24) (Nat.le_of_ble_eq_true rfl) (Nat.le_of_ble_eq_true rfl) ?_
      refine vx_ret ?_
      exact W.iret (v := 0) hx hb hr (fun t ht hW => ⟨⟨0, (0, (vp_updL fo (0 : Int32).toNatClampNeg u_9.toInt64)), rfl, ⟨rfl, by first | exact fun h => absurd h (by decide) | exact fun _ => rfl | rfl | decide | simp, by intro _; rw [hp_12]; first | rfl | simp [vp_updL]⟩, ⟨by rw [ht]; exact hP9, va_K.moved hW.alike hK9, hD9⟩⟩, hS.F ht⟩) hS.2.2 dL_join_20
    · refine lv_aload hx hb dL_join_0 (lv_at hl 4 rfl) ?_
      refine lv_iconst (v := 0) hx hb dL_join_2 (by decide) ?_
      refine lv_aload_n hx hb dL_join_3 rfl (lv_at hl 0 rfl) ?_
      refine lv_iload_n hx hb dL_join_4 rfl (lv_at hl 1 rfl) ?_
      refine lv_iload_n hx hb dL_join_5 rfl (lv_at hl 2 rfl) ?_
      refine lv_iload_n hx hb dL_join_6 rfl (lv_at hl 3 rfl) ?_
      refine z_i (wr := [(ou, .inl (kL, 1, .inr (.inl fo)))]) (va_runV (As := [.int 0, .int 1, .int x3]) (rest := [.int 0, .ref ou]) ⟨hx, hb, hml, hown, hts⟩ (c_H_join_01 l eD eI ad dC dI s.heap.size hh aexpr achoo ameth aroom anod asort anote amet atold aheld apair astep asize nm nl n1 n2 nf ns nh nk np apsl azsl kI kL x3) (cwV 3 hts g_c_L_join_5 rfl rfl rfl (by decide +kernel) ⟨Nat.le_of_ble_eq_true rfl, Nat.le_of_ble_eq_true rfl⟩) (z_preV (wc := [(hh, .inr (13, [.ref aexpr, .ref achoo, .ref ameth, .ref aroom, .ref anod, .ref asort, .ref anote, .ref amet, .int 0, .int 1])), (aroom, .inr (9, [.ref asort, .ref anod, .ref atold, .int 3, .ref aheld, .int 0, .ref apair, .ref astep, .int 0, .int 0, .int (-1), .int 0, .int 0, .ref asize])), (atold, .inl (kI, 60, .inl zTold)), (anod, .inr (7, [.ref nm, .ref nl, .ref n1, .ref n2, .ref nf, .ref ns, .ref nh, .ref nk, .ref np, .int 16, .int 0, .int 16, .int 0, .int 0])), (ns, .inl (kL, 1024, .inr (.inl zSec))), (asort, .inr (1, [.int 0, .ref eD, .int 0])), (astep, .inr (1, [.int 0, .ref eD, .int 0])), (apair, .inr (8, [.ref apsl, .int 0, .int 0])), (apsl, .inl (kL, 512, .inr (.inl (fun _ => 0)))), (asize, .inr (10, [.ref azsl, .int 0])), (azsl, .inl (kL, 0, .inr (.inl (fun _ => 0))))]) hP hD hK hS hA hE [0, 1, 2, 3, 4, 5, 6, 7, 8, 9, 10] [0, 1] rfl (by decide) rfl (ci := 13) (q0 := 0) rfl rfl) rfl rfl hl.1 rfl (lv_room (Nat.le_of_ble_eq_true rfl)) dL_join_7 ⟨Nat.le_of_ble_eq_true rfl, Nat.le_of_ble_eq_true rfl⟩) hP hD hK hS hA [0, 1, 2, 3, 4, 5, 6, 7, 8, 9, 10] [11] rfl rfl (by decide) (by decide) (fun r_14 u H locs hw_15 hP hD hK hS => ?_)
      obtain ⟨u_13, rfl⟩ : ∃ z, z = u := ⟨_, rfl⟩
      have hP : va_P (dC, dI) vwCl [(ou, .inl (kL, 1, .inr (.inl fo)))] H := hP
      have hD : va_D A [(ou, .inl (kL, 1, .inr (.inl fo)))] := hD
      have hK : va_K (dC, dI) vwCl [(kI, .int), (kL, .long)] s := by simpa using hK
      have hw_15 : r_14 = u_13 ∧ u_13 = (if x3 = 0 then (-1) else (-9)) := hw_15
      obtain ⟨hw_15, hp_16⟩ := hw_15
      have hw_15 := hw_15.symm
      subst hw_15
      refine lv_i2l (v := u_13.toInt64) hx hb dL_join_10 rfl ?_
      refine va_last (D := (dC, dI)) hx hb hK hP hD hS 0 1 rfl rfl (by unfold vp_in; decide) dL_join_11 (fun H locs hP hD hS => ?_)
      have hP : va_P (dC, dI) vwCl [(ou, .inl (kL, 1, .inr (.inl (vp_updL fo (0 : Int32).toNatClampNeg u_13.toInt64))))] H := hP
      have hD : va_D A [(ou, .inl (kL, 1, .inr (.inl (vp_updL fo (0 : Int32).toNatClampNeg u_13.toInt64))))] := hD
      refine lv_goto (tgt := 19) hx hb dL_join_12 (by decide) ?_
      refine lv_iconst (v := 0) hx hb dL_join_19 (by decide) ?_
      have hP9 := hP.sub (ws' := [(ou, .inl (kL, 1, .inr (.inl (vp_updL fo (0 : Int32).toNatClampNeg u_13.toInt64))))]) [0] rfl
      have hD9 := hD.sub (ws' := [(ou, .inl (kL, 1, .inr (.inl (vp_updL fo (0 : Int32).toNatClampNeg u_13.toInt64))))]) [0] (by decide) rfl
      have hK9 := hK.sub (tys' := [(kL, .long)]) [1] rfl
      refine W.widen (k := 2) (n := 24) (Nat.le_of_ble_eq_true rfl) (Nat.le_of_ble_eq_true rfl) ?_
      refine vx_ret ?_
      exact W.iret (v := 0) hx hb hr (fun t ht hW => ⟨⟨0, (0, (vp_updL fo (0 : Int32).toNatClampNeg u_13.toInt64)), rfl, ⟨rfl, by first | exact fun h => absurd h (by decide) | exact fun _ => rfl | rfl | decide | simp, by intro _; rw [hp_16]; first | rfl | simp [vp_updL]⟩, ⟨by rw [ht]; exact hP9, va_K.moved hW.alike hK9, hD9⟩⟩, hS.F ht⟩) hS.2.2 dL_join_20
    · refine lv_aload hx hb dL_join_0 (lv_at hl 4 rfl) ?_
      refine lv_iconst (v := 0) hx hb dL_join_2 (by decide) ?_
      refine lv_aload_n hx hb dL_join_3 rfl (lv_at hl 0 rfl) ?_
      refine lv_iload_n hx hb dL_join_4 rfl (lv_at hl 1 rfl) ?_
      refine lv_iload_n hx hb dL_join_5 rfl (lv_at hl 2 rfl) ?_
      refine lv_iload_n hx hb dL_join_6 rfl (lv_at hl 3 rfl) ?_
      refine z_i (wr := [(ou, .inl (kL, 1, .inr (.inl fo)))]) (va_runV (As := [.int 0, .int 2, .int x3]) (rest := [.int 0, .ref ou]) ⟨hx, hb, hml, hown, hts⟩ (c_H_join_02 l eD eI ad dC dI s.heap.size hh aexpr achoo ameth aroom anod asort anote amet atold aheld apair astep asize nm nl n1 n2 nf ns nh nk np apsl azsl kI kL x3) (cwV 3 hts g_c_L_join_6 rfl rfl rfl (by decide +kernel) ⟨Nat.le_of_ble_eq_true rfl, Nat.le_of_ble_eq_true rfl⟩) (z_preV (wc := [(hh, .inr (13, [.ref aexpr, .ref achoo, .ref ameth, .ref aroom, .ref anod, .ref asort, .ref anote, .ref amet, .int 0, .int 1])), (aroom, .inr (9, [.ref asort, .ref anod, .ref atold, .int 3, .ref aheld, .int 0, .ref apair, .ref astep, .int 0, .int 0, .int (-1), .int 0, .int 0, .ref asize])), (atold, .inl (kI, 60, .inl zTold)), (anod, .inr (7, [.ref nm, .ref nl, .ref n1, .ref n2, .ref nf, .ref ns, .ref nh, .ref nk, .ref np, .int 16, .int 0, .int 16, .int 0, .int 0])), (ns, .inl (kL, 1024, .inr (.inl zSec))), (asort, .inr (1, [.int 0, .ref eD, .int 0])), (astep, .inr (1, [.int 0, .ref eD, .int 0])), (apair, .inr (8, [.ref apsl, .int 0, .int 0])), (apsl, .inl (kL, 512, .inr (.inl (fun _ => 0)))), (asize, .inr (10, [.ref azsl, .int 0])), (azsl, .inl (kL, 0, .inr (.inl (fun _ => 0))))]) hP hD hK hS hA hE [0, 1, 2, 3, 4, 5, 6, 7, 8, 9, 10] [0, 1] rfl (by decide) rfl (ci := 13) (q0 := 0) rfl rfl) rfl rfl hl.1 rfl (lv_room (Nat.le_of_ble_eq_true rfl)) dL_join_7 ⟨Nat.le_of_ble_eq_true rfl, Nat.le_of_ble_eq_true rfl⟩) hP hD hK hS hA [0, 1, 2, 3, 4, 5, 6, 7, 8, 9, 10] [11] rfl rfl (by decide) (by decide) (fun r_18 u H locs hw_19 hP hD hK hS => ?_)
      obtain ⟨u_17, rfl⟩ : ∃ z, z = u := ⟨_, rfl⟩
      have hP : va_P (dC, dI) vwCl [(ou, .inl (kL, 1, .inr (.inl fo)))] H := hP
      have hD : va_D A [(ou, .inl (kL, 1, .inr (.inl fo)))] := hD
      have hK : va_K (dC, dI) vwCl [(kI, .int), (kL, .long)] s := by simpa using hK
      have hw_19 : r_18 = u_17 ∧ u_17 = (if x3 = 0 then (-1) else (-9)) := hw_19
      obtain ⟨hw_19, hp_20⟩ := hw_19
      have hw_19 := hw_19.symm
      subst hw_19
      refine lv_i2l (v := u_17.toInt64) hx hb dL_join_10 rfl ?_
      refine va_last (D := (dC, dI)) hx hb hK hP hD hS 0 1 rfl rfl (by unfold vp_in; decide) dL_join_11 (fun H locs hP hD hS => ?_)
      have hP : va_P (dC, dI) vwCl [(ou, .inl (kL, 1, .inr (.inl (vp_updL fo (0 : Int32).toNatClampNeg u_17.toInt64))))] H := hP
      have hD : va_D A [(ou, .inl (kL, 1, .inr (.inl (vp_updL fo (0 : Int32).toNatClampNeg u_17.toInt64))))] := hD
      refine lv_goto (tgt := 19) hx hb dL_join_12 (by decide) ?_
      refine lv_iconst (v := 0) hx hb dL_join_19 (by decide) ?_
      have hP9 := hP.sub (ws' := [(ou, .inl (kL, 1, .inr (.inl (vp_updL fo (0 : Int32).toNatClampNeg u_17.toInt64))))]) [0] rfl
      have hD9 := hD.sub (ws' := [(ou, .inl (kL, 1, .inr (.inl (vp_updL fo (0 : Int32).toNatClampNeg u_17.toInt64))))]) [0] (by decide) rfl
      have hK9 := hK.sub (tys' := [(kL, .long)]) [1] rfl
      refine W.widen (k := 2) (n := 24) (Nat.le_of_ble_eq_true rfl) (Nat.le_of_ble_eq_true rfl) ?_
      refine vx_ret ?_
      exact W.iret (v := 0) hx hb hr (fun t ht hW => ⟨⟨0, (0, (vp_updL fo (0 : Int32).toNatClampNeg u_17.toInt64)), rfl, ⟨rfl, by first | exact fun h => absurd h (by decide) | exact fun _ => rfl | rfl | decide | simp, by intro _; rw [hp_20]; first | rfl | simp [vp_updL]⟩, ⟨by rw [ht]; exact hP9, va_K.moved hW.alike hK9, hD9⟩⟩, hS.F ht⟩) hS.2.2 dL_join_20
  · rcases z_split3 x2 with hx21 | ⟨hx20, hx21⟩ | rfl | rfl | rfl
    · refine lv_aload hx hb dL_join_0 (lv_at hl 4 rfl) ?_
      refine lv_iconst (v := 0) hx hb dL_join_2 (by decide) ?_
      refine lv_aload_n hx hb dL_join_3 rfl (lv_at hl 0 rfl) ?_
      refine lv_iload_n hx hb dL_join_4 rfl (lv_at hl 1 rfl) ?_
      refine lv_iload_n hx hb dL_join_5 rfl (lv_at hl 2 rfl) ?_
      refine lv_iload_n hx hb dL_join_6 rfl (lv_at hl 3 rfl) ?_
      refine zx_i (wr := [(atold, .inl (kI, 60, .inl zTold)), (anod, .inr (7, [.ref nm, .ref nl, .ref n1, .ref n2, .ref nf, .ref ns, .ref nh, .ref nk, .ref np, .int 16, .int 0, .int 16, .int 0, .int 0])), (ns, .inl (kL, 1024, .inr (.inl zSec))), (asort, .inr (1, [.int 0, .ref eD, .int 0])), (astep, .inr (1, [.int 0, .ref eD, .int 0])), (apair, .inr (8, [.ref apsl, .int 0, .int 0])), (apsl, .inl (kL, 512, .inr (.inl (fun _ => 0)))), (asize, .inr (10, [.ref azsl, .int 0])), (azsl, .inl (kL, 0, .inr (.inl (fun _ => 0)))), (ou, .inl (kL, 1, .inr (.inl fo)))]) (vx_runV (As := [.int 1, .int x2, .int x3]) (rest := [.int 0, .ref ou]) ⟨hx, hb, hml, hown, hts⟩ (c_H_join_kl l hfl eD eI ad dC dI s.heap.size hh aexpr achoo ameth aroom anod asort anote amet atold aheld apair astep asize 1 x2 x3 (by decide) (by decide) (hx21)) (cwV 3 hts g_c_L_join_2 rfl rfl rfl (by decide +kernel) ⟨Nat.le_of_ble_eq_true rfl, Nat.le_of_ble_eq_true rfl⟩) (z_preVD (wc := [(hh, .inr (13, [.ref aexpr, .ref achoo, .ref ameth, .ref aroom, .ref anod, .ref asort, .ref anote, .ref amet, .int 0, .int 1])), (aroom, .inr (9, [.ref asort, .ref anod, .ref atold, .int 3, .ref aheld, .int 0, .ref apair, .ref astep, .int 0, .int 0, .int (-1), .int 0, .int 0, .ref asize]))]) hP hD hK hS hA hE [0, 1] [] rfl (by decide) rfl (ci := 13) (q0 := 0) rfl rfl hDc) rfl rfl hl.1 rfl (lv_room (Nat.le_of_ble_eq_true rfl)) dL_join_7 ⟨Nat.le_of_ble_eq_true rfl, Nat.le_of_ble_eq_true rfl⟩) hP hD hK hS hA [0, 1] [2, 3, 4, 5, 6, 7, 8, 9, 10, 11] rfl rfl (by decide) (by decide) (fun E ce q9 H locs hbad hP hD hS h91 h92 h93 => ?_) (fun r_21 u H locs hw_22 hP hD hK hS => ?_)
      · have hbad : E = "java/lang/IndexOutOfBoundsException" := hbad
        subst hbad
        refine vx_catch (name := "java/lang/IndexOutOfBoundsException") hown [] ⟨0, 12, 15, 21⟩ [] (by rw [htab]; rfl) (fun z h => by simp at h) (by decide) (by decide) (hts (.classLink RL 21 "java/lang/IndexOutOfBoundsException") (by decide +kernel)) (va_Nw.use rfl (hE.2.2.2.2.2.2.2.1 ("java/lang/IndexOutOfBoundsException", "java/lang/IndexOutOfBoundsException") (by decide +kernel))) h91 h92 h93 ?_
        refine W.eq (g2 := F0 m 15 ls [.ref q9]) rfl ?_
        refine lv_astore (lv' := [(5, .ref q9), (0, .ref hh), (1, .int 1), (2, .int x2), (3, .int x3), (4, .ref ou)]) hx hb dL_join_15 hl (by decide) rfl (fun ls hl => ?_)
        refine lv_iconst (v := 1) hx hb dL_join_17 (by decide) ?_
        have hP9 := hP.sub (ws' := [(ou, .inl (kL, 1, .inr (.inl fo)))]) [9] rfl
        have hD9 := hD.sub (ws' := [(ou, .inl (kL, 1, .inr (.inl fo)))]) [9] (by decide) rfl
        have hK9 := hK.sub (tys' := [(kL, .long)]) [1] rfl
        refine W.widen (k := 2) (n := 24) (Nat.le_of_ble_eq_true rfl) (Nat.le_of_ble_eq_true rfl) ?_
        refine vx_ret ?_
        exact W.iret (v := 1) hx hb hr (fun t ht hW => ⟨⟨1, (1, (fo)), rfl, ⟨rfl, by first | exact fun h => absurd h (by decide) | exact fun _ => rfl | rfl | decide | simp [hx21], fun h => absurd h (by decide)⟩, ⟨by rw [ht]; exact hP9, va_K.moved hW.alike hK9, hD9⟩⟩, hS.F ht⟩) hS.2.2 dL_join_18
      exact absurd hw_22 id
    · refine lv_aload hx hb dL_join_0 (lv_at hl 4 rfl) ?_
      refine lv_iconst (v := 0) hx hb dL_join_2 (by decide) ?_
      refine lv_aload_n hx hb dL_join_3 rfl (lv_at hl 0 rfl) ?_
      refine lv_iload_n hx hb dL_join_4 rfl (lv_at hl 1 rfl) ?_
      refine lv_iload_n hx hb dL_join_5 rfl (lv_at hl 2 rfl) ?_
      refine lv_iload_n hx hb dL_join_6 rfl (lv_at hl 3 rfl) ?_
      refine zx_i (wr := [(atold, .inl (kI, 60, .inl zTold)), (anod, .inr (7, [.ref nm, .ref nl, .ref n1, .ref n2, .ref nf, .ref ns, .ref nh, .ref nk, .ref np, .int 16, .int 0, .int 16, .int 0, .int 0])), (ns, .inl (kL, 1024, .inr (.inl zSec))), (asort, .inr (1, [.int 0, .ref eD, .int 0])), (astep, .inr (1, [.int 0, .ref eD, .int 0])), (apair, .inr (8, [.ref apsl, .int 0, .int 0])), (apsl, .inl (kL, 512, .inr (.inl (fun _ => 0)))), (asize, .inr (10, [.ref azsl, .int 0])), (azsl, .inl (kL, 0, .inr (.inl (fun _ => 0)))), (ou, .inl (kL, 1, .inr (.inl fo)))]) (vx_runV (As := [.int 1, .int x2, .int x3]) (rest := [.int 0, .ref ou]) ⟨hx, hb, hml, hown, hts⟩ (c_H_join_kh l hfl eD eI ad dC dI s.heap.size hh aexpr achoo ameth aroom anod asort anote amet atold aheld apair astep asize 1 x2 x3 (by decide) (by decide) (hx20) (hx21)) (cwV 3 hts g_c_L_join_3 rfl rfl rfl (by decide +kernel) ⟨Nat.le_of_ble_eq_true rfl, Nat.le_of_ble_eq_true rfl⟩) (z_preVD (wc := [(hh, .inr (13, [.ref aexpr, .ref achoo, .ref ameth, .ref aroom, .ref anod, .ref asort, .ref anote, .ref amet, .int 0, .int 1])), (aroom, .inr (9, [.ref asort, .ref anod, .ref atold, .int 3, .ref aheld, .int 0, .ref apair, .ref astep, .int 0, .int 0, .int (-1), .int 0, .int 0, .ref asize]))]) hP hD hK hS hA hE [0, 1] [] rfl (by decide) rfl (ci := 13) (q0 := 0) rfl rfl hDc) rfl rfl hl.1 rfl (lv_room (Nat.le_of_ble_eq_true rfl)) dL_join_7 ⟨Nat.le_of_ble_eq_true rfl, Nat.le_of_ble_eq_true rfl⟩) hP hD hK hS hA [0, 1] [2, 3, 4, 5, 6, 7, 8, 9, 10, 11] rfl rfl (by decide) (by decide) (fun E ce q9 H locs hbad hP hD hS h91 h92 h93 => ?_) (fun r_23 u H locs hw_24 hP hD hK hS => ?_)
      · have hbad : E = "java/lang/IndexOutOfBoundsException" := hbad
        subst hbad
        refine vx_catch (name := "java/lang/IndexOutOfBoundsException") hown [] ⟨0, 12, 15, 21⟩ [] (by rw [htab]; rfl) (fun z h => by simp at h) (by decide) (by decide) (hts (.classLink RL 21 "java/lang/IndexOutOfBoundsException") (by decide +kernel)) (va_Nw.use rfl (hE.2.2.2.2.2.2.2.1 ("java/lang/IndexOutOfBoundsException", "java/lang/IndexOutOfBoundsException") (by decide +kernel))) h91 h92 h93 ?_
        refine W.eq (g2 := F0 m 15 ls [.ref q9]) rfl ?_
        refine lv_astore (lv' := [(5, .ref q9), (0, .ref hh), (1, .int 1), (2, .int x2), (3, .int x3), (4, .ref ou)]) hx hb dL_join_15 hl (by decide) rfl (fun ls hl => ?_)
        refine lv_iconst (v := 1) hx hb dL_join_17 (by decide) ?_
        have hP9 := hP.sub (ws' := [(ou, .inl (kL, 1, .inr (.inl fo)))]) [9] rfl
        have hD9 := hD.sub (ws' := [(ou, .inl (kL, 1, .inr (.inl fo)))]) [9] (by decide) rfl
        have hK9 := hK.sub (tys' := [(kL, .long)]) [1] rfl
        refine W.widen (k := 2) (n := 24) (Nat.le_of_ble_eq_true rfl) (Nat.le_of_ble_eq_true rfl) ?_
        refine vx_ret ?_
        exact W.iret (v := 1) hx hb hr (fun t ht hW => ⟨⟨1, (1, (fo)), rfl, ⟨rfl, by first | exact fun h => absurd h (by decide) | exact fun _ => rfl | rfl | decide | simp [hx20, hx21], fun h => absurd h (by decide)⟩, ⟨by rw [ht]; exact hP9, va_K.moved hW.alike hK9, hD9⟩⟩, hS.F ht⟩) hS.2.2 dL_join_18
      exact absurd hw_24 id
    · refine lv_aload hx hb dL_join_0 (lv_at hl 4 rfl) ?_
      refine lv_iconst (v := 0) hx hb dL_join_2 (by decide) ?_
      refine lv_aload_n hx hb dL_join_3 rfl (lv_at hl 0 rfl) ?_
      refine lv_iload_n hx hb dL_join_4 rfl (lv_at hl 1 rfl) ?_
      refine lv_iload_n hx hb dL_join_5 rfl (lv_at hl 2 rfl) ?_
      refine lv_iload_n hx hb dL_join_6 rfl (lv_at hl 3 rfl) ?_
      refine z_i (wr := [(ou, .inl (kL, 1, .inr (.inl fo)))]) (va_runV (As := [.int 1, .int 0, .int x3]) (rest := [.int 0, .ref ou]) ⟨hx, hb, hml, hown, hts⟩ (c_H_join_10 l eD eI ad dC dI s.heap.size hh aexpr achoo ameth aroom anod asort anote amet atold aheld apair astep asize nm nl n1 n2 nf ns nh nk np apsl azsl kI kL x3) (cwV 3 hts g_c_L_join_7 rfl rfl rfl (by decide +kernel) ⟨Nat.le_of_ble_eq_true rfl, Nat.le_of_ble_eq_true rfl⟩) (z_preV (wc := [(hh, .inr (13, [.ref aexpr, .ref achoo, .ref ameth, .ref aroom, .ref anod, .ref asort, .ref anote, .ref amet, .int 0, .int 1])), (aroom, .inr (9, [.ref asort, .ref anod, .ref atold, .int 3, .ref aheld, .int 0, .ref apair, .ref astep, .int 0, .int 0, .int (-1), .int 0, .int 0, .ref asize])), (atold, .inl (kI, 60, .inl zTold)), (anod, .inr (7, [.ref nm, .ref nl, .ref n1, .ref n2, .ref nf, .ref ns, .ref nh, .ref nk, .ref np, .int 16, .int 0, .int 16, .int 0, .int 0])), (ns, .inl (kL, 1024, .inr (.inl zSec))), (asort, .inr (1, [.int 0, .ref eD, .int 0])), (astep, .inr (1, [.int 0, .ref eD, .int 0])), (apair, .inr (8, [.ref apsl, .int 0, .int 0])), (apsl, .inl (kL, 512, .inr (.inl (fun _ => 0)))), (asize, .inr (10, [.ref azsl, .int 0])), (azsl, .inl (kL, 0, .inr (.inl (fun _ => 0))))]) hP hD hK hS hA hE [0, 1, 2, 3, 4, 5, 6, 7, 8, 9, 10] [0, 1] rfl (by decide) rfl (ci := 13) (q0 := 0) rfl rfl) rfl rfl hl.1 rfl (lv_room (Nat.le_of_ble_eq_true rfl)) dL_join_7 ⟨Nat.le_of_ble_eq_true rfl, Nat.le_of_ble_eq_true rfl⟩) hP hD hK hS hA [0, 1, 2, 3, 4, 5, 6, 7, 8, 9, 10] [11] rfl rfl (by decide) (by decide) (fun r_26 u H locs hw_27 hP hD hK hS => ?_)
      obtain ⟨u_25, rfl⟩ : ∃ z, z = u := ⟨_, rfl⟩
      have hP : va_P (dC, dI) vwCl [(ou, .inl (kL, 1, .inr (.inl fo)))] H := hP
      have hD : va_D A [(ou, .inl (kL, 1, .inr (.inl fo)))] := hD
      have hK : va_K (dC, dI) vwCl [(kI, .int), (kL, .long)] s := by simpa using hK
      have hw_27 : r_26 = u_25 ∧ u_25 = (if x3 = 0 then (-1) else (-9)) := hw_27
      obtain ⟨hw_27, hp_28⟩ := hw_27
      have hw_27 := hw_27.symm
      subst hw_27
      refine lv_i2l (v := u_25.toInt64) hx hb dL_join_10 rfl ?_
      refine va_last (D := (dC, dI)) hx hb hK hP hD hS 0 1 rfl rfl (by unfold vp_in; decide) dL_join_11 (fun H locs hP hD hS => ?_)
      have hP : va_P (dC, dI) vwCl [(ou, .inl (kL, 1, .inr (.inl (vp_updL fo (0 : Int32).toNatClampNeg u_25.toInt64))))] H := hP
      have hD : va_D A [(ou, .inl (kL, 1, .inr (.inl (vp_updL fo (0 : Int32).toNatClampNeg u_25.toInt64))))] := hD
      refine lv_goto (tgt := 19) hx hb dL_join_12 (by decide) ?_
      refine lv_iconst (v := 0) hx hb dL_join_19 (by decide) ?_
      have hP9 := hP.sub (ws' := [(ou, .inl (kL, 1, .inr (.inl (vp_updL fo (0 : Int32).toNatClampNeg u_25.toInt64))))]) [0] rfl
      have hD9 := hD.sub (ws' := [(ou, .inl (kL, 1, .inr (.inl (vp_updL fo (0 : Int32).toNatClampNeg u_25.toInt64))))]) [0] (by decide) rfl
      have hK9 := hK.sub (tys' := [(kL, .long)]) [1] rfl
      refine W.widen (k := 2) (n := 24) (Nat.le_of_ble_eq_true rfl) (Nat.le_of_ble_eq_true rfl) ?_
      refine vx_ret ?_
      exact W.iret (v := 0) hx hb hr (fun t ht hW => ⟨⟨0, (0, (vp_updL fo (0 : Int32).toNatClampNeg u_25.toInt64)), rfl, ⟨rfl, by first | exact fun h => absurd h (by decide) | exact fun _ => rfl | rfl | decide | simp, by intro _; rw [hp_28]; first | rfl | simp [vp_updL]⟩, ⟨by rw [ht]; exact hP9, va_K.moved hW.alike hK9, hD9⟩⟩, hS.F ht⟩) hS.2.2 dL_join_20
    · refine lv_aload hx hb dL_join_0 (lv_at hl 4 rfl) ?_
      refine lv_iconst (v := 0) hx hb dL_join_2 (by decide) ?_
      refine lv_aload_n hx hb dL_join_3 rfl (lv_at hl 0 rfl) ?_
      refine lv_iload_n hx hb dL_join_4 rfl (lv_at hl 1 rfl) ?_
      refine lv_iload_n hx hb dL_join_5 rfl (lv_at hl 2 rfl) ?_
      refine lv_iload_n hx hb dL_join_6 rfl (lv_at hl 3 rfl) ?_
      refine z_i (wr := [(ou, .inl (kL, 1, .inr (.inl fo)))]) (va_runV (As := [.int 1, .int 1, .int x3]) (rest := [.int 0, .ref ou]) ⟨hx, hb, hml, hown, hts⟩ (c_H_join_11 l eD eI ad dC dI s.heap.size hh aexpr achoo ameth aroom anod asort anote amet atold aheld apair astep asize nm nl n1 n2 nf ns nh nk np apsl azsl kI kL x3) (cwV 3 hts g_c_L_join_8 rfl rfl rfl (by decide +kernel) ⟨Nat.le_of_ble_eq_true rfl, Nat.le_of_ble_eq_true rfl⟩) (z_preV (wc := [(hh, .inr (13, [.ref aexpr, .ref achoo, .ref ameth, .ref aroom, .ref anod, .ref asort, .ref anote, .ref amet, .int 0, .int 1])), (aroom, .inr (9, [.ref asort, .ref anod, .ref atold, .int 3, .ref aheld, .int 0, .ref apair, .ref astep, .int 0, .int 0, .int (-1), .int 0, .int 0, .ref asize])), (atold, .inl (kI, 60, .inl zTold)), (anod, .inr (7, [.ref nm, .ref nl, .ref n1, .ref n2, .ref nf, .ref ns, .ref nh, .ref nk, .ref np, .int 16, .int 0, .int 16, .int 0, .int 0])), (ns, .inl (kL, 1024, .inr (.inl zSec))), (asort, .inr (1, [.int 0, .ref eD, .int 0])), (astep, .inr (1, [.int 0, .ref eD, .int 0])), (apair, .inr (8, [.ref apsl, .int 0, .int 0])), (apsl, .inl (kL, 512, .inr (.inl (fun _ => 0)))), (asize, .inr (10, [.ref azsl, .int 0])), (azsl, .inl (kL, 0, .inr (.inl (fun _ => 0))))]) hP hD hK hS hA hE [0, 1, 2, 3, 4, 5, 6, 7, 8, 9, 10] [0, 1] rfl (by decide) rfl (ci := 13) (q0 := 0) rfl rfl) rfl rfl hl.1 rfl (lv_room (Nat.le_of_ble_eq_true rfl)) dL_join_7 ⟨Nat.le_of_ble_eq_true rfl, Nat.le_of_ble_eq_true rfl⟩) hP hD hK hS hA [0, 1, 2, 3, 4, 5, 6, 7, 8, 9, 10] [11] rfl rfl (by decide) (by decide) (fun r_30 u H locs hw_31 hP hD hK hS => ?_)
      obtain ⟨u_29, rfl⟩ : ∃ z, z = u := ⟨_, rfl⟩
      have hP : va_P (dC, dI) vwCl [(ou, .inl (kL, 1, .inr (.inl fo)))] H := hP
      have hD : va_D A [(ou, .inl (kL, 1, .inr (.inl fo)))] := hD
      have hK : va_K (dC, dI) vwCl [(kI, .int), (kL, .long)] s := by simpa using hK
      have hw_31 : r_30 = u_29 ∧ u_29 = (if x3 = 0 then (-2) else (-9)) := hw_31
      obtain ⟨hw_31, hp_32⟩ := hw_31
      have hw_31 := hw_31.symm
      subst hw_31
      refine lv_i2l (v := u_29.toInt64) hx hb dL_join_10 rfl ?_
      refine va_last (D := (dC, dI)) hx hb hK hP hD hS 0 1 rfl rfl (by unfold vp_in; decide) dL_join_11 (fun H locs hP hD hS => ?_)
      have hP : va_P (dC, dI) vwCl [(ou, .inl (kL, 1, .inr (.inl (vp_updL fo (0 : Int32).toNatClampNeg u_29.toInt64))))] H := hP
      have hD : va_D A [(ou, .inl (kL, 1, .inr (.inl (vp_updL fo (0 : Int32).toNatClampNeg u_29.toInt64))))] := hD
      refine lv_goto (tgt := 19) hx hb dL_join_12 (by decide) ?_
      refine lv_iconst (v := 0) hx hb dL_join_19 (by decide) ?_
      have hP9 := hP.sub (ws' := [(ou, .inl (kL, 1, .inr (.inl (vp_updL fo (0 : Int32).toNatClampNeg u_29.toInt64))))]) [0] rfl
      have hD9 := hD.sub (ws' := [(ou, .inl (kL, 1, .inr (.inl (vp_updL fo (0 : Int32).toNatClampNeg u_29.toInt64))))]) [0] (by decide) rfl
      have hK9 := hK.sub (tys' := [(kL, .long)]) [1] rfl
      refine W.widen (k := 2) (n := 24) (Nat.le_of_ble_eq_true rfl) (Nat.le_of_ble_eq_true rfl) ?_
      refine vx_ret ?_
      exact W.iret (v := 0) hx hb hr (fun t ht hW => ⟨⟨0, (0, (vp_updL fo (0 : Int32).toNatClampNeg u_29.toInt64)), rfl, ⟨rfl, by first | exact fun h => absurd h (by decide) | exact fun _ => rfl | rfl | decide | simp, by intro _; rw [hp_32]; first | rfl | simp [vp_updL]⟩, ⟨by rw [ht]; exact hP9, va_K.moved hW.alike hK9, hD9⟩⟩, hS.F ht⟩) hS.2.2 dL_join_20
    · refine lv_aload hx hb dL_join_0 (lv_at hl 4 rfl) ?_
      refine lv_iconst (v := 0) hx hb dL_join_2 (by decide) ?_
      refine lv_aload_n hx hb dL_join_3 rfl (lv_at hl 0 rfl) ?_
      refine lv_iload_n hx hb dL_join_4 rfl (lv_at hl 1 rfl) ?_
      refine lv_iload_n hx hb dL_join_5 rfl (lv_at hl 2 rfl) ?_
      refine lv_iload_n hx hb dL_join_6 rfl (lv_at hl 3 rfl) ?_
      refine z_i (wr := [(ou, .inl (kL, 1, .inr (.inl fo)))]) (va_runV (As := [.int 1, .int 2, .int x3]) (rest := [.int 0, .ref ou]) ⟨hx, hb, hml, hown, hts⟩ (c_H_join_12 l eD eI ad dC dI s.heap.size hh aexpr achoo ameth aroom anod asort anote amet atold aheld apair astep asize nm nl n1 n2 nf ns nh nk np apsl azsl kI kL x3) (cwV 3 hts g_c_L_join_9 rfl rfl rfl (by decide +kernel) ⟨Nat.le_of_ble_eq_true rfl, Nat.le_of_ble_eq_true rfl⟩) (z_preV (wc := [(hh, .inr (13, [.ref aexpr, .ref achoo, .ref ameth, .ref aroom, .ref anod, .ref asort, .ref anote, .ref amet, .int 0, .int 1])), (aroom, .inr (9, [.ref asort, .ref anod, .ref atold, .int 3, .ref aheld, .int 0, .ref apair, .ref astep, .int 0, .int 0, .int (-1), .int 0, .int 0, .ref asize])), (atold, .inl (kI, 60, .inl zTold)), (anod, .inr (7, [.ref nm, .ref nl, .ref n1, .ref n2, .ref nf, .ref ns, .ref nh, .ref nk, .ref np, .int 16, .int 0, .int 16, .int 0, .int 0])), (ns, .inl (kL, 1024, .inr (.inl zSec))), (asort, .inr (1, [.int 0, .ref eD, .int 0])), (astep, .inr (1, [.int 0, .ref eD, .int 0])), (apair, .inr (8, [.ref apsl, .int 0, .int 0])), (apsl, .inl (kL, 512, .inr (.inl (fun _ => 0)))), (asize, .inr (10, [.ref azsl, .int 0])), (azsl, .inl (kL, 0, .inr (.inl (fun _ => 0))))]) hP hD hK hS hA hE [0, 1, 2, 3, 4, 5, 6, 7, 8, 9, 10] [0, 1] rfl (by decide) rfl (ci := 13) (q0 := 0) rfl rfl) rfl rfl hl.1 rfl (lv_room (Nat.le_of_ble_eq_true rfl)) dL_join_7 ⟨Nat.le_of_ble_eq_true rfl, Nat.le_of_ble_eq_true rfl⟩) hP hD hK hS hA [0, 1, 2, 3, 4, 5, 6, 7, 8, 9, 10] [11] rfl rfl (by decide) (by decide) (fun r_34 u H locs hw_35 hP hD hK hS => ?_)
      obtain ⟨u_33, rfl⟩ : ∃ z, z = u := ⟨_, rfl⟩
      have hP : va_P (dC, dI) vwCl [(ou, .inl (kL, 1, .inr (.inl fo)))] H := hP
      have hD : va_D A [(ou, .inl (kL, 1, .inr (.inl fo)))] := hD
      have hK : va_K (dC, dI) vwCl [(kI, .int), (kL, .long)] s := by simpa using hK
      have hw_35 : r_34 = u_33 ∧ u_33 = (if x3 = 0 then (-3) else (-9)) := hw_35
      obtain ⟨hw_35, hp_36⟩ := hw_35
      have hw_35 := hw_35.symm
      subst hw_35
      refine lv_i2l (v := u_33.toInt64) hx hb dL_join_10 rfl ?_
      refine va_last (D := (dC, dI)) hx hb hK hP hD hS 0 1 rfl rfl (by unfold vp_in; decide) dL_join_11 (fun H locs hP hD hS => ?_)
      have hP : va_P (dC, dI) vwCl [(ou, .inl (kL, 1, .inr (.inl (vp_updL fo (0 : Int32).toNatClampNeg u_33.toInt64))))] H := hP
      have hD : va_D A [(ou, .inl (kL, 1, .inr (.inl (vp_updL fo (0 : Int32).toNatClampNeg u_33.toInt64))))] := hD
      refine lv_goto (tgt := 19) hx hb dL_join_12 (by decide) ?_
      refine lv_iconst (v := 0) hx hb dL_join_19 (by decide) ?_
      have hP9 := hP.sub (ws' := [(ou, .inl (kL, 1, .inr (.inl (vp_updL fo (0 : Int32).toNatClampNeg u_33.toInt64))))]) [0] rfl
      have hD9 := hD.sub (ws' := [(ou, .inl (kL, 1, .inr (.inl (vp_updL fo (0 : Int32).toNatClampNeg u_33.toInt64))))]) [0] (by decide) rfl
      have hK9 := hK.sub (tys' := [(kL, .long)]) [1] rfl
      refine W.widen (k := 2) (n := 24) (Nat.le_of_ble_eq_true rfl) (Nat.le_of_ble_eq_true rfl) ?_
      refine vx_ret ?_
      exact W.iret (v := 0) hx hb hr (fun t ht hW => ⟨⟨0, (0, (vp_updL fo (0 : Int32).toNatClampNeg u_33.toInt64)), rfl, ⟨rfl, by first | exact fun h => absurd h (by decide) | exact fun _ => rfl | rfl | decide | simp, by intro _; rw [hp_36]; first | rfl | simp [vp_updL]⟩, ⟨by rw [ht]; exact hP9, va_K.moved hW.alike hK9, hD9⟩⟩, hS.F ht⟩) hS.2.2 dL_join_20
  · rcases z_split3 x2 with hx21 | ⟨hx20, hx21⟩ | rfl | rfl | rfl
    · refine lv_aload hx hb dL_join_0 (lv_at hl 4 rfl) ?_
      refine lv_iconst (v := 0) hx hb dL_join_2 (by decide) ?_
      refine lv_aload_n hx hb dL_join_3 rfl (lv_at hl 0 rfl) ?_
      refine lv_iload_n hx hb dL_join_4 rfl (lv_at hl 1 rfl) ?_
      refine lv_iload_n hx hb dL_join_5 rfl (lv_at hl 2 rfl) ?_
      refine lv_iload_n hx hb dL_join_6 rfl (lv_at hl 3 rfl) ?_
      refine zx_i (wr := [(atold, .inl (kI, 60, .inl zTold)), (anod, .inr (7, [.ref nm, .ref nl, .ref n1, .ref n2, .ref nf, .ref ns, .ref nh, .ref nk, .ref np, .int 16, .int 0, .int 16, .int 0, .int 0])), (ns, .inl (kL, 1024, .inr (.inl zSec))), (asort, .inr (1, [.int 0, .ref eD, .int 0])), (astep, .inr (1, [.int 0, .ref eD, .int 0])), (apair, .inr (8, [.ref apsl, .int 0, .int 0])), (apsl, .inl (kL, 512, .inr (.inl (fun _ => 0)))), (asize, .inr (10, [.ref azsl, .int 0])), (azsl, .inl (kL, 0, .inr (.inl (fun _ => 0)))), (ou, .inl (kL, 1, .inr (.inl fo)))]) (vx_runV (As := [.int 2, .int x2, .int x3]) (rest := [.int 0, .ref ou]) ⟨hx, hb, hml, hown, hts⟩ (c_H_join_kl l hfl eD eI ad dC dI s.heap.size hh aexpr achoo ameth aroom anod asort anote amet atold aheld apair astep asize 2 x2 x3 (by decide) (by decide) (hx21)) (cwV 3 hts g_c_L_join_2 rfl rfl rfl (by decide +kernel) ⟨Nat.le_of_ble_eq_true rfl, Nat.le_of_ble_eq_true rfl⟩) (z_preVD (wc := [(hh, .inr (13, [.ref aexpr, .ref achoo, .ref ameth, .ref aroom, .ref anod, .ref asort, .ref anote, .ref amet, .int 0, .int 1])), (aroom, .inr (9, [.ref asort, .ref anod, .ref atold, .int 3, .ref aheld, .int 0, .ref apair, .ref astep, .int 0, .int 0, .int (-1), .int 0, .int 0, .ref asize]))]) hP hD hK hS hA hE [0, 1] [] rfl (by decide) rfl (ci := 13) (q0 := 0) rfl rfl hDc) rfl rfl hl.1 rfl (lv_room (Nat.le_of_ble_eq_true rfl)) dL_join_7 ⟨Nat.le_of_ble_eq_true rfl, Nat.le_of_ble_eq_true rfl⟩) hP hD hK hS hA [0, 1] [2, 3, 4, 5, 6, 7, 8, 9, 10, 11] rfl rfl (by decide) (by decide) (fun E ce q9 H locs hbad hP hD hS h91 h92 h93 => ?_) (fun r_37 u H locs hw_38 hP hD hK hS => ?_)
      · have hbad : E = "java/lang/IndexOutOfBoundsException" := hbad
        subst hbad
        refine vx_catch (name := "java/lang/IndexOutOfBoundsException") hown [] ⟨0, 12, 15, 21⟩ [] (by rw [htab]; rfl) (fun z h => by simp at h) (by decide) (by decide) (hts (.classLink RL 21 "java/lang/IndexOutOfBoundsException") (by decide +kernel)) (va_Nw.use rfl (hE.2.2.2.2.2.2.2.1 ("java/lang/IndexOutOfBoundsException", "java/lang/IndexOutOfBoundsException") (by decide +kernel))) h91 h92 h93 ?_
        refine W.eq (g2 := F0 m 15 ls [.ref q9]) rfl ?_
        refine lv_astore (lv' := [(5, .ref q9), (0, .ref hh), (1, .int 2), (2, .int x2), (3, .int x3), (4, .ref ou)]) hx hb dL_join_15 hl (by decide) rfl (fun ls hl => ?_)
        refine lv_iconst (v := 1) hx hb dL_join_17 (by decide) ?_
        have hP9 := hP.sub (ws' := [(ou, .inl (kL, 1, .inr (.inl fo)))]) [9] rfl
        have hD9 := hD.sub (ws' := [(ou, .inl (kL, 1, .inr (.inl fo)))]) [9] (by decide) rfl
        have hK9 := hK.sub (tys' := [(kL, .long)]) [1] rfl
        refine W.widen (k := 2) (n := 24) (Nat.le_of_ble_eq_true rfl) (Nat.le_of_ble_eq_true rfl) ?_
        refine vx_ret ?_
        exact W.iret (v := 1) hx hb hr (fun t ht hW => ⟨⟨1, (1, (fo)), rfl, ⟨rfl, by first | exact fun h => absurd h (by decide) | exact fun _ => rfl | rfl | decide | simp [hx21], fun h => absurd h (by decide)⟩, ⟨by rw [ht]; exact hP9, va_K.moved hW.alike hK9, hD9⟩⟩, hS.F ht⟩) hS.2.2 dL_join_18
      exact absurd hw_38 id
    · refine lv_aload hx hb dL_join_0 (lv_at hl 4 rfl) ?_
      refine lv_iconst (v := 0) hx hb dL_join_2 (by decide) ?_
      refine lv_aload_n hx hb dL_join_3 rfl (lv_at hl 0 rfl) ?_
      refine lv_iload_n hx hb dL_join_4 rfl (lv_at hl 1 rfl) ?_
      refine lv_iload_n hx hb dL_join_5 rfl (lv_at hl 2 rfl) ?_
      refine lv_iload_n hx hb dL_join_6 rfl (lv_at hl 3 rfl) ?_
      refine zx_i (wr := [(atold, .inl (kI, 60, .inl zTold)), (anod, .inr (7, [.ref nm, .ref nl, .ref n1, .ref n2, .ref nf, .ref ns, .ref nh, .ref nk, .ref np, .int 16, .int 0, .int 16, .int 0, .int 0])), (ns, .inl (kL, 1024, .inr (.inl zSec))), (asort, .inr (1, [.int 0, .ref eD, .int 0])), (astep, .inr (1, [.int 0, .ref eD, .int 0])), (apair, .inr (8, [.ref apsl, .int 0, .int 0])), (apsl, .inl (kL, 512, .inr (.inl (fun _ => 0)))), (asize, .inr (10, [.ref azsl, .int 0])), (azsl, .inl (kL, 0, .inr (.inl (fun _ => 0)))), (ou, .inl (kL, 1, .inr (.inl fo)))]) (vx_runV (As := [.int 2, .int x2, .int x3]) (rest := [.int 0, .ref ou]) ⟨hx, hb, hml, hown, hts⟩ (c_H_join_kh l hfl eD eI ad dC dI s.heap.size hh aexpr achoo ameth aroom anod asort anote amet atold aheld apair astep asize 2 x2 x3 (by decide) (by decide) (hx20) (hx21)) (cwV 3 hts g_c_L_join_3 rfl rfl rfl (by decide +kernel) ⟨Nat.le_of_ble_eq_true rfl, Nat.le_of_ble_eq_true rfl⟩) (z_preVD (wc := [(hh, .inr (13, [.ref aexpr, .ref achoo, .ref ameth, .ref aroom, .ref anod, .ref asort, .ref anote, .ref amet, .int 0, .int 1])), (aroom, .inr (9, [.ref asort, .ref anod, .ref atold, .int 3, .ref aheld, .int 0, .ref apair, .ref astep, .int 0, .int 0, .int (-1), .int 0, .int 0, .ref asize]))]) hP hD hK hS hA hE [0, 1] [] rfl (by decide) rfl (ci := 13) (q0 := 0) rfl rfl hDc) rfl rfl hl.1 rfl (lv_room (Nat.le_of_ble_eq_true rfl)) dL_join_7 ⟨Nat.le_of_ble_eq_true rfl, Nat.le_of_ble_eq_true rfl⟩) hP hD hK hS hA [0, 1] [2, 3, 4, 5, 6, 7, 8, 9, 10, 11] rfl rfl (by decide) (by decide) (fun E ce q9 H locs hbad hP hD hS h91 h92 h93 => ?_) (fun r_39 u H locs hw_40 hP hD hK hS => ?_)
      · have hbad : E = "java/lang/IndexOutOfBoundsException" := hbad
        subst hbad
        refine vx_catch (name := "java/lang/IndexOutOfBoundsException") hown [] ⟨0, 12, 15, 21⟩ [] (by rw [htab]; rfl) (fun z h => by simp at h) (by decide) (by decide) (hts (.classLink RL 21 "java/lang/IndexOutOfBoundsException") (by decide +kernel)) (va_Nw.use rfl (hE.2.2.2.2.2.2.2.1 ("java/lang/IndexOutOfBoundsException", "java/lang/IndexOutOfBoundsException") (by decide +kernel))) h91 h92 h93 ?_
        refine W.eq (g2 := F0 m 15 ls [.ref q9]) rfl ?_
        refine lv_astore (lv' := [(5, .ref q9), (0, .ref hh), (1, .int 2), (2, .int x2), (3, .int x3), (4, .ref ou)]) hx hb dL_join_15 hl (by decide) rfl (fun ls hl => ?_)
        refine lv_iconst (v := 1) hx hb dL_join_17 (by decide) ?_
        have hP9 := hP.sub (ws' := [(ou, .inl (kL, 1, .inr (.inl fo)))]) [9] rfl
        have hD9 := hD.sub (ws' := [(ou, .inl (kL, 1, .inr (.inl fo)))]) [9] (by decide) rfl
        have hK9 := hK.sub (tys' := [(kL, .long)]) [1] rfl
        refine W.widen (k := 2) (n := 24) (Nat.le_of_ble_eq_true rfl) (Nat.le_of_ble_eq_true rfl) ?_
        refine vx_ret ?_
        exact W.iret (v := 1) hx hb hr (fun t ht hW => ⟨⟨1, (1, (fo)), rfl, ⟨rfl, by first | exact fun h => absurd h (by decide) | exact fun _ => rfl | rfl | decide | simp [hx20, hx21], fun h => absurd h (by decide)⟩, ⟨by rw [ht]; exact hP9, va_K.moved hW.alike hK9, hD9⟩⟩, hS.F ht⟩) hS.2.2 dL_join_18
      exact absurd hw_40 id
    · refine lv_aload hx hb dL_join_0 (lv_at hl 4 rfl) ?_
      refine lv_iconst (v := 0) hx hb dL_join_2 (by decide) ?_
      refine lv_aload_n hx hb dL_join_3 rfl (lv_at hl 0 rfl) ?_
      refine lv_iload_n hx hb dL_join_4 rfl (lv_at hl 1 rfl) ?_
      refine lv_iload_n hx hb dL_join_5 rfl (lv_at hl 2 rfl) ?_
      refine lv_iload_n hx hb dL_join_6 rfl (lv_at hl 3 rfl) ?_
      refine z_i (wr := [(ou, .inl (kL, 1, .inr (.inl fo)))]) (va_runV (As := [.int 2, .int 0, .int x3]) (rest := [.int 0, .ref ou]) ⟨hx, hb, hml, hown, hts⟩ (c_H_join_20 l eD eI ad dC dI s.heap.size hh aexpr achoo ameth aroom anod asort anote amet atold aheld apair astep asize nm nl n1 n2 nf ns nh nk np apsl azsl kI kL x3) (cwV 3 hts g_c_L_join_10 rfl rfl rfl (by decide +kernel) ⟨Nat.le_of_ble_eq_true rfl, Nat.le_of_ble_eq_true rfl⟩) (z_preV (wc := [(hh, .inr (13, [.ref aexpr, .ref achoo, .ref ameth, .ref aroom, .ref anod, .ref asort, .ref anote, .ref amet, .int 0, .int 1])), (aroom, .inr (9, [.ref asort, .ref anod, .ref atold, .int 3, .ref aheld, .int 0, .ref apair, .ref astep, .int 0, .int 0, .int (-1), .int 0, .int 0, .ref asize])), (atold, .inl (kI, 60, .inl zTold)), (anod, .inr (7, [.ref nm, .ref nl, .ref n1, .ref n2, .ref nf, .ref ns, .ref nh, .ref nk, .ref np, .int 16, .int 0, .int 16, .int 0, .int 0])), (ns, .inl (kL, 1024, .inr (.inl zSec))), (asort, .inr (1, [.int 0, .ref eD, .int 0])), (astep, .inr (1, [.int 0, .ref eD, .int 0])), (apair, .inr (8, [.ref apsl, .int 0, .int 0])), (apsl, .inl (kL, 512, .inr (.inl (fun _ => 0)))), (asize, .inr (10, [.ref azsl, .int 0])), (azsl, .inl (kL, 0, .inr (.inl (fun _ => 0))))]) hP hD hK hS hA hE [0, 1, 2, 3, 4, 5, 6, 7, 8, 9, 10] [0, 1] rfl (by decide) rfl (ci := 13) (q0 := 0) rfl rfl) rfl rfl hl.1 rfl (lv_room (Nat.le_of_ble_eq_true rfl)) dL_join_7 ⟨Nat.le_of_ble_eq_true rfl, Nat.le_of_ble_eq_true rfl⟩) hP hD hK hS hA [0, 1, 2, 3, 4, 5, 6, 7, 8, 9, 10] [11] rfl rfl (by decide) (by decide) (fun r_42 u H locs hw_43 hP hD hK hS => ?_)
      obtain ⟨u_41, rfl⟩ : ∃ z, z = u := ⟨_, rfl⟩
      have hP : va_P (dC, dI) vwCl [(ou, .inl (kL, 1, .inr (.inl fo)))] H := hP
      have hD : va_D A [(ou, .inl (kL, 1, .inr (.inl fo)))] := hD
      have hK : va_K (dC, dI) vwCl [(kI, .int), (kL, .long)] s := by simpa using hK
      have hw_43 : r_42 = u_41 ∧ u_41 = (if x3 = 0 then (-1) else (-9)) := hw_43
      obtain ⟨hw_43, hp_44⟩ := hw_43
      have hw_43 := hw_43.symm
      subst hw_43
      refine lv_i2l (v := u_41.toInt64) hx hb dL_join_10 rfl ?_
      refine va_last (D := (dC, dI)) hx hb hK hP hD hS 0 1 rfl rfl (by unfold vp_in; decide) dL_join_11 (fun H locs hP hD hS => ?_)
      have hP : va_P (dC, dI) vwCl [(ou, .inl (kL, 1, .inr (.inl (vp_updL fo (0 : Int32).toNatClampNeg u_41.toInt64))))] H := hP
      have hD : va_D A [(ou, .inl (kL, 1, .inr (.inl (vp_updL fo (0 : Int32).toNatClampNeg u_41.toInt64))))] := hD
      refine lv_goto (tgt := 19) hx hb dL_join_12 (by decide) ?_
      refine lv_iconst (v := 0) hx hb dL_join_19 (by decide) ?_
      have hP9 := hP.sub (ws' := [(ou, .inl (kL, 1, .inr (.inl (vp_updL fo (0 : Int32).toNatClampNeg u_41.toInt64))))]) [0] rfl
      have hD9 := hD.sub (ws' := [(ou, .inl (kL, 1, .inr (.inl (vp_updL fo (0 : Int32).toNatClampNeg u_41.toInt64))))]) [0] (by decide) rfl
      have hK9 := hK.sub (tys' := [(kL, .long)]) [1] rfl
      refine W.widen (k := 2) (n := 24) (Nat.le_of_ble_eq_true rfl) (Nat.le_of_ble_eq_true rfl) ?_
      refine vx_ret ?_
      exact W.iret (v := 0) hx hb hr (fun t ht hW => ⟨⟨0, (0, (vp_updL fo (0 : Int32).toNatClampNeg u_41.toInt64)), rfl, ⟨rfl, by first | exact fun h => absurd h (by decide) | exact fun _ => rfl | rfl | decide | simp, by intro _; rw [hp_44]; first | rfl | simp [vp_updL]⟩, ⟨by rw [ht]; exact hP9, va_K.moved hW.alike hK9, hD9⟩⟩, hS.F ht⟩) hS.2.2 dL_join_20
    · refine lv_aload hx hb dL_join_0 (lv_at hl 4 rfl) ?_
      refine lv_iconst (v := 0) hx hb dL_join_2 (by decide) ?_
      refine lv_aload_n hx hb dL_join_3 rfl (lv_at hl 0 rfl) ?_
      refine lv_iload_n hx hb dL_join_4 rfl (lv_at hl 1 rfl) ?_
      refine lv_iload_n hx hb dL_join_5 rfl (lv_at hl 2 rfl) ?_
      refine lv_iload_n hx hb dL_join_6 rfl (lv_at hl 3 rfl) ?_
      refine z_i (wr := [(ou, .inl (kL, 1, .inr (.inl fo)))]) (va_runV (As := [.int 2, .int 1, .int x3]) (rest := [.int 0, .ref ou]) ⟨hx, hb, hml, hown, hts⟩ (c_H_join_21 l eD eI ad dC dI s.heap.size hh aexpr achoo ameth aroom anod asort anote amet atold aheld apair astep asize nm nl n1 n2 nf ns nh nk np apsl azsl kI kL x3) (cwV 3 hts g_c_L_join_11 rfl rfl rfl (by decide +kernel) ⟨Nat.le_of_ble_eq_true rfl, Nat.le_of_ble_eq_true rfl⟩) (z_preV (wc := [(hh, .inr (13, [.ref aexpr, .ref achoo, .ref ameth, .ref aroom, .ref anod, .ref asort, .ref anote, .ref amet, .int 0, .int 1])), (aroom, .inr (9, [.ref asort, .ref anod, .ref atold, .int 3, .ref aheld, .int 0, .ref apair, .ref astep, .int 0, .int 0, .int (-1), .int 0, .int 0, .ref asize])), (atold, .inl (kI, 60, .inl zTold)), (anod, .inr (7, [.ref nm, .ref nl, .ref n1, .ref n2, .ref nf, .ref ns, .ref nh, .ref nk, .ref np, .int 16, .int 0, .int 16, .int 0, .int 0])), (ns, .inl (kL, 1024, .inr (.inl zSec))), (asort, .inr (1, [.int 0, .ref eD, .int 0])), (astep, .inr (1, [.int 0, .ref eD, .int 0])), (apair, .inr (8, [.ref apsl, .int 0, .int 0])), (apsl, .inl (kL, 512, .inr (.inl (fun _ => 0)))), (asize, .inr (10, [.ref azsl, .int 0])), (azsl, .inl (kL, 0, .inr (.inl (fun _ => 0))))]) hP hD hK hS hA hE [0, 1, 2, 3, 4, 5, 6, 7, 8, 9, 10] [0, 1] rfl (by decide) rfl (ci := 13) (q0 := 0) rfl rfl) rfl rfl hl.1 rfl (lv_room (Nat.le_of_ble_eq_true rfl)) dL_join_7 ⟨Nat.le_of_ble_eq_true rfl, Nat.le_of_ble_eq_true rfl⟩) hP hD hK hS hA [0, 1, 2, 3, 4, 5, 6, 7, 8, 9, 10] [11] rfl rfl (by decide) (by decide) (fun r_46 u H locs hw_47 hP hD hK hS => ?_)
      obtain ⟨u_45, rfl⟩ : ∃ z, z = u := ⟨_, rfl⟩
      have hP : va_P (dC, dI) vwCl [(ou, .inl (kL, 1, .inr (.inl fo)))] H := hP
      have hD : va_D A [(ou, .inl (kL, 1, .inr (.inl fo)))] := hD
      have hK : va_K (dC, dI) vwCl [(kI, .int), (kL, .long)] s := by simpa using hK
      have hw_47 : r_46 = u_45 ∧ u_45 = (if x3 = 0 then (-3) else (-9)) := hw_47
      obtain ⟨hw_47, hp_48⟩ := hw_47
      have hw_47 := hw_47.symm
      subst hw_47
      refine lv_i2l (v := u_45.toInt64) hx hb dL_join_10 rfl ?_
      refine va_last (D := (dC, dI)) hx hb hK hP hD hS 0 1 rfl rfl (by unfold vp_in; decide) dL_join_11 (fun H locs hP hD hS => ?_)
      have hP : va_P (dC, dI) vwCl [(ou, .inl (kL, 1, .inr (.inl (vp_updL fo (0 : Int32).toNatClampNeg u_45.toInt64))))] H := hP
      have hD : va_D A [(ou, .inl (kL, 1, .inr (.inl (vp_updL fo (0 : Int32).toNatClampNeg u_45.toInt64))))] := hD
      refine lv_goto (tgt := 19) hx hb dL_join_12 (by decide) ?_
      refine lv_iconst (v := 0) hx hb dL_join_19 (by decide) ?_
      have hP9 := hP.sub (ws' := [(ou, .inl (kL, 1, .inr (.inl (vp_updL fo (0 : Int32).toNatClampNeg u_45.toInt64))))]) [0] rfl
      have hD9 := hD.sub (ws' := [(ou, .inl (kL, 1, .inr (.inl (vp_updL fo (0 : Int32).toNatClampNeg u_45.toInt64))))]) [0] (by decide) rfl
      have hK9 := hK.sub (tys' := [(kL, .long)]) [1] rfl
      refine W.widen (k := 2) (n := 24) (Nat.le_of_ble_eq_true rfl) (Nat.le_of_ble_eq_true rfl) ?_
      refine vx_ret ?_
      exact W.iret (v := 0) hx hb hr (fun t ht hW => ⟨⟨0, (0, (vp_updL fo (0 : Int32).toNatClampNeg u_45.toInt64)), rfl, ⟨rfl, by first | exact fun h => absurd h (by decide) | exact fun _ => rfl | rfl | decide | simp, by intro _; rw [hp_48]; first | rfl | simp [vp_updL]⟩, ⟨by rw [ht]; exact hP9, va_K.moved hW.alike hK9, hD9⟩⟩, hS.F ht⟩) hS.2.2 dL_join_20
    · refine lv_aload hx hb dL_join_0 (lv_at hl 4 rfl) ?_
      refine lv_iconst (v := 0) hx hb dL_join_2 (by decide) ?_
      refine lv_aload_n hx hb dL_join_3 rfl (lv_at hl 0 rfl) ?_
      refine lv_iload_n hx hb dL_join_4 rfl (lv_at hl 1 rfl) ?_
      refine lv_iload_n hx hb dL_join_5 rfl (lv_at hl 2 rfl) ?_
      refine lv_iload_n hx hb dL_join_6 rfl (lv_at hl 3 rfl) ?_
      refine z_i (wr := [(ou, .inl (kL, 1, .inr (.inl fo)))]) (va_runV (As := [.int 2, .int 2, .int x3]) (rest := [.int 0, .ref ou]) ⟨hx, hb, hml, hown, hts⟩ (c_H_join_22 l eD eI ad dC dI s.heap.size hh aexpr achoo ameth aroom anod asort anote amet atold aheld apair astep asize nm nl n1 n2 nf ns nh nk np apsl azsl kI kL x3) (cwV 3 hts g_c_L_join_12 rfl rfl rfl (by decide +kernel) ⟨Nat.le_of_ble_eq_true rfl, Nat.le_of_ble_eq_true rfl⟩) (z_preV (wc := [(hh, .inr (13, [.ref aexpr, .ref achoo, .ref ameth, .ref aroom, .ref anod, .ref asort, .ref anote, .ref amet, .int 0, .int 1])), (aroom, .inr (9, [.ref asort, .ref anod, .ref atold, .int 3, .ref aheld, .int 0, .ref apair, .ref astep, .int 0, .int 0, .int (-1), .int 0, .int 0, .ref asize])), (atold, .inl (kI, 60, .inl zTold)), (anod, .inr (7, [.ref nm, .ref nl, .ref n1, .ref n2, .ref nf, .ref ns, .ref nh, .ref nk, .ref np, .int 16, .int 0, .int 16, .int 0, .int 0])), (ns, .inl (kL, 1024, .inr (.inl zSec))), (asort, .inr (1, [.int 0, .ref eD, .int 0])), (astep, .inr (1, [.int 0, .ref eD, .int 0])), (apair, .inr (8, [.ref apsl, .int 0, .int 0])), (apsl, .inl (kL, 512, .inr (.inl (fun _ => 0)))), (asize, .inr (10, [.ref azsl, .int 0])), (azsl, .inl (kL, 0, .inr (.inl (fun _ => 0))))]) hP hD hK hS hA hE [0, 1, 2, 3, 4, 5, 6, 7, 8, 9, 10] [0, 1] rfl (by decide) rfl (ci := 13) (q0 := 0) rfl rfl) rfl rfl hl.1 rfl (lv_room (Nat.le_of_ble_eq_true rfl)) dL_join_7 ⟨Nat.le_of_ble_eq_true rfl, Nat.le_of_ble_eq_true rfl⟩) hP hD hK hS hA [0, 1, 2, 3, 4, 5, 6, 7, 8, 9, 10] [11] rfl rfl (by decide) (by decide) (fun r_50 u H locs hw_51 hP hD hK hS => ?_)
      obtain ⟨u_49, rfl⟩ : ∃ z, z = u := ⟨_, rfl⟩
      have hP : va_P (dC, dI) vwCl [(ou, .inl (kL, 1, .inr (.inl fo)))] H := hP
      have hD : va_D A [(ou, .inl (kL, 1, .inr (.inl fo)))] := hD
      have hK : va_K (dC, dI) vwCl [(kI, .int), (kL, .long)] s := by simpa using hK
      have hw_51 : r_50 = u_49 ∧ u_49 = (if x3 = 0 then (-3) else (-9)) := hw_51
      obtain ⟨hw_51, hp_52⟩ := hw_51
      have hw_51 := hw_51.symm
      subst hw_51
      refine lv_i2l (v := u_49.toInt64) hx hb dL_join_10 rfl ?_
      refine va_last (D := (dC, dI)) hx hb hK hP hD hS 0 1 rfl rfl (by unfold vp_in; decide) dL_join_11 (fun H locs hP hD hS => ?_)
      have hP : va_P (dC, dI) vwCl [(ou, .inl (kL, 1, .inr (.inl (vp_updL fo (0 : Int32).toNatClampNeg u_49.toInt64))))] H := hP
      have hD : va_D A [(ou, .inl (kL, 1, .inr (.inl (vp_updL fo (0 : Int32).toNatClampNeg u_49.toInt64))))] := hD
      refine lv_goto (tgt := 19) hx hb dL_join_12 (by decide) ?_
      refine lv_iconst (v := 0) hx hb dL_join_19 (by decide) ?_
      have hP9 := hP.sub (ws' := [(ou, .inl (kL, 1, .inr (.inl (vp_updL fo (0 : Int32).toNatClampNeg u_49.toInt64))))]) [0] rfl
      have hD9 := hD.sub (ws' := [(ou, .inl (kL, 1, .inr (.inl (vp_updL fo (0 : Int32).toNatClampNeg u_49.toInt64))))]) [0] (by decide) rfl
      have hK9 := hK.sub (tys' := [(kL, .long)]) [1] rfl
      refine W.widen (k := 2) (n := 24) (Nat.le_of_ble_eq_true rfl) (Nat.le_of_ble_eq_true rfl) ?_
      refine vx_ret ?_
      exact W.iret (v := 0) hx hb hr (fun t ht hW => ⟨⟨0, (0, (vp_updL fo (0 : Int32).toNatClampNeg u_49.toInt64)), rfl, ⟨rfl, by first | exact fun h => absurd h (by decide) | exact fun _ => rfl | rfl | decide | simp, by intro _; rw [hp_52]; first | rfl | simp [vp_updL]⟩, ⟨by rw [ht]; exact hP9, va_K.moved hW.alike hK9, hD9⟩⟩, hS.F ht⟩) hS.2.2 dL_join_20
