theorem dX19_wouldChoose_0 : decode cX19_wouldChoose 0 = .ok (.aload_n 0, 1) := by decide +kernel
theorem dX19_wouldChoose_1 : decode cX19_wouldChoose 1 = .ok (.aload_n 0, 1) := by decide +kernel
theorem dX19_wouldChoose_2 : decode cX19_wouldChoose 2 = .ok (.iload_n 1, 1) := by decide +kernel
theorem dX19_wouldChoose_3 : decode cX19_wouldChoose 3 = .ok (.invokevirtual 55, 3) := by decide +kernel
theorem dX19_wouldChoose_6 : decode cX19_wouldChoose 6 = .ok (.ifCond .ne 20, 3) := by decide +kernel
theorem dX19_wouldChoose_26 : decode cX19_wouldChoose 26 = .ok (.iconst 1, 1) := by decide +kernel
theorem dX19_wouldChoose_27 : decode cX19_wouldChoose 27 = .ok (.goto 4, 3) := by decide +kernel
theorem dX19_wouldChoose_31 : decode cX19_wouldChoose 31 = .ok (.iconst 1, 1) := by decide +kernel
theorem dX19_wouldChoose_32 : decode cX19_wouldChoose 32 = .ok (.invokevirtual 63, 3) := by decide +kernel
theorem dX19_wouldChoose_35 : decode cX19_wouldChoose 35 = .ok (.ifCond .ne 37, 3) := by decide +kernel
theorem dX19_wouldChoose_72 : decode cX19_wouldChoose 72 = .ok (.iconst 0, 1) := by decide +kernel
theorem dX19_wouldChoose_73 : decode cX19_wouldChoose 73 = .ok (.ireturn, 1) := by decide +kernel
theorem dX19_wouldChoose_9 : decode cX19_wouldChoose 9 = .ok (.aload_n 0, 1) := by decide +kernel
theorem dX19_wouldChoose_10 : decode cX19_wouldChoose 10 = .ok (.iload_n 3, 1) := by decide +kernel
theorem dX19_wouldChoose_11 : decode cX19_wouldChoose 11 = .ok (.invokevirtual 105, 3) := by decide +kernel
theorem dX19_wouldChoose_14 : decode cX19_wouldChoose 14 = .ok (.ifCond .ne 12, 3) := by decide +kernel
theorem dX19_wouldChoose_17 : decode cX19_wouldChoose 17 = .ok (.aload_n 0, 1) := by decide +kernel
theorem dX19_wouldChoose_18 : decode cX19_wouldChoose 18 = .ok (.iload 4, 2) := by decide +kernel
theorem dX19_wouldChoose_20 : decode cX19_wouldChoose 20 = .ok (.invokevirtual 105, 3) := by decide +kernel
theorem dX19_wouldChoose_23 : decode cX19_wouldChoose 23 = .ok (.ifCond .eq 7, 3) := by decide +kernel
theorem dX19_wouldChoose_30 : decode cX19_wouldChoose 30 = .ok (.iconst 0, 1) := by decide +kernel
theorem dX19_wouldChoose_38 : decode cX19_wouldChoose 38 = .ok (.aload_n 0, 1) := by decide +kernel
theorem dX19_wouldChoose_39 : decode cX19_wouldChoose 39 = .ok (.iload_n 2, 1) := by decide +kernel
theorem dX19_wouldChoose_40 : decode cX19_wouldChoose 40 = .ok (.iconst 0, 1) := by decide +kernel
theorem dX19_wouldChoose_41 : decode cX19_wouldChoose 41 = .ok (.bipush 9, 2) := by decide +kernel
theorem dX19_wouldChoose_43 : decode cX19_wouldChoose 43 = .ok (.invokestatic 51, 3) := by decide +kernel
theorem dX19_wouldChoose_46 : decode cX19_wouldChoose 46 = .ok (.ifCond .eq 14, 3) := by decide +kernel
theorem dX19_wouldChoose_60 : decode cX19_wouldChoose 60 = .ok (.iconst 1, 1) := by decide +kernel
theorem dX19_wouldChoose_61 : decode cX19_wouldChoose 61 = .ok (.goto 4, 3) := by decide +kernel
theorem dX19_wouldChoose_65 : decode cX19_wouldChoose 65 = .ok (.iconst 2, 1) := by decide +kernel
theorem dX19_wouldChoose_66 : decode cX19_wouldChoose 66 = .ok (.invokevirtual 38, 3) := by decide +kernel
theorem dX19_wouldChoose_69 : decode cX19_wouldChoose 69 = .ok (.ifCond .eq 5, 3) := by decide +kernel
theorem dX19_wouldChoose_49 : decode cX19_wouldChoose 49 = .ok (.iload_n 3, 1) := by decide +kernel
theorem dX19_wouldChoose_50 : decode cX19_wouldChoose 50 = .ok (.iconst (-1), 1) := by decide +kernel
theorem dX19_wouldChoose_51 : decode cX19_wouldChoose 51 = .ok (.if_icmp .ne 13, 3) := by decide +kernel
theorem dX19_wouldChoose_54 : decode cX19_wouldChoose 54 = .ok (.iload 4, 2) := by decide +kernel
theorem dX19_wouldChoose_56 : decode cX19_wouldChoose 56 = .ok (.iconst (-1), 1) := by decide +kernel
theorem dX19_wouldChoose_57 : decode cX19_wouldChoose 57 = .ok (.if_icmp .eq 7, 3) := by decide +kernel
theorem dX19_wouldChoose_64 : decode cX19_wouldChoose 64 = .ok (.iconst 0, 1) := by decide +kernel
theorem dX19_wouldChoose_74 : decode cX19_wouldChoose 74 = .ok (.aload_n 0, 1) := by decide +kernel
theorem dX19_wouldChoose_75 : decode cX19_wouldChoose 75 = .ok (.iload_n 3, 1) := by decide +kernel
theorem dX19_wouldChoose_76 : decode cX19_wouldChoose 76 = .ok (.iload 4, 2) := by decide +kernel
theorem dX19_wouldChoose_78 : decode cX19_wouldChoose 78 = .ok (.invokevirtual 117, 3) := by decide +kernel
theorem dX19_wouldChoose_81 : decode cX19_wouldChoose 81 = .ok (.astore 5, 2) := by decide +kernel
theorem dX19_wouldChoose_83 : decode cX19_wouldChoose 83 = .ok (.aload_n 0, 1) := by decide +kernel
theorem dX19_wouldChoose_84 : decode cX19_wouldChoose 84 = .ok (.iload_n 1, 1) := by decide +kernel
theorem dX19_wouldChoose_85 : decode cX19_wouldChoose 85 = .ok (.invokevirtual 87, 3) := by decide +kernel
theorem dX19_wouldChoose_88 : decode cX19_wouldChoose 88 = .ok (.invokevirtual 131, 3) := by decide +kernel
theorem dX19_wouldChoose_91 : decode cX19_wouldChoose 91 = .ok (.istore 6, 2) := by decide +kernel
theorem dX19_wouldChoose_93 : decode cX19_wouldChoose 93 = .ok (.aload 5, 2) := by decide +kernel
theorem dX19_wouldChoose_95 : decode cX19_wouldChoose 95 = .ok (.astore 7, 2) := by decide +kernel
theorem dX19_wouldChoose_97 : decode cX19_wouldChoose 97 = .ok (.aload 7, 2) := by decide +kernel
theorem dX19_wouldChoose_99 : decode cX19_wouldChoose 99 = .ok (.arraylength, 1) := by decide +kernel
theorem dX19_wouldChoose_100 : decode cX19_wouldChoose 100 = .ok (.istore 8, 2) := by decide +kernel
theorem dX19_wouldChoose_102 : decode cX19_wouldChoose 102 = .ok (.iconst 0, 1) := by decide +kernel
theorem dX19_wouldChoose_103 : decode cX19_wouldChoose 103 = .ok (.istore 9, 2) := by decide +kernel
theorem dX19_wouldChoose_105 : decode cX19_wouldChoose 105 = .ok (.iload 9, 2) := by decide +kernel
theorem dX19_wouldChoose_107 : decode cX19_wouldChoose 107 = .ok (.iload 8, 2) := by decide +kernel
theorem dX19_wouldChoose_109 : decode cX19_wouldChoose 109 = .ok (.if_icmp .ge 26, 3) := by decide +kernel
theorem dX19_wouldChoose_135 : decode cX19_wouldChoose 135 = .ok (.aload_n 0, 1) := by decide +kernel
theorem dX19_wouldChoose_136 : decode cX19_wouldChoose 136 = .ok (.iload 6, 2) := by decide +kernel
theorem dX19_wouldChoose_138 : decode cX19_wouldChoose 138 = .ok (.ifCond .ne 7, 3) := by decide +kernel
theorem dX19_wouldChoose_145 : decode cX19_wouldChoose 145 = .ok (.iconst 0, 1) := by decide +kernel
theorem dX19_wouldChoose_146 : decode cX19_wouldChoose 146 = .ok (.iconst 2, 1) := by decide +kernel
theorem dX19_wouldChoose_147 : decode cX19_wouldChoose 147 = .ok (.invokevirtual 38, 3) := by decide +kernel
theorem dX19_wouldChoose_150 : decode cX19_wouldChoose 150 = .ok (.ifCond .eq 5, 3) := by decide +kernel
theorem dX19_wouldChoose_155 : decode cX19_wouldChoose 155 = .ok (.new 184, 3) := by decide +kernel
theorem dX19_wouldChoose_158 : decode cX19_wouldChoose 158 = .ok (.dup, 1) := by decide +kernel
theorem dX19_wouldChoose_159 : decode cX19_wouldChoose 159 = .ok (.invokespecial 226, 3) := by decide +kernel
theorem dX19_wouldChoose_162 : decode cX19_wouldChoose 162 = .ok (.astore 7, 2) := by decide +kernel
theorem dX19_wouldChoose_164 : decode cX19_wouldChoose 164 = .ok (.aload_n 0, 1) := by decide +kernel
theorem dX19_wouldChoose_165 : decode cX19_wouldChoose 165 = .ok (.invokevirtual 157, 3) := by decide +kernel
theorem dX19_wouldChoose_168 : decode cX19_wouldChoose 168 = .ok (.aload_n 0, 1) := by decide +kernel
theorem dX19_wouldChoose_169 : decode cX19_wouldChoose 169 = .ok (.iload_n 1, 1) := by decide +kernel
theorem dX19_wouldChoose_170 : decode cX19_wouldChoose 170 = .ok (.invokevirtual 87, 3) := by decide +kernel
theorem dX19_wouldChoose_173 : decode cX19_wouldChoose 173 = .ok (.iload_n 2, 1) := by decide +kernel
theorem dX19_wouldChoose_174 : decode cX19_wouldChoose 174 = .ok (.aload 5, 2) := by decide +kernel
theorem dX19_wouldChoose_176 : decode cX19_wouldChoose 176 = .ok (.aload 7, 2) := by decide +kernel
theorem dX19_wouldChoose_178 : decode cX19_wouldChoose 178 = .ok (.invokevirtual 227, 3) := by decide +kernel
theorem dX19_wouldChoose_181 : decode cX19_wouldChoose 181 = .ok (.aload 7, 2) := by decide +kernel
theorem dX19_wouldChoose_183 : decode cX19_wouldChoose 183 = .ok (.getfield 231, 3) := by decide +kernel
theorem dX19_wouldChoose_186 : decode cX19_wouldChoose 186 = .ok (.ifCond .le 12, 3) := by decide +kernel
theorem dX19_wouldChoose_189 : decode cX19_wouldChoose 189 = .ok (.aload 7, 2) := by decide +kernel
theorem dX19_wouldChoose_191 : decode cX19_wouldChoose 191 = .ok (.getfield 231, 3) := by decide +kernel
theorem dX19_wouldChoose_194 : decode cX19_wouldChoose 194 = .ok (.ineg, 1) := by decide +kernel
theorem dX19_wouldChoose_195 : decode cX19_wouldChoose 195 = .ok (.goto 8, 3) := by decide +kernel
theorem dX19_wouldChoose_203 : decode cX19_wouldChoose 203 = .ok (.ireturn, 1) := by decide +kernel
theorem dX19_wouldChoose_141 : decode cX19_wouldChoose 141 = .ok (.iconst 1, 1) := by decide +kernel
theorem dX19_wouldChoose_142 : decode cX19_wouldChoose 142 = .ok (.goto 4, 3) := by decide +kernel
theorem dX19_wouldChoose_153 : decode cX19_wouldChoose 153 = .ok (.iconst 0, 1) := by decide +kernel
theorem dX19_wouldChoose_154 : decode cX19_wouldChoose 154 = .ok (.ireturn, 1) := by decide +kernel
theorem dX19_wouldChoose_112 : decode cX19_wouldChoose 112 = .ok (.aload 7, 2) := by decide +kernel
theorem dX19_wouldChoose_114 : decode cX19_wouldChoose 114 = .ok (.iload 9, 2) := by decide +kernel
theorem dX19_wouldChoose_116 : decode cX19_wouldChoose 116 = .ok (.aaload, 1) := by decide +kernel
theorem dX19_wouldChoose_117 : decode cX19_wouldChoose 117 = .ok (.astore 10, 2) := by decide +kernel
theorem dX19_wouldChoose_119 : decode cX19_wouldChoose 119 = .ok (.iload 6, 2) := by decide +kernel
theorem dX19_wouldChoose_121 : decode cX19_wouldChoose 121 = .ok (.aload 10, 2) := by decide +kernel
theorem dX19_wouldChoose_123 : decode cX19_wouldChoose 123 = .ok (.invokevirtual 131, 3) := by decide +kernel
theorem dX19_wouldChoose_126 : decode cX19_wouldChoose 126 = .ok (.iand, 1) := by decide +kernel
theorem dX19_wouldChoose_127 : decode cX19_wouldChoose 127 = .ok (.istore 6, 2) := by decide +kernel
theorem dX19_wouldChoose_129 : decode cX19_wouldChoose 129 = .ok (.iinc 9 1, 3) := by decide +kernel
theorem dX19_wouldChoose_132 : decode cX19_wouldChoose 132 = .ok (.goto (-27), 3) := by decide +kernel
def wb_c_M_would : List Cond := [.code yX19_isNoType cX19_isNoType 2 (some .boolean), .fieldLink RX19 16 "HornbookModel" "types" "Ljava/util/ArrayList;", .code yJx4a65c_size_8abf5 cJx4a65c_size_8abf5 1 (some .int), .fieldLink RJx4a65c 48 "java/util/ArrayList" "size" "I", .methodLink RX19 47 yJx4a65c_size_8abf5, .instanceMethod yJx4a65c_size_8abf5, .selects RJx4a65c yJx4a65c_size_8abf5 yJx4a65c_size_8abf5, .initialized RJx4a65c, .code yX19_isIn cX19_isIn 3 (some .boolean), .methodLink RX19 51 yX19_isIn, .static yX19_isIn, .initialized RX19, .methodLink RX19 55 yX19_isNoType, .instanceMethod yX19_isNoType, .selects RX19 yX19_isNoType yX19_isNoType, .code yX19_start cX19_start 3 (some .boolean), .fieldLink RX19 34 "HornbookModel" "thrown" "I", .code yX19_refuse cX19_refuse 3 (some .boolean), .methodLink RX19 38 yX19_refuse, .instanceMethod yX19_refuse, .selects RX19 yX19_refuse yX19_refuse, .methodLink RX19 63 yX19_start, .instanceMethod yX19_start, .selects RX19 yX19_start yX19_start, .code yX19_isNoTypeOrNone cX19_isNoTypeOrNone 2 (some .boolean), .methodLink RX19 105 yX19_isNoTypeOrNone, .instanceMethod yX19_isNoTypeOrNone, .selects RX19 yX19_isNoTypeOrNone yX19_isNoTypeOrNone, .code yX19_trees cX19_trees 4 (some (.array (.object "HornbookModel$Tree"))), .classLink RX19 25 "HornbookModel$Tree", .methodLink RX19 117 yX19_trees, .instanceMethod yX19_trees, .selects RX19 yX19_trees yX19_trees, .code yX19_type cX19_type 2 (some (.object "HornbookModel$Tree")), .code yJx4a65c_get_915e3 cJx4a65c_get_915e3 2 (some (.object "java/lang/Object")), .code yJ15_checkIndex_7cf53 cJ15_checkIndex_7cf53 2 (some .int), .code yJ3_checkIndex_8e157 cJ3_checkIndex_8e157 3 (some .int), .methodLink RJ15 105 yJ3_checkIndex_8e157, .static yJ3_checkIndex_8e157, .initialized RJ3, .methodLink RJx4a65c 118 yJ15_checkIndex_7cf53, .static yJ15_checkIndex_7cf53, .initialized RJ15, .code yJx4a65c_elementData_915e3 cJx4a65c_elementData_915e3 2 (some (.object "java/lang/Object")), .fieldLink RJx4a65c 9 "java/util/ArrayList" "elementData" "[Ljava/lang/Object;", .methodLink RJx4a65c 123 yJx4a65c_elementData_915e3, .instanceMethod yJx4a65c_elementData_915e3, .selects RJx4a65c yJx4a65c_elementData_915e3 yJx4a65c_elementData_915e3, .methodLink RX19 59 yJx4a65c_get_915e3, .instanceMethod yJx4a65c_get_915e3, .selects RJx4a65c yJx4a65c_get_915e3 yJx4a65c_get_915e3, .methodLink RX19 87 yX19_type, .instanceMethod yX19_type, .selects RX19 yX19_type yX19_type, .code yX16_isClosed cX16_isClosed 1 (some .boolean), .code yX16_has cX16_has 6 (some .boolean), .fieldLink RX16 14 "HornbookModel$Tree" "head" "I", .fieldLink RX16 18 "HornbookModel$Tree" "inner" "[LHornbookModel$Tree;", .methodLink RX16 36 yX16_has, .instanceMethod yX16_has, .selects RX16 yX16_has yX16_has, .initialized RX16, .methodLink RX19 131 yX16_isClosed, .instanceMethod yX16_isClosed, .selects RX16 yX16_isClosed yX16_isClosed, .classLink RX19 184 RX18, .instantiable RX18 7, .initialized RX18, .code yX18_init cX18_init 1 none, .methodLink RX18 3 objectInit, .instanceMethod objectInit, .code objectInit ⟨#[0xb1]⟩ 1 none, .fieldLink RX18 9 "HornbookModel$Word" "chosen" "I", .instanceMethod yX18_init, .code yX19_view cX19_view 1 (some (.object "HornbookModel$View")), .classLink RX19 42 RX17, .instantiable RX17 5, .initialized RX17, .code yX17_init cX17_init 6 none, .fieldLink RX17 3 "HornbookModel$View" "this$0" "LHornbookModel;", .methodLink RX17 9 objectInit, .fieldLink RX17 15 "HornbookModel$View" "without" "I", .fieldLink RX17 19 "HornbookModel$View" "sort" "I", .fieldLink RX17 22 "HornbookModel$View" "parameter" "I", .fieldLink RX17 25 "HornbookModel$View" "how" "I", .methodLink RX19 44 yX17_init, .instanceMethod yX17_init, .methodLink RX19 157 yX19_view, .instanceMethod yX19_view, .selects RX19 yX19_view yX19_view, .code yX17_call cX17_call 10 none, .code yX17_road cX17_road 3 (some (.object "java/util/ArrayList")), .classLink RX17 33 RJx4a65c, .instantiable RJx4a65c 3, .code yJx4a65c_init_da8c8 cJx4a65c_init_da8c8 1 none, .code yJxc12de_init_da8c8 cJxc12de_init_da8c8 1 none, .code yJxa1e45_init_da8c8 cJxa1e45_init_da8c8 1 none, .methodLink RJxa1e45 1 objectInit, .initialized RJxa1e45, .methodLink RJxc12de 1 yJxa1e45_init_da8c8, .instanceMethod yJxa1e45_init_da8c8, .fieldLink RJxc12de 7 "java/util/AbstractList" "modCount" "I", .initialized RJxc12de, .methodLink RJx4a65c 1 yJxc12de_init_da8c8, .instanceMethod yJxc12de_init_da8c8, .fieldLink RJx4a65c 39 "java/util/ArrayList" "DEFAULTCAPACITY_EMPTY_ELEMENTDATA" "[Ljava/lang/Object;", .methodLink RX17 67 yJx4a65c_init_da8c8, .instanceMethod yJx4a65c_init_da8c8, .code yX16_isSort cX16_isSort 1 (some .boolean), .methodLink RX17 68 yX16_isSort, .instanceMethod yX16_isSort, .selects RX16 yX16_isSort yX16_isSort, .methodLink RX17 72 yX17_road, .instanceMethod yX17_road, .selects RX17 yX17_road yX17_road, .methodLink RX17 43 yJx4a65c_size_8abf5, .fieldLink RX17 162 "HornbookModel$Word" "taking" "I", .classLink RX17 47 RX16, .instantiable RX16 2, .code yX16_init cX16_init 2 none, .classLink RX16 3 "HornbookModel$Tree", .code yX16_init_ cX16_init_ 3 none, .methodLink RX16 9 objectInit, .methodLink RX16 5 yX16_init_, .instanceMethod yX16_init_, .methodLink RX17 99 yX16_init, .instanceMethod yX16_init, .fieldLink RX17 164 "HornbookModel$Word" "type" "LHornbookModel$Tree;", .fieldLink RX17 153 "HornbookModel$Word" "seen" "I", .fieldLink RX17 170 "HornbookModel$Word" "fault" "I", .methodLink RX19 227 yX17_call, .instanceMethod yX17_call, .selects RX17 yX17_call yX17_call, .fieldLink RX19 231 "HornbookModel$Word" "fault" "I"] ++ u_ws RJx4a65c TJx4a65c 3 ++ u_ws RX16 TX16 2 ++ u_ws RX17 TX17 5 ++ u_ws RX18 TX18 7 ++ u_ws RX19 TX19 5
def w_c_M_would : List Cond := .code yX19_wouldChoose cX19_wouldChoose 11 (some .int) :: wb_c_M_would
set_option maxRecDepth 100000 in
theorem g_c_M_would_0 : GoodIn w_c_M_would (wsV RX19 55 RX19 yX19_isNoType w_c_M_isNoType_lo) := goodIn_app (goodIn_of _ (by decide +kernel)) (goodIn_p (big := w_c_M_would) (.code yX19_isNoType cX19_isNoType 2 (some .boolean) :: wb_c_M_isNoType_lo) [1, 3, 9] rfl (by decide +kernel))
set_option maxRecDepth 100000 in
theorem g_c_M_would_1 : GoodIn w_c_M_would (wsV RX19 63 RX19 yX19_start w_c_M_start_yes) := goodIn_app (goodIn_of _ (by decide +kernel)) (goodIn_p (big := w_c_M_would) (.code yX19_start cX19_start 3 (some .boolean) :: wb_c_M_start_yes) [16, 18] rfl (by decide +kernel))
set_option maxRecDepth 100000 in
theorem g_c_M_would_2 : GoodIn w_c_M_would (wsV RX19 55 RX19 yX19_isNoType w_c_M_isNoType_hi) := goodIn_app (goodIn_of _ (by decide +kernel)) (goodIn_p (big := w_c_M_would) (.code yX19_isNoType cX19_isNoType 2 (some .boolean) :: wb_c_M_isNoType_hi) [1, 3, 9] rfl (by decide +kernel))
set_option maxRecDepth 100000 in
theorem g_c_M_would_3 : GoodIn w_c_M_would (wsV RX19 55 RX19 yX19_isNoType w_c_M_isNoType_ok) := goodIn_app (goodIn_of _ (by decide +kernel)) (goodIn_p (big := w_c_M_would) (.code yX19_isNoType cX19_isNoType 2 (some .boolean) :: wb_c_M_isNoType_ok) [1, 3, 9] rfl (by decide +kernel))
set_option maxRecDepth 100000 in
theorem g_c_M_would_4 : GoodIn w_c_M_would (wsV RX19 105 RX19 yX19_isNoTypeOrNone w_c_M_isNoTypeN_none) := goodIn_app (goodIn_of _ (by decide +kernel)) (goodIn_p (big := w_c_M_would) (.code yX19_isNoTypeOrNone cX19_isNoTypeOrNone 2 (some .boolean) :: wb_c_M_isNoTypeN_none) [25] rfl (by decide +kernel))
set_option maxRecDepth 100000 in
theorem g_c_M_would_5 : GoodIn w_c_M_would (wsV RX19 63 RX19 yX19_start w_c_M_start_no) := goodIn_app (goodIn_of _ (by decide +kernel)) (goodIn_p (big := w_c_M_would) (.code yX19_start cX19_start 3 (some .boolean) :: wb_c_M_start_no) [16, 18] rfl (by decide +kernel))
set_option maxRecDepth 100000 in
theorem g_c_M_would_6 : GoodIn w_c_M_would (va_wsS RX19 51 yX19_isIn w_c_M_isIn_lo) := goodIn_app (goodIn_of _ (by decide +kernel)) (goodIn_p (big := w_c_M_would) (.code yX19_isIn cX19_isIn 3 (some .boolean) :: wb_c_M_isIn_lo) [9] rfl (by decide +kernel))
set_option maxRecDepth 100000 in
theorem g_c_M_would_7 : GoodIn w_c_M_would (wsV RX19 38 RX19 yX19_refuse w_c_M_refuse_yes) := goodIn_app (goodIn_of _ (by decide +kernel)) (goodIn_p (big := w_c_M_would) (.code yX19_refuse cX19_refuse 3 (some .boolean) :: wb_c_M_refuse_yes) [18] rfl (by decide +kernel))
set_option maxRecDepth 100000 in
theorem g_c_M_would_8 : GoodIn w_c_M_would (va_wsS RX19 51 yX19_isIn w_c_M_isIn_hi) := goodIn_app (goodIn_of _ (by decide +kernel)) (goodIn_p (big := w_c_M_would) (.code yX19_isIn cX19_isIn 3 (some .boolean) :: wb_c_M_isIn_hi) [9] rfl (by decide +kernel))
set_option maxRecDepth 100000 in
theorem g_c_M_would_9 : GoodIn w_c_M_would (va_wsS RX19 51 yX19_isIn w_c_M_isIn_ok) := goodIn_app (goodIn_of _ (by decide +kernel)) (goodIn_p (big := w_c_M_would) (.code yX19_isIn cX19_isIn 3 (some .boolean) :: wb_c_M_isIn_ok) [9] rfl (by decide +kernel))
set_option maxRecDepth 100000 in
theorem g_c_M_would_10 : GoodIn w_c_M_would (wsV RX19 38 RX19 yX19_refuse w_c_M_refuse_no) := goodIn_app (goodIn_of _ (by decide +kernel)) (goodIn_p (big := w_c_M_would) (.code yX19_refuse cX19_refuse 3 (some .boolean) :: wb_c_M_refuse_no) [18] rfl (by decide +kernel))
set_option maxRecDepth 100000 in
theorem g_c_M_would_11 : GoodIn w_c_M_would (wsV RX19 117 RX19 yX19_trees w_c_M_trees_n) := goodIn_app (goodIn_of _ (by decide +kernel)) (goodIn_p (big := w_c_M_would) (.code yX19_trees cX19_trees 4 (some (.array (.object "HornbookModel$Tree"))) :: wb_c_M_trees_n) [29] rfl (by decide +kernel))
set_option maxRecDepth 100000 in
theorem g_c_M_would_12 : GoodIn w_c_M_would (wsV RX19 87 RX19 yX19_type w_c_M_type_0) := goodIn_app (goodIn_of _ (by decide +kernel)) (goodIn_p (big := w_c_M_would) (.code yX19_type cX19_type 2 (some (.object "HornbookModel$Tree")) :: wb_c_M_type_0) [34, 35, 36, 37, 44] rfl (by decide +kernel))
set_option maxRecDepth 100000 in
theorem g_c_M_would_13 : GoodIn w_c_M_would (wsV RX19 131 RX16 yX16_isClosed w_c_T_isClosed_1) := goodIn_app (goodIn_of _ (by decide +kernel)) (goodIn_p (big := w_c_M_would) (.code yX16_isClosed cX16_isClosed 1 (some .boolean) :: wb_c_T_isClosed_1) [55, 56] rfl (by decide +kernel))
set_option maxRecDepth 100000 in
theorem g_c_M_would_14 : GoodIn w_c_M_would (w_c_W_init) := goodIn_p (big := w_c_M_would) (.code yX18_init cX18_init 1 none :: wb_c_W_init) [69, 72] rfl (by decide +kernel)
set_option maxRecDepth 100000 in
theorem g_c_M_would_15 : GoodIn w_c_M_would (wsV RX19 157 RX19 yX19_view w_c_M_view) := goodIn_app (goodIn_of _ (by decide +kernel)) (goodIn_p (big := w_c_M_would) (.code yX19_view cX19_view 1 (some (.object "HornbookModel$View")) :: wb_c_M_view) [75, 79, 72] rfl (by decide +kernel))
set_option maxRecDepth 100000 in
theorem g_c_M_would_16 : GoodIn w_c_M_would (wsV RX19 227 RX17 yX17_call w_c_V_call) := goodIn_app (goodIn_of _ (by decide +kernel)) (goodIn_p (big := w_c_M_would) (.code yX17_call cX17_call 10 none :: wb_c_V_call) [91, 92, 95, 96, 97, 72, 109, 3, 120, 122] rfl (by decide +kernel))
set_option maxRecDepth 100000 in
theorem g_c_M_would_17 : GoodIn w_c_M_would (wsV RX19 87 RX19 yX19_type w_c_M_type_1) := goodIn_app (goodIn_of _ (by decide +kernel)) (goodIn_p (big := w_c_M_would) (.code yX19_type cX19_type 2 (some (.object "HornbookModel$Tree")) :: wb_c_M_type_1) [34, 35, 36, 37, 44] rfl (by decide +kernel))
set_option maxRecDepth 100000 in
theorem g_c_M_would_18 : GoodIn w_c_M_would (wsV RX19 131 RX16 yX16_isClosed w_c_T_isClosed_2) := goodIn_app (goodIn_of _ (by decide +kernel)) (goodIn_p (big := w_c_M_would) (.code yX16_isClosed cX16_isClosed 1 (some .boolean) :: wb_c_T_isClosed_2) [55, 56] rfl (by decide +kernel))
set_option maxRecDepth 100000 in
theorem g_c_M_would_19 : GoodIn w_c_M_would (wsV RX19 87 RX19 yX19_type w_c_M_type_2) := goodIn_app (goodIn_of _ (by decide +kernel)) (goodIn_p (big := w_c_M_would) (.code yX19_type cX19_type 2 (some (.object "HornbookModel$Tree")) :: wb_c_M_type_2) [34, 35, 36, 37, 44] rfl (by decide +kernel))
set_option maxRecDepth 100000 in
theorem g_c_M_would_20 : GoodIn w_c_M_would (wsV RX19 131 RX16 yX16_isClosed w_c_T_isClosed_3) := goodIn_app (goodIn_of _ (by decide +kernel)) (goodIn_p (big := w_c_M_would) (.code yX16_isClosed cX16_isClosed 1 (some .boolean) :: wb_c_T_isClosed_3) [55, 56] rfl (by decide +kernel))
set_option maxRecDepth 100000 in
theorem g_c_M_would_21 : GoodIn w_c_M_would (wsV RX19 105 RX19 yX19_isNoTypeOrNone w_c_M_isNoTypeN_lo) := goodIn_app (goodIn_of _ (by decide +kernel)) (goodIn_p (big := w_c_M_would) (.code yX19_isNoTypeOrNone cX19_isNoTypeOrNone 2 (some .boolean) :: wb_c_M_isNoTypeN_lo) [25, 1, 3, 9] rfl (by decide +kernel))
set_option maxRecDepth 100000 in
theorem g_c_M_would_22 : GoodIn w_c_M_would (wsV RX19 105 RX19 yX19_isNoTypeOrNone w_c_M_isNoTypeN_hi) := goodIn_app (goodIn_of _ (by decide +kernel)) (goodIn_p (big := w_c_M_would) (.code yX19_isNoTypeOrNone cX19_isNoTypeOrNone 2 (some .boolean) :: wb_c_M_isNoTypeN_hi) [25, 1, 3, 9] rfl (by decide +kernel))
set_option maxRecDepth 100000 in
theorem g_c_M_would_23 : GoodIn w_c_M_would (wsV RX19 105 RX19 yX19_isNoTypeOrNone w_c_M_isNoTypeN_ok) := goodIn_app (goodIn_of _ (by decide +kernel)) (goodIn_p (big := w_c_M_would) (.code yX19_isNoTypeOrNone cX19_isNoTypeOrNone 2 (some .boolean) :: wb_c_M_isNoTypeN_ok) [25, 1, 3, 9] rfl (by decide +kernel))
set_option maxRecDepth 100000 in
theorem g_c_M_would_24 : GoodIn w_c_M_would (wsV RX19 117 RX19 yX19_trees w_c_M_trees_0) := goodIn_app (goodIn_of _ (by decide +kernel)) (goodIn_p (big := w_c_M_would) (.code yX19_trees cX19_trees 4 (some (.array (.object "HornbookModel$Tree"))) :: wb_c_M_trees_0) [29, 34, 35, 36, 37, 44] rfl (by decide +kernel))
set_option maxRecDepth 100000 in
theorem g_c_M_would_25 : GoodIn w_c_M_would (wsV RX19 117 RX19 yX19_trees w_c_M_trees_1) := goodIn_app (goodIn_of _ (by decide +kernel)) (goodIn_p (big := w_c_M_would) (.code yX19_trees cX19_trees 4 (some (.array (.object "HornbookModel$Tree"))) :: wb_c_M_trees_1) [29, 34, 35, 36, 37, 44] rfl (by decide +kernel))
set_option maxRecDepth 100000 in
theorem g_c_M_would_26 : GoodIn w_c_M_would (wsV RX19 117 RX19 yX19_trees w_c_M_trees_2) := goodIn_app (goodIn_of _ (by decide +kernel)) (goodIn_p (big := w_c_M_would) (.code yX19_trees cX19_trees 4 (some (.array (.object "HornbookModel$Tree"))) :: wb_c_M_trees_2) [29, 34, 35, 36, 37, 44] rfl (by decide +kernel))
set_option maxRecDepth 100000 in
theorem g_c_M_would_27 : GoodIn w_c_M_would (wsV RX19 117 RX19 yX19_trees w_c_M_trees_00) := goodIn_app (goodIn_of _ (by decide +kernel)) (goodIn_p (big := w_c_M_would) (.code yX19_trees cX19_trees 4 (some (.array (.object "HornbookModel$Tree"))) :: wb_c_M_trees_00) [29, 34, 35, 36, 37, 44] rfl (by decide +kernel))
set_option maxRecDepth 100000 in
theorem g_c_M_would_28 : GoodIn w_c_M_would (wsV RX19 117 RX19 yX19_trees w_c_M_trees_01) := goodIn_app (goodIn_of _ (by decide +kernel)) (goodIn_p (big := w_c_M_would) (.code yX19_trees cX19_trees 4 (some (.array (.object "HornbookModel$Tree"))) :: wb_c_M_trees_01) [29, 34, 35, 36, 37, 44] rfl (by decide +kernel))
set_option maxRecDepth 100000 in
theorem g_c_M_would_29 : GoodIn w_c_M_would (wsV RX19 117 RX19 yX19_trees w_c_M_trees_02) := goodIn_app (goodIn_of _ (by decide +kernel)) (goodIn_p (big := w_c_M_would) (.code yX19_trees cX19_trees 4 (some (.array (.object "HornbookModel$Tree"))) :: wb_c_M_trees_02) [29, 34, 35, 36, 37, 44] rfl (by decide +kernel))
set_option maxRecDepth 100000 in
theorem g_c_M_would_30 : GoodIn w_c_M_would (wsV RX19 117 RX19 yX19_trees w_c_M_trees_10) := goodIn_app (goodIn_of _ (by decide +kernel)) (goodIn_p (big := w_c_M_would) (.code yX19_trees cX19_trees 4 (some (.array (.object "HornbookModel$Tree"))) :: wb_c_M_trees_10) [29, 34, 35, 36, 37, 44] rfl (by decide +kernel))
set_option maxRecDepth 100000 in
theorem g_c_M_would_31 : GoodIn w_c_M_would (wsV RX19 117 RX19 yX19_trees w_c_M_trees_11) := goodIn_app (goodIn_of _ (by decide +kernel)) (goodIn_p (big := w_c_M_would) (.code yX19_trees cX19_trees 4 (some (.array (.object "HornbookModel$Tree"))) :: wb_c_M_trees_11) [29, 34, 35, 36, 37, 44] rfl (by decide +kernel))
set_option maxRecDepth 100000 in
theorem g_c_M_would_32 : GoodIn w_c_M_would (wsV RX19 117 RX19 yX19_trees w_c_M_trees_12) := goodIn_app (goodIn_of _ (by decide +kernel)) (goodIn_p (big := w_c_M_would) (.code yX19_trees cX19_trees 4 (some (.array (.object "HornbookModel$Tree"))) :: wb_c_M_trees_12) [29, 34, 35, 36, 37, 44] rfl (by decide +kernel))
set_option maxRecDepth 100000 in
theorem g_c_M_would_33 : GoodIn w_c_M_would (wsV RX19 117 RX19 yX19_trees w_c_M_trees_20) := goodIn_app (goodIn_of _ (by decide +kernel)) (goodIn_p (big := w_c_M_would) (.code yX19_trees cX19_trees 4 (some (.array (.object "HornbookModel$Tree"))) :: wb_c_M_trees_20) [29, 34, 35, 36, 37, 44] rfl (by decide +kernel))
set_option maxRecDepth 100000 in
theorem g_c_M_would_34 : GoodIn w_c_M_would (wsV RX19 117 RX19 yX19_trees w_c_M_trees_21) := goodIn_app (goodIn_of _ (by decide +kernel)) (goodIn_p (big := w_c_M_would) (.code yX19_trees cX19_trees 4 (some (.array (.object "HornbookModel$Tree"))) :: wb_c_M_trees_21) [29, 34, 35, 36, 37, 44] rfl (by decide +kernel))
set_option maxRecDepth 100000 in
theorem g_c_M_would_35 : GoodIn w_c_M_would (wsV RX19 117 RX19 yX19_trees w_c_M_trees_22) := goodIn_app (goodIn_of _ (by decide +kernel)) (goodIn_p (big := w_c_M_would) (.code yX19_trees cX19_trees 4 (some (.array (.object "HornbookModel$Tree"))) :: wb_c_M_trees_22) [29, 34, 35, 36, 37, 44] rfl (by decide +kernel))

set_option maxHeartbeats 4000000 in
set_option maxRecDepth 100000 in
theorem c_M_would_Al (l : Launch) (eD eI : Nat) (ad : Nat → Nat) (dC : Nat → ClassId) (dI : Nat → Nat → Nat) (sz : Nat) (mm : Nat) (ms : Nat) (mt : Nat) (mh : Nat) (me : Nat) (mo : Int32) (ma : Nat) (kO : ClassId) (kT : ClassId) (t0 : Nat) (t1 : Nat) (t2 : Nat) (i0 : Nat) (i1 : Nat) (i2 : Nat) (th : Int32) (x1 : Int32) (x2 : Int32) (x3 : Int32) (x4 : Int32) (hx11 : x1 < 0) : Met l yX19_wouldChoose w_c_M_would ({ frames := 6, cells := 7, slots := 22, locals := 123 }) (va_Pc [.ref mm, .int x1, .int x2, .int x3, .int x4] (zPre eD eI ad (dC, dI) [(mm, .inr (21, [.int th, .ref ms, .ref mt, .ref mh, .ref me])), (ms, .inr (1, [.int 0, .ref eD, .int 0])), (mt, .inr (1, [.int mo, .ref ma, .int 3])), (mh, .inr (1, [.int 0, .ref eD, .int 0])), (me, .inr (1, [.int 0, .ref eD, .int 0])), (ma, .inl (kO, 10, .inr (.inr (.inr (.inr (zfT t0 t1 t2)))))), (t0, .inr (18, [.int (-1), .ref i0])), (t1, .inr (18, [.int (-2), .ref i1])), (t2, .inr (18, [.int (-3), .ref i2])), (i0, .inl (kT, 0, .inr (.inr (.inr (.inr (fun _ => none)))))), (i1, .inl (kT, 0, .inr (.inr (.inr (.inr (fun _ => none)))))), (i2, .inl (kT, 0, .inr (.inr (.inr (.inr (fun _ => none))))))] [(kO, .object "java/lang/Object"), (kT, .object "HornbookModel$Tree")] sz)) (va_Qi (fun (r : Int32) (u : Int32 × Int32) => match u with | (th2, v2) => r = v2 ∧ th2 = (if x1 < 0 ∨ 2 < x1 then 1 else if ¬ x3 = (-1) ∧ (x3 < 0 ∨ 2 < x3) then 1 else if ¬ x4 = (-1) ∧ (x4 < 0 ∨ 2 < x4) then 1 else if x2 < 0 ∨ 9 < x2 then 2 else if x3 = (-1) ∧ ¬ x4 = (-1) then 2 else if x1 = 2 ∨ x3 = 2 ∨ x4 = 2 then 2 else 0) ∧ (th2 = 0 → v2 = (-1))) (fun (u : Int32 × Int32) => match u with | (th2, v2) => zEnd (dC, dI) (va_A [(mm, .inr (21, [.int th, .ref ms, .ref mt, .ref mh, .ref me])), (ms, .inr (1, [.int 0, .ref eD, .int 0])), (mt, .inr (1, [.int mo, .ref ma, .int 3])), (mh, .inr (1, [.int 0, .ref eD, .int 0])), (me, .inr (1, [.int 0, .ref eD, .int 0])), (ma, .inl (kO, 10, .inr (.inr (.inr (.inr (zfT t0 t1 t2)))))), (t0, .inr (18, [.int (-1), .ref i0])), (t1, .inr (18, [.int (-2), .ref i1])), (t2, .inr (18, [.int (-3), .ref i2])), (i0, .inl (kT, 0, .inr (.inr (.inr (.inr (fun _ => none)))))), (i1, .inl (kT, 0, .inr (.inr (.inr (.inr (fun _ => none)))))), (i2, .inl (kT, 0, .inr (.inr (.inr (.inr (fun _ => none))))))] sz) [(mm, .inr (21, [.int th2, .ref ms, .ref mt, .ref mh, .ref me]))] []) (va_A [(mm, .inr (21, [.int th, .ref ms, .ref mt, .ref mh, .ref me])), (ms, .inr (1, [.int 0, .ref eD, .int 0])), (mt, .inr (1, [.int mo, .ref ma, .int 3])), (mh, .inr (1, [.int 0, .ref eD, .int 0])), (me, .inr (1, [.int 0, .ref eD, .int 0])), (ma, .inl (kO, 10, .inr (.inr (.inr (.inr (zfT t0 t1 t2)))))), (t0, .inr (18, [.int (-1), .ref i0])), (t1, .inr (18, [.int (-2), .ref i1])), (t2, .inr (18, [.int (-3), .ref i2])), (i0, .inl (kT, 0, .inr (.inr (.inr (.inr (fun _ => none)))))), (i1, .inl (kT, 0, .inr (.inr (.inr (.inr (fun _ => none)))))), (i2, .inl (kT, 0, .inr (.inr (.inr (.inr (fun _ => none))))))] sz)) 7 22 (va_A [(mm, .inr (21, [.int th, .ref ms, .ref mt, .ref mh, .ref me])), (ms, .inr (1, [.int 0, .ref eD, .int 0])), (mt, .inr (1, [.int mo, .ref ma, .int 3])), (mh, .inr (1, [.int 0, .ref eD, .int 0])), (me, .inr (1, [.int 0, .ref eD, .int 0])), (ma, .inl (kO, 10, .inr (.inr (.inr (.inr (zfT t0 t1 t2)))))), (t0, .inr (18, [.int (-1), .ref i0])), (t1, .inr (18, [.int (-2), .ref i1])), (t2, .inr (18, [.int (-3), .ref i2])), (i0, .inl (kT, 0, .inr (.inr (.inr (.inr (fun _ => none)))))), (i1, .inl (kT, 0, .inr (.inr (.inr (.inr (fun _ => none)))))), (i2, .inl (kT, 0, .inr (.inr (.inr (.inr (fun _ => none))))))] sz) := by
  refine Met.ofW (cc := cX19_wouldChoose) (maxL := 11) (ret := (some .int)) (by decide) rfl ?_
  intro p e s m args below meth c s₁ B hml hv
  obtain ⟨rfl, hsz, hP, hK, hD0, hE⟩ := hv
  have hx := B.exec
  have hb := B.bytes
  have hr := B.returns
  have hts := atoms_spec (ws := w_c_M_would) B.pre
  have hown : s.vm.findClass RX19 = some m.cls := findClass_of_methodNamed B.named
  have hlocks := B.notSynchronized
  subst hsz
  have hD := hD0.self (sz := s.heap.size)
  generalize hAe : va_A [(mm, .inr (21, [.int th, .ref ms, .ref mt, .ref mh, .ref me])), (ms, .inr (1, [.int 0, .ref eD, .int 0])), (mt, .inr (1, [.int mo, .ref ma, .int 3])), (mh, .inr (1, [.int 0, .ref eD, .int 0])), (me, .inr (1, [.int 0, .ref eD, .int 0])), (ma, .inl (kO, 10, .inr (.inr (.inr (.inr (zfT t0 t1 t2)))))), (t0, .inr (18, [.int (-1), .ref i0])), (t1, .inr (18, [.int (-2), .ref i1])), (t2, .inr (18, [.int (-3), .ref i2])), (i0, .inl (kT, 0, .inr (.inr (.inr (.inr (fun _ => none)))))), (i1, .inl (kT, 0, .inr (.inr (.inr (.inr (fun _ => none)))))), (i2, .inl (kT, 0, .inr (.inr (.inr (.inr (fun _ => none))))))] s.heap.size = A at hD hE ⊢
  have hA : ∀ q : Nat, s.heap.size ≤ q → A q := fun q h => by rw [← hAe]; exact Or.inr h
  have hS : va_S A s.heap s.heap [] := va_S.rf
  have hP : va_P (dC, dI) vwCl [(mm, .inr (21, [.int th, .ref ms, .ref mt, .ref mh, .ref me])), (ms, .inr (1, [.int 0, .ref eD, .int 0])), (mt, .inr (1, [.int mo, .ref ma, .int 3])), (mh, .inr (1, [.int 0, .ref eD, .int 0])), (me, .inr (1, [.int 0, .ref eD, .int 0])), (ma, .inl (kO, 10, .inr (.inr (.inr (.inr (zfT t0 t1 t2)))))), (t0, .inr (18, [.int (-1), .ref i0])), (t1, .inr (18, [.int (-2), .ref i1])), (t2, .inr (18, [.int (-3), .ref i2])), (i0, .inl (kT, 0, .inr (.inr (.inr (.inr (fun _ => none)))))), (i1, .inl (kT, 0, .inr (.inr (.inr (.inr (fun _ => none)))))), (i2, .inl (kT, 0, .inr (.inr (.inr (.inr (fun _ => none))))))] s.heap := hP
  have hl := lv_entry ([.ref mm, .int x1, .int x2, .int x3, .int x4]) (n := 11) (Nat.le_of_ble_eq_true rfl)
  rw [lg_entry_eq]
  generalize (lg_sl ([.ref mm, .int x1, .int x2, .int x3, .int x4]) ++ List.replicate (11 - (lg_sl ([.ref mm, .int x1, .int x2, .int x3, .int x4])).length) Slot.unset).toArray = ls at hl ⊢
  have hl : lv_has ls 11 [(0, .ref mm), (1, .int x1), (2, .int x2), (3, .int x3), (4, .int x4)] := hl
  have in_RJx4a65c : ∀ w ∈ u_ws RJx4a65c TJx4a65c 3, w ∈ w_c_M_would := by decide +kernel
  have in_RX19 : ∀ w ∈ u_ws RX19 TX19 5, w ∈ w_c_M_would := by decide +kernel
  have hP := hP.sub (ws' := [(mm, .inr (21, [.int th, .ref ms, .ref mt, .ref mh, .ref me])), (mt, .inr (1, [.int mo, .ref ma, .int 3]))]) [0, 2] rfl
  have hD := hD.sub (ws' := [(mm, .inr (21, [.int th, .ref ms, .ref mt, .ref mh, .ref me])), (mt, .inr (1, [.int mo, .ref ma, .int 3]))]) [0, 2] (by decide) rfl
  refine lv_aload_n hx hb dX19_wouldChoose_0 rfl (lv_at hl 0 rfl) ?_
  refine lv_aload_n hx hb dX19_wouldChoose_1 rfl (lv_at hl 0 rfl) ?_
  refine lv_iload_n hx hb dX19_wouldChoose_2 rfl (lv_at hl 1 rfl) ?_
  refine z_i (wr := []) (va_runV (As := [.int x1]) (rest := [.ref mm]) ⟨hx, hb, hml, hown, hts⟩ (c_M_isNoType_lo l eD eI ad dC dI s.heap.size mm ms mt mh me th ((.int mo)) ((.ref ma)) x1 (hx11)) (cwV 1 hts g_c_M_would_0 rfl rfl rfl (by decide +kernel) ⟨Nat.le_of_ble_eq_true rfl, Nat.le_of_ble_eq_true rfl⟩) (z_preV (wc := [(mm, .inr (21, [.int th, .ref ms, .ref mt, .ref mh, .ref me])), (mt, .inr (1, [.int mo, .ref ma, .int 3]))]) hP hD hK hS hA hE [0, 1] [] rfl (by decide) rfl (ci := 21) (q0 := 0) rfl rfl) rfl rfl hl.1 rfl (lv_room (Nat.le_of_ble_eq_true rfl)) dX19_wouldChoose_3 ⟨Nat.le_of_ble_eq_true rfl, Nat.le_of_ble_eq_true rfl⟩) hP hD hK hS hA [0, 1] [] rfl rfl (by decide) (by decide) (fun r_1 u H locs hw_2 hP hD hK hS => ?_)
  obtain ⟨⟩ := u
  have hP : va_P (dC, dI) vwCl [(mm, .inr (21, [.int th, .ref ms, .ref mt, .ref mh, .ref me])), (mt, .inr (1, [.int mo, .ref ma, .int 3]))] H := hP
  have hD : va_D A [(mm, .inr (21, [.int th, .ref ms, .ref mt, .ref mh, .ref me])), (mt, .inr (1, [.int mo, .ref ma, .int 3]))] := hD
  have hK : va_K (dC, dI) vwCl [(kO, .object "java/lang/Object"), (kT, .object "HornbookModel$Tree")] s := by simpa using hK
  have hw_2 : r_1 = 1 := hw_2
  have hw_2 := hw_2.symm
  subst hw_2
  refine lv_if_ne (tgt := 26) hx hb dX19_wouldChoose_6 (by decide) (fun c_3 => ?_) (fun c_3 => ?_)
  rotate_left
  · exact absurd c_3 (by decide)
  refine lv_iconst (v := 1) hx hb dX19_wouldChoose_26 (by decide) ?_
  refine lv_goto (tgt := 31) hx hb dX19_wouldChoose_27 (by decide) ?_
  refine lv_iconst (v := 1) hx hb dX19_wouldChoose_31 (by decide) ?_
  refine z_i (wr := [(mt, .inr (1, [.int mo, .ref ma, .int 3]))]) (va_runV (As := [.int 1, .int 1]) (rest := []) ⟨hx, hb, hml, hown, hts⟩ (c_M_start_yes l eD eI ad dC dI H.size mm ((.ref ms)) ((.ref mt)) ((.ref mh)) ((.ref me)) 1 th (by decide)) (cwV 2 hts g_c_M_would_1 rfl rfl rfl (by decide +kernel) ⟨Nat.le_of_ble_eq_true rfl, Nat.le_of_ble_eq_true rfl⟩) (z_preV (wc := [(mm, .inr (21, [.int th, .ref ms, .ref mt, .ref mh, .ref me]))]) hP hD hK hS hA hE [0] [] rfl (by decide) rfl (ci := 21) (q0 := 0) rfl rfl) rfl rfl hl.1 rfl (lv_room (Nat.le_of_ble_eq_true rfl)) dX19_wouldChoose_32 ⟨Nat.le_of_ble_eq_true rfl, Nat.le_of_ble_eq_true rfl⟩) hP hD hK hS hA [0] [1] rfl rfl (by decide) (by decide) (fun r_4 u H locs hw_5 hP hD hK hS => ?_)
  obtain ⟨⟩ := u
  have hP : va_P (dC, dI) vwCl [(mt, .inr (1, [.int mo, .ref ma, .int 3])), (mm, .inr (21, [.int 1, .ref ms, .ref mt, .ref mh, .ref me]))] H := hP
  have hD : va_D A [(mt, .inr (1, [.int mo, .ref ma, .int 3])), (mm, .inr (21, [.int 1, .ref ms, .ref mt, .ref mh, .ref me]))] := hD
  have hK : va_K (dC, dI) vwCl [(kO, .object "java/lang/Object"), (kT, .object "HornbookModel$Tree")] s := by simpa using hK
  have hw_5 : r_4 = 1 := hw_5
  have hw_5 := hw_5.symm
  subst hw_5
  refine lv_if_ne (tgt := 72) hx hb dX19_wouldChoose_35 (by decide) (fun c_6 => ?_) (fun c_6 => ?_)
  rotate_left
  · exact absurd c_6 (by decide)
  refine lv_iconst (v := 0) hx hb dX19_wouldChoose_72 (by decide) ?_
  have hP9 := hP.sub (ws' := [(mm, .inr (21, [.int 1, .ref ms, .ref mt, .ref mh, .ref me]))]) [1] rfl
  have hD9 := hD.sub (ws' := [(mm, .inr (21, [.int 1, .ref ms, .ref mt, .ref mh, .ref me]))]) [1] (by decide) rfl
  have hK9 := hK.sub (tys' := []) [] rfl
  refine W.widen (k := 7) (n := 22) (Nat.le_of_ble_eq_true rfl) (Nat.le_of_ble_eq_true rfl) ?_
  exact W.iret (v := 0) hx hb hr (fun t ht hW => ⟨⟨0, (1, 0), rfl, ⟨rfl, by first | decide | simp [hx11], by first | exact fun h => absurd h (by decide) | exact fun _ => rfl | rfl | decide | simp⟩, ⟨by rw [ht]; exact hP9, va_K.moved hW.alike hK9, hD9⟩⟩, hS.F ht⟩) hS.2.2 dX19_wouldChoose_73

set_option maxHeartbeats 4000000 in
set_option maxRecDepth 100000 in
theorem c_M_would_Ah (l : Launch) (eD eI : Nat) (ad : Nat → Nat) (dC : Nat → ClassId) (dI : Nat → Nat → Nat) (sz : Nat) (mm : Nat) (ms : Nat) (mt : Nat) (mh : Nat) (me : Nat) (mo : Int32) (ma : Nat) (kO : ClassId) (kT : ClassId) (t0 : Nat) (t1 : Nat) (t2 : Nat) (i0 : Nat) (i1 : Nat) (i2 : Nat) (th : Int32) (x1 : Int32) (x2 : Int32) (x3 : Int32) (x4 : Int32) (hx10 : ¬ x1 < 0) (hx11 : 2 < x1) : Met l yX19_wouldChoose w_c_M_would ({ frames := 6, cells := 7, slots := 22, locals := 123 }) (va_Pc [.ref mm, .int x1, .int x2, .int x3, .int x4] (zPre eD eI ad (dC, dI) [(mm, .inr (21, [.int th, .ref ms, .ref mt, .ref mh, .ref me])), (ms, .inr (1, [.int 0, .ref eD, .int 0])), (mt, .inr (1, [.int mo, .ref ma, .int 3])), (mh, .inr (1, [.int 0, .ref eD, .int 0])), (me, .inr (1, [.int 0, .ref eD, .int 0])), (ma, .inl (kO, 10, .inr (.inr (.inr (.inr (zfT t0 t1 t2)))))), (t0, .inr (18, [.int (-1), .ref i0])), (t1, .inr (18, [.int (-2), .ref i1])), (t2, .inr (18, [.int (-3), .ref i2])), (i0, .inl (kT, 0, .inr (.inr (.inr (.inr (fun _ => none)))))), (i1, .inl (kT, 0, .inr (.inr (.inr (.inr (fun _ => none)))))), (i2, .inl (kT, 0, .inr (.inr (.inr (.inr (fun _ => none))))))] [(kO, .object "java/lang/Object"), (kT, .object "HornbookModel$Tree")] sz)) (va_Qi (fun (r : Int32) (u : Int32 × Int32) => match u with | (th2, v2) => r = v2 ∧ th2 = (if x1 < 0 ∨ 2 < x1 then 1 else if ¬ x3 = (-1) ∧ (x3 < 0 ∨ 2 < x3) then 1 else if ¬ x4 = (-1) ∧ (x4 < 0 ∨ 2 < x4) then 1 else if x2 < 0 ∨ 9 < x2 then 2 else if x3 = (-1) ∧ ¬ x4 = (-1) then 2 else if x1 = 2 ∨ x3 = 2 ∨ x4 = 2 then 2 else 0) ∧ (th2 = 0 → v2 = (-1))) (fun (u : Int32 × Int32) => match u with | (th2, v2) => zEnd (dC, dI) (va_A [(mm, .inr (21, [.int th, .ref ms, .ref mt, .ref mh, .ref me])), (ms, .inr (1, [.int 0, .ref eD, .int 0])), (mt, .inr (1, [.int mo, .ref ma, .int 3])), (mh, .inr (1, [.int 0, .ref eD, .int 0])), (me, .inr (1, [.int 0, .ref eD, .int 0])), (ma, .inl (kO, 10, .inr (.inr (.inr (.inr (zfT t0 t1 t2)))))), (t0, .inr (18, [.int (-1), .ref i0])), (t1, .inr (18, [.int (-2), .ref i1])), (t2, .inr (18, [.int (-3), .ref i2])), (i0, .inl (kT, 0, .inr (.inr (.inr (.inr (fun _ => none)))))), (i1, .inl (kT, 0, .inr (.inr (.inr (.inr (fun _ => none)))))), (i2, .inl (kT, 0, .inr (.inr (.inr (.inr (fun _ => none))))))] sz) [(mm, .inr (21, [.int th2, .ref ms, .ref mt, .ref mh, .ref me]))] []) (va_A [(mm, .inr (21, [.int th, .ref ms, .ref mt, .ref mh, .ref me])), (ms, .inr (1, [.int 0, .ref eD, .int 0])), (mt, .inr (1, [.int mo, .ref ma, .int 3])), (mh, .inr (1, [.int 0, .ref eD, .int 0])), (me, .inr (1, [.int 0, .ref eD, .int 0])), (ma, .inl (kO, 10, .inr (.inr (.inr (.inr (zfT t0 t1 t2)))))), (t0, .inr (18, [.int (-1), .ref i0])), (t1, .inr (18, [.int (-2), .ref i1])), (t2, .inr (18, [.int (-3), .ref i2])), (i0, .inl (kT, 0, .inr (.inr (.inr (.inr (fun _ => none)))))), (i1, .inl (kT, 0, .inr (.inr (.inr (.inr (fun _ => none)))))), (i2, .inl (kT, 0, .inr (.inr (.inr (.inr (fun _ => none))))))] sz)) 7 22 (va_A [(mm, .inr (21, [.int th, .ref ms, .ref mt, .ref mh, .ref me])), (ms, .inr (1, [.int 0, .ref eD, .int 0])), (mt, .inr (1, [.int mo, .ref ma, .int 3])), (mh, .inr (1, [.int 0, .ref eD, .int 0])), (me, .inr (1, [.int 0, .ref eD, .int 0])), (ma, .inl (kO, 10, .inr (.inr (.inr (.inr (zfT t0 t1 t2)))))), (t0, .inr (18, [.int (-1), .ref i0])), (t1, .inr (18, [.int (-2), .ref i1])), (t2, .inr (18, [.int (-3), .ref i2])), (i0, .inl (kT, 0, .inr (.inr (.inr (.inr (fun _ => none)))))), (i1, .inl (kT, 0, .inr (.inr (.inr (.inr (fun _ => none)))))), (i2, .inl (kT, 0, .inr (.inr (.inr (.inr (fun _ => none))))))] sz) := by
  refine Met.ofW (cc := cX19_wouldChoose) (maxL := 11) (ret := (some .int)) (by decide) rfl ?_
  intro p e s m args below meth c s₁ B hml hv
  obtain ⟨rfl, hsz, hP, hK, hD0, hE⟩ := hv
  have hx := B.exec
  have hb := B.bytes
  have hr := B.returns
  have hts := atoms_spec (ws := w_c_M_would) B.pre
  have hown : s.vm.findClass RX19 = some m.cls := findClass_of_methodNamed B.named
  have hlocks := B.notSynchronized
  subst hsz
  have hD := hD0.self (sz := s.heap.size)
  generalize hAe : va_A [(mm, .inr (21, [.int th, .ref ms, .ref mt, .ref mh, .ref me])), (ms, .inr (1, [.int 0, .ref eD, .int 0])), (mt, .inr (1, [.int mo, .ref ma, .int 3])), (mh, .inr (1, [.int 0, .ref eD, .int 0])), (me, .inr (1, [.int 0, .ref eD, .int 0])), (ma, .inl (kO, 10, .inr (.inr (.inr (.inr (zfT t0 t1 t2)))))), (t0, .inr (18, [.int (-1), .ref i0])), (t1, .inr (18, [.int (-2), .ref i1])), (t2, .inr (18, [.int (-3), .ref i2])), (i0, .inl (kT, 0, .inr (.inr (.inr (.inr (fun _ => none)))))), (i1, .inl (kT, 0, .inr (.inr (.inr (.inr (fun _ => none)))))), (i2, .inl (kT, 0, .inr (.inr (.inr (.inr (fun _ => none))))))] s.heap.size = A at hD hE ⊢
  have hA : ∀ q : Nat, s.heap.size ≤ q → A q := fun q h => by rw [← hAe]; exact Or.inr h
  have hS : va_S A s.heap s.heap [] := va_S.rf
  have hP : va_P (dC, dI) vwCl [(mm, .inr (21, [.int th, .ref ms, .ref mt, .ref mh, .ref me])), (ms, .inr (1, [.int 0, .ref eD, .int 0])), (mt, .inr (1, [.int mo, .ref ma, .int 3])), (mh, .inr (1, [.int 0, .ref eD, .int 0])), (me, .inr (1, [.int 0, .ref eD, .int 0])), (ma, .inl (kO, 10, .inr (.inr (.inr (.inr (zfT t0 t1 t2)))))), (t0, .inr (18, [.int (-1), .ref i0])), (t1, .inr (18, [.int (-2), .ref i1])), (t2, .inr (18, [.int (-3), .ref i2])), (i0, .inl (kT, 0, .inr (.inr (.inr (.inr (fun _ => none)))))), (i1, .inl (kT, 0, .inr (.inr (.inr (.inr (fun _ => none)))))), (i2, .inl (kT, 0, .inr (.inr (.inr (.inr (fun _ => none))))))] s.heap := hP
  have hl := lv_entry ([.ref mm, .int x1, .int x2, .int x3, .int x4]) (n := 11) (Nat.le_of_ble_eq_true rfl)
  rw [lg_entry_eq]
  generalize (lg_sl ([.ref mm, .int x1, .int x2, .int x3, .int x4]) ++ List.replicate (11 - (lg_sl ([.ref mm, .int x1, .int x2, .int x3, .int x4])).length) Slot.unset).toArray = ls at hl ⊢
  have hl : lv_has ls 11 [(0, .ref mm), (1, .int x1), (2, .int x2), (3, .int x3), (4, .int x4)] := hl
  have in_RJx4a65c : ∀ w ∈ u_ws RJx4a65c TJx4a65c 3, w ∈ w_c_M_would := by decide +kernel
  have in_RX19 : ∀ w ∈ u_ws RX19 TX19 5, w ∈ w_c_M_would := by decide +kernel
  have hP := hP.sub (ws' := [(mm, .inr (21, [.int th, .ref ms, .ref mt, .ref mh, .ref me])), (mt, .inr (1, [.int mo, .ref ma, .int 3]))]) [0, 2] rfl
  have hD := hD.sub (ws' := [(mm, .inr (21, [.int th, .ref ms, .ref mt, .ref mh, .ref me])), (mt, .inr (1, [.int mo, .ref ma, .int 3]))]) [0, 2] (by decide) rfl
  refine lv_aload_n hx hb dX19_wouldChoose_0 rfl (lv_at hl 0 rfl) ?_
  refine lv_aload_n hx hb dX19_wouldChoose_1 rfl (lv_at hl 0 rfl) ?_
  refine lv_iload_n hx hb dX19_wouldChoose_2 rfl (lv_at hl 1 rfl) ?_
  refine z_i (wr := []) (va_runV (As := [.int x1]) (rest := [.ref mm]) ⟨hx, hb, hml, hown, hts⟩ (c_M_isNoType_hi l eD eI ad dC dI s.heap.size mm ms mt mh me th ((.int mo)) ((.ref ma)) x1 (hx10) (hx11)) (cwV 1 hts g_c_M_would_2 rfl rfl rfl (by decide +kernel) ⟨Nat.le_of_ble_eq_true rfl, Nat.le_of_ble_eq_true rfl⟩) (z_preV (wc := [(mm, .inr (21, [.int th, .ref ms, .ref mt, .ref mh, .ref me])), (mt, .inr (1, [.int mo, .ref ma, .int 3]))]) hP hD hK hS hA hE [0, 1] [] rfl (by decide) rfl (ci := 21) (q0 := 0) rfl rfl) rfl rfl hl.1 rfl (lv_room (Nat.le_of_ble_eq_true rfl)) dX19_wouldChoose_3 ⟨Nat.le_of_ble_eq_true rfl, Nat.le_of_ble_eq_true rfl⟩) hP hD hK hS hA [0, 1] [] rfl rfl (by decide) (by decide) (fun r_1 u H locs hw_2 hP hD hK hS => ?_)
  obtain ⟨⟩ := u
  have hP : va_P (dC, dI) vwCl [(mm, .inr (21, [.int th, .ref ms, .ref mt, .ref mh, .ref me])), (mt, .inr (1, [.int mo, .ref ma, .int 3]))] H := hP
  have hD : va_D A [(mm, .inr (21, [.int th, .ref ms, .ref mt, .ref mh, .ref me])), (mt, .inr (1, [.int mo, .ref ma, .int 3]))] := hD
  have hK : va_K (dC, dI) vwCl [(kO, .object "java/lang/Object"), (kT, .object "HornbookModel$Tree")] s := by simpa using hK
  have hw_2 : r_1 = 1 := hw_2
  have hw_2 := hw_2.symm
  subst hw_2
  refine lv_if_ne (tgt := 26) hx hb dX19_wouldChoose_6 (by decide) (fun c_3 => ?_) (fun c_3 => ?_)
  rotate_left
  · exact absurd c_3 (by decide)
  refine lv_iconst (v := 1) hx hb dX19_wouldChoose_26 (by decide) ?_
  refine lv_goto (tgt := 31) hx hb dX19_wouldChoose_27 (by decide) ?_
  refine lv_iconst (v := 1) hx hb dX19_wouldChoose_31 (by decide) ?_
  refine z_i (wr := [(mt, .inr (1, [.int mo, .ref ma, .int 3]))]) (va_runV (As := [.int 1, .int 1]) (rest := []) ⟨hx, hb, hml, hown, hts⟩ (c_M_start_yes l eD eI ad dC dI H.size mm ((.ref ms)) ((.ref mt)) ((.ref mh)) ((.ref me)) 1 th (by decide)) (cwV 2 hts g_c_M_would_1 rfl rfl rfl (by decide +kernel) ⟨Nat.le_of_ble_eq_true rfl, Nat.le_of_ble_eq_true rfl⟩) (z_preV (wc := [(mm, .inr (21, [.int th, .ref ms, .ref mt, .ref mh, .ref me]))]) hP hD hK hS hA hE [0] [] rfl (by decide) rfl (ci := 21) (q0 := 0) rfl rfl) rfl rfl hl.1 rfl (lv_room (Nat.le_of_ble_eq_true rfl)) dX19_wouldChoose_32 ⟨Nat.le_of_ble_eq_true rfl, Nat.le_of_ble_eq_true rfl⟩) hP hD hK hS hA [0] [1] rfl rfl (by decide) (by decide) (fun r_4 u H locs hw_5 hP hD hK hS => ?_)
  obtain ⟨⟩ := u
  have hP : va_P (dC, dI) vwCl [(mt, .inr (1, [.int mo, .ref ma, .int 3])), (mm, .inr (21, [.int 1, .ref ms, .ref mt, .ref mh, .ref me]))] H := hP
  have hD : va_D A [(mt, .inr (1, [.int mo, .ref ma, .int 3])), (mm, .inr (21, [.int 1, .ref ms, .ref mt, .ref mh, .ref me]))] := hD
  have hK : va_K (dC, dI) vwCl [(kO, .object "java/lang/Object"), (kT, .object "HornbookModel$Tree")] s := by simpa using hK
  have hw_5 : r_4 = 1 := hw_5
  have hw_5 := hw_5.symm
  subst hw_5
  refine lv_if_ne (tgt := 72) hx hb dX19_wouldChoose_35 (by decide) (fun c_6 => ?_) (fun c_6 => ?_)
  rotate_left
  · exact absurd c_6 (by decide)
  refine lv_iconst (v := 0) hx hb dX19_wouldChoose_72 (by decide) ?_
  have hP9 := hP.sub (ws' := [(mm, .inr (21, [.int 1, .ref ms, .ref mt, .ref mh, .ref me]))]) [1] rfl
  have hD9 := hD.sub (ws' := [(mm, .inr (21, [.int 1, .ref ms, .ref mt, .ref mh, .ref me]))]) [1] (by decide) rfl
  have hK9 := hK.sub (tys' := []) [] rfl
  refine W.widen (k := 7) (n := 22) (Nat.le_of_ble_eq_true rfl) (Nat.le_of_ble_eq_true rfl) ?_
  exact W.iret (v := 0) hx hb hr (fun t ht hW => ⟨⟨0, (1, 0), rfl, ⟨rfl, by first | decide | simp [hx10, hx11], by first | exact fun h => absurd h (by decide) | exact fun _ => rfl | rfl | decide | simp⟩, ⟨by rw [ht]; exact hP9, va_K.moved hW.alike hK9, hD9⟩⟩, hS.F ht⟩) hS.2.2 dX19_wouldChoose_73

set_option maxHeartbeats 4000000 in
set_option maxRecDepth 100000 in
theorem c_M_would_Dnnl (l : Launch) (eD eI : Nat) (ad : Nat → Nat) (dC : Nat → ClassId) (dI : Nat → Nat → Nat) (sz : Nat) (mm : Nat) (ms : Nat) (mt : Nat) (mh : Nat) (me : Nat) (mo : Int32) (ma : Nat) (kO : ClassId) (kT : ClassId) (t0 : Nat) (t1 : Nat) (t2 : Nat) (i0 : Nat) (i1 : Nat) (i2 : Nat) (th : Int32) (x1 : Int32) (x2 : Int32) (hx10 : ¬ x1 < 0) (hx11 : ¬ 2 < x1) (hx21 : x2 < 0) : Met l yX19_wouldChoose w_c_M_would ({ frames := 6, cells := 7, slots := 22, locals := 123 }) (va_Pc [.ref mm, .int x1, .int x2, .int (-1), .int (-1)] (zPre eD eI ad (dC, dI) [(mm, .inr (21, [.int th, .ref ms, .ref mt, .ref mh, .ref me])), (ms, .inr (1, [.int 0, .ref eD, .int 0])), (mt, .inr (1, [.int mo, .ref ma, .int 3])), (mh, .inr (1, [.int 0, .ref eD, .int 0])), (me, .inr (1, [.int 0, .ref eD, .int 0])), (ma, .inl (kO, 10, .inr (.inr (.inr (.inr (zfT t0 t1 t2)))))), (t0, .inr (18, [.int (-1), .ref i0])), (t1, .inr (18, [.int (-2), .ref i1])), (t2, .inr (18, [.int (-3), .ref i2])), (i0, .inl (kT, 0, .inr (.inr (.inr (.inr (fun _ => none)))))), (i1, .inl (kT, 0, .inr (.inr (.inr (.inr (fun _ => none)))))), (i2, .inl (kT, 0, .inr (.inr (.inr (.inr (fun _ => none))))))] [(kO, .object "java/lang/Object"), (kT, .object "HornbookModel$Tree")] sz)) (va_Qi (fun (r : Int32) (u : Int32 × Int32) => match u with | (th2, v2) => r = v2 ∧ th2 = (if x1 < 0 ∨ 2 < x1 then 1 else if ¬ (-1 : Int32) = (-1) ∧ ((-1 : Int32) < 0 ∨ 2 < (-1 : Int32)) then 1 else if ¬ (-1 : Int32) = (-1) ∧ ((-1 : Int32) < 0 ∨ 2 < (-1 : Int32)) then 1 else if x2 < 0 ∨ 9 < x2 then 2 else if (-1 : Int32) = (-1) ∧ ¬ (-1 : Int32) = (-1) then 2 else if x1 = 2 ∨ (-1 : Int32) = 2 ∨ (-1 : Int32) = 2 then 2 else 0) ∧ (th2 = 0 → v2 = (-1))) (fun (u : Int32 × Int32) => match u with | (th2, v2) => zEnd (dC, dI) (va_A [(mm, .inr (21, [.int th, .ref ms, .ref mt, .ref mh, .ref me])), (ms, .inr (1, [.int 0, .ref eD, .int 0])), (mt, .inr (1, [.int mo, .ref ma, .int 3])), (mh, .inr (1, [.int 0, .ref eD, .int 0])), (me, .inr (1, [.int 0, .ref eD, .int 0])), (ma, .inl (kO, 10, .inr (.inr (.inr (.inr (zfT t0 t1 t2)))))), (t0, .inr (18, [.int (-1), .ref i0])), (t1, .inr (18, [.int (-2), .ref i1])), (t2, .inr (18, [.int (-3), .ref i2])), (i0, .inl (kT, 0, .inr (.inr (.inr (.inr (fun _ => none)))))), (i1, .inl (kT, 0, .inr (.inr (.inr (.inr (fun _ => none)))))), (i2, .inl (kT, 0, .inr (.inr (.inr (.inr (fun _ => none))))))] sz) [(mm, .inr (21, [.int th2, .ref ms, .ref mt, .ref mh, .ref me]))] []) (va_A [(mm, .inr (21, [.int th, .ref ms, .ref mt, .ref mh, .ref me])), (ms, .inr (1, [.int 0, .ref eD, .int 0])), (mt, .inr (1, [.int mo, .ref ma, .int 3])), (mh, .inr (1, [.int 0, .ref eD, .int 0])), (me, .inr (1, [.int 0, .ref eD, .int 0])), (ma, .inl (kO, 10, .inr (.inr (.inr (.inr (zfT t0 t1 t2)))))), (t0, .inr (18, [.int (-1), .ref i0])), (t1, .inr (18, [.int (-2), .ref i1])), (t2, .inr (18, [.int (-3), .ref i2])), (i0, .inl (kT, 0, .inr (.inr (.inr (.inr (fun _ => none)))))), (i1, .inl (kT, 0, .inr (.inr (.inr (.inr (fun _ => none)))))), (i2, .inl (kT, 0, .inr (.inr (.inr (.inr (fun _ => none))))))] sz)) 7 22 (va_A [(mm, .inr (21, [.int th, .ref ms, .ref mt, .ref mh, .ref me])), (ms, .inr (1, [.int 0, .ref eD, .int 0])), (mt, .inr (1, [.int mo, .ref ma, .int 3])), (mh, .inr (1, [.int 0, .ref eD, .int 0])), (me, .inr (1, [.int 0, .ref eD, .int 0])), (ma, .inl (kO, 10, .inr (.inr (.inr (.inr (zfT t0 t1 t2)))))), (t0, .inr (18, [.int (-1), .ref i0])), (t1, .inr (18, [.int (-2), .ref i1])), (t2, .inr (18, [.int (-3), .ref i2])), (i0, .inl (kT, 0, .inr (.inr (.inr (.inr (fun _ => none)))))), (i1, .inl (kT, 0, .inr (.inr (.inr (.inr (fun _ => none)))))), (i2, .inl (kT, 0, .inr (.inr (.inr (.inr (fun _ => none))))))] sz) := by
  refine Met.ofW (cc := cX19_wouldChoose) (maxL := 11) (ret := (some .int)) (by decide) rfl ?_
  intro p e s m args below meth c s₁ B hml hv
  obtain ⟨rfl, hsz, hP, hK, hD0, hE⟩ := hv
  have hx := B.exec
  have hb := B.bytes
  have hr := B.returns
  have hts := atoms_spec (ws := w_c_M_would) B.pre
  have hown : s.vm.findClass RX19 = some m.cls := findClass_of_methodNamed B.named
  have hlocks := B.notSynchronized
  subst hsz
  have hD := hD0.self (sz := s.heap.size)
  generalize hAe : va_A [(mm, .inr (21, [.int th, .ref ms, .ref mt, .ref mh, .ref me])), (ms, .inr (1, [.int 0, .ref eD, .int 0])), (mt, .inr (1, [.int mo, .ref ma, .int 3])), (mh, .inr (1, [.int 0, .ref eD, .int 0])), (me, .inr (1, [.int 0, .ref eD, .int 0])), (ma, .inl (kO, 10, .inr (.inr (.inr (.inr (zfT t0 t1 t2)))))), (t0, .inr (18, [.int (-1), .ref i0])), (t1, .inr (18, [.int (-2), .ref i1])), (t2, .inr (18, [.int (-3), .ref i2])), (i0, .inl (kT, 0, .inr (.inr (.inr (.inr (fun _ => none)))))), (i1, .inl (kT, 0, .inr (.inr (.inr (.inr (fun _ => none)))))), (i2, .inl (kT, 0, .inr (.inr (.inr (.inr (fun _ => none))))))] s.heap.size = A at hD hE ⊢
  have hA : ∀ q : Nat, s.heap.size ≤ q → A q := fun q h => by rw [← hAe]; exact Or.inr h
  have hS : va_S A s.heap s.heap [] := va_S.rf
  have hP : va_P (dC, dI) vwCl [(mm, .inr (21, [.int th, .ref ms, .ref mt, .ref mh, .ref me])), (ms, .inr (1, [.int 0, .ref eD, .int 0])), (mt, .inr (1, [.int mo, .ref ma, .int 3])), (mh, .inr (1, [.int 0, .ref eD, .int 0])), (me, .inr (1, [.int 0, .ref eD, .int 0])), (ma, .inl (kO, 10, .inr (.inr (.inr (.inr (zfT t0 t1 t2)))))), (t0, .inr (18, [.int (-1), .ref i0])), (t1, .inr (18, [.int (-2), .ref i1])), (t2, .inr (18, [.int (-3), .ref i2])), (i0, .inl (kT, 0, .inr (.inr (.inr (.inr (fun _ => none)))))), (i1, .inl (kT, 0, .inr (.inr (.inr (.inr (fun _ => none)))))), (i2, .inl (kT, 0, .inr (.inr (.inr (.inr (fun _ => none))))))] s.heap := hP
  have hl := lv_entry ([.ref mm, .int x1, .int x2, .int (-1), .int (-1)]) (n := 11) (Nat.le_of_ble_eq_true rfl)
  rw [lg_entry_eq]
  generalize (lg_sl ([.ref mm, .int x1, .int x2, .int (-1), .int (-1)]) ++ List.replicate (11 - (lg_sl ([.ref mm, .int x1, .int x2, .int (-1), .int (-1)])).length) Slot.unset).toArray = ls at hl ⊢
  have hl : lv_has ls 11 [(0, .ref mm), (1, .int x1), (2, .int x2), (3, .int (-1)), (4, .int (-1))] := hl
  have in_RJx4a65c : ∀ w ∈ u_ws RJx4a65c TJx4a65c 3, w ∈ w_c_M_would := by decide +kernel
  have in_RX19 : ∀ w ∈ u_ws RX19 TX19 5, w ∈ w_c_M_would := by decide +kernel
  have hP := hP.sub (ws' := [(mm, .inr (21, [.int th, .ref ms, .ref mt, .ref mh, .ref me])), (mt, .inr (1, [.int mo, .ref ma, .int 3]))]) [0, 2] rfl
  have hD := hD.sub (ws' := [(mm, .inr (21, [.int th, .ref ms, .ref mt, .ref mh, .ref me])), (mt, .inr (1, [.int mo, .ref ma, .int 3]))]) [0, 2] (by decide) rfl
  refine lv_aload_n hx hb dX19_wouldChoose_0 rfl (lv_at hl 0 rfl) ?_
  refine lv_aload_n hx hb dX19_wouldChoose_1 rfl (lv_at hl 0 rfl) ?_
  refine lv_iload_n hx hb dX19_wouldChoose_2 rfl (lv_at hl 1 rfl) ?_
  refine z_i (wr := []) (va_runV (As := [.int x1]) (rest := [.ref mm]) ⟨hx, hb, hml, hown, hts⟩ (c_M_isNoType_ok l eD eI ad dC dI s.heap.size mm ms mt mh me th ((.int mo)) ((.ref ma)) x1 (hx10) (hx11)) (cwV 1 hts g_c_M_would_3 rfl rfl rfl (by decide +kernel) ⟨Nat.le_of_ble_eq_true rfl, Nat.le_of_ble_eq_true rfl⟩) (z_preV (wc := [(mm, .inr (21, [.int th, .ref ms, .ref mt, .ref mh, .ref me])), (mt, .inr (1, [.int mo, .ref ma, .int 3]))]) hP hD hK hS hA hE [0, 1] [] rfl (by decide) rfl (ci := 21) (q0 := 0) rfl rfl) rfl rfl hl.1 rfl (lv_room (Nat.le_of_ble_eq_true rfl)) dX19_wouldChoose_3 ⟨Nat.le_of_ble_eq_true rfl, Nat.le_of_ble_eq_true rfl⟩) hP hD hK hS hA [0, 1] [] rfl rfl (by decide) (by decide) (fun r_1 u H locs hw_2 hP hD hK hS => ?_)
  obtain ⟨⟩ := u
  have hP : va_P (dC, dI) vwCl [(mm, .inr (21, [.int th, .ref ms, .ref mt, .ref mh, .ref me])), (mt, .inr (1, [.int mo, .ref ma, .int 3]))] H := hP
  have hD : va_D A [(mm, .inr (21, [.int th, .ref ms, .ref mt, .ref mh, .ref me])), (mt, .inr (1, [.int mo, .ref ma, .int 3]))] := hD
  have hK : va_K (dC, dI) vwCl [(kO, .object "java/lang/Object"), (kT, .object "HornbookModel$Tree")] s := by simpa using hK
  have hw_2 : r_1 = 0 := hw_2
  have hw_2 := hw_2.symm
  subst hw_2
  refine lv_if_ne (tgt := 26) hx hb dX19_wouldChoose_6 (by decide) (fun c_3 => ?_) (fun c_3 => ?_)
  · exact absurd (by decide) c_3
  refine lv_aload_n hx hb dX19_wouldChoose_9 rfl (lv_at hl 0 rfl) ?_
  refine lv_iload_n hx hb dX19_wouldChoose_10 rfl (lv_at hl 3 rfl) ?_
  refine z_i (wr := []) (va_runV (As := [.int (-1)]) (rest := [.ref mm]) ⟨hx, hb, hml, hown, hts⟩ (c_M_isNoTypeN_none l eD eI ad dC dI H.size mm ms mt mh me th ((.int mo)) ((.ref ma))) (cwV 1 hts g_c_M_would_4 rfl rfl rfl (by decide +kernel) ⟨Nat.le_of_ble_eq_true rfl, Nat.le_of_ble_eq_true rfl⟩) (z_preV (wc := [(mm, .inr (21, [.int th, .ref ms, .ref mt, .ref mh, .ref me])), (mt, .inr (1, [.int mo, .ref ma, .int 3]))]) hP hD hK hS hA hE [0, 1] [] rfl (by decide) rfl (ci := 21) (q0 := 0) rfl rfl) rfl rfl hl.1 rfl (lv_room (Nat.le_of_ble_eq_true rfl)) dX19_wouldChoose_11 ⟨Nat.le_of_ble_eq_true rfl, Nat.le_of_ble_eq_true rfl⟩) hP hD hK hS hA [0, 1] [] rfl rfl (by decide) (by decide) (fun r_4 u H locs hw_5 hP hD hK hS => ?_)
  obtain ⟨⟩ := u
  have hP : va_P (dC, dI) vwCl [(mm, .inr (21, [.int th, .ref ms, .ref mt, .ref mh, .ref me])), (mt, .inr (1, [.int mo, .ref ma, .int 3]))] H := hP
  have hD : va_D A [(mm, .inr (21, [.int th, .ref ms, .ref mt, .ref mh, .ref me])), (mt, .inr (1, [.int mo, .ref ma, .int 3]))] := hD
  have hK : va_K (dC, dI) vwCl [(kO, .object "java/lang/Object"), (kT, .object "HornbookModel$Tree")] s := by simpa using hK
  have hw_5 : r_4 = 0 := hw_5
  have hw_5 := hw_5.symm
  subst hw_5
  refine lv_if_ne (tgt := 26) hx hb dX19_wouldChoose_14 (by decide) (fun c_6 => ?_) (fun c_6 => ?_)
  · exact absurd (by decide) c_6
  refine lv_aload_n hx hb dX19_wouldChoose_17 rfl (lv_at hl 0 rfl) ?_
  refine lv_iload hx hb dX19_wouldChoose_18 (lv_at hl 4 rfl) ?_
  refine z_i (wr := []) (va_runV (As := [.int (-1)]) (rest := [.ref mm]) ⟨hx, hb, hml, hown, hts⟩ (c_M_isNoTypeN_none l eD eI ad dC dI H.size mm ms mt mh me th ((.int mo)) ((.ref ma))) (cwV 1 hts g_c_M_would_4 rfl rfl rfl (by decide +kernel) ⟨Nat.le_of_ble_eq_true rfl, Nat.le_of_ble_eq_true rfl⟩) (z_preV (wc := [(mm, .inr (21, [.int th, .ref ms, .ref mt, .ref mh, .ref me])), (mt, .inr (1, [.int mo, .ref ma, .int 3]))]) hP hD hK hS hA hE [0, 1] [] rfl (by decide) rfl (ci := 21) (q0 := 0) rfl rfl) rfl rfl hl.1 rfl (lv_room (Nat.le_of_ble_eq_true rfl)) dX19_wouldChoose_20 ⟨Nat.le_of_ble_eq_true rfl, Nat.le_of_ble_eq_true rfl⟩) hP hD hK hS hA [0, 1] [] rfl rfl (by decide) (by decide) (fun r_7 u H locs hw_8 hP hD hK hS => ?_)
  obtain ⟨⟩ := u
  have hP : va_P (dC, dI) vwCl [(mm, .inr (21, [.int th, .ref ms, .ref mt, .ref mh, .ref me])), (mt, .inr (1, [.int mo, .ref ma, .int 3]))] H := hP
  have hD : va_D A [(mm, .inr (21, [.int th, .ref ms, .ref mt, .ref mh, .ref me])), (mt, .inr (1, [.int mo, .ref ma, .int 3]))] := hD
  have hK : va_K (dC, dI) vwCl [(kO, .object "java/lang/Object"), (kT, .object "HornbookModel$Tree")] s := by simpa using hK
  have hw_8 : r_7 = 0 := hw_8
  have hw_8 := hw_8.symm
  subst hw_8
  refine lv_if_eq (tgt := 30) hx hb dX19_wouldChoose_23 (by decide) (fun c_9 => ?_) (fun c_9 => ?_)
  rotate_left
  · exact absurd (by decide) c_9
  refine lv_iconst (v := 0) hx hb dX19_wouldChoose_30 (by decide) ?_
  refine lv_iconst (v := 1) hx hb dX19_wouldChoose_31 (by decide) ?_
  refine z_i (wr := [(mt, .inr (1, [.int mo, .ref ma, .int 3]))]) (va_runV (As := [.int 0, .int 1]) (rest := []) ⟨hx, hb, hml, hown, hts⟩ (c_M_start_no l eD eI ad dC dI H.size mm ((.ref ms)) ((.ref mt)) ((.ref mh)) ((.ref me)) 1 th) (cwV 2 hts g_c_M_would_5 rfl rfl rfl (by decide +kernel) ⟨Nat.le_of_ble_eq_true rfl, Nat.le_of_ble_eq_true rfl⟩) (z_preV (wc := [(mm, .inr (21, [.int th, .ref ms, .ref mt, .ref mh, .ref me]))]) hP hD hK hS hA hE [0] [] rfl (by decide) rfl (ci := 21) (q0 := 0) rfl rfl) rfl rfl hl.1 rfl (lv_room (Nat.le_of_ble_eq_true rfl)) dX19_wouldChoose_32 ⟨Nat.le_of_ble_eq_true rfl, Nat.le_of_ble_eq_true rfl⟩) hP hD hK hS hA [0] [1] rfl rfl (by decide) (by decide) (fun r_10 u H locs hw_11 hP hD hK hS => ?_)
  obtain ⟨⟩ := u
  have hP : va_P (dC, dI) vwCl [(mt, .inr (1, [.int mo, .ref ma, .int 3])), (mm, .inr (21, [.int 0, .ref ms, .ref mt, .ref mh, .ref me]))] H := hP
  have hD : va_D A [(mt, .inr (1, [.int mo, .ref ma, .int 3])), (mm, .inr (21, [.int 0, .ref ms, .ref mt, .ref mh, .ref me]))] := hD
  have hK : va_K (dC, dI) vwCl [(kO, .object "java/lang/Object"), (kT, .object "HornbookModel$Tree")] s := by simpa using hK
  have hw_11 : r_10 = 0 := hw_11
  have hw_11 := hw_11.symm
  subst hw_11
  refine lv_if_ne (tgt := 72) hx hb dX19_wouldChoose_35 (by decide) (fun c_12 => ?_) (fun c_12 => ?_)
  · exact absurd (by decide) c_12
  refine lv_aload_n hx hb dX19_wouldChoose_38 rfl (lv_at hl 0 rfl) ?_
  refine lv_iload_n hx hb dX19_wouldChoose_39 rfl (lv_at hl 2 rfl) ?_
  refine lv_iconst (v := 0) hx hb dX19_wouldChoose_40 (by decide) ?_
  refine lv_bipush (v := 9) hx hb dX19_wouldChoose_41 (by decide) ?_
  refine z_i (wr := [(mt, .inr (1, [.int mo, .ref ma, .int 3])), (mm, .inr (21, [.int 0, .ref ms, .ref mt, .ref mh, .ref me]))]) (va_runS (As := [.int x2, .int 0, .int 9]) (rest := [.ref mm]) ⟨hx, hb, hml, hown, hts⟩ (c_M_isIn_lo l eD eI ad dC dI H.size x2 0 9 (hx21)) (va_cwS 3 hts g_c_M_would_6 rfl rfl rfl (by decide +kernel) ⟨Nat.le_of_ble_eq_true rfl, Nat.le_of_ble_eq_true rfl⟩) (z_preS (wc := []) hP hD hK hS hA hE [] [] rfl (by decide) rfl) rfl rfl hl.1 rfl (lv_room (Nat.le_of_ble_eq_true rfl)) dX19_wouldChoose_43 ⟨Nat.le_of_ble_eq_true rfl, Nat.le_of_ble_eq_true rfl⟩) hP hD hK hS hA [] [0, 1] rfl rfl (by decide) (by decide) (fun r_13 u H locs hw_14 hP hD hK hS => ?_)
  obtain ⟨⟩ := u
  have hP : va_P (dC, dI) vwCl [(mt, .inr (1, [.int mo, .ref ma, .int 3])), (mm, .inr (21, [.int 0, .ref ms, .ref mt, .ref mh, .ref me]))] H := hP
  have hD : va_D A [(mt, .inr (1, [.int mo, .ref ma, .int 3])), (mm, .inr (21, [.int 0, .ref ms, .ref mt, .ref mh, .ref me]))] := hD
  have hK : va_K (dC, dI) vwCl [(kO, .object "java/lang/Object"), (kT, .object "HornbookModel$Tree")] s := by simpa using hK
  have hw_14 : r_13 = 0 := hw_14
  have hw_14 := hw_14.symm
  subst hw_14
  refine lv_if_eq (tgt := 60) hx hb dX19_wouldChoose_46 (by decide) (fun c_15 => ?_) (fun c_15 => ?_)
  rotate_left
  · exact absurd (by decide) c_15
  refine lv_iconst (v := 1) hx hb dX19_wouldChoose_60 (by decide) ?_
  refine lv_goto (tgt := 65) hx hb dX19_wouldChoose_61 (by decide) ?_
  refine lv_iconst (v := 2) hx hb dX19_wouldChoose_65 (by decide) ?_
  refine z_i (wr := [(mt, .inr (1, [.int mo, .ref ma, .int 3]))]) (va_runV (As := [.int 1, .int 2]) (rest := []) ⟨hx, hb, hml, hown, hts⟩ (c_M_refuse_yes l eD eI ad dC dI H.size mm ((.ref ms)) ((.ref mt)) ((.ref mh)) ((.ref me)) 2 (by decide)) (cwV 2 hts g_c_M_would_7 rfl rfl rfl (by decide +kernel) ⟨Nat.le_of_ble_eq_true rfl, Nat.le_of_ble_eq_true rfl⟩) (z_preV (wc := [(mm, .inr (21, [.int 0, .ref ms, .ref mt, .ref mh, .ref me]))]) hP hD hK hS hA hE [1] [] rfl (by decide) rfl (ci := 21) (q0 := 0) rfl rfl) rfl rfl hl.1 rfl (lv_room (Nat.le_of_ble_eq_true rfl)) dX19_wouldChoose_66 ⟨Nat.le_of_ble_eq_true rfl, Nat.le_of_ble_eq_true rfl⟩) hP hD hK hS hA [1] [0] rfl rfl (by decide) (by decide) (fun r_16 u H locs hw_17 hP hD hK hS => ?_)
  obtain ⟨⟩ := u
  have hP : va_P (dC, dI) vwCl [(mt, .inr (1, [.int mo, .ref ma, .int 3])), (mm, .inr (21, [.int 2, .ref ms, .ref mt, .ref mh, .ref me]))] H := hP
  have hD : va_D A [(mt, .inr (1, [.int mo, .ref ma, .int 3])), (mm, .inr (21, [.int 2, .ref ms, .ref mt, .ref mh, .ref me]))] := hD
  have hK : va_K (dC, dI) vwCl [(kO, .object "java/lang/Object"), (kT, .object "HornbookModel$Tree")] s := by simpa using hK
  have hw_17 : r_16 = 1 := hw_17
  have hw_17 := hw_17.symm
  subst hw_17
  refine lv_if_eq (tgt := 74) hx hb dX19_wouldChoose_69 (by decide) (fun c_18 => ?_) (fun c_18 => ?_)
  · exact absurd c_18 (by decide)
  refine lv_iconst (v := 0) hx hb dX19_wouldChoose_72 (by decide) ?_
  have hP9 := hP.sub (ws' := [(mm, .inr (21, [.int 2, .ref ms, .ref mt, .ref mh, .ref me]))]) [1] rfl
  have hD9 := hD.sub (ws' := [(mm, .inr (21, [.int 2, .ref ms, .ref mt, .ref mh, .ref me]))]) [1] (by decide) rfl
  have hK9 := hK.sub (tys' := []) [] rfl
  refine W.widen (k := 7) (n := 22) (Nat.le_of_ble_eq_true rfl) (Nat.le_of_ble_eq_true rfl) ?_
  exact W.iret (v := 0) hx hb hr (fun t ht hW => ⟨⟨0, (2, 0), rfl, ⟨rfl, by first | decide | simp [hx10, hx11, hx21], by first | exact fun h => absurd h (by decide) | exact fun _ => rfl | rfl | decide | simp⟩, ⟨by rw [ht]; exact hP9, va_K.moved hW.alike hK9, hD9⟩⟩, hS.F ht⟩) hS.2.2 dX19_wouldChoose_73

set_option maxHeartbeats 4000000 in
set_option maxRecDepth 100000 in
theorem c_M_would_Dnnh (l : Launch) (eD eI : Nat) (ad : Nat → Nat) (dC : Nat → ClassId) (dI : Nat → Nat → Nat) (sz : Nat) (mm : Nat) (ms : Nat) (mt : Nat) (mh : Nat) (me : Nat) (mo : Int32) (ma : Nat) (kO : ClassId) (kT : ClassId) (t0 : Nat) (t1 : Nat) (t2 : Nat) (i0 : Nat) (i1 : Nat) (i2 : Nat) (th : Int32) (x1 : Int32) (x2 : Int32) (hx10 : ¬ x1 < 0) (hx11 : ¬ 2 < x1) (hx20 : ¬ x2 < 0) (hx21 : 9 < x2) : Met l yX19_wouldChoose w_c_M_would ({ frames := 6, cells := 7, slots := 22, locals := 123 }) (va_Pc [.ref mm, .int x1, .int x2, .int (-1), .int (-1)] (zPre eD eI ad (dC, dI) [(mm, .inr (21, [.int th, .ref ms, .ref mt, .ref mh, .ref me])), (ms, .inr (1, [.int 0, .ref eD, .int 0])), (mt, .inr (1, [.int mo, .ref ma, .int 3])), (mh, .inr (1, [.int 0, .ref eD, .int 0])), (me, .inr (1, [.int 0, .ref eD, .int 0])), (ma, .inl (kO, 10, .inr (.inr (.inr (.inr (zfT t0 t1 t2)))))), (t0, .inr (18, [.int (-1), .ref i0])), (t1, .inr (18, [.int (-2), .ref i1])), (t2, .inr (18, [.int (-3), .ref i2])), (i0, .inl (kT, 0, .inr (.inr (.inr (.inr (fun _ => none)))))), (i1, .inl (kT, 0, .inr (.inr (.inr (.inr (fun _ => none)))))), (i2, .inl (kT, 0, .inr (.inr (.inr (.inr (fun _ => none))))))] [(kO, .object "java/lang/Object"), (kT, .object "HornbookModel$Tree")] sz)) (va_Qi (fun (r : Int32) (u : Int32 × Int32) => match u with | (th2, v2) => r = v2 ∧ th2 = (if x1 < 0 ∨ 2 < x1 then 1 else if ¬ (-1 : Int32) = (-1) ∧ ((-1 : Int32) < 0 ∨ 2 < (-1 : Int32)) then 1 else if ¬ (-1 : Int32) = (-1) ∧ ((-1 : Int32) < 0 ∨ 2 < (-1 : Int32)) then 1 else if x2 < 0 ∨ 9 < x2 then 2 else if (-1 : Int32) = (-1) ∧ ¬ (-1 : Int32) = (-1) then 2 else if x1 = 2 ∨ (-1 : Int32) = 2 ∨ (-1 : Int32) = 2 then 2 else 0) ∧ (th2 = 0 → v2 = (-1))) (fun (u : Int32 × Int32) => match u with | (th2, v2) => zEnd (dC, dI) (va_A [(mm, .inr (21, [.int th, .ref ms, .ref mt, .ref mh, .ref me])), (ms, .inr (1, [.int 0, .ref eD, .int 0])), (mt, .inr (1, [.int mo, .ref ma, .int 3])), (mh, .inr (1, [.int 0, .ref eD, .int 0])), (me, .inr (1, [.int 0, .ref eD, .int 0])), (ma, .inl (kO, 10, .inr (.inr (.inr (.inr (zfT t0 t1 t2)))))), (t0, .inr (18, [.int (-1), .ref i0])), (t1, .inr (18, [.int (-2), .ref i1])), (t2, .inr (18, [.int (-3), .ref i2])), (i0, .inl (kT, 0, .inr (.inr (.inr (.inr (fun _ => none)))))), (i1, .inl (kT, 0, .inr (.inr (.inr (.inr (fun _ => none)))))), (i2, .inl (kT, 0, .inr (.inr (.inr (.inr (fun _ => none))))))] sz) [(mm, .inr (21, [.int th2, .ref ms, .ref mt, .ref mh, .ref me]))] []) (va_A [(mm, .inr (21, [.int th, .ref ms, .ref mt, .ref mh, .ref me])), (ms, .inr (1, [.int 0, .ref eD, .int 0])), (mt, .inr (1, [.int mo, .ref ma, .int 3])), (mh, .inr (1, [.int 0, .ref eD, .int 0])), (me, .inr (1, [.int 0, .ref eD, .int 0])), (ma, .inl (kO, 10, .inr (.inr (.inr (.inr (zfT t0 t1 t2)))))), (t0, .inr (18, [.int (-1), .ref i0])), (t1, .inr (18, [.int (-2), .ref i1])), (t2, .inr (18, [.int (-3), .ref i2])), (i0, .inl (kT, 0, .inr (.inr (.inr (.inr (fun _ => none)))))), (i1, .inl (kT, 0, .inr (.inr (.inr (.inr (fun _ => none)))))), (i2, .inl (kT, 0, .inr (.inr (.inr (.inr (fun _ => none))))))] sz)) 7 22 (va_A [(mm, .inr (21, [.int th, .ref ms, .ref mt, .ref mh, .ref me])), (ms, .inr (1, [.int 0, .ref eD, .int 0])), (mt, .inr (1, [.int mo, .ref ma, .int 3])), (mh, .inr (1, [.int 0, .ref eD, .int 0])), (me, .inr (1, [.int 0, .ref eD, .int 0])), (ma, .inl (kO, 10, .inr (.inr (.inr (.inr (zfT t0 t1 t2)))))), (t0, .inr (18, [.int (-1), .ref i0])), (t1, .inr (18, [.int (-2), .ref i1])), (t2, .inr (18, [.int (-3), .ref i2])), (i0, .inl (kT, 0, .inr (.inr (.inr (.inr (fun _ => none)))))), (i1, .inl (kT, 0, .inr (.inr (.inr (.inr (fun _ => none)))))), (i2, .inl (kT, 0, .inr (.inr (.inr (.inr (fun _ => none))))))] sz) := by
  refine Met.ofW (cc := cX19_wouldChoose) (maxL := 11) (ret := (some .int)) (by decide) rfl ?_
  intro p e s m args below meth c s₁ B hml hv
  obtain ⟨rfl, hsz, hP, hK, hD0, hE⟩ := hv
  have hx := B.exec
  have hb := B.bytes
  have hr := B.returns
  have hts := atoms_spec (ws := w_c_M_would) B.pre
  have hown : s.vm.findClass RX19 = some m.cls := findClass_of_methodNamed B.named
  have hlocks := B.notSynchronized
  subst hsz
  have hD := hD0.self (sz := s.heap.size)
  generalize hAe : va_A [(mm, .inr (21, [.int th, .ref ms, .ref mt, .ref mh, .ref me])), (ms, .inr (1, [.int 0, .ref eD, .int 0])), (mt, .inr (1, [.int mo, .ref ma, .int 3])), (mh, .inr (1, [.int 0, .ref eD, .int 0])), (me, .inr (1, [.int 0, .ref eD, .int 0])), (ma, .inl (kO, 10, .inr (.inr (.inr (.inr (zfT t0 t1 t2)))))), (t0, .inr (18, [.int (-1), .ref i0])), (t1, .inr (18, [.int (-2), .ref i1])), (t2, .inr (18, [.int (-3), .ref i2])), (i0, .inl (kT, 0, .inr (.inr (.inr (.inr (fun _ => none)))))), (i1, .inl (kT, 0, .inr (.inr (.inr (.inr (fun _ => none)))))), (i2, .inl (kT, 0, .inr (.inr (.inr (.inr (fun _ => none))))))] s.heap.size = A at hD hE ⊢
  have hA : ∀ q : Nat, s.heap.size ≤ q → A q := fun q h => by rw [← hAe]; exact Or.inr h
  have hS : va_S A s.heap s.heap [] := va_S.rf
  have hP : va_P (dC, dI) vwCl [(mm, .inr (21, [.int th, .ref ms, .ref mt, .ref mh, .ref me])), (ms, .inr (1, [.int 0, .ref eD, .int 0])), (mt, .inr (1, [.int mo, .ref ma, .int 3])), (mh, .inr (1, [.int 0, .ref eD, .int 0])), (me, .inr (1, [.int 0, .ref eD, .int 0])), (ma, .inl (kO, 10, .inr (.inr (.inr (.inr (zfT t0 t1 t2)))))), (t0, .inr (18, [.int (-1), .ref i0])), (t1, .inr (18, [.int (-2), .ref i1])), (t2, .inr (18, [.int (-3), .ref i2])), (i0, .inl (kT, 0, .inr (.inr (.inr (.inr (fun _ => none)))))), (i1, .inl (kT, 0, .inr (.inr (.inr (.inr (fun _ => none)))))), (i2, .inl (kT, 0, .inr (.inr (.inr (.inr (fun _ => none))))))] s.heap := hP
  have hl := lv_entry ([.ref mm, .int x1, .int x2, .int (-1), .int (-1)]) (n := 11) (Nat.le_of_ble_eq_true rfl)
  rw [lg_entry_eq]
  generalize (lg_sl ([.ref mm, .int x1, .int x2, .int (-1), .int (-1)]) ++ List.replicate (11 - (lg_sl ([.ref mm, .int x1, .int x2, .int (-1), .int (-1)])).length) Slot.unset).toArray = ls at hl ⊢
  have hl : lv_has ls 11 [(0, .ref mm), (1, .int x1), (2, .int x2), (3, .int (-1)), (4, .int (-1))] := hl
  have hP := hP.sub (ws' := [(mm, .inr (21, [.int th, .ref ms, .ref mt, .ref mh, .ref me])), (mt, .inr (1, [.int mo, .ref ma, .int 3]))]) [0, 2] rfl
  have hD := hD.sub (ws' := [(mm, .inr (21, [.int th, .ref ms, .ref mt, .ref mh, .ref me])), (mt, .inr (1, [.int mo, .ref ma, .int 3]))]) [0, 2] (by decide) rfl
  refine lv_aload_n hx hb dX19_wouldChoose_0 rfl (lv_at hl 0 rfl) ?_
  refine lv_aload_n hx hb dX19_wouldChoose_1 rfl (lv_at hl 0 rfl) ?_
  refine lv_iload_n hx hb dX19_wouldChoose_2 rfl (lv_at hl 1 rfl) ?_
  refine z_i (wr := []) (va_runV (As := [.int x1]) (rest := [.ref mm]) ⟨hx, hb, hml, hown, hts⟩ (c_M_isNoType_ok l eD eI ad dC dI s.heap.size mm ms mt mh me th ((.int mo)) ((.ref ma)) x1 (hx10) (hx11)) (cwV 1 hts g_c_M_would_3 rfl rfl rfl (by decide +kernel) ⟨Nat.le_of_ble_eq_true rfl, Nat.le_of_ble_eq_true rfl⟩) (z_preV (wc := [(mm, .inr (21, [.int th, .ref ms, .ref mt, .ref mh, .ref me])), (mt, .inr (1, [.int mo, .ref ma, .int 3]))]) hP hD hK hS hA hE [0, 1] [] rfl (by decide) rfl (ci := 21) (q0 := 0) rfl rfl) rfl rfl hl.1 rfl (lv_room (Nat.le_of_ble_eq_true rfl)) dX19_wouldChoose_3 ⟨Nat.le_of_ble_eq_true rfl, Nat.le_of_ble_eq_true rfl⟩) hP hD hK hS hA [0, 1] [] rfl rfl (by decide) (by decide) (fun r_1 u H locs hw_2 hP hD hK hS => ?_)
  obtain ⟨⟩ := u
  have hP : va_P (dC, dI) vwCl [(mm, .inr (21, [.int th, .ref ms, .ref mt, .ref mh, .ref me])), (mt, .inr (1, [.int mo, .ref ma, .int 3]))] H := hP
  have hD : va_D A [(mm, .inr (21, [.int th, .ref ms, .ref mt, .ref mh, .ref me])), (mt, .inr (1, [.int mo, .ref ma, .int 3]))] := hD
  have hK : va_K (dC, dI) vwCl [(kO, .object "java/lang/Object"), (kT, .object "HornbookModel$Tree")] s := by simpa using hK
  have hw_2 : r_1 = 0 := hw_2
  have hw_2 := hw_2.symm
  subst hw_2
  refine lv_if_ne (tgt := 26) hx hb dX19_wouldChoose_6 (by decide) (fun c_3 => ?_) (fun c_3 => ?_)
  · exact absurd (by decide) c_3
  refine lv_aload_n hx hb dX19_wouldChoose_9 rfl (lv_at hl 0 rfl) ?_
  refine lv_iload_n hx hb dX19_wouldChoose_10 rfl (lv_at hl 3 rfl) ?_
  refine z_i (wr := []) (va_runV (As := [.int (-1)]) (rest := [.ref mm]) ⟨hx, hb, hml, hown, hts⟩ (c_M_isNoTypeN_none l eD eI ad dC dI H.size mm ms mt mh me th ((.int mo)) ((.ref ma))) (cwV 1 hts g_c_M_would_4 rfl rfl rfl (by decide +kernel) ⟨Nat.le_of_ble_eq_true rfl, Nat.le_of_ble_eq_true rfl⟩) (z_preV (wc := [(mm, .inr (21, [.int th, .ref ms, .ref mt, .ref mh, .ref me])), (mt, .inr (1, [.int mo, .ref ma, .int 3]))]) hP hD hK hS hA hE [0, 1] [] rfl (by decide) rfl (ci := 21) (q0 := 0) rfl rfl) rfl rfl hl.1 rfl (lv_room (Nat.le_of_ble_eq_true rfl)) dX19_wouldChoose_11 ⟨Nat.le_of_ble_eq_true rfl, Nat.le_of_ble_eq_true rfl⟩) hP hD hK hS hA [0, 1] [] rfl rfl (by decide) (by decide) (fun r_4 u H locs hw_5 hP hD hK hS => ?_)
  obtain ⟨⟩ := u
  have hP : va_P (dC, dI) vwCl [(mm, .inr (21, [.int th, .ref ms, .ref mt, .ref mh, .ref me])), (mt, .inr (1, [.int mo, .ref ma, .int 3]))] H := hP
  have hD : va_D A [(mm, .inr (21, [.int th, .ref ms, .ref mt, .ref mh, .ref me])), (mt, .inr (1, [.int mo, .ref ma, .int 3]))] := hD
  have hK : va_K (dC, dI) vwCl [(kO, .object "java/lang/Object"), (kT, .object "HornbookModel$Tree")] s := by simpa using hK
  have hw_5 : r_4 = 0 := hw_5
  have hw_5 := hw_5.symm
  subst hw_5
  refine lv_if_ne (tgt := 26) hx hb dX19_wouldChoose_14 (by decide) (fun c_6 => ?_) (fun c_6 => ?_)
  · exact absurd (by decide) c_6
  refine lv_aload_n hx hb dX19_wouldChoose_17 rfl (lv_at hl 0 rfl) ?_
  refine lv_iload hx hb dX19_wouldChoose_18 (lv_at hl 4 rfl) ?_
  refine z_i (wr := []) (va_runV (As := [.int (-1)]) (rest := [.ref mm]) ⟨hx, hb, hml, hown, hts⟩ (c_M_isNoTypeN_none l eD eI ad dC dI H.size mm ms mt mh me th ((.int mo)) ((.ref ma))) (cwV 1 hts g_c_M_would_4 rfl rfl rfl (by decide +kernel) ⟨Nat.le_of_ble_eq_true rfl, Nat.le_of_ble_eq_true rfl⟩) (z_preV (wc := [(mm, .inr (21, [.int th, .ref ms, .ref mt, .ref mh, .ref me])), (mt, .inr (1, [.int mo, .ref ma, .int 3]))]) hP hD hK hS hA hE [0, 1] [] rfl (by decide) rfl (ci := 21) (q0 := 0) rfl rfl) rfl rfl hl.1 rfl (lv_room (Nat.le_of_ble_eq_true rfl)) dX19_wouldChoose_20 ⟨Nat.le_of_ble_eq_true rfl, Nat.le_of_ble_eq_true rfl⟩) hP hD hK hS hA [0, 1] [] rfl rfl (by decide) (by decide) (fun r_7 u H locs hw_8 hP hD hK hS => ?_)
  obtain ⟨⟩ := u
  have hP : va_P (dC, dI) vwCl [(mm, .inr (21, [.int th, .ref ms, .ref mt, .ref mh, .ref me])), (mt, .inr (1, [.int mo, .ref ma, .int 3]))] H := hP
  have hD : va_D A [(mm, .inr (21, [.int th, .ref ms, .ref mt, .ref mh, .ref me])), (mt, .inr (1, [.int mo, .ref ma, .int 3]))] := hD
  have hK : va_K (dC, dI) vwCl [(kO, .object "java/lang/Object"), (kT, .object "HornbookModel$Tree")] s := by simpa using hK
  have hw_8 : r_7 = 0 := hw_8
  have hw_8 := hw_8.symm
  subst hw_8
  refine lv_if_eq (tgt := 30) hx hb dX19_wouldChoose_23 (by decide) (fun c_9 => ?_) (fun c_9 => ?_)
  rotate_left
  · exact absurd (by decide) c_9
  refine lv_iconst (v := 0) hx hb dX19_wouldChoose_30 (by decide) ?_
  refine lv_iconst (v := 1) hx hb dX19_wouldChoose_31 (by decide) ?_
  refine z_i (wr := [(mt, .inr (1, [.int mo, .ref ma, .int 3]))]) (va_runV (As := [.int 0, .int 1]) (rest := []) ⟨hx, hb, hml, hown, hts⟩ (c_M_start_no l eD eI ad dC dI H.size mm ((.ref ms)) ((.ref mt)) ((.ref mh)) ((.ref me)) 1 th) (cwV 2 hts g_c_M_would_5 rfl rfl rfl (by decide +kernel) ⟨Nat.le_of_ble_eq_true rfl, Nat.le_of_ble_eq_true rfl⟩) (z_preV (wc := [(mm, .inr (21, [.int th, .ref ms, .ref mt, .ref mh, .ref me]))]) hP hD hK hS hA hE [0] [] rfl (by decide) rfl (ci := 21) (q0 := 0) rfl rfl) rfl rfl hl.1 rfl (lv_room (Nat.le_of_ble_eq_true rfl)) dX19_wouldChoose_32 ⟨Nat.le_of_ble_eq_true rfl, Nat.le_of_ble_eq_true rfl⟩) hP hD hK hS hA [0] [1] rfl rfl (by decide) (by decide) (fun r_10 u H locs hw_11 hP hD hK hS => ?_)
  obtain ⟨⟩ := u
  have hP : va_P (dC, dI) vwCl [(mt, .inr (1, [.int mo, .ref ma, .int 3])), (mm, .inr (21, [.int 0, .ref ms, .ref mt, .ref mh, .ref me]))] H := hP
  have hD : va_D A [(mt, .inr (1, [.int mo, .ref ma, .int 3])), (mm, .inr (21, [.int 0, .ref ms, .ref mt, .ref mh, .ref me]))] := hD
  have hK : va_K (dC, dI) vwCl [(kO, .object "java/lang/Object"), (kT, .object "HornbookModel$Tree")] s := by simpa using hK
  have hw_11 : r_10 = 0 := hw_11
  have hw_11 := hw_11.symm
  subst hw_11
  refine lv_if_ne (tgt := 72) hx hb dX19_wouldChoose_35 (by decide) (fun c_12 => ?_) (fun c_12 => ?_)
  · exact absurd (by decide) c_12
  refine lv_aload_n hx hb dX19_wouldChoose_38 rfl (lv_at hl 0 rfl) ?_
  refine lv_iload_n hx hb dX19_wouldChoose_39 rfl (lv_at hl 2 rfl) ?_
  refine lv_iconst (v := 0) hx hb dX19_wouldChoose_40 (by decide) ?_
  refine lv_bipush (v := 9) hx hb dX19_wouldChoose_41 (by decide) ?_
  refine z_i (wr := [(mt, .inr (1, [.int mo, .ref ma, .int 3])), (mm, .inr (21, [.int 0, .ref ms, .ref mt, .ref mh, .ref me]))]) (va_runS (As := [.int x2, .int 0, .int 9]) (rest := [.ref mm]) ⟨hx, hb, hml, hown, hts⟩ (c_M_isIn_hi l eD eI ad dC dI H.size x2 0 9 (hx20) (hx21)) (va_cwS 3 hts g_c_M_would_8 rfl rfl rfl (by decide +kernel) ⟨Nat.le_of_ble_eq_true rfl, Nat.le_of_ble_eq_true rfl⟩) (z_preS (wc := []) hP hD hK hS hA hE [] [] rfl (by decide) rfl) rfl rfl hl.1 rfl (lv_room (Nat.le_of_ble_eq_true rfl)) dX19_wouldChoose_43 ⟨Nat.le_of_ble_eq_true rfl, Nat.le_of_ble_eq_true rfl⟩) hP hD hK hS hA [] [0, 1] rfl rfl (by decide) (by decide) (fun r_13 u H locs hw_14 hP hD hK hS => ?_)
  obtain ⟨⟩ := u
  have hP : va_P (dC, dI) vwCl [(mt, .inr (1, [.int mo, .ref ma, .int 3])), (mm, .inr (21, [.int 0, .ref ms, .ref mt, .ref mh, .ref me]))] H := hP
  have hD : va_D A [(mt, .inr (1, [.int mo, .ref ma, .int 3])), (mm, .inr (21, [.int 0, .ref ms, .ref mt, .ref mh, .ref me]))] := hD
  have hK : va_K (dC, dI) vwCl [(kO, .object "java/lang/Object"), (kT, .object "HornbookModel$Tree")] s := by simpa using hK
  have hw_14 : r_13 = 0 := hw_14
  have hw_14 := hw_14.symm
  subst hw_14
  refine lv_if_eq (tgt := 60) hx hb dX19_wouldChoose_46 (by decide) (fun c_15 => ?_) (fun c_15 => ?_)
  rotate_left
  · exact absurd (by decide) c_15
  refine lv_iconst (v := 1) hx hb dX19_wouldChoose_60 (by decide) ?_
  refine lv_goto (tgt := 65) hx hb dX19_wouldChoose_61 (by decide) ?_
  refine lv_iconst (v := 2) hx hb dX19_wouldChoose_65 (by decide) ?_
  refine z_i (wr := [(mt, .inr (1, [.int mo, .ref ma, .int 3]))]) (va_runV (As := [.int 1, .int 2]) (rest := []) ⟨hx, hb, hml, hown, hts⟩ (c_M_refuse_yes l eD eI ad dC dI H.size mm ((.ref ms)) ((.ref mt)) ((.ref mh)) ((.ref me)) 2 (by decide)) (cwV 2 hts g_c_M_would_7 rfl rfl rfl (by decide +kernel) ⟨Nat.le_of_ble_eq_true rfl, Nat.le_of_ble_eq_true rfl⟩) (z_preV (wc := [(mm, .inr (21, [.int 0, .ref ms, .ref mt, .ref mh, .ref me]))]) hP hD hK hS hA hE [1] [] rfl (by decide) rfl (ci := 21) (q0 := 0) rfl rfl) rfl rfl hl.1 rfl (lv_room (Nat.le_of_ble_eq_true rfl)) dX19_wouldChoose_66 ⟨Nat.le_of_ble_eq_true rfl, Nat.le_of_ble_eq_true rfl⟩) hP hD hK hS hA [1] [0] rfl rfl (by decide) (by decide) (fun r_16 u H locs hw_17 hP hD hK hS => ?_)
  obtain ⟨⟩ := u
  have hP : va_P (dC, dI) vwCl [(mt, .inr (1, [.int mo, .ref ma, .int 3])), (mm, .inr (21, [.int 2, .ref ms, .ref mt, .ref mh, .ref me]))] H := hP
  have hD : va_D A [(mt, .inr (1, [.int mo, .ref ma, .int 3])), (mm, .inr (21, [.int 2, .ref ms, .ref mt, .ref mh, .ref me]))] := hD
  have hK : va_K (dC, dI) vwCl [(kO, .object "java/lang/Object"), (kT, .object "HornbookModel$Tree")] s := by simpa using hK
  have hw_17 : r_16 = 1 := hw_17
  have hw_17 := hw_17.symm
  subst hw_17
  refine lv_if_eq (tgt := 74) hx hb dX19_wouldChoose_69 (by decide) (fun c_18 => ?_) (fun c_18 => ?_)
  · exact absurd c_18 (by decide)
  refine lv_iconst (v := 0) hx hb dX19_wouldChoose_72 (by decide) ?_
  have hP9 := hP.sub (ws' := [(mm, .inr (21, [.int 2, .ref ms, .ref mt, .ref mh, .ref me]))]) [1] rfl
  have hD9 := hD.sub (ws' := [(mm, .inr (21, [.int 2, .ref ms, .ref mt, .ref mh, .ref me]))]) [1] (by decide) rfl
  have hK9 := hK.sub (tys' := []) [] rfl
  refine W.widen (k := 7) (n := 22) (Nat.le_of_ble_eq_true rfl) (Nat.le_of_ble_eq_true rfl) ?_
  exact W.iret (v := 0) hx hb hr (fun t ht hW => ⟨⟨0, (2, 0), rfl, ⟨rfl, by first | decide | simp [hx10, hx11, hx20, hx21], by first | exact fun h => absurd h (by decide) | exact fun _ => rfl | rfl | decide | simp⟩, ⟨by rw [ht]; exact hP9, va_K.moved hW.alike hK9, hD9⟩⟩, hS.F ht⟩) hS.2.2 dX19_wouldChoose_73

set_option maxHeartbeats 4000000 in
set_option maxRecDepth 100000 in
theorem c_M_would_Fnn0 (l : Launch) (eD eI : Nat) (ad : Nat → Nat) (dC : Nat → ClassId) (dI : Nat → Nat → Nat) (sz : Nat) (mm : Nat) (ms : Nat) (mt : Nat) (mh : Nat) (me : Nat) (mo : Int32) (ma : Nat) (kO : ClassId) (kT : ClassId) (t0 : Nat) (t1 : Nat) (t2 : Nat) (i0 : Nat) (i1 : Nat) (i2 : Nat) (th : Int32) (x2 : Int32) (hx20 : ¬ x2 < 0) (hx21 : ¬ 9 < x2) : Met l yX19_wouldChoose w_c_M_would ({ frames := 6, cells := 7, slots := 22, locals := 123 }) (va_Pc [.ref mm, .int 0, .int x2, .int (-1), .int (-1)] (zPre eD eI ad (dC, dI) [(mm, .inr (21, [.int th, .ref ms, .ref mt, .ref mh, .ref me])), (ms, .inr (1, [.int 0, .ref eD, .int 0])), (mt, .inr (1, [.int mo, .ref ma, .int 3])), (mh, .inr (1, [.int 0, .ref eD, .int 0])), (me, .inr (1, [.int 0, .ref eD, .int 0])), (ma, .inl (kO, 10, .inr (.inr (.inr (.inr (zfT t0 t1 t2)))))), (t0, .inr (18, [.int (-1), .ref i0])), (t1, .inr (18, [.int (-2), .ref i1])), (t2, .inr (18, [.int (-3), .ref i2])), (i0, .inl (kT, 0, .inr (.inr (.inr (.inr (fun _ => none)))))), (i1, .inl (kT, 0, .inr (.inr (.inr (.inr (fun _ => none)))))), (i2, .inl (kT, 0, .inr (.inr (.inr (.inr (fun _ => none))))))] [(kO, .object "java/lang/Object"), (kT, .object "HornbookModel$Tree")] sz)) (va_Qi (fun (r : Int32) (u : Int32 × Int32) => match u with | (th2, v2) => r = v2 ∧ th2 = (if (0 : Int32) < 0 ∨ 2 < (0 : Int32) then 1 else if ¬ (-1 : Int32) = (-1) ∧ ((-1 : Int32) < 0 ∨ 2 < (-1 : Int32)) then 1 else if ¬ (-1 : Int32) = (-1) ∧ ((-1 : Int32) < 0 ∨ 2 < (-1 : Int32)) then 1 else if x2 < 0 ∨ 9 < x2 then 2 else if (-1 : Int32) = (-1) ∧ ¬ (-1 : Int32) = (-1) then 2 else if (0 : Int32) = 2 ∨ (-1 : Int32) = 2 ∨ (-1 : Int32) = 2 then 2 else 0) ∧ (th2 = 0 → v2 = (-1))) (fun (u : Int32 × Int32) => match u with | (th2, v2) => zEnd (dC, dI) (va_A [(mm, .inr (21, [.int th, .ref ms, .ref mt, .ref mh, .ref me])), (ms, .inr (1, [.int 0, .ref eD, .int 0])), (mt, .inr (1, [.int mo, .ref ma, .int 3])), (mh, .inr (1, [.int 0, .ref eD, .int 0])), (me, .inr (1, [.int 0, .ref eD, .int 0])), (ma, .inl (kO, 10, .inr (.inr (.inr (.inr (zfT t0 t1 t2)))))), (t0, .inr (18, [.int (-1), .ref i0])), (t1, .inr (18, [.int (-2), .ref i1])), (t2, .inr (18, [.int (-3), .ref i2])), (i0, .inl (kT, 0, .inr (.inr (.inr (.inr (fun _ => none)))))), (i1, .inl (kT, 0, .inr (.inr (.inr (.inr (fun _ => none)))))), (i2, .inl (kT, 0, .inr (.inr (.inr (.inr (fun _ => none))))))] sz) [(mm, .inr (21, [.int th2, .ref ms, .ref mt, .ref mh, .ref me]))] []) (va_A [(mm, .inr (21, [.int th, .ref ms, .ref mt, .ref mh, .ref me])), (ms, .inr (1, [.int 0, .ref eD, .int 0])), (mt, .inr (1, [.int mo, .ref ma, .int 3])), (mh, .inr (1, [.int 0, .ref eD, .int 0])), (me, .inr (1, [.int 0, .ref eD, .int 0])), (ma, .inl (kO, 10, .inr (.inr (.inr (.inr (zfT t0 t1 t2)))))), (t0, .inr (18, [.int (-1), .ref i0])), (t1, .inr (18, [.int (-2), .ref i1])), (t2, .inr (18, [.int (-3), .ref i2])), (i0, .inl (kT, 0, .inr (.inr (.inr (.inr (fun _ => none)))))), (i1, .inl (kT, 0, .inr (.inr (.inr (.inr (fun _ => none)))))), (i2, .inl (kT, 0, .inr (.inr (.inr (.inr (fun _ => none))))))] sz)) 7 22 (va_A [(mm, .inr (21, [.int th, .ref ms, .ref mt, .ref mh, .ref me])), (ms, .inr (1, [.int 0, .ref eD, .int 0])), (mt, .inr (1, [.int mo, .ref ma, .int 3])), (mh, .inr (1, [.int 0, .ref eD, .int 0])), (me, .inr (1, [.int 0, .ref eD, .int 0])), (ma, .inl (kO, 10, .inr (.inr (.inr (.inr (zfT t0 t1 t2)))))), (t0, .inr (18, [.int (-1), .ref i0])), (t1, .inr (18, [.int (-2), .ref i1])), (t2, .inr (18, [.int (-3), .ref i2])), (i0, .inl (kT, 0, .inr (.inr (.inr (.inr (fun _ => none)))))), (i1, .inl (kT, 0, .inr (.inr (.inr (.inr (fun _ => none)))))), (i2, .inl (kT, 0, .inr (.inr (.inr (.inr (fun _ => none))))))] sz) := by
  refine Met.ofW (cc := cX19_wouldChoose) (maxL := 11) (ret := (some .int)) (by decide) rfl ?_
  intro p e s m args below meth c s₁ B hml hv
  obtain ⟨rfl, hsz, hP, hK, hD0, hE⟩ := hv
  have hx := B.exec
  have hb := B.bytes
  have hr := B.returns
  have hts := atoms_spec (ws := w_c_M_would) B.pre
  have hown : s.vm.findClass RX19 = some m.cls := findClass_of_methodNamed B.named
  have hlocks := B.notSynchronized
  subst hsz
  have hD := hD0.self (sz := s.heap.size)
  generalize hAe : va_A [(mm, .inr (21, [.int th, .ref ms, .ref mt, .ref mh, .ref me])), (ms, .inr (1, [.int 0, .ref eD, .int 0])), (mt, .inr (1, [.int mo, .ref ma, .int 3])), (mh, .inr (1, [.int 0, .ref eD, .int 0])), (me, .inr (1, [.int 0, .ref eD, .int 0])), (ma, .inl (kO, 10, .inr (.inr (.inr (.inr (zfT t0 t1 t2)))))), (t0, .inr (18, [.int (-1), .ref i0])), (t1, .inr (18, [.int (-2), .ref i1])), (t2, .inr (18, [.int (-3), .ref i2])), (i0, .inl (kT, 0, .inr (.inr (.inr (.inr (fun _ => none)))))), (i1, .inl (kT, 0, .inr (.inr (.inr (.inr (fun _ => none)))))), (i2, .inl (kT, 0, .inr (.inr (.inr (.inr (fun _ => none))))))] s.heap.size = A at hD hE ⊢
  have hA : ∀ q : Nat, s.heap.size ≤ q → A q := fun q h => by rw [← hAe]; exact Or.inr h
  have hS : va_S A s.heap s.heap [] := va_S.rf
  have hP : va_P (dC, dI) vwCl [(mm, .inr (21, [.int th, .ref ms, .ref mt, .ref mh, .ref me])), (ms, .inr (1, [.int 0, .ref eD, .int 0])), (mt, .inr (1, [.int mo, .ref ma, .int 3])), (mh, .inr (1, [.int 0, .ref eD, .int 0])), (me, .inr (1, [.int 0, .ref eD, .int 0])), (ma, .inl (kO, 10, .inr (.inr (.inr (.inr (zfT t0 t1 t2)))))), (t0, .inr (18, [.int (-1), .ref i0])), (t1, .inr (18, [.int (-2), .ref i1])), (t2, .inr (18, [.int (-3), .ref i2])), (i0, .inl (kT, 0, .inr (.inr (.inr (.inr (fun _ => none)))))), (i1, .inl (kT, 0, .inr (.inr (.inr (.inr (fun _ => none)))))), (i2, .inl (kT, 0, .inr (.inr (.inr (.inr (fun _ => none))))))] s.heap := hP
  have hl := lv_entry ([.ref mm, .int 0, .int x2, .int (-1), .int (-1)]) (n := 11) (Nat.le_of_ble_eq_true rfl)
  rw [lg_entry_eq]
  generalize (lg_sl ([.ref mm, .int 0, .int x2, .int (-1), .int (-1)]) ++ List.replicate (11 - (lg_sl ([.ref mm, .int 0, .int x2, .int (-1), .int (-1)])).length) Slot.unset).toArray = ls at hl ⊢
  have hl : lv_has ls 11 [(0, .ref mm), (1, .int 0), (2, .int x2), (3, .int (-1)), (4, .int (-1))] := hl
  have in_RJx4a65c : ∀ w ∈ u_ws RJx4a65c TJx4a65c 3, w ∈ w_c_M_would := by decide +kernel
  have in_RX16 : ∀ w ∈ u_ws RX16 TX16 2, w ∈ w_c_M_would := by decide +kernel
  have in_RX17 : ∀ w ∈ u_ws RX17 TX17 5, w ∈ w_c_M_would := by decide +kernel
  have in_RX18 : ∀ w ∈ u_ws RX18 TX18 7, w ∈ w_c_M_would := by decide +kernel
  have in_RX19 : ∀ w ∈ u_ws RX19 TX19 5, w ∈ w_c_M_would := by decide +kernel
  have hP := hP.sub (ws' := [(mm, .inr (21, [.int th, .ref ms, .ref mt, .ref mh, .ref me])), (mt, .inr (1, [.int mo, .ref ma, .int 3])), (mh, .inr (1, [.int 0, .ref eD, .int 0])), (ma, .inl (kO, 10, .inr (.inr (.inr (.inr (zfT t0 t1 t2)))))), (t0, .inr (18, [.int (-1), .ref i0])), (i0, .inl (kT, 0, .inr (.inr (.inr (.inr (fun _ => none))))))]) [0, 2, 3, 5, 6, 9] rfl
  have hD := hD.sub (ws' := [(mm, .inr (21, [.int th, .ref ms, .ref mt, .ref mh, .ref me])), (mt, .inr (1, [.int mo, .ref ma, .int 3])), (mh, .inr (1, [.int 0, .ref eD, .int 0])), (ma, .inl (kO, 10, .inr (.inr (.inr (.inr (zfT t0 t1 t2)))))), (t0, .inr (18, [.int (-1), .ref i0])), (i0, .inl (kT, 0, .inr (.inr (.inr (.inr (fun _ => none))))))]) [0, 2, 3, 5, 6, 9] (by decide) rfl
  refine lv_aload_n hx hb dX19_wouldChoose_0 rfl (lv_at hl 0 rfl) ?_
  refine lv_aload_n hx hb dX19_wouldChoose_1 rfl (lv_at hl 0 rfl) ?_
  refine lv_iload_n hx hb dX19_wouldChoose_2 rfl (lv_at hl 1 rfl) ?_
  refine z_i (wr := [(mh, .inr (1, [.int 0, .ref eD, .int 0])), (ma, .inl (kO, 10, .inr (.inr (.inr (.inr (zfT t0 t1 t2)))))), (t0, .inr (18, [.int (-1), .ref i0])), (i0, .inl (kT, 0, .inr (.inr (.inr (.inr (fun _ => none))))))]) (va_runV (As := [.int 0]) (rest := [.ref mm]) ⟨hx, hb, hml, hown, hts⟩ (c_M_isNoType_ok l eD eI ad dC dI s.heap.size mm ms mt mh me th ((.int mo)) ((.ref ma)) 0 (by decide) (by decide)) (cwV 1 hts g_c_M_would_3 rfl rfl rfl (by decide +kernel) ⟨Nat.le_of_ble_eq_true rfl, Nat.le_of_ble_eq_true rfl⟩) (z_preV (wc := [(mm, .inr (21, [.int th, .ref ms, .ref mt, .ref mh, .ref me])), (mt, .inr (1, [.int mo, .ref ma, .int 3]))]) hP hD hK hS hA hE [0, 1] [] rfl (by decide) rfl (ci := 21) (q0 := 0) rfl rfl) rfl rfl hl.1 rfl (lv_room (Nat.le_of_ble_eq_true rfl)) dX19_wouldChoose_3 ⟨Nat.le_of_ble_eq_true rfl, Nat.le_of_ble_eq_true rfl⟩) hP hD hK hS hA [0, 1] [2, 3, 4, 5] rfl rfl (by decide) (by decide) (fun r_1 u H locs hw_2 hP hD hK hS => ?_)
  obtain ⟨⟩ := u
  have hP : va_P (dC, dI) vwCl [(mh, .inr (1, [.int 0, .ref eD, .int 0])), (ma, .inl (kO, 10, .inr (.inr (.inr (.inr (zfT t0 t1 t2)))))), (t0, .inr (18, [.int (-1), .ref i0])), (i0, .inl (kT, 0, .inr (.inr (.inr (.inr (fun _ => none)))))), (mm, .inr (21, [.int th, .ref ms, .ref mt, .ref mh, .ref me])), (mt, .inr (1, [.int mo, .ref ma, .int 3]))] H := hP
  have hD : va_D A [(mh, .inr (1, [.int 0, .ref eD, .int 0])), (ma, .inl (kO, 10, .inr (.inr (.inr (.inr (zfT t0 t1 t2)))))), (t0, .inr (18, [.int (-1), .ref i0])), (i0, .inl (kT, 0, .inr (.inr (.inr (.inr (fun _ => none)))))), (mm, .inr (21, [.int th, .ref ms, .ref mt, .ref mh, .ref me])), (mt, .inr (1, [.int mo, .ref ma, .int 3]))] := hD
  have hK : va_K (dC, dI) vwCl [(kO, .object "java/lang/Object"), (kT, .object "HornbookModel$Tree")] s := by simpa using hK
  have hw_2 : r_1 = 0 := hw_2
  have hw_2 := hw_2.symm
  subst hw_2
  refine lv_if_ne (tgt := 26) hx hb dX19_wouldChoose_6 (by decide) (fun c_3 => ?_) (fun c_3 => ?_)
  · exact absurd (by decide) c_3
  refine lv_aload_n hx hb dX19_wouldChoose_9 rfl (lv_at hl 0 rfl) ?_
  refine lv_iload_n hx hb dX19_wouldChoose_10 rfl (lv_at hl 3 rfl) ?_
  refine z_i (wr := [(mh, .inr (1, [.int 0, .ref eD, .int 0])), (ma, .inl (kO, 10, .inr (.inr (.inr (.inr (zfT t0 t1 t2)))))), (t0, .inr (18, [.int (-1), .ref i0])), (i0, .inl (kT, 0, .inr (.inr (.inr (.inr (fun _ => none))))))]) (va_runV (As := [.int (-1)]) (rest := [.ref mm]) ⟨hx, hb, hml, hown, hts⟩ (c_M_isNoTypeN_none l eD eI ad dC dI H.size mm ms mt mh me th ((.int mo)) ((.ref ma))) (cwV 1 hts g_c_M_would_4 rfl rfl rfl (by decide +kernel) ⟨Nat.le_of_ble_eq_true rfl, Nat.le_of_ble_eq_true rfl⟩) (z_preV (wc := [(mm, .inr (21, [.int th, .ref ms, .ref mt, .ref mh, .ref me])), (mt, .inr (1, [.int mo, .ref ma, .int 3]))]) hP hD hK hS hA hE [4, 5] [] rfl (by decide) rfl (ci := 21) (q0 := 0) rfl rfl) rfl rfl hl.1 rfl (lv_room (Nat.le_of_ble_eq_true rfl)) dX19_wouldChoose_11 ⟨Nat.le_of_ble_eq_true rfl, Nat.le_of_ble_eq_true rfl⟩) hP hD hK hS hA [4, 5] [0, 1, 2, 3] rfl rfl (by decide) (by decide) (fun r_4 u H locs hw_5 hP hD hK hS => ?_)
  obtain ⟨⟩ := u
  have hP : va_P (dC, dI) vwCl [(mh, .inr (1, [.int 0, .ref eD, .int 0])), (ma, .inl (kO, 10, .inr (.inr (.inr (.inr (zfT t0 t1 t2)))))), (t0, .inr (18, [.int (-1), .ref i0])), (i0, .inl (kT, 0, .inr (.inr (.inr (.inr (fun _ => none)))))), (mm, .inr (21, [.int th, .ref ms, .ref mt, .ref mh, .ref me])), (mt, .inr (1, [.int mo, .ref ma, .int 3]))] H := hP
  have hD : va_D A [(mh, .inr (1, [.int 0, .ref eD, .int 0])), (ma, .inl (kO, 10, .inr (.inr (.inr (.inr (zfT t0 t1 t2)))))), (t0, .inr (18, [.int (-1), .ref i0])), (i0, .inl (kT, 0, .inr (.inr (.inr (.inr (fun _ => none)))))), (mm, .inr (21, [.int th, .ref ms, .ref mt, .ref mh, .ref me])), (mt, .inr (1, [.int mo, .ref ma, .int 3]))] := hD
  have hK : va_K (dC, dI) vwCl [(kO, .object "java/lang/Object"), (kT, .object "HornbookModel$Tree")] s := by simpa using hK
  have hw_5 : r_4 = 0 := hw_5
  have hw_5 := hw_5.symm
  subst hw_5
  refine lv_if_ne (tgt := 26) hx hb dX19_wouldChoose_14 (by decide) (fun c_6 => ?_) (fun c_6 => ?_)
  · exact absurd (by decide) c_6
  refine lv_aload_n hx hb dX19_wouldChoose_17 rfl (lv_at hl 0 rfl) ?_
  refine lv_iload hx hb dX19_wouldChoose_18 (lv_at hl 4 rfl) ?_
  refine z_i (wr := [(mh, .inr (1, [.int 0, .ref eD, .int 0])), (ma, .inl (kO, 10, .inr (.inr (.inr (.inr (zfT t0 t1 t2)))))), (t0, .inr (18, [.int (-1), .ref i0])), (i0, .inl (kT, 0, .inr (.inr (.inr (.inr (fun _ => none))))))]) (va_runV (As := [.int (-1)]) (rest := [.ref mm]) ⟨hx, hb, hml, hown, hts⟩ (c_M_isNoTypeN_none l eD eI ad dC dI H.size mm ms mt mh me th ((.int mo)) ((.ref ma))) (cwV 1 hts g_c_M_would_4 rfl rfl rfl (by decide +kernel) ⟨Nat.le_of_ble_eq_true rfl, Nat.le_of_ble_eq_true rfl⟩) (z_preV (wc := [(mm, .inr (21, [.int th, .ref ms, .ref mt, .ref mh, .ref me])), (mt, .inr (1, [.int mo, .ref ma, .int 3]))]) hP hD hK hS hA hE [4, 5] [] rfl (by decide) rfl (ci := 21) (q0 := 0) rfl rfl) rfl rfl hl.1 rfl (lv_room (Nat.le_of_ble_eq_true rfl)) dX19_wouldChoose_20 ⟨Nat.le_of_ble_eq_true rfl, Nat.le_of_ble_eq_true rfl⟩) hP hD hK hS hA [4, 5] [0, 1, 2, 3] rfl rfl (by decide) (by decide) (fun r_7 u H locs hw_8 hP hD hK hS => ?_)
  obtain ⟨⟩ := u
  have hP : va_P (dC, dI) vwCl [(mh, .inr (1, [.int 0, .ref eD, .int 0])), (ma, .inl (kO, 10, .inr (.inr (.inr (.inr (zfT t0 t1 t2)))))), (t0, .inr (18, [.int (-1), .ref i0])), (i0, .inl (kT, 0, .inr (.inr (.inr (.inr (fun _ => none)))))), (mm, .inr (21, [.int th, .ref ms, .ref mt, .ref mh, .ref me])), (mt, .inr (1, [.int mo, .ref ma, .int 3]))] H := hP
  have hD : va_D A [(mh, .inr (1, [.int 0, .ref eD, .int 0])), (ma, .inl (kO, 10, .inr (.inr (.inr (.inr (zfT t0 t1 t2)))))), (t0, .inr (18, [.int (-1), .ref i0])), (i0, .inl (kT, 0, .inr (.inr (.inr (.inr (fun _ => none)))))), (mm, .inr (21, [.int th, .ref ms, .ref mt, .ref mh, .ref me])), (mt, .inr (1, [.int mo, .ref ma, .int 3]))] := hD
  have hK : va_K (dC, dI) vwCl [(kO, .object "java/lang/Object"), (kT, .object "HornbookModel$Tree")] s := by simpa using hK
  have hw_8 : r_7 = 0 := hw_8
  have hw_8 := hw_8.symm
  subst hw_8
  refine lv_if_eq (tgt := 30) hx hb dX19_wouldChoose_23 (by decide) (fun c_9 => ?_) (fun c_9 => ?_)
  rotate_left
  · exact absurd (by decide) c_9
  refine lv_iconst (v := 0) hx hb dX19_wouldChoose_30 (by decide) ?_
  refine lv_iconst (v := 1) hx hb dX19_wouldChoose_31 (by decide) ?_
  refine z_i (wr := [(mh, .inr (1, [.int 0, .ref eD, .int 0])), (ma, .inl (kO, 10, .inr (.inr (.inr (.inr (zfT t0 t1 t2)))))), (t0, .inr (18, [.int (-1), .ref i0])), (i0, .inl (kT, 0, .inr (.inr (.inr (.inr (fun _ => none)))))), (mt, .inr (1, [.int mo, .ref ma, .int 3]))]) (va_runV (As := [.int 0, .int 1]) (rest := []) ⟨hx, hb, hml, hown, hts⟩ (c_M_start_no l eD eI ad dC dI H.size mm ((.ref ms)) ((.ref mt)) ((.ref mh)) ((.ref me)) 1 th) (cwV 2 hts g_c_M_would_5 rfl rfl rfl (by decide +kernel) ⟨Nat.le_of_ble_eq_true rfl, Nat.le_of_ble_eq_true rfl⟩) (z_preV (wc := [(mm, .inr (21, [.int th, .ref ms, .ref mt, .ref mh, .ref me]))]) hP hD hK hS hA hE [4] [] rfl (by decide) rfl (ci := 21) (q0 := 0) rfl rfl) rfl rfl hl.1 rfl (lv_room (Nat.le_of_ble_eq_true rfl)) dX19_wouldChoose_32 ⟨Nat.le_of_ble_eq_true rfl, Nat.le_of_ble_eq_true rfl⟩) hP hD hK hS hA [4] [0, 1, 2, 3, 5] rfl rfl (by decide) (by decide) (fun r_10 u H locs hw_11 hP hD hK hS => ?_)
  obtain ⟨⟩ := u
  have hP : va_P (dC, dI) vwCl [(mh, .inr (1, [.int 0, .ref eD, .int 0])), (ma, .inl (kO, 10, .inr (.inr (.inr (.inr (zfT t0 t1 t2)))))), (t0, .inr (18, [.int (-1), .ref i0])), (i0, .inl (kT, 0, .inr (.inr (.inr (.inr (fun _ => none)))))), (mt, .inr (1, [.int mo, .ref ma, .int 3])), (mm, .inr (21, [.int 0, .ref ms, .ref mt, .ref mh, .ref me]))] H := hP
  have hD : va_D A [(mh, .inr (1, [.int 0, .ref eD, .int 0])), (ma, .inl (kO, 10, .inr (.inr (.inr (.inr (zfT t0 t1 t2)))))), (t0, .inr (18, [.int (-1), .ref i0])), (i0, .inl (kT, 0, .inr (.inr (.inr (.inr (fun _ => none)))))), (mt, .inr (1, [.int mo, .ref ma, .int 3])), (mm, .inr (21, [.int 0, .ref ms, .ref mt, .ref mh, .ref me]))] := hD
  have hK : va_K (dC, dI) vwCl [(kO, .object "java/lang/Object"), (kT, .object "HornbookModel$Tree")] s := by simpa using hK
  have hw_11 : r_10 = 0 := hw_11
  have hw_11 := hw_11.symm
  subst hw_11
  refine lv_if_ne (tgt := 72) hx hb dX19_wouldChoose_35 (by decide) (fun c_12 => ?_) (fun c_12 => ?_)
  · exact absurd (by decide) c_12
  refine lv_aload_n hx hb dX19_wouldChoose_38 rfl (lv_at hl 0 rfl) ?_
  refine lv_iload_n hx hb dX19_wouldChoose_39 rfl (lv_at hl 2 rfl) ?_
  refine lv_iconst (v := 0) hx hb dX19_wouldChoose_40 (by decide) ?_
  refine lv_bipush (v := 9) hx hb dX19_wouldChoose_41 (by decide) ?_
  refine z_i (wr := [(mh, .inr (1, [.int 0, .ref eD, .int 0])), (ma, .inl (kO, 10, .inr (.inr (.inr (.inr (zfT t0 t1 t2)))))), (t0, .inr (18, [.int (-1), .ref i0])), (i0, .inl (kT, 0, .inr (.inr (.inr (.inr (fun _ => none)))))), (mt, .inr (1, [.int mo, .ref ma, .int 3])), (mm, .inr (21, [.int 0, .ref ms, .ref mt, .ref mh, .ref me]))]) (va_runS (As := [.int x2, .int 0, .int 9]) (rest := [.ref mm]) ⟨hx, hb, hml, hown, hts⟩ (c_M_isIn_ok l eD eI ad dC dI H.size x2 0 9 (hx20) (hx21)) (va_cwS 3 hts g_c_M_would_9 rfl rfl rfl (by decide +kernel) ⟨Nat.le_of_ble_eq_true rfl, Nat.le_of_ble_eq_true rfl⟩) (z_preS (wc := []) hP hD hK hS hA hE [] [] rfl (by decide) rfl) rfl rfl hl.1 rfl (lv_room (Nat.le_of_ble_eq_true rfl)) dX19_wouldChoose_43 ⟨Nat.le_of_ble_eq_true rfl, Nat.le_of_ble_eq_true rfl⟩) hP hD hK hS hA [] [0, 1, 2, 3, 4, 5] rfl rfl (by decide) (by decide) (fun r_13 u H locs hw_14 hP hD hK hS => ?_)
  obtain ⟨⟩ := u
  have hP : va_P (dC, dI) vwCl [(mh, .inr (1, [.int 0, .ref eD, .int 0])), (ma, .inl (kO, 10, .inr (.inr (.inr (.inr (zfT t0 t1 t2)))))), (t0, .inr (18, [.int (-1), .ref i0])), (i0, .inl (kT, 0, .inr (.inr (.inr (.inr (fun _ => none)))))), (mt, .inr (1, [.int mo, .ref ma, .int 3])), (mm, .inr (21, [.int 0, .ref ms, .ref mt, .ref mh, .ref me]))] H := hP
  have hD : va_D A [(mh, .inr (1, [.int 0, .ref eD, .int 0])), (ma, .inl (kO, 10, .inr (.inr (.inr (.inr (zfT t0 t1 t2)))))), (t0, .inr (18, [.int (-1), .ref i0])), (i0, .inl (kT, 0, .inr (.inr (.inr (.inr (fun _ => none)))))), (mt, .inr (1, [.int mo, .ref ma, .int 3])), (mm, .inr (21, [.int 0, .ref ms, .ref mt, .ref mh, .ref me]))] := hD
  have hK : va_K (dC, dI) vwCl [(kO, .object "java/lang/Object"), (kT, .object "HornbookModel$Tree")] s := by simpa using hK
  have hw_14 : r_13 = 1 := hw_14
  have hw_14 := hw_14.symm
  subst hw_14
  refine lv_if_eq (tgt := 60) hx hb dX19_wouldChoose_46 (by decide) (fun c_15 => ?_) (fun c_15 => ?_)
  · exact absurd c_15 (by decide)
  refine lv_iload_n hx hb dX19_wouldChoose_49 rfl (lv_at hl 3 rfl) ?_
  refine lv_iconst (v := (-1)) hx hb dX19_wouldChoose_50 (by decide) ?_
  refine lv_icmp_ne (tgt := 64) hx hb dX19_wouldChoose_51 (by decide) (fun c_16 => ?_) (fun c_16 => ?_)
  · exact absurd (by decide) c_16
  refine lv_iload hx hb dX19_wouldChoose_54 (lv_at hl 4 rfl) ?_
  refine lv_iconst (v := (-1)) hx hb dX19_wouldChoose_56 (by decide) ?_
  refine lv_icmp_eq (tgt := 64) hx hb dX19_wouldChoose_57 (by decide) (fun c_17 => ?_) (fun c_17 => ?_)
  rotate_left
  · exact absurd (by decide) c_17
  refine lv_iconst (v := 0) hx hb dX19_wouldChoose_64 (by decide) ?_
  refine lv_iconst (v := 2) hx hb dX19_wouldChoose_65 (by decide) ?_
  refine z_i (wr := [(mh, .inr (1, [.int 0, .ref eD, .int 0])), (ma, .inl (kO, 10, .inr (.inr (.inr (.inr (zfT t0 t1 t2)))))), (t0, .inr (18, [.int (-1), .ref i0])), (i0, .inl (kT, 0, .inr (.inr (.inr (.inr (fun _ => none)))))), (mt, .inr (1, [.int mo, .ref ma, .int 3]))]) (va_runV (As := [.int 0, .int 2]) (rest := []) ⟨hx, hb, hml, hown, hts⟩ (c_M_refuse_no l eD eI ad dC dI H.size mm ((.ref ms)) ((.ref mt)) ((.ref mh)) ((.ref me)) 2) (cwV 2 hts g_c_M_would_10 rfl rfl rfl (by decide +kernel) ⟨Nat.le_of_ble_eq_true rfl, Nat.le_of_ble_eq_true rfl⟩) (z_preV (wc := [(mm, .inr (21, [.int 0, .ref ms, .ref mt, .ref mh, .ref me]))]) hP hD hK hS hA hE [5] [] rfl (by decide) rfl (ci := 21) (q0 := 0) rfl rfl) rfl rfl hl.1 rfl (lv_room (Nat.le_of_ble_eq_true rfl)) dX19_wouldChoose_66 ⟨Nat.le_of_ble_eq_true rfl, Nat.le_of_ble_eq_true rfl⟩) hP hD hK hS hA [5] [0, 1, 2, 3, 4] rfl rfl (by decide) (by decide) (fun r_18 u H locs hw_19 hP hD hK hS => ?_)
  obtain ⟨⟩ := u
  have hP : va_P (dC, dI) vwCl [(mh, .inr (1, [.int 0, .ref eD, .int 0])), (ma, .inl (kO, 10, .inr (.inr (.inr (.inr (zfT t0 t1 t2)))))), (t0, .inr (18, [.int (-1), .ref i0])), (i0, .inl (kT, 0, .inr (.inr (.inr (.inr (fun _ => none)))))), (mt, .inr (1, [.int mo, .ref ma, .int 3])), (mm, .inr (21, [.int 0, .ref ms, .ref mt, .ref mh, .ref me]))] H := hP
  have hD : va_D A [(mh, .inr (1, [.int 0, .ref eD, .int 0])), (ma, .inl (kO, 10, .inr (.inr (.inr (.inr (zfT t0 t1 t2)))))), (t0, .inr (18, [.int (-1), .ref i0])), (i0, .inl (kT, 0, .inr (.inr (.inr (.inr (fun _ => none)))))), (mt, .inr (1, [.int mo, .ref ma, .int 3])), (mm, .inr (21, [.int 0, .ref ms, .ref mt, .ref mh, .ref me]))] := hD
  have hK : va_K (dC, dI) vwCl [(kO, .object "java/lang/Object"), (kT, .object "HornbookModel$Tree")] s := by simpa using hK
  have hw_19 : r_18 = 0 := hw_19
  have hw_19 := hw_19.symm
  subst hw_19
  refine lv_if_eq (tgt := 74) hx hb dX19_wouldChoose_69 (by decide) (fun c_20 => ?_) (fun c_20 => ?_)
  rotate_left
  · exact absurd (by decide) c_20
  refine lv_aload_n hx hb dX19_wouldChoose_74 rfl (lv_at hl 0 rfl) ?_
  refine lv_iload_n hx hb dX19_wouldChoose_75 rfl (lv_at hl 3 rfl) ?_
  refine lv_iload hx hb dX19_wouldChoose_76 (lv_at hl 4 rfl) ?_
  refine z_q (wr := [(mh, .inr (1, [.int 0, .ref eD, .int 0])), (t0, .inr (18, [.int (-1), .ref i0])), (i0, .inl (kT, 0, .inr (.inr (.inr (.inr (fun _ => none))))))]) (va_runV (As := [.int (-1), .int (-1)]) (rest := []) ⟨hx, hb, hml, hown, hts⟩ (c_M_trees_n l eD eI ad dC dI H.size mm ms mt mh me 0 mo ma kO t0 t1 t2) (cwV 2 hts g_c_M_would_11 rfl rfl rfl (by decide +kernel) ⟨Nat.le_of_ble_eq_true rfl, Nat.le_of_ble_eq_true rfl⟩) (z_preV (wc := [(mm, .inr (21, [.int 0, .ref ms, .ref mt, .ref mh, .ref me])), (mt, .inr (1, [.int mo, .ref ma, .int 3])), (ma, .inl (kO, 10, .inr (.inr (.inr (.inr (zfT t0 t1 t2))))))]) hP hD hK hS hA hE [5, 4, 1] [0] rfl (by decide) rfl (ci := 21) (q0 := 0) rfl rfl) rfl rfl hl.1 rfl (lv_room (Nat.le_of_ble_eq_true rfl)) dX19_wouldChoose_78 ⟨Nat.le_of_ble_eq_true rfl, Nat.le_of_ble_eq_true rfl⟩) hP hD hK hS hA [5, 4, 1] [0, 2, 3] rfl rfl (by decide) (by decide) (fun r_23 u H locs hw_24 hP hD hK hS => ?_)
  obtain ⟨u_21, u_22⟩ := u
  have hP : va_P (dC, dI) vwCl [(mh, .inr (1, [.int 0, .ref eD, .int 0])), (t0, .inr (18, [.int (-1), .ref i0])), (i0, .inl (kT, 0, .inr (.inr (.inr (.inr (fun _ => none)))))), (mm, .inr (21, [.int 0, .ref ms, .ref mt, .ref mh, .ref me])), (mt, .inr (1, [.int mo, .ref ma, .int 3])), (ma, .inl (kO, 10, .inr (.inr (.inr (.inr (zfT t0 t1 t2)))))), (u_21, .inl (u_22, 0, .inr (.inr (.inr (.inr (fun _ => none))))))] H := hP
  have hD : va_D A [(mh, .inr (1, [.int 0, .ref eD, .int 0])), (t0, .inr (18, [.int (-1), .ref i0])), (i0, .inl (kT, 0, .inr (.inr (.inr (.inr (fun _ => none)))))), (mm, .inr (21, [.int 0, .ref ms, .ref mt, .ref mh, .ref me])), (mt, .inr (1, [.int mo, .ref ma, .int 3])), (ma, .inl (kO, 10, .inr (.inr (.inr (.inr (zfT t0 t1 t2)))))), (u_21, .inl (u_22, 0, .inr (.inr (.inr (.inr (fun _ => none))))))] := hD
  have hK : va_K (dC, dI) vwCl [(kO, .object "java/lang/Object"), (kT, .object "HornbookModel$Tree"), (kO, .object "java/lang/Object"), (u_22, .object "HornbookModel$Tree")] s := hK
  have hw_24 : r_23 = some u_21 := hw_24
  have hw_24 := hw_24.symm
  subst hw_24
  refine W.eq (g2 := F0 m 81 ls (.ref u_21 :: [])) rfl ?_
  refine lv_astore (lv' := [(5, .ref u_21), (0, .ref mm), (1, .int 0), (2, .int x2), (3, .int (-1)), (4, .int (-1))]) hx hb dX19_wouldChoose_81 hl (by decide) rfl (fun ls hl => ?_)
  refine lv_aload_n hx hb dX19_wouldChoose_83 rfl (lv_at hl 1 rfl) ?_
  refine lv_iload_n hx hb dX19_wouldChoose_84 rfl (lv_at hl 2 rfl) ?_
  refine z_q (wr := [(mh, .inr (1, [.int 0, .ref eD, .int 0])), (i0, .inl (kT, 0, .inr (.inr (.inr (.inr (fun _ => none)))))), (u_21, .inl (u_22, 0, .inr (.inr (.inr (.inr (fun _ => none))))))]) (va_runV (As := [.int 0]) (rest := []) ⟨hx, hb, hml, hown, hts⟩ (c_M_type_0 l eD eI ad dC dI H.size mm ms mt mh me 0 mo ma kO t0 t1 t2 ((.ref i0))) (cwV 1 hts g_c_M_would_12 rfl rfl rfl (by decide +kernel) ⟨Nat.le_of_ble_eq_true rfl, Nat.le_of_ble_eq_true rfl⟩) (z_preV (wc := [(mm, .inr (21, [.int 0, .ref ms, .ref mt, .ref mh, .ref me])), (mt, .inr (1, [.int mo, .ref ma, .int 3])), (ma, .inl (kO, 10, .inr (.inr (.inr (.inr (zfT t0 t1 t2)))))), (t0, .inr (18, [.int (-1), .ref i0]))]) hP hD hK hS hA hE [3, 4, 5, 1] [0] rfl (by decide) rfl (ci := 21) (q0 := 0) rfl rfl) rfl rfl hl.1 rfl (lv_room (Nat.le_of_ble_eq_true rfl)) dX19_wouldChoose_85 ⟨Nat.le_of_ble_eq_true rfl, Nat.le_of_ble_eq_true rfl⟩) hP hD hK hS hA [3, 4, 5, 1] [0, 2, 6] rfl rfl (by decide) (by decide) (fun r_25 u H locs hw_26 hP hD hK hS => ?_)
  obtain ⟨⟩ := u
  have hP : va_P (dC, dI) vwCl [(mh, .inr (1, [.int 0, .ref eD, .int 0])), (i0, .inl (kT, 0, .inr (.inr (.inr (.inr (fun _ => none)))))), (u_21, .inl (u_22, 0, .inr (.inr (.inr (.inr (fun _ => none)))))), (mm, .inr (21, [.int 0, .ref ms, .ref mt, .ref mh, .ref me])), (mt, .inr (1, [.int mo, .ref ma, .int 3])), (ma, .inl (kO, 10, .inr (.inr (.inr (.inr (zfT t0 t1 t2)))))), (t0, .inr (18, [.int (-1), .ref i0]))] H := hP
  have hD : va_D A [(mh, .inr (1, [.int 0, .ref eD, .int 0])), (i0, .inl (kT, 0, .inr (.inr (.inr (.inr (fun _ => none)))))), (u_21, .inl (u_22, 0, .inr (.inr (.inr (.inr (fun _ => none)))))), (mm, .inr (21, [.int 0, .ref ms, .ref mt, .ref mh, .ref me])), (mt, .inr (1, [.int mo, .ref ma, .int 3])), (ma, .inl (kO, 10, .inr (.inr (.inr (.inr (zfT t0 t1 t2)))))), (t0, .inr (18, [.int (-1), .ref i0]))] := hD
  have hK : va_K (dC, dI) vwCl [(kO, .object "java/lang/Object"), (kT, .object "HornbookModel$Tree"), (kO, .object "java/lang/Object"), (u_22, .object "HornbookModel$Tree")] s := by simpa using hK
  have hw_26 : r_25 = some t0 := hw_26
  have hw_26 := hw_26.symm
  subst hw_26
  refine W.eq (g2 := F0 m 88 ls (.ref t0 :: [])) rfl ?_
  refine z_i (wr := [(mh, .inr (1, [.int 0, .ref eD, .int 0])), (u_21, .inl (u_22, 0, .inr (.inr (.inr (.inr (fun _ => none)))))), (mm, .inr (21, [.int 0, .ref ms, .ref mt, .ref mh, .ref me])), (mt, .inr (1, [.int mo, .ref ma, .int 3])), (ma, .inl (kO, 10, .inr (.inr (.inr (.inr (zfT t0 t1 t2))))))]) (va_runV (As := []) (rest := []) ⟨hx, hb, hml, hown, hts⟩ (c_T_isClosed_1 l eD eI ad dC dI H.size t0 i0 kT) (cwV 0 hts g_c_M_would_13 rfl rfl rfl (by decide +kernel) ⟨Nat.le_of_ble_eq_true rfl, Nat.le_of_ble_eq_true rfl⟩) (z_preV (wc := [(t0, .inr (18, [.int (-1), .ref i0])), (i0, .inl (kT, 0, .inr (.inr (.inr (.inr (fun _ => none))))))]) hP hD hK hS hA hE [6, 1] [1] rfl (by decide) rfl (ci := 18) (q0 := 0) rfl rfl) rfl rfl hl.1 rfl (lv_room (Nat.le_of_ble_eq_true rfl)) dX19_wouldChoose_88 ⟨Nat.le_of_ble_eq_true rfl, Nat.le_of_ble_eq_true rfl⟩) hP hD hK hS hA [6, 1] [0, 2, 3, 4, 5] rfl rfl (by decide) (by decide) (fun r_27 u H locs hw_28 hP hD hK hS => ?_)
  obtain ⟨⟩ := u
  have hP : va_P (dC, dI) vwCl [(mh, .inr (1, [.int 0, .ref eD, .int 0])), (u_21, .inl (u_22, 0, .inr (.inr (.inr (.inr (fun _ => none)))))), (mm, .inr (21, [.int 0, .ref ms, .ref mt, .ref mh, .ref me])), (mt, .inr (1, [.int mo, .ref ma, .int 3])), (ma, .inl (kO, 10, .inr (.inr (.inr (.inr (zfT t0 t1 t2)))))), (t0, .inr (18, [.int (-1), .ref i0])), (i0, .inl (kT, 0, .inr (.inr (.inr (.inr (fun _ => none))))))] H := hP
  have hD : va_D A [(mh, .inr (1, [.int 0, .ref eD, .int 0])), (u_21, .inl (u_22, 0, .inr (.inr (.inr (.inr (fun _ => none)))))), (mm, .inr (21, [.int 0, .ref ms, .ref mt, .ref mh, .ref me])), (mt, .inr (1, [.int mo, .ref ma, .int 3])), (ma, .inl (kO, 10, .inr (.inr (.inr (.inr (zfT t0 t1 t2)))))), (t0, .inr (18, [.int (-1), .ref i0])), (i0, .inl (kT, 0, .inr (.inr (.inr (.inr (fun _ => none))))))] := hD
  have hK : va_K (dC, dI) vwCl [(kO, .object "java/lang/Object"), (kT, .object "HornbookModel$Tree"), (kO, .object "java/lang/Object"), (u_22, .object "HornbookModel$Tree")] s := by simpa using hK
  have hw_28 : r_27 = 1 := hw_28
  have hw_28 := hw_28.symm
  subst hw_28
  refine lv_istore (lv' := [(6, .int 1), (5, .ref u_21), (0, .ref mm), (1, .int 0), (2, .int x2), (3, .int (-1)), (4, .int (-1))]) hx hb dX19_wouldChoose_91 hl (by decide) rfl (fun ls hl => ?_)
  refine lv_aload hx hb dX19_wouldChoose_93 (lv_at hl 1 rfl) ?_
  refine lv_astore (lv' := [(7, .ref u_21), (6, .int 1), (5, .ref u_21), (0, .ref mm), (1, .int 0), (2, .int x2), (3, .int (-1)), (4, .int (-1))]) hx hb dX19_wouldChoose_95 hl (by decide) rfl (fun ls hl => ?_)
  refine lv_aload hx hb dX19_wouldChoose_97 (lv_at hl 0 rfl) ?_
  refine va_alen (D := (dC, dI)) (v := 0) hx hb hK hP 1 3 rfl rfl rfl dX19_wouldChoose_99 ?_
  refine lv_istore (lv' := [(8, .int 0), (7, .ref u_21), (6, .int 1), (5, .ref u_21), (0, .ref mm), (1, .int 0), (2, .int x2), (3, .int (-1)), (4, .int (-1))]) hx hb dX19_wouldChoose_100 hl (by decide) rfl (fun ls hl => ?_)
  refine lv_iconst (v := 0) hx hb dX19_wouldChoose_102 (by decide) ?_
  refine lv_istore (lv' := [(9, .int 0), (8, .int 0), (7, .ref u_21), (6, .int 1), (5, .ref u_21), (0, .ref mm), (1, .int 0), (2, .int x2), (3, .int (-1)), (4, .int (-1))]) hx hb dX19_wouldChoose_103 hl (by decide) rfl (fun ls hl => ?_)
  refine lv_iload hx hb dX19_wouldChoose_105 (lv_at hl 0 rfl) ?_
  refine lv_iload hx hb dX19_wouldChoose_107 (lv_at hl 1 rfl) ?_
  refine lv_icmp_ge (tgt := 135) hx hb dX19_wouldChoose_109 (by decide) (fun c_29 => ?_) (fun c_29 => ?_)
  rotate_left
  · exact absurd (by decide) c_29
  refine lv_aload_n hx hb dX19_wouldChoose_135 rfl (lv_at hl 5 rfl) ?_
  refine lv_iload hx hb dX19_wouldChoose_136 (lv_at hl 3 rfl) ?_
  refine lv_if_ne (tgt := 145) hx hb dX19_wouldChoose_138 (by decide) (fun c_30 => ?_) (fun c_30 => ?_)
  rotate_left
  · exact absurd c_30 (by decide)
  refine lv_iconst (v := 0) hx hb dX19_wouldChoose_145 (by decide) ?_
  refine lv_iconst (v := 2) hx hb dX19_wouldChoose_146 (by decide) ?_
  refine z_i (wr := [(mh, .inr (1, [.int 0, .ref eD, .int 0])), (u_21, .inl (u_22, 0, .inr (.inr (.inr (.inr (fun _ => none)))))), (mt, .inr (1, [.int mo, .ref ma, .int 3])), (ma, .inl (kO, 10, .inr (.inr (.inr (.inr (zfT t0 t1 t2)))))), (t0, .inr (18, [.int (-1), .ref i0])), (i0, .inl (kT, 0, .inr (.inr (.inr (.inr (fun _ => none))))))]) (va_runV (As := [.int 0, .int 2]) (rest := []) ⟨hx, hb, hml, hown, hts⟩ (c_M_refuse_no l eD eI ad dC dI H.size mm ((.ref ms)) ((.ref mt)) ((.ref mh)) ((.ref me)) 2) (cwV 2 hts g_c_M_would_10 rfl rfl rfl (by decide +kernel) ⟨Nat.le_of_ble_eq_true rfl, Nat.le_of_ble_eq_true rfl⟩) (z_preV (wc := [(mm, .inr (21, [.int 0, .ref ms, .ref mt, .ref mh, .ref me]))]) hP hD hK hS hA hE [2] [] rfl (by decide) rfl (ci := 21) (q0 := 0) rfl rfl) rfl rfl hl.1 rfl (lv_room (Nat.le_of_ble_eq_true rfl)) dX19_wouldChoose_147 ⟨Nat.le_of_ble_eq_true rfl, Nat.le_of_ble_eq_true rfl⟩) hP hD hK hS hA [2] [0, 1, 3, 4, 5, 6] rfl rfl (by decide) (by decide) (fun r_31 u H locs hw_32 hP hD hK hS => ?_)
  obtain ⟨⟩ := u
  have hP : va_P (dC, dI) vwCl [(mh, .inr (1, [.int 0, .ref eD, .int 0])), (u_21, .inl (u_22, 0, .inr (.inr (.inr (.inr (fun _ => none)))))), (mt, .inr (1, [.int mo, .ref ma, .int 3])), (ma, .inl (kO, 10, .inr (.inr (.inr (.inr (zfT t0 t1 t2)))))), (t0, .inr (18, [.int (-1), .ref i0])), (i0, .inl (kT, 0, .inr (.inr (.inr (.inr (fun _ => none)))))), (mm, .inr (21, [.int 0, .ref ms, .ref mt, .ref mh, .ref me]))] H := hP
  have hD : va_D A [(mh, .inr (1, [.int 0, .ref eD, .int 0])), (u_21, .inl (u_22, 0, .inr (.inr (.inr (.inr (fun _ => none)))))), (mt, .inr (1, [.int mo, .ref ma, .int 3])), (ma, .inl (kO, 10, .inr (.inr (.inr (.inr (zfT t0 t1 t2)))))), (t0, .inr (18, [.int (-1), .ref i0])), (i0, .inl (kT, 0, .inr (.inr (.inr (.inr (fun _ => none)))))), (mm, .inr (21, [.int 0, .ref ms, .ref mt, .ref mh, .ref me]))] := hD
  have hK : va_K (dC, dI) vwCl [(kO, .object "java/lang/Object"), (kT, .object "HornbookModel$Tree"), (kO, .object "java/lang/Object"), (u_22, .object "HornbookModel$Tree")] s := by simpa using hK
  have hw_32 : r_31 = 0 := hw_32
  have hw_32 := hw_32.symm
  subst hw_32
  refine lv_if_eq (tgt := 155) hx hb dX19_wouldChoose_150 (by decide) (fun c_33 => ?_) (fun c_33 => ?_)
  rotate_left
  · exact absurd (by decide) c_33
  refine va_new (ci := 20) (fs := [.null, .int 0, .int 0, .int 0, .null, .int 0, .int 0]) (C := RX18) (T := TX18) (N := 7) hx hb hts in_RX18 tyX18 tyX18_ok hown (hts (.classLink RX19 184 RX18) (by decide +kernel)) (hts (.instantiable RX18 7) (by decide +kernel)) (hts (.initialized RX18) (by decide +kernel)) hK hP hD hS hA rfl (fun j hj => by rcases (show j = 0 ∨ j = 1 ∨ j = 2 ∨ j = 3 ∨ j = 4 ∨ j = 5 ∨ j = 6 by omega) with rfl | rfl | rfl | rfl | rfl | rfl | rfl <;> rfl) (Nat.le_of_ble_eq_true rfl) (Nat.le_of_ble_eq_true rfl) dX19_wouldChoose_155 (fun q_34 H hP hD hS => ?_)
  have hP : va_P (dC, dI) vwCl [(mh, .inr (1, [.int 0, .ref eD, .int 0])), (u_21, .inl (u_22, 0, .inr (.inr (.inr (.inr (fun _ => none)))))), (mt, .inr (1, [.int mo, .ref ma, .int 3])), (ma, .inl (kO, 10, .inr (.inr (.inr (.inr (zfT t0 t1 t2)))))), (t0, .inr (18, [.int (-1), .ref i0])), (i0, .inl (kT, 0, .inr (.inr (.inr (.inr (fun _ => none)))))), (mm, .inr (21, [.int 0, .ref ms, .ref mt, .ref mh, .ref me])), (q_34, .inr (20, [.null, .int 0, .int 0, .int 0, .null, .int 0, .int 0]))] H := hP
  have hD : va_D A [(mh, .inr (1, [.int 0, .ref eD, .int 0])), (u_21, .inl (u_22, 0, .inr (.inr (.inr (.inr (fun _ => none)))))), (mt, .inr (1, [.int mo, .ref ma, .int 3])), (ma, .inl (kO, 10, .inr (.inr (.inr (.inr (zfT t0 t1 t2)))))), (t0, .inr (18, [.int (-1), .ref i0])), (i0, .inl (kT, 0, .inr (.inr (.inr (.inr (fun _ => none)))))), (mm, .inr (21, [.int 0, .ref ms, .ref mt, .ref mh, .ref me])), (q_34, .inr (20, [.null, .int 0, .int 0, .int 0, .null, .int 0, .int 0]))] := hD
  refine lv_dup hx hb dX19_wouldChoose_158 rfl ?_
  refine z_v (wr := [(mh, .inr (1, [.int 0, .ref eD, .int 0])), (u_21, .inl (u_22, 0, .inr (.inr (.inr (.inr (fun _ => none)))))), (mt, .inr (1, [.int mo, .ref ma, .int 3])), (ma, .inl (kO, 10, .inr (.inr (.inr (.inr (zfT t0 t1 t2)))))), (t0, .inr (18, [.int (-1), .ref i0])), (i0, .inl (kT, 0, .inr (.inr (.inr (.inr (fun _ => none)))))), (mm, .inr (21, [.int 0, .ref ms, .ref mt, .ref mh, .ref me]))]) (va_runIN (As := []) (rest := [.ref q_34]) ⟨hx, hb, hml, hown, hts⟩ (c_W_init l eD eI ad dC dI H.size q_34) (⟨va_cnB 0 hts g_c_M_would_14 rfl rfl rfl (hE.2.2.1 (.methodLinkNest RX19 226 yX18_init "HornbookModel") (by decide +kernel)) (hts (.initialized RX18) (by decide +kernel)) (by decide +kernel) ⟨Nat.le_of_ble_eq_true rfl, Nat.le_of_ble_eq_true rfl⟩, rfl, (hts (.instanceMethod yX18_init) (by decide +kernel))⟩) (z_preS (wc := [(q_34, .inr (20, [.null, .int 0, .int 0, .int 0, .null, .int 0, .int 0]))]) hP hD hK hS hA hE [7] [] rfl (by decide) rfl) rfl rfl hl.1 rfl (lv_room (Nat.le_of_ble_eq_true rfl)) dX19_wouldChoose_159 ⟨Nat.le_of_ble_eq_true rfl, Nat.le_of_ble_eq_true rfl⟩) hP hD hK hS hA [7] [0, 1, 2, 3, 4, 5, 6] rfl rfl (by decide) (by decide) (fun u H locs hw_36 hP hD hK hS => ?_)
  obtain ⟨⟩ := u
  have hP : va_P (dC, dI) vwCl [(mh, .inr (1, [.int 0, .ref eD, .int 0])), (u_21, .inl (u_22, 0, .inr (.inr (.inr (.inr (fun _ => none)))))), (mt, .inr (1, [.int mo, .ref ma, .int 3])), (ma, .inl (kO, 10, .inr (.inr (.inr (.inr (zfT t0 t1 t2)))))), (t0, .inr (18, [.int (-1), .ref i0])), (i0, .inl (kT, 0, .inr (.inr (.inr (.inr (fun _ => none)))))), (mm, .inr (21, [.int 0, .ref ms, .ref mt, .ref mh, .ref me])), (q_34, .inr (20, [.null, .int 0, .int 0, .int (-1), .null, .int 0, .int 0]))] H := hP
  have hD : va_D A [(mh, .inr (1, [.int 0, .ref eD, .int 0])), (u_21, .inl (u_22, 0, .inr (.inr (.inr (.inr (fun _ => none)))))), (mt, .inr (1, [.int mo, .ref ma, .int 3])), (ma, .inl (kO, 10, .inr (.inr (.inr (.inr (zfT t0 t1 t2)))))), (t0, .inr (18, [.int (-1), .ref i0])), (i0, .inl (kT, 0, .inr (.inr (.inr (.inr (fun _ => none)))))), (mm, .inr (21, [.int 0, .ref ms, .ref mt, .ref mh, .ref me])), (q_34, .inr (20, [.null, .int 0, .int 0, .int (-1), .null, .int 0, .int 0]))] := hD
  have hK : va_K (dC, dI) vwCl [(kO, .object "java/lang/Object"), (kT, .object "HornbookModel$Tree"), (kO, .object "java/lang/Object"), (u_22, .object "HornbookModel$Tree")] s := by simpa using hK
  refine lv_astore (lv' := [(7, .ref q_34), (9, .int 0), (8, .int 0), (6, .int 1), (5, .ref u_21), (0, .ref mm), (1, .int 0), (2, .int x2), (3, .int (-1)), (4, .int (-1))]) hx hb dX19_wouldChoose_162 hl (by decide) rfl (fun ls hl => ?_)
  refine lv_aload_n hx hb dX19_wouldChoose_164 rfl (lv_at hl 5 rfl) ?_
  refine z_q (wr := [(mh, .inr (1, [.int 0, .ref eD, .int 0])), (u_21, .inl (u_22, 0, .inr (.inr (.inr (.inr (fun _ => none)))))), (mt, .inr (1, [.int mo, .ref ma, .int 3])), (ma, .inl (kO, 10, .inr (.inr (.inr (.inr (zfT t0 t1 t2)))))), (t0, .inr (18, [.int (-1), .ref i0])), (i0, .inl (kT, 0, .inr (.inr (.inr (.inr (fun _ => none)))))), (q_34, .inr (20, [.null, .int 0, .int 0, .int (-1), .null, .int 0, .int 0]))]) (va_runV (As := []) (rest := []) ⟨hx, hb, hml, hown, hts⟩ (c_M_view l eD eI ad dC dI H.size mm ms mt mh me 0) (cwV 0 hts g_c_M_would_15 rfl rfl rfl (by decide +kernel) ⟨Nat.le_of_ble_eq_true rfl, Nat.le_of_ble_eq_true rfl⟩) (z_preV (wc := [(mm, .inr (21, [.int 0, .ref ms, .ref mt, .ref mh, .ref me]))]) hP hD hK hS hA hE [6] [] rfl (by decide) rfl (ci := 21) (q0 := 0) rfl rfl) rfl rfl hl.1 rfl (lv_room (Nat.le_of_ble_eq_true rfl)) dX19_wouldChoose_165 ⟨Nat.le_of_ble_eq_true rfl, Nat.le_of_ble_eq_true rfl⟩) hP hD hK hS hA [6] [0, 1, 2, 3, 4, 5, 7] rfl rfl (by decide) (by decide) (fun r_38 u H locs hw_39 hP hD hK hS => ?_)
  obtain ⟨u_37, rfl⟩ : ∃ z, z = u := ⟨_, rfl⟩
  have hP : va_P (dC, dI) vwCl [(mh, .inr (1, [.int 0, .ref eD, .int 0])), (u_21, .inl (u_22, 0, .inr (.inr (.inr (.inr (fun _ => none)))))), (mt, .inr (1, [.int mo, .ref ma, .int 3])), (ma, .inl (kO, 10, .inr (.inr (.inr (.inr (zfT t0 t1 t2)))))), (t0, .inr (18, [.int (-1), .ref i0])), (i0, .inl (kT, 0, .inr (.inr (.inr (.inr (fun _ => none)))))), (q_34, .inr (20, [.null, .int 0, .int 0, .int (-1), .null, .int 0, .int 0])), (mm, .inr (21, [.int 0, .ref ms, .ref mt, .ref mh, .ref me])), (u_37, .inr (19, [.int (-1), .int (-1), .int (-1), .int (-1), .ref mm]))] H := hP
  have hD : va_D A [(mh, .inr (1, [.int 0, .ref eD, .int 0])), (u_21, .inl (u_22, 0, .inr (.inr (.inr (.inr (fun _ => none)))))), (mt, .inr (1, [.int mo, .ref ma, .int 3])), (ma, .inl (kO, 10, .inr (.inr (.inr (.inr (zfT t0 t1 t2)))))), (t0, .inr (18, [.int (-1), .ref i0])), (i0, .inl (kT, 0, .inr (.inr (.inr (.inr (fun _ => none)))))), (q_34, .inr (20, [.null, .int 0, .int 0, .int (-1), .null, .int 0, .int 0])), (mm, .inr (21, [.int 0, .ref ms, .ref mt, .ref mh, .ref me])), (u_37, .inr (19, [.int (-1), .int (-1), .int (-1), .int (-1), .ref mm]))] := hD
  have hK : va_K (dC, dI) vwCl [(kO, .object "java/lang/Object"), (kT, .object "HornbookModel$Tree"), (kO, .object "java/lang/Object"), (u_22, .object "HornbookModel$Tree")] s := by simpa using hK
  have hw_39 : r_38 = some u_37 := hw_39
  have hw_39 := hw_39.symm
  subst hw_39
  refine W.eq (g2 := F0 m 168 ls (.ref u_37 :: [])) rfl ?_
  refine lv_aload_n hx hb dX19_wouldChoose_168 rfl (lv_at hl 5 rfl) ?_
  refine lv_iload_n hx hb dX19_wouldChoose_169 rfl (lv_at hl 6 rfl) ?_
  refine z_q (wr := [(mh, .inr (1, [.int 0, .ref eD, .int 0])), (u_21, .inl (u_22, 0, .inr (.inr (.inr (.inr (fun _ => none)))))), (i0, .inl (kT, 0, .inr (.inr (.inr (.inr (fun _ => none)))))), (q_34, .inr (20, [.null, .int 0, .int 0, .int (-1), .null, .int 0, .int 0])), (u_37, .inr (19, [.int (-1), .int (-1), .int (-1), .int (-1), .ref mm]))]) (va_runV (As := [.int 0]) (rest := [.ref u_37]) ⟨hx, hb, hml, hown, hts⟩ (c_M_type_0 l eD eI ad dC dI H.size mm ms mt mh me 0 mo ma kO t0 t1 t2 ((.ref i0))) (cwV 1 hts g_c_M_would_12 rfl rfl rfl (by decide +kernel) ⟨Nat.le_of_ble_eq_true rfl, Nat.le_of_ble_eq_true rfl⟩) (z_preV (wc := [(mm, .inr (21, [.int 0, .ref ms, .ref mt, .ref mh, .ref me])), (mt, .inr (1, [.int mo, .ref ma, .int 3])), (ma, .inl (kO, 10, .inr (.inr (.inr (.inr (zfT t0 t1 t2)))))), (t0, .inr (18, [.int (-1), .ref i0]))]) hP hD hK hS hA hE [7, 2, 3, 4] [0] rfl (by decide) rfl (ci := 21) (q0 := 0) rfl rfl) rfl rfl hl.1 rfl (lv_room (Nat.le_of_ble_eq_true rfl)) dX19_wouldChoose_170 ⟨Nat.le_of_ble_eq_true rfl, Nat.le_of_ble_eq_true rfl⟩) hP hD hK hS hA [7, 2, 3, 4] [0, 1, 5, 6, 8] rfl rfl (by decide) (by decide) (fun r_40 u H locs hw_41 hP hD hK hS => ?_)
  obtain ⟨⟩ := u
  have hP : va_P (dC, dI) vwCl [(mh, .inr (1, [.int 0, .ref eD, .int 0])), (u_21, .inl (u_22, 0, .inr (.inr (.inr (.inr (fun _ => none)))))), (i0, .inl (kT, 0, .inr (.inr (.inr (.inr (fun _ => none)))))), (q_34, .inr (20, [.null, .int 0, .int 0, .int (-1), .null, .int 0, .int 0])), (u_37, .inr (19, [.int (-1), .int (-1), .int (-1), .int (-1), .ref mm])), (mm, .inr (21, [.int 0, .ref ms, .ref mt, .ref mh, .ref me])), (mt, .inr (1, [.int mo, .ref ma, .int 3])), (ma, .inl (kO, 10, .inr (.inr (.inr (.inr (zfT t0 t1 t2)))))), (t0, .inr (18, [.int (-1), .ref i0]))] H := hP
  have hD : va_D A [(mh, .inr (1, [.int 0, .ref eD, .int 0])), (u_21, .inl (u_22, 0, .inr (.inr (.inr (.inr (fun _ => none)))))), (i0, .inl (kT, 0, .inr (.inr (.inr (.inr (fun _ => none)))))), (q_34, .inr (20, [.null, .int 0, .int 0, .int (-1), .null, .int 0, .int 0])), (u_37, .inr (19, [.int (-1), .int (-1), .int (-1), .int (-1), .ref mm])), (mm, .inr (21, [.int 0, .ref ms, .ref mt, .ref mh, .ref me])), (mt, .inr (1, [.int mo, .ref ma, .int 3])), (ma, .inl (kO, 10, .inr (.inr (.inr (.inr (zfT t0 t1 t2)))))), (t0, .inr (18, [.int (-1), .ref i0]))] := hD
  have hK : va_K (dC, dI) vwCl [(kO, .object "java/lang/Object"), (kT, .object "HornbookModel$Tree"), (kO, .object "java/lang/Object"), (u_22, .object "HornbookModel$Tree")] s := by simpa using hK
  have hw_41 : r_40 = some t0 := hw_41
  have hw_41 := hw_41.symm
  subst hw_41
  refine W.eq (g2 := F0 m 173 ls (.ref t0 :: .ref u_37 :: [])) rfl ?_
  refine lv_iload_n hx hb dX19_wouldChoose_173 rfl (lv_at hl 7 rfl) ?_
  refine lv_aload hx hb dX19_wouldChoose_174 (lv_at hl 4 rfl) ?_
  refine lv_aload hx hb dX19_wouldChoose_176 (lv_at hl 0 rfl) ?_
  refine z_v (wr := [(u_21, .inl (u_22, 0, .inr (.inr (.inr (.inr (fun _ => none)))))), (i0, .inl (kT, 0, .inr (.inr (.inr (.inr (fun _ => none)))))), (mt, .inr (1, [.int mo, .ref ma, .int 3])), (ma, .inl (kO, 10, .inr (.inr (.inr (.inr (zfT t0 t1 t2))))))]) (va_runV (As := [.ref t0, .int x2, .ref u_21, .ref q_34]) (rest := []) ⟨hx, hb, hml, hown, hts⟩ (c_V_call l eD eI ad dC dI H.size u_37 mm ms mt mh me 0 t0 (-1) ((.ref i0)) x2 u_21 q_34 (by decide)) (cwV 4 hts g_c_M_would_16 rfl rfl rfl (by decide +kernel) ⟨Nat.le_of_ble_eq_true rfl, Nat.le_of_ble_eq_true rfl⟩) (z_preV (wc := [(u_37, .inr (19, [.int (-1), .int (-1), .int (-1), .int (-1), .ref mm])), (mm, .inr (21, [.int 0, .ref ms, .ref mt, .ref mh, .ref me])), (mh, .inr (1, [.int 0, .ref eD, .int 0])), (t0, .inr (18, [.int (-1), .ref i0])), (q_34, .inr (20, [.null, .int 0, .int 0, .int (-1), .null, .int 0, .int 0]))]) hP hD hK hS hA hE [4, 5, 0, 8, 3] [] rfl (by decide) rfl (ci := 19) (q0 := 0) rfl rfl) rfl rfl hl.1 rfl (lv_room (Nat.le_of_ble_eq_true rfl)) dX19_wouldChoose_178 ⟨Nat.le_of_ble_eq_true rfl, Nat.le_of_ble_eq_true rfl⟩) hP hD hK hS hA [4, 5, 0, 8, 3] [1, 2, 6, 7] rfl rfl (by decide) (by decide) (fun u H locs hw_44 hP hD hK hS => ?_)
  obtain ⟨u_42, rfl⟩ : ∃ z, z = u := ⟨_, rfl⟩
  have hP : va_P (dC, dI) vwCl [(u_21, .inl (u_22, 0, .inr (.inr (.inr (.inr (fun _ => none)))))), (i0, .inl (kT, 0, .inr (.inr (.inr (.inr (fun _ => none)))))), (mt, .inr (1, [.int mo, .ref ma, .int 3])), (ma, .inl (kO, 10, .inr (.inr (.inr (.inr (zfT t0 t1 t2)))))), (mm, .inr (21, [.int 0, .ref ms, .ref mt, .ref mh, .ref me])), (q_34, .inr (20, [.ref u_42, .int 0, .int 0, .int (-1), .null, .int 1, .int 0]))] H := hP
  have hD : va_D A [(u_21, .inl (u_22, 0, .inr (.inr (.inr (.inr (fun _ => none)))))), (i0, .inl (kT, 0, .inr (.inr (.inr (.inr (fun _ => none)))))), (mt, .inr (1, [.int mo, .ref ma, .int 3])), (ma, .inl (kO, 10, .inr (.inr (.inr (.inr (zfT t0 t1 t2)))))), (mm, .inr (21, [.int 0, .ref ms, .ref mt, .ref mh, .ref me])), (q_34, .inr (20, [.ref u_42, .int 0, .int 0, .int (-1), .null, .int 1, .int 0]))] := hD
  have hK : va_K (dC, dI) vwCl [(kO, .object "java/lang/Object"), (kT, .object "HornbookModel$Tree"), (kO, .object "java/lang/Object"), (u_22, .object "HornbookModel$Tree")] s := by simpa using hK
  refine lv_aload hx hb dX19_wouldChoose_181 (lv_at hl 0 rfl) ?_
  refine va_get (D := (dC, dI)) (ci := 20) (v := .int 1) (C := RX18) (T := TX18) (N := 7) hx hb hts in_RX18 hown hK hP 5 rfl rfl 5 (by decide) (hts (.fieldLink RX19 231 "HornbookModel$Word" "fault" "I") (by decide +kernel)) (fun _ h9 => h9) rfl dX19_wouldChoose_183 ?_
  refine lv_if_le (tgt := 198) hx hb dX19_wouldChoose_186 (by decide) (fun c_45 => ?_) (fun c_45 => ?_)
  · exact absurd c_45 (by decide)
  refine lv_aload hx hb dX19_wouldChoose_189 (lv_at hl 0 rfl) ?_
  refine va_get (D := (dC, dI)) (ci := 20) (v := .int 1) (C := RX18) (T := TX18) (N := 7) hx hb hts in_RX18 hown hK hP 5 rfl rfl 5 (by decide) (hts (.fieldLink RX19 231 "HornbookModel$Word" "fault" "I") (by decide +kernel)) (fun _ h9 => h9) rfl dX19_wouldChoose_191 ?_
  refine lv_ineg hx hb dX19_wouldChoose_194 ?_
  refine z_top (v' := .int (-1)) (congrArg Value.int (by decide)) ?_
  refine lv_goto (tgt := 203) hx hb dX19_wouldChoose_195 (by decide) ?_
  have hP9 := hP.sub (ws' := [(mm, .inr (21, [.int 0, .ref ms, .ref mt, .ref mh, .ref me]))]) [4] rfl
  have hD9 := hD.sub (ws' := [(mm, .inr (21, [.int 0, .ref ms, .ref mt, .ref mh, .ref me]))]) [4] (by decide) rfl
  have hK9 := hK.sub (tys' := []) [] rfl
  refine W.widen (k := 7) (n := 22) (Nat.le_of_ble_eq_true rfl) (Nat.le_of_ble_eq_true rfl) ?_
  exact W.iret (v := (-1)) hx hb hr (fun t ht hW => ⟨⟨(-1), (0, (-1)), rfl, ⟨rfl, by first | decide | simp [hx20, hx21], by first | exact fun h => absurd h (by decide) | exact fun _ => rfl | rfl | decide | simp⟩, ⟨by rw [ht]; exact hP9, va_K.moved hW.alike hK9, hD9⟩⟩, hS.F ht⟩) hS.2.2 dX19_wouldChoose_203

set_option maxHeartbeats 4000000 in
set_option maxRecDepth 100000 in
theorem c_M_would_Fnn1 (l : Launch) (eD eI : Nat) (ad : Nat → Nat) (dC : Nat → ClassId) (dI : Nat → Nat → Nat) (sz : Nat) (mm : Nat) (ms : Nat) (mt : Nat) (mh : Nat) (me : Nat) (mo : Int32) (ma : Nat) (kO : ClassId) (kT : ClassId) (t0 : Nat) (t1 : Nat) (t2 : Nat) (i0 : Nat) (i1 : Nat) (i2 : Nat) (th : Int32) (x2 : Int32) (hx20 : ¬ x2 < 0) (hx21 : ¬ 9 < x2) : Met l yX19_wouldChoose w_c_M_would ({ frames := 6, cells := 7, slots := 22, locals := 123 }) (va_Pc [.ref mm, .int 1, .int x2, .int (-1), .int (-1)] (zPre eD eI ad (dC, dI) [(mm, .inr (21, [.int th, .ref ms, .ref mt, .ref mh, .ref me])), (ms, .inr (1, [.int 0, .ref eD, .int 0])), (mt, .inr (1, [.int mo, .ref ma, .int 3])), (mh, .inr (1, [.int 0, .ref eD, .int 0])), (me, .inr (1, [.int 0, .ref eD, .int 0])), (ma, .inl (kO, 10, .inr (.inr (.inr (.inr (zfT t0 t1 t2)))))), (t0, .inr (18, [.int (-1), .ref i0])), (t1, .inr (18, [.int (-2), .ref i1])), (t2, .inr (18, [.int (-3), .ref i2])), (i0, .inl (kT, 0, .inr (.inr (.inr (.inr (fun _ => none)))))), (i1, .inl (kT, 0, .inr (.inr (.inr (.inr (fun _ => none)))))), (i2, .inl (kT, 0, .inr (.inr (.inr (.inr (fun _ => none))))))] [(kO, .object "java/lang/Object"), (kT, .object "HornbookModel$Tree")] sz)) (va_Qi (fun (r : Int32) (u : Int32 × Int32) => match u with | (th2, v2) => r = v2 ∧ th2 = (if (1 : Int32) < 0 ∨ 2 < (1 : Int32) then 1 else if ¬ (-1 : Int32) = (-1) ∧ ((-1 : Int32) < 0 ∨ 2 < (-1 : Int32)) then 1 else if ¬ (-1 : Int32) = (-1) ∧ ((-1 : Int32) < 0 ∨ 2 < (-1 : Int32)) then 1 else if x2 < 0 ∨ 9 < x2 then 2 else if (-1 : Int32) = (-1) ∧ ¬ (-1 : Int32) = (-1) then 2 else if (1 : Int32) = 2 ∨ (-1 : Int32) = 2 ∨ (-1 : Int32) = 2 then 2 else 0) ∧ (th2 = 0 → v2 = (-1))) (fun (u : Int32 × Int32) => match u with | (th2, v2) => zEnd (dC, dI) (va_A [(mm, .inr (21, [.int th, .ref ms, .ref mt, .ref mh, .ref me])), (ms, .inr (1, [.int 0, .ref eD, .int 0])), (mt, .inr (1, [.int mo, .ref ma, .int 3])), (mh, .inr (1, [.int 0, .ref eD, .int 0])), (me, .inr (1, [.int 0, .ref eD, .int 0])), (ma, .inl (kO, 10, .inr (.inr (.inr (.inr (zfT t0 t1 t2)))))), (t0, .inr (18, [.int (-1), .ref i0])), (t1, .inr (18, [.int (-2), .ref i1])), (t2, .inr (18, [.int (-3), .ref i2])), (i0, .inl (kT, 0, .inr (.inr (.inr (.inr (fun _ => none)))))), (i1, .inl (kT, 0, .inr (.inr (.inr (.inr (fun _ => none)))))), (i2, .inl (kT, 0, .inr (.inr (.inr (.inr (fun _ => none))))))] sz) [(mm, .inr (21, [.int th2, .ref ms, .ref mt, .ref mh, .ref me]))] []) (va_A [(mm, .inr (21, [.int th, .ref ms, .ref mt, .ref mh, .ref me])), (ms, .inr (1, [.int 0, .ref eD, .int 0])), (mt, .inr (1, [.int mo, .ref ma, .int 3])), (mh, .inr (1, [.int 0, .ref eD, .int 0])), (me, .inr (1, [.int 0, .ref eD, .int 0])), (ma, .inl (kO, 10, .inr (.inr (.inr (.inr (zfT t0 t1 t2)))))), (t0, .inr (18, [.int (-1), .ref i0])), (t1, .inr (18, [.int (-2), .ref i1])), (t2, .inr (18, [.int (-3), .ref i2])), (i0, .inl (kT, 0, .inr (.inr (.inr (.inr (fun _ => none)))))), (i1, .inl (kT, 0, .inr (.inr (.inr (.inr (fun _ => none)))))), (i2, .inl (kT, 0, .inr (.inr (.inr (.inr (fun _ => none))))))] sz)) 7 22 (va_A [(mm, .inr (21, [.int th, .ref ms, .ref mt, .ref mh, .ref me])), (ms, .inr (1, [.int 0, .ref eD, .int 0])), (mt, .inr (1, [.int mo, .ref ma, .int 3])), (mh, .inr (1, [.int 0, .ref eD, .int 0])), (me, .inr (1, [.int 0, .ref eD, .int 0])), (ma, .inl (kO, 10, .inr (.inr (.inr (.inr (zfT t0 t1 t2)))))), (t0, .inr (18, [.int (-1), .ref i0])), (t1, .inr (18, [.int (-2), .ref i1])), (t2, .inr (18, [.int (-3), .ref i2])), (i0, .inl (kT, 0, .inr (.inr (.inr (.inr (fun _ => none)))))), (i1, .inl (kT, 0, .inr (.inr (.inr (.inr (fun _ => none)))))), (i2, .inl (kT, 0, .inr (.inr (.inr (.inr (fun _ => none))))))] sz) := by
  refine Met.ofW (cc := cX19_wouldChoose) (maxL := 11) (ret := (some .int)) (by decide) rfl ?_
  intro p e s m args below meth c s₁ B hml hv
  obtain ⟨rfl, hsz, hP, hK, hD0, hE⟩ := hv
  have hx := B.exec
  have hb := B.bytes
  have hr := B.returns
  have hts := atoms_spec (ws := w_c_M_would) B.pre
  have hown : s.vm.findClass RX19 = some m.cls := findClass_of_methodNamed B.named
  have hlocks := B.notSynchronized
  subst hsz
  have hD := hD0.self (sz := s.heap.size)
  generalize hAe : va_A [(mm, .inr (21, [.int th, .ref ms, .ref mt, .ref mh, .ref me])), (ms, .inr (1, [.int 0, .ref eD, .int 0])), (mt, .inr (1, [.int mo, .ref ma, .int 3])), (mh, .inr (1, [.int 0, .ref eD, .int 0])), (me, .inr (1, [.int 0, .ref eD, .int 0])), (ma, .inl (kO, 10, .inr (.inr (.inr (.inr (zfT t0 t1 t2)))))), (t0, .inr (18, [.int (-1), .ref i0])), (t1, .inr (18, [.int (-2), .ref i1])), (t2, .inr (18, [.int (-3), .ref i2])), (i0, .inl (kT, 0, .inr (.inr (.inr (.inr (fun _ => none)))))), (i1, .inl (kT, 0, .inr (.inr (.inr (.inr (fun _ => none)))))), (i2, .inl (kT, 0, .inr (.inr (.inr (.inr (fun _ => none))))))] s.heap.size = A at hD hE ⊢
  have hA : ∀ q : Nat, s.heap.size ≤ q → A q := fun q h => by rw [← hAe]; exact Or.inr h
  have hS : va_S A s.heap s.heap [] := va_S.rf
  have hP : va_P (dC, dI) vwCl [(mm, .inr (21, [.int th, .ref ms, .ref mt, .ref mh, .ref me])), (ms, .inr (1, [.int 0, .ref eD, .int 0])), (mt, .inr (1, [.int mo, .ref ma, .int 3])), (mh, .inr (1, [.int 0, .ref eD, .int 0])), (me, .inr (1, [.int 0, .ref eD, .int 0])), (ma, .inl (kO, 10, .inr (.inr (.inr (.inr (zfT t0 t1 t2)))))), (t0, .inr (18, [.int (-1), .ref i0])), (t1, .inr (18, [.int (-2), .ref i1])), (t2, .inr (18, [.int (-3), .ref i2])), (i0, .inl (kT, 0, .inr (.inr (.inr (.inr (fun _ => none)))))), (i1, .inl (kT, 0, .inr (.inr (.inr (.inr (fun _ => none)))))), (i2, .inl (kT, 0, .inr (.inr (.inr (.inr (fun _ => none))))))] s.heap := hP
  have hl := lv_entry ([.ref mm, .int 1, .int x2, .int (-1), .int (-1)]) (n := 11) (Nat.le_of_ble_eq_true rfl)
  rw [lg_entry_eq]
  generalize (lg_sl ([.ref mm, .int 1, .int x2, .int (-1), .int (-1)]) ++ List.replicate (11 - (lg_sl ([.ref mm, .int 1, .int x2, .int (-1), .int (-1)])).length) Slot.unset).toArray = ls at hl ⊢
  have hl : lv_has ls 11 [(0, .ref mm), (1, .int 1), (2, .int x2), (3, .int (-1)), (4, .int (-1))] := hl
  have in_RJx4a65c : ∀ w ∈ u_ws RJx4a65c TJx4a65c 3, w ∈ w_c_M_would := by decide +kernel
  have in_RX16 : ∀ w ∈ u_ws RX16 TX16 2, w ∈ w_c_M_would := by decide +kernel
  have in_RX18 : ∀ w ∈ u_ws RX18 TX18 7, w ∈ w_c_M_would := by decide +kernel
  have in_RX19 : ∀ w ∈ u_ws RX19 TX19 5, w ∈ w_c_M_would := by decide +kernel
  have hP := hP.sub (ws' := [(mm, .inr (21, [.int th, .ref ms, .ref mt, .ref mh, .ref me])), (mt, .inr (1, [.int mo, .ref ma, .int 3])), (mh, .inr (1, [.int 0, .ref eD, .int 0])), (ma, .inl (kO, 10, .inr (.inr (.inr (.inr (zfT t0 t1 t2)))))), (t1, .inr (18, [.int (-2), .ref i1])), (i1, .inl (kT, 0, .inr (.inr (.inr (.inr (fun _ => none))))))]) [0, 2, 3, 5, 7, 10] rfl
  have hD := hD.sub (ws' := [(mm, .inr (21, [.int th, .ref ms, .ref mt, .ref mh, .ref me])), (mt, .inr (1, [.int mo, .ref ma, .int 3])), (mh, .inr (1, [.int 0, .ref eD, .int 0])), (ma, .inl (kO, 10, .inr (.inr (.inr (.inr (zfT t0 t1 t2)))))), (t1, .inr (18, [.int (-2), .ref i1])), (i1, .inl (kT, 0, .inr (.inr (.inr (.inr (fun _ => none))))))]) [0, 2, 3, 5, 7, 10] (by decide) rfl
  refine lv_aload_n hx hb dX19_wouldChoose_0 rfl (lv_at hl 0 rfl) ?_
  refine lv_aload_n hx hb dX19_wouldChoose_1 rfl (lv_at hl 0 rfl) ?_
  refine lv_iload_n hx hb dX19_wouldChoose_2 rfl (lv_at hl 1 rfl) ?_
  refine z_i (wr := [(mh, .inr (1, [.int 0, .ref eD, .int 0])), (ma, .inl (kO, 10, .inr (.inr (.inr (.inr (zfT t0 t1 t2)))))), (t1, .inr (18, [.int (-2), .ref i1])), (i1, .inl (kT, 0, .inr (.inr (.inr (.inr (fun _ => none))))))]) (va_runV (As := [.int 1]) (rest := [.ref mm]) ⟨hx, hb, hml, hown, hts⟩ (c_M_isNoType_ok l eD eI ad dC dI s.heap.size mm ms mt mh me th ((.int mo)) ((.ref ma)) 1 (by decide) (by decide)) (cwV 1 hts g_c_M_would_3 rfl rfl rfl (by decide +kernel) ⟨Nat.le_of_ble_eq_true rfl, Nat.le_of_ble_eq_true rfl⟩) (z_preV (wc := [(mm, .inr (21, [.int th, .ref ms, .ref mt, .ref mh, .ref me])), (mt, .inr (1, [.int mo, .ref ma, .int 3]))]) hP hD hK hS hA hE [0, 1] [] rfl (by decide) rfl (ci := 21) (q0 := 0) rfl rfl) rfl rfl hl.1 rfl (lv_room (Nat.le_of_ble_eq_true rfl)) dX19_wouldChoose_3 ⟨Nat.le_of_ble_eq_true rfl, Nat.le_of_ble_eq_true rfl⟩) hP hD hK hS hA [0, 1] [2, 3, 4, 5] rfl rfl (by decide) (by decide) (fun r_1 u H locs hw_2 hP hD hK hS => ?_)
  obtain ⟨⟩ := u
  have hP : va_P (dC, dI) vwCl [(mh, .inr (1, [.int 0, .ref eD, .int 0])), (ma, .inl (kO, 10, .inr (.inr (.inr (.inr (zfT t0 t1 t2)))))), (t1, .inr (18, [.int (-2), .ref i1])), (i1, .inl (kT, 0, .inr (.inr (.inr (.inr (fun _ => none)))))), (mm, .inr (21, [.int th, .ref ms, .ref mt, .ref mh, .ref me])), (mt, .inr (1, [.int mo, .ref ma, .int 3]))] H := hP
  have hD : va_D A [(mh, .inr (1, [.int 0, .ref eD, .int 0])), (ma, .inl (kO, 10, .inr (.inr (.inr (.inr (zfT t0 t1 t2)))))), (t1, .inr (18, [.int (-2), .ref i1])), (i1, .inl (kT, 0, .inr (.inr (.inr (.inr (fun _ => none)))))), (mm, .inr (21, [.int th, .ref ms, .ref mt, .ref mh, .ref me])), (mt, .inr (1, [.int mo, .ref ma, .int 3]))] := hD
  have hK : va_K (dC, dI) vwCl [(kO, .object "java/lang/Object"), (kT, .object "HornbookModel$Tree")] s := by simpa using hK
  have hw_2 : r_1 = 0 := hw_2
  have hw_2 := hw_2.symm
  subst hw_2
  refine lv_if_ne (tgt := 26) hx hb dX19_wouldChoose_6 (by decide) (fun c_3 => ?_) (fun c_3 => ?_)
  · exact absurd (by decide) c_3
  refine lv_aload_n hx hb dX19_wouldChoose_9 rfl (lv_at hl 0 rfl) ?_
  refine lv_iload_n hx hb dX19_wouldChoose_10 rfl (lv_at hl 3 rfl) ?_
  refine z_i (wr := [(mh, .inr (1, [.int 0, .ref eD, .int 0])), (ma, .inl (kO, 10, .inr (.inr (.inr (.inr (zfT t0 t1 t2)))))), (t1, .inr (18, [.int (-2), .ref i1])), (i1, .inl (kT, 0, .inr (.inr (.inr (.inr (fun _ => none))))))]) (va_runV (As := [.int (-1)]) (rest := [.ref mm]) ⟨hx, hb, hml, hown, hts⟩ (c_M_isNoTypeN_none l eD eI ad dC dI H.size mm ms mt mh me th ((.int mo)) ((.ref ma))) (cwV 1 hts g_c_M_would_4 rfl rfl rfl (by decide +kernel) ⟨Nat.le_of_ble_eq_true rfl, Nat.le_of_ble_eq_true rfl⟩) (z_preV (wc := [(mm, .inr (21, [.int th, .ref ms, .ref mt, .ref mh, .ref me])), (mt, .inr (1, [.int mo, .ref ma, .int 3]))]) hP hD hK hS hA hE [4, 5] [] rfl (by decide) rfl (ci := 21) (q0 := 0) rfl rfl) rfl rfl hl.1 rfl (lv_room (Nat.le_of_ble_eq_true rfl)) dX19_wouldChoose_11 ⟨Nat.le_of_ble_eq_true rfl, Nat.le_of_ble_eq_true rfl⟩) hP hD hK hS hA [4, 5] [0, 1, 2, 3] rfl rfl (by decide) (by decide) (fun r_4 u H locs hw_5 hP hD hK hS => ?_)
  obtain ⟨⟩ := u
  have hP : va_P (dC, dI) vwCl [(mh, .inr (1, [.int 0, .ref eD, .int 0])), (ma, .inl (kO, 10, .inr (.inr (.inr (.inr (zfT t0 t1 t2)))))), (t1, .inr (18, [.int (-2), .ref i1])), (i1, .inl (kT, 0, .inr (.inr (.inr (.inr (fun _ => none)))))), (mm, .inr (21, [.int th, .ref ms, .ref mt, .ref mh, .ref me])), (mt, .inr (1, [.int mo, .ref ma, .int 3]))] H := hP
  have hD : va_D A [(mh, .inr (1, [.int 0, .ref eD, .int 0])), (ma, .inl (kO, 10, .inr (.inr (.inr (.inr (zfT t0 t1 t2)))))), (t1, .inr (18, [.int (-2), .ref i1])), (i1, .inl (kT, 0, .inr (.inr (.inr (.inr (fun _ => none)))))), (mm, .inr (21, [.int th, .ref ms, .ref mt, .ref mh, .ref me])), (mt, .inr (1, [.int mo, .ref ma, .int 3]))] := hD
  have hK : va_K (dC, dI) vwCl [(kO, .object "java/lang/Object"), (kT, .object "HornbookModel$Tree")] s := by simpa using hK
  have hw_5 : r_4 = 0 := hw_5
  have hw_5 := hw_5.symm
  subst hw_5
  refine lv_if_ne (tgt := 26) hx hb dX19_wouldChoose_14 (by decide) (fun c_6 => ?_) (fun c_6 => ?_)
  · exact absurd (by decide) c_6
  refine lv_aload_n hx hb dX19_wouldChoose_17 rfl (lv_at hl 0 rfl) ?_
  refine lv_iload hx hb dX19_wouldChoose_18 (lv_at hl 4 rfl) ?_
  refine z_i (wr := [(mh, .inr (1, [.int 0, .ref eD, .int 0])), (ma, .inl (kO, 10, .inr (.inr (.inr (.inr (zfT t0 t1 t2)))))), (t1, .inr (18, [.int (-2), .ref i1])), (i1, .inl (kT, 0, .inr (.inr (.inr (.inr (fun _ => none))))))]) (va_runV (As := [.int (-1)]) (rest := [.ref mm]) ⟨hx, hb, hml, hown, hts⟩ (c_M_isNoTypeN_none l eD eI ad dC dI H.size mm ms mt mh me th ((.int mo)) ((.ref ma))) (cwV 1 hts g_c_M_would_4 rfl rfl rfl (by decide +kernel) ⟨Nat.le_of_ble_eq_true rfl, Nat.le_of_ble_eq_true rfl⟩) (z_preV (wc := [(mm, .inr (21, [.int th, .ref ms, .ref mt, .ref mh, .ref me])), (mt, .inr (1, [.int mo, .ref ma, .int 3]))]) hP hD hK hS hA hE [4, 5] [] rfl (by decide) rfl (ci := 21) (q0 := 0) rfl rfl) rfl rfl hl.1 rfl (lv_room (Nat.le_of_ble_eq_true rfl)) dX19_wouldChoose_20 ⟨Nat.le_of_ble_eq_true rfl, Nat.le_of_ble_eq_true rfl⟩) hP hD hK hS hA [4, 5] [0, 1, 2, 3] rfl rfl (by decide) (by decide) (fun r_7 u H locs hw_8 hP hD hK hS => ?_)
  obtain ⟨⟩ := u
  have hP : va_P (dC, dI) vwCl [(mh, .inr (1, [.int 0, .ref eD, .int 0])), (ma, .inl (kO, 10, .inr (.inr (.inr (.inr (zfT t0 t1 t2)))))), (t1, .inr (18, [.int (-2), .ref i1])), (i1, .inl (kT, 0, .inr (.inr (.inr (.inr (fun _ => none)))))), (mm, .inr (21, [.int th, .ref ms, .ref mt, .ref mh, .ref me])), (mt, .inr (1, [.int mo, .ref ma, .int 3]))] H := hP
  have hD : va_D A [(mh, .inr (1, [.int 0, .ref eD, .int 0])), (ma, .inl (kO, 10, .inr (.inr (.inr (.inr (zfT t0 t1 t2)))))), (t1, .inr (18, [.int (-2), .ref i1])), (i1, .inl (kT, 0, .inr (.inr (.inr (.inr (fun _ => none)))))), (mm, .inr (21, [.int th, .ref ms, .ref mt, .ref mh, .ref me])), (mt, .inr (1, [.int mo, .ref ma, .int 3]))] := hD
  have hK : va_K (dC, dI) vwCl [(kO, .object "java/lang/Object"), (kT, .object "HornbookModel$Tree")] s := by simpa using hK
  have hw_8 : r_7 = 0 := hw_8
  have hw_8 := hw_8.symm
  subst hw_8
  refine lv_if_eq (tgt := 30) hx hb dX19_wouldChoose_23 (by decide) (fun c_9 => ?_) (fun c_9 => ?_)
  rotate_left
  · exact absurd (by decide) c_9
  refine lv_iconst (v := 0) hx hb dX19_wouldChoose_30 (by decide) ?_
  refine lv_iconst (v := 1) hx hb dX19_wouldChoose_31 (by decide) ?_
  refine z_i (wr := [(mh, .inr (1, [.int 0, .ref eD, .int 0])), (ma, .inl (kO, 10, .inr (.inr (.inr (.inr (zfT t0 t1 t2)))))), (t1, .inr (18, [.int (-2), .ref i1])), (i1, .inl (kT, 0, .inr (.inr (.inr (.inr (fun _ => none)))))), (mt, .inr (1, [.int mo, .ref ma, .int 3]))]) (va_runV (As := [.int 0, .int 1]) (rest := []) ⟨hx, hb, hml, hown, hts⟩ (c_M_start_no l eD eI ad dC dI H.size mm ((.ref ms)) ((.ref mt)) ((.ref mh)) ((.ref me)) 1 th) (cwV 2 hts g_c_M_would_5 rfl rfl rfl (by decide +kernel) ⟨Nat.le_of_ble_eq_true rfl, Nat.le_of_ble_eq_true rfl⟩) (z_preV (wc := [(mm, .inr (21, [.int th, .ref ms, .ref mt, .ref mh, .ref me]))]) hP hD hK hS hA hE [4] [] rfl (by decide) rfl (ci := 21) (q0 := 0) rfl rfl) rfl rfl hl.1 rfl (lv_room (Nat.le_of_ble_eq_true rfl)) dX19_wouldChoose_32 ⟨Nat.le_of_ble_eq_true rfl, Nat.le_of_ble_eq_true rfl⟩) hP hD hK hS hA [4] [0, 1, 2, 3, 5] rfl rfl (by decide) (by decide) (fun r_10 u H locs hw_11 hP hD hK hS => ?_)
  obtain ⟨⟩ := u
  have hP : va_P (dC, dI) vwCl [(mh, .inr (1, [.int 0, .ref eD, .int 0])), (ma, .inl (kO, 10, .inr (.inr (.inr (.inr (zfT t0 t1 t2)))))), (t1, .inr (18, [.int (-2), .ref i1])), (i1, .inl (kT, 0, .inr (.inr (.inr (.inr (fun _ => none)))))), (mt, .inr (1, [.int mo, .ref ma, .int 3])), (mm, .inr (21, [.int 0, .ref ms, .ref mt, .ref mh, .ref me]))] H := hP
  have hD : va_D A [(mh, .inr (1, [.int 0, .ref eD, .int 0])), (ma, .inl (kO, 10, .inr (.inr (.inr (.inr (zfT t0 t1 t2)))))), (t1, .inr (18, [.int (-2), .ref i1])), (i1, .inl (kT, 0, .inr (.inr (.inr (.inr (fun _ => none)))))), (mt, .inr (1, [.int mo, .ref ma, .int 3])), (mm, .inr (21, [.int 0, .ref ms, .ref mt, .ref mh, .ref me]))] := hD
  have hK : va_K (dC, dI) vwCl [(kO, .object "java/lang/Object"), (kT, .object "HornbookModel$Tree")] s := by simpa using hK
  have hw_11 : r_10 = 0 := hw_11
  have hw_11 := hw_11.symm
  subst hw_11
  refine lv_if_ne (tgt := 72) hx hb dX19_wouldChoose_35 (by decide) (fun c_12 => ?_) (fun c_12 => ?_)
  · exact absurd (by decide) c_12
  refine lv_aload_n hx hb dX19_wouldChoose_38 rfl (lv_at hl 0 rfl) ?_
  refine lv_iload_n hx hb dX19_wouldChoose_39 rfl (lv_at hl 2 rfl) ?_
  refine lv_iconst (v := 0) hx hb dX19_wouldChoose_40 (by decide) ?_
  refine lv_bipush (v := 9) hx hb dX19_wouldChoose_41 (by decide) ?_
  refine z_i (wr := [(mh, .inr (1, [.int 0, .ref eD, .int 0])), (ma, .inl (kO, 10, .inr (.inr (.inr (.inr (zfT t0 t1 t2)))))), (t1, .inr (18, [.int (-2), .ref i1])), (i1, .inl (kT, 0, .inr (.inr (.inr (.inr (fun _ => none)))))), (mt, .inr (1, [.int mo, .ref ma, .int 3])), (mm, .inr (21, [.int 0, .ref ms, .ref mt, .ref mh, .ref me]))]) (va_runS (As := [.int x2, .int 0, .int 9]) (rest := [.ref mm]) ⟨hx, hb, hml, hown, hts⟩ (c_M_isIn_ok l eD eI ad dC dI H.size x2 0 9 (hx20) (hx21)) (va_cwS 3 hts g_c_M_would_9 rfl rfl rfl (by decide +kernel) ⟨Nat.le_of_ble_eq_true rfl, Nat.le_of_ble_eq_true rfl⟩) (z_preS (wc := []) hP hD hK hS hA hE [] [] rfl (by decide) rfl) rfl rfl hl.1 rfl (lv_room (Nat.le_of_ble_eq_true rfl)) dX19_wouldChoose_43 ⟨Nat.le_of_ble_eq_true rfl, Nat.le_of_ble_eq_true rfl⟩) hP hD hK hS hA [] [0, 1, 2, 3, 4, 5] rfl rfl (by decide) (by decide) (fun r_13 u H locs hw_14 hP hD hK hS => ?_)
  obtain ⟨⟩ := u
  have hP : va_P (dC, dI) vwCl [(mh, .inr (1, [.int 0, .ref eD, .int 0])), (ma, .inl (kO, 10, .inr (.inr (.inr (.inr (zfT t0 t1 t2)))))), (t1, .inr (18, [.int (-2), .ref i1])), (i1, .inl (kT, 0, .inr (.inr (.inr (.inr (fun _ => none)))))), (mt, .inr (1, [.int mo, .ref ma, .int 3])), (mm, .inr (21, [.int 0, .ref ms, .ref mt, .ref mh, .ref me]))] H := hP
  have hD : va_D A [(mh, .inr (1, [.int 0, .ref eD, .int 0])), (ma, .inl (kO, 10, .inr (.inr (.inr (.inr (zfT t0 t1 t2)))))), (t1, .inr (18, [.int (-2), .ref i1])), (i1, .inl (kT, 0, .inr (.inr (.inr (.inr (fun _ => none)))))), (mt, .inr (1, [.int mo, .ref ma, .int 3])), (mm, .inr (21, [.int 0, .ref ms, .ref mt, .ref mh, .ref me]))] := hD
  have hK : va_K (dC, dI) vwCl [(kO, .object "java/lang/Object"), (kT, .object "HornbookModel$Tree")] s := by simpa using hK
  have hw_14 : r_13 = 1 := hw_14
  have hw_14 := hw_14.symm
  subst hw_14
  refine lv_if_eq (tgt := 60) hx hb dX19_wouldChoose_46 (by decide) (fun c_15 => ?_) (fun c_15 => ?_)
  · exact absurd c_15 (by decide)
  refine lv_iload_n hx hb dX19_wouldChoose_49 rfl (lv_at hl 3 rfl) ?_
  refine lv_iconst (v := (-1)) hx hb dX19_wouldChoose_50 (by decide) ?_
  refine lv_icmp_ne (tgt := 64) hx hb dX19_wouldChoose_51 (by decide) (fun c_16 => ?_) (fun c_16 => ?_)
  · exact absurd (by decide) c_16
  refine lv_iload hx hb dX19_wouldChoose_54 (lv_at hl 4 rfl) ?_
  refine lv_iconst (v := (-1)) hx hb dX19_wouldChoose_56 (by decide) ?_
  refine lv_icmp_eq (tgt := 64) hx hb dX19_wouldChoose_57 (by decide) (fun c_17 => ?_) (fun c_17 => ?_)
  rotate_left
  · exact absurd (by decide) c_17
  refine lv_iconst (v := 0) hx hb dX19_wouldChoose_64 (by decide) ?_
  refine lv_iconst (v := 2) hx hb dX19_wouldChoose_65 (by decide) ?_
  refine z_i (wr := [(mh, .inr (1, [.int 0, .ref eD, .int 0])), (ma, .inl (kO, 10, .inr (.inr (.inr (.inr (zfT t0 t1 t2)))))), (t1, .inr (18, [.int (-2), .ref i1])), (i1, .inl (kT, 0, .inr (.inr (.inr (.inr (fun _ => none)))))), (mt, .inr (1, [.int mo, .ref ma, .int 3]))]) (va_runV (As := [.int 0, .int 2]) (rest := []) ⟨hx, hb, hml, hown, hts⟩ (c_M_refuse_no l eD eI ad dC dI H.size mm ((.ref ms)) ((.ref mt)) ((.ref mh)) ((.ref me)) 2) (cwV 2 hts g_c_M_would_10 rfl rfl rfl (by decide +kernel) ⟨Nat.le_of_ble_eq_true rfl, Nat.le_of_ble_eq_true rfl⟩) (z_preV (wc := [(mm, .inr (21, [.int 0, .ref ms, .ref mt, .ref mh, .ref me]))]) hP hD hK hS hA hE [5] [] rfl (by decide) rfl (ci := 21) (q0 := 0) rfl rfl) rfl rfl hl.1 rfl (lv_room (Nat.le_of_ble_eq_true rfl)) dX19_wouldChoose_66 ⟨Nat.le_of_ble_eq_true rfl, Nat.le_of_ble_eq_true rfl⟩) hP hD hK hS hA [5] [0, 1, 2, 3, 4] rfl rfl (by decide) (by decide) (fun r_18 u H locs hw_19 hP hD hK hS => ?_)
  obtain ⟨⟩ := u
  have hP : va_P (dC, dI) vwCl [(mh, .inr (1, [.int 0, .ref eD, .int 0])), (ma, .inl (kO, 10, .inr (.inr (.inr (.inr (zfT t0 t1 t2)))))), (t1, .inr (18, [.int (-2), .ref i1])), (i1, .inl (kT, 0, .inr (.inr (.inr (.inr (fun _ => none)))))), (mt, .inr (1, [.int mo, .ref ma, .int 3])), (mm, .inr (21, [.int 0, .ref ms, .ref mt, .ref mh, .ref me]))] H := hP
  have hD : va_D A [(mh, .inr (1, [.int 0, .ref eD, .int 0])), (ma, .inl (kO, 10, .inr (.inr (.inr (.inr (zfT t0 t1 t2)))))), (t1, .inr (18, [.int (-2), .ref i1])), (i1, .inl (kT, 0, .inr (.inr (.inr (.inr (fun _ => none)))))), (mt, .inr (1, [.int mo, .ref ma, .int 3])), (mm, .inr (21, [.int 0, .ref ms, .ref mt, .ref mh, .ref me]))] := hD
  have hK : va_K (dC, dI) vwCl [(kO, .object "java/lang/Object"), (kT, .object "HornbookModel$Tree")] s := by simpa using hK
  have hw_19 : r_18 = 0 := hw_19
  have hw_19 := hw_19.symm
  subst hw_19
  refine lv_if_eq (tgt := 74) hx hb dX19_wouldChoose_69 (by decide) (fun c_20 => ?_) (fun c_20 => ?_)
  rotate_left
  · exact absurd (by decide) c_20
  refine lv_aload_n hx hb dX19_wouldChoose_74 rfl (lv_at hl 0 rfl) ?_
  refine lv_iload_n hx hb dX19_wouldChoose_75 rfl (lv_at hl 3 rfl) ?_
  refine lv_iload hx hb dX19_wouldChoose_76 (lv_at hl 4 rfl) ?_
  refine z_q (wr := [(mh, .inr (1, [.int 0, .ref eD, .int 0])), (t1, .inr (18, [.int (-2), .ref i1])), (i1, .inl (kT, 0, .inr (.inr (.inr (.inr (fun _ => none))))))]) (va_runV (As := [.int (-1), .int (-1)]) (rest := []) ⟨hx, hb, hml, hown, hts⟩ (c_M_trees_n l eD eI ad dC dI H.size mm ms mt mh me 0 mo ma kO t0 t1 t2) (cwV 2 hts g_c_M_would_11 rfl rfl rfl (by decide +kernel) ⟨Nat.le_of_ble_eq_true rfl, Nat.le_of_ble_eq_true rfl⟩) (z_preV (wc := [(mm, .inr (21, [.int 0, .ref ms, .ref mt, .ref mh, .ref me])), (mt, .inr (1, [.int mo, .ref ma, .int 3])), (ma, .inl (kO, 10, .inr (.inr (.inr (.inr (zfT t0 t1 t2))))))]) hP hD hK hS hA hE [5, 4, 1] [0] rfl (by decide) rfl (ci := 21) (q0 := 0) rfl rfl) rfl rfl hl.1 rfl (lv_room (Nat.le_of_ble_eq_true rfl)) dX19_wouldChoose_78 ⟨Nat.le_of_ble_eq_true rfl, Nat.le_of_ble_eq_true rfl⟩) hP hD hK hS hA [5, 4, 1] [0, 2, 3] rfl rfl (by decide) (by decide) (fun r_23 u H locs hw_24 hP hD hK hS => ?_)
  obtain ⟨u_21, u_22⟩ := u
  have hP : va_P (dC, dI) vwCl [(mh, .inr (1, [.int 0, .ref eD, .int 0])), (t1, .inr (18, [.int (-2), .ref i1])), (i1, .inl (kT, 0, .inr (.inr (.inr (.inr (fun _ => none)))))), (mm, .inr (21, [.int 0, .ref ms, .ref mt, .ref mh, .ref me])), (mt, .inr (1, [.int mo, .ref ma, .int 3])), (ma, .inl (kO, 10, .inr (.inr (.inr (.inr (zfT t0 t1 t2)))))), (u_21, .inl (u_22, 0, .inr (.inr (.inr (.inr (fun _ => none))))))] H := hP
  have hD : va_D A [(mh, .inr (1, [.int 0, .ref eD, .int 0])), (t1, .inr (18, [.int (-2), .ref i1])), (i1, .inl (kT, 0, .inr (.inr (.inr (.inr (fun _ => none)))))), (mm, .inr (21, [.int 0, .ref ms, .ref mt, .ref mh, .ref me])), (mt, .inr (1, [.int mo, .ref ma, .int 3])), (ma, .inl (kO, 10, .inr (.inr (.inr (.inr (zfT t0 t1 t2)))))), (u_21, .inl (u_22, 0, .inr (.inr (.inr (.inr (fun _ => none))))))] := hD
  have hK : va_K (dC, dI) vwCl [(kO, .object "java/lang/Object"), (kT, .object "HornbookModel$Tree"), (kO, .object "java/lang/Object"), (u_22, .object "HornbookModel$Tree")] s := hK
  have hw_24 : r_23 = some u_21 := hw_24
  have hw_24 := hw_24.symm
  subst hw_24
  refine W.eq (g2 := F0 m 81 ls (.ref u_21 :: [])) rfl ?_
  refine lv_astore (lv' := [(5, .ref u_21), (0, .ref mm), (1, .int 1), (2, .int x2), (3, .int (-1)), (4, .int (-1))]) hx hb dX19_wouldChoose_81 hl (by decide) rfl (fun ls hl => ?_)
  refine lv_aload_n hx hb dX19_wouldChoose_83 rfl (lv_at hl 1 rfl) ?_
  refine lv_iload_n hx hb dX19_wouldChoose_84 rfl (lv_at hl 2 rfl) ?_
  refine z_q (wr := [(mh, .inr (1, [.int 0, .ref eD, .int 0])), (i1, .inl (kT, 0, .inr (.inr (.inr (.inr (fun _ => none)))))), (u_21, .inl (u_22, 0, .inr (.inr (.inr (.inr (fun _ => none))))))]) (va_runV (As := [.int 1]) (rest := []) ⟨hx, hb, hml, hown, hts⟩ (c_M_type_1 l eD eI ad dC dI H.size mm ms mt mh me 0 mo ma kO t0 t1 t2 ((.ref i1))) (cwV 1 hts g_c_M_would_17 rfl rfl rfl (by decide +kernel) ⟨Nat.le_of_ble_eq_true rfl, Nat.le_of_ble_eq_true rfl⟩) (z_preV (wc := [(mm, .inr (21, [.int 0, .ref ms, .ref mt, .ref mh, .ref me])), (mt, .inr (1, [.int mo, .ref ma, .int 3])), (ma, .inl (kO, 10, .inr (.inr (.inr (.inr (zfT t0 t1 t2)))))), (t1, .inr (18, [.int (-2), .ref i1]))]) hP hD hK hS hA hE [3, 4, 5, 1] [0] rfl (by decide) rfl (ci := 21) (q0 := 0) rfl rfl) rfl rfl hl.1 rfl (lv_room (Nat.le_of_ble_eq_true rfl)) dX19_wouldChoose_85 ⟨Nat.le_of_ble_eq_true rfl, Nat.le_of_ble_eq_true rfl⟩) hP hD hK hS hA [3, 4, 5, 1] [0, 2, 6] rfl rfl (by decide) (by decide) (fun r_25 u H locs hw_26 hP hD hK hS => ?_)
  obtain ⟨⟩ := u
  have hP : va_P (dC, dI) vwCl [(mh, .inr (1, [.int 0, .ref eD, .int 0])), (i1, .inl (kT, 0, .inr (.inr (.inr (.inr (fun _ => none)))))), (u_21, .inl (u_22, 0, .inr (.inr (.inr (.inr (fun _ => none)))))), (mm, .inr (21, [.int 0, .ref ms, .ref mt, .ref mh, .ref me])), (mt, .inr (1, [.int mo, .ref ma, .int 3])), (ma, .inl (kO, 10, .inr (.inr (.inr (.inr (zfT t0 t1 t2)))))), (t1, .inr (18, [.int (-2), .ref i1]))] H := hP
  have hD : va_D A [(mh, .inr (1, [.int 0, .ref eD, .int 0])), (i1, .inl (kT, 0, .inr (.inr (.inr (.inr (fun _ => none)))))), (u_21, .inl (u_22, 0, .inr (.inr (.inr (.inr (fun _ => none)))))), (mm, .inr (21, [.int 0, .ref ms, .ref mt, .ref mh, .ref me])), (mt, .inr (1, [.int mo, .ref ma, .int 3])), (ma, .inl (kO, 10, .inr (.inr (.inr (.inr (zfT t0 t1 t2)))))), (t1, .inr (18, [.int (-2), .ref i1]))] := hD
  have hK : va_K (dC, dI) vwCl [(kO, .object "java/lang/Object"), (kT, .object "HornbookModel$Tree"), (kO, .object "java/lang/Object"), (u_22, .object "HornbookModel$Tree")] s := by simpa using hK
  have hw_26 : r_25 = some t1 := hw_26
  have hw_26 := hw_26.symm
  subst hw_26
  refine W.eq (g2 := F0 m 88 ls (.ref t1 :: [])) rfl ?_
  refine z_i (wr := [(mh, .inr (1, [.int 0, .ref eD, .int 0])), (u_21, .inl (u_22, 0, .inr (.inr (.inr (.inr (fun _ => none)))))), (mm, .inr (21, [.int 0, .ref ms, .ref mt, .ref mh, .ref me])), (mt, .inr (1, [.int mo, .ref ma, .int 3])), (ma, .inl (kO, 10, .inr (.inr (.inr (.inr (zfT t0 t1 t2))))))]) (va_runV (As := []) (rest := []) ⟨hx, hb, hml, hown, hts⟩ (c_T_isClosed_2 l eD eI ad dC dI H.size t1 i1 kT) (cwV 0 hts g_c_M_would_18 rfl rfl rfl (by decide +kernel) ⟨Nat.le_of_ble_eq_true rfl, Nat.le_of_ble_eq_true rfl⟩) (z_preV (wc := [(t1, .inr (18, [.int (-2), .ref i1])), (i1, .inl (kT, 0, .inr (.inr (.inr (.inr (fun _ => none))))))]) hP hD hK hS hA hE [6, 1] [1] rfl (by decide) rfl (ci := 18) (q0 := 0) rfl rfl) rfl rfl hl.1 rfl (lv_room (Nat.le_of_ble_eq_true rfl)) dX19_wouldChoose_88 ⟨Nat.le_of_ble_eq_true rfl, Nat.le_of_ble_eq_true rfl⟩) hP hD hK hS hA [6, 1] [0, 2, 3, 4, 5] rfl rfl (by decide) (by decide) (fun r_27 u H locs hw_28 hP hD hK hS => ?_)
  obtain ⟨⟩ := u
  have hP : va_P (dC, dI) vwCl [(mh, .inr (1, [.int 0, .ref eD, .int 0])), (u_21, .inl (u_22, 0, .inr (.inr (.inr (.inr (fun _ => none)))))), (mm, .inr (21, [.int 0, .ref ms, .ref mt, .ref mh, .ref me])), (mt, .inr (1, [.int mo, .ref ma, .int 3])), (ma, .inl (kO, 10, .inr (.inr (.inr (.inr (zfT t0 t1 t2)))))), (t1, .inr (18, [.int (-2), .ref i1])), (i1, .inl (kT, 0, .inr (.inr (.inr (.inr (fun _ => none))))))] H := hP
  have hD : va_D A [(mh, .inr (1, [.int 0, .ref eD, .int 0])), (u_21, .inl (u_22, 0, .inr (.inr (.inr (.inr (fun _ => none)))))), (mm, .inr (21, [.int 0, .ref ms, .ref mt, .ref mh, .ref me])), (mt, .inr (1, [.int mo, .ref ma, .int 3])), (ma, .inl (kO, 10, .inr (.inr (.inr (.inr (zfT t0 t1 t2)))))), (t1, .inr (18, [.int (-2), .ref i1])), (i1, .inl (kT, 0, .inr (.inr (.inr (.inr (fun _ => none))))))] := hD
  have hK : va_K (dC, dI) vwCl [(kO, .object "java/lang/Object"), (kT, .object "HornbookModel$Tree"), (kO, .object "java/lang/Object"), (u_22, .object "HornbookModel$Tree")] s := by simpa using hK
  have hw_28 : r_27 = 1 := hw_28
  have hw_28 := hw_28.symm
  subst hw_28
  refine lv_istore (lv' := [(6, .int 1), (5, .ref u_21), (0, .ref mm), (1, .int 1), (2, .int x2), (3, .int (-1)), (4, .int (-1))]) hx hb dX19_wouldChoose_91 hl (by decide) rfl (fun ls hl => ?_)
  refine lv_aload hx hb dX19_wouldChoose_93 (lv_at hl 1 rfl) ?_
  refine lv_astore (lv' := [(7, .ref u_21), (6, .int 1), (5, .ref u_21), (0, .ref mm), (1, .int 1), (2, .int x2), (3, .int (-1)), (4, .int (-1))]) hx hb dX19_wouldChoose_95 hl (by decide) rfl (fun ls hl => ?_)
  refine lv_aload hx hb dX19_wouldChoose_97 (lv_at hl 0 rfl) ?_
  refine va_alen (D := (dC, dI)) (v := 0) hx hb hK hP 1 3 rfl rfl rfl dX19_wouldChoose_99 ?_
  refine lv_istore (lv' := [(8, .int 0), (7, .ref u_21), (6, .int 1), (5, .ref u_21), (0, .ref mm), (1, .int 1), (2, .int x2), (3, .int (-1)), (4, .int (-1))]) hx hb dX19_wouldChoose_100 hl (by decide) rfl (fun ls hl => ?_)
  refine lv_iconst (v := 0) hx hb dX19_wouldChoose_102 (by decide) ?_
  refine lv_istore (lv' := [(9, .int 0), (8, .int 0), (7, .ref u_21), (6, .int 1), (5, .ref u_21), (0, .ref mm), (1, .int 1), (2, .int x2), (3, .int (-1)), (4, .int (-1))]) hx hb dX19_wouldChoose_103 hl (by decide) rfl (fun ls hl => ?_)
  refine lv_iload hx hb dX19_wouldChoose_105 (lv_at hl 0 rfl) ?_
  refine lv_iload hx hb dX19_wouldChoose_107 (lv_at hl 1 rfl) ?_
  refine lv_icmp_ge (tgt := 135) hx hb dX19_wouldChoose_109 (by decide) (fun c_29 => ?_) (fun c_29 => ?_)
  rotate_left
  · exact absurd (by decide) c_29
  refine lv_aload_n hx hb dX19_wouldChoose_135 rfl (lv_at hl 5 rfl) ?_
  refine lv_iload hx hb dX19_wouldChoose_136 (lv_at hl 3 rfl) ?_
  refine lv_if_ne (tgt := 145) hx hb dX19_wouldChoose_138 (by decide) (fun c_30 => ?_) (fun c_30 => ?_)
  rotate_left
  · exact absurd c_30 (by decide)
  refine lv_iconst (v := 0) hx hb dX19_wouldChoose_145 (by decide) ?_
  refine lv_iconst (v := 2) hx hb dX19_wouldChoose_146 (by decide) ?_
  refine z_i (wr := [(mh, .inr (1, [.int 0, .ref eD, .int 0])), (u_21, .inl (u_22, 0, .inr (.inr (.inr (.inr (fun _ => none)))))), (mt, .inr (1, [.int mo, .ref ma, .int 3])), (ma, .inl (kO, 10, .inr (.inr (.inr (.inr (zfT t0 t1 t2)))))), (t1, .inr (18, [.int (-2), .ref i1])), (i1, .inl (kT, 0, .inr (.inr (.inr (.inr (fun _ => none))))))]) (va_runV (As := [.int 0, .int 2]) (rest := []) ⟨hx, hb, hml, hown, hts⟩ (c_M_refuse_no l eD eI ad dC dI H.size mm ((.ref ms)) ((.ref mt)) ((.ref mh)) ((.ref me)) 2) (cwV 2 hts g_c_M_would_10 rfl rfl rfl (by decide +kernel) ⟨Nat.le_of_ble_eq_true rfl, Nat.le_of_ble_eq_true rfl⟩) (z_preV (wc := [(mm, .inr (21, [.int 0, .ref ms, .ref mt, .ref mh, .ref me]))]) hP hD hK hS hA hE [2] [] rfl (by decide) rfl (ci := 21) (q0 := 0) rfl rfl) rfl rfl hl.1 rfl (lv_room (Nat.le_of_ble_eq_true rfl)) dX19_wouldChoose_147 ⟨Nat.le_of_ble_eq_true rfl, Nat.le_of_ble_eq_true rfl⟩) hP hD hK hS hA [2] [0, 1, 3, 4, 5, 6] rfl rfl (by decide) (by decide) (fun r_31 u H locs hw_32 hP hD hK hS => ?_)
  obtain ⟨⟩ := u
  have hP : va_P (dC, dI) vwCl [(mh, .inr (1, [.int 0, .ref eD, .int 0])), (u_21, .inl (u_22, 0, .inr (.inr (.inr (.inr (fun _ => none)))))), (mt, .inr (1, [.int mo, .ref ma, .int 3])), (ma, .inl (kO, 10, .inr (.inr (.inr (.inr (zfT t0 t1 t2)))))), (t1, .inr (18, [.int (-2), .ref i1])), (i1, .inl (kT, 0, .inr (.inr (.inr (.inr (fun _ => none)))))), (mm, .inr (21, [.int 0, .ref ms, .ref mt, .ref mh, .ref me]))] H := hP
  have hD : va_D A [(mh, .inr (1, [.int 0, .ref eD, .int 0])), (u_21, .inl (u_22, 0, .inr (.inr (.inr (.inr (fun _ => none)))))), (mt, .inr (1, [.int mo, .ref ma, .int 3])), (ma, .inl (kO, 10, .inr (.inr (.inr (.inr (zfT t0 t1 t2)))))), (t1, .inr (18, [.int (-2), .ref i1])), (i1, .inl (kT, 0, .inr (.inr (.inr (.inr (fun _ => none)))))), (mm, .inr (21, [.int 0, .ref ms, .ref mt, .ref mh, .ref me]))] := hD
  have hK : va_K (dC, dI) vwCl [(kO, .object "java/lang/Object"), (kT, .object "HornbookModel$Tree"), (kO, .object "java/lang/Object"), (u_22, .object "HornbookModel$Tree")] s := by simpa using hK
  have hw_32 : r_31 = 0 := hw_32
  have hw_32 := hw_32.symm
  subst hw_32
  refine lv_if_eq (tgt := 155) hx hb dX19_wouldChoose_150 (by decide) (fun c_33 => ?_) (fun c_33 => ?_)
  rotate_left
  · exact absurd (by decide) c_33
  refine va_new (ci := 20) (fs := [.null, .int 0, .int 0, .int 0, .null, .int 0, .int 0]) (C := RX18) (T := TX18) (N := 7) hx hb hts in_RX18 tyX18 tyX18_ok hown (hts (.classLink RX19 184 RX18) (by decide +kernel)) (hts (.instantiable RX18 7) (by decide +kernel)) (hts (.initialized RX18) (by decide +kernel)) hK hP hD hS hA rfl (fun j hj => by rcases (show j = 0 ∨ j = 1 ∨ j = 2 ∨ j = 3 ∨ j = 4 ∨ j = 5 ∨ j = 6 by omega) with rfl | rfl | rfl | rfl | rfl | rfl | rfl <;> rfl) (Nat.le_of_ble_eq_true rfl) (Nat.le_of_ble_eq_true rfl) dX19_wouldChoose_155 (fun q_34 H hP hD hS => ?_)
  have hP : va_P (dC, dI) vwCl [(mh, .inr (1, [.int 0, .ref eD, .int 0])), (u_21, .inl (u_22, 0, .inr (.inr (.inr (.inr (fun _ => none)))))), (mt, .inr (1, [.int mo, .ref ma, .int 3])), (ma, .inl (kO, 10, .inr (.inr (.inr (.inr (zfT t0 t1 t2)))))), (t1, .inr (18, [.int (-2), .ref i1])), (i1, .inl (kT, 0, .inr (.inr (.inr (.inr (fun _ => none)))))), (mm, .inr (21, [.int 0, .ref ms, .ref mt, .ref mh, .ref me])), (q_34, .inr (20, [.null, .int 0, .int 0, .int 0, .null, .int 0, .int 0]))] H := hP
  have hD : va_D A [(mh, .inr (1, [.int 0, .ref eD, .int 0])), (u_21, .inl (u_22, 0, .inr (.inr (.inr (.inr (fun _ => none)))))), (mt, .inr (1, [.int mo, .ref ma, .int 3])), (ma, .inl (kO, 10, .inr (.inr (.inr (.inr (zfT t0 t1 t2)))))), (t1, .inr (18, [.int (-2), .ref i1])), (i1, .inl (kT, 0, .inr (.inr (.inr (.inr (fun _ => none)))))), (mm, .inr (21, [.int 0, .ref ms, .ref mt, .ref mh, .ref me])), (q_34, .inr (20, [.null, .int 0, .int 0, .int 0, .null, .int 0, .int 0]))] := hD
  refine lv_dup hx hb dX19_wouldChoose_158 rfl ?_
  refine z_v (wr := [(mh, .inr (1, [.int 0, .ref eD, .int 0])), (u_21, .inl (u_22, 0, .inr (.inr (.inr (.inr (fun _ => none)))))), (mt, .inr (1, [.int mo, .ref ma, .int 3])), (ma, .inl (kO, 10, .inr (.inr (.inr (.inr (zfT t0 t1 t2)))))), (t1, .inr (18, [.int (-2), .ref i1])), (i1, .inl (kT, 0, .inr (.inr (.inr (.inr (fun _ => none)))))), (mm, .inr (21, [.int 0, .ref ms, .ref mt, .ref mh, .ref me]))]) (va_runIN (As := []) (rest := [.ref q_34]) ⟨hx, hb, hml, hown, hts⟩ (c_W_init l eD eI ad dC dI H.size q_34) (⟨va_cnB 0 hts g_c_M_would_14 rfl rfl rfl (hE.2.2.1 (.methodLinkNest RX19 226 yX18_init "HornbookModel") (by decide +kernel)) (hts (.initialized RX18) (by decide +kernel)) (by decide +kernel) ⟨Nat.le_of_ble_eq_true rfl, Nat.le_of_ble_eq_true rfl⟩, rfl, (hts (.instanceMethod yX18_init) (by decide +kernel))⟩) (z_preS (wc := [(q_34, .inr (20, [.null, .int 0, .int 0, .int 0, .null, .int 0, .int 0]))]) hP hD hK hS hA hE [7] [] rfl (by decide) rfl) rfl rfl hl.1 rfl (lv_room (Nat.le_of_ble_eq_true rfl)) dX19_wouldChoose_159 ⟨Nat.le_of_ble_eq_true rfl, Nat.le_of_ble_eq_true rfl⟩) hP hD hK hS hA [7] [0, 1, 2, 3, 4, 5, 6] rfl rfl (by decide) (by decide) (fun u H locs hw_36 hP hD hK hS => ?_)
  obtain ⟨⟩ := u
  have hP : va_P (dC, dI) vwCl [(mh, .inr (1, [.int 0, .ref eD, .int 0])), (u_21, .inl (u_22, 0, .inr (.inr (.inr (.inr (fun _ => none)))))), (mt, .inr (1, [.int mo, .ref ma, .int 3])), (ma, .inl (kO, 10, .inr (.inr (.inr (.inr (zfT t0 t1 t2)))))), (t1, .inr (18, [.int (-2), .ref i1])), (i1, .inl (kT, 0, .inr (.inr (.inr (.inr (fun _ => none)))))), (mm, .inr (21, [.int 0, .ref ms, .ref mt, .ref mh, .ref me])), (q_34, .inr (20, [.null, .int 0, .int 0, .int (-1), .null, .int 0, .int 0]))] H := hP
  have hD : va_D A [(mh, .inr (1, [.int 0, .ref eD, .int 0])), (u_21, .inl (u_22, 0, .inr (.inr (.inr (.inr (fun _ => none)))))), (mt, .inr (1, [.int mo, .ref ma, .int 3])), (ma, .inl (kO, 10, .inr (.inr (.inr (.inr (zfT t0 t1 t2)))))), (t1, .inr (18, [.int (-2), .ref i1])), (i1, .inl (kT, 0, .inr (.inr (.inr (.inr (fun _ => none)))))), (mm, .inr (21, [.int 0, .ref ms, .ref mt, .ref mh, .ref me])), (q_34, .inr (20, [.null, .int 0, .int 0, .int (-1), .null, .int 0, .int 0]))] := hD
  have hK : va_K (dC, dI) vwCl [(kO, .object "java/lang/Object"), (kT, .object "HornbookModel$Tree"), (kO, .object "java/lang/Object"), (u_22, .object "HornbookModel$Tree")] s := by simpa using hK
  refine lv_astore (lv' := [(7, .ref q_34), (9, .int 0), (8, .int 0), (6, .int 1), (5, .ref u_21), (0, .ref mm), (1, .int 1), (2, .int x2), (3, .int (-1)), (4, .int (-1))]) hx hb dX19_wouldChoose_162 hl (by decide) rfl (fun ls hl => ?_)
  refine lv_aload_n hx hb dX19_wouldChoose_164 rfl (lv_at hl 5 rfl) ?_
  refine z_q (wr := [(mh, .inr (1, [.int 0, .ref eD, .int 0])), (u_21, .inl (u_22, 0, .inr (.inr (.inr (.inr (fun _ => none)))))), (mt, .inr (1, [.int mo, .ref ma, .int 3])), (ma, .inl (kO, 10, .inr (.inr (.inr (.inr (zfT t0 t1 t2)))))), (t1, .inr (18, [.int (-2), .ref i1])), (i1, .inl (kT, 0, .inr (.inr (.inr (.inr (fun _ => none)))))), (q_34, .inr (20, [.null, .int 0, .int 0, .int (-1), .null, .int 0, .int 0]))]) (va_runV (As := []) (rest := []) ⟨hx, hb, hml, hown, hts⟩ (c_M_view l eD eI ad dC dI H.size mm ms mt mh me 0) (cwV 0 hts g_c_M_would_15 rfl rfl rfl (by decide +kernel) ⟨Nat.le_of_ble_eq_true rfl, Nat.le_of_ble_eq_true rfl⟩) (z_preV (wc := [(mm, .inr (21, [.int 0, .ref ms, .ref mt, .ref mh, .ref me]))]) hP hD hK hS hA hE [6] [] rfl (by decide) rfl (ci := 21) (q0 := 0) rfl rfl) rfl rfl hl.1 rfl (lv_room (Nat.le_of_ble_eq_true rfl)) dX19_wouldChoose_165 ⟨Nat.le_of_ble_eq_true rfl, Nat.le_of_ble_eq_true rfl⟩) hP hD hK hS hA [6] [0, 1, 2, 3, 4, 5, 7] rfl rfl (by decide) (by decide) (fun r_38 u H locs hw_39 hP hD hK hS => ?_)
  obtain ⟨u_37, rfl⟩ : ∃ z, z = u := ⟨_, rfl⟩
  have hP : va_P (dC, dI) vwCl [(mh, .inr (1, [.int 0, .ref eD, .int 0])), (u_21, .inl (u_22, 0, .inr (.inr (.inr (.inr (fun _ => none)))))), (mt, .inr (1, [.int mo, .ref ma, .int 3])), (ma, .inl (kO, 10, .inr (.inr (.inr (.inr (zfT t0 t1 t2)))))), (t1, .inr (18, [.int (-2), .ref i1])), (i1, .inl (kT, 0, .inr (.inr (.inr (.inr (fun _ => none)))))), (q_34, .inr (20, [.null, .int 0, .int 0, .int (-1), .null, .int 0, .int 0])), (mm, .inr (21, [.int 0, .ref ms, .ref mt, .ref mh, .ref me])), (u_37, .inr (19, [.int (-1), .int (-1), .int (-1), .int (-1), .ref mm]))] H := hP
  have hD : va_D A [(mh, .inr (1, [.int 0, .ref eD, .int 0])), (u_21, .inl (u_22, 0, .inr (.inr (.inr (.inr (fun _ => none)))))), (mt, .inr (1, [.int mo, .ref ma, .int 3])), (ma, .inl (kO, 10, .inr (.inr (.inr (.inr (zfT t0 t1 t2)))))), (t1, .inr (18, [.int (-2), .ref i1])), (i1, .inl (kT, 0, .inr (.inr (.inr (.inr (fun _ => none)))))), (q_34, .inr (20, [.null, .int 0, .int 0, .int (-1), .null, .int 0, .int 0])), (mm, .inr (21, [.int 0, .ref ms, .ref mt, .ref mh, .ref me])), (u_37, .inr (19, [.int (-1), .int (-1), .int (-1), .int (-1), .ref mm]))] := hD
  have hK : va_K (dC, dI) vwCl [(kO, .object "java/lang/Object"), (kT, .object "HornbookModel$Tree"), (kO, .object "java/lang/Object"), (u_22, .object "HornbookModel$Tree")] s := by simpa using hK
  have hw_39 : r_38 = some u_37 := hw_39
  have hw_39 := hw_39.symm
  subst hw_39
  refine W.eq (g2 := F0 m 168 ls (.ref u_37 :: [])) rfl ?_
  refine lv_aload_n hx hb dX19_wouldChoose_168 rfl (lv_at hl 5 rfl) ?_
  refine lv_iload_n hx hb dX19_wouldChoose_169 rfl (lv_at hl 6 rfl) ?_
  refine z_q (wr := [(mh, .inr (1, [.int 0, .ref eD, .int 0])), (u_21, .inl (u_22, 0, .inr (.inr (.inr (.inr (fun _ => none)))))), (i1, .inl (kT, 0, .inr (.inr (.inr (.inr (fun _ => none)))))), (q_34, .inr (20, [.null, .int 0, .int 0, .int (-1), .null, .int 0, .int 0])), (u_37, .inr (19, [.int (-1), .int (-1), .int (-1), .int (-1), .ref mm]))]) (va_runV (As := [.int 1]) (rest := [.ref u_37]) ⟨hx, hb, hml, hown, hts⟩ (c_M_type_1 l eD eI ad dC dI H.size mm ms mt mh me 0 mo ma kO t0 t1 t2 ((.ref i1))) (cwV 1 hts g_c_M_would_17 rfl rfl rfl (by decide +kernel) ⟨Nat.le_of_ble_eq_true rfl, Nat.le_of_ble_eq_true rfl⟩) (z_preV (wc := [(mm, .inr (21, [.int 0, .ref ms, .ref mt, .ref mh, .ref me])), (mt, .inr (1, [.int mo, .ref ma, .int 3])), (ma, .inl (kO, 10, .inr (.inr (.inr (.inr (zfT t0 t1 t2)))))), (t1, .inr (18, [.int (-2), .ref i1]))]) hP hD hK hS hA hE [7, 2, 3, 4] [0] rfl (by decide) rfl (ci := 21) (q0 := 0) rfl rfl) rfl rfl hl.1 rfl (lv_room (Nat.le_of_ble_eq_true rfl)) dX19_wouldChoose_170 ⟨Nat.le_of_ble_eq_true rfl, Nat.le_of_ble_eq_true rfl⟩) hP hD hK hS hA [7, 2, 3, 4] [0, 1, 5, 6, 8] rfl rfl (by decide) (by decide) (fun r_40 u H locs hw_41 hP hD hK hS => ?_)
  obtain ⟨⟩ := u
  have hP : va_P (dC, dI) vwCl [(mh, .inr (1, [.int 0, .ref eD, .int 0])), (u_21, .inl (u_22, 0, .inr (.inr (.inr (.inr (fun _ => none)))))), (i1, .inl (kT, 0, .inr (.inr (.inr (.inr (fun _ => none)))))), (q_34, .inr (20, [.null, .int 0, .int 0, .int (-1), .null, .int 0, .int 0])), (u_37, .inr (19, [.int (-1), .int (-1), .int (-1), .int (-1), .ref mm])), (mm, .inr (21, [.int 0, .ref ms, .ref mt, .ref mh, .ref me])), (mt, .inr (1, [.int mo, .ref ma, .int 3])), (ma, .inl (kO, 10, .inr (.inr (.inr (.inr (zfT t0 t1 t2)))))), (t1, .inr (18, [.int (-2), .ref i1]))] H := hP
  have hD : va_D A [(mh, .inr (1, [.int 0, .ref eD, .int 0])), (u_21, .inl (u_22, 0, .inr (.inr (.inr (.inr (fun _ => none)))))), (i1, .inl (kT, 0, .inr (.inr (.inr (.inr (fun _ => none)))))), (q_34, .inr (20, [.null, .int 0, .int 0, .int (-1), .null, .int 0, .int 0])), (u_37, .inr (19, [.int (-1), .int (-1), .int (-1), .int (-1), .ref mm])), (mm, .inr (21, [.int 0, .ref ms, .ref mt, .ref mh, .ref me])), (mt, .inr (1, [.int mo, .ref ma, .int 3])), (ma, .inl (kO, 10, .inr (.inr (.inr (.inr (zfT t0 t1 t2)))))), (t1, .inr (18, [.int (-2), .ref i1]))] := hD
  have hK : va_K (dC, dI) vwCl [(kO, .object "java/lang/Object"), (kT, .object "HornbookModel$Tree"), (kO, .object "java/lang/Object"), (u_22, .object "HornbookModel$Tree")] s := by simpa using hK
  have hw_41 : r_40 = some t1 := hw_41
  have hw_41 := hw_41.symm
  subst hw_41
  refine W.eq (g2 := F0 m 173 ls (.ref t1 :: .ref u_37 :: [])) rfl ?_
  refine lv_iload_n hx hb dX19_wouldChoose_173 rfl (lv_at hl 7 rfl) ?_
  refine lv_aload hx hb dX19_wouldChoose_174 (lv_at hl 4 rfl) ?_
  refine lv_aload hx hb dX19_wouldChoose_176 (lv_at hl 0 rfl) ?_
  refine z_v (wr := [(u_21, .inl (u_22, 0, .inr (.inr (.inr (.inr (fun _ => none)))))), (i1, .inl (kT, 0, .inr (.inr (.inr (.inr (fun _ => none)))))), (mt, .inr (1, [.int mo, .ref ma, .int 3])), (ma, .inl (kO, 10, .inr (.inr (.inr (.inr (zfT t0 t1 t2))))))]) (va_runV (As := [.ref t1, .int x2, .ref u_21, .ref q_34]) (rest := []) ⟨hx, hb, hml, hown, hts⟩ (c_V_call l eD eI ad dC dI H.size u_37 mm ms mt mh me 0 t1 (-2) ((.ref i1)) x2 u_21 q_34 (by decide)) (cwV 4 hts g_c_M_would_16 rfl rfl rfl (by decide +kernel) ⟨Nat.le_of_ble_eq_true rfl, Nat.le_of_ble_eq_true rfl⟩) (z_preV (wc := [(u_37, .inr (19, [.int (-1), .int (-1), .int (-1), .int (-1), .ref mm])), (mm, .inr (21, [.int 0, .ref ms, .ref mt, .ref mh, .ref me])), (mh, .inr (1, [.int 0, .ref eD, .int 0])), (t1, .inr (18, [.int (-2), .ref i1])), (q_34, .inr (20, [.null, .int 0, .int 0, .int (-1), .null, .int 0, .int 0]))]) hP hD hK hS hA hE [4, 5, 0, 8, 3] [] rfl (by decide) rfl (ci := 19) (q0 := 0) rfl rfl) rfl rfl hl.1 rfl (lv_room (Nat.le_of_ble_eq_true rfl)) dX19_wouldChoose_178 ⟨Nat.le_of_ble_eq_true rfl, Nat.le_of_ble_eq_true rfl⟩) hP hD hK hS hA [4, 5, 0, 8, 3] [1, 2, 6, 7] rfl rfl (by decide) (by decide) (fun u H locs hw_44 hP hD hK hS => ?_)
  obtain ⟨u_42, rfl⟩ : ∃ z, z = u := ⟨_, rfl⟩
  have hP : va_P (dC, dI) vwCl [(u_21, .inl (u_22, 0, .inr (.inr (.inr (.inr (fun _ => none)))))), (i1, .inl (kT, 0, .inr (.inr (.inr (.inr (fun _ => none)))))), (mt, .inr (1, [.int mo, .ref ma, .int 3])), (ma, .inl (kO, 10, .inr (.inr (.inr (.inr (zfT t0 t1 t2)))))), (mm, .inr (21, [.int 0, .ref ms, .ref mt, .ref mh, .ref me])), (q_34, .inr (20, [.ref u_42, .int 0, .int 0, .int (-1), .null, .int 1, .int 0]))] H := hP
  have hD : va_D A [(u_21, .inl (u_22, 0, .inr (.inr (.inr (.inr (fun _ => none)))))), (i1, .inl (kT, 0, .inr (.inr (.inr (.inr (fun _ => none)))))), (mt, .inr (1, [.int mo, .ref ma, .int 3])), (ma, .inl (kO, 10, .inr (.inr (.inr (.inr (zfT t0 t1 t2)))))), (mm, .inr (21, [.int 0, .ref ms, .ref mt, .ref mh, .ref me])), (q_34, .inr (20, [.ref u_42, .int 0, .int 0, .int (-1), .null, .int 1, .int 0]))] := hD
  have hK : va_K (dC, dI) vwCl [(kO, .object "java/lang/Object"), (kT, .object "HornbookModel$Tree"), (kO, .object "java/lang/Object"), (u_22, .object "HornbookModel$Tree")] s := by simpa using hK
  refine lv_aload hx hb dX19_wouldChoose_181 (lv_at hl 0 rfl) ?_
  refine va_get (D := (dC, dI)) (ci := 20) (v := .int 1) (C := RX18) (T := TX18) (N := 7) hx hb hts in_RX18 hown hK hP 5 rfl rfl 5 (by decide) (hts (.fieldLink RX19 231 "HornbookModel$Word" "fault" "I") (by decide +kernel)) (fun _ h9 => h9) rfl dX19_wouldChoose_183 ?_
  refine lv_if_le (tgt := 198) hx hb dX19_wouldChoose_186 (by decide) (fun c_45 => ?_) (fun c_45 => ?_)
  · exact absurd c_45 (by decide)
  refine lv_aload hx hb dX19_wouldChoose_189 (lv_at hl 0 rfl) ?_
  refine va_get (D := (dC, dI)) (ci := 20) (v := .int 1) (C := RX18) (T := TX18) (N := 7) hx hb hts in_RX18 hown hK hP 5 rfl rfl 5 (by decide) (hts (.fieldLink RX19 231 "HornbookModel$Word" "fault" "I") (by decide +kernel)) (fun _ h9 => h9) rfl dX19_wouldChoose_191 ?_
  refine lv_ineg hx hb dX19_wouldChoose_194 ?_
  refine z_top (v' := .int (-1)) (congrArg Value.int (by decide)) ?_
  refine lv_goto (tgt := 203) hx hb dX19_wouldChoose_195 (by decide) ?_
  have hP9 := hP.sub (ws' := [(mm, .inr (21, [.int 0, .ref ms, .ref mt, .ref mh, .ref me]))]) [4] rfl
  have hD9 := hD.sub (ws' := [(mm, .inr (21, [.int 0, .ref ms, .ref mt, .ref mh, .ref me]))]) [4] (by decide) rfl
  have hK9 := hK.sub (tys' := []) [] rfl
  refine W.widen (k := 7) (n := 22) (Nat.le_of_ble_eq_true rfl) (Nat.le_of_ble_eq_true rfl) ?_
  exact W.iret (v := (-1)) hx hb hr (fun t ht hW => ⟨⟨(-1), (0, (-1)), rfl, ⟨rfl, by first | decide | simp [hx20, hx21], by first | exact fun h => absurd h (by decide) | exact fun _ => rfl | rfl | decide | simp⟩, ⟨by rw [ht]; exact hP9, va_K.moved hW.alike hK9, hD9⟩⟩, hS.F ht⟩) hS.2.2 dX19_wouldChoose_203

set_option maxHeartbeats 4000000 in
set_option maxRecDepth 100000 in
theorem c_M_would_Fnn2 (l : Launch) (eD eI : Nat) (ad : Nat → Nat) (dC : Nat → ClassId) (dI : Nat → Nat → Nat) (sz : Nat) (mm : Nat) (ms : Nat) (mt : Nat) (mh : Nat) (me : Nat) (mo : Int32) (ma : Nat) (kO : ClassId) (kT : ClassId) (t0 : Nat) (t1 : Nat) (t2 : Nat) (i0 : Nat) (i1 : Nat) (i2 : Nat) (th : Int32) (x2 : Int32) (hx20 : ¬ x2 < 0) (hx21 : ¬ 9 < x2) : Met l yX19_wouldChoose w_c_M_would ({ frames := 6, cells := 7, slots := 22, locals := 123 }) (va_Pc [.ref mm, .int 2, .int x2, .int (-1), .int (-1)] (zPre eD eI ad (dC, dI) [(mm, .inr (21, [.int th, .ref ms, .ref mt, .ref mh, .ref me])), (ms, .inr (1, [.int 0, .ref eD, .int 0])), (mt, .inr (1, [.int mo, .ref ma, .int 3])), (mh, .inr (1, [.int 0, .ref eD, .int 0])), (me, .inr (1, [.int 0, .ref eD, .int 0])), (ma, .inl (kO, 10, .inr (.inr (.inr (.inr (zfT t0 t1 t2)))))), (t0, .inr (18, [.int (-1), .ref i0])), (t1, .inr (18, [.int (-2), .ref i1])), (t2, .inr (18, [.int (-3), .ref i2])), (i0, .inl (kT, 0, .inr (.inr (.inr (.inr (fun _ => none)))))), (i1, .inl (kT, 0, .inr (.inr (.inr (.inr (fun _ => none)))))), (i2, .inl (kT, 0, .inr (.inr (.inr (.inr (fun _ => none))))))] [(kO, .object "java/lang/Object"), (kT, .object "HornbookModel$Tree")] sz)) (va_Qi (fun (r : Int32) (u : Int32 × Int32) => match u with | (th2, v2) => r = v2 ∧ th2 = (if (2 : Int32) < 0 ∨ 2 < (2 : Int32) then 1 else if ¬ (-1 : Int32) = (-1) ∧ ((-1 : Int32) < 0 ∨ 2 < (-1 : Int32)) then 1 else if ¬ (-1 : Int32) = (-1) ∧ ((-1 : Int32) < 0 ∨ 2 < (-1 : Int32)) then 1 else if x2 < 0 ∨ 9 < x2 then 2 else if (-1 : Int32) = (-1) ∧ ¬ (-1 : Int32) = (-1) then 2 else if (2 : Int32) = 2 ∨ (-1 : Int32) = 2 ∨ (-1 : Int32) = 2 then 2 else 0) ∧ (th2 = 0 → v2 = (-1))) (fun (u : Int32 × Int32) => match u with | (th2, v2) => zEnd (dC, dI) (va_A [(mm, .inr (21, [.int th, .ref ms, .ref mt, .ref mh, .ref me])), (ms, .inr (1, [.int 0, .ref eD, .int 0])), (mt, .inr (1, [.int mo, .ref ma, .int 3])), (mh, .inr (1, [.int 0, .ref eD, .int 0])), (me, .inr (1, [.int 0, .ref eD, .int 0])), (ma, .inl (kO, 10, .inr (.inr (.inr (.inr (zfT t0 t1 t2)))))), (t0, .inr (18, [.int (-1), .ref i0])), (t1, .inr (18, [.int (-2), .ref i1])), (t2, .inr (18, [.int (-3), .ref i2])), (i0, .inl (kT, 0, .inr (.inr (.inr (.inr (fun _ => none)))))), (i1, .inl (kT, 0, .inr (.inr (.inr (.inr (fun _ => none)))))), (i2, .inl (kT, 0, .inr (.inr (.inr (.inr (fun _ => none))))))] sz) [(mm, .inr (21, [.int th2, .ref ms, .ref mt, .ref mh, .ref me]))] []) (va_A [(mm, .inr (21, [.int th, .ref ms, .ref mt, .ref mh, .ref me])), (ms, .inr (1, [.int 0, .ref eD, .int 0])), (mt, .inr (1, [.int mo, .ref ma, .int 3])), (mh, .inr (1, [.int 0, .ref eD, .int 0])), (me, .inr (1, [.int 0, .ref eD, .int 0])), (ma, .inl (kO, 10, .inr (.inr (.inr (.inr (zfT t0 t1 t2)))))), (t0, .inr (18, [.int (-1), .ref i0])), (t1, .inr (18, [.int (-2), .ref i1])), (t2, .inr (18, [.int (-3), .ref i2])), (i0, .inl (kT, 0, .inr (.inr (.inr (.inr (fun _ => none)))))), (i1, .inl (kT, 0, .inr (.inr (.inr (.inr (fun _ => none)))))), (i2, .inl (kT, 0, .inr (.inr (.inr (.inr (fun _ => none))))))] sz)) 7 22 (va_A [(mm, .inr (21, [.int th, .ref ms, .ref mt, .ref mh, .ref me])), (ms, .inr (1, [.int 0, .ref eD, .int 0])), (mt, .inr (1, [.int mo, .ref ma, .int 3])), (mh, .inr (1, [.int 0, .ref eD, .int 0])), (me, .inr (1, [.int 0, .ref eD, .int 0])), (ma, .inl (kO, 10, .inr (.inr (.inr (.inr (zfT t0 t1 t2)))))), (t0, .inr (18, [.int (-1), .ref i0])), (t1, .inr (18, [.int (-2), .ref i1])), (t2, .inr (18, [.int (-3), .ref i2])), (i0, .inl (kT, 0, .inr (.inr (.inr (.inr (fun _ => none)))))), (i1, .inl (kT, 0, .inr (.inr (.inr (.inr (fun _ => none)))))), (i2, .inl (kT, 0, .inr (.inr (.inr (.inr (fun _ => none))))))] sz) := by
  refine Met.ofW (cc := cX19_wouldChoose) (maxL := 11) (ret := (some .int)) (by decide) rfl ?_
  intro p e s m args below meth c s₁ B hml hv
  obtain ⟨rfl, hsz, hP, hK, hD0, hE⟩ := hv
  have hx := B.exec
  have hb := B.bytes
  have hr := B.returns
  have hts := atoms_spec (ws := w_c_M_would) B.pre
  have hown : s.vm.findClass RX19 = some m.cls := findClass_of_methodNamed B.named
  have hlocks := B.notSynchronized
  subst hsz
  have hD := hD0.self (sz := s.heap.size)
  generalize hAe : va_A [(mm, .inr (21, [.int th, .ref ms, .ref mt, .ref mh, .ref me])), (ms, .inr (1, [.int 0, .ref eD, .int 0])), (mt, .inr (1, [.int mo, .ref ma, .int 3])), (mh, .inr (1, [.int 0, .ref eD, .int 0])), (me, .inr (1, [.int 0, .ref eD, .int 0])), (ma, .inl (kO, 10, .inr (.inr (.inr (.inr (zfT t0 t1 t2)))))), (t0, .inr (18, [.int (-1), .ref i0])), (t1, .inr (18, [.int (-2), .ref i1])), (t2, .inr (18, [.int (-3), .ref i2])), (i0, .inl (kT, 0, .inr (.inr (.inr (.inr (fun _ => none)))))), (i1, .inl (kT, 0, .inr (.inr (.inr (.inr (fun _ => none)))))), (i2, .inl (kT, 0, .inr (.inr (.inr (.inr (fun _ => none))))))] s.heap.size = A at hD hE ⊢
  have hA : ∀ q : Nat, s.heap.size ≤ q → A q := fun q h => by rw [← hAe]; exact Or.inr h
  have hS : va_S A s.heap s.heap [] := va_S.rf
  have hP : va_P (dC, dI) vwCl [(mm, .inr (21, [.int th, .ref ms, .ref mt, .ref mh, .ref me])), (ms, .inr (1, [.int 0, .ref eD, .int 0])), (mt, .inr (1, [.int mo, .ref ma, .int 3])), (mh, .inr (1, [.int 0, .ref eD, .int 0])), (me, .inr (1, [.int 0, .ref eD, .int 0])), (ma, .inl (kO, 10, .inr (.inr (.inr (.inr (zfT t0 t1 t2)))))), (t0, .inr (18, [.int (-1), .ref i0])), (t1, .inr (18, [.int (-2), .ref i1])), (t2, .inr (18, [.int (-3), .ref i2])), (i0, .inl (kT, 0, .inr (.inr (.inr (.inr (fun _ => none)))))), (i1, .inl (kT, 0, .inr (.inr (.inr (.inr (fun _ => none)))))), (i2, .inl (kT, 0, .inr (.inr (.inr (.inr (fun _ => none))))))] s.heap := hP
  have hl := lv_entry ([.ref mm, .int 2, .int x2, .int (-1), .int (-1)]) (n := 11) (Nat.le_of_ble_eq_true rfl)
  rw [lg_entry_eq]
  generalize (lg_sl ([.ref mm, .int 2, .int x2, .int (-1), .int (-1)]) ++ List.replicate (11 - (lg_sl ([.ref mm, .int 2, .int x2, .int (-1), .int (-1)])).length) Slot.unset).toArray = ls at hl ⊢
  have hl : lv_has ls 11 [(0, .ref mm), (1, .int 2), (2, .int x2), (3, .int (-1)), (4, .int (-1))] := hl
  have in_RJx4a65c : ∀ w ∈ u_ws RJx4a65c TJx4a65c 3, w ∈ w_c_M_would := by decide +kernel
  have in_RX16 : ∀ w ∈ u_ws RX16 TX16 2, w ∈ w_c_M_would := by decide +kernel
  have in_RX19 : ∀ w ∈ u_ws RX19 TX19 5, w ∈ w_c_M_would := by decide +kernel
  have hP := hP.sub (ws' := [(mm, .inr (21, [.int th, .ref ms, .ref mt, .ref mh, .ref me])), (mt, .inr (1, [.int mo, .ref ma, .int 3])), (mh, .inr (1, [.int 0, .ref eD, .int 0])), (ma, .inl (kO, 10, .inr (.inr (.inr (.inr (zfT t0 t1 t2)))))), (t2, .inr (18, [.int (-3), .ref i2])), (i2, .inl (kT, 0, .inr (.inr (.inr (.inr (fun _ => none))))))]) [0, 2, 3, 5, 8, 11] rfl
  have hD := hD.sub (ws' := [(mm, .inr (21, [.int th, .ref ms, .ref mt, .ref mh, .ref me])), (mt, .inr (1, [.int mo, .ref ma, .int 3])), (mh, .inr (1, [.int 0, .ref eD, .int 0])), (ma, .inl (kO, 10, .inr (.inr (.inr (.inr (zfT t0 t1 t2)))))), (t2, .inr (18, [.int (-3), .ref i2])), (i2, .inl (kT, 0, .inr (.inr (.inr (.inr (fun _ => none))))))]) [0, 2, 3, 5, 8, 11] (by decide) rfl
  refine lv_aload_n hx hb dX19_wouldChoose_0 rfl (lv_at hl 0 rfl) ?_
  refine lv_aload_n hx hb dX19_wouldChoose_1 rfl (lv_at hl 0 rfl) ?_
  refine lv_iload_n hx hb dX19_wouldChoose_2 rfl (lv_at hl 1 rfl) ?_
  refine z_i (wr := [(mh, .inr (1, [.int 0, .ref eD, .int 0])), (ma, .inl (kO, 10, .inr (.inr (.inr (.inr (zfT t0 t1 t2)))))), (t2, .inr (18, [.int (-3), .ref i2])), (i2, .inl (kT, 0, .inr (.inr (.inr (.inr (fun _ => none))))))]) (va_runV (As := [.int 2]) (rest := [.ref mm]) ⟨hx, hb, hml, hown, hts⟩ (c_M_isNoType_ok l eD eI ad dC dI s.heap.size mm ms mt mh me th ((.int mo)) ((.ref ma)) 2 (by decide) (by decide)) (cwV 1 hts g_c_M_would_3 rfl rfl rfl (by decide +kernel) ⟨Nat.le_of_ble_eq_true rfl, Nat.le_of_ble_eq_true rfl⟩) (z_preV (wc := [(mm, .inr (21, [.int th, .ref ms, .ref mt, .ref mh, .ref me])), (mt, .inr (1, [.int mo, .ref ma, .int 3]))]) hP hD hK hS hA hE [0, 1] [] rfl (by decide) rfl (ci := 21) (q0 := 0) rfl rfl) rfl rfl hl.1 rfl (lv_room (Nat.le_of_ble_eq_true rfl)) dX19_wouldChoose_3 ⟨Nat.le_of_ble_eq_true rfl, Nat.le_of_ble_eq_true rfl⟩) hP hD hK hS hA [0, 1] [2, 3, 4, 5] rfl rfl (by decide) (by decide) (fun r_1 u H locs hw_2 hP hD hK hS => ?_)
  obtain ⟨⟩ := u
  have hP : va_P (dC, dI) vwCl [(mh, .inr (1, [.int 0, .ref eD, .int 0])), (ma, .inl (kO, 10, .inr (.inr (.inr (.inr (zfT t0 t1 t2)))))), (t2, .inr (18, [.int (-3), .ref i2])), (i2, .inl (kT, 0, .inr (.inr (.inr (.inr (fun _ => none)))))), (mm, .inr (21, [.int th, .ref ms, .ref mt, .ref mh, .ref me])), (mt, .inr (1, [.int mo, .ref ma, .int 3]))] H := hP
  have hD : va_D A [(mh, .inr (1, [.int 0, .ref eD, .int 0])), (ma, .inl (kO, 10, .inr (.inr (.inr (.inr (zfT t0 t1 t2)))))), (t2, .inr (18, [.int (-3), .ref i2])), (i2, .inl (kT, 0, .inr (.inr (.inr (.inr (fun _ => none)))))), (mm, .inr (21, [.int th, .ref ms, .ref mt, .ref mh, .ref me])), (mt, .inr (1, [.int mo, .ref ma, .int 3]))] := hD
  have hK : va_K (dC, dI) vwCl [(kO, .object "java/lang/Object"), (kT, .object "HornbookModel$Tree")] s := by simpa using hK
  have hw_2 : r_1 = 0 := hw_2
  have hw_2 := hw_2.symm
  subst hw_2
  refine lv_if_ne (tgt := 26) hx hb dX19_wouldChoose_6 (by decide) (fun c_3 => ?_) (fun c_3 => ?_)
  · exact absurd (by decide) c_3
  refine lv_aload_n hx hb dX19_wouldChoose_9 rfl (lv_at hl 0 rfl) ?_
  refine lv_iload_n hx hb dX19_wouldChoose_10 rfl (lv_at hl 3 rfl) ?_
  refine z_i (wr := [(mh, .inr (1, [.int 0, .ref eD, .int 0])), (ma, .inl (kO, 10, .inr (.inr (.inr (.inr (zfT t0 t1 t2)))))), (t2, .inr (18, [.int (-3), .ref i2])), (i2, .inl (kT, 0, .inr (.inr (.inr (.inr (fun _ => none))))))]) (va_runV (As := [.int (-1)]) (rest := [.ref mm]) ⟨hx, hb, hml, hown, hts⟩ (c_M_isNoTypeN_none l eD eI ad dC dI H.size mm ms mt mh me th ((.int mo)) ((.ref ma))) (cwV 1 hts g_c_M_would_4 rfl rfl rfl (by decide +kernel) ⟨Nat.le_of_ble_eq_true rfl, Nat.le_of_ble_eq_true rfl⟩) (z_preV (wc := [(mm, .inr (21, [.int th, .ref ms, .ref mt, .ref mh, .ref me])), (mt, .inr (1, [.int mo, .ref ma, .int 3]))]) hP hD hK hS hA hE [4, 5] [] rfl (by decide) rfl (ci := 21) (q0 := 0) rfl rfl) rfl rfl hl.1 rfl (lv_room (Nat.le_of_ble_eq_true rfl)) dX19_wouldChoose_11 ⟨Nat.le_of_ble_eq_true rfl, Nat.le_of_ble_eq_true rfl⟩) hP hD hK hS hA [4, 5] [0, 1, 2, 3] rfl rfl (by decide) (by decide) (fun r_4 u H locs hw_5 hP hD hK hS => ?_)
  obtain ⟨⟩ := u
  have hP : va_P (dC, dI) vwCl [(mh, .inr (1, [.int 0, .ref eD, .int 0])), (ma, .inl (kO, 10, .inr (.inr (.inr (.inr (zfT t0 t1 t2)))))), (t2, .inr (18, [.int (-3), .ref i2])), (i2, .inl (kT, 0, .inr (.inr (.inr (.inr (fun _ => none)))))), (mm, .inr (21, [.int th, .ref ms, .ref mt, .ref mh, .ref me])), (mt, .inr (1, [.int mo, .ref ma, .int 3]))] H := hP
  have hD : va_D A [(mh, .inr (1, [.int 0, .ref eD, .int 0])), (ma, .inl (kO, 10, .inr (.inr (.inr (.inr (zfT t0 t1 t2)))))), (t2, .inr (18, [.int (-3), .ref i2])), (i2, .inl (kT, 0, .inr (.inr (.inr (.inr (fun _ => none)))))), (mm, .inr (21, [.int th, .ref ms, .ref mt, .ref mh, .ref me])), (mt, .inr (1, [.int mo, .ref ma, .int 3]))] := hD
  have hK : va_K (dC, dI) vwCl [(kO, .object "java/lang/Object"), (kT, .object "HornbookModel$Tree")] s := by simpa using hK
  have hw_5 : r_4 = 0 := hw_5
  have hw_5 := hw_5.symm
  subst hw_5
  refine lv_if_ne (tgt := 26) hx hb dX19_wouldChoose_14 (by decide) (fun c_6 => ?_) (fun c_6 => ?_)
  · exact absurd (by decide) c_6
  refine lv_aload_n hx hb dX19_wouldChoose_17 rfl (lv_at hl 0 rfl) ?_
  refine lv_iload hx hb dX19_wouldChoose_18 (lv_at hl 4 rfl) ?_
  refine z_i (wr := [(mh, .inr (1, [.int 0, .ref eD, .int 0])), (ma, .inl (kO, 10, .inr (.inr (.inr (.inr (zfT t0 t1 t2)))))), (t2, .inr (18, [.int (-3), .ref i2])), (i2, .inl (kT, 0, .inr (.inr (.inr (.inr (fun _ => none))))))]) (va_runV (As := [.int (-1)]) (rest := [.ref mm]) ⟨hx, hb, hml, hown, hts⟩ (c_M_isNoTypeN_none l eD eI ad dC dI H.size mm ms mt mh me th ((.int mo)) ((.ref ma))) (cwV 1 hts g_c_M_would_4 rfl rfl rfl (by decide +kernel) ⟨Nat.le_of_ble_eq_true rfl, Nat.le_of_ble_eq_true rfl⟩) (z_preV (wc := [(mm, .inr (21, [.int th, .ref ms, .ref mt, .ref mh, .ref me])), (mt, .inr (1, [.int mo, .ref ma, .int 3]))]) hP hD hK hS hA hE [4, 5] [] rfl (by decide) rfl (ci := 21) (q0 := 0) rfl rfl) rfl rfl hl.1 rfl (lv_room (Nat.le_of_ble_eq_true rfl)) dX19_wouldChoose_20 ⟨Nat.le_of_ble_eq_true rfl, Nat.le_of_ble_eq_true rfl⟩) hP hD hK hS hA [4, 5] [0, 1, 2, 3] rfl rfl (by decide) (by decide) (fun r_7 u H locs hw_8 hP hD hK hS => ?_)
  obtain ⟨⟩ := u
  have hP : va_P (dC, dI) vwCl [(mh, .inr (1, [.int 0, .ref eD, .int 0])), (ma, .inl (kO, 10, .inr (.inr (.inr (.inr (zfT t0 t1 t2)))))), (t2, .inr (18, [.int (-3), .ref i2])), (i2, .inl (kT, 0, .inr (.inr (.inr (.inr (fun _ => none)))))), (mm, .inr (21, [.int th, .ref ms, .ref mt, .ref mh, .ref me])), (mt, .inr (1, [.int mo, .ref ma, .int 3]))] H := hP
  have hD : va_D A [(mh, .inr (1, [.int 0, .ref eD, .int 0])), (ma, .inl (kO, 10, .inr (.inr (.inr (.inr (zfT t0 t1 t2)))))), (t2, .inr (18, [.int (-3), .ref i2])), (i2, .inl (kT, 0, .inr (.inr (.inr (.inr (fun _ => none)))))), (mm, .inr (21, [.int th, .ref ms, .ref mt, .ref mh, .ref me])), (mt, .inr (1, [.int mo, .ref ma, .int 3]))] := hD
  have hK : va_K (dC, dI) vwCl [(kO, .object "java/lang/Object"), (kT, .object "HornbookModel$Tree")] s := by simpa using hK
  have hw_8 : r_7 = 0 := hw_8
  have hw_8 := hw_8.symm
  subst hw_8
  refine lv_if_eq (tgt := 30) hx hb dX19_wouldChoose_23 (by decide) (fun c_9 => ?_) (fun c_9 => ?_)
  rotate_left
  · exact absurd (by decide) c_9
  refine lv_iconst (v := 0) hx hb dX19_wouldChoose_30 (by decide) ?_
  refine lv_iconst (v := 1) hx hb dX19_wouldChoose_31 (by decide) ?_
  refine z_i (wr := [(mh, .inr (1, [.int 0, .ref eD, .int 0])), (ma, .inl (kO, 10, .inr (.inr (.inr (.inr (zfT t0 t1 t2)))))), (t2, .inr (18, [.int (-3), .ref i2])), (i2, .inl (kT, 0, .inr (.inr (.inr (.inr (fun _ => none)))))), (mt, .inr (1, [.int mo, .ref ma, .int 3]))]) (va_runV (As := [.int 0, .int 1]) (rest := []) ⟨hx, hb, hml, hown, hts⟩ (c_M_start_no l eD eI ad dC dI H.size mm ((.ref ms)) ((.ref mt)) ((.ref mh)) ((.ref me)) 1 th) (cwV 2 hts g_c_M_would_5 rfl rfl rfl (by decide +kernel) ⟨Nat.le_of_ble_eq_true rfl, Nat.le_of_ble_eq_true rfl⟩) (z_preV (wc := [(mm, .inr (21, [.int th, .ref ms, .ref mt, .ref mh, .ref me]))]) hP hD hK hS hA hE [4] [] rfl (by decide) rfl (ci := 21) (q0 := 0) rfl rfl) rfl rfl hl.1 rfl (lv_room (Nat.le_of_ble_eq_true rfl)) dX19_wouldChoose_32 ⟨Nat.le_of_ble_eq_true rfl, Nat.le_of_ble_eq_true rfl⟩) hP hD hK hS hA [4] [0, 1, 2, 3, 5] rfl rfl (by decide) (by decide) (fun r_10 u H locs hw_11 hP hD hK hS => ?_)
  obtain ⟨⟩ := u
  have hP : va_P (dC, dI) vwCl [(mh, .inr (1, [.int 0, .ref eD, .int 0])), (ma, .inl (kO, 10, .inr (.inr (.inr (.inr (zfT t0 t1 t2)))))), (t2, .inr (18, [.int (-3), .ref i2])), (i2, .inl (kT, 0, .inr (.inr (.inr (.inr (fun _ => none)))))), (mt, .inr (1, [.int mo, .ref ma, .int 3])), (mm, .inr (21, [.int 0, .ref ms, .ref mt, .ref mh, .ref me]))] H := hP
  have hD : va_D A [(mh, .inr (1, [.int 0, .ref eD, .int 0])), (ma, .inl (kO, 10, .inr (.inr (.inr (.inr (zfT t0 t1 t2)))))), (t2, .inr (18, [.int (-3), .ref i2])), (i2, .inl (kT, 0, .inr (.inr (.inr (.inr (fun _ => none)))))), (mt, .inr (1, [.int mo, .ref ma, .int 3])), (mm, .inr (21, [.int 0, .ref ms, .ref mt, .ref mh, .ref me]))] := hD
  have hK : va_K (dC, dI) vwCl [(kO, .object "java/lang/Object"), (kT, .object "HornbookModel$Tree")] s := by simpa using hK
  have hw_11 : r_10 = 0 := hw_11
  have hw_11 := hw_11.symm
  subst hw_11
  refine lv_if_ne (tgt := 72) hx hb dX19_wouldChoose_35 (by decide) (fun c_12 => ?_) (fun c_12 => ?_)
  · exact absurd (by decide) c_12
  refine lv_aload_n hx hb dX19_wouldChoose_38 rfl (lv_at hl 0 rfl) ?_
  refine lv_iload_n hx hb dX19_wouldChoose_39 rfl (lv_at hl 2 rfl) ?_
  refine lv_iconst (v := 0) hx hb dX19_wouldChoose_40 (by decide) ?_
  refine lv_bipush (v := 9) hx hb dX19_wouldChoose_41 (by decide) ?_
  refine z_i (wr := [(mh, .inr (1, [.int 0, .ref eD, .int 0])), (ma, .inl (kO, 10, .inr (.inr (.inr (.inr (zfT t0 t1 t2)))))), (t2, .inr (18, [.int (-3), .ref i2])), (i2, .inl (kT, 0, .inr (.inr (.inr (.inr (fun _ => none)))))), (mt, .inr (1, [.int mo, .ref ma, .int 3])), (mm, .inr (21, [.int 0, .ref ms, .ref mt, .ref mh, .ref me]))]) (va_runS (As := [.int x2, .int 0, .int 9]) (rest := [.ref mm]) ⟨hx, hb, hml, hown, hts⟩ (c_M_isIn_ok l eD eI ad dC dI H.size x2 0 9 (hx20) (hx21)) (va_cwS 3 hts g_c_M_would_9 rfl rfl rfl (by decide +kernel) ⟨Nat.le_of_ble_eq_true rfl, Nat.le_of_ble_eq_true rfl⟩) (z_preS (wc := []) hP hD hK hS hA hE [] [] rfl (by decide) rfl) rfl rfl hl.1 rfl (lv_room (Nat.le_of_ble_eq_true rfl)) dX19_wouldChoose_43 ⟨Nat.le_of_ble_eq_true rfl, Nat.le_of_ble_eq_true rfl⟩) hP hD hK hS hA [] [0, 1, 2, 3, 4, 5] rfl rfl (by decide) (by decide) (fun r_13 u H locs hw_14 hP hD hK hS => ?_)
  obtain ⟨⟩ := u
  have hP : va_P (dC, dI) vwCl [(mh, .inr (1, [.int 0, .ref eD, .int 0])), (ma, .inl (kO, 10, .inr (.inr (.inr (.inr (zfT t0 t1 t2)))))), (t2, .inr (18, [.int (-3), .ref i2])), (i2, .inl (kT, 0, .inr (.inr (.inr (.inr (fun _ => none)))))), (mt, .inr (1, [.int mo, .ref ma, .int 3])), (mm, .inr (21, [.int 0, .ref ms, .ref mt, .ref mh, .ref me]))] H := hP
  have hD : va_D A [(mh, .inr (1, [.int 0, .ref eD, .int 0])), (ma, .inl (kO, 10, .inr (.inr (.inr (.inr (zfT t0 t1 t2)))))), (t2, .inr (18, [.int (-3), .ref i2])), (i2, .inl (kT, 0, .inr (.inr (.inr (.inr (fun _ => none)))))), (mt, .inr (1, [.int mo, .ref ma, .int 3])), (mm, .inr (21, [.int 0, .ref ms, .ref mt, .ref mh, .ref me]))] := hD
  have hK : va_K (dC, dI) vwCl [(kO, .object "java/lang/Object"), (kT, .object "HornbookModel$Tree")] s := by simpa using hK
  have hw_14 : r_13 = 1 := hw_14
  have hw_14 := hw_14.symm
  subst hw_14
  refine lv_if_eq (tgt := 60) hx hb dX19_wouldChoose_46 (by decide) (fun c_15 => ?_) (fun c_15 => ?_)
  · exact absurd c_15 (by decide)
  refine lv_iload_n hx hb dX19_wouldChoose_49 rfl (lv_at hl 3 rfl) ?_
  refine lv_iconst (v := (-1)) hx hb dX19_wouldChoose_50 (by decide) ?_
  refine lv_icmp_ne (tgt := 64) hx hb dX19_wouldChoose_51 (by decide) (fun c_16 => ?_) (fun c_16 => ?_)
  · exact absurd (by decide) c_16
  refine lv_iload hx hb dX19_wouldChoose_54 (lv_at hl 4 rfl) ?_
  refine lv_iconst (v := (-1)) hx hb dX19_wouldChoose_56 (by decide) ?_
  refine lv_icmp_eq (tgt := 64) hx hb dX19_wouldChoose_57 (by decide) (fun c_17 => ?_) (fun c_17 => ?_)
  rotate_left
  · exact absurd (by decide) c_17
  refine lv_iconst (v := 0) hx hb dX19_wouldChoose_64 (by decide) ?_
  refine lv_iconst (v := 2) hx hb dX19_wouldChoose_65 (by decide) ?_
  refine z_i (wr := [(mh, .inr (1, [.int 0, .ref eD, .int 0])), (ma, .inl (kO, 10, .inr (.inr (.inr (.inr (zfT t0 t1 t2)))))), (t2, .inr (18, [.int (-3), .ref i2])), (i2, .inl (kT, 0, .inr (.inr (.inr (.inr (fun _ => none)))))), (mt, .inr (1, [.int mo, .ref ma, .int 3]))]) (va_runV (As := [.int 0, .int 2]) (rest := []) ⟨hx, hb, hml, hown, hts⟩ (c_M_refuse_no l eD eI ad dC dI H.size mm ((.ref ms)) ((.ref mt)) ((.ref mh)) ((.ref me)) 2) (cwV 2 hts g_c_M_would_10 rfl rfl rfl (by decide +kernel) ⟨Nat.le_of_ble_eq_true rfl, Nat.le_of_ble_eq_true rfl⟩) (z_preV (wc := [(mm, .inr (21, [.int 0, .ref ms, .ref mt, .ref mh, .ref me]))]) hP hD hK hS hA hE [5] [] rfl (by decide) rfl (ci := 21) (q0 := 0) rfl rfl) rfl rfl hl.1 rfl (lv_room (Nat.le_of_ble_eq_true rfl)) dX19_wouldChoose_66 ⟨Nat.le_of_ble_eq_true rfl, Nat.le_of_ble_eq_true rfl⟩) hP hD hK hS hA [5] [0, 1, 2, 3, 4] rfl rfl (by decide) (by decide) (fun r_18 u H locs hw_19 hP hD hK hS => ?_)
  obtain ⟨⟩ := u
  have hP : va_P (dC, dI) vwCl [(mh, .inr (1, [.int 0, .ref eD, .int 0])), (ma, .inl (kO, 10, .inr (.inr (.inr (.inr (zfT t0 t1 t2)))))), (t2, .inr (18, [.int (-3), .ref i2])), (i2, .inl (kT, 0, .inr (.inr (.inr (.inr (fun _ => none)))))), (mt, .inr (1, [.int mo, .ref ma, .int 3])), (mm, .inr (21, [.int 0, .ref ms, .ref mt, .ref mh, .ref me]))] H := hP
  have hD : va_D A [(mh, .inr (1, [.int 0, .ref eD, .int 0])), (ma, .inl (kO, 10, .inr (.inr (.inr (.inr (zfT t0 t1 t2)))))), (t2, .inr (18, [.int (-3), .ref i2])), (i2, .inl (kT, 0, .inr (.inr (.inr (.inr (fun _ => none)))))), (mt, .inr (1, [.int mo, .ref ma, .int 3])), (mm, .inr (21, [.int 0, .ref ms, .ref mt, .ref mh, .ref me]))] := hD
  have hK : va_K (dC, dI) vwCl [(kO, .object "java/lang/Object"), (kT, .object "HornbookModel$Tree")] s := by simpa using hK
  have hw_19 : r_18 = 0 := hw_19
  have hw_19 := hw_19.symm
  subst hw_19
  refine lv_if_eq (tgt := 74) hx hb dX19_wouldChoose_69 (by decide) (fun c_20 => ?_) (fun c_20 => ?_)
  rotate_left
  · exact absurd (by decide) c_20
  refine lv_aload_n hx hb dX19_wouldChoose_74 rfl (lv_at hl 0 rfl) ?_
  refine lv_iload_n hx hb dX19_wouldChoose_75 rfl (lv_at hl 3 rfl) ?_
  refine lv_iload hx hb dX19_wouldChoose_76 (lv_at hl 4 rfl) ?_
  refine z_q (wr := [(mh, .inr (1, [.int 0, .ref eD, .int 0])), (t2, .inr (18, [.int (-3), .ref i2])), (i2, .inl (kT, 0, .inr (.inr (.inr (.inr (fun _ => none))))))]) (va_runV (As := [.int (-1), .int (-1)]) (rest := []) ⟨hx, hb, hml, hown, hts⟩ (c_M_trees_n l eD eI ad dC dI H.size mm ms mt mh me 0 mo ma kO t0 t1 t2) (cwV 2 hts g_c_M_would_11 rfl rfl rfl (by decide +kernel) ⟨Nat.le_of_ble_eq_true rfl, Nat.le_of_ble_eq_true rfl⟩) (z_preV (wc := [(mm, .inr (21, [.int 0, .ref ms, .ref mt, .ref mh, .ref me])), (mt, .inr (1, [.int mo, .ref ma, .int 3])), (ma, .inl (kO, 10, .inr (.inr (.inr (.inr (zfT t0 t1 t2))))))]) hP hD hK hS hA hE [5, 4, 1] [0] rfl (by decide) rfl (ci := 21) (q0 := 0) rfl rfl) rfl rfl hl.1 rfl (lv_room (Nat.le_of_ble_eq_true rfl)) dX19_wouldChoose_78 ⟨Nat.le_of_ble_eq_true rfl, Nat.le_of_ble_eq_true rfl⟩) hP hD hK hS hA [5, 4, 1] [0, 2, 3] rfl rfl (by decide) (by decide) (fun r_23 u H locs hw_24 hP hD hK hS => ?_)
  obtain ⟨u_21, u_22⟩ := u
  have hP : va_P (dC, dI) vwCl [(mh, .inr (1, [.int 0, .ref eD, .int 0])), (t2, .inr (18, [.int (-3), .ref i2])), (i2, .inl (kT, 0, .inr (.inr (.inr (.inr (fun _ => none)))))), (mm, .inr (21, [.int 0, .ref ms, .ref mt, .ref mh, .ref me])), (mt, .inr (1, [.int mo, .ref ma, .int 3])), (ma, .inl (kO, 10, .inr (.inr (.inr (.inr (zfT t0 t1 t2)))))), (u_21, .inl (u_22, 0, .inr (.inr (.inr (.inr (fun _ => none))))))] H := hP
  have hD : va_D A [(mh, .inr (1, [.int 0, .ref eD, .int 0])), (t2, .inr (18, [.int (-3), .ref i2])), (i2, .inl (kT, 0, .inr (.inr (.inr (.inr (fun _ => none)))))), (mm, .inr (21, [.int 0, .ref ms, .ref mt, .ref mh, .ref me])), (mt, .inr (1, [.int mo, .ref ma, .int 3])), (ma, .inl (kO, 10, .inr (.inr (.inr (.inr (zfT t0 t1 t2)))))), (u_21, .inl (u_22, 0, .inr (.inr (.inr (.inr (fun _ => none))))))] := hD
  have hK : va_K (dC, dI) vwCl [(kO, .object "java/lang/Object"), (kT, .object "HornbookModel$Tree"), (kO, .object "java/lang/Object"), (u_22, .object "HornbookModel$Tree")] s := hK
  have hw_24 : r_23 = some u_21 := hw_24
  have hw_24 := hw_24.symm
  subst hw_24
  refine W.eq (g2 := F0 m 81 ls (.ref u_21 :: [])) rfl ?_
  refine lv_astore (lv' := [(5, .ref u_21), (0, .ref mm), (1, .int 2), (2, .int x2), (3, .int (-1)), (4, .int (-1))]) hx hb dX19_wouldChoose_81 hl (by decide) rfl (fun ls hl => ?_)
  refine lv_aload_n hx hb dX19_wouldChoose_83 rfl (lv_at hl 1 rfl) ?_
  refine lv_iload_n hx hb dX19_wouldChoose_84 rfl (lv_at hl 2 rfl) ?_
  refine z_q (wr := [(mh, .inr (1, [.int 0, .ref eD, .int 0])), (i2, .inl (kT, 0, .inr (.inr (.inr (.inr (fun _ => none)))))), (u_21, .inl (u_22, 0, .inr (.inr (.inr (.inr (fun _ => none))))))]) (va_runV (As := [.int 2]) (rest := []) ⟨hx, hb, hml, hown, hts⟩ (c_M_type_2 l eD eI ad dC dI H.size mm ms mt mh me 0 mo ma kO t0 t1 t2 ((.ref i2))) (cwV 1 hts g_c_M_would_19 rfl rfl rfl (by decide +kernel) ⟨Nat.le_of_ble_eq_true rfl, Nat.le_of_ble_eq_true rfl⟩) (z_preV (wc := [(mm, .inr (21, [.int 0, .ref ms, .ref mt, .ref mh, .ref me])), (mt, .inr (1, [.int mo, .ref ma, .int 3])), (ma, .inl (kO, 10, .inr (.inr (.inr (.inr (zfT t0 t1 t2)))))), (t2, .inr (18, [.int (-3), .ref i2]))]) hP hD hK hS hA hE [3, 4, 5, 1] [0] rfl (by decide) rfl (ci := 21) (q0 := 0) rfl rfl) rfl rfl hl.1 rfl (lv_room (Nat.le_of_ble_eq_true rfl)) dX19_wouldChoose_85 ⟨Nat.le_of_ble_eq_true rfl, Nat.le_of_ble_eq_true rfl⟩) hP hD hK hS hA [3, 4, 5, 1] [0, 2, 6] rfl rfl (by decide) (by decide) (fun r_25 u H locs hw_26 hP hD hK hS => ?_)
  obtain ⟨⟩ := u
  have hP : va_P (dC, dI) vwCl [(mh, .inr (1, [.int 0, .ref eD, .int 0])), (i2, .inl (kT, 0, .inr (.inr (.inr (.inr (fun _ => none)))))), (u_21, .inl (u_22, 0, .inr (.inr (.inr (.inr (fun _ => none)))))), (mm, .inr (21, [.int 0, .ref ms, .ref mt, .ref mh, .ref me])), (mt, .inr (1, [.int mo, .ref ma, .int 3])), (ma, .inl (kO, 10, .inr (.inr (.inr (.inr (zfT t0 t1 t2)))))), (t2, .inr (18, [.int (-3), .ref i2]))] H := hP
  have hD : va_D A [(mh, .inr (1, [.int 0, .ref eD, .int 0])), (i2, .inl (kT, 0, .inr (.inr (.inr (.inr (fun _ => none)))))), (u_21, .inl (u_22, 0, .inr (.inr (.inr (.inr (fun _ => none)))))), (mm, .inr (21, [.int 0, .ref ms, .ref mt, .ref mh, .ref me])), (mt, .inr (1, [.int mo, .ref ma, .int 3])), (ma, .inl (kO, 10, .inr (.inr (.inr (.inr (zfT t0 t1 t2)))))), (t2, .inr (18, [.int (-3), .ref i2]))] := hD
  have hK : va_K (dC, dI) vwCl [(kO, .object "java/lang/Object"), (kT, .object "HornbookModel$Tree"), (kO, .object "java/lang/Object"), (u_22, .object "HornbookModel$Tree")] s := by simpa using hK
  have hw_26 : r_25 = some t2 := hw_26
  have hw_26 := hw_26.symm
  subst hw_26
  refine W.eq (g2 := F0 m 88 ls (.ref t2 :: [])) rfl ?_
  refine z_i (wr := [(mh, .inr (1, [.int 0, .ref eD, .int 0])), (u_21, .inl (u_22, 0, .inr (.inr (.inr (.inr (fun _ => none)))))), (mm, .inr (21, [.int 0, .ref ms, .ref mt, .ref mh, .ref me])), (mt, .inr (1, [.int mo, .ref ma, .int 3])), (ma, .inl (kO, 10, .inr (.inr (.inr (.inr (zfT t0 t1 t2))))))]) (va_runV (As := []) (rest := []) ⟨hx, hb, hml, hown, hts⟩ (c_T_isClosed_3 l eD eI ad dC dI H.size t2 i2 kT) (cwV 0 hts g_c_M_would_20 rfl rfl rfl (by decide +kernel) ⟨Nat.le_of_ble_eq_true rfl, Nat.le_of_ble_eq_true rfl⟩) (z_preV (wc := [(t2, .inr (18, [.int (-3), .ref i2])), (i2, .inl (kT, 0, .inr (.inr (.inr (.inr (fun _ => none))))))]) hP hD hK hS hA hE [6, 1] [1] rfl (by decide) rfl (ci := 18) (q0 := 0) rfl rfl) rfl rfl hl.1 rfl (lv_room (Nat.le_of_ble_eq_true rfl)) dX19_wouldChoose_88 ⟨Nat.le_of_ble_eq_true rfl, Nat.le_of_ble_eq_true rfl⟩) hP hD hK hS hA [6, 1] [0, 2, 3, 4, 5] rfl rfl (by decide) (by decide) (fun r_27 u H locs hw_28 hP hD hK hS => ?_)
  obtain ⟨⟩ := u
  have hP : va_P (dC, dI) vwCl [(mh, .inr (1, [.int 0, .ref eD, .int 0])), (u_21, .inl (u_22, 0, .inr (.inr (.inr (.inr (fun _ => none)))))), (mm, .inr (21, [.int 0, .ref ms, .ref mt, .ref mh, .ref me])), (mt, .inr (1, [.int mo, .ref ma, .int 3])), (ma, .inl (kO, 10, .inr (.inr (.inr (.inr (zfT t0 t1 t2)))))), (t2, .inr (18, [.int (-3), .ref i2])), (i2, .inl (kT, 0, .inr (.inr (.inr (.inr (fun _ => none))))))] H := hP
  have hD : va_D A [(mh, .inr (1, [.int 0, .ref eD, .int 0])), (u_21, .inl (u_22, 0, .inr (.inr (.inr (.inr (fun _ => none)))))), (mm, .inr (21, [.int 0, .ref ms, .ref mt, .ref mh, .ref me])), (mt, .inr (1, [.int mo, .ref ma, .int 3])), (ma, .inl (kO, 10, .inr (.inr (.inr (.inr (zfT t0 t1 t2)))))), (t2, .inr (18, [.int (-3), .ref i2])), (i2, .inl (kT, 0, .inr (.inr (.inr (.inr (fun _ => none))))))] := hD
  have hK : va_K (dC, dI) vwCl [(kO, .object "java/lang/Object"), (kT, .object "HornbookModel$Tree"), (kO, .object "java/lang/Object"), (u_22, .object "HornbookModel$Tree")] s := by simpa using hK
  have hw_28 : r_27 = 0 := hw_28
  have hw_28 := hw_28.symm
  subst hw_28
  refine lv_istore (lv' := [(6, .int 0), (5, .ref u_21), (0, .ref mm), (1, .int 2), (2, .int x2), (3, .int (-1)), (4, .int (-1))]) hx hb dX19_wouldChoose_91 hl (by decide) rfl (fun ls hl => ?_)
  refine lv_aload hx hb dX19_wouldChoose_93 (lv_at hl 1 rfl) ?_
  refine lv_astore (lv' := [(7, .ref u_21), (6, .int 0), (5, .ref u_21), (0, .ref mm), (1, .int 2), (2, .int x2), (3, .int (-1)), (4, .int (-1))]) hx hb dX19_wouldChoose_95 hl (by decide) rfl (fun ls hl => ?_)
  refine lv_aload hx hb dX19_wouldChoose_97 (lv_at hl 0 rfl) ?_
  refine va_alen (D := (dC, dI)) (v := 0) hx hb hK hP 1 3 rfl rfl rfl dX19_wouldChoose_99 ?_
  refine lv_istore (lv' := [(8, .int 0), (7, .ref u_21), (6, .int 0), (5, .ref u_21), (0, .ref mm), (1, .int 2), (2, .int x2), (3, .int (-1)), (4, .int (-1))]) hx hb dX19_wouldChoose_100 hl (by decide) rfl (fun ls hl => ?_)
  refine lv_iconst (v := 0) hx hb dX19_wouldChoose_102 (by decide) ?_
  refine lv_istore (lv' := [(9, .int 0), (8, .int 0), (7, .ref u_21), (6, .int 0), (5, .ref u_21), (0, .ref mm), (1, .int 2), (2, .int x2), (3, .int (-1)), (4, .int (-1))]) hx hb dX19_wouldChoose_103 hl (by decide) rfl (fun ls hl => ?_)
  refine lv_iload hx hb dX19_wouldChoose_105 (lv_at hl 0 rfl) ?_
  refine lv_iload hx hb dX19_wouldChoose_107 (lv_at hl 1 rfl) ?_
  refine lv_icmp_ge (tgt := 135) hx hb dX19_wouldChoose_109 (by decide) (fun c_29 => ?_) (fun c_29 => ?_)
  rotate_left
  · exact absurd (by decide) c_29
  refine lv_aload_n hx hb dX19_wouldChoose_135 rfl (lv_at hl 5 rfl) ?_
  refine lv_iload hx hb dX19_wouldChoose_136 (lv_at hl 3 rfl) ?_
  refine lv_if_ne (tgt := 145) hx hb dX19_wouldChoose_138 (by decide) (fun c_30 => ?_) (fun c_30 => ?_)
  · exact absurd (by decide) c_30
  refine lv_iconst (v := 1) hx hb dX19_wouldChoose_141 (by decide) ?_
  refine lv_goto (tgt := 146) hx hb dX19_wouldChoose_142 (by decide) ?_
  refine lv_iconst (v := 2) hx hb dX19_wouldChoose_146 (by decide) ?_
  refine z_i (wr := [(mh, .inr (1, [.int 0, .ref eD, .int 0])), (u_21, .inl (u_22, 0, .inr (.inr (.inr (.inr (fun _ => none)))))), (mt, .inr (1, [.int mo, .ref ma, .int 3])), (ma, .inl (kO, 10, .inr (.inr (.inr (.inr (zfT t0 t1 t2)))))), (t2, .inr (18, [.int (-3), .ref i2])), (i2, .inl (kT, 0, .inr (.inr (.inr (.inr (fun _ => none))))))]) (va_runV (As := [.int 1, .int 2]) (rest := []) ⟨hx, hb, hml, hown, hts⟩ (c_M_refuse_yes l eD eI ad dC dI H.size mm ((.ref ms)) ((.ref mt)) ((.ref mh)) ((.ref me)) 2 (by decide)) (cwV 2 hts g_c_M_would_7 rfl rfl rfl (by decide +kernel) ⟨Nat.le_of_ble_eq_true rfl, Nat.le_of_ble_eq_true rfl⟩) (z_preV (wc := [(mm, .inr (21, [.int 0, .ref ms, .ref mt, .ref mh, .ref me]))]) hP hD hK hS hA hE [2] [] rfl (by decide) rfl (ci := 21) (q0 := 0) rfl rfl) rfl rfl hl.1 rfl (lv_room (Nat.le_of_ble_eq_true rfl)) dX19_wouldChoose_147 ⟨Nat.le_of_ble_eq_true rfl, Nat.le_of_ble_eq_true rfl⟩) hP hD hK hS hA [2] [0, 1, 3, 4, 5, 6] rfl rfl (by decide) (by decide) (fun r_31 u H locs hw_32 hP hD hK hS => ?_)
  obtain ⟨⟩ := u
  have hP : va_P (dC, dI) vwCl [(mh, .inr (1, [.int 0, .ref eD, .int 0])), (u_21, .inl (u_22, 0, .inr (.inr (.inr (.inr (fun _ => none)))))), (mt, .inr (1, [.int mo, .ref ma, .int 3])), (ma, .inl (kO, 10, .inr (.inr (.inr (.inr (zfT t0 t1 t2)))))), (t2, .inr (18, [.int (-3), .ref i2])), (i2, .inl (kT, 0, .inr (.inr (.inr (.inr (fun _ => none)))))), (mm, .inr (21, [.int 2, .ref ms, .ref mt, .ref mh, .ref me]))] H := hP
  have hD : va_D A [(mh, .inr (1, [.int 0, .ref eD, .int 0])), (u_21, .inl (u_22, 0, .inr (.inr (.inr (.inr (fun _ => none)))))), (mt, .inr (1, [.int mo, .ref ma, .int 3])), (ma, .inl (kO, 10, .inr (.inr (.inr (.inr (zfT t0 t1 t2)))))), (t2, .inr (18, [.int (-3), .ref i2])), (i2, .inl (kT, 0, .inr (.inr (.inr (.inr (fun _ => none)))))), (mm, .inr (21, [.int 2, .ref ms, .ref mt, .ref mh, .ref me]))] := hD
  have hK : va_K (dC, dI) vwCl [(kO, .object "java/lang/Object"), (kT, .object "HornbookModel$Tree"), (kO, .object "java/lang/Object"), (u_22, .object "HornbookModel$Tree")] s := by simpa using hK
  have hw_32 : r_31 = 1 := hw_32
  have hw_32 := hw_32.symm
  subst hw_32
  refine lv_if_eq (tgt := 155) hx hb dX19_wouldChoose_150 (by decide) (fun c_33 => ?_) (fun c_33 => ?_)
  · exact absurd c_33 (by decide)
  refine lv_iconst (v := 0) hx hb dX19_wouldChoose_153 (by decide) ?_
  have hP9 := hP.sub (ws' := [(mm, .inr (21, [.int 2, .ref ms, .ref mt, .ref mh, .ref me]))]) [6] rfl
  have hD9 := hD.sub (ws' := [(mm, .inr (21, [.int 2, .ref ms, .ref mt, .ref mh, .ref me]))]) [6] (by decide) rfl
  have hK9 := hK.sub (tys' := []) [] rfl
  refine W.widen (k := 7) (n := 22) (Nat.le_of_ble_eq_true rfl) (Nat.le_of_ble_eq_true rfl) ?_
  exact W.iret (v := 0) hx hb hr (fun t ht hW => ⟨⟨0, (2, 0), rfl, ⟨rfl, by first | decide | simp [hx20, hx21], by first | exact fun h => absurd h (by decide) | exact fun _ => rfl | rfl | decide | simp⟩, ⟨by rw [ht]; exact hP9, va_K.moved hW.alike hK9, hD9⟩⟩, hS.F ht⟩) hS.2.2 dX19_wouldChoose_154

set_option maxHeartbeats 4000000 in
set_option maxRecDepth 100000 in
theorem c_M_would_Cnl (l : Launch) (eD eI : Nat) (ad : Nat → Nat) (dC : Nat → ClassId) (dI : Nat → Nat → Nat) (sz : Nat) (mm : Nat) (ms : Nat) (mt : Nat) (mh : Nat) (me : Nat) (mo : Int32) (ma : Nat) (kO : ClassId) (kT : ClassId) (t0 : Nat) (t1 : Nat) (t2 : Nat) (i0 : Nat) (i1 : Nat) (i2 : Nat) (th : Int32) (x1 : Int32) (x2 : Int32) (x4 : Int32) (hx10 : ¬ x1 < 0) (hx11 : ¬ 2 < x1) (hx49 : ¬ x4 = (-1)) (hx41 : x4 < 0) : Met l yX19_wouldChoose w_c_M_would ({ frames := 6, cells := 7, slots := 22, locals := 123 }) (va_Pc [.ref mm, .int x1, .int x2, .int (-1), .int x4] (zPre eD eI ad (dC, dI) [(mm, .inr (21, [.int th, .ref ms, .ref mt, .ref mh, .ref me])), (ms, .inr (1, [.int 0, .ref eD, .int 0])), (mt, .inr (1, [.int mo, .ref ma, .int 3])), (mh, .inr (1, [.int 0, .ref eD, .int 0])), (me, .inr (1, [.int 0, .ref eD, .int 0])), (ma, .inl (kO, 10, .inr (.inr (.inr (.inr (zfT t0 t1 t2)))))), (t0, .inr (18, [.int (-1), .ref i0])), (t1, .inr (18, [.int (-2), .ref i1])), (t2, .inr (18, [.int (-3), .ref i2])), (i0, .inl (kT, 0, .inr (.inr (.inr (.inr (fun _ => none)))))), (i1, .inl (kT, 0, .inr (.inr (.inr (.inr (fun _ => none)))))), (i2, .inl (kT, 0, .inr (.inr (.inr (.inr (fun _ => none))))))] [(kO, .object "java/lang/Object"), (kT, .object "HornbookModel$Tree")] sz)) (va_Qi (fun (r : Int32) (u : Int32 × Int32) => match u with | (th2, v2) => r = v2 ∧ th2 = (if x1 < 0 ∨ 2 < x1 then 1 else if ¬ (-1 : Int32) = (-1) ∧ ((-1 : Int32) < 0 ∨ 2 < (-1 : Int32)) then 1 else if ¬ x4 = (-1) ∧ (x4 < 0 ∨ 2 < x4) then 1 else if x2 < 0 ∨ 9 < x2 then 2 else if (-1 : Int32) = (-1) ∧ ¬ x4 = (-1) then 2 else if x1 = 2 ∨ (-1 : Int32) = 2 ∨ x4 = 2 then 2 else 0) ∧ (th2 = 0 → v2 = (-1))) (fun (u : Int32 × Int32) => match u with | (th2, v2) => zEnd (dC, dI) (va_A [(mm, .inr (21, [.int th, .ref ms, .ref mt, .ref mh, .ref me])), (ms, .inr (1, [.int 0, .ref eD, .int 0])), (mt, .inr (1, [.int mo, .ref ma, .int 3])), (mh, .inr (1, [.int 0, .ref eD, .int 0])), (me, .inr (1, [.int 0, .ref eD, .int 0])), (ma, .inl (kO, 10, .inr (.inr (.inr (.inr (zfT t0 t1 t2)))))), (t0, .inr (18, [.int (-1), .ref i0])), (t1, .inr (18, [.int (-2), .ref i1])), (t2, .inr (18, [.int (-3), .ref i2])), (i0, .inl (kT, 0, .inr (.inr (.inr (.inr (fun _ => none)))))), (i1, .inl (kT, 0, .inr (.inr (.inr (.inr (fun _ => none)))))), (i2, .inl (kT, 0, .inr (.inr (.inr (.inr (fun _ => none))))))] sz) [(mm, .inr (21, [.int th2, .ref ms, .ref mt, .ref mh, .ref me]))] []) (va_A [(mm, .inr (21, [.int th, .ref ms, .ref mt, .ref mh, .ref me])), (ms, .inr (1, [.int 0, .ref eD, .int 0])), (mt, .inr (1, [.int mo, .ref ma, .int 3])), (mh, .inr (1, [.int 0, .ref eD, .int 0])), (me, .inr (1, [.int 0, .ref eD, .int 0])), (ma, .inl (kO, 10, .inr (.inr (.inr (.inr (zfT t0 t1 t2)))))), (t0, .inr (18, [.int (-1), .ref i0])), (t1, .inr (18, [.int (-2), .ref i1])), (t2, .inr (18, [.int (-3), .ref i2])), (i0, .inl (kT, 0, .inr (.inr (.inr (.inr (fun _ => none)))))), (i1, .inl (kT, 0, .inr (.inr (.inr (.inr (fun _ => none)))))), (i2, .inl (kT, 0, .inr (.inr (.inr (.inr (fun _ => none))))))] sz)) 7 22 (va_A [(mm, .inr (21, [.int th, .ref ms, .ref mt, .ref mh, .ref me])), (ms, .inr (1, [.int 0, .ref eD, .int 0])), (mt, .inr (1, [.int mo, .ref ma, .int 3])), (mh, .inr (1, [.int 0, .ref eD, .int 0])), (me, .inr (1, [.int 0, .ref eD, .int 0])), (ma, .inl (kO, 10, .inr (.inr (.inr (.inr (zfT t0 t1 t2)))))), (t0, .inr (18, [.int (-1), .ref i0])), (t1, .inr (18, [.int (-2), .ref i1])), (t2, .inr (18, [.int (-3), .ref i2])), (i0, .inl (kT, 0, .inr (.inr (.inr (.inr (fun _ => none)))))), (i1, .inl (kT, 0, .inr (.inr (.inr (.inr (fun _ => none)))))), (i2, .inl (kT, 0, .inr (.inr (.inr (.inr (fun _ => none))))))] sz) := by
  refine Met.ofW (cc := cX19_wouldChoose) (maxL := 11) (ret := (some .int)) (by decide) rfl ?_
  intro p e s m args below meth c s₁ B hml hv
  obtain ⟨rfl, hsz, hP, hK, hD0, hE⟩ := hv
  have hx := B.exec
  have hb := B.bytes
  have hr := B.returns
  have hts := atoms_spec (ws := w_c_M_would) B.pre
  have hown : s.vm.findClass RX19 = some m.cls := findClass_of_methodNamed B.named
  have hlocks := B.notSynchronized
  subst hsz
  have hD := hD0.self (sz := s.heap.size)
  generalize hAe : va_A [(mm, .inr (21, [.int th, .ref ms, .ref mt, .ref mh, .ref me])), (ms, .inr (1, [.int 0, .ref eD, .int 0])), (mt, .inr (1, [.int mo, .ref ma, .int 3])), (mh, .inr (1, [.int 0, .ref eD, .int 0])), (me, .inr (1, [.int 0, .ref eD, .int 0])), (ma, .inl (kO, 10, .inr (.inr (.inr (.inr (zfT t0 t1 t2)))))), (t0, .inr (18, [.int (-1), .ref i0])), (t1, .inr (18, [.int (-2), .ref i1])), (t2, .inr (18, [.int (-3), .ref i2])), (i0, .inl (kT, 0, .inr (.inr (.inr (.inr (fun _ => none)))))), (i1, .inl (kT, 0, .inr (.inr (.inr (.inr (fun _ => none)))))), (i2, .inl (kT, 0, .inr (.inr (.inr (.inr (fun _ => none))))))] s.heap.size = A at hD hE ⊢
  have hA : ∀ q : Nat, s.heap.size ≤ q → A q := fun q h => by rw [← hAe]; exact Or.inr h
  have hS : va_S A s.heap s.heap [] := va_S.rf
  have hP : va_P (dC, dI) vwCl [(mm, .inr (21, [.int th, .ref ms, .ref mt, .ref mh, .ref me])), (ms, .inr (1, [.int 0, .ref eD, .int 0])), (mt, .inr (1, [.int mo, .ref ma, .int 3])), (mh, .inr (1, [.int 0, .ref eD, .int 0])), (me, .inr (1, [.int 0, .ref eD, .int 0])), (ma, .inl (kO, 10, .inr (.inr (.inr (.inr (zfT t0 t1 t2)))))), (t0, .inr (18, [.int (-1), .ref i0])), (t1, .inr (18, [.int (-2), .ref i1])), (t2, .inr (18, [.int (-3), .ref i2])), (i0, .inl (kT, 0, .inr (.inr (.inr (.inr (fun _ => none)))))), (i1, .inl (kT, 0, .inr (.inr (.inr (.inr (fun _ => none)))))), (i2, .inl (kT, 0, .inr (.inr (.inr (.inr (fun _ => none))))))] s.heap := hP
  have hl := lv_entry ([.ref mm, .int x1, .int x2, .int (-1), .int x4]) (n := 11) (Nat.le_of_ble_eq_true rfl)
  rw [lg_entry_eq]
  generalize (lg_sl ([.ref mm, .int x1, .int x2, .int (-1), .int x4]) ++ List.replicate (11 - (lg_sl ([.ref mm, .int x1, .int x2, .int (-1), .int x4])).length) Slot.unset).toArray = ls at hl ⊢
  have hl : lv_has ls 11 [(0, .ref mm), (1, .int x1), (2, .int x2), (3, .int (-1)), (4, .int x4)] := hl
  have in_RJx4a65c : ∀ w ∈ u_ws RJx4a65c TJx4a65c 3, w ∈ w_c_M_would := by decide +kernel
  have in_RX19 : ∀ w ∈ u_ws RX19 TX19 5, w ∈ w_c_M_would := by decide +kernel
  have hP := hP.sub (ws' := [(mm, .inr (21, [.int th, .ref ms, .ref mt, .ref mh, .ref me])), (mt, .inr (1, [.int mo, .ref ma, .int 3]))]) [0, 2] rfl
  have hD := hD.sub (ws' := [(mm, .inr (21, [.int th, .ref ms, .ref mt, .ref mh, .ref me])), (mt, .inr (1, [.int mo, .ref ma, .int 3]))]) [0, 2] (by decide) rfl
  refine lv_aload_n hx hb dX19_wouldChoose_0 rfl (lv_at hl 0 rfl) ?_
  refine lv_aload_n hx hb dX19_wouldChoose_1 rfl (lv_at hl 0 rfl) ?_
  refine lv_iload_n hx hb dX19_wouldChoose_2 rfl (lv_at hl 1 rfl) ?_
  refine z_i (wr := []) (va_runV (As := [.int x1]) (rest := [.ref mm]) ⟨hx, hb, hml, hown, hts⟩ (c_M_isNoType_ok l eD eI ad dC dI s.heap.size mm ms mt mh me th ((.int mo)) ((.ref ma)) x1 (hx10) (hx11)) (cwV 1 hts g_c_M_would_3 rfl rfl rfl (by decide +kernel) ⟨Nat.le_of_ble_eq_true rfl, Nat.le_of_ble_eq_true rfl⟩) (z_preV (wc := [(mm, .inr (21, [.int th, .ref ms, .ref mt, .ref mh, .ref me])), (mt, .inr (1, [.int mo, .ref ma, .int 3]))]) hP hD hK hS hA hE [0, 1] [] rfl (by decide) rfl (ci := 21) (q0 := 0) rfl rfl) rfl rfl hl.1 rfl (lv_room (Nat.le_of_ble_eq_true rfl)) dX19_wouldChoose_3 ⟨Nat.le_of_ble_eq_true rfl, Nat.le_of_ble_eq_true rfl⟩) hP hD hK hS hA [0, 1] [] rfl rfl (by decide) (by decide) (fun r_1 u H locs hw_2 hP hD hK hS => ?_)
  obtain ⟨⟩ := u
  have hP : va_P (dC, dI) vwCl [(mm, .inr (21, [.int th, .ref ms, .ref mt, .ref mh, .ref me])), (mt, .inr (1, [.int mo, .ref ma, .int 3]))] H := hP
  have hD : va_D A [(mm, .inr (21, [.int th, .ref ms, .ref mt, .ref mh, .ref me])), (mt, .inr (1, [.int mo, .ref ma, .int 3]))] := hD
  have hK : va_K (dC, dI) vwCl [(kO, .object "java/lang/Object"), (kT, .object "HornbookModel$Tree")] s := by simpa using hK
  have hw_2 : r_1 = 0 := hw_2
  have hw_2 := hw_2.symm
  subst hw_2
  refine lv_if_ne (tgt := 26) hx hb dX19_wouldChoose_6 (by decide) (fun c_3 => ?_) (fun c_3 => ?_)
  · exact absurd (by decide) c_3
  refine lv_aload_n hx hb dX19_wouldChoose_9 rfl (lv_at hl 0 rfl) ?_
  refine lv_iload_n hx hb dX19_wouldChoose_10 rfl (lv_at hl 3 rfl) ?_
  refine z_i (wr := []) (va_runV (As := [.int (-1)]) (rest := [.ref mm]) ⟨hx, hb, hml, hown, hts⟩ (c_M_isNoTypeN_none l eD eI ad dC dI H.size mm ms mt mh me th ((.int mo)) ((.ref ma))) (cwV 1 hts g_c_M_would_4 rfl rfl rfl (by decide +kernel) ⟨Nat.le_of_ble_eq_true rfl, Nat.le_of_ble_eq_true rfl⟩) (z_preV (wc := [(mm, .inr (21, [.int th, .ref ms, .ref mt, .ref mh, .ref me])), (mt, .inr (1, [.int mo, .ref ma, .int 3]))]) hP hD hK hS hA hE [0, 1] [] rfl (by decide) rfl (ci := 21) (q0 := 0) rfl rfl) rfl rfl hl.1 rfl (lv_room (Nat.le_of_ble_eq_true rfl)) dX19_wouldChoose_11 ⟨Nat.le_of_ble_eq_true rfl, Nat.le_of_ble_eq_true rfl⟩) hP hD hK hS hA [0, 1] [] rfl rfl (by decide) (by decide) (fun r_4 u H locs hw_5 hP hD hK hS => ?_)
  obtain ⟨⟩ := u
  have hP : va_P (dC, dI) vwCl [(mm, .inr (21, [.int th, .ref ms, .ref mt, .ref mh, .ref me])), (mt, .inr (1, [.int mo, .ref ma, .int 3]))] H := hP
  have hD : va_D A [(mm, .inr (21, [.int th, .ref ms, .ref mt, .ref mh, .ref me])), (mt, .inr (1, [.int mo, .ref ma, .int 3]))] := hD
  have hK : va_K (dC, dI) vwCl [(kO, .object "java/lang/Object"), (kT, .object "HornbookModel$Tree")] s := by simpa using hK
  have hw_5 : r_4 = 0 := hw_5
  have hw_5 := hw_5.symm
  subst hw_5
  refine lv_if_ne (tgt := 26) hx hb dX19_wouldChoose_14 (by decide) (fun c_6 => ?_) (fun c_6 => ?_)
  · exact absurd (by decide) c_6
  refine lv_aload_n hx hb dX19_wouldChoose_17 rfl (lv_at hl 0 rfl) ?_
  refine lv_iload hx hb dX19_wouldChoose_18 (lv_at hl 4 rfl) ?_
  refine z_i (wr := []) (va_runV (As := [.int x4]) (rest := [.ref mm]) ⟨hx, hb, hml, hown, hts⟩ (c_M_isNoTypeN_lo l eD eI ad dC dI H.size mm ms mt mh me th ((.int mo)) ((.ref ma)) x4 (hx49) (hx41)) (cwV 1 hts g_c_M_would_21 rfl rfl rfl (by decide +kernel) ⟨Nat.le_of_ble_eq_true rfl, Nat.le_of_ble_eq_true rfl⟩) (z_preV (wc := [(mm, .inr (21, [.int th, .ref ms, .ref mt, .ref mh, .ref me])), (mt, .inr (1, [.int mo, .ref ma, .int 3]))]) hP hD hK hS hA hE [0, 1] [] rfl (by decide) rfl (ci := 21) (q0 := 0) rfl rfl) rfl rfl hl.1 rfl (lv_room (Nat.le_of_ble_eq_true rfl)) dX19_wouldChoose_20 ⟨Nat.le_of_ble_eq_true rfl, Nat.le_of_ble_eq_true rfl⟩) hP hD hK hS hA [0, 1] [] rfl rfl (by decide) (by decide) (fun r_7 u H locs hw_8 hP hD hK hS => ?_)
  obtain ⟨⟩ := u
  have hP : va_P (dC, dI) vwCl [(mm, .inr (21, [.int th, .ref ms, .ref mt, .ref mh, .ref me])), (mt, .inr (1, [.int mo, .ref ma, .int 3]))] H := hP
  have hD : va_D A [(mm, .inr (21, [.int th, .ref ms, .ref mt, .ref mh, .ref me])), (mt, .inr (1, [.int mo, .ref ma, .int 3]))] := hD
  have hK : va_K (dC, dI) vwCl [(kO, .object "java/lang/Object"), (kT, .object "HornbookModel$Tree")] s := by simpa using hK
  have hw_8 : r_7 = 1 := hw_8
  have hw_8 := hw_8.symm
  subst hw_8
  refine lv_if_eq (tgt := 30) hx hb dX19_wouldChoose_23 (by decide) (fun c_9 => ?_) (fun c_9 => ?_)
  · exact absurd c_9 (by decide)
  refine lv_iconst (v := 1) hx hb dX19_wouldChoose_26 (by decide) ?_
  refine lv_goto (tgt := 31) hx hb dX19_wouldChoose_27 (by decide) ?_
  refine lv_iconst (v := 1) hx hb dX19_wouldChoose_31 (by decide) ?_
  refine z_i (wr := [(mt, .inr (1, [.int mo, .ref ma, .int 3]))]) (va_runV (As := [.int 1, .int 1]) (rest := []) ⟨hx, hb, hml, hown, hts⟩ (c_M_start_yes l eD eI ad dC dI H.size mm ((.ref ms)) ((.ref mt)) ((.ref mh)) ((.ref me)) 1 th (by decide)) (cwV 2 hts g_c_M_would_1 rfl rfl rfl (by decide +kernel) ⟨Nat.le_of_ble_eq_true rfl, Nat.le_of_ble_eq_true rfl⟩) (z_preV (wc := [(mm, .inr (21, [.int th, .ref ms, .ref mt, .ref mh, .ref me]))]) hP hD hK hS hA hE [0] [] rfl (by decide) rfl (ci := 21) (q0 := 0) rfl rfl) rfl rfl hl.1 rfl (lv_room (Nat.le_of_ble_eq_true rfl)) dX19_wouldChoose_32 ⟨Nat.le_of_ble_eq_true rfl, Nat.le_of_ble_eq_true rfl⟩) hP hD hK hS hA [0] [1] rfl rfl (by decide) (by decide) (fun r_10 u H locs hw_11 hP hD hK hS => ?_)
  obtain ⟨⟩ := u
  have hP : va_P (dC, dI) vwCl [(mt, .inr (1, [.int mo, .ref ma, .int 3])), (mm, .inr (21, [.int 1, .ref ms, .ref mt, .ref mh, .ref me]))] H := hP
  have hD : va_D A [(mt, .inr (1, [.int mo, .ref ma, .int 3])), (mm, .inr (21, [.int 1, .ref ms, .ref mt, .ref mh, .ref me]))] := hD
  have hK : va_K (dC, dI) vwCl [(kO, .object "java/lang/Object"), (kT, .object "HornbookModel$Tree")] s := by simpa using hK
  have hw_11 : r_10 = 1 := hw_11
  have hw_11 := hw_11.symm
  subst hw_11
  refine lv_if_ne (tgt := 72) hx hb dX19_wouldChoose_35 (by decide) (fun c_12 => ?_) (fun c_12 => ?_)
  rotate_left
  · exact absurd c_12 (by decide)
  refine lv_iconst (v := 0) hx hb dX19_wouldChoose_72 (by decide) ?_
  have hP9 := hP.sub (ws' := [(mm, .inr (21, [.int 1, .ref ms, .ref mt, .ref mh, .ref me]))]) [1] rfl
  have hD9 := hD.sub (ws' := [(mm, .inr (21, [.int 1, .ref ms, .ref mt, .ref mh, .ref me]))]) [1] (by decide) rfl
  have hK9 := hK.sub (tys' := []) [] rfl
  refine W.widen (k := 7) (n := 22) (Nat.le_of_ble_eq_true rfl) (Nat.le_of_ble_eq_true rfl) ?_
  exact W.iret (v := 0) hx hb hr (fun t ht hW => ⟨⟨0, (1, 0), rfl, ⟨rfl, by first | decide | simp [hx10, hx11, hx49, hx41], by first | exact fun h => absurd h (by decide) | exact fun _ => rfl | rfl | decide | simp⟩, ⟨by rw [ht]; exact hP9, va_K.moved hW.alike hK9, hD9⟩⟩, hS.F ht⟩) hS.2.2 dX19_wouldChoose_73

set_option maxHeartbeats 4000000 in
set_option maxRecDepth 100000 in
theorem c_M_would_Cnh (l : Launch) (eD eI : Nat) (ad : Nat → Nat) (dC : Nat → ClassId) (dI : Nat → Nat → Nat) (sz : Nat) (mm : Nat) (ms : Nat) (mt : Nat) (mh : Nat) (me : Nat) (mo : Int32) (ma : Nat) (kO : ClassId) (kT : ClassId) (t0 : Nat) (t1 : Nat) (t2 : Nat) (i0 : Nat) (i1 : Nat) (i2 : Nat) (th : Int32) (x1 : Int32) (x2 : Int32) (x4 : Int32) (hx10 : ¬ x1 < 0) (hx11 : ¬ 2 < x1) (hx49 : ¬ x4 = (-1)) (hx40 : ¬ x4 < 0) (hx41 : 2 < x4) : Met l yX19_wouldChoose w_c_M_would ({ frames := 6, cells := 7, slots := 22, locals := 123 }) (va_Pc [.ref mm, .int x1, .int x2, .int (-1), .int x4] (zPre eD eI ad (dC, dI) [(mm, .inr (21, [.int th, .ref ms, .ref mt, .ref mh, .ref me])), (ms, .inr (1, [.int 0, .ref eD, .int 0])), (mt, .inr (1, [.int mo, .ref ma, .int 3])), (mh, .inr (1, [.int 0, .ref eD, .int 0])), (me, .inr (1, [.int 0, .ref eD, .int 0])), (ma, .inl (kO, 10, .inr (.inr (.inr (.inr (zfT t0 t1 t2)))))), (t0, .inr (18, [.int (-1), .ref i0])), (t1, .inr (18, [.int (-2), .ref i1])), (t2, .inr (18, [.int (-3), .ref i2])), (i0, .inl (kT, 0, .inr (.inr (.inr (.inr (fun _ => none)))))), (i1, .inl (kT, 0, .inr (.inr (.inr (.inr (fun _ => none)))))), (i2, .inl (kT, 0, .inr (.inr (.inr (.inr (fun _ => none))))))] [(kO, .object "java/lang/Object"), (kT, .object "HornbookModel$Tree")] sz)) (va_Qi (fun (r : Int32) (u : Int32 × Int32) => match u with | (th2, v2) => r = v2 ∧ th2 = (if x1 < 0 ∨ 2 < x1 then 1 else if ¬ (-1 : Int32) = (-1) ∧ ((-1 : Int32) < 0 ∨ 2 < (-1 : Int32)) then 1 else if ¬ x4 = (-1) ∧ (x4 < 0 ∨ 2 < x4) then 1 else if x2 < 0 ∨ 9 < x2 then 2 else if (-1 : Int32) = (-1) ∧ ¬ x4 = (-1) then 2 else if x1 = 2 ∨ (-1 : Int32) = 2 ∨ x4 = 2 then 2 else 0) ∧ (th2 = 0 → v2 = (-1))) (fun (u : Int32 × Int32) => match u with | (th2, v2) => zEnd (dC, dI) (va_A [(mm, .inr (21, [.int th, .ref ms, .ref mt, .ref mh, .ref me])), (ms, .inr (1, [.int 0, .ref eD, .int 0])), (mt, .inr (1, [.int mo, .ref ma, .int 3])), (mh, .inr (1, [.int 0, .ref eD, .int 0])), (me, .inr (1, [.int 0, .ref eD, .int 0])), (ma, .inl (kO, 10, .inr (.inr (.inr (.inr (zfT t0 t1 t2)))))), (t0, .inr (18, [.int (-1), .ref i0])), (t1, .inr (18, [.int (-2), .ref i1])), (t2, .inr (18, [.int (-3), .ref i2])), (i0, .inl (kT, 0, .inr (.inr (.inr (.inr (fun _ => none)))))), (i1, .inl (kT, 0, .inr (.inr (.inr (.inr (fun _ => none)))))), (i2, .inl (kT, 0, .inr (.inr (.inr (.inr (fun _ => none))))))] sz) [(mm, .inr (21, [.int th2, .ref ms, .ref mt, .ref mh, .ref me]))] []) (va_A [(mm, .inr (21, [.int th, .ref ms, .ref mt, .ref mh, .ref me])), (ms, .inr (1, [.int 0, .ref eD, .int 0])), (mt, .inr (1, [.int mo, .ref ma, .int 3])), (mh, .inr (1, [.int 0, .ref eD, .int 0])), (me, .inr (1, [.int 0, .ref eD, .int 0])), (ma, .inl (kO, 10, .inr (.inr (.inr (.inr (zfT t0 t1 t2)))))), (t0, .inr (18, [.int (-1), .ref i0])), (t1, .inr (18, [.int (-2), .ref i1])), (t2, .inr (18, [.int (-3), .ref i2])), (i0, .inl (kT, 0, .inr (.inr (.inr (.inr (fun _ => none)))))), (i1, .inl (kT, 0, .inr (.inr (.inr (.inr (fun _ => none)))))), (i2, .inl (kT, 0, .inr (.inr (.inr (.inr (fun _ => none))))))] sz)) 7 22 (va_A [(mm, .inr (21, [.int th, .ref ms, .ref mt, .ref mh, .ref me])), (ms, .inr (1, [.int 0, .ref eD, .int 0])), (mt, .inr (1, [.int mo, .ref ma, .int 3])), (mh, .inr (1, [.int 0, .ref eD, .int 0])), (me, .inr (1, [.int 0, .ref eD, .int 0])), (ma, .inl (kO, 10, .inr (.inr (.inr (.inr (zfT t0 t1 t2)))))), (t0, .inr (18, [.int (-1), .ref i0])), (t1, .inr (18, [.int (-2), .ref i1])), (t2, .inr (18, [.int (-3), .ref i2])), (i0, .inl (kT, 0, .inr (.inr (.inr (.inr (fun _ => none)))))), (i1, .inl (kT, 0, .inr (.inr (.inr (.inr (fun _ => none)))))), (i2, .inl (kT, 0, .inr (.inr (.inr (.inr (fun _ => none))))))] sz) := by
  refine Met.ofW (cc := cX19_wouldChoose) (maxL := 11) (ret := (some .int)) (by decide) rfl ?_
  intro p e s m args below meth c s₁ B hml hv
  obtain ⟨rfl, hsz, hP, hK, hD0, hE⟩ := hv
  have hx := B.exec
  have hb := B.bytes
  have hr := B.returns
  have hts := atoms_spec (ws := w_c_M_would) B.pre
  have hown : s.vm.findClass RX19 = some m.cls := findClass_of_methodNamed B.named
  have hlocks := B.notSynchronized
  subst hsz
  have hD := hD0.self (sz := s.heap.size)
  generalize hAe : va_A [(mm, .inr (21, [.int th, .ref ms, .ref mt, .ref mh, .ref me])), (ms, .inr (1, [.int 0, .ref eD, .int 0])), (mt, .inr (1, [.int mo, .ref ma, .int 3])), (mh, .inr (1, [.int 0, .ref eD, .int 0])), (me, .inr (1, [.int 0, .ref eD, .int 0])), (ma, .inl (kO, 10, .inr (.inr (.inr (.inr (zfT t0 t1 t2)))))), (t0, .inr (18, [.int (-1), .ref i0])), (t1, .inr (18, [.int (-2), .ref i1])), (t2, .inr (18, [.int (-3), .ref i2])), (i0, .inl (kT, 0, .inr (.inr (.inr (.inr (fun _ => none)))))), (i1, .inl (kT, 0, .inr (.inr (.inr (.inr (fun _ => none)))))), (i2, .inl (kT, 0, .inr (.inr (.inr (.inr (fun _ => none))))))] s.heap.size = A at hD hE ⊢
  have hA : ∀ q : Nat, s.heap.size ≤ q → A q := fun q h => by rw [← hAe]; exact Or.inr h
  have hS : va_S A s.heap s.heap [] := va_S.rf
  have hP : va_P (dC, dI) vwCl [(mm, .inr (21, [.int th, .ref ms, .ref mt, .ref mh, .ref me])), (ms, .inr (1, [.int 0, .ref eD, .int 0])), (mt, .inr (1, [.int mo, .ref ma, .int 3])), (mh, .inr (1, [.int 0, .ref eD, .int 0])), (me, .inr (1, [.int 0, .ref eD, .int 0])), (ma, .inl (kO, 10, .inr (.inr (.inr (.inr (zfT t0 t1 t2)))))), (t0, .inr (18, [.int (-1), .ref i0])), (t1, .inr (18, [.int (-2), .ref i1])), (t2, .inr (18, [.int (-3), .ref i2])), (i0, .inl (kT, 0, .inr (.inr (.inr (.inr (fun _ => none)))))), (i1, .inl (kT, 0, .inr (.inr (.inr (.inr (fun _ => none)))))), (i2, .inl (kT, 0, .inr (.inr (.inr (.inr (fun _ => none))))))] s.heap := hP
  have hl := lv_entry ([.ref mm, .int x1, .int x2, .int (-1), .int x4]) (n := 11) (Nat.le_of_ble_eq_true rfl)
  rw [lg_entry_eq]
  generalize (lg_sl ([.ref mm, .int x1, .int x2, .int (-1), .int x4]) ++ List.replicate (11 - (lg_sl ([.ref mm, .int x1, .int x2, .int (-1), .int x4])).length) Slot.unset).toArray = ls at hl ⊢
  have hl : lv_has ls 11 [(0, .ref mm), (1, .int x1), (2, .int x2), (3, .int (-1)), (4, .int x4)] := hl
  have in_RJx4a65c : ∀ w ∈ u_ws RJx4a65c TJx4a65c 3, w ∈ w_c_M_would := by decide +kernel
  have in_RX19 : ∀ w ∈ u_ws RX19 TX19 5, w ∈ w_c_M_would := by decide +kernel
  have hP := hP.sub (ws' := [(mm, .inr (21, [.int th, .ref ms, .ref mt, .ref mh, .ref me])), (mt, .inr (1, [.int mo, .ref ma, .int 3]))]) [0, 2] rfl
  have hD := hD.sub (ws' := [(mm, .inr (21, [.int th, .ref ms, .ref mt, .ref mh, .ref me])), (mt, .inr (1, [.int mo, .ref ma, .int 3]))]) [0, 2] (by decide) rfl
  refine lv_aload_n hx hb dX19_wouldChoose_0 rfl (lv_at hl 0 rfl) ?_
  refine lv_aload_n hx hb dX19_wouldChoose_1 rfl (lv_at hl 0 rfl) ?_
  refine lv_iload_n hx hb dX19_wouldChoose_2 rfl (lv_at hl 1 rfl) ?_
  refine z_i (wr := []) (va_runV (As := [.int x1]) (rest := [.ref mm]) ⟨hx, hb, hml, hown, hts⟩ (c_M_isNoType_ok l eD eI ad dC dI s.heap.size mm ms mt mh me th ((.int mo)) ((.ref ma)) x1 (hx10) (hx11)) (cwV 1 hts g_c_M_would_3 rfl rfl rfl (by decide +kernel) ⟨Nat.le_of_ble_eq_true rfl, Nat.le_of_ble_eq_true rfl⟩) (z_preV (wc := [(mm, .inr (21, [.int th, .ref ms, .ref mt, .ref mh, .ref me])), (mt, .inr (1, [.int mo, .ref ma, .int 3]))]) hP hD hK hS hA hE [0, 1] [] rfl (by decide) rfl (ci := 21) (q0 := 0) rfl rfl) rfl rfl hl.1 rfl (lv_room (Nat.le_of_ble_eq_true rfl)) dX19_wouldChoose_3 ⟨Nat.le_of_ble_eq_true rfl, Nat.le_of_ble_eq_true rfl⟩) hP hD hK hS hA [0, 1] [] rfl rfl (by decide) (by decide) (fun r_1 u H locs hw_2 hP hD hK hS => ?_)
  obtain ⟨⟩ := u
  have hP : va_P (dC, dI) vwCl [(mm, .inr (21, [.int th, .ref ms, .ref mt, .ref mh, .ref me])), (mt, .inr (1, [.int mo, .ref ma, .int 3]))] H := hP
  have hD : va_D A [(mm, .inr (21, [.int th, .ref ms, .ref mt, .ref mh, .ref me])), (mt, .inr (1, [.int mo, .ref ma, .int 3]))] := hD
  have hK : va_K (dC, dI) vwCl [(kO, .object "java/lang/Object"), (kT, .object "HornbookModel$Tree")] s := by simpa using hK
  have hw_2 : r_1 = 0 := hw_2
  have hw_2 := hw_2.symm
  subst hw_2
  refine lv_if_ne (tgt := 26) hx hb dX19_wouldChoose_6 (by decide) (fun c_3 => ?_) (fun c_3 => ?_)
  · exact absurd (by decide) c_3
  refine lv_aload_n hx hb dX19_wouldChoose_9 rfl (lv_at hl 0 rfl) ?_
  refine lv_iload_n hx hb dX19_wouldChoose_10 rfl (lv_at hl 3 rfl) ?_
  refine z_i (wr := []) (va_runV (As := [.int (-1)]) (rest := [.ref mm]) ⟨hx, hb, hml, hown, hts⟩ (c_M_isNoTypeN_none l eD eI ad dC dI H.size mm ms mt mh me th ((.int mo)) ((.ref ma))) (cwV 1 hts g_c_M_would_4 rfl rfl rfl (by decide +kernel) ⟨Nat.le_of_ble_eq_true rfl, Nat.le_of_ble_eq_true rfl⟩) (z_preV (wc := [(mm, .inr (21, [.int th, .ref ms, .ref mt, .ref mh, .ref me])), (mt, .inr (1, [.int mo, .ref ma, .int 3]))]) hP hD hK hS hA hE [0, 1] [] rfl (by decide) rfl (ci := 21) (q0 := 0) rfl rfl) rfl rfl hl.1 rfl (lv_room (Nat.le_of_ble_eq_true rfl)) dX19_wouldChoose_11 ⟨Nat.le_of_ble_eq_true rfl, Nat.le_of_ble_eq_true rfl⟩) hP hD hK hS hA [0, 1] [] rfl rfl (by decide) (by decide) (fun r_4 u H locs hw_5 hP hD hK hS => ?_)
  obtain ⟨⟩ := u
  have hP : va_P (dC, dI) vwCl [(mm, .inr (21, [.int th, .ref ms, .ref mt, .ref mh, .ref me])), (mt, .inr (1, [.int mo, .ref ma, .int 3]))] H := hP
  have hD : va_D A [(mm, .inr (21, [.int th, .ref ms, .ref mt, .ref mh, .ref me])), (mt, .inr (1, [.int mo, .ref ma, .int 3]))] := hD
  have hK : va_K (dC, dI) vwCl [(kO, .object "java/lang/Object"), (kT, .object "HornbookModel$Tree")] s := by simpa using hK
  have hw_5 : r_4 = 0 := hw_5
  have hw_5 := hw_5.symm
  subst hw_5
  refine lv_if_ne (tgt := 26) hx hb dX19_wouldChoose_14 (by decide) (fun c_6 => ?_) (fun c_6 => ?_)
  · exact absurd (by decide) c_6
  refine lv_aload_n hx hb dX19_wouldChoose_17 rfl (lv_at hl 0 rfl) ?_
  refine lv_iload hx hb dX19_wouldChoose_18 (lv_at hl 4 rfl) ?_
  refine z_i (wr := []) (va_runV (As := [.int x4]) (rest := [.ref mm]) ⟨hx, hb, hml, hown, hts⟩ (c_M_isNoTypeN_hi l eD eI ad dC dI H.size mm ms mt mh me th ((.int mo)) ((.ref ma)) x4 (hx49) (hx40) (hx41)) (cwV 1 hts g_c_M_would_22 rfl rfl rfl (by decide +kernel) ⟨Nat.le_of_ble_eq_true rfl, Nat.le_of_ble_eq_true rfl⟩) (z_preV (wc := [(mm, .inr (21, [.int th, .ref ms, .ref mt, .ref mh, .ref me])), (mt, .inr (1, [.int mo, .ref ma, .int 3]))]) hP hD hK hS hA hE [0, 1] [] rfl (by decide) rfl (ci := 21) (q0 := 0) rfl rfl) rfl rfl hl.1 rfl (lv_room (Nat.le_of_ble_eq_true rfl)) dX19_wouldChoose_20 ⟨Nat.le_of_ble_eq_true rfl, Nat.le_of_ble_eq_true rfl⟩) hP hD hK hS hA [0, 1] [] rfl rfl (by decide) (by decide) (fun r_7 u H locs hw_8 hP hD hK hS => ?_)
  obtain ⟨⟩ := u
  have hP : va_P (dC, dI) vwCl [(mm, .inr (21, [.int th, .ref ms, .ref mt, .ref mh, .ref me])), (mt, .inr (1, [.int mo, .ref ma, .int 3]))] H := hP
  have hD : va_D A [(mm, .inr (21, [.int th, .ref ms, .ref mt, .ref mh, .ref me])), (mt, .inr (1, [.int mo, .ref ma, .int 3]))] := hD
  have hK : va_K (dC, dI) vwCl [(kO, .object "java/lang/Object"), (kT, .object "HornbookModel$Tree")] s := by simpa using hK
  have hw_8 : r_7 = 1 := hw_8
  have hw_8 := hw_8.symm
  subst hw_8
  refine lv_if_eq (tgt := 30) hx hb dX19_wouldChoose_23 (by decide) (fun c_9 => ?_) (fun c_9 => ?_)
  · exact absurd c_9 (by decide)
  refine lv_iconst (v := 1) hx hb dX19_wouldChoose_26 (by decide) ?_
  refine lv_goto (tgt := 31) hx hb dX19_wouldChoose_27 (by decide) ?_
  refine lv_iconst (v := 1) hx hb dX19_wouldChoose_31 (by decide) ?_
  refine z_i (wr := [(mt, .inr (1, [.int mo, .ref ma, .int 3]))]) (va_runV (As := [.int 1, .int 1]) (rest := []) ⟨hx, hb, hml, hown, hts⟩ (c_M_start_yes l eD eI ad dC dI H.size mm ((.ref ms)) ((.ref mt)) ((.ref mh)) ((.ref me)) 1 th (by decide)) (cwV 2 hts g_c_M_would_1 rfl rfl rfl (by decide +kernel) ⟨Nat.le_of_ble_eq_true rfl, Nat.le_of_ble_eq_true rfl⟩) (z_preV (wc := [(mm, .inr (21, [.int th, .ref ms, .ref mt, .ref mh, .ref me]))]) hP hD hK hS hA hE [0] [] rfl (by decide) rfl (ci := 21) (q0 := 0) rfl rfl) rfl rfl hl.1 rfl (lv_room (Nat.le_of_ble_eq_true rfl)) dX19_wouldChoose_32 ⟨Nat.le_of_ble_eq_true rfl, Nat.le_of_ble_eq_true rfl⟩) hP hD hK hS hA [0] [1] rfl rfl (by decide) (by decide) (fun r_10 u H locs hw_11 hP hD hK hS => ?_)
  obtain ⟨⟩ := u
  have hP : va_P (dC, dI) vwCl [(mt, .inr (1, [.int mo, .ref ma, .int 3])), (mm, .inr (21, [.int 1, .ref ms, .ref mt, .ref mh, .ref me]))] H := hP
  have hD : va_D A [(mt, .inr (1, [.int mo, .ref ma, .int 3])), (mm, .inr (21, [.int 1, .ref ms, .ref mt, .ref mh, .ref me]))] := hD
  have hK : va_K (dC, dI) vwCl [(kO, .object "java/lang/Object"), (kT, .object "HornbookModel$Tree")] s := by simpa using hK
  have hw_11 : r_10 = 1 := hw_11
  have hw_11 := hw_11.symm
  subst hw_11
  refine lv_if_ne (tgt := 72) hx hb dX19_wouldChoose_35 (by decide) (fun c_12 => ?_) (fun c_12 => ?_)
  rotate_left
  · exact absurd c_12 (by decide)
  refine lv_iconst (v := 0) hx hb dX19_wouldChoose_72 (by decide) ?_
  have hP9 := hP.sub (ws' := [(mm, .inr (21, [.int 1, .ref ms, .ref mt, .ref mh, .ref me]))]) [1] rfl
  have hD9 := hD.sub (ws' := [(mm, .inr (21, [.int 1, .ref ms, .ref mt, .ref mh, .ref me]))]) [1] (by decide) rfl
  have hK9 := hK.sub (tys' := []) [] rfl
  refine W.widen (k := 7) (n := 22) (Nat.le_of_ble_eq_true rfl) (Nat.le_of_ble_eq_true rfl) ?_
  exact W.iret (v := 0) hx hb hr (fun t ht hW => ⟨⟨0, (1, 0), rfl, ⟨rfl, by first | decide | simp [hx10, hx11, hx49, hx40, hx41], by first | exact fun h => absurd h (by decide) | exact fun _ => rfl | rfl | decide | simp⟩, ⟨by rw [ht]; exact hP9, va_K.moved hW.alike hK9, hD9⟩⟩, hS.F ht⟩) hS.2.2 dX19_wouldChoose_73

set_option maxHeartbeats 4000000 in
set_option maxRecDepth 100000 in
theorem c_M_would_Dnkl (l : Launch) (eD eI : Nat) (ad : Nat → Nat) (dC : Nat → ClassId) (dI : Nat → Nat → Nat) (sz : Nat) (mm : Nat) (ms : Nat) (mt : Nat) (mh : Nat) (me : Nat) (mo : Int32) (ma : Nat) (kO : ClassId) (kT : ClassId) (t0 : Nat) (t1 : Nat) (t2 : Nat) (i0 : Nat) (i1 : Nat) (i2 : Nat) (th : Int32) (x1 : Int32) (x2 : Int32) (x4 : Int32) (hx10 : ¬ x1 < 0) (hx11 : ¬ 2 < x1) (hx49 : ¬ x4 = (-1)) (hx40 : ¬ x4 < 0) (hx41 : ¬ 2 < x4) (hx21 : x2 < 0) : Met l yX19_wouldChoose w_c_M_would ({ frames := 6, cells := 7, slots := 22, locals := 123 }) (va_Pc [.ref mm, .int x1, .int x2, .int (-1), .int x4] (zPre eD eI ad (dC, dI) [(mm, .inr (21, [.int th, .ref ms, .ref mt, .ref mh, .ref me])), (ms, .inr (1, [.int 0, .ref eD, .int 0])), (mt, .inr (1, [.int mo, .ref ma, .int 3])), (mh, .inr (1, [.int 0, .ref eD, .int 0])), (me, .inr (1, [.int 0, .ref eD, .int 0])), (ma, .inl (kO, 10, .inr (.inr (.inr (.inr (zfT t0 t1 t2)))))), (t0, .inr (18, [.int (-1), .ref i0])), (t1, .inr (18, [.int (-2), .ref i1])), (t2, .inr (18, [.int (-3), .ref i2])), (i0, .inl (kT, 0, .inr (.inr (.inr (.inr (fun _ => none)))))), (i1, .inl (kT, 0, .inr (.inr (.inr (.inr (fun _ => none)))))), (i2, .inl (kT, 0, .inr (.inr (.inr (.inr (fun _ => none))))))] [(kO, .object "java/lang/Object"), (kT, .object "HornbookModel$Tree")] sz)) (va_Qi (fun (r : Int32) (u : Int32 × Int32) => match u with | (th2, v2) => r = v2 ∧ th2 = (if x1 < 0 ∨ 2 < x1 then 1 else if ¬ (-1 : Int32) = (-1) ∧ ((-1 : Int32) < 0 ∨ 2 < (-1 : Int32)) then 1 else if ¬ x4 = (-1) ∧ (x4 < 0 ∨ 2 < x4) then 1 else if x2 < 0 ∨ 9 < x2 then 2 else if (-1 : Int32) = (-1) ∧ ¬ x4 = (-1) then 2 else if x1 = 2 ∨ (-1 : Int32) = 2 ∨ x4 = 2 then 2 else 0) ∧ (th2 = 0 → v2 = (-1))) (fun (u : Int32 × Int32) => match u with | (th2, v2) => zEnd (dC, dI) (va_A [(mm, .inr (21, [.int th, .ref ms, .ref mt, .ref mh, .ref me])), (ms, .inr (1, [.int 0, .ref eD, .int 0])), (mt, .inr (1, [.int mo, .ref ma, .int 3])), (mh, .inr (1, [.int 0, .ref eD, .int 0])), (me, .inr (1, [.int 0, .ref eD, .int 0])), (ma, .inl (kO, 10, .inr (.inr (.inr (.inr (zfT t0 t1 t2)))))), (t0, .inr (18, [.int (-1), .ref i0])), (t1, .inr (18, [.int (-2), .ref i1])), (t2, .inr (18, [.int (-3), .ref i2])), (i0, .inl (kT, 0, .inr (.inr (.inr (.inr (fun _ => none)))))), (i1, .inl (kT, 0, .inr (.inr (.inr (.inr (fun _ => none)))))), (i2, .inl (kT, 0, .inr (.inr (.inr (.inr (fun _ => none))))))] sz) [(mm, .inr (21, [.int th2, .ref ms, .ref mt, .ref mh, .ref me]))] []) (va_A [(mm, .inr (21, [.int th, .ref ms, .ref mt, .ref mh, .ref me])), (ms, .inr (1, [.int 0, .ref eD, .int 0])), (mt, .inr (1, [.int mo, .ref ma, .int 3])), (mh, .inr (1, [.int 0, .ref eD, .int 0])), (me, .inr (1, [.int 0, .ref eD, .int 0])), (ma, .inl (kO, 10, .inr (.inr (.inr (.inr (zfT t0 t1 t2)))))), (t0, .inr (18, [.int (-1), .ref i0])), (t1, .inr (18, [.int (-2), .ref i1])), (t2, .inr (18, [.int (-3), .ref i2])), (i0, .inl (kT, 0, .inr (.inr (.inr (.inr (fun _ => none)))))), (i1, .inl (kT, 0, .inr (.inr (.inr (.inr (fun _ => none)))))), (i2, .inl (kT, 0, .inr (.inr (.inr (.inr (fun _ => none))))))] sz)) 7 22 (va_A [(mm, .inr (21, [.int th, .ref ms, .ref mt, .ref mh, .ref me])), (ms, .inr (1, [.int 0, .ref eD, .int 0])), (mt, .inr (1, [.int mo, .ref ma, .int 3])), (mh, .inr (1, [.int 0, .ref eD, .int 0])), (me, .inr (1, [.int 0, .ref eD, .int 0])), (ma, .inl (kO, 10, .inr (.inr (.inr (.inr (zfT t0 t1 t2)))))), (t0, .inr (18, [.int (-1), .ref i0])), (t1, .inr (18, [.int (-2), .ref i1])), (t2, .inr (18, [.int (-3), .ref i2])), (i0, .inl (kT, 0, .inr (.inr (.inr (.inr (fun _ => none)))))), (i1, .inl (kT, 0, .inr (.inr (.inr (.inr (fun _ => none)))))), (i2, .inl (kT, 0, .inr (.inr (.inr (.inr (fun _ => none))))))] sz) := by
  refine Met.ofW (cc := cX19_wouldChoose) (maxL := 11) (ret := (some .int)) (by decide) rfl ?_
  intro p e s m args below meth c s₁ B hml hv
  obtain ⟨rfl, hsz, hP, hK, hD0, hE⟩ := hv
  have hx := B.exec
  have hb := B.bytes
  have hr := B.returns
  have hts := atoms_spec (ws := w_c_M_would) B.pre
  have hown : s.vm.findClass RX19 = some m.cls := findClass_of_methodNamed B.named
  have hlocks := B.notSynchronized
  subst hsz
  have hD := hD0.self (sz := s.heap.size)
  generalize hAe : va_A [(mm, .inr (21, [.int th, .ref ms, .ref mt, .ref mh, .ref me])), (ms, .inr (1, [.int 0, .ref eD, .int 0])), (mt, .inr (1, [.int mo, .ref ma, .int 3])), (mh, .inr (1, [.int 0, .ref eD, .int 0])), (me, .inr (1, [.int 0, .ref eD, .int 0])), (ma, .inl (kO, 10, .inr (.inr (.inr (.inr (zfT t0 t1 t2)))))), (t0, .inr (18, [.int (-1), .ref i0])), (t1, .inr (18, [.int (-2), .ref i1])), (t2, .inr (18, [.int (-3), .ref i2])), (i0, .inl (kT, 0, .inr (.inr (.inr (.inr (fun _ => none)))))), (i1, .inl (kT, 0, .inr (.inr (.inr (.inr (fun _ => none)))))), (i2, .inl (kT, 0, .inr (.inr (.inr (.inr (fun _ => none))))))] s.heap.size = A at hD hE ⊢
  have hA : ∀ q : Nat, s.heap.size ≤ q → A q := fun q h => by rw [← hAe]; exact Or.inr h
  have hS : va_S A s.heap s.heap [] := va_S.rf
  have hP : va_P (dC, dI) vwCl [(mm, .inr (21, [.int th, .ref ms, .ref mt, .ref mh, .ref me])), (ms, .inr (1, [.int 0, .ref eD, .int 0])), (mt, .inr (1, [.int mo, .ref ma, .int 3])), (mh, .inr (1, [.int 0, .ref eD, .int 0])), (me, .inr (1, [.int 0, .ref eD, .int 0])), (ma, .inl (kO, 10, .inr (.inr (.inr (.inr (zfT t0 t1 t2)))))), (t0, .inr (18, [.int (-1), .ref i0])), (t1, .inr (18, [.int (-2), .ref i1])), (t2, .inr (18, [.int (-3), .ref i2])), (i0, .inl (kT, 0, .inr (.inr (.inr (.inr (fun _ => none)))))), (i1, .inl (kT, 0, .inr (.inr (.inr (.inr (fun _ => none)))))), (i2, .inl (kT, 0, .inr (.inr (.inr (.inr (fun _ => none))))))] s.heap := hP
  have hl := lv_entry ([.ref mm, .int x1, .int x2, .int (-1), .int x4]) (n := 11) (Nat.le_of_ble_eq_true rfl)
  rw [lg_entry_eq]
  generalize (lg_sl ([.ref mm, .int x1, .int x2, .int (-1), .int x4]) ++ List.replicate (11 - (lg_sl ([.ref mm, .int x1, .int x2, .int (-1), .int x4])).length) Slot.unset).toArray = ls at hl ⊢
  have hl : lv_has ls 11 [(0, .ref mm), (1, .int x1), (2, .int x2), (3, .int (-1)), (4, .int x4)] := hl
  have in_RJx4a65c : ∀ w ∈ u_ws RJx4a65c TJx4a65c 3, w ∈ w_c_M_would := by decide +kernel
  have in_RX19 : ∀ w ∈ u_ws RX19 TX19 5, w ∈ w_c_M_would := by decide +kernel
  have hP := hP.sub (ws' := [(mm, .inr (21, [.int th, .ref ms, .ref mt, .ref mh, .ref me])), (mt, .inr (1, [.int mo, .ref ma, .int 3]))]) [0, 2] rfl
  have hD := hD.sub (ws' := [(mm, .inr (21, [.int th, .ref ms, .ref mt, .ref mh, .ref me])), (mt, .inr (1, [.int mo, .ref ma, .int 3]))]) [0, 2] (by decide) rfl
  refine lv_aload_n hx hb dX19_wouldChoose_0 rfl (lv_at hl 0 rfl) ?_
  refine lv_aload_n hx hb dX19_wouldChoose_1 rfl (lv_at hl 0 rfl) ?_
  refine lv_iload_n hx hb dX19_wouldChoose_2 rfl (lv_at hl 1 rfl) ?_
  refine z_i (wr := []) (va_runV (As := [.int x1]) (rest := [.ref mm]) ⟨hx, hb, hml, hown, hts⟩ (c_M_isNoType_ok l eD eI ad dC dI s.heap.size mm ms mt mh me th ((.int mo)) ((.ref ma)) x1 (hx10) (hx11)) (cwV 1 hts g_c_M_would_3 rfl rfl rfl (by decide +kernel) ⟨Nat.le_of_ble_eq_true rfl, Nat.le_of_ble_eq_true rfl⟩) (z_preV (wc := [(mm, .inr (21, [.int th, .ref ms, .ref mt, .ref mh, .ref me])), (mt, .inr (1, [.int mo, .ref ma, .int 3]))]) hP hD hK hS hA hE [0, 1] [] rfl (by decide) rfl (ci := 21) (q0 := 0) rfl rfl) rfl rfl hl.1 rfl (lv_room (Nat.le_of_ble_eq_true rfl)) dX19_wouldChoose_3 ⟨Nat.le_of_ble_eq_true rfl, Nat.le_of_ble_eq_true rfl⟩) hP hD hK hS hA [0, 1] [] rfl rfl (by decide) (by decide) (fun r_1 u H locs hw_2 hP hD hK hS => ?_)
  obtain ⟨⟩ := u
  have hP : va_P (dC, dI) vwCl [(mm, .inr (21, [.int th, .ref ms, .ref mt, .ref mh, .ref me])), (mt, .inr (1, [.int mo, .ref ma, .int 3]))] H := hP
  have hD : va_D A [(mm, .inr (21, [.int th, .ref ms, .ref mt, .ref mh, .ref me])), (mt, .inr (1, [.int mo, .ref ma, .int 3]))] := hD
  have hK : va_K (dC, dI) vwCl [(kO, .object "java/lang/Object"), (kT, .object "HornbookModel$Tree")] s := by simpa using hK
  have hw_2 : r_1 = 0 := hw_2
  have hw_2 := hw_2.symm
  subst hw_2
  refine lv_if_ne (tgt := 26) hx hb dX19_wouldChoose_6 (by decide) (fun c_3 => ?_) (fun c_3 => ?_)
  · exact absurd (by decide) c_3
  refine lv_aload_n hx hb dX19_wouldChoose_9 rfl (lv_at hl 0 rfl) ?_
  refine lv_iload_n hx hb dX19_wouldChoose_10 rfl (lv_at hl 3 rfl) ?_
  refine z_i (wr := []) (va_runV (As := [.int (-1)]) (rest := [.ref mm]) ⟨hx, hb, hml, hown, hts⟩ (c_M_isNoTypeN_none l eD eI ad dC dI H.size mm ms mt mh me th ((.int mo)) ((.ref ma))) (cwV 1 hts g_c_M_would_4 rfl rfl rfl (by decide +kernel) ⟨Nat.le_of_ble_eq_true rfl, Nat.le_of_ble_eq_true rfl⟩) (z_preV (wc := [(mm, .inr (21, [.int th, .ref ms, .ref mt, .ref mh, .ref me])), (mt, .inr (1, [.int mo, .ref ma, .int 3]))]) hP hD hK hS hA hE [0, 1] [] rfl (by decide) rfl (ci := 21) (q0 := 0) rfl rfl) rfl rfl hl.1 rfl (lv_room (Nat.le_of_ble_eq_true rfl)) dX19_wouldChoose_11 ⟨Nat.le_of_ble_eq_true rfl, Nat.le_of_ble_eq_true rfl⟩) hP hD hK hS hA [0, 1] [] rfl rfl (by decide) (by decide) (fun r_4 u H locs hw_5 hP hD hK hS => ?_)
  obtain ⟨⟩ := u
  have hP : va_P (dC, dI) vwCl [(mm, .inr (21, [.int th, .ref ms, .ref mt, .ref mh, .ref me])), (mt, .inr (1, [.int mo, .ref ma, .int 3]))] H := hP
  have hD : va_D A [(mm, .inr (21, [.int th, .ref ms, .ref mt, .ref mh, .ref me])), (mt, .inr (1, [.int mo, .ref ma, .int 3]))] := hD
  have hK : va_K (dC, dI) vwCl [(kO, .object "java/lang/Object"), (kT, .object "HornbookModel$Tree")] s := by simpa using hK
  have hw_5 : r_4 = 0 := hw_5
  have hw_5 := hw_5.symm
  subst hw_5
  refine lv_if_ne (tgt := 26) hx hb dX19_wouldChoose_14 (by decide) (fun c_6 => ?_) (fun c_6 => ?_)
  · exact absurd (by decide) c_6
  refine lv_aload_n hx hb dX19_wouldChoose_17 rfl (lv_at hl 0 rfl) ?_
  refine lv_iload hx hb dX19_wouldChoose_18 (lv_at hl 4 rfl) ?_
  refine z_i (wr := []) (va_runV (As := [.int x4]) (rest := [.ref mm]) ⟨hx, hb, hml, hown, hts⟩ (c_M_isNoTypeN_ok l eD eI ad dC dI H.size mm ms mt mh me th ((.int mo)) ((.ref ma)) x4 (hx49) (hx40) (hx41)) (cwV 1 hts g_c_M_would_23 rfl rfl rfl (by decide +kernel) ⟨Nat.le_of_ble_eq_true rfl, Nat.le_of_ble_eq_true rfl⟩) (z_preV (wc := [(mm, .inr (21, [.int th, .ref ms, .ref mt, .ref mh, .ref me])), (mt, .inr (1, [.int mo, .ref ma, .int 3]))]) hP hD hK hS hA hE [0, 1] [] rfl (by decide) rfl (ci := 21) (q0 := 0) rfl rfl) rfl rfl hl.1 rfl (lv_room (Nat.le_of_ble_eq_true rfl)) dX19_wouldChoose_20 ⟨Nat.le_of_ble_eq_true rfl, Nat.le_of_ble_eq_true rfl⟩) hP hD hK hS hA [0, 1] [] rfl rfl (by decide) (by decide) (fun r_7 u H locs hw_8 hP hD hK hS => ?_)
  obtain ⟨⟩ := u
  have hP : va_P (dC, dI) vwCl [(mm, .inr (21, [.int th, .ref ms, .ref mt, .ref mh, .ref me])), (mt, .inr (1, [.int mo, .ref ma, .int 3]))] H := hP
  have hD : va_D A [(mm, .inr (21, [.int th, .ref ms, .ref mt, .ref mh, .ref me])), (mt, .inr (1, [.int mo, .ref ma, .int 3]))] := hD
  have hK : va_K (dC, dI) vwCl [(kO, .object "java/lang/Object"), (kT, .object "HornbookModel$Tree")] s := by simpa using hK
  have hw_8 : r_7 = 0 := hw_8
  have hw_8 := hw_8.symm
  subst hw_8
  refine lv_if_eq (tgt := 30) hx hb dX19_wouldChoose_23 (by decide) (fun c_9 => ?_) (fun c_9 => ?_)
  rotate_left
  · exact absurd (by decide) c_9
  refine lv_iconst (v := 0) hx hb dX19_wouldChoose_30 (by decide) ?_
  refine lv_iconst (v := 1) hx hb dX19_wouldChoose_31 (by decide) ?_
  refine z_i (wr := [(mt, .inr (1, [.int mo, .ref ma, .int 3]))]) (va_runV (As := [.int 0, .int 1]) (rest := []) ⟨hx, hb, hml, hown, hts⟩ (c_M_start_no l eD eI ad dC dI H.size mm ((.ref ms)) ((.ref mt)) ((.ref mh)) ((.ref me)) 1 th) (cwV 2 hts g_c_M_would_5 rfl rfl rfl (by decide +kernel) ⟨Nat.le_of_ble_eq_true rfl, Nat.le_of_ble_eq_true rfl⟩) (z_preV (wc := [(mm, .inr (21, [.int th, .ref ms, .ref mt, .ref mh, .ref me]))]) hP hD hK hS hA hE [0] [] rfl (by decide) rfl (ci := 21) (q0 := 0) rfl rfl) rfl rfl hl.1 rfl (lv_room (Nat.le_of_ble_eq_true rfl)) dX19_wouldChoose_32 ⟨Nat.le_of_ble_eq_true rfl, Nat.le_of_ble_eq_true rfl⟩) hP hD hK hS hA [0] [1] rfl rfl (by decide) (by decide) (fun r_10 u H locs hw_11 hP hD hK hS => ?_)
  obtain ⟨⟩ := u
  have hP : va_P (dC, dI) vwCl [(mt, .inr (1, [.int mo, .ref ma, .int 3])), (mm, .inr (21, [.int 0, .ref ms, .ref mt, .ref mh, .ref me]))] H := hP
  have hD : va_D A [(mt, .inr (1, [.int mo, .ref ma, .int 3])), (mm, .inr (21, [.int 0, .ref ms, .ref mt, .ref mh, .ref me]))] := hD
  have hK : va_K (dC, dI) vwCl [(kO, .object "java/lang/Object"), (kT, .object "HornbookModel$Tree")] s := by simpa using hK
  have hw_11 : r_10 = 0 := hw_11
  have hw_11 := hw_11.symm
  subst hw_11
  refine lv_if_ne (tgt := 72) hx hb dX19_wouldChoose_35 (by decide) (fun c_12 => ?_) (fun c_12 => ?_)
  · exact absurd (by decide) c_12
  refine lv_aload_n hx hb dX19_wouldChoose_38 rfl (lv_at hl 0 rfl) ?_
  refine lv_iload_n hx hb dX19_wouldChoose_39 rfl (lv_at hl 2 rfl) ?_
  refine lv_iconst (v := 0) hx hb dX19_wouldChoose_40 (by decide) ?_
  refine lv_bipush (v := 9) hx hb dX19_wouldChoose_41 (by decide) ?_
  refine z_i (wr := [(mt, .inr (1, [.int mo, .ref ma, .int 3])), (mm, .inr (21, [.int 0, .ref ms, .ref mt, .ref mh, .ref me]))]) (va_runS (As := [.int x2, .int 0, .int 9]) (rest := [.ref mm]) ⟨hx, hb, hml, hown, hts⟩ (c_M_isIn_lo l eD eI ad dC dI H.size x2 0 9 (hx21)) (va_cwS 3 hts g_c_M_would_6 rfl rfl rfl (by decide +kernel) ⟨Nat.le_of_ble_eq_true rfl, Nat.le_of_ble_eq_true rfl⟩) (z_preS (wc := []) hP hD hK hS hA hE [] [] rfl (by decide) rfl) rfl rfl hl.1 rfl (lv_room (Nat.le_of_ble_eq_true rfl)) dX19_wouldChoose_43 ⟨Nat.le_of_ble_eq_true rfl, Nat.le_of_ble_eq_true rfl⟩) hP hD hK hS hA [] [0, 1] rfl rfl (by decide) (by decide) (fun r_13 u H locs hw_14 hP hD hK hS => ?_)
  obtain ⟨⟩ := u
  have hP : va_P (dC, dI) vwCl [(mt, .inr (1, [.int mo, .ref ma, .int 3])), (mm, .inr (21, [.int 0, .ref ms, .ref mt, .ref mh, .ref me]))] H := hP
  have hD : va_D A [(mt, .inr (1, [.int mo, .ref ma, .int 3])), (mm, .inr (21, [.int 0, .ref ms, .ref mt, .ref mh, .ref me]))] := hD
  have hK : va_K (dC, dI) vwCl [(kO, .object "java/lang/Object"), (kT, .object "HornbookModel$Tree")] s := by simpa using hK
  have hw_14 : r_13 = 0 := hw_14
  have hw_14 := hw_14.symm
  subst hw_14
  refine lv_if_eq (tgt := 60) hx hb dX19_wouldChoose_46 (by decide) (fun c_15 => ?_) (fun c_15 => ?_)
  rotate_left
  · exact absurd (by decide) c_15
  refine lv_iconst (v := 1) hx hb dX19_wouldChoose_60 (by decide) ?_
  refine lv_goto (tgt := 65) hx hb dX19_wouldChoose_61 (by decide) ?_
  refine lv_iconst (v := 2) hx hb dX19_wouldChoose_65 (by decide) ?_
  refine z_i (wr := [(mt, .inr (1, [.int mo, .ref ma, .int 3]))]) (va_runV (As := [.int 1, .int 2]) (rest := []) ⟨hx, hb, hml, hown, hts⟩ (c_M_refuse_yes l eD eI ad dC dI H.size mm ((.ref ms)) ((.ref mt)) ((.ref mh)) ((.ref me)) 2 (by decide)) (cwV 2 hts g_c_M_would_7 rfl rfl rfl (by decide +kernel) ⟨Nat.le_of_ble_eq_true rfl, Nat.le_of_ble_eq_true rfl⟩) (z_preV (wc := [(mm, .inr (21, [.int 0, .ref ms, .ref mt, .ref mh, .ref me]))]) hP hD hK hS hA hE [1] [] rfl (by decide) rfl (ci := 21) (q0 := 0) rfl rfl) rfl rfl hl.1 rfl (lv_room (Nat.le_of_ble_eq_true rfl)) dX19_wouldChoose_66 ⟨Nat.le_of_ble_eq_true rfl, Nat.le_of_ble_eq_true rfl⟩) hP hD hK hS hA [1] [0] rfl rfl (by decide) (by decide) (fun r_16 u H locs hw_17 hP hD hK hS => ?_)
  obtain ⟨⟩ := u
  have hP : va_P (dC, dI) vwCl [(mt, .inr (1, [.int mo, .ref ma, .int 3])), (mm, .inr (21, [.int 2, .ref ms, .ref mt, .ref mh, .ref me]))] H := hP
  have hD : va_D A [(mt, .inr (1, [.int mo, .ref ma, .int 3])), (mm, .inr (21, [.int 2, .ref ms, .ref mt, .ref mh, .ref me]))] := hD
  have hK : va_K (dC, dI) vwCl [(kO, .object "java/lang/Object"), (kT, .object "HornbookModel$Tree")] s := by simpa using hK
  have hw_17 : r_16 = 1 := hw_17
  have hw_17 := hw_17.symm
  subst hw_17
  refine lv_if_eq (tgt := 74) hx hb dX19_wouldChoose_69 (by decide) (fun c_18 => ?_) (fun c_18 => ?_)
  · exact absurd c_18 (by decide)
  refine lv_iconst (v := 0) hx hb dX19_wouldChoose_72 (by decide) ?_
  have hP9 := hP.sub (ws' := [(mm, .inr (21, [.int 2, .ref ms, .ref mt, .ref mh, .ref me]))]) [1] rfl
  have hD9 := hD.sub (ws' := [(mm, .inr (21, [.int 2, .ref ms, .ref mt, .ref mh, .ref me]))]) [1] (by decide) rfl
  have hK9 := hK.sub (tys' := []) [] rfl
  refine W.widen (k := 7) (n := 22) (Nat.le_of_ble_eq_true rfl) (Nat.le_of_ble_eq_true rfl) ?_
  exact W.iret (v := 0) hx hb hr (fun t ht hW => ⟨⟨0, (2, 0), rfl, ⟨rfl, by first | decide | simp [hx10, hx11, hx49, hx40, hx41, hx21], by first | exact fun h => absurd h (by decide) | exact fun _ => rfl | rfl | decide | simp⟩, ⟨by rw [ht]; exact hP9, va_K.moved hW.alike hK9, hD9⟩⟩, hS.F ht⟩) hS.2.2 dX19_wouldChoose_73

set_option maxHeartbeats 4000000 in
set_option maxRecDepth 100000 in
theorem c_M_would_Dnkh (l : Launch) (eD eI : Nat) (ad : Nat → Nat) (dC : Nat → ClassId) (dI : Nat → Nat → Nat) (sz : Nat) (mm : Nat) (ms : Nat) (mt : Nat) (mh : Nat) (me : Nat) (mo : Int32) (ma : Nat) (kO : ClassId) (kT : ClassId) (t0 : Nat) (t1 : Nat) (t2 : Nat) (i0 : Nat) (i1 : Nat) (i2 : Nat) (th : Int32) (x1 : Int32) (x2 : Int32) (x4 : Int32) (hx10 : ¬ x1 < 0) (hx11 : ¬ 2 < x1) (hx49 : ¬ x4 = (-1)) (hx40 : ¬ x4 < 0) (hx41 : ¬ 2 < x4) (hx20 : ¬ x2 < 0) (hx21 : 9 < x2) : Met l yX19_wouldChoose w_c_M_would ({ frames := 6, cells := 7, slots := 22, locals := 123 }) (va_Pc [.ref mm, .int x1, .int x2, .int (-1), .int x4] (zPre eD eI ad (dC, dI) [(mm, .inr (21, [.int th, .ref ms, .ref mt, .ref mh, .ref me])), (ms, .inr (1, [.int 0, .ref eD, .int 0])), (mt, .inr (1, [.int mo, .ref ma, .int 3])), (mh, .inr (1, [.int 0, .ref eD, .int 0])), (me, .inr (1, [.int 0, .ref eD, .int 0])), (ma, .inl (kO, 10, .inr (.inr (.inr (.inr (zfT t0 t1 t2)))))), (t0, .inr (18, [.int (-1), .ref i0])), (t1, .inr (18, [.int (-2), .ref i1])), (t2, .inr (18, [.int (-3), .ref i2])), (i0, .inl (kT, 0, .inr (.inr (.inr (.inr (fun _ => none)))))), (i1, .inl (kT, 0, .inr (.inr (.inr (.inr (fun _ => none)))))), (i2, .inl (kT, 0, .inr (.inr (.inr (.inr (fun _ => none))))))] [(kO, .object "java/lang/Object"), (kT, .object "HornbookModel$Tree")] sz)) (va_Qi (fun (r : Int32) (u : Int32 × Int32) => match u with | (th2, v2) => r = v2 ∧ th2 = (if x1 < 0 ∨ 2 < x1 then 1 else if ¬ (-1 : Int32) = (-1) ∧ ((-1 : Int32) < 0 ∨ 2 < (-1 : Int32)) then 1 else if ¬ x4 = (-1) ∧ (x4 < 0 ∨ 2 < x4) then 1 else if x2 < 0 ∨ 9 < x2 then 2 else if (-1 : Int32) = (-1) ∧ ¬ x4 = (-1) then 2 else if x1 = 2 ∨ (-1 : Int32) = 2 ∨ x4 = 2 then 2 else 0) ∧ (th2 = 0 → v2 = (-1))) (fun (u : Int32 × Int32) => match u with | (th2, v2) => zEnd (dC, dI) (va_A [(mm, .inr (21, [.int th, .ref ms, .ref mt, .ref mh, .ref me])), (ms, .inr (1, [.int 0, .ref eD, .int 0])), (mt, .inr (1, [.int mo, .ref ma, .int 3])), (mh, .inr (1, [.int 0, .ref eD, .int 0])), (me, .inr (1, [.int 0, .ref eD, .int 0])), (ma, .inl (kO, 10, .inr (.inr (.inr (.inr (zfT t0 t1 t2)))))), (t0, .inr (18, [.int (-1), .ref i0])), (t1, .inr (18, [.int (-2), .ref i1])), (t2, .inr (18, [.int (-3), .ref i2])), (i0, .inl (kT, 0, .inr (.inr (.inr (.inr (fun _ => none)))))), (i1, .inl (kT, 0, .inr (.inr (.inr (.inr (fun _ => none)))))), (i2, .inl (kT, 0, .inr (.inr (.inr (.inr (fun _ => none))))))] sz) [(mm, .inr (21, [.int th2, .ref ms, .ref mt, .ref mh, .ref me]))] []) (va_A [(mm, .inr (21, [.int th, .ref ms, .ref mt, .ref mh, .ref me])), (ms, .inr (1, [.int 0, .ref eD, .int 0])), (mt, .inr (1, [.int mo, .ref ma, .int 3])), (mh, .inr (1, [.int 0, .ref eD, .int 0])), (me, .inr (1, [.int 0, .ref eD, .int 0])), (ma, .inl (kO, 10, .inr (.inr (.inr (.inr (zfT t0 t1 t2)))))), (t0, .inr (18, [.int (-1), .ref i0])), (t1, .inr (18, [.int (-2), .ref i1])), (t2, .inr (18, [.int (-3), .ref i2])), (i0, .inl (kT, 0, .inr (.inr (.inr (.inr (fun _ => none)))))), (i1, .inl (kT, 0, .inr (.inr (.inr (.inr (fun _ => none)))))), (i2, .inl (kT, 0, .inr (.inr (.inr (.inr (fun _ => none))))))] sz)) 7 22 (va_A [(mm, .inr (21, [.int th, .ref ms, .ref mt, .ref mh, .ref me])), (ms, .inr (1, [.int 0, .ref eD, .int 0])), (mt, .inr (1, [.int mo, .ref ma, .int 3])), (mh, .inr (1, [.int 0, .ref eD, .int 0])), (me, .inr (1, [.int 0, .ref eD, .int 0])), (ma, .inl (kO, 10, .inr (.inr (.inr (.inr (zfT t0 t1 t2)))))), (t0, .inr (18, [.int (-1), .ref i0])), (t1, .inr (18, [.int (-2), .ref i1])), (t2, .inr (18, [.int (-3), .ref i2])), (i0, .inl (kT, 0, .inr (.inr (.inr (.inr (fun _ => none)))))), (i1, .inl (kT, 0, .inr (.inr (.inr (.inr (fun _ => none)))))), (i2, .inl (kT, 0, .inr (.inr (.inr (.inr (fun _ => none))))))] sz) := by
  refine Met.ofW (cc := cX19_wouldChoose) (maxL := 11) (ret := (some .int)) (by decide) rfl ?_
  intro p e s m args below meth c s₁ B hml hv
  obtain ⟨rfl, hsz, hP, hK, hD0, hE⟩ := hv
  have hx := B.exec
  have hb := B.bytes
  have hr := B.returns
  have hts := atoms_spec (ws := w_c_M_would) B.pre
  have hown : s.vm.findClass RX19 = some m.cls := findClass_of_methodNamed B.named
  have hlocks := B.notSynchronized
  subst hsz
  have hD := hD0.self (sz := s.heap.size)
  generalize hAe : va_A [(mm, .inr (21, [.int th, .ref ms, .ref mt, .ref mh, .ref me])), (ms, .inr (1, [.int 0, .ref eD, .int 0])), (mt, .inr (1, [.int mo, .ref ma, .int 3])), (mh, .inr (1, [.int 0, .ref eD, .int 0])), (me, .inr (1, [.int 0, .ref eD, .int 0])), (ma, .inl (kO, 10, .inr (.inr (.inr (.inr (zfT t0 t1 t2)))))), (t0, .inr (18, [.int (-1), .ref i0])), (t1, .inr (18, [.int (-2), .ref i1])), (t2, .inr (18, [.int (-3), .ref i2])), (i0, .inl (kT, 0, .inr (.inr (.inr (.inr (fun _ => none)))))), (i1, .inl (kT, 0, .inr (.inr (.inr (.inr (fun _ => none)))))), (i2, .inl (kT, 0, .inr (.inr (.inr (.inr (fun _ => none))))))] s.heap.size = A at hD hE ⊢
  have hA : ∀ q : Nat, s.heap.size ≤ q → A q := fun q h => by rw [← hAe]; exact Or.inr h
  have hS : va_S A s.heap s.heap [] := va_S.rf
  have hP : va_P (dC, dI) vwCl [(mm, .inr (21, [.int th, .ref ms, .ref mt, .ref mh, .ref me])), (ms, .inr (1, [.int 0, .ref eD, .int 0])), (mt, .inr (1, [.int mo, .ref ma, .int 3])), (mh, .inr (1, [.int 0, .ref eD, .int 0])), (me, .inr (1, [.int 0, .ref eD, .int 0])), (ma, .inl (kO, 10, .inr (.inr (.inr (.inr (zfT t0 t1 t2)))))), (t0, .inr (18, [.int (-1), .ref i0])), (t1, .inr (18, [.int (-2), .ref i1])), (t2, .inr (18, [.int (-3), .ref i2])), (i0, .inl (kT, 0, .inr (.inr (.inr (.inr (fun _ => none)))))), (i1, .inl (kT, 0, .inr (.inr (.inr (.inr (fun _ => none)))))), (i2, .inl (kT, 0, .inr (.inr (.inr (.inr (fun _ => none))))))] s.heap := hP
  have hl := lv_entry ([.ref mm, .int x1, .int x2, .int (-1), .int x4]) (n := 11) (Nat.le_of_ble_eq_true rfl)
  rw [lg_entry_eq]
  generalize (lg_sl ([.ref mm, .int x1, .int x2, .int (-1), .int x4]) ++ List.replicate (11 - (lg_sl ([.ref mm, .int x1, .int x2, .int (-1), .int x4])).length) Slot.unset).toArray = ls at hl ⊢
  have hl : lv_has ls 11 [(0, .ref mm), (1, .int x1), (2, .int x2), (3, .int (-1)), (4, .int x4)] := hl
  have hP := hP.sub (ws' := [(mm, .inr (21, [.int th, .ref ms, .ref mt, .ref mh, .ref me])), (mt, .inr (1, [.int mo, .ref ma, .int 3]))]) [0, 2] rfl
  have hD := hD.sub (ws' := [(mm, .inr (21, [.int th, .ref ms, .ref mt, .ref mh, .ref me])), (mt, .inr (1, [.int mo, .ref ma, .int 3]))]) [0, 2] (by decide) rfl
  refine lv_aload_n hx hb dX19_wouldChoose_0 rfl (lv_at hl 0 rfl) ?_
  refine lv_aload_n hx hb dX19_wouldChoose_1 rfl (lv_at hl 0 rfl) ?_
  refine lv_iload_n hx hb dX19_wouldChoose_2 rfl (lv_at hl 1 rfl) ?_
  refine z_i (wr := []) (va_runV (As := [.int x1]) (rest := [.ref mm]) ⟨hx, hb, hml, hown, hts⟩ (c_M_isNoType_ok l eD eI ad dC dI s.heap.size mm ms mt mh me th ((.int mo)) ((.ref ma)) x1 (hx10) (hx11)) (cwV 1 hts g_c_M_would_3 rfl rfl rfl (by decide +kernel) ⟨Nat.le_of_ble_eq_true rfl, Nat.le_of_ble_eq_true rfl⟩) (z_preV (wc := [(mm, .inr (21, [.int th, .ref ms, .ref mt, .ref mh, .ref me])), (mt, .inr (1, [.int mo, .ref ma, .int 3]))]) hP hD hK hS hA hE [0, 1] [] rfl (by decide) rfl (ci := 21) (q0 := 0) rfl rfl) rfl rfl hl.1 rfl (lv_room (Nat.le_of_ble_eq_true rfl)) dX19_wouldChoose_3 ⟨Nat.le_of_ble_eq_true rfl, Nat.le_of_ble_eq_true rfl⟩) hP hD hK hS hA [0, 1] [] rfl rfl (by decide) (by decide) (fun r_1 u H locs hw_2 hP hD hK hS => ?_)
  obtain ⟨⟩ := u
  have hP : va_P (dC, dI) vwCl [(mm, .inr (21, [.int th, .ref ms, .ref mt, .ref mh, .ref me])), (mt, .inr (1, [.int mo, .ref ma, .int 3]))] H := hP
  have hD : va_D A [(mm, .inr (21, [.int th, .ref ms, .ref mt, .ref mh, .ref me])), (mt, .inr (1, [.int mo, .ref ma, .int 3]))] := hD
  have hK : va_K (dC, dI) vwCl [(kO, .object "java/lang/Object"), (kT, .object "HornbookModel$Tree")] s := by simpa using hK
  have hw_2 : r_1 = 0 := hw_2
  have hw_2 := hw_2.symm
  subst hw_2
  refine lv_if_ne (tgt := 26) hx hb dX19_wouldChoose_6 (by decide) (fun c_3 => ?_) (fun c_3 => ?_)
  · exact absurd (by decide) c_3
  refine lv_aload_n hx hb dX19_wouldChoose_9 rfl (lv_at hl 0 rfl) ?_
  refine lv_iload_n hx hb dX19_wouldChoose_10 rfl (lv_at hl 3 rfl) ?_
  refine z_i (wr := []) (va_runV (As := [.int (-1)]) (rest := [.ref mm]) ⟨hx, hb, hml, hown, hts⟩ (c_M_isNoTypeN_none l eD eI ad dC dI H.size mm ms mt mh me th ((.int mo)) ((.ref ma))) (cwV 1 hts g_c_M_would_4 rfl rfl rfl (by decide +kernel) ⟨Nat.le_of_ble_eq_true rfl, Nat.le_of_ble_eq_true rfl⟩) (z_preV (wc := [(mm, .inr (21, [.int th, .ref ms, .ref mt, .ref mh, .ref me])), (mt, .inr (1, [.int mo, .ref ma, .int 3]))]) hP hD hK hS hA hE [0, 1] [] rfl (by decide) rfl (ci := 21) (q0 := 0) rfl rfl) rfl rfl hl.1 rfl (lv_room (Nat.le_of_ble_eq_true rfl)) dX19_wouldChoose_11 ⟨Nat.le_of_ble_eq_true rfl, Nat.le_of_ble_eq_true rfl⟩) hP hD hK hS hA [0, 1] [] rfl rfl (by decide) (by decide) (fun r_4 u H locs hw_5 hP hD hK hS => ?_)
  obtain ⟨⟩ := u
  have hP : va_P (dC, dI) vwCl [(mm, .inr (21, [.int th, .ref ms, .ref mt, .ref mh, .ref me])), (mt, .inr (1, [.int mo, .ref ma, .int 3]))] H := hP
  have hD : va_D A [(mm, .inr (21, [.int th, .ref ms, .ref mt, .ref mh, .ref me])), (mt, .inr (1, [.int mo, .ref ma, .int 3]))] := hD
  have hK : va_K (dC, dI) vwCl [(kO, .object "java/lang/Object"), (kT, .object "HornbookModel$Tree")] s := by simpa using hK
  have hw_5 : r_4 = 0 := hw_5
  have hw_5 := hw_5.symm
  subst hw_5
  refine lv_if_ne (tgt := 26) hx hb dX19_wouldChoose_14 (by decide) (fun c_6 => ?_) (fun c_6 => ?_)
  · exact absurd (by decide) c_6
  refine lv_aload_n hx hb dX19_wouldChoose_17 rfl (lv_at hl 0 rfl) ?_
  refine lv_iload hx hb dX19_wouldChoose_18 (lv_at hl 4 rfl) ?_
  refine z_i (wr := []) (va_runV (As := [.int x4]) (rest := [.ref mm]) ⟨hx, hb, hml, hown, hts⟩ (c_M_isNoTypeN_ok l eD eI ad dC dI H.size mm ms mt mh me th ((.int mo)) ((.ref ma)) x4 (hx49) (hx40) (hx41)) (cwV 1 hts g_c_M_would_23 rfl rfl rfl (by decide +kernel) ⟨Nat.le_of_ble_eq_true rfl, Nat.le_of_ble_eq_true rfl⟩) (z_preV (wc := [(mm, .inr (21, [.int th, .ref ms, .ref mt, .ref mh, .ref me])), (mt, .inr (1, [.int mo, .ref ma, .int 3]))]) hP hD hK hS hA hE [0, 1] [] rfl (by decide) rfl (ci := 21) (q0 := 0) rfl rfl) rfl rfl hl.1 rfl (lv_room (Nat.le_of_ble_eq_true rfl)) dX19_wouldChoose_20 ⟨Nat.le_of_ble_eq_true rfl, Nat.le_of_ble_eq_true rfl⟩) hP hD hK hS hA [0, 1] [] rfl rfl (by decide) (by decide) (fun r_7 u H locs hw_8 hP hD hK hS => ?_)
  obtain ⟨⟩ := u
  have hP : va_P (dC, dI) vwCl [(mm, .inr (21, [.int th, .ref ms, .ref mt, .ref mh, .ref me])), (mt, .inr (1, [.int mo, .ref ma, .int 3]))] H := hP
  have hD : va_D A [(mm, .inr (21, [.int th, .ref ms, .ref mt, .ref mh, .ref me])), (mt, .inr (1, [.int mo, .ref ma, .int 3]))] := hD
  have hK : va_K (dC, dI) vwCl [(kO, .object "java/lang/Object"), (kT, .object "HornbookModel$Tree")] s := by simpa using hK
  have hw_8 : r_7 = 0 := hw_8
  have hw_8 := hw_8.symm
  subst hw_8
  refine lv_if_eq (tgt := 30) hx hb dX19_wouldChoose_23 (by decide) (fun c_9 => ?_) (fun c_9 => ?_)
  rotate_left
  · exact absurd (by decide) c_9
  refine lv_iconst (v := 0) hx hb dX19_wouldChoose_30 (by decide) ?_
  refine lv_iconst (v := 1) hx hb dX19_wouldChoose_31 (by decide) ?_
  refine z_i (wr := [(mt, .inr (1, [.int mo, .ref ma, .int 3]))]) (va_runV (As := [.int 0, .int 1]) (rest := []) ⟨hx, hb, hml, hown, hts⟩ (c_M_start_no l eD eI ad dC dI H.size mm ((.ref ms)) ((.ref mt)) ((.ref mh)) ((.ref me)) 1 th) (cwV 2 hts g_c_M_would_5 rfl rfl rfl (by decide +kernel) ⟨Nat.le_of_ble_eq_true rfl, Nat.le_of_ble_eq_true rfl⟩) (z_preV (wc := [(mm, .inr (21, [.int th, .ref ms, .ref mt, .ref mh, .ref me]))]) hP hD hK hS hA hE [0] [] rfl (by decide) rfl (ci := 21) (q0 := 0) rfl rfl) rfl rfl hl.1 rfl (lv_room (Nat.le_of_ble_eq_true rfl)) dX19_wouldChoose_32 ⟨Nat.le_of_ble_eq_true rfl, Nat.le_of_ble_eq_true rfl⟩) hP hD hK hS hA [0] [1] rfl rfl (by decide) (by decide) (fun r_10 u H locs hw_11 hP hD hK hS => ?_)
  obtain ⟨⟩ := u
  have hP : va_P (dC, dI) vwCl [(mt, .inr (1, [.int mo, .ref ma, .int 3])), (mm, .inr (21, [.int 0, .ref ms, .ref mt, .ref mh, .ref me]))] H := hP
  have hD : va_D A [(mt, .inr (1, [.int mo, .ref ma, .int 3])), (mm, .inr (21, [.int 0, .ref ms, .ref mt, .ref mh, .ref me]))] := hD
  have hK : va_K (dC, dI) vwCl [(kO, .object "java/lang/Object"), (kT, .object "HornbookModel$Tree")] s := by simpa using hK
  have hw_11 : r_10 = 0 := hw_11
  have hw_11 := hw_11.symm
  subst hw_11
  refine lv_if_ne (tgt := 72) hx hb dX19_wouldChoose_35 (by decide) (fun c_12 => ?_) (fun c_12 => ?_)
  · exact absurd (by decide) c_12
  refine lv_aload_n hx hb dX19_wouldChoose_38 rfl (lv_at hl 0 rfl) ?_
  refine lv_iload_n hx hb dX19_wouldChoose_39 rfl (lv_at hl 2 rfl) ?_
  refine lv_iconst (v := 0) hx hb dX19_wouldChoose_40 (by decide) ?_
  refine lv_bipush (v := 9) hx hb dX19_wouldChoose_41 (by decide) ?_
  refine z_i (wr := [(mt, .inr (1, [.int mo, .ref ma, .int 3])), (mm, .inr (21, [.int 0, .ref ms, .ref mt, .ref mh, .ref me]))]) (va_runS (As := [.int x2, .int 0, .int 9]) (rest := [.ref mm]) ⟨hx, hb, hml, hown, hts⟩ (c_M_isIn_hi l eD eI ad dC dI H.size x2 0 9 (hx20) (hx21)) (va_cwS 3 hts g_c_M_would_8 rfl rfl rfl (by decide +kernel) ⟨Nat.le_of_ble_eq_true rfl, Nat.le_of_ble_eq_true rfl⟩) (z_preS (wc := []) hP hD hK hS hA hE [] [] rfl (by decide) rfl) rfl rfl hl.1 rfl (lv_room (Nat.le_of_ble_eq_true rfl)) dX19_wouldChoose_43 ⟨Nat.le_of_ble_eq_true rfl, Nat.le_of_ble_eq_true rfl⟩) hP hD hK hS hA [] [0, 1] rfl rfl (by decide) (by decide) (fun r_13 u H locs hw_14 hP hD hK hS => ?_)
  obtain ⟨⟩ := u
  have hP : va_P (dC, dI) vwCl [(mt, .inr (1, [.int mo, .ref ma, .int 3])), (mm, .inr (21, [.int 0, .ref ms, .ref mt, .ref mh, .ref me]))] H := hP
  have hD : va_D A [(mt, .inr (1, [.int mo, .ref ma, .int 3])), (mm, .inr (21, [.int 0, .ref ms, .ref mt, .ref mh, .ref me]))] := hD
  have hK : va_K (dC, dI) vwCl [(kO, .object "java/lang/Object"), (kT, .object "HornbookModel$Tree")] s := by simpa using hK
  have hw_14 : r_13 = 0 := hw_14
  have hw_14 := hw_14.symm
  subst hw_14
  refine lv_if_eq (tgt := 60) hx hb dX19_wouldChoose_46 (by decide) (fun c_15 => ?_) (fun c_15 => ?_)
  rotate_left
  · exact absurd (by decide) c_15
  refine lv_iconst (v := 1) hx hb dX19_wouldChoose_60 (by decide) ?_
  refine lv_goto (tgt := 65) hx hb dX19_wouldChoose_61 (by decide) ?_
  refine lv_iconst (v := 2) hx hb dX19_wouldChoose_65 (by decide) ?_
  refine z_i (wr := [(mt, .inr (1, [.int mo, .ref ma, .int 3]))]) (va_runV (As := [.int 1, .int 2]) (rest := []) ⟨hx, hb, hml, hown, hts⟩ (c_M_refuse_yes l eD eI ad dC dI H.size mm ((.ref ms)) ((.ref mt)) ((.ref mh)) ((.ref me)) 2 (by decide)) (cwV 2 hts g_c_M_would_7 rfl rfl rfl (by decide +kernel) ⟨Nat.le_of_ble_eq_true rfl, Nat.le_of_ble_eq_true rfl⟩) (z_preV (wc := [(mm, .inr (21, [.int 0, .ref ms, .ref mt, .ref mh, .ref me]))]) hP hD hK hS hA hE [1] [] rfl (by decide) rfl (ci := 21) (q0 := 0) rfl rfl) rfl rfl hl.1 rfl (lv_room (Nat.le_of_ble_eq_true rfl)) dX19_wouldChoose_66 ⟨Nat.le_of_ble_eq_true rfl, Nat.le_of_ble_eq_true rfl⟩) hP hD hK hS hA [1] [0] rfl rfl (by decide) (by decide) (fun r_16 u H locs hw_17 hP hD hK hS => ?_)
  obtain ⟨⟩ := u
  have hP : va_P (dC, dI) vwCl [(mt, .inr (1, [.int mo, .ref ma, .int 3])), (mm, .inr (21, [.int 2, .ref ms, .ref mt, .ref mh, .ref me]))] H := hP
  have hD : va_D A [(mt, .inr (1, [.int mo, .ref ma, .int 3])), (mm, .inr (21, [.int 2, .ref ms, .ref mt, .ref mh, .ref me]))] := hD
  have hK : va_K (dC, dI) vwCl [(kO, .object "java/lang/Object"), (kT, .object "HornbookModel$Tree")] s := by simpa using hK
  have hw_17 : r_16 = 1 := hw_17
  have hw_17 := hw_17.symm
  subst hw_17
  refine lv_if_eq (tgt := 74) hx hb dX19_wouldChoose_69 (by decide) (fun c_18 => ?_) (fun c_18 => ?_)
  · exact absurd c_18 (by decide)
  refine lv_iconst (v := 0) hx hb dX19_wouldChoose_72 (by decide) ?_
  have hP9 := hP.sub (ws' := [(mm, .inr (21, [.int 2, .ref ms, .ref mt, .ref mh, .ref me]))]) [1] rfl
  have hD9 := hD.sub (ws' := [(mm, .inr (21, [.int 2, .ref ms, .ref mt, .ref mh, .ref me]))]) [1] (by decide) rfl
  have hK9 := hK.sub (tys' := []) [] rfl
  refine W.widen (k := 7) (n := 22) (Nat.le_of_ble_eq_true rfl) (Nat.le_of_ble_eq_true rfl) ?_
  exact W.iret (v := 0) hx hb hr (fun t ht hW => ⟨⟨0, (2, 0), rfl, ⟨rfl, by first | decide | simp [hx10, hx11, hx49, hx40, hx41, hx20, hx21], by first | exact fun h => absurd h (by decide) | exact fun _ => rfl | rfl | decide | simp⟩, ⟨by rw [ht]; exact hP9, va_K.moved hW.alike hK9, hD9⟩⟩, hS.F ht⟩) hS.2.2 dX19_wouldChoose_73

set_option maxHeartbeats 4000000 in
set_option maxRecDepth 100000 in
theorem c_M_would_E (l : Launch) (eD eI : Nat) (ad : Nat → Nat) (dC : Nat → ClassId) (dI : Nat → Nat → Nat) (sz : Nat) (mm : Nat) (ms : Nat) (mt : Nat) (mh : Nat) (me : Nat) (mo : Int32) (ma : Nat) (kO : ClassId) (kT : ClassId) (t0 : Nat) (t1 : Nat) (t2 : Nat) (i0 : Nat) (i1 : Nat) (i2 : Nat) (th : Int32) (x1 : Int32) (x2 : Int32) (x4 : Int32) (hx10 : ¬ x1 < 0) (hx11 : ¬ 2 < x1) (hx49 : ¬ x4 = (-1)) (hx40 : ¬ x4 < 0) (hx41 : ¬ 2 < x4) (hx20 : ¬ x2 < 0) (hx21 : ¬ 9 < x2) : Met l yX19_wouldChoose w_c_M_would ({ frames := 6, cells := 7, slots := 22, locals := 123 }) (va_Pc [.ref mm, .int x1, .int x2, .int (-1), .int x4] (zPre eD eI ad (dC, dI) [(mm, .inr (21, [.int th, .ref ms, .ref mt, .ref mh, .ref me])), (ms, .inr (1, [.int 0, .ref eD, .int 0])), (mt, .inr (1, [.int mo, .ref ma, .int 3])), (mh, .inr (1, [.int 0, .ref eD, .int 0])), (me, .inr (1, [.int 0, .ref eD, .int 0])), (ma, .inl (kO, 10, .inr (.inr (.inr (.inr (zfT t0 t1 t2)))))), (t0, .inr (18, [.int (-1), .ref i0])), (t1, .inr (18, [.int (-2), .ref i1])), (t2, .inr (18, [.int (-3), .ref i2])), (i0, .inl (kT, 0, .inr (.inr (.inr (.inr (fun _ => none)))))), (i1, .inl (kT, 0, .inr (.inr (.inr (.inr (fun _ => none)))))), (i2, .inl (kT, 0, .inr (.inr (.inr (.inr (fun _ => none))))))] [(kO, .object "java/lang/Object"), (kT, .object "HornbookModel$Tree")] sz)) (va_Qi (fun (r : Int32) (u : Int32 × Int32) => match u with | (th2, v2) => r = v2 ∧ th2 = (if x1 < 0 ∨ 2 < x1 then 1 else if ¬ (-1 : Int32) = (-1) ∧ ((-1 : Int32) < 0 ∨ 2 < (-1 : Int32)) then 1 else if ¬ x4 = (-1) ∧ (x4 < 0 ∨ 2 < x4) then 1 else if x2 < 0 ∨ 9 < x2 then 2 else if (-1 : Int32) = (-1) ∧ ¬ x4 = (-1) then 2 else if x1 = 2 ∨ (-1 : Int32) = 2 ∨ x4 = 2 then 2 else 0) ∧ (th2 = 0 → v2 = (-1))) (fun (u : Int32 × Int32) => match u with | (th2, v2) => zEnd (dC, dI) (va_A [(mm, .inr (21, [.int th, .ref ms, .ref mt, .ref mh, .ref me])), (ms, .inr (1, [.int 0, .ref eD, .int 0])), (mt, .inr (1, [.int mo, .ref ma, .int 3])), (mh, .inr (1, [.int 0, .ref eD, .int 0])), (me, .inr (1, [.int 0, .ref eD, .int 0])), (ma, .inl (kO, 10, .inr (.inr (.inr (.inr (zfT t0 t1 t2)))))), (t0, .inr (18, [.int (-1), .ref i0])), (t1, .inr (18, [.int (-2), .ref i1])), (t2, .inr (18, [.int (-3), .ref i2])), (i0, .inl (kT, 0, .inr (.inr (.inr (.inr (fun _ => none)))))), (i1, .inl (kT, 0, .inr (.inr (.inr (.inr (fun _ => none)))))), (i2, .inl (kT, 0, .inr (.inr (.inr (.inr (fun _ => none))))))] sz) [(mm, .inr (21, [.int th2, .ref ms, .ref mt, .ref mh, .ref me]))] []) (va_A [(mm, .inr (21, [.int th, .ref ms, .ref mt, .ref mh, .ref me])), (ms, .inr (1, [.int 0, .ref eD, .int 0])), (mt, .inr (1, [.int mo, .ref ma, .int 3])), (mh, .inr (1, [.int 0, .ref eD, .int 0])), (me, .inr (1, [.int 0, .ref eD, .int 0])), (ma, .inl (kO, 10, .inr (.inr (.inr (.inr (zfT t0 t1 t2)))))), (t0, .inr (18, [.int (-1), .ref i0])), (t1, .inr (18, [.int (-2), .ref i1])), (t2, .inr (18, [.int (-3), .ref i2])), (i0, .inl (kT, 0, .inr (.inr (.inr (.inr (fun _ => none)))))), (i1, .inl (kT, 0, .inr (.inr (.inr (.inr (fun _ => none)))))), (i2, .inl (kT, 0, .inr (.inr (.inr (.inr (fun _ => none))))))] sz)) 7 22 (va_A [(mm, .inr (21, [.int th, .ref ms, .ref mt, .ref mh, .ref me])), (ms, .inr (1, [.int 0, .ref eD, .int 0])), (mt, .inr (1, [.int mo, .ref ma, .int 3])), (mh, .inr (1, [.int 0, .ref eD, .int 0])), (me, .inr (1, [.int 0, .ref eD, .int 0])), (ma, .inl (kO, 10, .inr (.inr (.inr (.inr (zfT t0 t1 t2)))))), (t0, .inr (18, [.int (-1), .ref i0])), (t1, .inr (18, [.int (-2), .ref i1])), (t2, .inr (18, [.int (-3), .ref i2])), (i0, .inl (kT, 0, .inr (.inr (.inr (.inr (fun _ => none)))))), (i1, .inl (kT, 0, .inr (.inr (.inr (.inr (fun _ => none)))))), (i2, .inl (kT, 0, .inr (.inr (.inr (.inr (fun _ => none))))))] sz) := by
  refine Met.ofW (cc := cX19_wouldChoose) (maxL := 11) (ret := (some .int)) (by decide) rfl ?_
  intro p e s m args below meth c s₁ B hml hv
  obtain ⟨rfl, hsz, hP, hK, hD0, hE⟩ := hv
  have hx := B.exec
  have hb := B.bytes
  have hr := B.returns
  have hts := atoms_spec (ws := w_c_M_would) B.pre
  have hown : s.vm.findClass RX19 = some m.cls := findClass_of_methodNamed B.named
  have hlocks := B.notSynchronized
  subst hsz
  have hD := hD0.self (sz := s.heap.size)
  generalize hAe : va_A [(mm, .inr (21, [.int th, .ref ms, .ref mt, .ref mh, .ref me])), (ms, .inr (1, [.int 0, .ref eD, .int 0])), (mt, .inr (1, [.int mo, .ref ma, .int 3])), (mh, .inr (1, [.int 0, .ref eD, .int 0])), (me, .inr (1, [.int 0, .ref eD, .int 0])), (ma, .inl (kO, 10, .inr (.inr (.inr (.inr (zfT t0 t1 t2)))))), (t0, .inr (18, [.int (-1), .ref i0])), (t1, .inr (18, [.int (-2), .ref i1])), (t2, .inr (18, [.int (-3), .ref i2])), (i0, .inl (kT, 0, .inr (.inr (.inr (.inr (fun _ => none)))))), (i1, .inl (kT, 0, .inr (.inr (.inr (.inr (fun _ => none)))))), (i2, .inl (kT, 0, .inr (.inr (.inr (.inr (fun _ => none))))))] s.heap.size = A at hD hE ⊢
  have hA : ∀ q : Nat, s.heap.size ≤ q → A q := fun q h => by rw [← hAe]; exact Or.inr h
  have hS : va_S A s.heap s.heap [] := va_S.rf
  have hP : va_P (dC, dI) vwCl [(mm, .inr (21, [.int th, .ref ms, .ref mt, .ref mh, .ref me])), (ms, .inr (1, [.int 0, .ref eD, .int 0])), (mt, .inr (1, [.int mo, .ref ma, .int 3])), (mh, .inr (1, [.int 0, .ref eD, .int 0])), (me, .inr (1, [.int 0, .ref eD, .int 0])), (ma, .inl (kO, 10, .inr (.inr (.inr (.inr (zfT t0 t1 t2)))))), (t0, .inr (18, [.int (-1), .ref i0])), (t1, .inr (18, [.int (-2), .ref i1])), (t2, .inr (18, [.int (-3), .ref i2])), (i0, .inl (kT, 0, .inr (.inr (.inr (.inr (fun _ => none)))))), (i1, .inl (kT, 0, .inr (.inr (.inr (.inr (fun _ => none)))))), (i2, .inl (kT, 0, .inr (.inr (.inr (.inr (fun _ => none))))))] s.heap := hP
  have hl := lv_entry ([.ref mm, .int x1, .int x2, .int (-1), .int x4]) (n := 11) (Nat.le_of_ble_eq_true rfl)
  rw [lg_entry_eq]
  generalize (lg_sl ([.ref mm, .int x1, .int x2, .int (-1), .int x4]) ++ List.replicate (11 - (lg_sl ([.ref mm, .int x1, .int x2, .int (-1), .int x4])).length) Slot.unset).toArray = ls at hl ⊢
  have hl : lv_has ls 11 [(0, .ref mm), (1, .int x1), (2, .int x2), (3, .int (-1)), (4, .int x4)] := hl
  have hP := hP.sub (ws' := [(mm, .inr (21, [.int th, .ref ms, .ref mt, .ref mh, .ref me])), (mt, .inr (1, [.int mo, .ref ma, .int 3]))]) [0, 2] rfl
  have hD := hD.sub (ws' := [(mm, .inr (21, [.int th, .ref ms, .ref mt, .ref mh, .ref me])), (mt, .inr (1, [.int mo, .ref ma, .int 3]))]) [0, 2] (by decide) rfl
  refine lv_aload_n hx hb dX19_wouldChoose_0 rfl (lv_at hl 0 rfl) ?_
  refine lv_aload_n hx hb dX19_wouldChoose_1 rfl (lv_at hl 0 rfl) ?_
  refine lv_iload_n hx hb dX19_wouldChoose_2 rfl (lv_at hl 1 rfl) ?_
  refine z_i (wr := []) (va_runV (As := [.int x1]) (rest := [.ref mm]) ⟨hx, hb, hml, hown, hts⟩ (c_M_isNoType_ok l eD eI ad dC dI s.heap.size mm ms mt mh me th ((.int mo)) ((.ref ma)) x1 (hx10) (hx11)) (cwV 1 hts g_c_M_would_3 rfl rfl rfl (by decide +kernel) ⟨Nat.le_of_ble_eq_true rfl, Nat.le_of_ble_eq_true rfl⟩) (z_preV (wc := [(mm, .inr (21, [.int th, .ref ms, .ref mt, .ref mh, .ref me])), (mt, .inr (1, [.int mo, .ref ma, .int 3]))]) hP hD hK hS hA hE [0, 1] [] rfl (by decide) rfl (ci := 21) (q0 := 0) rfl rfl) rfl rfl hl.1 rfl (lv_room (Nat.le_of_ble_eq_true rfl)) dX19_wouldChoose_3 ⟨Nat.le_of_ble_eq_true rfl, Nat.le_of_ble_eq_true rfl⟩) hP hD hK hS hA [0, 1] [] rfl rfl (by decide) (by decide) (fun r_1 u H locs hw_2 hP hD hK hS => ?_)
  obtain ⟨⟩ := u
  have hP : va_P (dC, dI) vwCl [(mm, .inr (21, [.int th, .ref ms, .ref mt, .ref mh, .ref me])), (mt, .inr (1, [.int mo, .ref ma, .int 3]))] H := hP
  have hD : va_D A [(mm, .inr (21, [.int th, .ref ms, .ref mt, .ref mh, .ref me])), (mt, .inr (1, [.int mo, .ref ma, .int 3]))] := hD
  have hK : va_K (dC, dI) vwCl [(kO, .object "java/lang/Object"), (kT, .object "HornbookModel$Tree")] s := by simpa using hK
  have hw_2 : r_1 = 0 := hw_2
  have hw_2 := hw_2.symm
  subst hw_2
  refine lv_if_ne (tgt := 26) hx hb dX19_wouldChoose_6 (by decide) (fun c_3 => ?_) (fun c_3 => ?_)
  · exact absurd (by decide) c_3
  refine lv_aload_n hx hb dX19_wouldChoose_9 rfl (lv_at hl 0 rfl) ?_
  refine lv_iload_n hx hb dX19_wouldChoose_10 rfl (lv_at hl 3 rfl) ?_
  refine z_i (wr := []) (va_runV (As := [.int (-1)]) (rest := [.ref mm]) ⟨hx, hb, hml, hown, hts⟩ (c_M_isNoTypeN_none l eD eI ad dC dI H.size mm ms mt mh me th ((.int mo)) ((.ref ma))) (cwV 1 hts g_c_M_would_4 rfl rfl rfl (by decide +kernel) ⟨Nat.le_of_ble_eq_true rfl, Nat.le_of_ble_eq_true rfl⟩) (z_preV (wc := [(mm, .inr (21, [.int th, .ref ms, .ref mt, .ref mh, .ref me])), (mt, .inr (1, [.int mo, .ref ma, .int 3]))]) hP hD hK hS hA hE [0, 1] [] rfl (by decide) rfl (ci := 21) (q0 := 0) rfl rfl) rfl rfl hl.1 rfl (lv_room (Nat.le_of_ble_eq_true rfl)) dX19_wouldChoose_11 ⟨Nat.le_of_ble_eq_true rfl, Nat.le_of_ble_eq_true rfl⟩) hP hD hK hS hA [0, 1] [] rfl rfl (by decide) (by decide) (fun r_4 u H locs hw_5 hP hD hK hS => ?_)
  obtain ⟨⟩ := u
  have hP : va_P (dC, dI) vwCl [(mm, .inr (21, [.int th, .ref ms, .ref mt, .ref mh, .ref me])), (mt, .inr (1, [.int mo, .ref ma, .int 3]))] H := hP
  have hD : va_D A [(mm, .inr (21, [.int th, .ref ms, .ref mt, .ref mh, .ref me])), (mt, .inr (1, [.int mo, .ref ma, .int 3]))] := hD
  have hK : va_K (dC, dI) vwCl [(kO, .object "java/lang/Object"), (kT, .object "HornbookModel$Tree")] s := by simpa using hK
  have hw_5 : r_4 = 0 := hw_5
  have hw_5 := hw_5.symm
  subst hw_5
  refine lv_if_ne (tgt := 26) hx hb dX19_wouldChoose_14 (by decide) (fun c_6 => ?_) (fun c_6 => ?_)
  · exact absurd (by decide) c_6
  refine lv_aload_n hx hb dX19_wouldChoose_17 rfl (lv_at hl 0 rfl) ?_
  refine lv_iload hx hb dX19_wouldChoose_18 (lv_at hl 4 rfl) ?_
  refine z_i (wr := []) (va_runV (As := [.int x4]) (rest := [.ref mm]) ⟨hx, hb, hml, hown, hts⟩ (c_M_isNoTypeN_ok l eD eI ad dC dI H.size mm ms mt mh me th ((.int mo)) ((.ref ma)) x4 (hx49) (hx40) (hx41)) (cwV 1 hts g_c_M_would_23 rfl rfl rfl (by decide +kernel) ⟨Nat.le_of_ble_eq_true rfl, Nat.le_of_ble_eq_true rfl⟩) (z_preV (wc := [(mm, .inr (21, [.int th, .ref ms, .ref mt, .ref mh, .ref me])), (mt, .inr (1, [.int mo, .ref ma, .int 3]))]) hP hD hK hS hA hE [0, 1] [] rfl (by decide) rfl (ci := 21) (q0 := 0) rfl rfl) rfl rfl hl.1 rfl (lv_room (Nat.le_of_ble_eq_true rfl)) dX19_wouldChoose_20 ⟨Nat.le_of_ble_eq_true rfl, Nat.le_of_ble_eq_true rfl⟩) hP hD hK hS hA [0, 1] [] rfl rfl (by decide) (by decide) (fun r_7 u H locs hw_8 hP hD hK hS => ?_)
  obtain ⟨⟩ := u
  have hP : va_P (dC, dI) vwCl [(mm, .inr (21, [.int th, .ref ms, .ref mt, .ref mh, .ref me])), (mt, .inr (1, [.int mo, .ref ma, .int 3]))] H := hP
  have hD : va_D A [(mm, .inr (21, [.int th, .ref ms, .ref mt, .ref mh, .ref me])), (mt, .inr (1, [.int mo, .ref ma, .int 3]))] := hD
  have hK : va_K (dC, dI) vwCl [(kO, .object "java/lang/Object"), (kT, .object "HornbookModel$Tree")] s := by simpa using hK
  have hw_8 : r_7 = 0 := hw_8
  have hw_8 := hw_8.symm
  subst hw_8
  refine lv_if_eq (tgt := 30) hx hb dX19_wouldChoose_23 (by decide) (fun c_9 => ?_) (fun c_9 => ?_)
  rotate_left
  · exact absurd (by decide) c_9
  refine lv_iconst (v := 0) hx hb dX19_wouldChoose_30 (by decide) ?_
  refine lv_iconst (v := 1) hx hb dX19_wouldChoose_31 (by decide) ?_
  refine z_i (wr := [(mt, .inr (1, [.int mo, .ref ma, .int 3]))]) (va_runV (As := [.int 0, .int 1]) (rest := []) ⟨hx, hb, hml, hown, hts⟩ (c_M_start_no l eD eI ad dC dI H.size mm ((.ref ms)) ((.ref mt)) ((.ref mh)) ((.ref me)) 1 th) (cwV 2 hts g_c_M_would_5 rfl rfl rfl (by decide +kernel) ⟨Nat.le_of_ble_eq_true rfl, Nat.le_of_ble_eq_true rfl⟩) (z_preV (wc := [(mm, .inr (21, [.int th, .ref ms, .ref mt, .ref mh, .ref me]))]) hP hD hK hS hA hE [0] [] rfl (by decide) rfl (ci := 21) (q0 := 0) rfl rfl) rfl rfl hl.1 rfl (lv_room (Nat.le_of_ble_eq_true rfl)) dX19_wouldChoose_32 ⟨Nat.le_of_ble_eq_true rfl, Nat.le_of_ble_eq_true rfl⟩) hP hD hK hS hA [0] [1] rfl rfl (by decide) (by decide) (fun r_10 u H locs hw_11 hP hD hK hS => ?_)
  obtain ⟨⟩ := u
  have hP : va_P (dC, dI) vwCl [(mt, .inr (1, [.int mo, .ref ma, .int 3])), (mm, .inr (21, [.int 0, .ref ms, .ref mt, .ref mh, .ref me]))] H := hP
  have hD : va_D A [(mt, .inr (1, [.int mo, .ref ma, .int 3])), (mm, .inr (21, [.int 0, .ref ms, .ref mt, .ref mh, .ref me]))] := hD
  have hK : va_K (dC, dI) vwCl [(kO, .object "java/lang/Object"), (kT, .object "HornbookModel$Tree")] s := by simpa using hK
  have hw_11 : r_10 = 0 := hw_11
  have hw_11 := hw_11.symm
  subst hw_11
  refine lv_if_ne (tgt := 72) hx hb dX19_wouldChoose_35 (by decide) (fun c_12 => ?_) (fun c_12 => ?_)
  · exact absurd (by decide) c_12
  refine lv_aload_n hx hb dX19_wouldChoose_38 rfl (lv_at hl 0 rfl) ?_
  refine lv_iload_n hx hb dX19_wouldChoose_39 rfl (lv_at hl 2 rfl) ?_
  refine lv_iconst (v := 0) hx hb dX19_wouldChoose_40 (by decide) ?_
  refine lv_bipush (v := 9) hx hb dX19_wouldChoose_41 (by decide) ?_
  refine z_i (wr := [(mt, .inr (1, [.int mo, .ref ma, .int 3])), (mm, .inr (21, [.int 0, .ref ms, .ref mt, .ref mh, .ref me]))]) (va_runS (As := [.int x2, .int 0, .int 9]) (rest := [.ref mm]) ⟨hx, hb, hml, hown, hts⟩ (c_M_isIn_ok l eD eI ad dC dI H.size x2 0 9 (hx20) (hx21)) (va_cwS 3 hts g_c_M_would_9 rfl rfl rfl (by decide +kernel) ⟨Nat.le_of_ble_eq_true rfl, Nat.le_of_ble_eq_true rfl⟩) (z_preS (wc := []) hP hD hK hS hA hE [] [] rfl (by decide) rfl) rfl rfl hl.1 rfl (lv_room (Nat.le_of_ble_eq_true rfl)) dX19_wouldChoose_43 ⟨Nat.le_of_ble_eq_true rfl, Nat.le_of_ble_eq_true rfl⟩) hP hD hK hS hA [] [0, 1] rfl rfl (by decide) (by decide) (fun r_13 u H locs hw_14 hP hD hK hS => ?_)
  obtain ⟨⟩ := u
  have hP : va_P (dC, dI) vwCl [(mt, .inr (1, [.int mo, .ref ma, .int 3])), (mm, .inr (21, [.int 0, .ref ms, .ref mt, .ref mh, .ref me]))] H := hP
  have hD : va_D A [(mt, .inr (1, [.int mo, .ref ma, .int 3])), (mm, .inr (21, [.int 0, .ref ms, .ref mt, .ref mh, .ref me]))] := hD
  have hK : va_K (dC, dI) vwCl [(kO, .object "java/lang/Object"), (kT, .object "HornbookModel$Tree")] s := by simpa using hK
  have hw_14 : r_13 = 1 := hw_14
  have hw_14 := hw_14.symm
  subst hw_14
  refine lv_if_eq (tgt := 60) hx hb dX19_wouldChoose_46 (by decide) (fun c_15 => ?_) (fun c_15 => ?_)
  · exact absurd c_15 (by decide)
  refine lv_iload_n hx hb dX19_wouldChoose_49 rfl (lv_at hl 3 rfl) ?_
  refine lv_iconst (v := (-1)) hx hb dX19_wouldChoose_50 (by decide) ?_
  refine lv_icmp_ne (tgt := 64) hx hb dX19_wouldChoose_51 (by decide) (fun c_16 => ?_) (fun c_16 => ?_)
  · exact absurd (by decide) c_16
  refine lv_iload hx hb dX19_wouldChoose_54 (lv_at hl 4 rfl) ?_
  refine lv_iconst (v := (-1)) hx hb dX19_wouldChoose_56 (by decide) ?_
  refine lv_icmp_eq (tgt := 64) hx hb dX19_wouldChoose_57 (by decide) (fun c_17 => ?_) (fun c_17 => ?_)
  · exact absurd c_17 hx49
  refine lv_iconst (v := 1) hx hb dX19_wouldChoose_60 (by decide) ?_
  refine lv_goto (tgt := 65) hx hb dX19_wouldChoose_61 (by decide) ?_
  refine lv_iconst (v := 2) hx hb dX19_wouldChoose_65 (by decide) ?_
  refine z_i (wr := [(mt, .inr (1, [.int mo, .ref ma, .int 3]))]) (va_runV (As := [.int 1, .int 2]) (rest := []) ⟨hx, hb, hml, hown, hts⟩ (c_M_refuse_yes l eD eI ad dC dI H.size mm ((.ref ms)) ((.ref mt)) ((.ref mh)) ((.ref me)) 2 (by decide)) (cwV 2 hts g_c_M_would_7 rfl rfl rfl (by decide +kernel) ⟨Nat.le_of_ble_eq_true rfl, Nat.le_of_ble_eq_true rfl⟩) (z_preV (wc := [(mm, .inr (21, [.int 0, .ref ms, .ref mt, .ref mh, .ref me]))]) hP hD hK hS hA hE [1] [] rfl (by decide) rfl (ci := 21) (q0 := 0) rfl rfl) rfl rfl hl.1 rfl (lv_room (Nat.le_of_ble_eq_true rfl)) dX19_wouldChoose_66 ⟨Nat.le_of_ble_eq_true rfl, Nat.le_of_ble_eq_true rfl⟩) hP hD hK hS hA [1] [0] rfl rfl (by decide) (by decide) (fun r_18 u H locs hw_19 hP hD hK hS => ?_)
  obtain ⟨⟩ := u
  have hP : va_P (dC, dI) vwCl [(mt, .inr (1, [.int mo, .ref ma, .int 3])), (mm, .inr (21, [.int 2, .ref ms, .ref mt, .ref mh, .ref me]))] H := hP
  have hD : va_D A [(mt, .inr (1, [.int mo, .ref ma, .int 3])), (mm, .inr (21, [.int 2, .ref ms, .ref mt, .ref mh, .ref me]))] := hD
  have hK : va_K (dC, dI) vwCl [(kO, .object "java/lang/Object"), (kT, .object "HornbookModel$Tree")] s := by simpa using hK
  have hw_19 : r_18 = 1 := hw_19
  have hw_19 := hw_19.symm
  subst hw_19
  refine lv_if_eq (tgt := 74) hx hb dX19_wouldChoose_69 (by decide) (fun c_20 => ?_) (fun c_20 => ?_)
  · exact absurd c_20 (by decide)
  refine lv_iconst (v := 0) hx hb dX19_wouldChoose_72 (by decide) ?_
  have hP9 := hP.sub (ws' := [(mm, .inr (21, [.int 2, .ref ms, .ref mt, .ref mh, .ref me]))]) [1] rfl
  have hD9 := hD.sub (ws' := [(mm, .inr (21, [.int 2, .ref ms, .ref mt, .ref mh, .ref me]))]) [1] (by decide) rfl
  have hK9 := hK.sub (tys' := []) [] rfl
  refine W.widen (k := 7) (n := 22) (Nat.le_of_ble_eq_true rfl) (Nat.le_of_ble_eq_true rfl) ?_
  exact W.iret (v := 0) hx hb hr (fun t ht hW => ⟨⟨0, (2, 0), rfl, ⟨rfl, by first | decide | simp [hx10, hx11, hx49, hx40, hx41, hx20, hx21], by first | exact fun h => absurd h (by decide) | exact fun _ => rfl | rfl | decide | simp⟩, ⟨by rw [ht]; exact hP9, va_K.moved hW.alike hK9, hD9⟩⟩, hS.F ht⟩) hS.2.2 dX19_wouldChoose_73

set_option maxHeartbeats 4000000 in
set_option maxRecDepth 100000 in
theorem c_M_would_Bl (l : Launch) (eD eI : Nat) (ad : Nat → Nat) (dC : Nat → ClassId) (dI : Nat → Nat → Nat) (sz : Nat) (mm : Nat) (ms : Nat) (mt : Nat) (mh : Nat) (me : Nat) (mo : Int32) (ma : Nat) (kO : ClassId) (kT : ClassId) (t0 : Nat) (t1 : Nat) (t2 : Nat) (i0 : Nat) (i1 : Nat) (i2 : Nat) (th : Int32) (x1 : Int32) (x2 : Int32) (x3 : Int32) (x4 : Int32) (hx10 : ¬ x1 < 0) (hx11 : ¬ 2 < x1) (hx39 : ¬ x3 = (-1)) (hx31 : x3 < 0) : Met l yX19_wouldChoose w_c_M_would ({ frames := 6, cells := 7, slots := 22, locals := 123 }) (va_Pc [.ref mm, .int x1, .int x2, .int x3, .int x4] (zPre eD eI ad (dC, dI) [(mm, .inr (21, [.int th, .ref ms, .ref mt, .ref mh, .ref me])), (ms, .inr (1, [.int 0, .ref eD, .int 0])), (mt, .inr (1, [.int mo, .ref ma, .int 3])), (mh, .inr (1, [.int 0, .ref eD, .int 0])), (me, .inr (1, [.int 0, .ref eD, .int 0])), (ma, .inl (kO, 10, .inr (.inr (.inr (.inr (zfT t0 t1 t2)))))), (t0, .inr (18, [.int (-1), .ref i0])), (t1, .inr (18, [.int (-2), .ref i1])), (t2, .inr (18, [.int (-3), .ref i2])), (i0, .inl (kT, 0, .inr (.inr (.inr (.inr (fun _ => none)))))), (i1, .inl (kT, 0, .inr (.inr (.inr (.inr (fun _ => none)))))), (i2, .inl (kT, 0, .inr (.inr (.inr (.inr (fun _ => none))))))] [(kO, .object "java/lang/Object"), (kT, .object "HornbookModel$Tree")] sz)) (va_Qi (fun (r : Int32) (u : Int32 × Int32) => match u with | (th2, v2) => r = v2 ∧ th2 = (if x1 < 0 ∨ 2 < x1 then 1 else if ¬ x3 = (-1) ∧ (x3 < 0 ∨ 2 < x3) then 1 else if ¬ x4 = (-1) ∧ (x4 < 0 ∨ 2 < x4) then 1 else if x2 < 0 ∨ 9 < x2 then 2 else if x3 = (-1) ∧ ¬ x4 = (-1) then 2 else if x1 = 2 ∨ x3 = 2 ∨ x4 = 2 then 2 else 0) ∧ (th2 = 0 → v2 = (-1))) (fun (u : Int32 × Int32) => match u with | (th2, v2) => zEnd (dC, dI) (va_A [(mm, .inr (21, [.int th, .ref ms, .ref mt, .ref mh, .ref me])), (ms, .inr (1, [.int 0, .ref eD, .int 0])), (mt, .inr (1, [.int mo, .ref ma, .int 3])), (mh, .inr (1, [.int 0, .ref eD, .int 0])), (me, .inr (1, [.int 0, .ref eD, .int 0])), (ma, .inl (kO, 10, .inr (.inr (.inr (.inr (zfT t0 t1 t2)))))), (t0, .inr (18, [.int (-1), .ref i0])), (t1, .inr (18, [.int (-2), .ref i1])), (t2, .inr (18, [.int (-3), .ref i2])), (i0, .inl (kT, 0, .inr (.inr (.inr (.inr (fun _ => none)))))), (i1, .inl (kT, 0, .inr (.inr (.inr (.inr (fun _ => none)))))), (i2, .inl (kT, 0, .inr (.inr (.inr (.inr (fun _ => none))))))] sz) [(mm, .inr (21, [.int th2, .ref ms, .ref mt, .ref mh, .ref me]))] []) (va_A [(mm, .inr (21, [.int th, .ref ms, .ref mt, .ref mh, .ref me])), (ms, .inr (1, [.int 0, .ref eD, .int 0])), (mt, .inr (1, [.int mo, .ref ma, .int 3])), (mh, .inr (1, [.int 0, .ref eD, .int 0])), (me, .inr (1, [.int 0, .ref eD, .int 0])), (ma, .inl (kO, 10, .inr (.inr (.inr (.inr (zfT t0 t1 t2)))))), (t0, .inr (18, [.int (-1), .ref i0])), (t1, .inr (18, [.int (-2), .ref i1])), (t2, .inr (18, [.int (-3), .ref i2])), (i0, .inl (kT, 0, .inr (.inr (.inr (.inr (fun _ => none)))))), (i1, .inl (kT, 0, .inr (.inr (.inr (.inr (fun _ => none)))))), (i2, .inl (kT, 0, .inr (.inr (.inr (.inr (fun _ => none))))))] sz)) 7 22 (va_A [(mm, .inr (21, [.int th, .ref ms, .ref mt, .ref mh, .ref me])), (ms, .inr (1, [.int 0, .ref eD, .int 0])), (mt, .inr (1, [.int mo, .ref ma, .int 3])), (mh, .inr (1, [.int 0, .ref eD, .int 0])), (me, .inr (1, [.int 0, .ref eD, .int 0])), (ma, .inl (kO, 10, .inr (.inr (.inr (.inr (zfT t0 t1 t2)))))), (t0, .inr (18, [.int (-1), .ref i0])), (t1, .inr (18, [.int (-2), .ref i1])), (t2, .inr (18, [.int (-3), .ref i2])), (i0, .inl (kT, 0, .inr (.inr (.inr (.inr (fun _ => none)))))), (i1, .inl (kT, 0, .inr (.inr (.inr (.inr (fun _ => none)))))), (i2, .inl (kT, 0, .inr (.inr (.inr (.inr (fun _ => none))))))] sz) := by
  refine Met.ofW (cc := cX19_wouldChoose) (maxL := 11) (ret := (some .int)) (by decide) rfl ?_
  intro p e s m args below meth c s₁ B hml hv
  obtain ⟨rfl, hsz, hP, hK, hD0, hE⟩ := hv
  have hx := B.exec
  have hb := B.bytes
  have hr := B.returns
  have hts := atoms_spec (ws := w_c_M_would) B.pre
  have hown : s.vm.findClass RX19 = some m.cls := findClass_of_methodNamed B.named
  have hlocks := B.notSynchronized
  subst hsz
  have hD := hD0.self (sz := s.heap.size)
  generalize hAe : va_A [(mm, .inr (21, [.int th, .ref ms, .ref mt, .ref mh, .ref me])), (ms, .inr (1, [.int 0, .ref eD, .int 0])), (mt, .inr (1, [.int mo, .ref ma, .int 3])), (mh, .inr (1, [.int 0, .ref eD, .int 0])), (me, .inr (1, [.int 0, .ref eD, .int 0])), (ma, .inl (kO, 10, .inr (.inr (.inr (.inr (zfT t0 t1 t2)))))), (t0, .inr (18, [.int (-1), .ref i0])), (t1, .inr (18, [.int (-2), .ref i1])), (t2, .inr (18, [.int (-3), .ref i2])), (i0, .inl (kT, 0, .inr (.inr (.inr (.inr (fun _ => none)))))), (i1, .inl (kT, 0, .inr (.inr (.inr (.inr (fun _ => none)))))), (i2, .inl (kT, 0, .inr (.inr (.inr (.inr (fun _ => none))))))] s.heap.size = A at hD hE ⊢
  have hA : ∀ q : Nat, s.heap.size ≤ q → A q := fun q h => by rw [← hAe]; exact Or.inr h
  have hS : va_S A s.heap s.heap [] := va_S.rf
  have hP : va_P (dC, dI) vwCl [(mm, .inr (21, [.int th, .ref ms, .ref mt, .ref mh, .ref me])), (ms, .inr (1, [.int 0, .ref eD, .int 0])), (mt, .inr (1, [.int mo, .ref ma, .int 3])), (mh, .inr (1, [.int 0, .ref eD, .int 0])), (me, .inr (1, [.int 0, .ref eD, .int 0])), (ma, .inl (kO, 10, .inr (.inr (.inr (.inr (zfT t0 t1 t2)))))), (t0, .inr (18, [.int (-1), .ref i0])), (t1, .inr (18, [.int (-2), .ref i1])), (t2, .inr (18, [.int (-3), .ref i2])), (i0, .inl (kT, 0, .inr (.inr (.inr (.inr (fun _ => none)))))), (i1, .inl (kT, 0, .inr (.inr (.inr (.inr (fun _ => none)))))), (i2, .inl (kT, 0, .inr (.inr (.inr (.inr (fun _ => none))))))] s.heap := hP
  have hl := lv_entry ([.ref mm, .int x1, .int x2, .int x3, .int x4]) (n := 11) (Nat.le_of_ble_eq_true rfl)
  rw [lg_entry_eq]
  generalize (lg_sl ([.ref mm, .int x1, .int x2, .int x3, .int x4]) ++ List.replicate (11 - (lg_sl ([.ref mm, .int x1, .int x2, .int x3, .int x4])).length) Slot.unset).toArray = ls at hl ⊢
  have hl : lv_has ls 11 [(0, .ref mm), (1, .int x1), (2, .int x2), (3, .int x3), (4, .int x4)] := hl
  have hP := hP.sub (ws' := [(mm, .inr (21, [.int th, .ref ms, .ref mt, .ref mh, .ref me])), (mt, .inr (1, [.int mo, .ref ma, .int 3]))]) [0, 2] rfl
  have hD := hD.sub (ws' := [(mm, .inr (21, [.int th, .ref ms, .ref mt, .ref mh, .ref me])), (mt, .inr (1, [.int mo, .ref ma, .int 3]))]) [0, 2] (by decide) rfl
  refine lv_aload_n hx hb dX19_wouldChoose_0 rfl (lv_at hl 0 rfl) ?_
  refine lv_aload_n hx hb dX19_wouldChoose_1 rfl (lv_at hl 0 rfl) ?_
  refine lv_iload_n hx hb dX19_wouldChoose_2 rfl (lv_at hl 1 rfl) ?_
  refine z_i (wr := []) (va_runV (As := [.int x1]) (rest := [.ref mm]) ⟨hx, hb, hml, hown, hts⟩ (c_M_isNoType_ok l eD eI ad dC dI s.heap.size mm ms mt mh me th ((.int mo)) ((.ref ma)) x1 (hx10) (hx11)) (cwV 1 hts g_c_M_would_3 rfl rfl rfl (by decide +kernel) ⟨Nat.le_of_ble_eq_true rfl, Nat.le_of_ble_eq_true rfl⟩) (z_preV (wc := [(mm, .inr (21, [.int th, .ref ms, .ref mt, .ref mh, .ref me])), (mt, .inr (1, [.int mo, .ref ma, .int 3]))]) hP hD hK hS hA hE [0, 1] [] rfl (by decide) rfl (ci := 21) (q0 := 0) rfl rfl) rfl rfl hl.1 rfl (lv_room (Nat.le_of_ble_eq_true rfl)) dX19_wouldChoose_3 ⟨Nat.le_of_ble_eq_true rfl, Nat.le_of_ble_eq_true rfl⟩) hP hD hK hS hA [0, 1] [] rfl rfl (by decide) (by decide) (fun r_1 u H locs hw_2 hP hD hK hS => ?_)
  obtain ⟨⟩ := u
  have hP : va_P (dC, dI) vwCl [(mm, .inr (21, [.int th, .ref ms, .ref mt, .ref mh, .ref me])), (mt, .inr (1, [.int mo, .ref ma, .int 3]))] H := hP
  have hD : va_D A [(mm, .inr (21, [.int th, .ref ms, .ref mt, .ref mh, .ref me])), (mt, .inr (1, [.int mo, .ref ma, .int 3]))] := hD
  have hK : va_K (dC, dI) vwCl [(kO, .object "java/lang/Object"), (kT, .object "HornbookModel$Tree")] s := by simpa using hK
  have hw_2 : r_1 = 0 := hw_2
  have hw_2 := hw_2.symm
  subst hw_2
  refine lv_if_ne (tgt := 26) hx hb dX19_wouldChoose_6 (by decide) (fun c_3 => ?_) (fun c_3 => ?_)
  · exact absurd (by decide) c_3
  refine lv_aload_n hx hb dX19_wouldChoose_9 rfl (lv_at hl 0 rfl) ?_
  refine lv_iload_n hx hb dX19_wouldChoose_10 rfl (lv_at hl 3 rfl) ?_
  refine z_i (wr := []) (va_runV (As := [.int x3]) (rest := [.ref mm]) ⟨hx, hb, hml, hown, hts⟩ (c_M_isNoTypeN_lo l eD eI ad dC dI H.size mm ms mt mh me th ((.int mo)) ((.ref ma)) x3 (hx39) (hx31)) (cwV 1 hts g_c_M_would_21 rfl rfl rfl (by decide +kernel) ⟨Nat.le_of_ble_eq_true rfl, Nat.le_of_ble_eq_true rfl⟩) (z_preV (wc := [(mm, .inr (21, [.int th, .ref ms, .ref mt, .ref mh, .ref me])), (mt, .inr (1, [.int mo, .ref ma, .int 3]))]) hP hD hK hS hA hE [0, 1] [] rfl (by decide) rfl (ci := 21) (q0 := 0) rfl rfl) rfl rfl hl.1 rfl (lv_room (Nat.le_of_ble_eq_true rfl)) dX19_wouldChoose_11 ⟨Nat.le_of_ble_eq_true rfl, Nat.le_of_ble_eq_true rfl⟩) hP hD hK hS hA [0, 1] [] rfl rfl (by decide) (by decide) (fun r_4 u H locs hw_5 hP hD hK hS => ?_)
  obtain ⟨⟩ := u
  have hP : va_P (dC, dI) vwCl [(mm, .inr (21, [.int th, .ref ms, .ref mt, .ref mh, .ref me])), (mt, .inr (1, [.int mo, .ref ma, .int 3]))] H := hP
  have hD : va_D A [(mm, .inr (21, [.int th, .ref ms, .ref mt, .ref mh, .ref me])), (mt, .inr (1, [.int mo, .ref ma, .int 3]))] := hD
  have hK : va_K (dC, dI) vwCl [(kO, .object "java/lang/Object"), (kT, .object "HornbookModel$Tree")] s := by simpa using hK
  have hw_5 : r_4 = 1 := hw_5
  have hw_5 := hw_5.symm
  subst hw_5
  refine lv_if_ne (tgt := 26) hx hb dX19_wouldChoose_14 (by decide) (fun c_6 => ?_) (fun c_6 => ?_)
  rotate_left
  · exact absurd c_6 (by decide)
  refine lv_iconst (v := 1) hx hb dX19_wouldChoose_26 (by decide) ?_
  refine lv_goto (tgt := 31) hx hb dX19_wouldChoose_27 (by decide) ?_
  refine lv_iconst (v := 1) hx hb dX19_wouldChoose_31 (by decide) ?_
  refine z_i (wr := [(mt, .inr (1, [.int mo, .ref ma, .int 3]))]) (va_runV (As := [.int 1, .int 1]) (rest := []) ⟨hx, hb, hml, hown, hts⟩ (c_M_start_yes l eD eI ad dC dI H.size mm ((.ref ms)) ((.ref mt)) ((.ref mh)) ((.ref me)) 1 th (by decide)) (cwV 2 hts g_c_M_would_1 rfl rfl rfl (by decide +kernel) ⟨Nat.le_of_ble_eq_true rfl, Nat.le_of_ble_eq_true rfl⟩) (z_preV (wc := [(mm, .inr (21, [.int th, .ref ms, .ref mt, .ref mh, .ref me]))]) hP hD hK hS hA hE [0] [] rfl (by decide) rfl (ci := 21) (q0 := 0) rfl rfl) rfl rfl hl.1 rfl (lv_room (Nat.le_of_ble_eq_true rfl)) dX19_wouldChoose_32 ⟨Nat.le_of_ble_eq_true rfl, Nat.le_of_ble_eq_true rfl⟩) hP hD hK hS hA [0] [1] rfl rfl (by decide) (by decide) (fun r_7 u H locs hw_8 hP hD hK hS => ?_)
  obtain ⟨⟩ := u
  have hP : va_P (dC, dI) vwCl [(mt, .inr (1, [.int mo, .ref ma, .int 3])), (mm, .inr (21, [.int 1, .ref ms, .ref mt, .ref mh, .ref me]))] H := hP
  have hD : va_D A [(mt, .inr (1, [.int mo, .ref ma, .int 3])), (mm, .inr (21, [.int 1, .ref ms, .ref mt, .ref mh, .ref me]))] := hD
  have hK : va_K (dC, dI) vwCl [(kO, .object "java/lang/Object"), (kT, .object "HornbookModel$Tree")] s := by simpa using hK
  have hw_8 : r_7 = 1 := hw_8
  have hw_8 := hw_8.symm
  subst hw_8
  refine lv_if_ne (tgt := 72) hx hb dX19_wouldChoose_35 (by decide) (fun c_9 => ?_) (fun c_9 => ?_)
  rotate_left
  · exact absurd c_9 (by decide)
  refine lv_iconst (v := 0) hx hb dX19_wouldChoose_72 (by decide) ?_
  have hP9 := hP.sub (ws' := [(mm, .inr (21, [.int 1, .ref ms, .ref mt, .ref mh, .ref me]))]) [1] rfl
  have hD9 := hD.sub (ws' := [(mm, .inr (21, [.int 1, .ref ms, .ref mt, .ref mh, .ref me]))]) [1] (by decide) rfl
  have hK9 := hK.sub (tys' := []) [] rfl
  refine W.widen (k := 7) (n := 22) (Nat.le_of_ble_eq_true rfl) (Nat.le_of_ble_eq_true rfl) ?_
  exact W.iret (v := 0) hx hb hr (fun t ht hW => ⟨⟨0, (1, 0), rfl, ⟨rfl, by first | decide | simp [hx10, hx11, hx39, hx31], by first | exact fun h => absurd h (by decide) | exact fun _ => rfl | rfl | decide | simp⟩, ⟨by rw [ht]; exact hP9, va_K.moved hW.alike hK9, hD9⟩⟩, hS.F ht⟩) hS.2.2 dX19_wouldChoose_73

set_option maxHeartbeats 4000000 in
set_option maxRecDepth 100000 in
theorem c_M_would_Bh (l : Launch) (eD eI : Nat) (ad : Nat → Nat) (dC : Nat → ClassId) (dI : Nat → Nat → Nat) (sz : Nat) (mm : Nat) (ms : Nat) (mt : Nat) (mh : Nat) (me : Nat) (mo : Int32) (ma : Nat) (kO : ClassId) (kT : ClassId) (t0 : Nat) (t1 : Nat) (t2 : Nat) (i0 : Nat) (i1 : Nat) (i2 : Nat) (th : Int32) (x1 : Int32) (x2 : Int32) (x3 : Int32) (x4 : Int32) (hx10 : ¬ x1 < 0) (hx11 : ¬ 2 < x1) (hx39 : ¬ x3 = (-1)) (hx30 : ¬ x3 < 0) (hx31 : 2 < x3) : Met l yX19_wouldChoose w_c_M_would ({ frames := 6, cells := 7, slots := 22, locals := 123 }) (va_Pc [.ref mm, .int x1, .int x2, .int x3, .int x4] (zPre eD eI ad (dC, dI) [(mm, .inr (21, [.int th, .ref ms, .ref mt, .ref mh, .ref me])), (ms, .inr (1, [.int 0, .ref eD, .int 0])), (mt, .inr (1, [.int mo, .ref ma, .int 3])), (mh, .inr (1, [.int 0, .ref eD, .int 0])), (me, .inr (1, [.int 0, .ref eD, .int 0])), (ma, .inl (kO, 10, .inr (.inr (.inr (.inr (zfT t0 t1 t2)))))), (t0, .inr (18, [.int (-1), .ref i0])), (t1, .inr (18, [.int (-2), .ref i1])), (t2, .inr (18, [.int (-3), .ref i2])), (i0, .inl (kT, 0, .inr (.inr (.inr (.inr (fun _ => none)))))), (i1, .inl (kT, 0, .inr (.inr (.inr (.inr (fun _ => none)))))), (i2, .inl (kT, 0, .inr (.inr (.inr (.inr (fun _ => none))))))] [(kO, .object "java/lang/Object"), (kT, .object "HornbookModel$Tree")] sz)) (va_Qi (fun (r : Int32) (u : Int32 × Int32) => match u with | (th2, v2) => r = v2 ∧ th2 = (if x1 < 0 ∨ 2 < x1 then 1 else if ¬ x3 = (-1) ∧ (x3 < 0 ∨ 2 < x3) then 1 else if ¬ x4 = (-1) ∧ (x4 < 0 ∨ 2 < x4) then 1 else if x2 < 0 ∨ 9 < x2 then 2 else if x3 = (-1) ∧ ¬ x4 = (-1) then 2 else if x1 = 2 ∨ x3 = 2 ∨ x4 = 2 then 2 else 0) ∧ (th2 = 0 → v2 = (-1))) (fun (u : Int32 × Int32) => match u with | (th2, v2) => zEnd (dC, dI) (va_A [(mm, .inr (21, [.int th, .ref ms, .ref mt, .ref mh, .ref me])), (ms, .inr (1, [.int 0, .ref eD, .int 0])), (mt, .inr (1, [.int mo, .ref ma, .int 3])), (mh, .inr (1, [.int 0, .ref eD, .int 0])), (me, .inr (1, [.int 0, .ref eD, .int 0])), (ma, .inl (kO, 10, .inr (.inr (.inr (.inr (zfT t0 t1 t2)))))), (t0, .inr (18, [.int (-1), .ref i0])), (t1, .inr (18, [.int (-2), .ref i1])), (t2, .inr (18, [.int (-3), .ref i2])), (i0, .inl (kT, 0, .inr (.inr (.inr (.inr (fun _ => none)))))), (i1, .inl (kT, 0, .inr (.inr (.inr (.inr (fun _ => none)))))), (i2, .inl (kT, 0, .inr (.inr (.inr (.inr (fun _ => none))))))] sz) [(mm, .inr (21, [.int th2, .ref ms, .ref mt, .ref mh, .ref me]))] []) (va_A [(mm, .inr (21, [.int th, .ref ms, .ref mt, .ref mh, .ref me])), (ms, .inr (1, [.int 0, .ref eD, .int 0])), (mt, .inr (1, [.int mo, .ref ma, .int 3])), (mh, .inr (1, [.int 0, .ref eD, .int 0])), (me, .inr (1, [.int 0, .ref eD, .int 0])), (ma, .inl (kO, 10, .inr (.inr (.inr (.inr (zfT t0 t1 t2)))))), (t0, .inr (18, [.int (-1), .ref i0])), (t1, .inr (18, [.int (-2), .ref i1])), (t2, .inr (18, [.int (-3), .ref i2])), (i0, .inl (kT, 0, .inr (.inr (.inr (.inr (fun _ => none)))))), (i1, .inl (kT, 0, .inr (.inr (.inr (.inr (fun _ => none)))))), (i2, .inl (kT, 0, .inr (.inr (.inr (.inr (fun _ => none))))))] sz)) 7 22 (va_A [(mm, .inr (21, [.int th, .ref ms, .ref mt, .ref mh, .ref me])), (ms, .inr (1, [.int 0, .ref eD, .int 0])), (mt, .inr (1, [.int mo, .ref ma, .int 3])), (mh, .inr (1, [.int 0, .ref eD, .int 0])), (me, .inr (1, [.int 0, .ref eD, .int 0])), (ma, .inl (kO, 10, .inr (.inr (.inr (.inr (zfT t0 t1 t2)))))), (t0, .inr (18, [.int (-1), .ref i0])), (t1, .inr (18, [.int (-2), .ref i1])), (t2, .inr (18, [.int (-3), .ref i2])), (i0, .inl (kT, 0, .inr (.inr (.inr (.inr (fun _ => none)))))), (i1, .inl (kT, 0, .inr (.inr (.inr (.inr (fun _ => none)))))), (i2, .inl (kT, 0, .inr (.inr (.inr (.inr (fun _ => none))))))] sz) := by
  refine Met.ofW (cc := cX19_wouldChoose) (maxL := 11) (ret := (some .int)) (by decide) rfl ?_
  intro p e s m args below meth c s₁ B hml hv
  obtain ⟨rfl, hsz, hP, hK, hD0, hE⟩ := hv
  have hx := B.exec
  have hb := B.bytes
  have hr := B.returns
  have hts := atoms_spec (ws := w_c_M_would) B.pre
  have hown : s.vm.findClass RX19 = some m.cls := findClass_of_methodNamed B.named
  have hlocks := B.notSynchronized
  subst hsz
  have hD := hD0.self (sz := s.heap.size)
  generalize hAe : va_A [(mm, .inr (21, [.int th, .ref ms, .ref mt, .ref mh, .ref me])), (ms, .inr (1, [.int 0, .ref eD, .int 0])), (mt, .inr (1, [.int mo, .ref ma, .int 3])), (mh, .inr (1, [.int 0, .ref eD, .int 0])), (me, .inr (1, [.int 0, .ref eD, .int 0])), (ma, .inl (kO, 10, .inr (.inr (.inr (.inr (zfT t0 t1 t2)))))), (t0, .inr (18, [.int (-1), .ref i0])), (t1, .inr (18, [.int (-2), .ref i1])), (t2, .inr (18, [.int (-3), .ref i2])), (i0, .inl (kT, 0, .inr (.inr (.inr (.inr (fun _ => none)))))), (i1, .inl (kT, 0, .inr (.inr (.inr (.inr (fun _ => none)))))), (i2, .inl (kT, 0, .inr (.inr (.inr (.inr (fun _ => none))))))] s.heap.size = A at hD hE ⊢
  have hA : ∀ q : Nat, s.heap.size ≤ q → A q := fun q h => by rw [← hAe]; exact Or.inr h
  have hS : va_S A s.heap s.heap [] := va_S.rf
  have hP : va_P (dC, dI) vwCl [(mm, .inr (21, [.int th, .ref ms, .ref mt, .ref mh, .ref me])), (ms, .inr (1, [.int 0, .ref eD, .int 0])), (mt, .inr (1, [.int mo, .ref ma, .int 3])), (mh, .inr (1, [.int 0, .ref eD, .int 0])), (me, .inr (1, [.int 0, .ref eD, .int 0])), (ma, .inl (kO, 10, .inr (.inr (.inr (.inr (zfT t0 t1 t2)))))), (t0, .inr (18, [.int (-1), .ref i0])), (t1, .inr (18, [.int (-2), .ref i1])), (t2, .inr (18, [.int (-3), .ref i2])), (i0, .inl (kT, 0, .inr (.inr (.inr (.inr (fun _ => none)))))), (i1, .inl (kT, 0, .inr (.inr (.inr (.inr (fun _ => none)))))), (i2, .inl (kT, 0, .inr (.inr (.inr (.inr (fun _ => none))))))] s.heap := hP
  have hl := lv_entry ([.ref mm, .int x1, .int x2, .int x3, .int x4]) (n := 11) (Nat.le_of_ble_eq_true rfl)
  rw [lg_entry_eq]
  generalize (lg_sl ([.ref mm, .int x1, .int x2, .int x3, .int x4]) ++ List.replicate (11 - (lg_sl ([.ref mm, .int x1, .int x2, .int x3, .int x4])).length) Slot.unset).toArray = ls at hl ⊢
  have hl : lv_has ls 11 [(0, .ref mm), (1, .int x1), (2, .int x2), (3, .int x3), (4, .int x4)] := hl
  have hP := hP.sub (ws' := [(mm, .inr (21, [.int th, .ref ms, .ref mt, .ref mh, .ref me])), (mt, .inr (1, [.int mo, .ref ma, .int 3]))]) [0, 2] rfl
  have hD := hD.sub (ws' := [(mm, .inr (21, [.int th, .ref ms, .ref mt, .ref mh, .ref me])), (mt, .inr (1, [.int mo, .ref ma, .int 3]))]) [0, 2] (by decide) rfl
  refine lv_aload_n hx hb dX19_wouldChoose_0 rfl (lv_at hl 0 rfl) ?_
  refine lv_aload_n hx hb dX19_wouldChoose_1 rfl (lv_at hl 0 rfl) ?_
  refine lv_iload_n hx hb dX19_wouldChoose_2 rfl (lv_at hl 1 rfl) ?_
  refine z_i (wr := []) (va_runV (As := [.int x1]) (rest := [.ref mm]) ⟨hx, hb, hml, hown, hts⟩ (c_M_isNoType_ok l eD eI ad dC dI s.heap.size mm ms mt mh me th ((.int mo)) ((.ref ma)) x1 (hx10) (hx11)) (cwV 1 hts g_c_M_would_3 rfl rfl rfl (by decide +kernel) ⟨Nat.le_of_ble_eq_true rfl, Nat.le_of_ble_eq_true rfl⟩) (z_preV (wc := [(mm, .inr (21, [.int th, .ref ms, .ref mt, .ref mh, .ref me])), (mt, .inr (1, [.int mo, .ref ma, .int 3]))]) hP hD hK hS hA hE [0, 1] [] rfl (by decide) rfl (ci := 21) (q0 := 0) rfl rfl) rfl rfl hl.1 rfl (lv_room (Nat.le_of_ble_eq_true rfl)) dX19_wouldChoose_3 ⟨Nat.le_of_ble_eq_true rfl, Nat.le_of_ble_eq_true rfl⟩) hP hD hK hS hA [0, 1] [] rfl rfl (by decide) (by decide) (fun r_1 u H locs hw_2 hP hD hK hS => ?_)
  obtain ⟨⟩ := u
  have hP : va_P (dC, dI) vwCl [(mm, .inr (21, [.int th, .ref ms, .ref mt, .ref mh, .ref me])), (mt, .inr (1, [.int mo, .ref ma, .int 3]))] H := hP
  have hD : va_D A [(mm, .inr (21, [.int th, .ref ms, .ref mt, .ref mh, .ref me])), (mt, .inr (1, [.int mo, .ref ma, .int 3]))] := hD
  have hK : va_K (dC, dI) vwCl [(kO, .object "java/lang/Object"), (kT, .object "HornbookModel$Tree")] s := by simpa using hK
  have hw_2 : r_1 = 0 := hw_2
  have hw_2 := hw_2.symm
  subst hw_2
  refine lv_if_ne (tgt := 26) hx hb dX19_wouldChoose_6 (by decide) (fun c_3 => ?_) (fun c_3 => ?_)
  · exact absurd (by decide) c_3
  refine lv_aload_n hx hb dX19_wouldChoose_9 rfl (lv_at hl 0 rfl) ?_
  refine lv_iload_n hx hb dX19_wouldChoose_10 rfl (lv_at hl 3 rfl) ?_
  refine z_i (wr := []) (va_runV (As := [.int x3]) (rest := [.ref mm]) ⟨hx, hb, hml, hown, hts⟩ (c_M_isNoTypeN_hi l eD eI ad dC dI H.size mm ms mt mh me th ((.int mo)) ((.ref ma)) x3 (hx39) (hx30) (hx31)) (cwV 1 hts g_c_M_would_22 rfl rfl rfl (by decide +kernel) ⟨Nat.le_of_ble_eq_true rfl, Nat.le_of_ble_eq_true rfl⟩) (z_preV (wc := [(mm, .inr (21, [.int th, .ref ms, .ref mt, .ref mh, .ref me])), (mt, .inr (1, [.int mo, .ref ma, .int 3]))]) hP hD hK hS hA hE [0, 1] [] rfl (by decide) rfl (ci := 21) (q0 := 0) rfl rfl) rfl rfl hl.1 rfl (lv_room (Nat.le_of_ble_eq_true rfl)) dX19_wouldChoose_11 ⟨Nat.le_of_ble_eq_true rfl, Nat.le_of_ble_eq_true rfl⟩) hP hD hK hS hA [0, 1] [] rfl rfl (by decide) (by decide) (fun r_4 u H locs hw_5 hP hD hK hS => ?_)
  obtain ⟨⟩ := u
  have hP : va_P (dC, dI) vwCl [(mm, .inr (21, [.int th, .ref ms, .ref mt, .ref mh, .ref me])), (mt, .inr (1, [.int mo, .ref ma, .int 3]))] H := hP
  have hD : va_D A [(mm, .inr (21, [.int th, .ref ms, .ref mt, .ref mh, .ref me])), (mt, .inr (1, [.int mo, .ref ma, .int 3]))] := hD
  have hK : va_K (dC, dI) vwCl [(kO, .object "java/lang/Object"), (kT, .object "HornbookModel$Tree")] s := by simpa using hK
  have hw_5 : r_4 = 1 := hw_5
  have hw_5 := hw_5.symm
  subst hw_5
  refine lv_if_ne (tgt := 26) hx hb dX19_wouldChoose_14 (by decide) (fun c_6 => ?_) (fun c_6 => ?_)
  rotate_left
  · exact absurd c_6 (by decide)
  refine lv_iconst (v := 1) hx hb dX19_wouldChoose_26 (by decide) ?_
  refine lv_goto (tgt := 31) hx hb dX19_wouldChoose_27 (by decide) ?_
  refine lv_iconst (v := 1) hx hb dX19_wouldChoose_31 (by decide) ?_
  refine z_i (wr := [(mt, .inr (1, [.int mo, .ref ma, .int 3]))]) (va_runV (As := [.int 1, .int 1]) (rest := []) ⟨hx, hb, hml, hown, hts⟩ (c_M_start_yes l eD eI ad dC dI H.size mm ((.ref ms)) ((.ref mt)) ((.ref mh)) ((.ref me)) 1 th (by decide)) (cwV 2 hts g_c_M_would_1 rfl rfl rfl (by decide +kernel) ⟨Nat.le_of_ble_eq_true rfl, Nat.le_of_ble_eq_true rfl⟩) (z_preV (wc := [(mm, .inr (21, [.int th, .ref ms, .ref mt, .ref mh, .ref me]))]) hP hD hK hS hA hE [0] [] rfl (by decide) rfl (ci := 21) (q0 := 0) rfl rfl) rfl rfl hl.1 rfl (lv_room (Nat.le_of_ble_eq_true rfl)) dX19_wouldChoose_32 ⟨Nat.le_of_ble_eq_true rfl, Nat.le_of_ble_eq_true rfl⟩) hP hD hK hS hA [0] [1] rfl rfl (by decide) (by decide) (fun r_7 u H locs hw_8 hP hD hK hS => ?_)
  obtain ⟨⟩ := u
  have hP : va_P (dC, dI) vwCl [(mt, .inr (1, [.int mo, .ref ma, .int 3])), (mm, .inr (21, [.int 1, .ref ms, .ref mt, .ref mh, .ref me]))] H := hP
  have hD : va_D A [(mt, .inr (1, [.int mo, .ref ma, .int 3])), (mm, .inr (21, [.int 1, .ref ms, .ref mt, .ref mh, .ref me]))] := hD
  have hK : va_K (dC, dI) vwCl [(kO, .object "java/lang/Object"), (kT, .object "HornbookModel$Tree")] s := by simpa using hK
  have hw_8 : r_7 = 1 := hw_8
  have hw_8 := hw_8.symm
  subst hw_8
  refine lv_if_ne (tgt := 72) hx hb dX19_wouldChoose_35 (by decide) (fun c_9 => ?_) (fun c_9 => ?_)
  rotate_left
  · exact absurd c_9 (by decide)
  refine lv_iconst (v := 0) hx hb dX19_wouldChoose_72 (by decide) ?_
  have hP9 := hP.sub (ws' := [(mm, .inr (21, [.int 1, .ref ms, .ref mt, .ref mh, .ref me]))]) [1] rfl
  have hD9 := hD.sub (ws' := [(mm, .inr (21, [.int 1, .ref ms, .ref mt, .ref mh, .ref me]))]) [1] (by decide) rfl
  have hK9 := hK.sub (tys' := []) [] rfl
  refine W.widen (k := 7) (n := 22) (Nat.le_of_ble_eq_true rfl) (Nat.le_of_ble_eq_true rfl) ?_
  exact W.iret (v := 0) hx hb hr (fun t ht hW => ⟨⟨0, (1, 0), rfl, ⟨rfl, by first | decide | simp [hx10, hx11, hx39, hx30, hx31], by first | exact fun h => absurd h (by decide) | exact fun _ => rfl | rfl | decide | simp⟩, ⟨by rw [ht]; exact hP9, va_K.moved hW.alike hK9, hD9⟩⟩, hS.F ht⟩) hS.2.2 dX19_wouldChoose_73

set_option maxHeartbeats 4000000 in
set_option maxRecDepth 100000 in
theorem c_M_would_Dknl (l : Launch) (eD eI : Nat) (ad : Nat → Nat) (dC : Nat → ClassId) (dI : Nat → Nat → Nat) (sz : Nat) (mm : Nat) (ms : Nat) (mt : Nat) (mh : Nat) (me : Nat) (mo : Int32) (ma : Nat) (kO : ClassId) (kT : ClassId) (t0 : Nat) (t1 : Nat) (t2 : Nat) (i0 : Nat) (i1 : Nat) (i2 : Nat) (th : Int32) (x1 : Int32) (x2 : Int32) (x3 : Int32) (hx10 : ¬ x1 < 0) (hx11 : ¬ 2 < x1) (hx39 : ¬ x3 = (-1)) (hx30 : ¬ x3 < 0) (hx31 : ¬ 2 < x3) (hx21 : x2 < 0) : Met l yX19_wouldChoose w_c_M_would ({ frames := 6, cells := 7, slots := 22, locals := 123 }) (va_Pc [.ref mm, .int x1, .int x2, .int x3, .int (-1)] (zPre eD eI ad (dC, dI) [(mm, .inr (21, [.int th, .ref ms, .ref mt, .ref mh, .ref me])), (ms, .inr (1, [.int 0, .ref eD, .int 0])), (mt, .inr (1, [.int mo, .ref ma, .int 3])), (mh, .inr (1, [.int 0, .ref eD, .int 0])), (me, .inr (1, [.int 0, .ref eD, .int 0])), (ma, .inl (kO, 10, .inr (.inr (.inr (.inr (zfT t0 t1 t2)))))), (t0, .inr (18, [.int (-1), .ref i0])), (t1, .inr (18, [.int (-2), .ref i1])), (t2, .inr (18, [.int (-3), .ref i2])), (i0, .inl (kT, 0, .inr (.inr (.inr (.inr (fun _ => none)))))), (i1, .inl (kT, 0, .inr (.inr (.inr (.inr (fun _ => none)))))), (i2, .inl (kT, 0, .inr (.inr (.inr (.inr (fun _ => none))))))] [(kO, .object "java/lang/Object"), (kT, .object "HornbookModel$Tree")] sz)) (va_Qi (fun (r : Int32) (u : Int32 × Int32) => match u with | (th2, v2) => r = v2 ∧ th2 = (if x1 < 0 ∨ 2 < x1 then 1 else if ¬ x3 = (-1) ∧ (x3 < 0 ∨ 2 < x3) then 1 else if ¬ (-1 : Int32) = (-1) ∧ ((-1 : Int32) < 0 ∨ 2 < (-1 : Int32)) then 1 else if x2 < 0 ∨ 9 < x2 then 2 else if x3 = (-1) ∧ ¬ (-1 : Int32) = (-1) then 2 else if x1 = 2 ∨ x3 = 2 ∨ (-1 : Int32) = 2 then 2 else 0) ∧ (th2 = 0 → v2 = (-1))) (fun (u : Int32 × Int32) => match u with | (th2, v2) => zEnd (dC, dI) (va_A [(mm, .inr (21, [.int th, .ref ms, .ref mt, .ref mh, .ref me])), (ms, .inr (1, [.int 0, .ref eD, .int 0])), (mt, .inr (1, [.int mo, .ref ma, .int 3])), (mh, .inr (1, [.int 0, .ref eD, .int 0])), (me, .inr (1, [.int 0, .ref eD, .int 0])), (ma, .inl (kO, 10, .inr (.inr (.inr (.inr (zfT t0 t1 t2)))))), (t0, .inr (18, [.int (-1), .ref i0])), (t1, .inr (18, [.int (-2), .ref i1])), (t2, .inr (18, [.int (-3), .ref i2])), (i0, .inl (kT, 0, .inr (.inr (.inr (.inr (fun _ => none)))))), (i1, .inl (kT, 0, .inr (.inr (.inr (.inr (fun _ => none)))))), (i2, .inl (kT, 0, .inr (.inr (.inr (.inr (fun _ => none))))))] sz) [(mm, .inr (21, [.int th2, .ref ms, .ref mt, .ref mh, .ref me]))] []) (va_A [(mm, .inr (21, [.int th, .ref ms, .ref mt, .ref mh, .ref me])), (ms, .inr (1, [.int 0, .ref eD, .int 0])), (mt, .inr (1, [.int mo, .ref ma, .int 3])), (mh, .inr (1, [.int 0, .ref eD, .int 0])), (me, .inr (1, [.int 0, .ref eD, .int 0])), (ma, .inl (kO, 10, .inr (.inr (.inr (.inr (zfT t0 t1 t2)))))), (t0, .inr (18, [.int (-1), .ref i0])), (t1, .inr (18, [.int (-2), .ref i1])), (t2, .inr (18, [.int (-3), .ref i2])), (i0, .inl (kT, 0, .inr (.inr (.inr (.inr (fun _ => none)))))), (i1, .inl (kT, 0, .inr (.inr (.inr (.inr (fun _ => none)))))), (i2, .inl (kT, 0, .inr (.inr (.inr (.inr (fun _ => none))))))] sz)) 7 22 (va_A [(mm, .inr (21, [.int th, .ref ms, .ref mt, .ref mh, .ref me])), (ms, .inr (1, [.int 0, .ref eD, .int 0])), (mt, .inr (1, [.int mo, .ref ma, .int 3])), (mh, .inr (1, [.int 0, .ref eD, .int 0])), (me, .inr (1, [.int 0, .ref eD, .int 0])), (ma, .inl (kO, 10, .inr (.inr (.inr (.inr (zfT t0 t1 t2)))))), (t0, .inr (18, [.int (-1), .ref i0])), (t1, .inr (18, [.int (-2), .ref i1])), (t2, .inr (18, [.int (-3), .ref i2])), (i0, .inl (kT, 0, .inr (.inr (.inr (.inr (fun _ => none)))))), (i1, .inl (kT, 0, .inr (.inr (.inr (.inr (fun _ => none)))))), (i2, .inl (kT, 0, .inr (.inr (.inr (.inr (fun _ => none))))))] sz) := by
  refine Met.ofW (cc := cX19_wouldChoose) (maxL := 11) (ret := (some .int)) (by decide) rfl ?_
  intro p e s m args below meth c s₁ B hml hv
  obtain ⟨rfl, hsz, hP, hK, hD0, hE⟩ := hv
  have hx := B.exec
  have hb := B.bytes
  have hr := B.returns
  have hts := atoms_spec (ws := w_c_M_would) B.pre
  have hown : s.vm.findClass RX19 = some m.cls := findClass_of_methodNamed B.named
  have hlocks := B.notSynchronized
  subst hsz
  have hD := hD0.self (sz := s.heap.size)
  generalize hAe : va_A [(mm, .inr (21, [.int th, .ref ms, .ref mt, .ref mh, .ref me])), (ms, .inr (1, [.int 0, .ref eD, .int 0])), (mt, .inr (1, [.int mo, .ref ma, .int 3])), (mh, .inr (1, [.int 0, .ref eD, .int 0])), (me, .inr (1, [.int 0, .ref eD, .int 0])), (ma, .inl (kO, 10, .inr (.inr (.inr (.inr (zfT t0 t1 t2)))))), (t0, .inr (18, [.int (-1), .ref i0])), (t1, .inr (18, [.int (-2), .ref i1])), (t2, .inr (18, [.int (-3), .ref i2])), (i0, .inl (kT, 0, .inr (.inr (.inr (.inr (fun _ => none)))))), (i1, .inl (kT, 0, .inr (.inr (.inr (.inr (fun _ => none)))))), (i2, .inl (kT, 0, .inr (.inr (.inr (.inr (fun _ => none))))))] s.heap.size = A at hD hE ⊢
  have hA : ∀ q : Nat, s.heap.size ≤ q → A q := fun q h => by rw [← hAe]; exact Or.inr h
  have hS : va_S A s.heap s.heap [] := va_S.rf
  have hP : va_P (dC, dI) vwCl [(mm, .inr (21, [.int th, .ref ms, .ref mt, .ref mh, .ref me])), (ms, .inr (1, [.int 0, .ref eD, .int 0])), (mt, .inr (1, [.int mo, .ref ma, .int 3])), (mh, .inr (1, [.int 0, .ref eD, .int 0])), (me, .inr (1, [.int 0, .ref eD, .int 0])), (ma, .inl (kO, 10, .inr (.inr (.inr (.inr (zfT t0 t1 t2)))))), (t0, .inr (18, [.int (-1), .ref i0])), (t1, .inr (18, [.int (-2), .ref i1])), (t2, .inr (18, [.int (-3), .ref i2])), (i0, .inl (kT, 0, .inr (.inr (.inr (.inr (fun _ => none)))))), (i1, .inl (kT, 0, .inr (.inr (.inr (.inr (fun _ => none)))))), (i2, .inl (kT, 0, .inr (.inr (.inr (.inr (fun _ => none))))))] s.heap := hP
  have hl := lv_entry ([.ref mm, .int x1, .int x2, .int x3, .int (-1)]) (n := 11) (Nat.le_of_ble_eq_true rfl)
  rw [lg_entry_eq]
  generalize (lg_sl ([.ref mm, .int x1, .int x2, .int x3, .int (-1)]) ++ List.replicate (11 - (lg_sl ([.ref mm, .int x1, .int x2, .int x3, .int (-1)])).length) Slot.unset).toArray = ls at hl ⊢
  have hl : lv_has ls 11 [(0, .ref mm), (1, .int x1), (2, .int x2), (3, .int x3), (4, .int (-1))] := hl
  have hP := hP.sub (ws' := [(mm, .inr (21, [.int th, .ref ms, .ref mt, .ref mh, .ref me])), (mt, .inr (1, [.int mo, .ref ma, .int 3]))]) [0, 2] rfl
  have hD := hD.sub (ws' := [(mm, .inr (21, [.int th, .ref ms, .ref mt, .ref mh, .ref me])), (mt, .inr (1, [.int mo, .ref ma, .int 3]))]) [0, 2] (by decide) rfl
  refine lv_aload_n hx hb dX19_wouldChoose_0 rfl (lv_at hl 0 rfl) ?_
  refine lv_aload_n hx hb dX19_wouldChoose_1 rfl (lv_at hl 0 rfl) ?_
  refine lv_iload_n hx hb dX19_wouldChoose_2 rfl (lv_at hl 1 rfl) ?_
  refine z_i (wr := []) (va_runV (As := [.int x1]) (rest := [.ref mm]) ⟨hx, hb, hml, hown, hts⟩ (c_M_isNoType_ok l eD eI ad dC dI s.heap.size mm ms mt mh me th ((.int mo)) ((.ref ma)) x1 (hx10) (hx11)) (cwV 1 hts g_c_M_would_3 rfl rfl rfl (by decide +kernel) ⟨Nat.le_of_ble_eq_true rfl, Nat.le_of_ble_eq_true rfl⟩) (z_preV (wc := [(mm, .inr (21, [.int th, .ref ms, .ref mt, .ref mh, .ref me])), (mt, .inr (1, [.int mo, .ref ma, .int 3]))]) hP hD hK hS hA hE [0, 1] [] rfl (by decide) rfl (ci := 21) (q0 := 0) rfl rfl) rfl rfl hl.1 rfl (lv_room (Nat.le_of_ble_eq_true rfl)) dX19_wouldChoose_3 ⟨Nat.le_of_ble_eq_true rfl, Nat.le_of_ble_eq_true rfl⟩) hP hD hK hS hA [0, 1] [] rfl rfl (by decide) (by decide) (fun r_1 u H locs hw_2 hP hD hK hS => ?_)
  obtain ⟨⟩ := u
  have hP : va_P (dC, dI) vwCl [(mm, .inr (21, [.int th, .ref ms, .ref mt, .ref mh, .ref me])), (mt, .inr (1, [.int mo, .ref ma, .int 3]))] H := hP
  have hD : va_D A [(mm, .inr (21, [.int th, .ref ms, .ref mt, .ref mh, .ref me])), (mt, .inr (1, [.int mo, .ref ma, .int 3]))] := hD
  have hK : va_K (dC, dI) vwCl [(kO, .object "java/lang/Object"), (kT, .object "HornbookModel$Tree")] s := by simpa using hK
  have hw_2 : r_1 = 0 := hw_2
  have hw_2 := hw_2.symm
  subst hw_2
  refine lv_if_ne (tgt := 26) hx hb dX19_wouldChoose_6 (by decide) (fun c_3 => ?_) (fun c_3 => ?_)
  · exact absurd (by decide) c_3
  refine lv_aload_n hx hb dX19_wouldChoose_9 rfl (lv_at hl 0 rfl) ?_
  refine lv_iload_n hx hb dX19_wouldChoose_10 rfl (lv_at hl 3 rfl) ?_
  refine z_i (wr := []) (va_runV (As := [.int x3]) (rest := [.ref mm]) ⟨hx, hb, hml, hown, hts⟩ (c_M_isNoTypeN_ok l eD eI ad dC dI H.size mm ms mt mh me th ((.int mo)) ((.ref ma)) x3 (hx39) (hx30) (hx31)) (cwV 1 hts g_c_M_would_23 rfl rfl rfl (by decide +kernel) ⟨Nat.le_of_ble_eq_true rfl, Nat.le_of_ble_eq_true rfl⟩) (z_preV (wc := [(mm, .inr (21, [.int th, .ref ms, .ref mt, .ref mh, .ref me])), (mt, .inr (1, [.int mo, .ref ma, .int 3]))]) hP hD hK hS hA hE [0, 1] [] rfl (by decide) rfl (ci := 21) (q0 := 0) rfl rfl) rfl rfl hl.1 rfl (lv_room (Nat.le_of_ble_eq_true rfl)) dX19_wouldChoose_11 ⟨Nat.le_of_ble_eq_true rfl, Nat.le_of_ble_eq_true rfl⟩) hP hD hK hS hA [0, 1] [] rfl rfl (by decide) (by decide) (fun r_4 u H locs hw_5 hP hD hK hS => ?_)
  obtain ⟨⟩ := u
  have hP : va_P (dC, dI) vwCl [(mm, .inr (21, [.int th, .ref ms, .ref mt, .ref mh, .ref me])), (mt, .inr (1, [.int mo, .ref ma, .int 3]))] H := hP
  have hD : va_D A [(mm, .inr (21, [.int th, .ref ms, .ref mt, .ref mh, .ref me])), (mt, .inr (1, [.int mo, .ref ma, .int 3]))] := hD
  have hK : va_K (dC, dI) vwCl [(kO, .object "java/lang/Object"), (kT, .object "HornbookModel$Tree")] s := by simpa using hK
  have hw_5 : r_4 = 0 := hw_5
  have hw_5 := hw_5.symm
  subst hw_5
  refine lv_if_ne (tgt := 26) hx hb dX19_wouldChoose_14 (by decide) (fun c_6 => ?_) (fun c_6 => ?_)
  · exact absurd (by decide) c_6
  refine lv_aload_n hx hb dX19_wouldChoose_17 rfl (lv_at hl 0 rfl) ?_
  refine lv_iload hx hb dX19_wouldChoose_18 (lv_at hl 4 rfl) ?_
  refine z_i (wr := []) (va_runV (As := [.int (-1)]) (rest := [.ref mm]) ⟨hx, hb, hml, hown, hts⟩ (c_M_isNoTypeN_none l eD eI ad dC dI H.size mm ms mt mh me th ((.int mo)) ((.ref ma))) (cwV 1 hts g_c_M_would_4 rfl rfl rfl (by decide +kernel) ⟨Nat.le_of_ble_eq_true rfl, Nat.le_of_ble_eq_true rfl⟩) (z_preV (wc := [(mm, .inr (21, [.int th, .ref ms, .ref mt, .ref mh, .ref me])), (mt, .inr (1, [.int mo, .ref ma, .int 3]))]) hP hD hK hS hA hE [0, 1] [] rfl (by decide) rfl (ci := 21) (q0 := 0) rfl rfl) rfl rfl hl.1 rfl (lv_room (Nat.le_of_ble_eq_true rfl)) dX19_wouldChoose_20 ⟨Nat.le_of_ble_eq_true rfl, Nat.le_of_ble_eq_true rfl⟩) hP hD hK hS hA [0, 1] [] rfl rfl (by decide) (by decide) (fun r_7 u H locs hw_8 hP hD hK hS => ?_)
  obtain ⟨⟩ := u
  have hP : va_P (dC, dI) vwCl [(mm, .inr (21, [.int th, .ref ms, .ref mt, .ref mh, .ref me])), (mt, .inr (1, [.int mo, .ref ma, .int 3]))] H := hP
  have hD : va_D A [(mm, .inr (21, [.int th, .ref ms, .ref mt, .ref mh, .ref me])), (mt, .inr (1, [.int mo, .ref ma, .int 3]))] := hD
  have hK : va_K (dC, dI) vwCl [(kO, .object "java/lang/Object"), (kT, .object "HornbookModel$Tree")] s := by simpa using hK
  have hw_8 : r_7 = 0 := hw_8
  have hw_8 := hw_8.symm
  subst hw_8
  refine lv_if_eq (tgt := 30) hx hb dX19_wouldChoose_23 (by decide) (fun c_9 => ?_) (fun c_9 => ?_)
  rotate_left
  · exact absurd (by decide) c_9
  refine lv_iconst (v := 0) hx hb dX19_wouldChoose_30 (by decide) ?_
  refine lv_iconst (v := 1) hx hb dX19_wouldChoose_31 (by decide) ?_
  refine z_i (wr := [(mt, .inr (1, [.int mo, .ref ma, .int 3]))]) (va_runV (As := [.int 0, .int 1]) (rest := []) ⟨hx, hb, hml, hown, hts⟩ (c_M_start_no l eD eI ad dC dI H.size mm ((.ref ms)) ((.ref mt)) ((.ref mh)) ((.ref me)) 1 th) (cwV 2 hts g_c_M_would_5 rfl rfl rfl (by decide +kernel) ⟨Nat.le_of_ble_eq_true rfl, Nat.le_of_ble_eq_true rfl⟩) (z_preV (wc := [(mm, .inr (21, [.int th, .ref ms, .ref mt, .ref mh, .ref me]))]) hP hD hK hS hA hE [0] [] rfl (by decide) rfl (ci := 21) (q0 := 0) rfl rfl) rfl rfl hl.1 rfl (lv_room (Nat.le_of_ble_eq_true rfl)) dX19_wouldChoose_32 ⟨Nat.le_of_ble_eq_true rfl, Nat.le_of_ble_eq_true rfl⟩) hP hD hK hS hA [0] [1] rfl rfl (by decide) (by decide) (fun r_10 u H locs hw_11 hP hD hK hS => ?_)
  obtain ⟨⟩ := u
  have hP : va_P (dC, dI) vwCl [(mt, .inr (1, [.int mo, .ref ma, .int 3])), (mm, .inr (21, [.int 0, .ref ms, .ref mt, .ref mh, .ref me]))] H := hP
  have hD : va_D A [(mt, .inr (1, [.int mo, .ref ma, .int 3])), (mm, .inr (21, [.int 0, .ref ms, .ref mt, .ref mh, .ref me]))] := hD
  have hK : va_K (dC, dI) vwCl [(kO, .object "java/lang/Object"), (kT, .object "HornbookModel$Tree")] s := by simpa using hK
  have hw_11 : r_10 = 0 := hw_11
  have hw_11 := hw_11.symm
  subst hw_11
  refine lv_if_ne (tgt := 72) hx hb dX19_wouldChoose_35 (by decide) (fun c_12 => ?_) (fun c_12 => ?_)
  · exact absurd (by decide) c_12
  refine lv_aload_n hx hb dX19_wouldChoose_38 rfl (lv_at hl 0 rfl) ?_
  refine lv_iload_n hx hb dX19_wouldChoose_39 rfl (lv_at hl 2 rfl) ?_
  refine lv_iconst (v := 0) hx hb dX19_wouldChoose_40 (by decide) ?_
  refine lv_bipush (v := 9) hx hb dX19_wouldChoose_41 (by decide) ?_
  refine z_i (wr := [(mt, .inr (1, [.int mo, .ref ma, .int 3])), (mm, .inr (21, [.int 0, .ref ms, .ref mt, .ref mh, .ref me]))]) (va_runS (As := [.int x2, .int 0, .int 9]) (rest := [.ref mm]) ⟨hx, hb, hml, hown, hts⟩ (c_M_isIn_lo l eD eI ad dC dI H.size x2 0 9 (hx21)) (va_cwS 3 hts g_c_M_would_6 rfl rfl rfl (by decide +kernel) ⟨Nat.le_of_ble_eq_true rfl, Nat.le_of_ble_eq_true rfl⟩) (z_preS (wc := []) hP hD hK hS hA hE [] [] rfl (by decide) rfl) rfl rfl hl.1 rfl (lv_room (Nat.le_of_ble_eq_true rfl)) dX19_wouldChoose_43 ⟨Nat.le_of_ble_eq_true rfl, Nat.le_of_ble_eq_true rfl⟩) hP hD hK hS hA [] [0, 1] rfl rfl (by decide) (by decide) (fun r_13 u H locs hw_14 hP hD hK hS => ?_)
  obtain ⟨⟩ := u
  have hP : va_P (dC, dI) vwCl [(mt, .inr (1, [.int mo, .ref ma, .int 3])), (mm, .inr (21, [.int 0, .ref ms, .ref mt, .ref mh, .ref me]))] H := hP
  have hD : va_D A [(mt, .inr (1, [.int mo, .ref ma, .int 3])), (mm, .inr (21, [.int 0, .ref ms, .ref mt, .ref mh, .ref me]))] := hD
  have hK : va_K (dC, dI) vwCl [(kO, .object "java/lang/Object"), (kT, .object "HornbookModel$Tree")] s := by simpa using hK
  have hw_14 : r_13 = 0 := hw_14
  have hw_14 := hw_14.symm
  subst hw_14
  refine lv_if_eq (tgt := 60) hx hb dX19_wouldChoose_46 (by decide) (fun c_15 => ?_) (fun c_15 => ?_)
  rotate_left
  · exact absurd (by decide) c_15
  refine lv_iconst (v := 1) hx hb dX19_wouldChoose_60 (by decide) ?_
  refine lv_goto (tgt := 65) hx hb dX19_wouldChoose_61 (by decide) ?_
  refine lv_iconst (v := 2) hx hb dX19_wouldChoose_65 (by decide) ?_
  refine z_i (wr := [(mt, .inr (1, [.int mo, .ref ma, .int 3]))]) (va_runV (As := [.int 1, .int 2]) (rest := []) ⟨hx, hb, hml, hown, hts⟩ (c_M_refuse_yes l eD eI ad dC dI H.size mm ((.ref ms)) ((.ref mt)) ((.ref mh)) ((.ref me)) 2 (by decide)) (cwV 2 hts g_c_M_would_7 rfl rfl rfl (by decide +kernel) ⟨Nat.le_of_ble_eq_true rfl, Nat.le_of_ble_eq_true rfl⟩) (z_preV (wc := [(mm, .inr (21, [.int 0, .ref ms, .ref mt, .ref mh, .ref me]))]) hP hD hK hS hA hE [1] [] rfl (by decide) rfl (ci := 21) (q0 := 0) rfl rfl) rfl rfl hl.1 rfl (lv_room (Nat.le_of_ble_eq_true rfl)) dX19_wouldChoose_66 ⟨Nat.le_of_ble_eq_true rfl, Nat.le_of_ble_eq_true rfl⟩) hP hD hK hS hA [1] [0] rfl rfl (by decide) (by decide) (fun r_16 u H locs hw_17 hP hD hK hS => ?_)
  obtain ⟨⟩ := u
  have hP : va_P (dC, dI) vwCl [(mt, .inr (1, [.int mo, .ref ma, .int 3])), (mm, .inr (21, [.int 2, .ref ms, .ref mt, .ref mh, .ref me]))] H := hP
  have hD : va_D A [(mt, .inr (1, [.int mo, .ref ma, .int 3])), (mm, .inr (21, [.int 2, .ref ms, .ref mt, .ref mh, .ref me]))] := hD
  have hK : va_K (dC, dI) vwCl [(kO, .object "java/lang/Object"), (kT, .object "HornbookModel$Tree")] s := by simpa using hK
  have hw_17 : r_16 = 1 := hw_17
  have hw_17 := hw_17.symm
  subst hw_17
  refine lv_if_eq (tgt := 74) hx hb dX19_wouldChoose_69 (by decide) (fun c_18 => ?_) (fun c_18 => ?_)
  · exact absurd c_18 (by decide)
  refine lv_iconst (v := 0) hx hb dX19_wouldChoose_72 (by decide) ?_
  have hP9 := hP.sub (ws' := [(mm, .inr (21, [.int 2, .ref ms, .ref mt, .ref mh, .ref me]))]) [1] rfl
  have hD9 := hD.sub (ws' := [(mm, .inr (21, [.int 2, .ref ms, .ref mt, .ref mh, .ref me]))]) [1] (by decide) rfl
  have hK9 := hK.sub (tys' := []) [] rfl
  refine W.widen (k := 7) (n := 22) (Nat.le_of_ble_eq_true rfl) (Nat.le_of_ble_eq_true rfl) ?_
  exact W.iret (v := 0) hx hb hr (fun t ht hW => ⟨⟨0, (2, 0), rfl, ⟨rfl, by first | decide | simp [hx10, hx11, hx39, hx30, hx31, hx21], by first | exact fun h => absurd h (by decide) | exact fun _ => rfl | rfl | decide | simp⟩, ⟨by rw [ht]; exact hP9, va_K.moved hW.alike hK9, hD9⟩⟩, hS.F ht⟩) hS.2.2 dX19_wouldChoose_73

set_option maxHeartbeats 4000000 in
set_option maxRecDepth 100000 in
theorem c_M_would_Dknh (l : Launch) (eD eI : Nat) (ad : Nat → Nat) (dC : Nat → ClassId) (dI : Nat → Nat → Nat) (sz : Nat) (mm : Nat) (ms : Nat) (mt : Nat) (mh : Nat) (me : Nat) (mo : Int32) (ma : Nat) (kO : ClassId) (kT : ClassId) (t0 : Nat) (t1 : Nat) (t2 : Nat) (i0 : Nat) (i1 : Nat) (i2 : Nat) (th : Int32) (x1 : Int32) (x2 : Int32) (x3 : Int32) (hx10 : ¬ x1 < 0) (hx11 : ¬ 2 < x1) (hx39 : ¬ x3 = (-1)) (hx30 : ¬ x3 < 0) (hx31 : ¬ 2 < x3) (hx20 : ¬ x2 < 0) (hx21 : 9 < x2) : Met l yX19_wouldChoose w_c_M_would ({ frames := 6, cells := 7, slots := 22, locals := 123 }) (va_Pc [.ref mm, .int x1, .int x2, .int x3, .int (-1)] (zPre eD eI ad (dC, dI) [(mm, .inr (21, [.int th, .ref ms, .ref mt, .ref mh, .ref me])), (ms, .inr (1, [.int 0, .ref eD, .int 0])), (mt, .inr (1, [.int mo, .ref ma, .int 3])), (mh, .inr (1, [.int 0, .ref eD, .int 0])), (me, .inr (1, [.int 0, .ref eD, .int 0])), (ma, .inl (kO, 10, .inr (.inr (.inr (.inr (zfT t0 t1 t2)))))), (t0, .inr (18, [.int (-1), .ref i0])), (t1, .inr (18, [.int (-2), .ref i1])), (t2, .inr (18, [.int (-3), .ref i2])), (i0, .inl (kT, 0, .inr (.inr (.inr (.inr (fun _ => none)))))), (i1, .inl (kT, 0, .inr (.inr (.inr (.inr (fun _ => none)))))), (i2, .inl (kT, 0, .inr (.inr (.inr (.inr (fun _ => none))))))] [(kO, .object "java/lang/Object"), (kT, .object "HornbookModel$Tree")] sz)) (va_Qi (fun (r : Int32) (u : Int32 × Int32) => match u with | (th2, v2) => r = v2 ∧ th2 = (if x1 < 0 ∨ 2 < x1 then 1 else if ¬ x3 = (-1) ∧ (x3 < 0 ∨ 2 < x3) then 1 else if ¬ (-1 : Int32) = (-1) ∧ ((-1 : Int32) < 0 ∨ 2 < (-1 : Int32)) then 1 else if x2 < 0 ∨ 9 < x2 then 2 else if x3 = (-1) ∧ ¬ (-1 : Int32) = (-1) then 2 else if x1 = 2 ∨ x3 = 2 ∨ (-1 : Int32) = 2 then 2 else 0) ∧ (th2 = 0 → v2 = (-1))) (fun (u : Int32 × Int32) => match u with | (th2, v2) => zEnd (dC, dI) (va_A [(mm, .inr (21, [.int th, .ref ms, .ref mt, .ref mh, .ref me])), (ms, .inr (1, [.int 0, .ref eD, .int 0])), (mt, .inr (1, [.int mo, .ref ma, .int 3])), (mh, .inr (1, [.int 0, .ref eD, .int 0])), (me, .inr (1, [.int 0, .ref eD, .int 0])), (ma, .inl (kO, 10, .inr (.inr (.inr (.inr (zfT t0 t1 t2)))))), (t0, .inr (18, [.int (-1), .ref i0])), (t1, .inr (18, [.int (-2), .ref i1])), (t2, .inr (18, [.int (-3), .ref i2])), (i0, .inl (kT, 0, .inr (.inr (.inr (.inr (fun _ => none)))))), (i1, .inl (kT, 0, .inr (.inr (.inr (.inr (fun _ => none)))))), (i2, .inl (kT, 0, .inr (.inr (.inr (.inr (fun _ => none))))))] sz) [(mm, .inr (21, [.int th2, .ref ms, .ref mt, .ref mh, .ref me]))] []) (va_A [(mm, .inr (21, [.int th, .ref ms, .ref mt, .ref mh, .ref me])), (ms, .inr (1, [.int 0, .ref eD, .int 0])), (mt, .inr (1, [.int mo, .ref ma, .int 3])), (mh, .inr (1, [.int 0, .ref eD, .int 0])), (me, .inr (1, [.int 0, .ref eD, .int 0])), (ma, .inl (kO, 10, .inr (.inr (.inr (.inr (zfT t0 t1 t2)))))), (t0, .inr (18, [.int (-1), .ref i0])), (t1, .inr (18, [.int (-2), .ref i1])), (t2, .inr (18, [.int (-3), .ref i2])), (i0, .inl (kT, 0, .inr (.inr (.inr (.inr (fun _ => none)))))), (i1, .inl (kT, 0, .inr (.inr (.inr (.inr (fun _ => none)))))), (i2, .inl (kT, 0, .inr (.inr (.inr (.inr (fun _ => none))))))] sz)) 7 22 (va_A [(mm, .inr (21, [.int th, .ref ms, .ref mt, .ref mh, .ref me])), (ms, .inr (1, [.int 0, .ref eD, .int 0])), (mt, .inr (1, [.int mo, .ref ma, .int 3])), (mh, .inr (1, [.int 0, .ref eD, .int 0])), (me, .inr (1, [.int 0, .ref eD, .int 0])), (ma, .inl (kO, 10, .inr (.inr (.inr (.inr (zfT t0 t1 t2)))))), (t0, .inr (18, [.int (-1), .ref i0])), (t1, .inr (18, [.int (-2), .ref i1])), (t2, .inr (18, [.int (-3), .ref i2])), (i0, .inl (kT, 0, .inr (.inr (.inr (.inr (fun _ => none)))))), (i1, .inl (kT, 0, .inr (.inr (.inr (.inr (fun _ => none)))))), (i2, .inl (kT, 0, .inr (.inr (.inr (.inr (fun _ => none))))))] sz) := by
  refine Met.ofW (cc := cX19_wouldChoose) (maxL := 11) (ret := (some .int)) (by decide) rfl ?_
  intro p e s m args below meth c s₁ B hml hv
  obtain ⟨rfl, hsz, hP, hK, hD0, hE⟩ := hv
  have hx := B.exec
  have hb := B.bytes
  have hr := B.returns
  have hts := atoms_spec (ws := w_c_M_would) B.pre
  have hown : s.vm.findClass RX19 = some m.cls := findClass_of_methodNamed B.named
  have hlocks := B.notSynchronized
  subst hsz
  have hD := hD0.self (sz := s.heap.size)
  generalize hAe : va_A [(mm, .inr (21, [.int th, .ref ms, .ref mt, .ref mh, .ref me])), (ms, .inr (1, [.int 0, .ref eD, .int 0])), (mt, .inr (1, [.int mo, .ref ma, .int 3])), (mh, .inr (1, [.int 0, .ref eD, .int 0])), (me, .inr (1, [.int 0, .ref eD, .int 0])), (ma, .inl (kO, 10, .inr (.inr (.inr (.inr (zfT t0 t1 t2)))))), (t0, .inr (18, [.int (-1), .ref i0])), (t1, .inr (18, [.int (-2), .ref i1])), (t2, .inr (18, [.int (-3), .ref i2])), (i0, .inl (kT, 0, .inr (.inr (.inr (.inr (fun _ => none)))))), (i1, .inl (kT, 0, .inr (.inr (.inr (.inr (fun _ => none)))))), (i2, .inl (kT, 0, .inr (.inr (.inr (.inr (fun _ => none))))))] s.heap.size = A at hD hE ⊢
  have hA : ∀ q : Nat, s.heap.size ≤ q → A q := fun q h => by rw [← hAe]; exact Or.inr h
  have hS : va_S A s.heap s.heap [] := va_S.rf
  have hP : va_P (dC, dI) vwCl [(mm, .inr (21, [.int th, .ref ms, .ref mt, .ref mh, .ref me])), (ms, .inr (1, [.int 0, .ref eD, .int 0])), (mt, .inr (1, [.int mo, .ref ma, .int 3])), (mh, .inr (1, [.int 0, .ref eD, .int 0])), (me, .inr (1, [.int 0, .ref eD, .int 0])), (ma, .inl (kO, 10, .inr (.inr (.inr (.inr (zfT t0 t1 t2)))))), (t0, .inr (18, [.int (-1), .ref i0])), (t1, .inr (18, [.int (-2), .ref i1])), (t2, .inr (18, [.int (-3), .ref i2])), (i0, .inl (kT, 0, .inr (.inr (.inr (.inr (fun _ => none)))))), (i1, .inl (kT, 0, .inr (.inr (.inr (.inr (fun _ => none)))))), (i2, .inl (kT, 0, .inr (.inr (.inr (.inr (fun _ => none))))))] s.heap := hP
  have hl := lv_entry ([.ref mm, .int x1, .int x2, .int x3, .int (-1)]) (n := 11) (Nat.le_of_ble_eq_true rfl)
  rw [lg_entry_eq]
  generalize (lg_sl ([.ref mm, .int x1, .int x2, .int x3, .int (-1)]) ++ List.replicate (11 - (lg_sl ([.ref mm, .int x1, .int x2, .int x3, .int (-1)])).length) Slot.unset).toArray = ls at hl ⊢
  have hl : lv_has ls 11 [(0, .ref mm), (1, .int x1), (2, .int x2), (3, .int x3), (4, .int (-1))] := hl
  have hP := hP.sub (ws' := [(mm, .inr (21, [.int th, .ref ms, .ref mt, .ref mh, .ref me])), (mt, .inr (1, [.int mo, .ref ma, .int 3]))]) [0, 2] rfl
  have hD := hD.sub (ws' := [(mm, .inr (21, [.int th, .ref ms, .ref mt, .ref mh, .ref me])), (mt, .inr (1, [.int mo, .ref ma, .int 3]))]) [0, 2] (by decide) rfl
  refine lv_aload_n hx hb dX19_wouldChoose_0 rfl (lv_at hl 0 rfl) ?_
  refine lv_aload_n hx hb dX19_wouldChoose_1 rfl (lv_at hl 0 rfl) ?_
  refine lv_iload_n hx hb dX19_wouldChoose_2 rfl (lv_at hl 1 rfl) ?_
  refine z_i (wr := []) (va_runV (As := [.int x1]) (rest := [.ref mm]) ⟨hx, hb, hml, hown, hts⟩ (c_M_isNoType_ok l eD eI ad dC dI s.heap.size mm ms mt mh me th ((.int mo)) ((.ref ma)) x1 (hx10) (hx11)) (cwV 1 hts g_c_M_would_3 rfl rfl rfl (by decide +kernel) ⟨Nat.le_of_ble_eq_true rfl, Nat.le_of_ble_eq_true rfl⟩) (z_preV (wc := [(mm, .inr (21, [.int th, .ref ms, .ref mt, .ref mh, .ref me])), (mt, .inr (1, [.int mo, .ref ma, .int 3]))]) hP hD hK hS hA hE [0, 1] [] rfl (by decide) rfl (ci := 21) (q0 := 0) rfl rfl) rfl rfl hl.1 rfl (lv_room (Nat.le_of_ble_eq_true rfl)) dX19_wouldChoose_3 ⟨Nat.le_of_ble_eq_true rfl, Nat.le_of_ble_eq_true rfl⟩) hP hD hK hS hA [0, 1] [] rfl rfl (by decide) (by decide) (fun r_1 u H locs hw_2 hP hD hK hS => ?_)
  obtain ⟨⟩ := u
  have hP : va_P (dC, dI) vwCl [(mm, .inr (21, [.int th, .ref ms, .ref mt, .ref mh, .ref me])), (mt, .inr (1, [.int mo, .ref ma, .int 3]))] H := hP
  have hD : va_D A [(mm, .inr (21, [.int th, .ref ms, .ref mt, .ref mh, .ref me])), (mt, .inr (1, [.int mo, .ref ma, .int 3]))] := hD
  have hK : va_K (dC, dI) vwCl [(kO, .object "java/lang/Object"), (kT, .object "HornbookModel$Tree")] s := by simpa using hK
  have hw_2 : r_1 = 0 := hw_2
  have hw_2 := hw_2.symm
  subst hw_2
  refine lv_if_ne (tgt := 26) hx hb dX19_wouldChoose_6 (by decide) (fun c_3 => ?_) (fun c_3 => ?_)
  · exact absurd (by decide) c_3
  refine lv_aload_n hx hb dX19_wouldChoose_9 rfl (lv_at hl 0 rfl) ?_
  refine lv_iload_n hx hb dX19_wouldChoose_10 rfl (lv_at hl 3 rfl) ?_
  refine z_i (wr := []) (va_runV (As := [.int x3]) (rest := [.ref mm]) ⟨hx, hb, hml, hown, hts⟩ (c_M_isNoTypeN_ok l eD eI ad dC dI H.size mm ms mt mh me th ((.int mo)) ((.ref ma)) x3 (hx39) (hx30) (hx31)) (cwV 1 hts g_c_M_would_23 rfl rfl rfl (by decide +kernel) ⟨Nat.le_of_ble_eq_true rfl, Nat.le_of_ble_eq_true rfl⟩) (z_preV (wc := [(mm, .inr (21, [.int th, .ref ms, .ref mt, .ref mh, .ref me])), (mt, .inr (1, [.int mo, .ref ma, .int 3]))]) hP hD hK hS hA hE [0, 1] [] rfl (by decide) rfl (ci := 21) (q0 := 0) rfl rfl) rfl rfl hl.1 rfl (lv_room (Nat.le_of_ble_eq_true rfl)) dX19_wouldChoose_11 ⟨Nat.le_of_ble_eq_true rfl, Nat.le_of_ble_eq_true rfl⟩) hP hD hK hS hA [0, 1] [] rfl rfl (by decide) (by decide) (fun r_4 u H locs hw_5 hP hD hK hS => ?_)
  obtain ⟨⟩ := u
  have hP : va_P (dC, dI) vwCl [(mm, .inr (21, [.int th, .ref ms, .ref mt, .ref mh, .ref me])), (mt, .inr (1, [.int mo, .ref ma, .int 3]))] H := hP
  have hD : va_D A [(mm, .inr (21, [.int th, .ref ms, .ref mt, .ref mh, .ref me])), (mt, .inr (1, [.int mo, .ref ma, .int 3]))] := hD
  have hK : va_K (dC, dI) vwCl [(kO, .object "java/lang/Object"), (kT, .object "HornbookModel$Tree")] s := by simpa using hK
  have hw_5 : r_4 = 0 := hw_5
  have hw_5 := hw_5.symm
  subst hw_5
  refine lv_if_ne (tgt := 26) hx hb dX19_wouldChoose_14 (by decide) (fun c_6 => ?_) (fun c_6 => ?_)
  · exact absurd (by decide) c_6
  refine lv_aload_n hx hb dX19_wouldChoose_17 rfl (lv_at hl 0 rfl) ?_
  refine lv_iload hx hb dX19_wouldChoose_18 (lv_at hl 4 rfl) ?_
  refine z_i (wr := []) (va_runV (As := [.int (-1)]) (rest := [.ref mm]) ⟨hx, hb, hml, hown, hts⟩ (c_M_isNoTypeN_none l eD eI ad dC dI H.size mm ms mt mh me th ((.int mo)) ((.ref ma))) (cwV 1 hts g_c_M_would_4 rfl rfl rfl (by decide +kernel) ⟨Nat.le_of_ble_eq_true rfl, Nat.le_of_ble_eq_true rfl⟩) (z_preV (wc := [(mm, .inr (21, [.int th, .ref ms, .ref mt, .ref mh, .ref me])), (mt, .inr (1, [.int mo, .ref ma, .int 3]))]) hP hD hK hS hA hE [0, 1] [] rfl (by decide) rfl (ci := 21) (q0 := 0) rfl rfl) rfl rfl hl.1 rfl (lv_room (Nat.le_of_ble_eq_true rfl)) dX19_wouldChoose_20 ⟨Nat.le_of_ble_eq_true rfl, Nat.le_of_ble_eq_true rfl⟩) hP hD hK hS hA [0, 1] [] rfl rfl (by decide) (by decide) (fun r_7 u H locs hw_8 hP hD hK hS => ?_)
  obtain ⟨⟩ := u
  have hP : va_P (dC, dI) vwCl [(mm, .inr (21, [.int th, .ref ms, .ref mt, .ref mh, .ref me])), (mt, .inr (1, [.int mo, .ref ma, .int 3]))] H := hP
  have hD : va_D A [(mm, .inr (21, [.int th, .ref ms, .ref mt, .ref mh, .ref me])), (mt, .inr (1, [.int mo, .ref ma, .int 3]))] := hD
  have hK : va_K (dC, dI) vwCl [(kO, .object "java/lang/Object"), (kT, .object "HornbookModel$Tree")] s := by simpa using hK
  have hw_8 : r_7 = 0 := hw_8
  have hw_8 := hw_8.symm
  subst hw_8
  refine lv_if_eq (tgt := 30) hx hb dX19_wouldChoose_23 (by decide) (fun c_9 => ?_) (fun c_9 => ?_)
  rotate_left
  · exact absurd (by decide) c_9
  refine lv_iconst (v := 0) hx hb dX19_wouldChoose_30 (by decide) ?_
  refine lv_iconst (v := 1) hx hb dX19_wouldChoose_31 (by decide) ?_
  refine z_i (wr := [(mt, .inr (1, [.int mo, .ref ma, .int 3]))]) (va_runV (As := [.int 0, .int 1]) (rest := []) ⟨hx, hb, hml, hown, hts⟩ (c_M_start_no l eD eI ad dC dI H.size mm ((.ref ms)) ((.ref mt)) ((.ref mh)) ((.ref me)) 1 th) (cwV 2 hts g_c_M_would_5 rfl rfl rfl (by decide +kernel) ⟨Nat.le_of_ble_eq_true rfl, Nat.le_of_ble_eq_true rfl⟩) (z_preV (wc := [(mm, .inr (21, [.int th, .ref ms, .ref mt, .ref mh, .ref me]))]) hP hD hK hS hA hE [0] [] rfl (by decide) rfl (ci := 21) (q0 := 0) rfl rfl) rfl rfl hl.1 rfl (lv_room (Nat.le_of_ble_eq_true rfl)) dX19_wouldChoose_32 ⟨Nat.le_of_ble_eq_true rfl, Nat.le_of_ble_eq_true rfl⟩) hP hD hK hS hA [0] [1] rfl rfl (by decide) (by decide) (fun r_10 u H locs hw_11 hP hD hK hS => ?_)
  obtain ⟨⟩ := u
  have hP : va_P (dC, dI) vwCl [(mt, .inr (1, [.int mo, .ref ma, .int 3])), (mm, .inr (21, [.int 0, .ref ms, .ref mt, .ref mh, .ref me]))] H := hP
  have hD : va_D A [(mt, .inr (1, [.int mo, .ref ma, .int 3])), (mm, .inr (21, [.int 0, .ref ms, .ref mt, .ref mh, .ref me]))] := hD
  have hK : va_K (dC, dI) vwCl [(kO, .object "java/lang/Object"), (kT, .object "HornbookModel$Tree")] s := by simpa using hK
  have hw_11 : r_10 = 0 := hw_11
  have hw_11 := hw_11.symm
  subst hw_11
  refine lv_if_ne (tgt := 72) hx hb dX19_wouldChoose_35 (by decide) (fun c_12 => ?_) (fun c_12 => ?_)
  · exact absurd (by decide) c_12
  refine lv_aload_n hx hb dX19_wouldChoose_38 rfl (lv_at hl 0 rfl) ?_
  refine lv_iload_n hx hb dX19_wouldChoose_39 rfl (lv_at hl 2 rfl) ?_
  refine lv_iconst (v := 0) hx hb dX19_wouldChoose_40 (by decide) ?_
  refine lv_bipush (v := 9) hx hb dX19_wouldChoose_41 (by decide) ?_
  refine z_i (wr := [(mt, .inr (1, [.int mo, .ref ma, .int 3])), (mm, .inr (21, [.int 0, .ref ms, .ref mt, .ref mh, .ref me]))]) (va_runS (As := [.int x2, .int 0, .int 9]) (rest := [.ref mm]) ⟨hx, hb, hml, hown, hts⟩ (c_M_isIn_hi l eD eI ad dC dI H.size x2 0 9 (hx20) (hx21)) (va_cwS 3 hts g_c_M_would_8 rfl rfl rfl (by decide +kernel) ⟨Nat.le_of_ble_eq_true rfl, Nat.le_of_ble_eq_true rfl⟩) (z_preS (wc := []) hP hD hK hS hA hE [] [] rfl (by decide) rfl) rfl rfl hl.1 rfl (lv_room (Nat.le_of_ble_eq_true rfl)) dX19_wouldChoose_43 ⟨Nat.le_of_ble_eq_true rfl, Nat.le_of_ble_eq_true rfl⟩) hP hD hK hS hA [] [0, 1] rfl rfl (by decide) (by decide) (fun r_13 u H locs hw_14 hP hD hK hS => ?_)
  obtain ⟨⟩ := u
  have hP : va_P (dC, dI) vwCl [(mt, .inr (1, [.int mo, .ref ma, .int 3])), (mm, .inr (21, [.int 0, .ref ms, .ref mt, .ref mh, .ref me]))] H := hP
  have hD : va_D A [(mt, .inr (1, [.int mo, .ref ma, .int 3])), (mm, .inr (21, [.int 0, .ref ms, .ref mt, .ref mh, .ref me]))] := hD
  have hK : va_K (dC, dI) vwCl [(kO, .object "java/lang/Object"), (kT, .object "HornbookModel$Tree")] s := by simpa using hK
  have hw_14 : r_13 = 0 := hw_14
  have hw_14 := hw_14.symm
  subst hw_14
  refine lv_if_eq (tgt := 60) hx hb dX19_wouldChoose_46 (by decide) (fun c_15 => ?_) (fun c_15 => ?_)
  rotate_left
  · exact absurd (by decide) c_15
  refine lv_iconst (v := 1) hx hb dX19_wouldChoose_60 (by decide) ?_
  refine lv_goto (tgt := 65) hx hb dX19_wouldChoose_61 (by decide) ?_
  refine lv_iconst (v := 2) hx hb dX19_wouldChoose_65 (by decide) ?_
  refine z_i (wr := [(mt, .inr (1, [.int mo, .ref ma, .int 3]))]) (va_runV (As := [.int 1, .int 2]) (rest := []) ⟨hx, hb, hml, hown, hts⟩ (c_M_refuse_yes l eD eI ad dC dI H.size mm ((.ref ms)) ((.ref mt)) ((.ref mh)) ((.ref me)) 2 (by decide)) (cwV 2 hts g_c_M_would_7 rfl rfl rfl (by decide +kernel) ⟨Nat.le_of_ble_eq_true rfl, Nat.le_of_ble_eq_true rfl⟩) (z_preV (wc := [(mm, .inr (21, [.int 0, .ref ms, .ref mt, .ref mh, .ref me]))]) hP hD hK hS hA hE [1] [] rfl (by decide) rfl (ci := 21) (q0 := 0) rfl rfl) rfl rfl hl.1 rfl (lv_room (Nat.le_of_ble_eq_true rfl)) dX19_wouldChoose_66 ⟨Nat.le_of_ble_eq_true rfl, Nat.le_of_ble_eq_true rfl⟩) hP hD hK hS hA [1] [0] rfl rfl (by decide) (by decide) (fun r_16 u H locs hw_17 hP hD hK hS => ?_)
  obtain ⟨⟩ := u
  have hP : va_P (dC, dI) vwCl [(mt, .inr (1, [.int mo, .ref ma, .int 3])), (mm, .inr (21, [.int 2, .ref ms, .ref mt, .ref mh, .ref me]))] H := hP
  have hD : va_D A [(mt, .inr (1, [.int mo, .ref ma, .int 3])), (mm, .inr (21, [.int 2, .ref ms, .ref mt, .ref mh, .ref me]))] := hD
  have hK : va_K (dC, dI) vwCl [(kO, .object "java/lang/Object"), (kT, .object "HornbookModel$Tree")] s := by simpa using hK
  have hw_17 : r_16 = 1 := hw_17
  have hw_17 := hw_17.symm
  subst hw_17
  refine lv_if_eq (tgt := 74) hx hb dX19_wouldChoose_69 (by decide) (fun c_18 => ?_) (fun c_18 => ?_)
  · exact absurd c_18 (by decide)
  refine lv_iconst (v := 0) hx hb dX19_wouldChoose_72 (by decide) ?_
  have hP9 := hP.sub (ws' := [(mm, .inr (21, [.int 2, .ref ms, .ref mt, .ref mh, .ref me]))]) [1] rfl
  have hD9 := hD.sub (ws' := [(mm, .inr (21, [.int 2, .ref ms, .ref mt, .ref mh, .ref me]))]) [1] (by decide) rfl
  have hK9 := hK.sub (tys' := []) [] rfl
  refine W.widen (k := 7) (n := 22) (Nat.le_of_ble_eq_true rfl) (Nat.le_of_ble_eq_true rfl) ?_
  exact W.iret (v := 0) hx hb hr (fun t ht hW => ⟨⟨0, (2, 0), rfl, ⟨rfl, by first | decide | simp [hx10, hx11, hx39, hx30, hx31, hx20, hx21], by first | exact fun h => absurd h (by decide) | exact fun _ => rfl | rfl | decide | simp⟩, ⟨by rw [ht]; exact hP9, va_K.moved hW.alike hK9, hD9⟩⟩, hS.F ht⟩) hS.2.2 dX19_wouldChoose_73

set_option maxHeartbeats 4000000 in
set_option maxRecDepth 100000 in
theorem c_M_would_Fkn00 (l : Launch) (eD eI : Nat) (ad : Nat → Nat) (dC : Nat → ClassId) (dI : Nat → Nat → Nat) (sz : Nat) (mm : Nat) (ms : Nat) (mt : Nat) (mh : Nat) (me : Nat) (mo : Int32) (ma : Nat) (kO : ClassId) (kT : ClassId) (t0 : Nat) (t1 : Nat) (t2 : Nat) (i0 : Nat) (i1 : Nat) (i2 : Nat) (th : Int32) (x2 : Int32) (hx20 : ¬ x2 < 0) (hx21 : ¬ 9 < x2) : Met l yX19_wouldChoose w_c_M_would ({ frames := 6, cells := 7, slots := 22, locals := 123 }) (va_Pc [.ref mm, .int 0, .int x2, .int 0, .int (-1)] (zPre eD eI ad (dC, dI) [(mm, .inr (21, [.int th, .ref ms, .ref mt, .ref mh, .ref me])), (ms, .inr (1, [.int 0, .ref eD, .int 0])), (mt, .inr (1, [.int mo, .ref ma, .int 3])), (mh, .inr (1, [.int 0, .ref eD, .int 0])), (me, .inr (1, [.int 0, .ref eD, .int 0])), (ma, .inl (kO, 10, .inr (.inr (.inr (.inr (zfT t0 t1 t2)))))), (t0, .inr (18, [.int (-1), .ref i0])), (t1, .inr (18, [.int (-2), .ref i1])), (t2, .inr (18, [.int (-3), .ref i2])), (i0, .inl (kT, 0, .inr (.inr (.inr (.inr (fun _ => none)))))), (i1, .inl (kT, 0, .inr (.inr (.inr (.inr (fun _ => none)))))), (i2, .inl (kT, 0, .inr (.inr (.inr (.inr (fun _ => none))))))] [(kO, .object "java/lang/Object"), (kT, .object "HornbookModel$Tree")] sz)) (va_Qi (fun (r : Int32) (u : Int32 × Int32) => match u with | (th2, v2) => r = v2 ∧ th2 = (if (0 : Int32) < 0 ∨ 2 < (0 : Int32) then 1 else if ¬ (0 : Int32) = (-1) ∧ ((0 : Int32) < 0 ∨ 2 < (0 : Int32)) then 1 else if ¬ (-1 : Int32) = (-1) ∧ ((-1 : Int32) < 0 ∨ 2 < (-1 : Int32)) then 1 else if x2 < 0 ∨ 9 < x2 then 2 else if (0 : Int32) = (-1) ∧ ¬ (-1 : Int32) = (-1) then 2 else if (0 : Int32) = 2 ∨ (0 : Int32) = 2 ∨ (-1 : Int32) = 2 then 2 else 0) ∧ (th2 = 0 → v2 = (-1))) (fun (u : Int32 × Int32) => match u with | (th2, v2) => zEnd (dC, dI) (va_A [(mm, .inr (21, [.int th, .ref ms, .ref mt, .ref mh, .ref me])), (ms, .inr (1, [.int 0, .ref eD, .int 0])), (mt, .inr (1, [.int mo, .ref ma, .int 3])), (mh, .inr (1, [.int 0, .ref eD, .int 0])), (me, .inr (1, [.int 0, .ref eD, .int 0])), (ma, .inl (kO, 10, .inr (.inr (.inr (.inr (zfT t0 t1 t2)))))), (t0, .inr (18, [.int (-1), .ref i0])), (t1, .inr (18, [.int (-2), .ref i1])), (t2, .inr (18, [.int (-3), .ref i2])), (i0, .inl (kT, 0, .inr (.inr (.inr (.inr (fun _ => none)))))), (i1, .inl (kT, 0, .inr (.inr (.inr (.inr (fun _ => none)))))), (i2, .inl (kT, 0, .inr (.inr (.inr (.inr (fun _ => none))))))] sz) [(mm, .inr (21, [.int th2, .ref ms, .ref mt, .ref mh, .ref me]))] []) (va_A [(mm, .inr (21, [.int th, .ref ms, .ref mt, .ref mh, .ref me])), (ms, .inr (1, [.int 0, .ref eD, .int 0])), (mt, .inr (1, [.int mo, .ref ma, .int 3])), (mh, .inr (1, [.int 0, .ref eD, .int 0])), (me, .inr (1, [.int 0, .ref eD, .int 0])), (ma, .inl (kO, 10, .inr (.inr (.inr (.inr (zfT t0 t1 t2)))))), (t0, .inr (18, [.int (-1), .ref i0])), (t1, .inr (18, [.int (-2), .ref i1])), (t2, .inr (18, [.int (-3), .ref i2])), (i0, .inl (kT, 0, .inr (.inr (.inr (.inr (fun _ => none)))))), (i1, .inl (kT, 0, .inr (.inr (.inr (.inr (fun _ => none)))))), (i2, .inl (kT, 0, .inr (.inr (.inr (.inr (fun _ => none))))))] sz)) 7 22 (va_A [(mm, .inr (21, [.int th, .ref ms, .ref mt, .ref mh, .ref me])), (ms, .inr (1, [.int 0, .ref eD, .int 0])), (mt, .inr (1, [.int mo, .ref ma, .int 3])), (mh, .inr (1, [.int 0, .ref eD, .int 0])), (me, .inr (1, [.int 0, .ref eD, .int 0])), (ma, .inl (kO, 10, .inr (.inr (.inr (.inr (zfT t0 t1 t2)))))), (t0, .inr (18, [.int (-1), .ref i0])), (t1, .inr (18, [.int (-2), .ref i1])), (t2, .inr (18, [.int (-3), .ref i2])), (i0, .inl (kT, 0, .inr (.inr (.inr (.inr (fun _ => none)))))), (i1, .inl (kT, 0, .inr (.inr (.inr (.inr (fun _ => none)))))), (i2, .inl (kT, 0, .inr (.inr (.inr (.inr (fun _ => none))))))] sz) := by
  refine Met.ofW (cc := cX19_wouldChoose) (maxL := 11) (ret := (some .int)) (by decide) rfl ?_
  intro p e s m args below meth c s₁ B hml hv
  obtain ⟨rfl, hsz, hP, hK, hD0, hE⟩ := hv
  have hx := B.exec
  have hb := B.bytes
  have hr := B.returns
  have hts := atoms_spec (ws := w_c_M_would) B.pre
  have hown : s.vm.findClass RX19 = some m.cls := findClass_of_methodNamed B.named
  have hlocks := B.notSynchronized
  subst hsz
  have hD := hD0.self (sz := s.heap.size)
  generalize hAe : va_A [(mm, .inr (21, [.int th, .ref ms, .ref mt, .ref mh, .ref me])), (ms, .inr (1, [.int 0, .ref eD, .int 0])), (mt, .inr (1, [.int mo, .ref ma, .int 3])), (mh, .inr (1, [.int 0, .ref eD, .int 0])), (me, .inr (1, [.int 0, .ref eD, .int 0])), (ma, .inl (kO, 10, .inr (.inr (.inr (.inr (zfT t0 t1 t2)))))), (t0, .inr (18, [.int (-1), .ref i0])), (t1, .inr (18, [.int (-2), .ref i1])), (t2, .inr (18, [.int (-3), .ref i2])), (i0, .inl (kT, 0, .inr (.inr (.inr (.inr (fun _ => none)))))), (i1, .inl (kT, 0, .inr (.inr (.inr (.inr (fun _ => none)))))), (i2, .inl (kT, 0, .inr (.inr (.inr (.inr (fun _ => none))))))] s.heap.size = A at hD hE ⊢
  have hA : ∀ q : Nat, s.heap.size ≤ q → A q := fun q h => by rw [← hAe]; exact Or.inr h
  have hS : va_S A s.heap s.heap [] := va_S.rf
  have hP : va_P (dC, dI) vwCl [(mm, .inr (21, [.int th, .ref ms, .ref mt, .ref mh, .ref me])), (ms, .inr (1, [.int 0, .ref eD, .int 0])), (mt, .inr (1, [.int mo, .ref ma, .int 3])), (mh, .inr (1, [.int 0, .ref eD, .int 0])), (me, .inr (1, [.int 0, .ref eD, .int 0])), (ma, .inl (kO, 10, .inr (.inr (.inr (.inr (zfT t0 t1 t2)))))), (t0, .inr (18, [.int (-1), .ref i0])), (t1, .inr (18, [.int (-2), .ref i1])), (t2, .inr (18, [.int (-3), .ref i2])), (i0, .inl (kT, 0, .inr (.inr (.inr (.inr (fun _ => none)))))), (i1, .inl (kT, 0, .inr (.inr (.inr (.inr (fun _ => none)))))), (i2, .inl (kT, 0, .inr (.inr (.inr (.inr (fun _ => none))))))] s.heap := hP
  have hl := lv_entry ([.ref mm, .int 0, .int x2, .int 0, .int (-1)]) (n := 11) (Nat.le_of_ble_eq_true rfl)
  rw [lg_entry_eq]
  generalize (lg_sl ([.ref mm, .int 0, .int x2, .int 0, .int (-1)]) ++ List.replicate (11 - (lg_sl ([.ref mm, .int 0, .int x2, .int 0, .int (-1)])).length) Slot.unset).toArray = ls at hl ⊢
  have hl : lv_has ls 11 [(0, .ref mm), (1, .int 0), (2, .int x2), (3, .int 0), (4, .int (-1))] := hl
  have in_RJx4a65c : ∀ w ∈ u_ws RJx4a65c TJx4a65c 3, w ∈ w_c_M_would := by decide +kernel
  have in_RX18 : ∀ w ∈ u_ws RX18 TX18 7, w ∈ w_c_M_would := by decide +kernel
  have in_RX19 : ∀ w ∈ u_ws RX19 TX19 5, w ∈ w_c_M_would := by decide +kernel
  have hP := hP.sub (ws' := [(mm, .inr (21, [.int th, .ref ms, .ref mt, .ref mh, .ref me])), (mt, .inr (1, [.int mo, .ref ma, .int 3])), (mh, .inr (1, [.int 0, .ref eD, .int 0])), (ma, .inl (kO, 10, .inr (.inr (.inr (.inr (zfT t0 t1 t2)))))), (t0, .inr (18, [.int (-1), .ref i0])), (i0, .inl (kT, 0, .inr (.inr (.inr (.inr (fun _ => none))))))]) [0, 2, 3, 5, 6, 9] rfl
  have hD := hD.sub (ws' := [(mm, .inr (21, [.int th, .ref ms, .ref mt, .ref mh, .ref me])), (mt, .inr (1, [.int mo, .ref ma, .int 3])), (mh, .inr (1, [.int 0, .ref eD, .int 0])), (ma, .inl (kO, 10, .inr (.inr (.inr (.inr (zfT t0 t1 t2)))))), (t0, .inr (18, [.int (-1), .ref i0])), (i0, .inl (kT, 0, .inr (.inr (.inr (.inr (fun _ => none))))))]) [0, 2, 3, 5, 6, 9] (by decide) rfl
  refine lv_aload_n hx hb dX19_wouldChoose_0 rfl (lv_at hl 0 rfl) ?_
  refine lv_aload_n hx hb dX19_wouldChoose_1 rfl (lv_at hl 0 rfl) ?_
  refine lv_iload_n hx hb dX19_wouldChoose_2 rfl (lv_at hl 1 rfl) ?_
  refine z_i (wr := [(mh, .inr (1, [.int 0, .ref eD, .int 0])), (ma, .inl (kO, 10, .inr (.inr (.inr (.inr (zfT t0 t1 t2)))))), (t0, .inr (18, [.int (-1), .ref i0])), (i0, .inl (kT, 0, .inr (.inr (.inr (.inr (fun _ => none))))))]) (va_runV (As := [.int 0]) (rest := [.ref mm]) ⟨hx, hb, hml, hown, hts⟩ (c_M_isNoType_ok l eD eI ad dC dI s.heap.size mm ms mt mh me th ((.int mo)) ((.ref ma)) 0 (by decide) (by decide)) (cwV 1 hts g_c_M_would_3 rfl rfl rfl (by decide +kernel) ⟨Nat.le_of_ble_eq_true rfl, Nat.le_of_ble_eq_true rfl⟩) (z_preV (wc := [(mm, .inr (21, [.int th, .ref ms, .ref mt, .ref mh, .ref me])), (mt, .inr (1, [.int mo, .ref ma, .int 3]))]) hP hD hK hS hA hE [0, 1] [] rfl (by decide) rfl (ci := 21) (q0 := 0) rfl rfl) rfl rfl hl.1 rfl (lv_room (Nat.le_of_ble_eq_true rfl)) dX19_wouldChoose_3 ⟨Nat.le_of_ble_eq_true rfl, Nat.le_of_ble_eq_true rfl⟩) hP hD hK hS hA [0, 1] [2, 3, 4, 5] rfl rfl (by decide) (by decide) (fun r_1 u H locs hw_2 hP hD hK hS => ?_)
  obtain ⟨⟩ := u
  have hP : va_P (dC, dI) vwCl [(mh, .inr (1, [.int 0, .ref eD, .int 0])), (ma, .inl (kO, 10, .inr (.inr (.inr (.inr (zfT t0 t1 t2)))))), (t0, .inr (18, [.int (-1), .ref i0])), (i0, .inl (kT, 0, .inr (.inr (.inr (.inr (fun _ => none)))))), (mm, .inr (21, [.int th, .ref ms, .ref mt, .ref mh, .ref me])), (mt, .inr (1, [.int mo, .ref ma, .int 3]))] H := hP
  have hD : va_D A [(mh, .inr (1, [.int 0, .ref eD, .int 0])), (ma, .inl (kO, 10, .inr (.inr (.inr (.inr (zfT t0 t1 t2)))))), (t0, .inr (18, [.int (-1), .ref i0])), (i0, .inl (kT, 0, .inr (.inr (.inr (.inr (fun _ => none)))))), (mm, .inr (21, [.int th, .ref ms, .ref mt, .ref mh, .ref me])), (mt, .inr (1, [.int mo, .ref ma, .int 3]))] := hD
  have hK : va_K (dC, dI) vwCl [(kO, .object "java/lang/Object"), (kT, .object "HornbookModel$Tree")] s := by simpa using hK
  have hw_2 : r_1 = 0 := hw_2
  have hw_2 := hw_2.symm
  subst hw_2
  refine lv_if_ne (tgt := 26) hx hb dX19_wouldChoose_6 (by decide) (fun c_3 => ?_) (fun c_3 => ?_)
  · exact absurd (by decide) c_3
  refine lv_aload_n hx hb dX19_wouldChoose_9 rfl (lv_at hl 0 rfl) ?_
  refine lv_iload_n hx hb dX19_wouldChoose_10 rfl (lv_at hl 3 rfl) ?_
  refine z_i (wr := [(mh, .inr (1, [.int 0, .ref eD, .int 0])), (ma, .inl (kO, 10, .inr (.inr (.inr (.inr (zfT t0 t1 t2)))))), (t0, .inr (18, [.int (-1), .ref i0])), (i0, .inl (kT, 0, .inr (.inr (.inr (.inr (fun _ => none))))))]) (va_runV (As := [.int 0]) (rest := [.ref mm]) ⟨hx, hb, hml, hown, hts⟩ (c_M_isNoTypeN_ok l eD eI ad dC dI H.size mm ms mt mh me th ((.int mo)) ((.ref ma)) 0 (by decide) (by decide) (by decide)) (cwV 1 hts g_c_M_would_23 rfl rfl rfl (by decide +kernel) ⟨Nat.le_of_ble_eq_true rfl, Nat.le_of_ble_eq_true rfl⟩) (z_preV (wc := [(mm, .inr (21, [.int th, .ref ms, .ref mt, .ref mh, .ref me])), (mt, .inr (1, [.int mo, .ref ma, .int 3]))]) hP hD hK hS hA hE [4, 5] [] rfl (by decide) rfl (ci := 21) (q0 := 0) rfl rfl) rfl rfl hl.1 rfl (lv_room (Nat.le_of_ble_eq_true rfl)) dX19_wouldChoose_11 ⟨Nat.le_of_ble_eq_true rfl, Nat.le_of_ble_eq_true rfl⟩) hP hD hK hS hA [4, 5] [0, 1, 2, 3] rfl rfl (by decide) (by decide) (fun r_4 u H locs hw_5 hP hD hK hS => ?_)
  obtain ⟨⟩ := u
  have hP : va_P (dC, dI) vwCl [(mh, .inr (1, [.int 0, .ref eD, .int 0])), (ma, .inl (kO, 10, .inr (.inr (.inr (.inr (zfT t0 t1 t2)))))), (t0, .inr (18, [.int (-1), .ref i0])), (i0, .inl (kT, 0, .inr (.inr (.inr (.inr (fun _ => none)))))), (mm, .inr (21, [.int th, .ref ms, .ref mt, .ref mh, .ref me])), (mt, .inr (1, [.int mo, .ref ma, .int 3]))] H := hP
  have hD : va_D A [(mh, .inr (1, [.int 0, .ref eD, .int 0])), (ma, .inl (kO, 10, .inr (.inr (.inr (.inr (zfT t0 t1 t2)))))), (t0, .inr (18, [.int (-1), .ref i0])), (i0, .inl (kT, 0, .inr (.inr (.inr (.inr (fun _ => none)))))), (mm, .inr (21, [.int th, .ref ms, .ref mt, .ref mh, .ref me])), (mt, .inr (1, [.int mo, .ref ma, .int 3]))] := hD
  have hK : va_K (dC, dI) vwCl [(kO, .object "java/lang/Object"), (kT, .object "HornbookModel$Tree")] s := by simpa using hK
  have hw_5 : r_4 = 0 := hw_5
  have hw_5 := hw_5.symm
  subst hw_5
  refine lv_if_ne (tgt := 26) hx hb dX19_wouldChoose_14 (by decide) (fun c_6 => ?_) (fun c_6 => ?_)
  · exact absurd (by decide) c_6
  refine lv_aload_n hx hb dX19_wouldChoose_17 rfl (lv_at hl 0 rfl) ?_
  refine lv_iload hx hb dX19_wouldChoose_18 (lv_at hl 4 rfl) ?_
  refine z_i (wr := [(mh, .inr (1, [.int 0, .ref eD, .int 0])), (ma, .inl (kO, 10, .inr (.inr (.inr (.inr (zfT t0 t1 t2)))))), (t0, .inr (18, [.int (-1), .ref i0])), (i0, .inl (kT, 0, .inr (.inr (.inr (.inr (fun _ => none))))))]) (va_runV (As := [.int (-1)]) (rest := [.ref mm]) ⟨hx, hb, hml, hown, hts⟩ (c_M_isNoTypeN_none l eD eI ad dC dI H.size mm ms mt mh me th ((.int mo)) ((.ref ma))) (cwV 1 hts g_c_M_would_4 rfl rfl rfl (by decide +kernel) ⟨Nat.le_of_ble_eq_true rfl, Nat.le_of_ble_eq_true rfl⟩) (z_preV (wc := [(mm, .inr (21, [.int th, .ref ms, .ref mt, .ref mh, .ref me])), (mt, .inr (1, [.int mo, .ref ma, .int 3]))]) hP hD hK hS hA hE [4, 5] [] rfl (by decide) rfl (ci := 21) (q0 := 0) rfl rfl) rfl rfl hl.1 rfl (lv_room (Nat.le_of_ble_eq_true rfl)) dX19_wouldChoose_20 ⟨Nat.le_of_ble_eq_true rfl, Nat.le_of_ble_eq_true rfl⟩) hP hD hK hS hA [4, 5] [0, 1, 2, 3] rfl rfl (by decide) (by decide) (fun r_7 u H locs hw_8 hP hD hK hS => ?_)
  obtain ⟨⟩ := u
  have hP : va_P (dC, dI) vwCl [(mh, .inr (1, [.int 0, .ref eD, .int 0])), (ma, .inl (kO, 10, .inr (.inr (.inr (.inr (zfT t0 t1 t2)))))), (t0, .inr (18, [.int (-1), .ref i0])), (i0, .inl (kT, 0, .inr (.inr (.inr (.inr (fun _ => none)))))), (mm, .inr (21, [.int th, .ref ms, .ref mt, .ref mh, .ref me])), (mt, .inr (1, [.int mo, .ref ma, .int 3]))] H := hP
  have hD : va_D A [(mh, .inr (1, [.int 0, .ref eD, .int 0])), (ma, .inl (kO, 10, .inr (.inr (.inr (.inr (zfT t0 t1 t2)))))), (t0, .inr (18, [.int (-1), .ref i0])), (i0, .inl (kT, 0, .inr (.inr (.inr (.inr (fun _ => none)))))), (mm, .inr (21, [.int th, .ref ms, .ref mt, .ref mh, .ref me])), (mt, .inr (1, [.int mo, .ref ma, .int 3]))] := hD
  have hK : va_K (dC, dI) vwCl [(kO, .object "java/lang/Object"), (kT, .object "HornbookModel$Tree")] s := by simpa using hK
  have hw_8 : r_7 = 0 := hw_8
  have hw_8 := hw_8.symm
  subst hw_8
  refine lv_if_eq (tgt := 30) hx hb dX19_wouldChoose_23 (by decide) (fun c_9 => ?_) (fun c_9 => ?_)
  rotate_left
  · exact absurd (by decide) c_9
  refine lv_iconst (v := 0) hx hb dX19_wouldChoose_30 (by decide) ?_
  refine lv_iconst (v := 1) hx hb dX19_wouldChoose_31 (by decide) ?_
  refine z_i (wr := [(mh, .inr (1, [.int 0, .ref eD, .int 0])), (ma, .inl (kO, 10, .inr (.inr (.inr (.inr (zfT t0 t1 t2)))))), (t0, .inr (18, [.int (-1), .ref i0])), (i0, .inl (kT, 0, .inr (.inr (.inr (.inr (fun _ => none)))))), (mt, .inr (1, [.int mo, .ref ma, .int 3]))]) (va_runV (As := [.int 0, .int 1]) (rest := []) ⟨hx, hb, hml, hown, hts⟩ (c_M_start_no l eD eI ad dC dI H.size mm ((.ref ms)) ((.ref mt)) ((.ref mh)) ((.ref me)) 1 th) (cwV 2 hts g_c_M_would_5 rfl rfl rfl (by decide +kernel) ⟨Nat.le_of_ble_eq_true rfl, Nat.le_of_ble_eq_true rfl⟩) (z_preV (wc := [(mm, .inr (21, [.int th, .ref ms, .ref mt, .ref mh, .ref me]))]) hP hD hK hS hA hE [4] [] rfl (by decide) rfl (ci := 21) (q0 := 0) rfl rfl) rfl rfl hl.1 rfl (lv_room (Nat.le_of_ble_eq_true rfl)) dX19_wouldChoose_32 ⟨Nat.le_of_ble_eq_true rfl, Nat.le_of_ble_eq_true rfl⟩) hP hD hK hS hA [4] [0, 1, 2, 3, 5] rfl rfl (by decide) (by decide) (fun r_10 u H locs hw_11 hP hD hK hS => ?_)
  obtain ⟨⟩ := u
  have hP : va_P (dC, dI) vwCl [(mh, .inr (1, [.int 0, .ref eD, .int 0])), (ma, .inl (kO, 10, .inr (.inr (.inr (.inr (zfT t0 t1 t2)))))), (t0, .inr (18, [.int (-1), .ref i0])), (i0, .inl (kT, 0, .inr (.inr (.inr (.inr (fun _ => none)))))), (mt, .inr (1, [.int mo, .ref ma, .int 3])), (mm, .inr (21, [.int 0, .ref ms, .ref mt, .ref mh, .ref me]))] H := hP
  have hD : va_D A [(mh, .inr (1, [.int 0, .ref eD, .int 0])), (ma, .inl (kO, 10, .inr (.inr (.inr (.inr (zfT t0 t1 t2)))))), (t0, .inr (18, [.int (-1), .ref i0])), (i0, .inl (kT, 0, .inr (.inr (.inr (.inr (fun _ => none)))))), (mt, .inr (1, [.int mo, .ref ma, .int 3])), (mm, .inr (21, [.int 0, .ref ms, .ref mt, .ref mh, .ref me]))] := hD
  have hK : va_K (dC, dI) vwCl [(kO, .object "java/lang/Object"), (kT, .object "HornbookModel$Tree")] s := by simpa using hK
  have hw_11 : r_10 = 0 := hw_11
  have hw_11 := hw_11.symm
  subst hw_11
  refine lv_if_ne (tgt := 72) hx hb dX19_wouldChoose_35 (by decide) (fun c_12 => ?_) (fun c_12 => ?_)
  · exact absurd (by decide) c_12
  refine lv_aload_n hx hb dX19_wouldChoose_38 rfl (lv_at hl 0 rfl) ?_
  refine lv_iload_n hx hb dX19_wouldChoose_39 rfl (lv_at hl 2 rfl) ?_
  refine lv_iconst (v := 0) hx hb dX19_wouldChoose_40 (by decide) ?_
  refine lv_bipush (v := 9) hx hb dX19_wouldChoose_41 (by decide) ?_
  refine z_i (wr := [(mh, .inr (1, [.int 0, .ref eD, .int 0])), (ma, .inl (kO, 10, .inr (.inr (.inr (.inr (zfT t0 t1 t2)))))), (t0, .inr (18, [.int (-1), .ref i0])), (i0, .inl (kT, 0, .inr (.inr (.inr (.inr (fun _ => none)))))), (mt, .inr (1, [.int mo, .ref ma, .int 3])), (mm, .inr (21, [.int 0, .ref ms, .ref mt, .ref mh, .ref me]))]) (va_runS (As := [.int x2, .int 0, .int 9]) (rest := [.ref mm]) ⟨hx, hb, hml, hown, hts⟩ (c_M_isIn_ok l eD eI ad dC dI H.size x2 0 9 (hx20) (hx21)) (va_cwS 3 hts g_c_M_would_9 rfl rfl rfl (by decide +kernel) ⟨Nat.le_of_ble_eq_true rfl, Nat.le_of_ble_eq_true rfl⟩) (z_preS (wc := []) hP hD hK hS hA hE [] [] rfl (by decide) rfl) rfl rfl hl.1 rfl (lv_room (Nat.le_of_ble_eq_true rfl)) dX19_wouldChoose_43 ⟨Nat.le_of_ble_eq_true rfl, Nat.le_of_ble_eq_true rfl⟩) hP hD hK hS hA [] [0, 1, 2, 3, 4, 5] rfl rfl (by decide) (by decide) (fun r_13 u H locs hw_14 hP hD hK hS => ?_)
  obtain ⟨⟩ := u
  have hP : va_P (dC, dI) vwCl [(mh, .inr (1, [.int 0, .ref eD, .int 0])), (ma, .inl (kO, 10, .inr (.inr (.inr (.inr (zfT t0 t1 t2)))))), (t0, .inr (18, [.int (-1), .ref i0])), (i0, .inl (kT, 0, .inr (.inr (.inr (.inr (fun _ => none)))))), (mt, .inr (1, [.int mo, .ref ma, .int 3])), (mm, .inr (21, [.int 0, .ref ms, .ref mt, .ref mh, .ref me]))] H := hP
  have hD : va_D A [(mh, .inr (1, [.int 0, .ref eD, .int 0])), (ma, .inl (kO, 10, .inr (.inr (.inr (.inr (zfT t0 t1 t2)))))), (t0, .inr (18, [.int (-1), .ref i0])), (i0, .inl (kT, 0, .inr (.inr (.inr (.inr (fun _ => none)))))), (mt, .inr (1, [.int mo, .ref ma, .int 3])), (mm, .inr (21, [.int 0, .ref ms, .ref mt, .ref mh, .ref me]))] := hD
  have hK : va_K (dC, dI) vwCl [(kO, .object "java/lang/Object"), (kT, .object "HornbookModel$Tree")] s := by simpa using hK
  have hw_14 : r_13 = 1 := hw_14
  have hw_14 := hw_14.symm
  subst hw_14
  refine lv_if_eq (tgt := 60) hx hb dX19_wouldChoose_46 (by decide) (fun c_15 => ?_) (fun c_15 => ?_)
  · exact absurd c_15 (by decide)
  refine lv_iload_n hx hb dX19_wouldChoose_49 rfl (lv_at hl 3 rfl) ?_
  refine lv_iconst (v := (-1)) hx hb dX19_wouldChoose_50 (by decide) ?_
  refine lv_icmp_ne (tgt := 64) hx hb dX19_wouldChoose_51 (by decide) (fun c_16 => ?_) (fun c_16 => ?_)
  rotate_left
  · exact absurd c_16 (by decide)
  refine lv_iconst (v := 0) hx hb dX19_wouldChoose_64 (by decide) ?_
  refine lv_iconst (v := 2) hx hb dX19_wouldChoose_65 (by decide) ?_
  refine z_i (wr := [(mh, .inr (1, [.int 0, .ref eD, .int 0])), (ma, .inl (kO, 10, .inr (.inr (.inr (.inr (zfT t0 t1 t2)))))), (t0, .inr (18, [.int (-1), .ref i0])), (i0, .inl (kT, 0, .inr (.inr (.inr (.inr (fun _ => none)))))), (mt, .inr (1, [.int mo, .ref ma, .int 3]))]) (va_runV (As := [.int 0, .int 2]) (rest := []) ⟨hx, hb, hml, hown, hts⟩ (c_M_refuse_no l eD eI ad dC dI H.size mm ((.ref ms)) ((.ref mt)) ((.ref mh)) ((.ref me)) 2) (cwV 2 hts g_c_M_would_10 rfl rfl rfl (by decide +kernel) ⟨Nat.le_of_ble_eq_true rfl, Nat.le_of_ble_eq_true rfl⟩) (z_preV (wc := [(mm, .inr (21, [.int 0, .ref ms, .ref mt, .ref mh, .ref me]))]) hP hD hK hS hA hE [5] [] rfl (by decide) rfl (ci := 21) (q0 := 0) rfl rfl) rfl rfl hl.1 rfl (lv_room (Nat.le_of_ble_eq_true rfl)) dX19_wouldChoose_66 ⟨Nat.le_of_ble_eq_true rfl, Nat.le_of_ble_eq_true rfl⟩) hP hD hK hS hA [5] [0, 1, 2, 3, 4] rfl rfl (by decide) (by decide) (fun r_17 u H locs hw_18 hP hD hK hS => ?_)
  obtain ⟨⟩ := u
  have hP : va_P (dC, dI) vwCl [(mh, .inr (1, [.int 0, .ref eD, .int 0])), (ma, .inl (kO, 10, .inr (.inr (.inr (.inr (zfT t0 t1 t2)))))), (t0, .inr (18, [.int (-1), .ref i0])), (i0, .inl (kT, 0, .inr (.inr (.inr (.inr (fun _ => none)))))), (mt, .inr (1, [.int mo, .ref ma, .int 3])), (mm, .inr (21, [.int 0, .ref ms, .ref mt, .ref mh, .ref me]))] H := hP
  have hD : va_D A [(mh, .inr (1, [.int 0, .ref eD, .int 0])), (ma, .inl (kO, 10, .inr (.inr (.inr (.inr (zfT t0 t1 t2)))))), (t0, .inr (18, [.int (-1), .ref i0])), (i0, .inl (kT, 0, .inr (.inr (.inr (.inr (fun _ => none)))))), (mt, .inr (1, [.int mo, .ref ma, .int 3])), (mm, .inr (21, [.int 0, .ref ms, .ref mt, .ref mh, .ref me]))] := hD
  have hK : va_K (dC, dI) vwCl [(kO, .object "java/lang/Object"), (kT, .object "HornbookModel$Tree")] s := by simpa using hK
  have hw_18 : r_17 = 0 := hw_18
  have hw_18 := hw_18.symm
  subst hw_18
  refine lv_if_eq (tgt := 74) hx hb dX19_wouldChoose_69 (by decide) (fun c_19 => ?_) (fun c_19 => ?_)
  rotate_left
  · exact absurd (by decide) c_19
  refine lv_aload_n hx hb dX19_wouldChoose_74 rfl (lv_at hl 0 rfl) ?_
  refine lv_iload_n hx hb dX19_wouldChoose_75 rfl (lv_at hl 3 rfl) ?_
  refine lv_iload hx hb dX19_wouldChoose_76 (lv_at hl 4 rfl) ?_
  refine z_q (wr := [(mh, .inr (1, [.int 0, .ref eD, .int 0])), (i0, .inl (kT, 0, .inr (.inr (.inr (.inr (fun _ => none))))))]) (va_runV (As := [.int 0, .int (-1)]) (rest := []) ⟨hx, hb, hml, hown, hts⟩ (c_M_trees_0 l eD eI ad dC dI H.size mm ms mt mh me 0 mo ma kO t0 t1 t2 ((.ref i0))) (cwV 2 hts g_c_M_would_24 rfl rfl rfl (by decide +kernel) ⟨Nat.le_of_ble_eq_true rfl, Nat.le_of_ble_eq_true rfl⟩) (z_preV (wc := [(mm, .inr (21, [.int 0, .ref ms, .ref mt, .ref mh, .ref me])), (mt, .inr (1, [.int mo, .ref ma, .int 3])), (ma, .inl (kO, 10, .inr (.inr (.inr (.inr (zfT t0 t1 t2)))))), (t0, .inr (18, [.int (-1), .ref i0]))]) hP hD hK hS hA hE [5, 4, 1, 2] [0] rfl (by decide) rfl (ci := 21) (q0 := 0) rfl rfl) rfl rfl hl.1 rfl (lv_room (Nat.le_of_ble_eq_true rfl)) dX19_wouldChoose_78 ⟨Nat.le_of_ble_eq_true rfl, Nat.le_of_ble_eq_true rfl⟩) hP hD hK hS hA [5, 4, 1, 2] [0, 3] rfl rfl (by decide) (by decide) (fun r_22 u H locs hw_23 hP hD hK hS => ?_)
  obtain ⟨u_20, u_21⟩ := u
  have hP : va_P (dC, dI) vwCl [(mh, .inr (1, [.int 0, .ref eD, .int 0])), (i0, .inl (kT, 0, .inr (.inr (.inr (.inr (fun _ => none)))))), (mm, .inr (21, [.int 0, .ref ms, .ref mt, .ref mh, .ref me])), (mt, .inr (1, [.int mo, .ref ma, .int 3])), (ma, .inl (kO, 10, .inr (.inr (.inr (.inr (zfT t0 t1 t2)))))), (t0, .inr (18, [.int (-1), .ref i0])), (u_20, .inl (u_21, 1, .inr (.inr (.inr (.inr (va_up (fun _ => none) (0 : Int32).toNatClampNeg (some t0)))))))] H := hP
  have hD : va_D A [(mh, .inr (1, [.int 0, .ref eD, .int 0])), (i0, .inl (kT, 0, .inr (.inr (.inr (.inr (fun _ => none)))))), (mm, .inr (21, [.int 0, .ref ms, .ref mt, .ref mh, .ref me])), (mt, .inr (1, [.int mo, .ref ma, .int 3])), (ma, .inl (kO, 10, .inr (.inr (.inr (.inr (zfT t0 t1 t2)))))), (t0, .inr (18, [.int (-1), .ref i0])), (u_20, .inl (u_21, 1, .inr (.inr (.inr (.inr (va_up (fun _ => none) (0 : Int32).toNatClampNeg (some t0)))))))] := hD
  have hK : va_K (dC, dI) vwCl [(kO, .object "java/lang/Object"), (kT, .object "HornbookModel$Tree"), (kO, .object "java/lang/Object"), (u_21, .object "HornbookModel$Tree")] s := hK
  have hw_23 : r_22 = some u_20 := hw_23
  have hw_23 := hw_23.symm
  subst hw_23
  refine W.eq (g2 := F0 m 81 ls (.ref u_20 :: [])) rfl ?_
  refine lv_astore (lv' := [(5, .ref u_20), (0, .ref mm), (1, .int 0), (2, .int x2), (3, .int 0), (4, .int (-1))]) hx hb dX19_wouldChoose_81 hl (by decide) rfl (fun ls hl => ?_)
  refine lv_aload_n hx hb dX19_wouldChoose_83 rfl (lv_at hl 1 rfl) ?_
  refine lv_iload_n hx hb dX19_wouldChoose_84 rfl (lv_at hl 2 rfl) ?_
  refine z_q (wr := [(mh, .inr (1, [.int 0, .ref eD, .int 0])), (i0, .inl (kT, 0, .inr (.inr (.inr (.inr (fun _ => none)))))), (u_20, .inl (u_21, 1, .inr (.inr (.inr (.inr (va_up (fun _ => none) (0 : Int32).toNatClampNeg (some t0)))))))]) (va_runV (As := [.int 0]) (rest := []) ⟨hx, hb, hml, hown, hts⟩ (c_M_type_0 l eD eI ad dC dI H.size mm ms mt mh me 0 mo ma kO t0 t1 t2 ((.ref i0))) (cwV 1 hts g_c_M_would_12 rfl rfl rfl (by decide +kernel) ⟨Nat.le_of_ble_eq_true rfl, Nat.le_of_ble_eq_true rfl⟩) (z_preV (wc := [(mm, .inr (21, [.int 0, .ref ms, .ref mt, .ref mh, .ref me])), (mt, .inr (1, [.int mo, .ref ma, .int 3])), (ma, .inl (kO, 10, .inr (.inr (.inr (.inr (zfT t0 t1 t2)))))), (t0, .inr (18, [.int (-1), .ref i0]))]) hP hD hK hS hA hE [2, 3, 4, 5] [0] rfl (by decide) rfl (ci := 21) (q0 := 0) rfl rfl) rfl rfl hl.1 rfl (lv_room (Nat.le_of_ble_eq_true rfl)) dX19_wouldChoose_85 ⟨Nat.le_of_ble_eq_true rfl, Nat.le_of_ble_eq_true rfl⟩) hP hD hK hS hA [2, 3, 4, 5] [0, 1, 6] rfl rfl (by decide) (by decide) (fun r_24 u H locs hw_25 hP hD hK hS => ?_)
  obtain ⟨⟩ := u
  have hP : va_P (dC, dI) vwCl [(mh, .inr (1, [.int 0, .ref eD, .int 0])), (i0, .inl (kT, 0, .inr (.inr (.inr (.inr (fun _ => none)))))), (u_20, .inl (u_21, 1, .inr (.inr (.inr (.inr (va_up (fun _ => none) (0 : Int32).toNatClampNeg (some t0))))))), (mm, .inr (21, [.int 0, .ref ms, .ref mt, .ref mh, .ref me])), (mt, .inr (1, [.int mo, .ref ma, .int 3])), (ma, .inl (kO, 10, .inr (.inr (.inr (.inr (zfT t0 t1 t2)))))), (t0, .inr (18, [.int (-1), .ref i0]))] H := hP
  have hD : va_D A [(mh, .inr (1, [.int 0, .ref eD, .int 0])), (i0, .inl (kT, 0, .inr (.inr (.inr (.inr (fun _ => none)))))), (u_20, .inl (u_21, 1, .inr (.inr (.inr (.inr (va_up (fun _ => none) (0 : Int32).toNatClampNeg (some t0))))))), (mm, .inr (21, [.int 0, .ref ms, .ref mt, .ref mh, .ref me])), (mt, .inr (1, [.int mo, .ref ma, .int 3])), (ma, .inl (kO, 10, .inr (.inr (.inr (.inr (zfT t0 t1 t2)))))), (t0, .inr (18, [.int (-1), .ref i0]))] := hD
  have hK : va_K (dC, dI) vwCl [(kO, .object "java/lang/Object"), (kT, .object "HornbookModel$Tree"), (kO, .object "java/lang/Object"), (u_21, .object "HornbookModel$Tree")] s := by simpa using hK
  have hw_25 : r_24 = some t0 := hw_25
  have hw_25 := hw_25.symm
  subst hw_25
  refine W.eq (g2 := F0 m 88 ls (.ref t0 :: [])) rfl ?_
  refine z_i (wr := [(mh, .inr (1, [.int 0, .ref eD, .int 0])), (u_20, .inl (u_21, 1, .inr (.inr (.inr (.inr (va_up (fun _ => none) (0 : Int32).toNatClampNeg (some t0))))))), (mm, .inr (21, [.int 0, .ref ms, .ref mt, .ref mh, .ref me])), (mt, .inr (1, [.int mo, .ref ma, .int 3])), (ma, .inl (kO, 10, .inr (.inr (.inr (.inr (zfT t0 t1 t2))))))]) (va_runV (As := []) (rest := []) ⟨hx, hb, hml, hown, hts⟩ (c_T_isClosed_1 l eD eI ad dC dI H.size t0 i0 kT) (cwV 0 hts g_c_M_would_13 rfl rfl rfl (by decide +kernel) ⟨Nat.le_of_ble_eq_true rfl, Nat.le_of_ble_eq_true rfl⟩) (z_preV (wc := [(t0, .inr (18, [.int (-1), .ref i0])), (i0, .inl (kT, 0, .inr (.inr (.inr (.inr (fun _ => none))))))]) hP hD hK hS hA hE [6, 1] [1] rfl (by decide) rfl (ci := 18) (q0 := 0) rfl rfl) rfl rfl hl.1 rfl (lv_room (Nat.le_of_ble_eq_true rfl)) dX19_wouldChoose_88 ⟨Nat.le_of_ble_eq_true rfl, Nat.le_of_ble_eq_true rfl⟩) hP hD hK hS hA [6, 1] [0, 2, 3, 4, 5] rfl rfl (by decide) (by decide) (fun r_26 u H locs hw_27 hP hD hK hS => ?_)
  obtain ⟨⟩ := u
  have hP : va_P (dC, dI) vwCl [(mh, .inr (1, [.int 0, .ref eD, .int 0])), (u_20, .inl (u_21, 1, .inr (.inr (.inr (.inr (va_up (fun _ => none) (0 : Int32).toNatClampNeg (some t0))))))), (mm, .inr (21, [.int 0, .ref ms, .ref mt, .ref mh, .ref me])), (mt, .inr (1, [.int mo, .ref ma, .int 3])), (ma, .inl (kO, 10, .inr (.inr (.inr (.inr (zfT t0 t1 t2)))))), (t0, .inr (18, [.int (-1), .ref i0])), (i0, .inl (kT, 0, .inr (.inr (.inr (.inr (fun _ => none))))))] H := hP
  have hD : va_D A [(mh, .inr (1, [.int 0, .ref eD, .int 0])), (u_20, .inl (u_21, 1, .inr (.inr (.inr (.inr (va_up (fun _ => none) (0 : Int32).toNatClampNeg (some t0))))))), (mm, .inr (21, [.int 0, .ref ms, .ref mt, .ref mh, .ref me])), (mt, .inr (1, [.int mo, .ref ma, .int 3])), (ma, .inl (kO, 10, .inr (.inr (.inr (.inr (zfT t0 t1 t2)))))), (t0, .inr (18, [.int (-1), .ref i0])), (i0, .inl (kT, 0, .inr (.inr (.inr (.inr (fun _ => none))))))] := hD
  have hK : va_K (dC, dI) vwCl [(kO, .object "java/lang/Object"), (kT, .object "HornbookModel$Tree"), (kO, .object "java/lang/Object"), (u_21, .object "HornbookModel$Tree")] s := by simpa using hK
  have hw_27 : r_26 = 1 := hw_27
  have hw_27 := hw_27.symm
  subst hw_27
  refine lv_istore (lv' := [(6, .int 1), (5, .ref u_20), (0, .ref mm), (1, .int 0), (2, .int x2), (3, .int 0), (4, .int (-1))]) hx hb dX19_wouldChoose_91 hl (by decide) rfl (fun ls hl => ?_)
  refine lv_aload hx hb dX19_wouldChoose_93 (lv_at hl 1 rfl) ?_
  refine lv_astore (lv' := [(7, .ref u_20), (6, .int 1), (5, .ref u_20), (0, .ref mm), (1, .int 0), (2, .int x2), (3, .int 0), (4, .int (-1))]) hx hb dX19_wouldChoose_95 hl (by decide) rfl (fun ls hl => ?_)
  refine lv_aload hx hb dX19_wouldChoose_97 (lv_at hl 0 rfl) ?_
  refine va_alen (D := (dC, dI)) (v := 1) hx hb hK hP 1 3 rfl rfl rfl dX19_wouldChoose_99 ?_
  refine lv_istore (lv' := [(8, .int 1), (7, .ref u_20), (6, .int 1), (5, .ref u_20), (0, .ref mm), (1, .int 0), (2, .int x2), (3, .int 0), (4, .int (-1))]) hx hb dX19_wouldChoose_100 hl (by decide) rfl (fun ls hl => ?_)
  refine lv_iconst (v := 0) hx hb dX19_wouldChoose_102 (by decide) ?_
  refine lv_istore (lv' := [(9, .int 0), (8, .int 1), (7, .ref u_20), (6, .int 1), (5, .ref u_20), (0, .ref mm), (1, .int 0), (2, .int x2), (3, .int 0), (4, .int (-1))]) hx hb dX19_wouldChoose_103 hl (by decide) rfl (fun ls hl => ?_)
  refine lv_iload hx hb dX19_wouldChoose_105 (lv_at hl 0 rfl) ?_
  refine lv_iload hx hb dX19_wouldChoose_107 (lv_at hl 1 rfl) ?_
  refine lv_icmp_ge (tgt := 135) hx hb dX19_wouldChoose_109 (by decide) (fun c_28 => ?_) (fun c_28 => ?_)
  · exact absurd c_28 (by decide)
  refine lv_aload hx hb dX19_wouldChoose_112 (lv_at hl 2 rfl) ?_
  refine lv_iload hx hb dX19_wouldChoose_114 (lv_at hl 0 rfl) ?_
  refine va_aldq (D := (dC, dI)) hx hb hK hP 1 3 rfl rfl (by unfold vp_in; decide) dX19_wouldChoose_116 ?_
  refine z_top (v' := .ref t0) (by first | rfl | decide | simp [va_up, va_rf]) ?_
  refine lv_astore (lv' := [(10, .ref t0), (9, .int 0), (8, .int 1), (7, .ref u_20), (6, .int 1), (5, .ref u_20), (0, .ref mm), (1, .int 0), (2, .int x2), (3, .int 0), (4, .int (-1))]) hx hb dX19_wouldChoose_117 hl (by decide) rfl (fun ls hl => ?_)
  refine lv_iload hx hb dX19_wouldChoose_119 (lv_at hl 4 rfl) ?_
  refine lv_aload hx hb dX19_wouldChoose_121 (lv_at hl 0 rfl) ?_
  refine z_i (wr := [(mh, .inr (1, [.int 0, .ref eD, .int 0])), (u_20, .inl (u_21, 1, .inr (.inr (.inr (.inr (va_up (fun _ => none) (0 : Int32).toNatClampNeg (some t0))))))), (mm, .inr (21, [.int 0, .ref ms, .ref mt, .ref mh, .ref me])), (mt, .inr (1, [.int mo, .ref ma, .int 3])), (ma, .inl (kO, 10, .inr (.inr (.inr (.inr (zfT t0 t1 t2))))))]) (va_runV (As := []) (rest := [.int 1]) ⟨hx, hb, hml, hown, hts⟩ (c_T_isClosed_1 l eD eI ad dC dI H.size t0 i0 kT) (cwV 0 hts g_c_M_would_13 rfl rfl rfl (by decide +kernel) ⟨Nat.le_of_ble_eq_true rfl, Nat.le_of_ble_eq_true rfl⟩) (z_preV (wc := [(t0, .inr (18, [.int (-1), .ref i0])), (i0, .inl (kT, 0, .inr (.inr (.inr (.inr (fun _ => none))))))]) hP hD hK hS hA hE [5, 6] [1] rfl (by decide) rfl (ci := 18) (q0 := 0) rfl rfl) rfl rfl hl.1 rfl (lv_room (Nat.le_of_ble_eq_true rfl)) dX19_wouldChoose_123 ⟨Nat.le_of_ble_eq_true rfl, Nat.le_of_ble_eq_true rfl⟩) hP hD hK hS hA [5, 6] [0, 1, 2, 3, 4] rfl rfl (by decide) (by decide) (fun r_29 u H locs hw_30 hP hD hK hS => ?_)
  obtain ⟨⟩ := u
  have hP : va_P (dC, dI) vwCl [(mh, .inr (1, [.int 0, .ref eD, .int 0])), (u_20, .inl (u_21, 1, .inr (.inr (.inr (.inr (va_up (fun _ => none) (0 : Int32).toNatClampNeg (some t0))))))), (mm, .inr (21, [.int 0, .ref ms, .ref mt, .ref mh, .ref me])), (mt, .inr (1, [.int mo, .ref ma, .int 3])), (ma, .inl (kO, 10, .inr (.inr (.inr (.inr (zfT t0 t1 t2)))))), (t0, .inr (18, [.int (-1), .ref i0])), (i0, .inl (kT, 0, .inr (.inr (.inr (.inr (fun _ => none))))))] H := hP
  have hD : va_D A [(mh, .inr (1, [.int 0, .ref eD, .int 0])), (u_20, .inl (u_21, 1, .inr (.inr (.inr (.inr (va_up (fun _ => none) (0 : Int32).toNatClampNeg (some t0))))))), (mm, .inr (21, [.int 0, .ref ms, .ref mt, .ref mh, .ref me])), (mt, .inr (1, [.int mo, .ref ma, .int 3])), (ma, .inl (kO, 10, .inr (.inr (.inr (.inr (zfT t0 t1 t2)))))), (t0, .inr (18, [.int (-1), .ref i0])), (i0, .inl (kT, 0, .inr (.inr (.inr (.inr (fun _ => none))))))] := hD
  have hK : va_K (dC, dI) vwCl [(kO, .object "java/lang/Object"), (kT, .object "HornbookModel$Tree"), (kO, .object "java/lang/Object"), (u_21, .object "HornbookModel$Tree")] s := by simpa using hK
  have hw_30 : r_29 = 1 := hw_30
  have hw_30 := hw_30.symm
  subst hw_30
  refine lv_iand hx hb dX19_wouldChoose_126 ?_
  refine z_top (v' := .int 1) (congrArg Value.int (by decide)) ?_
  refine lv_istore (lv' := [(6, .int 1), (10, .ref t0), (9, .int 0), (8, .int 1), (7, .ref u_20), (5, .ref u_20), (0, .ref mm), (1, .int 0), (2, .int x2), (3, .int 0), (4, .int (-1))]) hx hb dX19_wouldChoose_127 hl (by decide) rfl (fun ls hl => ?_)
  refine lv_iinc (v := 1) (lv' := [(9, .int 1), (6, .int 1), (10, .ref t0), (8, .int 1), (7, .ref u_20), (5, .ref u_20), (0, .ref mm), (1, .int 0), (2, .int x2), (3, .int 0), (4, .int (-1))]) hx hb dX19_wouldChoose_129 hl (k := 2) rfl (by decide) (by decide) rfl (fun ls hl => ?_)
  refine lv_goto (tgt := 105) hx hb dX19_wouldChoose_132 (by decide) ?_
  refine lv_iload hx hb dX19_wouldChoose_105 (lv_at hl 0 rfl) ?_
  refine lv_iload hx hb dX19_wouldChoose_107 (lv_at hl 3 rfl) ?_
  refine lv_icmp_ge (tgt := 135) hx hb dX19_wouldChoose_109 (by decide) (fun c_31 => ?_) (fun c_31 => ?_)
  rotate_left
  · exact absurd (by decide) c_31
  refine lv_aload_n hx hb dX19_wouldChoose_135 rfl (lv_at hl 6 rfl) ?_
  refine lv_iload hx hb dX19_wouldChoose_136 (lv_at hl 1 rfl) ?_
  refine lv_if_ne (tgt := 145) hx hb dX19_wouldChoose_138 (by decide) (fun c_32 => ?_) (fun c_32 => ?_)
  rotate_left
  · exact absurd c_32 (by decide)
  refine lv_iconst (v := 0) hx hb dX19_wouldChoose_145 (by decide) ?_
  refine lv_iconst (v := 2) hx hb dX19_wouldChoose_146 (by decide) ?_
  refine z_i (wr := [(mh, .inr (1, [.int 0, .ref eD, .int 0])), (u_20, .inl (u_21, 1, .inr (.inr (.inr (.inr (va_up (fun _ => none) (0 : Int32).toNatClampNeg (some t0))))))), (mt, .inr (1, [.int mo, .ref ma, .int 3])), (ma, .inl (kO, 10, .inr (.inr (.inr (.inr (zfT t0 t1 t2)))))), (t0, .inr (18, [.int (-1), .ref i0])), (i0, .inl (kT, 0, .inr (.inr (.inr (.inr (fun _ => none))))))]) (va_runV (As := [.int 0, .int 2]) (rest := []) ⟨hx, hb, hml, hown, hts⟩ (c_M_refuse_no l eD eI ad dC dI H.size mm ((.ref ms)) ((.ref mt)) ((.ref mh)) ((.ref me)) 2) (cwV 2 hts g_c_M_would_10 rfl rfl rfl (by decide +kernel) ⟨Nat.le_of_ble_eq_true rfl, Nat.le_of_ble_eq_true rfl⟩) (z_preV (wc := [(mm, .inr (21, [.int 0, .ref ms, .ref mt, .ref mh, .ref me]))]) hP hD hK hS hA hE [2] [] rfl (by decide) rfl (ci := 21) (q0 := 0) rfl rfl) rfl rfl hl.1 rfl (lv_room (Nat.le_of_ble_eq_true rfl)) dX19_wouldChoose_147 ⟨Nat.le_of_ble_eq_true rfl, Nat.le_of_ble_eq_true rfl⟩) hP hD hK hS hA [2] [0, 1, 3, 4, 5, 6] rfl rfl (by decide) (by decide) (fun r_33 u H locs hw_34 hP hD hK hS => ?_)
  obtain ⟨⟩ := u
  have hP : va_P (dC, dI) vwCl [(mh, .inr (1, [.int 0, .ref eD, .int 0])), (u_20, .inl (u_21, 1, .inr (.inr (.inr (.inr (va_up (fun _ => none) (0 : Int32).toNatClampNeg (some t0))))))), (mt, .inr (1, [.int mo, .ref ma, .int 3])), (ma, .inl (kO, 10, .inr (.inr (.inr (.inr (zfT t0 t1 t2)))))), (t0, .inr (18, [.int (-1), .ref i0])), (i0, .inl (kT, 0, .inr (.inr (.inr (.inr (fun _ => none)))))), (mm, .inr (21, [.int 0, .ref ms, .ref mt, .ref mh, .ref me]))] H := hP
  have hD : va_D A [(mh, .inr (1, [.int 0, .ref eD, .int 0])), (u_20, .inl (u_21, 1, .inr (.inr (.inr (.inr (va_up (fun _ => none) (0 : Int32).toNatClampNeg (some t0))))))), (mt, .inr (1, [.int mo, .ref ma, .int 3])), (ma, .inl (kO, 10, .inr (.inr (.inr (.inr (zfT t0 t1 t2)))))), (t0, .inr (18, [.int (-1), .ref i0])), (i0, .inl (kT, 0, .inr (.inr (.inr (.inr (fun _ => none)))))), (mm, .inr (21, [.int 0, .ref ms, .ref mt, .ref mh, .ref me]))] := hD
  have hK : va_K (dC, dI) vwCl [(kO, .object "java/lang/Object"), (kT, .object "HornbookModel$Tree"), (kO, .object "java/lang/Object"), (u_21, .object "HornbookModel$Tree")] s := by simpa using hK
  have hw_34 : r_33 = 0 := hw_34
  have hw_34 := hw_34.symm
  subst hw_34
  refine lv_if_eq (tgt := 155) hx hb dX19_wouldChoose_150 (by decide) (fun c_35 => ?_) (fun c_35 => ?_)
  rotate_left
  · exact absurd (by decide) c_35
  refine va_new (ci := 20) (fs := [.null, .int 0, .int 0, .int 0, .null, .int 0, .int 0]) (C := RX18) (T := TX18) (N := 7) hx hb hts in_RX18 tyX18 tyX18_ok hown (hts (.classLink RX19 184 RX18) (by decide +kernel)) (hts (.instantiable RX18 7) (by decide +kernel)) (hts (.initialized RX18) (by decide +kernel)) hK hP hD hS hA rfl (fun j hj => by rcases (show j = 0 ∨ j = 1 ∨ j = 2 ∨ j = 3 ∨ j = 4 ∨ j = 5 ∨ j = 6 by omega) with rfl | rfl | rfl | rfl | rfl | rfl | rfl <;> rfl) (Nat.le_of_ble_eq_true rfl) (Nat.le_of_ble_eq_true rfl) dX19_wouldChoose_155 (fun q_36 H hP hD hS => ?_)
  have hP : va_P (dC, dI) vwCl [(mh, .inr (1, [.int 0, .ref eD, .int 0])), (u_20, .inl (u_21, 1, .inr (.inr (.inr (.inr (va_up (fun _ => none) (0 : Int32).toNatClampNeg (some t0))))))), (mt, .inr (1, [.int mo, .ref ma, .int 3])), (ma, .inl (kO, 10, .inr (.inr (.inr (.inr (zfT t0 t1 t2)))))), (t0, .inr (18, [.int (-1), .ref i0])), (i0, .inl (kT, 0, .inr (.inr (.inr (.inr (fun _ => none)))))), (mm, .inr (21, [.int 0, .ref ms, .ref mt, .ref mh, .ref me])), (q_36, .inr (20, [.null, .int 0, .int 0, .int 0, .null, .int 0, .int 0]))] H := hP
  have hD : va_D A [(mh, .inr (1, [.int 0, .ref eD, .int 0])), (u_20, .inl (u_21, 1, .inr (.inr (.inr (.inr (va_up (fun _ => none) (0 : Int32).toNatClampNeg (some t0))))))), (mt, .inr (1, [.int mo, .ref ma, .int 3])), (ma, .inl (kO, 10, .inr (.inr (.inr (.inr (zfT t0 t1 t2)))))), (t0, .inr (18, [.int (-1), .ref i0])), (i0, .inl (kT, 0, .inr (.inr (.inr (.inr (fun _ => none)))))), (mm, .inr (21, [.int 0, .ref ms, .ref mt, .ref mh, .ref me])), (q_36, .inr (20, [.null, .int 0, .int 0, .int 0, .null, .int 0, .int 0]))] := hD
  refine lv_dup hx hb dX19_wouldChoose_158 rfl ?_
  refine z_v (wr := [(mh, .inr (1, [.int 0, .ref eD, .int 0])), (u_20, .inl (u_21, 1, .inr (.inr (.inr (.inr (va_up (fun _ => none) (0 : Int32).toNatClampNeg (some t0))))))), (mt, .inr (1, [.int mo, .ref ma, .int 3])), (ma, .inl (kO, 10, .inr (.inr (.inr (.inr (zfT t0 t1 t2)))))), (t0, .inr (18, [.int (-1), .ref i0])), (i0, .inl (kT, 0, .inr (.inr (.inr (.inr (fun _ => none)))))), (mm, .inr (21, [.int 0, .ref ms, .ref mt, .ref mh, .ref me]))]) (va_runIN (As := []) (rest := [.ref q_36]) ⟨hx, hb, hml, hown, hts⟩ (c_W_init l eD eI ad dC dI H.size q_36) (⟨va_cnB 0 hts g_c_M_would_14 rfl rfl rfl (hE.2.2.1 (.methodLinkNest RX19 226 yX18_init "HornbookModel") (by decide +kernel)) (hts (.initialized RX18) (by decide +kernel)) (by decide +kernel) ⟨Nat.le_of_ble_eq_true rfl, Nat.le_of_ble_eq_true rfl⟩, rfl, (hts (.instanceMethod yX18_init) (by decide +kernel))⟩) (z_preS (wc := [(q_36, .inr (20, [.null, .int 0, .int 0, .int 0, .null, .int 0, .int 0]))]) hP hD hK hS hA hE [7] [] rfl (by decide) rfl) rfl rfl hl.1 rfl (lv_room (Nat.le_of_ble_eq_true rfl)) dX19_wouldChoose_159 ⟨Nat.le_of_ble_eq_true rfl, Nat.le_of_ble_eq_true rfl⟩) hP hD hK hS hA [7] [0, 1, 2, 3, 4, 5, 6] rfl rfl (by decide) (by decide) (fun u H locs hw_38 hP hD hK hS => ?_)
  obtain ⟨⟩ := u
  have hP : va_P (dC, dI) vwCl [(mh, .inr (1, [.int 0, .ref eD, .int 0])), (u_20, .inl (u_21, 1, .inr (.inr (.inr (.inr (va_up (fun _ => none) (0 : Int32).toNatClampNeg (some t0))))))), (mt, .inr (1, [.int mo, .ref ma, .int 3])), (ma, .inl (kO, 10, .inr (.inr (.inr (.inr (zfT t0 t1 t2)))))), (t0, .inr (18, [.int (-1), .ref i0])), (i0, .inl (kT, 0, .inr (.inr (.inr (.inr (fun _ => none)))))), (mm, .inr (21, [.int 0, .ref ms, .ref mt, .ref mh, .ref me])), (q_36, .inr (20, [.null, .int 0, .int 0, .int (-1), .null, .int 0, .int 0]))] H := hP
  have hD : va_D A [(mh, .inr (1, [.int 0, .ref eD, .int 0])), (u_20, .inl (u_21, 1, .inr (.inr (.inr (.inr (va_up (fun _ => none) (0 : Int32).toNatClampNeg (some t0))))))), (mt, .inr (1, [.int mo, .ref ma, .int 3])), (ma, .inl (kO, 10, .inr (.inr (.inr (.inr (zfT t0 t1 t2)))))), (t0, .inr (18, [.int (-1), .ref i0])), (i0, .inl (kT, 0, .inr (.inr (.inr (.inr (fun _ => none)))))), (mm, .inr (21, [.int 0, .ref ms, .ref mt, .ref mh, .ref me])), (q_36, .inr (20, [.null, .int 0, .int 0, .int (-1), .null, .int 0, .int 0]))] := hD
  have hK : va_K (dC, dI) vwCl [(kO, .object "java/lang/Object"), (kT, .object "HornbookModel$Tree"), (kO, .object "java/lang/Object"), (u_21, .object "HornbookModel$Tree")] s := by simpa using hK
  refine lv_astore (lv' := [(7, .ref q_36), (9, .int 1), (6, .int 1), (10, .ref t0), (8, .int 1), (5, .ref u_20), (0, .ref mm), (1, .int 0), (2, .int x2), (3, .int 0), (4, .int (-1))]) hx hb dX19_wouldChoose_162 hl (by decide) rfl (fun ls hl => ?_)
  refine lv_aload_n hx hb dX19_wouldChoose_164 rfl (lv_at hl 6 rfl) ?_
  refine z_q (wr := [(mh, .inr (1, [.int 0, .ref eD, .int 0])), (u_20, .inl (u_21, 1, .inr (.inr (.inr (.inr (va_up (fun _ => none) (0 : Int32).toNatClampNeg (some t0))))))), (mt, .inr (1, [.int mo, .ref ma, .int 3])), (ma, .inl (kO, 10, .inr (.inr (.inr (.inr (zfT t0 t1 t2)))))), (t0, .inr (18, [.int (-1), .ref i0])), (i0, .inl (kT, 0, .inr (.inr (.inr (.inr (fun _ => none)))))), (q_36, .inr (20, [.null, .int 0, .int 0, .int (-1), .null, .int 0, .int 0]))]) (va_runV (As := []) (rest := []) ⟨hx, hb, hml, hown, hts⟩ (c_M_view l eD eI ad dC dI H.size mm ms mt mh me 0) (cwV 0 hts g_c_M_would_15 rfl rfl rfl (by decide +kernel) ⟨Nat.le_of_ble_eq_true rfl, Nat.le_of_ble_eq_true rfl⟩) (z_preV (wc := [(mm, .inr (21, [.int 0, .ref ms, .ref mt, .ref mh, .ref me]))]) hP hD hK hS hA hE [6] [] rfl (by decide) rfl (ci := 21) (q0 := 0) rfl rfl) rfl rfl hl.1 rfl (lv_room (Nat.le_of_ble_eq_true rfl)) dX19_wouldChoose_165 ⟨Nat.le_of_ble_eq_true rfl, Nat.le_of_ble_eq_true rfl⟩) hP hD hK hS hA [6] [0, 1, 2, 3, 4, 5, 7] rfl rfl (by decide) (by decide) (fun r_40 u H locs hw_41 hP hD hK hS => ?_)
  obtain ⟨u_39, rfl⟩ : ∃ z, z = u := ⟨_, rfl⟩
  have hP : va_P (dC, dI) vwCl [(mh, .inr (1, [.int 0, .ref eD, .int 0])), (u_20, .inl (u_21, 1, .inr (.inr (.inr (.inr (va_up (fun _ => none) (0 : Int32).toNatClampNeg (some t0))))))), (mt, .inr (1, [.int mo, .ref ma, .int 3])), (ma, .inl (kO, 10, .inr (.inr (.inr (.inr (zfT t0 t1 t2)))))), (t0, .inr (18, [.int (-1), .ref i0])), (i0, .inl (kT, 0, .inr (.inr (.inr (.inr (fun _ => none)))))), (q_36, .inr (20, [.null, .int 0, .int 0, .int (-1), .null, .int 0, .int 0])), (mm, .inr (21, [.int 0, .ref ms, .ref mt, .ref mh, .ref me])), (u_39, .inr (19, [.int (-1), .int (-1), .int (-1), .int (-1), .ref mm]))] H := hP
  have hD : va_D A [(mh, .inr (1, [.int 0, .ref eD, .int 0])), (u_20, .inl (u_21, 1, .inr (.inr (.inr (.inr (va_up (fun _ => none) (0 : Int32).toNatClampNeg (some t0))))))), (mt, .inr (1, [.int mo, .ref ma, .int 3])), (ma, .inl (kO, 10, .inr (.inr (.inr (.inr (zfT t0 t1 t2)))))), (t0, .inr (18, [.int (-1), .ref i0])), (i0, .inl (kT, 0, .inr (.inr (.inr (.inr (fun _ => none)))))), (q_36, .inr (20, [.null, .int 0, .int 0, .int (-1), .null, .int 0, .int 0])), (mm, .inr (21, [.int 0, .ref ms, .ref mt, .ref mh, .ref me])), (u_39, .inr (19, [.int (-1), .int (-1), .int (-1), .int (-1), .ref mm]))] := hD
  have hK : va_K (dC, dI) vwCl [(kO, .object "java/lang/Object"), (kT, .object "HornbookModel$Tree"), (kO, .object "java/lang/Object"), (u_21, .object "HornbookModel$Tree")] s := by simpa using hK
  have hw_41 : r_40 = some u_39 := hw_41
  have hw_41 := hw_41.symm
  subst hw_41
  refine W.eq (g2 := F0 m 168 ls (.ref u_39 :: [])) rfl ?_
  refine lv_aload_n hx hb dX19_wouldChoose_168 rfl (lv_at hl 6 rfl) ?_
  refine lv_iload_n hx hb dX19_wouldChoose_169 rfl (lv_at hl 7 rfl) ?_
  refine z_q (wr := [(mh, .inr (1, [.int 0, .ref eD, .int 0])), (u_20, .inl (u_21, 1, .inr (.inr (.inr (.inr (va_up (fun _ => none) (0 : Int32).toNatClampNeg (some t0))))))), (i0, .inl (kT, 0, .inr (.inr (.inr (.inr (fun _ => none)))))), (q_36, .inr (20, [.null, .int 0, .int 0, .int (-1), .null, .int 0, .int 0])), (u_39, .inr (19, [.int (-1), .int (-1), .int (-1), .int (-1), .ref mm]))]) (va_runV (As := [.int 0]) (rest := [.ref u_39]) ⟨hx, hb, hml, hown, hts⟩ (c_M_type_0 l eD eI ad dC dI H.size mm ms mt mh me 0 mo ma kO t0 t1 t2 ((.ref i0))) (cwV 1 hts g_c_M_would_12 rfl rfl rfl (by decide +kernel) ⟨Nat.le_of_ble_eq_true rfl, Nat.le_of_ble_eq_true rfl⟩) (z_preV (wc := [(mm, .inr (21, [.int 0, .ref ms, .ref mt, .ref mh, .ref me])), (mt, .inr (1, [.int mo, .ref ma, .int 3])), (ma, .inl (kO, 10, .inr (.inr (.inr (.inr (zfT t0 t1 t2)))))), (t0, .inr (18, [.int (-1), .ref i0]))]) hP hD hK hS hA hE [7, 2, 3, 4] [0] rfl (by decide) rfl (ci := 21) (q0 := 0) rfl rfl) rfl rfl hl.1 rfl (lv_room (Nat.le_of_ble_eq_true rfl)) dX19_wouldChoose_170 ⟨Nat.le_of_ble_eq_true rfl, Nat.le_of_ble_eq_true rfl⟩) hP hD hK hS hA [7, 2, 3, 4] [0, 1, 5, 6, 8] rfl rfl (by decide) (by decide) (fun r_42 u H locs hw_43 hP hD hK hS => ?_)
  obtain ⟨⟩ := u
  have hP : va_P (dC, dI) vwCl [(mh, .inr (1, [.int 0, .ref eD, .int 0])), (u_20, .inl (u_21, 1, .inr (.inr (.inr (.inr (va_up (fun _ => none) (0 : Int32).toNatClampNeg (some t0))))))), (i0, .inl (kT, 0, .inr (.inr (.inr (.inr (fun _ => none)))))), (q_36, .inr (20, [.null, .int 0, .int 0, .int (-1), .null, .int 0, .int 0])), (u_39, .inr (19, [.int (-1), .int (-1), .int (-1), .int (-1), .ref mm])), (mm, .inr (21, [.int 0, .ref ms, .ref mt, .ref mh, .ref me])), (mt, .inr (1, [.int mo, .ref ma, .int 3])), (ma, .inl (kO, 10, .inr (.inr (.inr (.inr (zfT t0 t1 t2)))))), (t0, .inr (18, [.int (-1), .ref i0]))] H := hP
  have hD : va_D A [(mh, .inr (1, [.int 0, .ref eD, .int 0])), (u_20, .inl (u_21, 1, .inr (.inr (.inr (.inr (va_up (fun _ => none) (0 : Int32).toNatClampNeg (some t0))))))), (i0, .inl (kT, 0, .inr (.inr (.inr (.inr (fun _ => none)))))), (q_36, .inr (20, [.null, .int 0, .int 0, .int (-1), .null, .int 0, .int 0])), (u_39, .inr (19, [.int (-1), .int (-1), .int (-1), .int (-1), .ref mm])), (mm, .inr (21, [.int 0, .ref ms, .ref mt, .ref mh, .ref me])), (mt, .inr (1, [.int mo, .ref ma, .int 3])), (ma, .inl (kO, 10, .inr (.inr (.inr (.inr (zfT t0 t1 t2)))))), (t0, .inr (18, [.int (-1), .ref i0]))] := hD
  have hK : va_K (dC, dI) vwCl [(kO, .object "java/lang/Object"), (kT, .object "HornbookModel$Tree"), (kO, .object "java/lang/Object"), (u_21, .object "HornbookModel$Tree")] s := by simpa using hK
  have hw_43 : r_42 = some t0 := hw_43
  have hw_43 := hw_43.symm
  subst hw_43
  refine W.eq (g2 := F0 m 173 ls (.ref t0 :: .ref u_39 :: [])) rfl ?_
  refine lv_iload_n hx hb dX19_wouldChoose_173 rfl (lv_at hl 8 rfl) ?_
  refine lv_aload hx hb dX19_wouldChoose_174 (lv_at hl 5 rfl) ?_
  refine lv_aload hx hb dX19_wouldChoose_176 (lv_at hl 0 rfl) ?_
  refine z_v (wr := [(u_20, .inl (u_21, 1, .inr (.inr (.inr (.inr (va_up (fun _ => none) (0 : Int32).toNatClampNeg (some t0))))))), (i0, .inl (kT, 0, .inr (.inr (.inr (.inr (fun _ => none)))))), (mt, .inr (1, [.int mo, .ref ma, .int 3])), (ma, .inl (kO, 10, .inr (.inr (.inr (.inr (zfT t0 t1 t2))))))]) (va_runV (As := [.ref t0, .int x2, .ref u_20, .ref q_36]) (rest := []) ⟨hx, hb, hml, hown, hts⟩ (c_V_call l eD eI ad dC dI H.size u_39 mm ms mt mh me 0 t0 (-1) ((.ref i0)) x2 u_20 q_36 (by decide)) (cwV 4 hts g_c_M_would_16 rfl rfl rfl (by decide +kernel) ⟨Nat.le_of_ble_eq_true rfl, Nat.le_of_ble_eq_true rfl⟩) (z_preV (wc := [(u_39, .inr (19, [.int (-1), .int (-1), .int (-1), .int (-1), .ref mm])), (mm, .inr (21, [.int 0, .ref ms, .ref mt, .ref mh, .ref me])), (mh, .inr (1, [.int 0, .ref eD, .int 0])), (t0, .inr (18, [.int (-1), .ref i0])), (q_36, .inr (20, [.null, .int 0, .int 0, .int (-1), .null, .int 0, .int 0]))]) hP hD hK hS hA hE [4, 5, 0, 8, 3] [] rfl (by decide) rfl (ci := 19) (q0 := 0) rfl rfl) rfl rfl hl.1 rfl (lv_room (Nat.le_of_ble_eq_true rfl)) dX19_wouldChoose_178 ⟨Nat.le_of_ble_eq_true rfl, Nat.le_of_ble_eq_true rfl⟩) hP hD hK hS hA [4, 5, 0, 8, 3] [1, 2, 6, 7] rfl rfl (by decide) (by decide) (fun u H locs hw_46 hP hD hK hS => ?_)
  obtain ⟨u_44, rfl⟩ : ∃ z, z = u := ⟨_, rfl⟩
  have hP : va_P (dC, dI) vwCl [(u_20, .inl (u_21, 1, .inr (.inr (.inr (.inr (va_up (fun _ => none) (0 : Int32).toNatClampNeg (some t0))))))), (i0, .inl (kT, 0, .inr (.inr (.inr (.inr (fun _ => none)))))), (mt, .inr (1, [.int mo, .ref ma, .int 3])), (ma, .inl (kO, 10, .inr (.inr (.inr (.inr (zfT t0 t1 t2)))))), (mm, .inr (21, [.int 0, .ref ms, .ref mt, .ref mh, .ref me])), (q_36, .inr (20, [.ref u_44, .int 0, .int 0, .int (-1), .null, .int 1, .int 0]))] H := hP
  have hD : va_D A [(u_20, .inl (u_21, 1, .inr (.inr (.inr (.inr (va_up (fun _ => none) (0 : Int32).toNatClampNeg (some t0))))))), (i0, .inl (kT, 0, .inr (.inr (.inr (.inr (fun _ => none)))))), (mt, .inr (1, [.int mo, .ref ma, .int 3])), (ma, .inl (kO, 10, .inr (.inr (.inr (.inr (zfT t0 t1 t2)))))), (mm, .inr (21, [.int 0, .ref ms, .ref mt, .ref mh, .ref me])), (q_36, .inr (20, [.ref u_44, .int 0, .int 0, .int (-1), .null, .int 1, .int 0]))] := hD
  have hK : va_K (dC, dI) vwCl [(kO, .object "java/lang/Object"), (kT, .object "HornbookModel$Tree"), (kO, .object "java/lang/Object"), (u_21, .object "HornbookModel$Tree")] s := by simpa using hK
  refine lv_aload hx hb dX19_wouldChoose_181 (lv_at hl 0 rfl) ?_
  refine va_get (D := (dC, dI)) (ci := 20) (v := .int 1) (C := RX18) (T := TX18) (N := 7) hx hb hts in_RX18 hown hK hP 5 rfl rfl 5 (by decide) (hts (.fieldLink RX19 231 "HornbookModel$Word" "fault" "I") (by decide +kernel)) (fun _ h9 => h9) rfl dX19_wouldChoose_183 ?_
  refine lv_if_le (tgt := 198) hx hb dX19_wouldChoose_186 (by decide) (fun c_47 => ?_) (fun c_47 => ?_)
  · exact absurd c_47 (by decide)
  refine lv_aload hx hb dX19_wouldChoose_189 (lv_at hl 0 rfl) ?_
  refine va_get (D := (dC, dI)) (ci := 20) (v := .int 1) (C := RX18) (T := TX18) (N := 7) hx hb hts in_RX18 hown hK hP 5 rfl rfl 5 (by decide) (hts (.fieldLink RX19 231 "HornbookModel$Word" "fault" "I") (by decide +kernel)) (fun _ h9 => h9) rfl dX19_wouldChoose_191 ?_
  refine lv_ineg hx hb dX19_wouldChoose_194 ?_
  refine z_top (v' := .int (-1)) (congrArg Value.int (by decide)) ?_
  refine lv_goto (tgt := 203) hx hb dX19_wouldChoose_195 (by decide) ?_
  have hP9 := hP.sub (ws' := [(mm, .inr (21, [.int 0, .ref ms, .ref mt, .ref mh, .ref me]))]) [4] rfl
  have hD9 := hD.sub (ws' := [(mm, .inr (21, [.int 0, .ref ms, .ref mt, .ref mh, .ref me]))]) [4] (by decide) rfl
  have hK9 := hK.sub (tys' := []) [] rfl
  refine W.widen (k := 7) (n := 22) (Nat.le_of_ble_eq_true rfl) (Nat.le_of_ble_eq_true rfl) ?_
  exact W.iret (v := (-1)) hx hb hr (fun t ht hW => ⟨⟨(-1), (0, (-1)), rfl, ⟨rfl, by first | decide | simp [hx20, hx21], by first | exact fun h => absurd h (by decide) | exact fun _ => rfl | rfl | decide | simp⟩, ⟨by rw [ht]; exact hP9, va_K.moved hW.alike hK9, hD9⟩⟩, hS.F ht⟩) hS.2.2 dX19_wouldChoose_203

set_option maxHeartbeats 4000000 in
set_option maxRecDepth 100000 in
theorem c_M_would_Fkn01 (l : Launch) (eD eI : Nat) (ad : Nat → Nat) (dC : Nat → ClassId) (dI : Nat → Nat → Nat) (sz : Nat) (mm : Nat) (ms : Nat) (mt : Nat) (mh : Nat) (me : Nat) (mo : Int32) (ma : Nat) (kO : ClassId) (kT : ClassId) (t0 : Nat) (t1 : Nat) (t2 : Nat) (i0 : Nat) (i1 : Nat) (i2 : Nat) (th : Int32) (x2 : Int32) (hx20 : ¬ x2 < 0) (hx21 : ¬ 9 < x2) : Met l yX19_wouldChoose w_c_M_would ({ frames := 6, cells := 7, slots := 22, locals := 123 }) (va_Pc [.ref mm, .int 0, .int x2, .int 1, .int (-1)] (zPre eD eI ad (dC, dI) [(mm, .inr (21, [.int th, .ref ms, .ref mt, .ref mh, .ref me])), (ms, .inr (1, [.int 0, .ref eD, .int 0])), (mt, .inr (1, [.int mo, .ref ma, .int 3])), (mh, .inr (1, [.int 0, .ref eD, .int 0])), (me, .inr (1, [.int 0, .ref eD, .int 0])), (ma, .inl (kO, 10, .inr (.inr (.inr (.inr (zfT t0 t1 t2)))))), (t0, .inr (18, [.int (-1), .ref i0])), (t1, .inr (18, [.int (-2), .ref i1])), (t2, .inr (18, [.int (-3), .ref i2])), (i0, .inl (kT, 0, .inr (.inr (.inr (.inr (fun _ => none)))))), (i1, .inl (kT, 0, .inr (.inr (.inr (.inr (fun _ => none)))))), (i2, .inl (kT, 0, .inr (.inr (.inr (.inr (fun _ => none))))))] [(kO, .object "java/lang/Object"), (kT, .object "HornbookModel$Tree")] sz)) (va_Qi (fun (r : Int32) (u : Int32 × Int32) => match u with | (th2, v2) => r = v2 ∧ th2 = (if (0 : Int32) < 0 ∨ 2 < (0 : Int32) then 1 else if ¬ (1 : Int32) = (-1) ∧ ((1 : Int32) < 0 ∨ 2 < (1 : Int32)) then 1 else if ¬ (-1 : Int32) = (-1) ∧ ((-1 : Int32) < 0 ∨ 2 < (-1 : Int32)) then 1 else if x2 < 0 ∨ 9 < x2 then 2 else if (1 : Int32) = (-1) ∧ ¬ (-1 : Int32) = (-1) then 2 else if (0 : Int32) = 2 ∨ (1 : Int32) = 2 ∨ (-1 : Int32) = 2 then 2 else 0) ∧ (th2 = 0 → v2 = (-1))) (fun (u : Int32 × Int32) => match u with | (th2, v2) => zEnd (dC, dI) (va_A [(mm, .inr (21, [.int th, .ref ms, .ref mt, .ref mh, .ref me])), (ms, .inr (1, [.int 0, .ref eD, .int 0])), (mt, .inr (1, [.int mo, .ref ma, .int 3])), (mh, .inr (1, [.int 0, .ref eD, .int 0])), (me, .inr (1, [.int 0, .ref eD, .int 0])), (ma, .inl (kO, 10, .inr (.inr (.inr (.inr (zfT t0 t1 t2)))))), (t0, .inr (18, [.int (-1), .ref i0])), (t1, .inr (18, [.int (-2), .ref i1])), (t2, .inr (18, [.int (-3), .ref i2])), (i0, .inl (kT, 0, .inr (.inr (.inr (.inr (fun _ => none)))))), (i1, .inl (kT, 0, .inr (.inr (.inr (.inr (fun _ => none)))))), (i2, .inl (kT, 0, .inr (.inr (.inr (.inr (fun _ => none))))))] sz) [(mm, .inr (21, [.int th2, .ref ms, .ref mt, .ref mh, .ref me]))] []) (va_A [(mm, .inr (21, [.int th, .ref ms, .ref mt, .ref mh, .ref me])), (ms, .inr (1, [.int 0, .ref eD, .int 0])), (mt, .inr (1, [.int mo, .ref ma, .int 3])), (mh, .inr (1, [.int 0, .ref eD, .int 0])), (me, .inr (1, [.int 0, .ref eD, .int 0])), (ma, .inl (kO, 10, .inr (.inr (.inr (.inr (zfT t0 t1 t2)))))), (t0, .inr (18, [.int (-1), .ref i0])), (t1, .inr (18, [.int (-2), .ref i1])), (t2, .inr (18, [.int (-3), .ref i2])), (i0, .inl (kT, 0, .inr (.inr (.inr (.inr (fun _ => none)))))), (i1, .inl (kT, 0, .inr (.inr (.inr (.inr (fun _ => none)))))), (i2, .inl (kT, 0, .inr (.inr (.inr (.inr (fun _ => none))))))] sz)) 7 22 (va_A [(mm, .inr (21, [.int th, .ref ms, .ref mt, .ref mh, .ref me])), (ms, .inr (1, [.int 0, .ref eD, .int 0])), (mt, .inr (1, [.int mo, .ref ma, .int 3])), (mh, .inr (1, [.int 0, .ref eD, .int 0])), (me, .inr (1, [.int 0, .ref eD, .int 0])), (ma, .inl (kO, 10, .inr (.inr (.inr (.inr (zfT t0 t1 t2)))))), (t0, .inr (18, [.int (-1), .ref i0])), (t1, .inr (18, [.int (-2), .ref i1])), (t2, .inr (18, [.int (-3), .ref i2])), (i0, .inl (kT, 0, .inr (.inr (.inr (.inr (fun _ => none)))))), (i1, .inl (kT, 0, .inr (.inr (.inr (.inr (fun _ => none)))))), (i2, .inl (kT, 0, .inr (.inr (.inr (.inr (fun _ => none))))))] sz) := by
  refine Met.ofW (cc := cX19_wouldChoose) (maxL := 11) (ret := (some .int)) (by decide) rfl ?_
  intro p e s m args below meth c s₁ B hml hv
  obtain ⟨rfl, hsz, hP, hK, hD0, hE⟩ := hv
  have hx := B.exec
  have hb := B.bytes
  have hr := B.returns
  have hts := atoms_spec (ws := w_c_M_would) B.pre
  have hown : s.vm.findClass RX19 = some m.cls := findClass_of_methodNamed B.named
  have hlocks := B.notSynchronized
  subst hsz
  have hD := hD0.self (sz := s.heap.size)
  generalize hAe : va_A [(mm, .inr (21, [.int th, .ref ms, .ref mt, .ref mh, .ref me])), (ms, .inr (1, [.int 0, .ref eD, .int 0])), (mt, .inr (1, [.int mo, .ref ma, .int 3])), (mh, .inr (1, [.int 0, .ref eD, .int 0])), (me, .inr (1, [.int 0, .ref eD, .int 0])), (ma, .inl (kO, 10, .inr (.inr (.inr (.inr (zfT t0 t1 t2)))))), (t0, .inr (18, [.int (-1), .ref i0])), (t1, .inr (18, [.int (-2), .ref i1])), (t2, .inr (18, [.int (-3), .ref i2])), (i0, .inl (kT, 0, .inr (.inr (.inr (.inr (fun _ => none)))))), (i1, .inl (kT, 0, .inr (.inr (.inr (.inr (fun _ => none)))))), (i2, .inl (kT, 0, .inr (.inr (.inr (.inr (fun _ => none))))))] s.heap.size = A at hD hE ⊢
  have hA : ∀ q : Nat, s.heap.size ≤ q → A q := fun q h => by rw [← hAe]; exact Or.inr h
  have hS : va_S A s.heap s.heap [] := va_S.rf
  have hP : va_P (dC, dI) vwCl [(mm, .inr (21, [.int th, .ref ms, .ref mt, .ref mh, .ref me])), (ms, .inr (1, [.int 0, .ref eD, .int 0])), (mt, .inr (1, [.int mo, .ref ma, .int 3])), (mh, .inr (1, [.int 0, .ref eD, .int 0])), (me, .inr (1, [.int 0, .ref eD, .int 0])), (ma, .inl (kO, 10, .inr (.inr (.inr (.inr (zfT t0 t1 t2)))))), (t0, .inr (18, [.int (-1), .ref i0])), (t1, .inr (18, [.int (-2), .ref i1])), (t2, .inr (18, [.int (-3), .ref i2])), (i0, .inl (kT, 0, .inr (.inr (.inr (.inr (fun _ => none)))))), (i1, .inl (kT, 0, .inr (.inr (.inr (.inr (fun _ => none)))))), (i2, .inl (kT, 0, .inr (.inr (.inr (.inr (fun _ => none))))))] s.heap := hP
  have hl := lv_entry ([.ref mm, .int 0, .int x2, .int 1, .int (-1)]) (n := 11) (Nat.le_of_ble_eq_true rfl)
  rw [lg_entry_eq]
  generalize (lg_sl ([.ref mm, .int 0, .int x2, .int 1, .int (-1)]) ++ List.replicate (11 - (lg_sl ([.ref mm, .int 0, .int x2, .int 1, .int (-1)])).length) Slot.unset).toArray = ls at hl ⊢
  have hl : lv_has ls 11 [(0, .ref mm), (1, .int 0), (2, .int x2), (3, .int 1), (4, .int (-1))] := hl
  have in_RJx4a65c : ∀ w ∈ u_ws RJx4a65c TJx4a65c 3, w ∈ w_c_M_would := by decide +kernel
  have in_RX18 : ∀ w ∈ u_ws RX18 TX18 7, w ∈ w_c_M_would := by decide +kernel
  have in_RX19 : ∀ w ∈ u_ws RX19 TX19 5, w ∈ w_c_M_would := by decide +kernel
  have hP := hP.sub (ws' := [(mm, .inr (21, [.int th, .ref ms, .ref mt, .ref mh, .ref me])), (mt, .inr (1, [.int mo, .ref ma, .int 3])), (mh, .inr (1, [.int 0, .ref eD, .int 0])), (ma, .inl (kO, 10, .inr (.inr (.inr (.inr (zfT t0 t1 t2)))))), (t0, .inr (18, [.int (-1), .ref i0])), (t1, .inr (18, [.int (-2), .ref i1])), (i0, .inl (kT, 0, .inr (.inr (.inr (.inr (fun _ => none)))))), (i1, .inl (kT, 0, .inr (.inr (.inr (.inr (fun _ => none))))))]) [0, 2, 3, 5, 6, 7, 9, 10] rfl
  have hD := hD.sub (ws' := [(mm, .inr (21, [.int th, .ref ms, .ref mt, .ref mh, .ref me])), (mt, .inr (1, [.int mo, .ref ma, .int 3])), (mh, .inr (1, [.int 0, .ref eD, .int 0])), (ma, .inl (kO, 10, .inr (.inr (.inr (.inr (zfT t0 t1 t2)))))), (t0, .inr (18, [.int (-1), .ref i0])), (t1, .inr (18, [.int (-2), .ref i1])), (i0, .inl (kT, 0, .inr (.inr (.inr (.inr (fun _ => none)))))), (i1, .inl (kT, 0, .inr (.inr (.inr (.inr (fun _ => none))))))]) [0, 2, 3, 5, 6, 7, 9, 10] (by decide) rfl
  refine lv_aload_n hx hb dX19_wouldChoose_0 rfl (lv_at hl 0 rfl) ?_
  refine lv_aload_n hx hb dX19_wouldChoose_1 rfl (lv_at hl 0 rfl) ?_
  refine lv_iload_n hx hb dX19_wouldChoose_2 rfl (lv_at hl 1 rfl) ?_
  refine z_i (wr := [(mh, .inr (1, [.int 0, .ref eD, .int 0])), (ma, .inl (kO, 10, .inr (.inr (.inr (.inr (zfT t0 t1 t2)))))), (t0, .inr (18, [.int (-1), .ref i0])), (t1, .inr (18, [.int (-2), .ref i1])), (i0, .inl (kT, 0, .inr (.inr (.inr (.inr (fun _ => none)))))), (i1, .inl (kT, 0, .inr (.inr (.inr (.inr (fun _ => none))))))]) (va_runV (As := [.int 0]) (rest := [.ref mm]) ⟨hx, hb, hml, hown, hts⟩ (c_M_isNoType_ok l eD eI ad dC dI s.heap.size mm ms mt mh me th ((.int mo)) ((.ref ma)) 0 (by decide) (by decide)) (cwV 1 hts g_c_M_would_3 rfl rfl rfl (by decide +kernel) ⟨Nat.le_of_ble_eq_true rfl, Nat.le_of_ble_eq_true rfl⟩) (z_preV (wc := [(mm, .inr (21, [.int th, .ref ms, .ref mt, .ref mh, .ref me])), (mt, .inr (1, [.int mo, .ref ma, .int 3]))]) hP hD hK hS hA hE [0, 1] [] rfl (by decide) rfl (ci := 21) (q0 := 0) rfl rfl) rfl rfl hl.1 rfl (lv_room (Nat.le_of_ble_eq_true rfl)) dX19_wouldChoose_3 ⟨Nat.le_of_ble_eq_true rfl, Nat.le_of_ble_eq_true rfl⟩) hP hD hK hS hA [0, 1] [2, 3, 4, 5, 6, 7] rfl rfl (by decide) (by decide) (fun r_1 u H locs hw_2 hP hD hK hS => ?_)
  obtain ⟨⟩ := u
  have hP : va_P (dC, dI) vwCl [(mh, .inr (1, [.int 0, .ref eD, .int 0])), (ma, .inl (kO, 10, .inr (.inr (.inr (.inr (zfT t0 t1 t2)))))), (t0, .inr (18, [.int (-1), .ref i0])), (t1, .inr (18, [.int (-2), .ref i1])), (i0, .inl (kT, 0, .inr (.inr (.inr (.inr (fun _ => none)))))), (i1, .inl (kT, 0, .inr (.inr (.inr (.inr (fun _ => none)))))), (mm, .inr (21, [.int th, .ref ms, .ref mt, .ref mh, .ref me])), (mt, .inr (1, [.int mo, .ref ma, .int 3]))] H := hP
  have hD : va_D A [(mh, .inr (1, [.int 0, .ref eD, .int 0])), (ma, .inl (kO, 10, .inr (.inr (.inr (.inr (zfT t0 t1 t2)))))), (t0, .inr (18, [.int (-1), .ref i0])), (t1, .inr (18, [.int (-2), .ref i1])), (i0, .inl (kT, 0, .inr (.inr (.inr (.inr (fun _ => none)))))), (i1, .inl (kT, 0, .inr (.inr (.inr (.inr (fun _ => none)))))), (mm, .inr (21, [.int th, .ref ms, .ref mt, .ref mh, .ref me])), (mt, .inr (1, [.int mo, .ref ma, .int 3]))] := hD
  have hK : va_K (dC, dI) vwCl [(kO, .object "java/lang/Object"), (kT, .object "HornbookModel$Tree")] s := by simpa using hK
  have hw_2 : r_1 = 0 := hw_2
  have hw_2 := hw_2.symm
  subst hw_2
  refine lv_if_ne (tgt := 26) hx hb dX19_wouldChoose_6 (by decide) (fun c_3 => ?_) (fun c_3 => ?_)
  · exact absurd (by decide) c_3
  refine lv_aload_n hx hb dX19_wouldChoose_9 rfl (lv_at hl 0 rfl) ?_
  refine lv_iload_n hx hb dX19_wouldChoose_10 rfl (lv_at hl 3 rfl) ?_
  refine z_i (wr := [(mh, .inr (1, [.int 0, .ref eD, .int 0])), (ma, .inl (kO, 10, .inr (.inr (.inr (.inr (zfT t0 t1 t2)))))), (t0, .inr (18, [.int (-1), .ref i0])), (t1, .inr (18, [.int (-2), .ref i1])), (i0, .inl (kT, 0, .inr (.inr (.inr (.inr (fun _ => none)))))), (i1, .inl (kT, 0, .inr (.inr (.inr (.inr (fun _ => none))))))]) (va_runV (As := [.int 1]) (rest := [.ref mm]) ⟨hx, hb, hml, hown, hts⟩ (c_M_isNoTypeN_ok l eD eI ad dC dI H.size mm ms mt mh me th ((.int mo)) ((.ref ma)) 1 (by decide) (by decide) (by decide)) (cwV 1 hts g_c_M_would_23 rfl rfl rfl (by decide +kernel) ⟨Nat.le_of_ble_eq_true rfl, Nat.le_of_ble_eq_true rfl⟩) (z_preV (wc := [(mm, .inr (21, [.int th, .ref ms, .ref mt, .ref mh, .ref me])), (mt, .inr (1, [.int mo, .ref ma, .int 3]))]) hP hD hK hS hA hE [6, 7] [] rfl (by decide) rfl (ci := 21) (q0 := 0) rfl rfl) rfl rfl hl.1 rfl (lv_room (Nat.le_of_ble_eq_true rfl)) dX19_wouldChoose_11 ⟨Nat.le_of_ble_eq_true rfl, Nat.le_of_ble_eq_true rfl⟩) hP hD hK hS hA [6, 7] [0, 1, 2, 3, 4, 5] rfl rfl (by decide) (by decide) (fun r_4 u H locs hw_5 hP hD hK hS => ?_)
  obtain ⟨⟩ := u
  have hP : va_P (dC, dI) vwCl [(mh, .inr (1, [.int 0, .ref eD, .int 0])), (ma, .inl (kO, 10, .inr (.inr (.inr (.inr (zfT t0 t1 t2)))))), (t0, .inr (18, [.int (-1), .ref i0])), (t1, .inr (18, [.int (-2), .ref i1])), (i0, .inl (kT, 0, .inr (.inr (.inr (.inr (fun _ => none)))))), (i1, .inl (kT, 0, .inr (.inr (.inr (.inr (fun _ => none)))))), (mm, .inr (21, [.int th, .ref ms, .ref mt, .ref mh, .ref me])), (mt, .inr (1, [.int mo, .ref ma, .int 3]))] H := hP
  have hD : va_D A [(mh, .inr (1, [.int 0, .ref eD, .int 0])), (ma, .inl (kO, 10, .inr (.inr (.inr (.inr (zfT t0 t1 t2)))))), (t0, .inr (18, [.int (-1), .ref i0])), (t1, .inr (18, [.int (-2), .ref i1])), (i0, .inl (kT, 0, .inr (.inr (.inr (.inr (fun _ => none)))))), (i1, .inl (kT, 0, .inr (.inr (.inr (.inr (fun _ => none)))))), (mm, .inr (21, [.int th, .ref ms, .ref mt, .ref mh, .ref me])), (mt, .inr (1, [.int mo, .ref ma, .int 3]))] := hD
  have hK : va_K (dC, dI) vwCl [(kO, .object "java/lang/Object"), (kT, .object "HornbookModel$Tree")] s := by simpa using hK
  have hw_5 : r_4 = 0 := hw_5
  have hw_5 := hw_5.symm
  subst hw_5
  refine lv_if_ne (tgt := 26) hx hb dX19_wouldChoose_14 (by decide) (fun c_6 => ?_) (fun c_6 => ?_)
  · exact absurd (by decide) c_6
  refine lv_aload_n hx hb dX19_wouldChoose_17 rfl (lv_at hl 0 rfl) ?_
  refine lv_iload hx hb dX19_wouldChoose_18 (lv_at hl 4 rfl) ?_
  refine z_i (wr := [(mh, .inr (1, [.int 0, .ref eD, .int 0])), (ma, .inl (kO, 10, .inr (.inr (.inr (.inr (zfT t0 t1 t2)))))), (t0, .inr (18, [.int (-1), .ref i0])), (t1, .inr (18, [.int (-2), .ref i1])), (i0, .inl (kT, 0, .inr (.inr (.inr (.inr (fun _ => none)))))), (i1, .inl (kT, 0, .inr (.inr (.inr (.inr (fun _ => none))))))]) (va_runV (As := [.int (-1)]) (rest := [.ref mm]) ⟨hx, hb, hml, hown, hts⟩ (c_M_isNoTypeN_none l eD eI ad dC dI H.size mm ms mt mh me th ((.int mo)) ((.ref ma))) (cwV 1 hts g_c_M_would_4 rfl rfl rfl (by decide +kernel) ⟨Nat.le_of_ble_eq_true rfl, Nat.le_of_ble_eq_true rfl⟩) (z_preV (wc := [(mm, .inr (21, [.int th, .ref ms, .ref mt, .ref mh, .ref me])), (mt, .inr (1, [.int mo, .ref ma, .int 3]))]) hP hD hK hS hA hE [6, 7] [] rfl (by decide) rfl (ci := 21) (q0 := 0) rfl rfl) rfl rfl hl.1 rfl (lv_room (Nat.le_of_ble_eq_true rfl)) dX19_wouldChoose_20 ⟨Nat.le_of_ble_eq_true rfl, Nat.le_of_ble_eq_true rfl⟩) hP hD hK hS hA [6, 7] [0, 1, 2, 3, 4, 5] rfl rfl (by decide) (by decide) (fun r_7 u H locs hw_8 hP hD hK hS => ?_)
  obtain ⟨⟩ := u
  have hP : va_P (dC, dI) vwCl [(mh, .inr (1, [.int 0, .ref eD, .int 0])), (ma, .inl (kO, 10, .inr (.inr (.inr (.inr (zfT t0 t1 t2)))))), (t0, .inr (18, [.int (-1), .ref i0])), (t1, .inr (18, [.int (-2), .ref i1])), (i0, .inl (kT, 0, .inr (.inr (.inr (.inr (fun _ => none)))))), (i1, .inl (kT, 0, .inr (.inr (.inr (.inr (fun _ => none)))))), (mm, .inr (21, [.int th, .ref ms, .ref mt, .ref mh, .ref me])), (mt, .inr (1, [.int mo, .ref ma, .int 3]))] H := hP
  have hD : va_D A [(mh, .inr (1, [.int 0, .ref eD, .int 0])), (ma, .inl (kO, 10, .inr (.inr (.inr (.inr (zfT t0 t1 t2)))))), (t0, .inr (18, [.int (-1), .ref i0])), (t1, .inr (18, [.int (-2), .ref i1])), (i0, .inl (kT, 0, .inr (.inr (.inr (.inr (fun _ => none)))))), (i1, .inl (kT, 0, .inr (.inr (.inr (.inr (fun _ => none)))))), (mm, .inr (21, [.int th, .ref ms, .ref mt, .ref mh, .ref me])), (mt, .inr (1, [.int mo, .ref ma, .int 3]))] := hD
  have hK : va_K (dC, dI) vwCl [(kO, .object "java/lang/Object"), (kT, .object "HornbookModel$Tree")] s := by simpa using hK
  have hw_8 : r_7 = 0 := hw_8
  have hw_8 := hw_8.symm
  subst hw_8
  refine lv_if_eq (tgt := 30) hx hb dX19_wouldChoose_23 (by decide) (fun c_9 => ?_) (fun c_9 => ?_)
  rotate_left
  · exact absurd (by decide) c_9
  refine lv_iconst (v := 0) hx hb dX19_wouldChoose_30 (by decide) ?_
  refine lv_iconst (v := 1) hx hb dX19_wouldChoose_31 (by decide) ?_
  refine z_i (wr := [(mh, .inr (1, [.int 0, .ref eD, .int 0])), (ma, .inl (kO, 10, .inr (.inr (.inr (.inr (zfT t0 t1 t2)))))), (t0, .inr (18, [.int (-1), .ref i0])), (t1, .inr (18, [.int (-2), .ref i1])), (i0, .inl (kT, 0, .inr (.inr (.inr (.inr (fun _ => none)))))), (i1, .inl (kT, 0, .inr (.inr (.inr (.inr (fun _ => none)))))), (mt, .inr (1, [.int mo, .ref ma, .int 3]))]) (va_runV (As := [.int 0, .int 1]) (rest := []) ⟨hx, hb, hml, hown, hts⟩ (c_M_start_no l eD eI ad dC dI H.size mm ((.ref ms)) ((.ref mt)) ((.ref mh)) ((.ref me)) 1 th) (cwV 2 hts g_c_M_would_5 rfl rfl rfl (by decide +kernel) ⟨Nat.le_of_ble_eq_true rfl, Nat.le_of_ble_eq_true rfl⟩) (z_preV (wc := [(mm, .inr (21, [.int th, .ref ms, .ref mt, .ref mh, .ref me]))]) hP hD hK hS hA hE [6] [] rfl (by decide) rfl (ci := 21) (q0 := 0) rfl rfl) rfl rfl hl.1 rfl (lv_room (Nat.le_of_ble_eq_true rfl)) dX19_wouldChoose_32 ⟨Nat.le_of_ble_eq_true rfl, Nat.le_of_ble_eq_true rfl⟩) hP hD hK hS hA [6] [0, 1, 2, 3, 4, 5, 7] rfl rfl (by decide) (by decide) (fun r_10 u H locs hw_11 hP hD hK hS => ?_)
  obtain ⟨⟩ := u
  have hP : va_P (dC, dI) vwCl [(mh, .inr (1, [.int 0, .ref eD, .int 0])), (ma, .inl (kO, 10, .inr (.inr (.inr (.inr (zfT t0 t1 t2)))))), (t0, .inr (18, [.int (-1), .ref i0])), (t1, .inr (18, [.int (-2), .ref i1])), (i0, .inl (kT, 0, .inr (.inr (.inr (.inr (fun _ => none)))))), (i1, .inl (kT, 0, .inr (.inr (.inr (.inr (fun _ => none)))))), (mt, .inr (1, [.int mo, .ref ma, .int 3])), (mm, .inr (21, [.int 0, .ref ms, .ref mt, .ref mh, .ref me]))] H := hP
  have hD : va_D A [(mh, .inr (1, [.int 0, .ref eD, .int 0])), (ma, .inl (kO, 10, .inr (.inr (.inr (.inr (zfT t0 t1 t2)))))), (t0, .inr (18, [.int (-1), .ref i0])), (t1, .inr (18, [.int (-2), .ref i1])), (i0, .inl (kT, 0, .inr (.inr (.inr (.inr (fun _ => none)))))), (i1, .inl (kT, 0, .inr (.inr (.inr (.inr (fun _ => none)))))), (mt, .inr (1, [.int mo, .ref ma, .int 3])), (mm, .inr (21, [.int 0, .ref ms, .ref mt, .ref mh, .ref me]))] := hD
  have hK : va_K (dC, dI) vwCl [(kO, .object "java/lang/Object"), (kT, .object "HornbookModel$Tree")] s := by simpa using hK
  have hw_11 : r_10 = 0 := hw_11
  have hw_11 := hw_11.symm
  subst hw_11
  refine lv_if_ne (tgt := 72) hx hb dX19_wouldChoose_35 (by decide) (fun c_12 => ?_) (fun c_12 => ?_)
  · exact absurd (by decide) c_12
  refine lv_aload_n hx hb dX19_wouldChoose_38 rfl (lv_at hl 0 rfl) ?_
  refine lv_iload_n hx hb dX19_wouldChoose_39 rfl (lv_at hl 2 rfl) ?_
  refine lv_iconst (v := 0) hx hb dX19_wouldChoose_40 (by decide) ?_
  refine lv_bipush (v := 9) hx hb dX19_wouldChoose_41 (by decide) ?_
  refine z_i (wr := [(mh, .inr (1, [.int 0, .ref eD, .int 0])), (ma, .inl (kO, 10, .inr (.inr (.inr (.inr (zfT t0 t1 t2)))))), (t0, .inr (18, [.int (-1), .ref i0])), (t1, .inr (18, [.int (-2), .ref i1])), (i0, .inl (kT, 0, .inr (.inr (.inr (.inr (fun _ => none)))))), (i1, .inl (kT, 0, .inr (.inr (.inr (.inr (fun _ => none)))))), (mt, .inr (1, [.int mo, .ref ma, .int 3])), (mm, .inr (21, [.int 0, .ref ms, .ref mt, .ref mh, .ref me]))]) (va_runS (As := [.int x2, .int 0, .int 9]) (rest := [.ref mm]) ⟨hx, hb, hml, hown, hts⟩ (c_M_isIn_ok l eD eI ad dC dI H.size x2 0 9 (hx20) (hx21)) (va_cwS 3 hts g_c_M_would_9 rfl rfl rfl (by decide +kernel) ⟨Nat.le_of_ble_eq_true rfl, Nat.le_of_ble_eq_true rfl⟩) (z_preS (wc := []) hP hD hK hS hA hE [] [] rfl (by decide) rfl) rfl rfl hl.1 rfl (lv_room (Nat.le_of_ble_eq_true rfl)) dX19_wouldChoose_43 ⟨Nat.le_of_ble_eq_true rfl, Nat.le_of_ble_eq_true rfl⟩) hP hD hK hS hA [] [0, 1, 2, 3, 4, 5, 6, 7] rfl rfl (by decide) (by decide) (fun r_13 u H locs hw_14 hP hD hK hS => ?_)
  obtain ⟨⟩ := u
  have hP : va_P (dC, dI) vwCl [(mh, .inr (1, [.int 0, .ref eD, .int 0])), (ma, .inl (kO, 10, .inr (.inr (.inr (.inr (zfT t0 t1 t2)))))), (t0, .inr (18, [.int (-1), .ref i0])), (t1, .inr (18, [.int (-2), .ref i1])), (i0, .inl (kT, 0, .inr (.inr (.inr (.inr (fun _ => none)))))), (i1, .inl (kT, 0, .inr (.inr (.inr (.inr (fun _ => none)))))), (mt, .inr (1, [.int mo, .ref ma, .int 3])), (mm, .inr (21, [.int 0, .ref ms, .ref mt, .ref mh, .ref me]))] H := hP
  have hD : va_D A [(mh, .inr (1, [.int 0, .ref eD, .int 0])), (ma, .inl (kO, 10, .inr (.inr (.inr (.inr (zfT t0 t1 t2)))))), (t0, .inr (18, [.int (-1), .ref i0])), (t1, .inr (18, [.int (-2), .ref i1])), (i0, .inl (kT, 0, .inr (.inr (.inr (.inr (fun _ => none)))))), (i1, .inl (kT, 0, .inr (.inr (.inr (.inr (fun _ => none)))))), (mt, .inr (1, [.int mo, .ref ma, .int 3])), (mm, .inr (21, [.int 0, .ref ms, .ref mt, .ref mh, .ref me]))] := hD
  have hK : va_K (dC, dI) vwCl [(kO, .object "java/lang/Object"), (kT, .object "HornbookModel$Tree")] s := by simpa using hK
  have hw_14 : r_13 = 1 := hw_14
  have hw_14 := hw_14.symm
  subst hw_14
  refine lv_if_eq (tgt := 60) hx hb dX19_wouldChoose_46 (by decide) (fun c_15 => ?_) (fun c_15 => ?_)
  · exact absurd c_15 (by decide)
  refine lv_iload_n hx hb dX19_wouldChoose_49 rfl (lv_at hl 3 rfl) ?_
  refine lv_iconst (v := (-1)) hx hb dX19_wouldChoose_50 (by decide) ?_
  refine lv_icmp_ne (tgt := 64) hx hb dX19_wouldChoose_51 (by decide) (fun c_16 => ?_) (fun c_16 => ?_)
  rotate_left
  · exact absurd c_16 (by decide)
  refine lv_iconst (v := 0) hx hb dX19_wouldChoose_64 (by decide) ?_
  refine lv_iconst (v := 2) hx hb dX19_wouldChoose_65 (by decide) ?_
  refine z_i (wr := [(mh, .inr (1, [.int 0, .ref eD, .int 0])), (ma, .inl (kO, 10, .inr (.inr (.inr (.inr (zfT t0 t1 t2)))))), (t0, .inr (18, [.int (-1), .ref i0])), (t1, .inr (18, [.int (-2), .ref i1])), (i0, .inl (kT, 0, .inr (.inr (.inr (.inr (fun _ => none)))))), (i1, .inl (kT, 0, .inr (.inr (.inr (.inr (fun _ => none)))))), (mt, .inr (1, [.int mo, .ref ma, .int 3]))]) (va_runV (As := [.int 0, .int 2]) (rest := []) ⟨hx, hb, hml, hown, hts⟩ (c_M_refuse_no l eD eI ad dC dI H.size mm ((.ref ms)) ((.ref mt)) ((.ref mh)) ((.ref me)) 2) (cwV 2 hts g_c_M_would_10 rfl rfl rfl (by decide +kernel) ⟨Nat.le_of_ble_eq_true rfl, Nat.le_of_ble_eq_true rfl⟩) (z_preV (wc := [(mm, .inr (21, [.int 0, .ref ms, .ref mt, .ref mh, .ref me]))]) hP hD hK hS hA hE [7] [] rfl (by decide) rfl (ci := 21) (q0 := 0) rfl rfl) rfl rfl hl.1 rfl (lv_room (Nat.le_of_ble_eq_true rfl)) dX19_wouldChoose_66 ⟨Nat.le_of_ble_eq_true rfl, Nat.le_of_ble_eq_true rfl⟩) hP hD hK hS hA [7] [0, 1, 2, 3, 4, 5, 6] rfl rfl (by decide) (by decide) (fun r_17 u H locs hw_18 hP hD hK hS => ?_)
  obtain ⟨⟩ := u
  have hP : va_P (dC, dI) vwCl [(mh, .inr (1, [.int 0, .ref eD, .int 0])), (ma, .inl (kO, 10, .inr (.inr (.inr (.inr (zfT t0 t1 t2)))))), (t0, .inr (18, [.int (-1), .ref i0])), (t1, .inr (18, [.int (-2), .ref i1])), (i0, .inl (kT, 0, .inr (.inr (.inr (.inr (fun _ => none)))))), (i1, .inl (kT, 0, .inr (.inr (.inr (.inr (fun _ => none)))))), (mt, .inr (1, [.int mo, .ref ma, .int 3])), (mm, .inr (21, [.int 0, .ref ms, .ref mt, .ref mh, .ref me]))] H := hP
  have hD : va_D A [(mh, .inr (1, [.int 0, .ref eD, .int 0])), (ma, .inl (kO, 10, .inr (.inr (.inr (.inr (zfT t0 t1 t2)))))), (t0, .inr (18, [.int (-1), .ref i0])), (t1, .inr (18, [.int (-2), .ref i1])), (i0, .inl (kT, 0, .inr (.inr (.inr (.inr (fun _ => none)))))), (i1, .inl (kT, 0, .inr (.inr (.inr (.inr (fun _ => none)))))), (mt, .inr (1, [.int mo, .ref ma, .int 3])), (mm, .inr (21, [.int 0, .ref ms, .ref mt, .ref mh, .ref me]))] := hD
  have hK : va_K (dC, dI) vwCl [(kO, .object "java/lang/Object"), (kT, .object "HornbookModel$Tree")] s := by simpa using hK
  have hw_18 : r_17 = 0 := hw_18
  have hw_18 := hw_18.symm
  subst hw_18
  refine lv_if_eq (tgt := 74) hx hb dX19_wouldChoose_69 (by decide) (fun c_19 => ?_) (fun c_19 => ?_)
  rotate_left
  · exact absurd (by decide) c_19
  refine lv_aload_n hx hb dX19_wouldChoose_74 rfl (lv_at hl 0 rfl) ?_
  refine lv_iload_n hx hb dX19_wouldChoose_75 rfl (lv_at hl 3 rfl) ?_
  refine lv_iload hx hb dX19_wouldChoose_76 (lv_at hl 4 rfl) ?_
  refine z_q (wr := [(mh, .inr (1, [.int 0, .ref eD, .int 0])), (t0, .inr (18, [.int (-1), .ref i0])), (i0, .inl (kT, 0, .inr (.inr (.inr (.inr (fun _ => none)))))), (i1, .inl (kT, 0, .inr (.inr (.inr (.inr (fun _ => none))))))]) (va_runV (As := [.int 1, .int (-1)]) (rest := []) ⟨hx, hb, hml, hown, hts⟩ (c_M_trees_1 l eD eI ad dC dI H.size mm ms mt mh me 0 mo ma kO t0 t1 t2 ((.ref i1))) (cwV 2 hts g_c_M_would_25 rfl rfl rfl (by decide +kernel) ⟨Nat.le_of_ble_eq_true rfl, Nat.le_of_ble_eq_true rfl⟩) (z_preV (wc := [(mm, .inr (21, [.int 0, .ref ms, .ref mt, .ref mh, .ref me])), (mt, .inr (1, [.int mo, .ref ma, .int 3])), (ma, .inl (kO, 10, .inr (.inr (.inr (.inr (zfT t0 t1 t2)))))), (t1, .inr (18, [.int (-2), .ref i1]))]) hP hD hK hS hA hE [7, 6, 1, 3] [0] rfl (by decide) rfl (ci := 21) (q0 := 0) rfl rfl) rfl rfl hl.1 rfl (lv_room (Nat.le_of_ble_eq_true rfl)) dX19_wouldChoose_78 ⟨Nat.le_of_ble_eq_true rfl, Nat.le_of_ble_eq_true rfl⟩) hP hD hK hS hA [7, 6, 1, 3] [0, 2, 4, 5] rfl rfl (by decide) (by decide) (fun r_22 u H locs hw_23 hP hD hK hS => ?_)
  obtain ⟨u_20, u_21⟩ := u
  have hP : va_P (dC, dI) vwCl [(mh, .inr (1, [.int 0, .ref eD, .int 0])), (t0, .inr (18, [.int (-1), .ref i0])), (i0, .inl (kT, 0, .inr (.inr (.inr (.inr (fun _ => none)))))), (i1, .inl (kT, 0, .inr (.inr (.inr (.inr (fun _ => none)))))), (mm, .inr (21, [.int 0, .ref ms, .ref mt, .ref mh, .ref me])), (mt, .inr (1, [.int mo, .ref ma, .int 3])), (ma, .inl (kO, 10, .inr (.inr (.inr (.inr (zfT t0 t1 t2)))))), (t1, .inr (18, [.int (-2), .ref i1])), (u_20, .inl (u_21, 1, .inr (.inr (.inr (.inr (va_up (fun _ => none) (0 : Int32).toNatClampNeg (some t1)))))))] H := hP
  have hD : va_D A [(mh, .inr (1, [.int 0, .ref eD, .int 0])), (t0, .inr (18, [.int (-1), .ref i0])), (i0, .inl (kT, 0, .inr (.inr (.inr (.inr (fun _ => none)))))), (i1, .inl (kT, 0, .inr (.inr (.inr (.inr (fun _ => none)))))), (mm, .inr (21, [.int 0, .ref ms, .ref mt, .ref mh, .ref me])), (mt, .inr (1, [.int mo, .ref ma, .int 3])), (ma, .inl (kO, 10, .inr (.inr (.inr (.inr (zfT t0 t1 t2)))))), (t1, .inr (18, [.int (-2), .ref i1])), (u_20, .inl (u_21, 1, .inr (.inr (.inr (.inr (va_up (fun _ => none) (0 : Int32).toNatClampNeg (some t1)))))))] := hD
  have hK : va_K (dC, dI) vwCl [(kO, .object "java/lang/Object"), (kT, .object "HornbookModel$Tree"), (kO, .object "java/lang/Object"), (u_21, .object "HornbookModel$Tree")] s := hK
  have hw_23 : r_22 = some u_20 := hw_23
  have hw_23 := hw_23.symm
  subst hw_23
  refine W.eq (g2 := F0 m 81 ls (.ref u_20 :: [])) rfl ?_
  refine lv_astore (lv' := [(5, .ref u_20), (0, .ref mm), (1, .int 0), (2, .int x2), (3, .int 1), (4, .int (-1))]) hx hb dX19_wouldChoose_81 hl (by decide) rfl (fun ls hl => ?_)
  refine lv_aload_n hx hb dX19_wouldChoose_83 rfl (lv_at hl 1 rfl) ?_
  refine lv_iload_n hx hb dX19_wouldChoose_84 rfl (lv_at hl 2 rfl) ?_
  refine z_q (wr := [(mh, .inr (1, [.int 0, .ref eD, .int 0])), (i0, .inl (kT, 0, .inr (.inr (.inr (.inr (fun _ => none)))))), (i1, .inl (kT, 0, .inr (.inr (.inr (.inr (fun _ => none)))))), (t1, .inr (18, [.int (-2), .ref i1])), (u_20, .inl (u_21, 1, .inr (.inr (.inr (.inr (va_up (fun _ => none) (0 : Int32).toNatClampNeg (some t1)))))))]) (va_runV (As := [.int 0]) (rest := []) ⟨hx, hb, hml, hown, hts⟩ (c_M_type_0 l eD eI ad dC dI H.size mm ms mt mh me 0 mo ma kO t0 t1 t2 ((.ref i0))) (cwV 1 hts g_c_M_would_12 rfl rfl rfl (by decide +kernel) ⟨Nat.le_of_ble_eq_true rfl, Nat.le_of_ble_eq_true rfl⟩) (z_preV (wc := [(mm, .inr (21, [.int 0, .ref ms, .ref mt, .ref mh, .ref me])), (mt, .inr (1, [.int mo, .ref ma, .int 3])), (ma, .inl (kO, 10, .inr (.inr (.inr (.inr (zfT t0 t1 t2)))))), (t0, .inr (18, [.int (-1), .ref i0]))]) hP hD hK hS hA hE [4, 5, 6, 1] [0] rfl (by decide) rfl (ci := 21) (q0 := 0) rfl rfl) rfl rfl hl.1 rfl (lv_room (Nat.le_of_ble_eq_true rfl)) dX19_wouldChoose_85 ⟨Nat.le_of_ble_eq_true rfl, Nat.le_of_ble_eq_true rfl⟩) hP hD hK hS hA [4, 5, 6, 1] [0, 2, 3, 7, 8] rfl rfl (by decide) (by decide) (fun r_24 u H locs hw_25 hP hD hK hS => ?_)
  obtain ⟨⟩ := u
  have hP : va_P (dC, dI) vwCl [(mh, .inr (1, [.int 0, .ref eD, .int 0])), (i0, .inl (kT, 0, .inr (.inr (.inr (.inr (fun _ => none)))))), (i1, .inl (kT, 0, .inr (.inr (.inr (.inr (fun _ => none)))))), (t1, .inr (18, [.int (-2), .ref i1])), (u_20, .inl (u_21, 1, .inr (.inr (.inr (.inr (va_up (fun _ => none) (0 : Int32).toNatClampNeg (some t1))))))), (mm, .inr (21, [.int 0, .ref ms, .ref mt, .ref mh, .ref me])), (mt, .inr (1, [.int mo, .ref ma, .int 3])), (ma, .inl (kO, 10, .inr (.inr (.inr (.inr (zfT t0 t1 t2)))))), (t0, .inr (18, [.int (-1), .ref i0]))] H := hP
  have hD : va_D A [(mh, .inr (1, [.int 0, .ref eD, .int 0])), (i0, .inl (kT, 0, .inr (.inr (.inr (.inr (fun _ => none)))))), (i1, .inl (kT, 0, .inr (.inr (.inr (.inr (fun _ => none)))))), (t1, .inr (18, [.int (-2), .ref i1])), (u_20, .inl (u_21, 1, .inr (.inr (.inr (.inr (va_up (fun _ => none) (0 : Int32).toNatClampNeg (some t1))))))), (mm, .inr (21, [.int 0, .ref ms, .ref mt, .ref mh, .ref me])), (mt, .inr (1, [.int mo, .ref ma, .int 3])), (ma, .inl (kO, 10, .inr (.inr (.inr (.inr (zfT t0 t1 t2)))))), (t0, .inr (18, [.int (-1), .ref i0]))] := hD
  have hK : va_K (dC, dI) vwCl [(kO, .object "java/lang/Object"), (kT, .object "HornbookModel$Tree"), (kO, .object "java/lang/Object"), (u_21, .object "HornbookModel$Tree")] s := by simpa using hK
  have hw_25 : r_24 = some t0 := hw_25
  have hw_25 := hw_25.symm
  subst hw_25
  refine W.eq (g2 := F0 m 88 ls (.ref t0 :: [])) rfl ?_
  refine z_i (wr := [(mh, .inr (1, [.int 0, .ref eD, .int 0])), (i1, .inl (kT, 0, .inr (.inr (.inr (.inr (fun _ => none)))))), (t1, .inr (18, [.int (-2), .ref i1])), (u_20, .inl (u_21, 1, .inr (.inr (.inr (.inr (va_up (fun _ => none) (0 : Int32).toNatClampNeg (some t1))))))), (mm, .inr (21, [.int 0, .ref ms, .ref mt, .ref mh, .ref me])), (mt, .inr (1, [.int mo, .ref ma, .int 3])), (ma, .inl (kO, 10, .inr (.inr (.inr (.inr (zfT t0 t1 t2))))))]) (va_runV (As := []) (rest := []) ⟨hx, hb, hml, hown, hts⟩ (c_T_isClosed_1 l eD eI ad dC dI H.size t0 i0 kT) (cwV 0 hts g_c_M_would_13 rfl rfl rfl (by decide +kernel) ⟨Nat.le_of_ble_eq_true rfl, Nat.le_of_ble_eq_true rfl⟩) (z_preV (wc := [(t0, .inr (18, [.int (-1), .ref i0])), (i0, .inl (kT, 0, .inr (.inr (.inr (.inr (fun _ => none))))))]) hP hD hK hS hA hE [8, 1] [1] rfl (by decide) rfl (ci := 18) (q0 := 0) rfl rfl) rfl rfl hl.1 rfl (lv_room (Nat.le_of_ble_eq_true rfl)) dX19_wouldChoose_88 ⟨Nat.le_of_ble_eq_true rfl, Nat.le_of_ble_eq_true rfl⟩) hP hD hK hS hA [8, 1] [0, 2, 3, 4, 5, 6, 7] rfl rfl (by decide) (by decide) (fun r_26 u H locs hw_27 hP hD hK hS => ?_)
  obtain ⟨⟩ := u
  have hP : va_P (dC, dI) vwCl [(mh, .inr (1, [.int 0, .ref eD, .int 0])), (i1, .inl (kT, 0, .inr (.inr (.inr (.inr (fun _ => none)))))), (t1, .inr (18, [.int (-2), .ref i1])), (u_20, .inl (u_21, 1, .inr (.inr (.inr (.inr (va_up (fun _ => none) (0 : Int32).toNatClampNeg (some t1))))))), (mm, .inr (21, [.int 0, .ref ms, .ref mt, .ref mh, .ref me])), (mt, .inr (1, [.int mo, .ref ma, .int 3])), (ma, .inl (kO, 10, .inr (.inr (.inr (.inr (zfT t0 t1 t2)))))), (t0, .inr (18, [.int (-1), .ref i0])), (i0, .inl (kT, 0, .inr (.inr (.inr (.inr (fun _ => none))))))] H := hP
  have hD : va_D A [(mh, .inr (1, [.int 0, .ref eD, .int 0])), (i1, .inl (kT, 0, .inr (.inr (.inr (.inr (fun _ => none)))))), (t1, .inr (18, [.int (-2), .ref i1])), (u_20, .inl (u_21, 1, .inr (.inr (.inr (.inr (va_up (fun _ => none) (0 : Int32).toNatClampNeg (some t1))))))), (mm, .inr (21, [.int 0, .ref ms, .ref mt, .ref mh, .ref me])), (mt, .inr (1, [.int mo, .ref ma, .int 3])), (ma, .inl (kO, 10, .inr (.inr (.inr (.inr (zfT t0 t1 t2)))))), (t0, .inr (18, [.int (-1), .ref i0])), (i0, .inl (kT, 0, .inr (.inr (.inr (.inr (fun _ => none))))))] := hD
  have hK : va_K (dC, dI) vwCl [(kO, .object "java/lang/Object"), (kT, .object "HornbookModel$Tree"), (kO, .object "java/lang/Object"), (u_21, .object "HornbookModel$Tree")] s := by simpa using hK
  have hw_27 : r_26 = 1 := hw_27
  have hw_27 := hw_27.symm
  subst hw_27
  refine lv_istore (lv' := [(6, .int 1), (5, .ref u_20), (0, .ref mm), (1, .int 0), (2, .int x2), (3, .int 1), (4, .int (-1))]) hx hb dX19_wouldChoose_91 hl (by decide) rfl (fun ls hl => ?_)
  refine lv_aload hx hb dX19_wouldChoose_93 (lv_at hl 1 rfl) ?_
  refine lv_astore (lv' := [(7, .ref u_20), (6, .int 1), (5, .ref u_20), (0, .ref mm), (1, .int 0), (2, .int x2), (3, .int 1), (4, .int (-1))]) hx hb dX19_wouldChoose_95 hl (by decide) rfl (fun ls hl => ?_)
  refine lv_aload hx hb dX19_wouldChoose_97 (lv_at hl 0 rfl) ?_
  refine va_alen (D := (dC, dI)) (v := 1) hx hb hK hP 3 3 rfl rfl rfl dX19_wouldChoose_99 ?_
  refine lv_istore (lv' := [(8, .int 1), (7, .ref u_20), (6, .int 1), (5, .ref u_20), (0, .ref mm), (1, .int 0), (2, .int x2), (3, .int 1), (4, .int (-1))]) hx hb dX19_wouldChoose_100 hl (by decide) rfl (fun ls hl => ?_)
  refine lv_iconst (v := 0) hx hb dX19_wouldChoose_102 (by decide) ?_
  refine lv_istore (lv' := [(9, .int 0), (8, .int 1), (7, .ref u_20), (6, .int 1), (5, .ref u_20), (0, .ref mm), (1, .int 0), (2, .int x2), (3, .int 1), (4, .int (-1))]) hx hb dX19_wouldChoose_103 hl (by decide) rfl (fun ls hl => ?_)
  refine lv_iload hx hb dX19_wouldChoose_105 (lv_at hl 0 rfl) ?_
  refine lv_iload hx hb dX19_wouldChoose_107 (lv_at hl 1 rfl) ?_
  refine lv_icmp_ge (tgt := 135) hx hb dX19_wouldChoose_109 (by decide) (fun c_28 => ?_) (fun c_28 => ?_)
  · exact absurd c_28 (by decide)
  refine lv_aload hx hb dX19_wouldChoose_112 (lv_at hl 2 rfl) ?_
  refine lv_iload hx hb dX19_wouldChoose_114 (lv_at hl 0 rfl) ?_
  refine va_aldq (D := (dC, dI)) hx hb hK hP 3 3 rfl rfl (by unfold vp_in; decide) dX19_wouldChoose_116 ?_
  refine z_top (v' := .ref t1) (by first | rfl | decide | simp [va_up, va_rf]) ?_
  refine lv_astore (lv' := [(10, .ref t1), (9, .int 0), (8, .int 1), (7, .ref u_20), (6, .int 1), (5, .ref u_20), (0, .ref mm), (1, .int 0), (2, .int x2), (3, .int 1), (4, .int (-1))]) hx hb dX19_wouldChoose_117 hl (by decide) rfl (fun ls hl => ?_)
  refine lv_iload hx hb dX19_wouldChoose_119 (lv_at hl 4 rfl) ?_
  refine lv_aload hx hb dX19_wouldChoose_121 (lv_at hl 0 rfl) ?_
  refine z_i (wr := [(mh, .inr (1, [.int 0, .ref eD, .int 0])), (u_20, .inl (u_21, 1, .inr (.inr (.inr (.inr (va_up (fun _ => none) (0 : Int32).toNatClampNeg (some t1))))))), (mm, .inr (21, [.int 0, .ref ms, .ref mt, .ref mh, .ref me])), (mt, .inr (1, [.int mo, .ref ma, .int 3])), (ma, .inl (kO, 10, .inr (.inr (.inr (.inr (zfT t0 t1 t2)))))), (t0, .inr (18, [.int (-1), .ref i0])), (i0, .inl (kT, 0, .inr (.inr (.inr (.inr (fun _ => none))))))]) (va_runV (As := []) (rest := [.int 1]) ⟨hx, hb, hml, hown, hts⟩ (c_T_isClosed_2 l eD eI ad dC dI H.size t1 i1 kT) (cwV 0 hts g_c_M_would_18 rfl rfl rfl (by decide +kernel) ⟨Nat.le_of_ble_eq_true rfl, Nat.le_of_ble_eq_true rfl⟩) (z_preV (wc := [(t1, .inr (18, [.int (-2), .ref i1])), (i1, .inl (kT, 0, .inr (.inr (.inr (.inr (fun _ => none))))))]) hP hD hK hS hA hE [2, 1] [1] rfl (by decide) rfl (ci := 18) (q0 := 0) rfl rfl) rfl rfl hl.1 rfl (lv_room (Nat.le_of_ble_eq_true rfl)) dX19_wouldChoose_123 ⟨Nat.le_of_ble_eq_true rfl, Nat.le_of_ble_eq_true rfl⟩) hP hD hK hS hA [2, 1] [0, 3, 4, 5, 6, 7, 8] rfl rfl (by decide) (by decide) (fun r_29 u H locs hw_30 hP hD hK hS => ?_)
  obtain ⟨⟩ := u
  have hP : va_P (dC, dI) vwCl [(mh, .inr (1, [.int 0, .ref eD, .int 0])), (u_20, .inl (u_21, 1, .inr (.inr (.inr (.inr (va_up (fun _ => none) (0 : Int32).toNatClampNeg (some t1))))))), (mm, .inr (21, [.int 0, .ref ms, .ref mt, .ref mh, .ref me])), (mt, .inr (1, [.int mo, .ref ma, .int 3])), (ma, .inl (kO, 10, .inr (.inr (.inr (.inr (zfT t0 t1 t2)))))), (t0, .inr (18, [.int (-1), .ref i0])), (i0, .inl (kT, 0, .inr (.inr (.inr (.inr (fun _ => none)))))), (t1, .inr (18, [.int (-2), .ref i1])), (i1, .inl (kT, 0, .inr (.inr (.inr (.inr (fun _ => none))))))] H := hP
  have hD : va_D A [(mh, .inr (1, [.int 0, .ref eD, .int 0])), (u_20, .inl (u_21, 1, .inr (.inr (.inr (.inr (va_up (fun _ => none) (0 : Int32).toNatClampNeg (some t1))))))), (mm, .inr (21, [.int 0, .ref ms, .ref mt, .ref mh, .ref me])), (mt, .inr (1, [.int mo, .ref ma, .int 3])), (ma, .inl (kO, 10, .inr (.inr (.inr (.inr (zfT t0 t1 t2)))))), (t0, .inr (18, [.int (-1), .ref i0])), (i0, .inl (kT, 0, .inr (.inr (.inr (.inr (fun _ => none)))))), (t1, .inr (18, [.int (-2), .ref i1])), (i1, .inl (kT, 0, .inr (.inr (.inr (.inr (fun _ => none))))))] := hD
  have hK : va_K (dC, dI) vwCl [(kO, .object "java/lang/Object"), (kT, .object "HornbookModel$Tree"), (kO, .object "java/lang/Object"), (u_21, .object "HornbookModel$Tree")] s := by simpa using hK
  have hw_30 : r_29 = 1 := hw_30
  have hw_30 := hw_30.symm
  subst hw_30
  refine lv_iand hx hb dX19_wouldChoose_126 ?_
  refine z_top (v' := .int 1) (congrArg Value.int (by decide)) ?_
  refine lv_istore (lv' := [(6, .int 1), (10, .ref t1), (9, .int 0), (8, .int 1), (7, .ref u_20), (5, .ref u_20), (0, .ref mm), (1, .int 0), (2, .int x2), (3, .int 1), (4, .int (-1))]) hx hb dX19_wouldChoose_127 hl (by decide) rfl (fun ls hl => ?_)
  refine lv_iinc (v := 1) (lv' := [(9, .int 1), (6, .int 1), (10, .ref t1), (8, .int 1), (7, .ref u_20), (5, .ref u_20), (0, .ref mm), (1, .int 0), (2, .int x2), (3, .int 1), (4, .int (-1))]) hx hb dX19_wouldChoose_129 hl (k := 2) rfl (by decide) (by decide) rfl (fun ls hl => ?_)
  refine lv_goto (tgt := 105) hx hb dX19_wouldChoose_132 (by decide) ?_
  refine lv_iload hx hb dX19_wouldChoose_105 (lv_at hl 0 rfl) ?_
  refine lv_iload hx hb dX19_wouldChoose_107 (lv_at hl 3 rfl) ?_
  refine lv_icmp_ge (tgt := 135) hx hb dX19_wouldChoose_109 (by decide) (fun c_31 => ?_) (fun c_31 => ?_)
  rotate_left
  · exact absurd (by decide) c_31
  refine lv_aload_n hx hb dX19_wouldChoose_135 rfl (lv_at hl 6 rfl) ?_
  refine lv_iload hx hb dX19_wouldChoose_136 (lv_at hl 1 rfl) ?_
  refine lv_if_ne (tgt := 145) hx hb dX19_wouldChoose_138 (by decide) (fun c_32 => ?_) (fun c_32 => ?_)
  rotate_left
  · exact absurd c_32 (by decide)
  refine lv_iconst (v := 0) hx hb dX19_wouldChoose_145 (by decide) ?_
  refine lv_iconst (v := 2) hx hb dX19_wouldChoose_146 (by decide) ?_
  refine z_i (wr := [(mh, .inr (1, [.int 0, .ref eD, .int 0])), (u_20, .inl (u_21, 1, .inr (.inr (.inr (.inr (va_up (fun _ => none) (0 : Int32).toNatClampNeg (some t1))))))), (mt, .inr (1, [.int mo, .ref ma, .int 3])), (ma, .inl (kO, 10, .inr (.inr (.inr (.inr (zfT t0 t1 t2)))))), (t0, .inr (18, [.int (-1), .ref i0])), (i0, .inl (kT, 0, .inr (.inr (.inr (.inr (fun _ => none)))))), (t1, .inr (18, [.int (-2), .ref i1])), (i1, .inl (kT, 0, .inr (.inr (.inr (.inr (fun _ => none))))))]) (va_runV (As := [.int 0, .int 2]) (rest := []) ⟨hx, hb, hml, hown, hts⟩ (c_M_refuse_no l eD eI ad dC dI H.size mm ((.ref ms)) ((.ref mt)) ((.ref mh)) ((.ref me)) 2) (cwV 2 hts g_c_M_would_10 rfl rfl rfl (by decide +kernel) ⟨Nat.le_of_ble_eq_true rfl, Nat.le_of_ble_eq_true rfl⟩) (z_preV (wc := [(mm, .inr (21, [.int 0, .ref ms, .ref mt, .ref mh, .ref me]))]) hP hD hK hS hA hE [2] [] rfl (by decide) rfl (ci := 21) (q0 := 0) rfl rfl) rfl rfl hl.1 rfl (lv_room (Nat.le_of_ble_eq_true rfl)) dX19_wouldChoose_147 ⟨Nat.le_of_ble_eq_true rfl, Nat.le_of_ble_eq_true rfl⟩) hP hD hK hS hA [2] [0, 1, 3, 4, 5, 6, 7, 8] rfl rfl (by decide) (by decide) (fun r_33 u H locs hw_34 hP hD hK hS => ?_)
  obtain ⟨⟩ := u
  have hP : va_P (dC, dI) vwCl [(mh, .inr (1, [.int 0, .ref eD, .int 0])), (u_20, .inl (u_21, 1, .inr (.inr (.inr (.inr (va_up (fun _ => none) (0 : Int32).toNatClampNeg (some t1))))))), (mt, .inr (1, [.int mo, .ref ma, .int 3])), (ma, .inl (kO, 10, .inr (.inr (.inr (.inr (zfT t0 t1 t2)))))), (t0, .inr (18, [.int (-1), .ref i0])), (i0, .inl (kT, 0, .inr (.inr (.inr (.inr (fun _ => none)))))), (t1, .inr (18, [.int (-2), .ref i1])), (i1, .inl (kT, 0, .inr (.inr (.inr (.inr (fun _ => none)))))), (mm, .inr (21, [.int 0, .ref ms, .ref mt, .ref mh, .ref me]))] H := hP
  have hD : va_D A [(mh, .inr (1, [.int 0, .ref eD, .int 0])), (u_20, .inl (u_21, 1, .inr (.inr (.inr (.inr (va_up (fun _ => none) (0 : Int32).toNatClampNeg (some t1))))))), (mt, .inr (1, [.int mo, .ref ma, .int 3])), (ma, .inl (kO, 10, .inr (.inr (.inr (.inr (zfT t0 t1 t2)))))), (t0, .inr (18, [.int (-1), .ref i0])), (i0, .inl (kT, 0, .inr (.inr (.inr (.inr (fun _ => none)))))), (t1, .inr (18, [.int (-2), .ref i1])), (i1, .inl (kT, 0, .inr (.inr (.inr (.inr (fun _ => none)))))), (mm, .inr (21, [.int 0, .ref ms, .ref mt, .ref mh, .ref me]))] := hD
  have hK : va_K (dC, dI) vwCl [(kO, .object "java/lang/Object"), (kT, .object "HornbookModel$Tree"), (kO, .object "java/lang/Object"), (u_21, .object "HornbookModel$Tree")] s := by simpa using hK
  have hw_34 : r_33 = 0 := hw_34
  have hw_34 := hw_34.symm
  subst hw_34
  refine lv_if_eq (tgt := 155) hx hb dX19_wouldChoose_150 (by decide) (fun c_35 => ?_) (fun c_35 => ?_)
  rotate_left
  · exact absurd (by decide) c_35
  refine va_new (ci := 20) (fs := [.null, .int 0, .int 0, .int 0, .null, .int 0, .int 0]) (C := RX18) (T := TX18) (N := 7) hx hb hts in_RX18 tyX18 tyX18_ok hown (hts (.classLink RX19 184 RX18) (by decide +kernel)) (hts (.instantiable RX18 7) (by decide +kernel)) (hts (.initialized RX18) (by decide +kernel)) hK hP hD hS hA rfl (fun j hj => by rcases (show j = 0 ∨ j = 1 ∨ j = 2 ∨ j = 3 ∨ j = 4 ∨ j = 5 ∨ j = 6 by omega) with rfl | rfl | rfl | rfl | rfl | rfl | rfl <;> rfl) (Nat.le_of_ble_eq_true rfl) (Nat.le_of_ble_eq_true rfl) dX19_wouldChoose_155 (fun q_36 H hP hD hS => ?_)
  have hP : va_P (dC, dI) vwCl [(mh, .inr (1, [.int 0, .ref eD, .int 0])), (u_20, .inl (u_21, 1, .inr (.inr (.inr (.inr (va_up (fun _ => none) (0 : Int32).toNatClampNeg (some t1))))))), (mt, .inr (1, [.int mo, .ref ma, .int 3])), (ma, .inl (kO, 10, .inr (.inr (.inr (.inr (zfT t0 t1 t2)))))), (t0, .inr (18, [.int (-1), .ref i0])), (i0, .inl (kT, 0, .inr (.inr (.inr (.inr (fun _ => none)))))), (t1, .inr (18, [.int (-2), .ref i1])), (i1, .inl (kT, 0, .inr (.inr (.inr (.inr (fun _ => none)))))), (mm, .inr (21, [.int 0, .ref ms, .ref mt, .ref mh, .ref me])), (q_36, .inr (20, [.null, .int 0, .int 0, .int 0, .null, .int 0, .int 0]))] H := hP
  have hD : va_D A [(mh, .inr (1, [.int 0, .ref eD, .int 0])), (u_20, .inl (u_21, 1, .inr (.inr (.inr (.inr (va_up (fun _ => none) (0 : Int32).toNatClampNeg (some t1))))))), (mt, .inr (1, [.int mo, .ref ma, .int 3])), (ma, .inl (kO, 10, .inr (.inr (.inr (.inr (zfT t0 t1 t2)))))), (t0, .inr (18, [.int (-1), .ref i0])), (i0, .inl (kT, 0, .inr (.inr (.inr (.inr (fun _ => none)))))), (t1, .inr (18, [.int (-2), .ref i1])), (i1, .inl (kT, 0, .inr (.inr (.inr (.inr (fun _ => none)))))), (mm, .inr (21, [.int 0, .ref ms, .ref mt, .ref mh, .ref me])), (q_36, .inr (20, [.null, .int 0, .int 0, .int 0, .null, .int 0, .int 0]))] := hD
  refine lv_dup hx hb dX19_wouldChoose_158 rfl ?_
  refine z_v (wr := [(mh, .inr (1, [.int 0, .ref eD, .int 0])), (u_20, .inl (u_21, 1, .inr (.inr (.inr (.inr (va_up (fun _ => none) (0 : Int32).toNatClampNeg (some t1))))))), (mt, .inr (1, [.int mo, .ref ma, .int 3])), (ma, .inl (kO, 10, .inr (.inr (.inr (.inr (zfT t0 t1 t2)))))), (t0, .inr (18, [.int (-1), .ref i0])), (i0, .inl (kT, 0, .inr (.inr (.inr (.inr (fun _ => none)))))), (t1, .inr (18, [.int (-2), .ref i1])), (i1, .inl (kT, 0, .inr (.inr (.inr (.inr (fun _ => none)))))), (mm, .inr (21, [.int 0, .ref ms, .ref mt, .ref mh, .ref me]))]) (va_runIN (As := []) (rest := [.ref q_36]) ⟨hx, hb, hml, hown, hts⟩ (c_W_init l eD eI ad dC dI H.size q_36) (⟨va_cnB 0 hts g_c_M_would_14 rfl rfl rfl (hE.2.2.1 (.methodLinkNest RX19 226 yX18_init "HornbookModel") (by decide +kernel)) (hts (.initialized RX18) (by decide +kernel)) (by decide +kernel) ⟨Nat.le_of_ble_eq_true rfl, Nat.le_of_ble_eq_true rfl⟩, rfl, (hts (.instanceMethod yX18_init) (by decide +kernel))⟩) (z_preS (wc := [(q_36, .inr (20, [.null, .int 0, .int 0, .int 0, .null, .int 0, .int 0]))]) hP hD hK hS hA hE [9] [] rfl (by decide) rfl) rfl rfl hl.1 rfl (lv_room (Nat.le_of_ble_eq_true rfl)) dX19_wouldChoose_159 ⟨Nat.le_of_ble_eq_true rfl, Nat.le_of_ble_eq_true rfl⟩) hP hD hK hS hA [9] [0, 1, 2, 3, 4, 5, 6, 7, 8] rfl rfl (by decide) (by decide) (fun u H locs hw_38 hP hD hK hS => ?_)
  obtain ⟨⟩ := u
  have hP : va_P (dC, dI) vwCl [(mh, .inr (1, [.int 0, .ref eD, .int 0])), (u_20, .inl (u_21, 1, .inr (.inr (.inr (.inr (va_up (fun _ => none) (0 : Int32).toNatClampNeg (some t1))))))), (mt, .inr (1, [.int mo, .ref ma, .int 3])), (ma, .inl (kO, 10, .inr (.inr (.inr (.inr (zfT t0 t1 t2)))))), (t0, .inr (18, [.int (-1), .ref i0])), (i0, .inl (kT, 0, .inr (.inr (.inr (.inr (fun _ => none)))))), (t1, .inr (18, [.int (-2), .ref i1])), (i1, .inl (kT, 0, .inr (.inr (.inr (.inr (fun _ => none)))))), (mm, .inr (21, [.int 0, .ref ms, .ref mt, .ref mh, .ref me])), (q_36, .inr (20, [.null, .int 0, .int 0, .int (-1), .null, .int 0, .int 0]))] H := hP
  have hD : va_D A [(mh, .inr (1, [.int 0, .ref eD, .int 0])), (u_20, .inl (u_21, 1, .inr (.inr (.inr (.inr (va_up (fun _ => none) (0 : Int32).toNatClampNeg (some t1))))))), (mt, .inr (1, [.int mo, .ref ma, .int 3])), (ma, .inl (kO, 10, .inr (.inr (.inr (.inr (zfT t0 t1 t2)))))), (t0, .inr (18, [.int (-1), .ref i0])), (i0, .inl (kT, 0, .inr (.inr (.inr (.inr (fun _ => none)))))), (t1, .inr (18, [.int (-2), .ref i1])), (i1, .inl (kT, 0, .inr (.inr (.inr (.inr (fun _ => none)))))), (mm, .inr (21, [.int 0, .ref ms, .ref mt, .ref mh, .ref me])), (q_36, .inr (20, [.null, .int 0, .int 0, .int (-1), .null, .int 0, .int 0]))] := hD
  have hK : va_K (dC, dI) vwCl [(kO, .object "java/lang/Object"), (kT, .object "HornbookModel$Tree"), (kO, .object "java/lang/Object"), (u_21, .object "HornbookModel$Tree")] s := by simpa using hK
  refine lv_astore (lv' := [(7, .ref q_36), (9, .int 1), (6, .int 1), (10, .ref t1), (8, .int 1), (5, .ref u_20), (0, .ref mm), (1, .int 0), (2, .int x2), (3, .int 1), (4, .int (-1))]) hx hb dX19_wouldChoose_162 hl (by decide) rfl (fun ls hl => ?_)
  refine lv_aload_n hx hb dX19_wouldChoose_164 rfl (lv_at hl 6 rfl) ?_
  refine z_q (wr := [(mh, .inr (1, [.int 0, .ref eD, .int 0])), (u_20, .inl (u_21, 1, .inr (.inr (.inr (.inr (va_up (fun _ => none) (0 : Int32).toNatClampNeg (some t1))))))), (mt, .inr (1, [.int mo, .ref ma, .int 3])), (ma, .inl (kO, 10, .inr (.inr (.inr (.inr (zfT t0 t1 t2)))))), (t0, .inr (18, [.int (-1), .ref i0])), (i0, .inl (kT, 0, .inr (.inr (.inr (.inr (fun _ => none)))))), (t1, .inr (18, [.int (-2), .ref i1])), (i1, .inl (kT, 0, .inr (.inr (.inr (.inr (fun _ => none)))))), (q_36, .inr (20, [.null, .int 0, .int 0, .int (-1), .null, .int 0, .int 0]))]) (va_runV (As := []) (rest := []) ⟨hx, hb, hml, hown, hts⟩ (c_M_view l eD eI ad dC dI H.size mm ms mt mh me 0) (cwV 0 hts g_c_M_would_15 rfl rfl rfl (by decide +kernel) ⟨Nat.le_of_ble_eq_true rfl, Nat.le_of_ble_eq_true rfl⟩) (z_preV (wc := [(mm, .inr (21, [.int 0, .ref ms, .ref mt, .ref mh, .ref me]))]) hP hD hK hS hA hE [8] [] rfl (by decide) rfl (ci := 21) (q0 := 0) rfl rfl) rfl rfl hl.1 rfl (lv_room (Nat.le_of_ble_eq_true rfl)) dX19_wouldChoose_165 ⟨Nat.le_of_ble_eq_true rfl, Nat.le_of_ble_eq_true rfl⟩) hP hD hK hS hA [8] [0, 1, 2, 3, 4, 5, 6, 7, 9] rfl rfl (by decide) (by decide) (fun r_40 u H locs hw_41 hP hD hK hS => ?_)
  obtain ⟨u_39, rfl⟩ : ∃ z, z = u := ⟨_, rfl⟩
  have hP : va_P (dC, dI) vwCl [(mh, .inr (1, [.int 0, .ref eD, .int 0])), (u_20, .inl (u_21, 1, .inr (.inr (.inr (.inr (va_up (fun _ => none) (0 : Int32).toNatClampNeg (some t1))))))), (mt, .inr (1, [.int mo, .ref ma, .int 3])), (ma, .inl (kO, 10, .inr (.inr (.inr (.inr (zfT t0 t1 t2)))))), (t0, .inr (18, [.int (-1), .ref i0])), (i0, .inl (kT, 0, .inr (.inr (.inr (.inr (fun _ => none)))))), (t1, .inr (18, [.int (-2), .ref i1])), (i1, .inl (kT, 0, .inr (.inr (.inr (.inr (fun _ => none)))))), (q_36, .inr (20, [.null, .int 0, .int 0, .int (-1), .null, .int 0, .int 0])), (mm, .inr (21, [.int 0, .ref ms, .ref mt, .ref mh, .ref me])), (u_39, .inr (19, [.int (-1), .int (-1), .int (-1), .int (-1), .ref mm]))] H := hP
  have hD : va_D A [(mh, .inr (1, [.int 0, .ref eD, .int 0])), (u_20, .inl (u_21, 1, .inr (.inr (.inr (.inr (va_up (fun _ => none) (0 : Int32).toNatClampNeg (some t1))))))), (mt, .inr (1, [.int mo, .ref ma, .int 3])), (ma, .inl (kO, 10, .inr (.inr (.inr (.inr (zfT t0 t1 t2)))))), (t0, .inr (18, [.int (-1), .ref i0])), (i0, .inl (kT, 0, .inr (.inr (.inr (.inr (fun _ => none)))))), (t1, .inr (18, [.int (-2), .ref i1])), (i1, .inl (kT, 0, .inr (.inr (.inr (.inr (fun _ => none)))))), (q_36, .inr (20, [.null, .int 0, .int 0, .int (-1), .null, .int 0, .int 0])), (mm, .inr (21, [.int 0, .ref ms, .ref mt, .ref mh, .ref me])), (u_39, .inr (19, [.int (-1), .int (-1), .int (-1), .int (-1), .ref mm]))] := hD
  have hK : va_K (dC, dI) vwCl [(kO, .object "java/lang/Object"), (kT, .object "HornbookModel$Tree"), (kO, .object "java/lang/Object"), (u_21, .object "HornbookModel$Tree")] s := by simpa using hK
  have hw_41 : r_40 = some u_39 := hw_41
  have hw_41 := hw_41.symm
  subst hw_41
  refine W.eq (g2 := F0 m 168 ls (.ref u_39 :: [])) rfl ?_
  refine lv_aload_n hx hb dX19_wouldChoose_168 rfl (lv_at hl 6 rfl) ?_
  refine lv_iload_n hx hb dX19_wouldChoose_169 rfl (lv_at hl 7 rfl) ?_
  refine z_q (wr := [(mh, .inr (1, [.int 0, .ref eD, .int 0])), (u_20, .inl (u_21, 1, .inr (.inr (.inr (.inr (va_up (fun _ => none) (0 : Int32).toNatClampNeg (some t1))))))), (i0, .inl (kT, 0, .inr (.inr (.inr (.inr (fun _ => none)))))), (t1, .inr (18, [.int (-2), .ref i1])), (i1, .inl (kT, 0, .inr (.inr (.inr (.inr (fun _ => none)))))), (q_36, .inr (20, [.null, .int 0, .int 0, .int (-1), .null, .int 0, .int 0])), (u_39, .inr (19, [.int (-1), .int (-1), .int (-1), .int (-1), .ref mm]))]) (va_runV (As := [.int 0]) (rest := [.ref u_39]) ⟨hx, hb, hml, hown, hts⟩ (c_M_type_0 l eD eI ad dC dI H.size mm ms mt mh me 0 mo ma kO t0 t1 t2 ((.ref i0))) (cwV 1 hts g_c_M_would_12 rfl rfl rfl (by decide +kernel) ⟨Nat.le_of_ble_eq_true rfl, Nat.le_of_ble_eq_true rfl⟩) (z_preV (wc := [(mm, .inr (21, [.int 0, .ref ms, .ref mt, .ref mh, .ref me])), (mt, .inr (1, [.int mo, .ref ma, .int 3])), (ma, .inl (kO, 10, .inr (.inr (.inr (.inr (zfT t0 t1 t2)))))), (t0, .inr (18, [.int (-1), .ref i0]))]) hP hD hK hS hA hE [9, 2, 3, 4] [0] rfl (by decide) rfl (ci := 21) (q0 := 0) rfl rfl) rfl rfl hl.1 rfl (lv_room (Nat.le_of_ble_eq_true rfl)) dX19_wouldChoose_170 ⟨Nat.le_of_ble_eq_true rfl, Nat.le_of_ble_eq_true rfl⟩) hP hD hK hS hA [9, 2, 3, 4] [0, 1, 5, 6, 7, 8, 10] rfl rfl (by decide) (by decide) (fun r_42 u H locs hw_43 hP hD hK hS => ?_)
  obtain ⟨⟩ := u
  have hP : va_P (dC, dI) vwCl [(mh, .inr (1, [.int 0, .ref eD, .int 0])), (u_20, .inl (u_21, 1, .inr (.inr (.inr (.inr (va_up (fun _ => none) (0 : Int32).toNatClampNeg (some t1))))))), (i0, .inl (kT, 0, .inr (.inr (.inr (.inr (fun _ => none)))))), (t1, .inr (18, [.int (-2), .ref i1])), (i1, .inl (kT, 0, .inr (.inr (.inr (.inr (fun _ => none)))))), (q_36, .inr (20, [.null, .int 0, .int 0, .int (-1), .null, .int 0, .int 0])), (u_39, .inr (19, [.int (-1), .int (-1), .int (-1), .int (-1), .ref mm])), (mm, .inr (21, [.int 0, .ref ms, .ref mt, .ref mh, .ref me])), (mt, .inr (1, [.int mo, .ref ma, .int 3])), (ma, .inl (kO, 10, .inr (.inr (.inr (.inr (zfT t0 t1 t2)))))), (t0, .inr (18, [.int (-1), .ref i0]))] H := hP
  have hD : va_D A [(mh, .inr (1, [.int 0, .ref eD, .int 0])), (u_20, .inl (u_21, 1, .inr (.inr (.inr (.inr (va_up (fun _ => none) (0 : Int32).toNatClampNeg (some t1))))))), (i0, .inl (kT, 0, .inr (.inr (.inr (.inr (fun _ => none)))))), (t1, .inr (18, [.int (-2), .ref i1])), (i1, .inl (kT, 0, .inr (.inr (.inr (.inr (fun _ => none)))))), (q_36, .inr (20, [.null, .int 0, .int 0, .int (-1), .null, .int 0, .int 0])), (u_39, .inr (19, [.int (-1), .int (-1), .int (-1), .int (-1), .ref mm])), (mm, .inr (21, [.int 0, .ref ms, .ref mt, .ref mh, .ref me])), (mt, .inr (1, [.int mo, .ref ma, .int 3])), (ma, .inl (kO, 10, .inr (.inr (.inr (.inr (zfT t0 t1 t2)))))), (t0, .inr (18, [.int (-1), .ref i0]))] := hD
  have hK : va_K (dC, dI) vwCl [(kO, .object "java/lang/Object"), (kT, .object "HornbookModel$Tree"), (kO, .object "java/lang/Object"), (u_21, .object "HornbookModel$Tree")] s := by simpa using hK
  have hw_43 : r_42 = some t0 := hw_43
  have hw_43 := hw_43.symm
  subst hw_43
  refine W.eq (g2 := F0 m 173 ls (.ref t0 :: .ref u_39 :: [])) rfl ?_
  refine lv_iload_n hx hb dX19_wouldChoose_173 rfl (lv_at hl 8 rfl) ?_
  refine lv_aload hx hb dX19_wouldChoose_174 (lv_at hl 5 rfl) ?_
  refine lv_aload hx hb dX19_wouldChoose_176 (lv_at hl 0 rfl) ?_
  refine z_v (wr := [(u_20, .inl (u_21, 1, .inr (.inr (.inr (.inr (va_up (fun _ => none) (0 : Int32).toNatClampNeg (some t1))))))), (i0, .inl (kT, 0, .inr (.inr (.inr (.inr (fun _ => none)))))), (t1, .inr (18, [.int (-2), .ref i1])), (i1, .inl (kT, 0, .inr (.inr (.inr (.inr (fun _ => none)))))), (mt, .inr (1, [.int mo, .ref ma, .int 3])), (ma, .inl (kO, 10, .inr (.inr (.inr (.inr (zfT t0 t1 t2))))))]) (va_runV (As := [.ref t0, .int x2, .ref u_20, .ref q_36]) (rest := []) ⟨hx, hb, hml, hown, hts⟩ (c_V_call l eD eI ad dC dI H.size u_39 mm ms mt mh me 0 t0 (-1) ((.ref i0)) x2 u_20 q_36 (by decide)) (cwV 4 hts g_c_M_would_16 rfl rfl rfl (by decide +kernel) ⟨Nat.le_of_ble_eq_true rfl, Nat.le_of_ble_eq_true rfl⟩) (z_preV (wc := [(u_39, .inr (19, [.int (-1), .int (-1), .int (-1), .int (-1), .ref mm])), (mm, .inr (21, [.int 0, .ref ms, .ref mt, .ref mh, .ref me])), (mh, .inr (1, [.int 0, .ref eD, .int 0])), (t0, .inr (18, [.int (-1), .ref i0])), (q_36, .inr (20, [.null, .int 0, .int 0, .int (-1), .null, .int 0, .int 0]))]) hP hD hK hS hA hE [6, 7, 0, 10, 5] [] rfl (by decide) rfl (ci := 19) (q0 := 0) rfl rfl) rfl rfl hl.1 rfl (lv_room (Nat.le_of_ble_eq_true rfl)) dX19_wouldChoose_178 ⟨Nat.le_of_ble_eq_true rfl, Nat.le_of_ble_eq_true rfl⟩) hP hD hK hS hA [6, 7, 0, 10, 5] [1, 2, 3, 4, 8, 9] rfl rfl (by decide) (by decide) (fun u H locs hw_46 hP hD hK hS => ?_)
  obtain ⟨u_44, rfl⟩ : ∃ z, z = u := ⟨_, rfl⟩
  have hP : va_P (dC, dI) vwCl [(u_20, .inl (u_21, 1, .inr (.inr (.inr (.inr (va_up (fun _ => none) (0 : Int32).toNatClampNeg (some t1))))))), (i0, .inl (kT, 0, .inr (.inr (.inr (.inr (fun _ => none)))))), (t1, .inr (18, [.int (-2), .ref i1])), (i1, .inl (kT, 0, .inr (.inr (.inr (.inr (fun _ => none)))))), (mt, .inr (1, [.int mo, .ref ma, .int 3])), (ma, .inl (kO, 10, .inr (.inr (.inr (.inr (zfT t0 t1 t2)))))), (mm, .inr (21, [.int 0, .ref ms, .ref mt, .ref mh, .ref me])), (q_36, .inr (20, [.ref u_44, .int 0, .int 0, .int (-1), .null, .int 1, .int 0]))] H := hP
  have hD : va_D A [(u_20, .inl (u_21, 1, .inr (.inr (.inr (.inr (va_up (fun _ => none) (0 : Int32).toNatClampNeg (some t1))))))), (i0, .inl (kT, 0, .inr (.inr (.inr (.inr (fun _ => none)))))), (t1, .inr (18, [.int (-2), .ref i1])), (i1, .inl (kT, 0, .inr (.inr (.inr (.inr (fun _ => none)))))), (mt, .inr (1, [.int mo, .ref ma, .int 3])), (ma, .inl (kO, 10, .inr (.inr (.inr (.inr (zfT t0 t1 t2)))))), (mm, .inr (21, [.int 0, .ref ms, .ref mt, .ref mh, .ref me])), (q_36, .inr (20, [.ref u_44, .int 0, .int 0, .int (-1), .null, .int 1, .int 0]))] := hD
  have hK : va_K (dC, dI) vwCl [(kO, .object "java/lang/Object"), (kT, .object "HornbookModel$Tree"), (kO, .object "java/lang/Object"), (u_21, .object "HornbookModel$Tree")] s := by simpa using hK
  refine lv_aload hx hb dX19_wouldChoose_181 (lv_at hl 0 rfl) ?_
  refine va_get (D := (dC, dI)) (ci := 20) (v := .int 1) (C := RX18) (T := TX18) (N := 7) hx hb hts in_RX18 hown hK hP 7 rfl rfl 5 (by decide) (hts (.fieldLink RX19 231 "HornbookModel$Word" "fault" "I") (by decide +kernel)) (fun _ h9 => h9) rfl dX19_wouldChoose_183 ?_
  refine lv_if_le (tgt := 198) hx hb dX19_wouldChoose_186 (by decide) (fun c_47 => ?_) (fun c_47 => ?_)
  · exact absurd c_47 (by decide)
  refine lv_aload hx hb dX19_wouldChoose_189 (lv_at hl 0 rfl) ?_
  refine va_get (D := (dC, dI)) (ci := 20) (v := .int 1) (C := RX18) (T := TX18) (N := 7) hx hb hts in_RX18 hown hK hP 7 rfl rfl 5 (by decide) (hts (.fieldLink RX19 231 "HornbookModel$Word" "fault" "I") (by decide +kernel)) (fun _ h9 => h9) rfl dX19_wouldChoose_191 ?_
  refine lv_ineg hx hb dX19_wouldChoose_194 ?_
  refine z_top (v' := .int (-1)) (congrArg Value.int (by decide)) ?_
  refine lv_goto (tgt := 203) hx hb dX19_wouldChoose_195 (by decide) ?_
  have hP9 := hP.sub (ws' := [(mm, .inr (21, [.int 0, .ref ms, .ref mt, .ref mh, .ref me]))]) [6] rfl
  have hD9 := hD.sub (ws' := [(mm, .inr (21, [.int 0, .ref ms, .ref mt, .ref mh, .ref me]))]) [6] (by decide) rfl
  have hK9 := hK.sub (tys' := []) [] rfl
  refine W.widen (k := 7) (n := 22) (Nat.le_of_ble_eq_true rfl) (Nat.le_of_ble_eq_true rfl) ?_
  exact W.iret (v := (-1)) hx hb hr (fun t ht hW => ⟨⟨(-1), (0, (-1)), rfl, ⟨rfl, by first | decide | simp [hx20, hx21], by first | exact fun h => absurd h (by decide) | exact fun _ => rfl | rfl | decide | simp⟩, ⟨by rw [ht]; exact hP9, va_K.moved hW.alike hK9, hD9⟩⟩, hS.F ht⟩) hS.2.2 dX19_wouldChoose_203
