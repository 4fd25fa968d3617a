theorem dL_law_1069 : decode cL_law 1069 = .ok (.aload_n 1, 1) := by decide +kernel
theorem dL_law_1070 : decode cL_law 1070 = .ok (.aload_n 0, 1) := by decide +kernel
theorem dL_law_1071 : decode cL_law 1071 = .ok (.iload 4, 2) := by decide +kernel
theorem dL_law_1073 : decode cL_law 1073 = .ok (.iconst 1, 1) := by decide +kernel
theorem dL_law_1074 : decode cL_law 1074 = .ok (.iadd, 1) := by decide +kernel
theorem dL_law_1075 : decode cL_law 1075 = .ok (.iaload, 1) := by decide +kernel
theorem dL_law_1076 : decode cL_law 1076 = .ok (.aload_n 0, 1) := by decide +kernel
theorem dL_law_1077 : decode cL_law 1077 = .ok (.iload 4, 2) := by decide +kernel
theorem dL_law_1079 : decode cL_law 1079 = .ok (.iconst 2, 1) := by decide +kernel
theorem dL_law_1080 : decode cL_law 1080 = .ok (.iadd, 1) := by decide +kernel
theorem dL_law_1081 : decode cL_law 1081 = .ok (.iaload, 1) := by decide +kernel
theorem dL_law_1082 : decode cL_law 1082 = .ok (.aload_n 3, 1) := by decide +kernel
theorem dL_law_1083 : decode cL_law 1083 = .ok (.invokestatic 154, 3) := by decide +kernel
theorem dL_law_1086 : decode cL_law 1086 = .ok (.istore 5, 2) := by decide +kernel
theorem dL_law_1088 : decode cL_law 1088 = .ok (.aload_n 2, 1) := by decide +kernel
theorem dL_law_1089 : decode cL_law 1089 = .ok (.aload_n 0, 1) := by decide +kernel
theorem dL_law_1090 : decode cL_law 1090 = .ok (.iload 4, 2) := by decide +kernel
theorem dL_law_1092 : decode cL_law 1092 = .ok (.iconst 1, 1) := by decide +kernel
theorem dL_law_1093 : decode cL_law 1093 = .ok (.iadd, 1) := by decide +kernel
theorem dL_law_1094 : decode cL_law 1094 = .ok (.iaload, 1) := by decide +kernel
theorem dL_law_1095 : decode cL_law 1095 = .ok (.aload_n 0, 1) := by decide +kernel
theorem dL_law_1096 : decode cL_law 1096 = .ok (.iload 4, 2) := by decide +kernel
theorem dL_law_1098 : decode cL_law 1098 = .ok (.iconst 2, 1) := by decide +kernel
theorem dL_law_1099 : decode cL_law 1099 = .ok (.iadd, 1) := by decide +kernel
theorem dL_law_1100 : decode cL_law 1100 = .ok (.iaload, 1) := by decide +kernel
theorem dL_law_1101 : decode cL_law 1101 = .ok (.invokevirtual 156, 3) := by decide +kernel
theorem dL_law_1104 : decode cL_law 1104 = .ok (.istore 6, 2) := by decide +kernel
theorem dL_law_1106 : decode cL_law 1106 = .ok (.aload_n 2, 1) := by decide +kernel
theorem dL_law_1107 : decode cL_law 1107 = .ok (.invokevirtual 113, 3) := by decide +kernel
theorem dL_law_1110 : decode cL_law 1110 = .ok (.iload 5, 2) := by decide +kernel
theorem dL_law_1112 : decode cL_law 1112 = .ok (.if_icmp .eq 5, 3) := by decide +kernel
theorem dL_law_1117 : decode cL_law 1117 = .ok (.iload 5, 2) := by decide +kernel
theorem dL_law_1119 : decode cL_law 1119 = .ok (.ifCond .ne 22, 3) := by decide +kernel
theorem dL_law_1141 : decode cL_law 1141 = .ok (.goto 1055, 3) := by decide +kernel
theorem dL_law_1122 : decode cL_law 1122 = .ok (.aload_n 3, 1) := by decide +kernel
theorem dL_law_1123 : decode cL_law 1123 = .ok (.iconst 0, 1) := by decide +kernel
theorem dL_law_1124 : decode cL_law 1124 = .ok (.laload, 1) := by decide +kernel
theorem dL_law_1125 : decode cL_law 1125 = .ok (.iload 6, 2) := by decide +kernel
theorem dL_law_1127 : decode cL_law 1127 = .ok (.ifCond .eq 7, 3) := by decide +kernel
theorem dL_law_1130 : decode cL_law 1130 = .ok (.lconst 1, 1) := by decide +kernel
theorem dL_law_1131 : decode cL_law 1131 = .ok (.goto 4, 3) := by decide +kernel
theorem dL_law_1135 : decode cL_law 1135 = .ok (.lcmp, 1) := by decide +kernel
theorem dL_law_1136 : decode cL_law 1136 = .ok (.ifCond .eq 5, 3) := by decide +kernel
theorem dL_law_1134 : decode cL_law 1134 = .ok (.lconst 0, 1) := by decide +kernel
theorem dL_law_1144 : decode cL_law 1144 = .ok (.aload_n 1, 1) := by decide +kernel
theorem dL_law_1145 : decode cL_law 1145 = .ok (.aload_n 0, 1) := by decide +kernel
theorem dL_law_1146 : decode cL_law 1146 = .ok (.iload 4, 2) := by decide +kernel
theorem dL_law_1148 : decode cL_law 1148 = .ok (.iconst 1, 1) := by decide +kernel
theorem dL_law_1149 : decode cL_law 1149 = .ok (.iadd, 1) := by decide +kernel
theorem dL_law_1150 : decode cL_law 1150 = .ok (.iaload, 1) := by decide +kernel
theorem dL_law_1151 : decode cL_law 1151 = .ok (.aload_n 0, 1) := by decide +kernel
theorem dL_law_1152 : decode cL_law 1152 = .ok (.iload 4, 2) := by decide +kernel
theorem dL_law_1154 : decode cL_law 1154 = .ok (.iconst 2, 1) := by decide +kernel
theorem dL_law_1155 : decode cL_law 1155 = .ok (.iadd, 1) := by decide +kernel
theorem dL_law_1156 : decode cL_law 1156 = .ok (.iaload, 1) := by decide +kernel
theorem dL_law_1157 : decode cL_law 1157 = .ok (.aload_n 0, 1) := by decide +kernel
theorem dL_law_1158 : decode cL_law 1158 = .ok (.iload 4, 2) := by decide +kernel
theorem dL_law_1160 : decode cL_law 1160 = .ok (.iconst 3, 1) := by decide +kernel
theorem dL_law_1161 : decode cL_law 1161 = .ok (.iadd, 1) := by decide +kernel
theorem dL_law_1162 : decode cL_law 1162 = .ok (.iaload, 1) := by decide +kernel
theorem dL_law_1163 : decode cL_law 1163 = .ok (.aload_n 3, 1) := by decide +kernel
theorem dL_law_1164 : decode cL_law 1164 = .ok (.invokestatic 157, 3) := by decide +kernel
theorem dL_law_1167 : decode cL_law 1167 = .ok (.istore 5, 2) := by decide +kernel
theorem dL_law_1169 : decode cL_law 1169 = .ok (.aload_n 2, 1) := by decide +kernel
theorem dL_law_1170 : decode cL_law 1170 = .ok (.aload_n 0, 1) := by decide +kernel
theorem dL_law_1171 : decode cL_law 1171 = .ok (.iload 4, 2) := by decide +kernel
theorem dL_law_1173 : decode cL_law 1173 = .ok (.iconst 1, 1) := by decide +kernel
theorem dL_law_1174 : decode cL_law 1174 = .ok (.iadd, 1) := by decide +kernel
theorem dL_law_1175 : decode cL_law 1175 = .ok (.iaload, 1) := by decide +kernel
theorem dL_law_1176 : decode cL_law 1176 = .ok (.aload_n 0, 1) := by decide +kernel
theorem dL_law_1177 : decode cL_law 1177 = .ok (.iload 4, 2) := by decide +kernel
theorem dL_law_1179 : decode cL_law 1179 = .ok (.iconst 2, 1) := by decide +kernel
theorem dL_law_1180 : decode cL_law 1180 = .ok (.iadd, 1) := by decide +kernel
theorem dL_law_1181 : decode cL_law 1181 = .ok (.iaload, 1) := by decide +kernel
theorem dL_law_1182 : decode cL_law 1182 = .ok (.aload_n 0, 1) := by decide +kernel
theorem dL_law_1183 : decode cL_law 1183 = .ok (.iload 4, 2) := by decide +kernel
theorem dL_law_1185 : decode cL_law 1185 = .ok (.iconst 3, 1) := by decide +kernel
theorem dL_law_1186 : decode cL_law 1186 = .ok (.iadd, 1) := by decide +kernel
theorem dL_law_1187 : decode cL_law 1187 = .ok (.iaload, 1) := by decide +kernel
theorem dL_law_1188 : decode cL_law 1188 = .ok (.invokevirtual 159, 3) := by decide +kernel
theorem dL_law_1191 : decode cL_law 1191 = .ok (.istore 6, 2) := by decide +kernel
theorem dL_law_1193 : decode cL_law 1193 = .ok (.aload_n 2, 1) := by decide +kernel
theorem dL_law_1194 : decode cL_law 1194 = .ok (.invokevirtual 113, 3) := by decide +kernel
theorem dL_law_1197 : decode cL_law 1197 = .ok (.iload 5, 2) := by decide +kernel
theorem dL_law_1199 : decode cL_law 1199 = .ok (.if_icmp .eq 5, 3) := by decide +kernel
theorem dL_law_1204 : decode cL_law 1204 = .ok (.iload 5, 2) := by decide +kernel
theorem dL_law_1206 : decode cL_law 1206 = .ok (.ifCond .ne 15, 3) := by decide +kernel
theorem dL_law_1221 : decode cL_law 1221 = .ok (.goto 975, 3) := by decide +kernel
theorem dL_law_1209 : decode cL_law 1209 = .ok (.aload_n 3, 1) := by decide +kernel
theorem dL_law_1210 : decode cL_law 1210 = .ok (.iconst 0, 1) := by decide +kernel
theorem dL_law_1211 : decode cL_law 1211 = .ok (.laload, 1) := by decide +kernel
theorem dL_law_1212 : decode cL_law 1212 = .ok (.iload 6, 2) := by decide +kernel
theorem dL_law_1214 : decode cL_law 1214 = .ok (.i2l, 1) := by decide +kernel
theorem dL_law_1215 : decode cL_law 1215 = .ok (.lcmp, 1) := by decide +kernel
theorem dL_law_1216 : decode cL_law 1216 = .ok (.ifCond .eq 5, 3) := by decide +kernel
theorem dL_law_1224 : decode cL_law 1224 = .ok (.aload_n 1, 1) := by decide +kernel
theorem dL_law_1225 : decode cL_law 1225 = .ok (.aload_n 0, 1) := by decide +kernel
theorem dL_law_1226 : decode cL_law 1226 = .ok (.iload 4, 2) := by decide +kernel
theorem dL_law_1228 : decode cL_law 1228 = .ok (.iconst 1, 1) := by decide +kernel
theorem dL_law_1229 : decode cL_law 1229 = .ok (.iadd, 1) := by decide +kernel
theorem dL_law_1230 : decode cL_law 1230 = .ok (.iaload, 1) := by decide +kernel
theorem dL_law_1231 : decode cL_law 1231 = .ok (.aload_n 0, 1) := by decide +kernel
theorem dL_law_1232 : decode cL_law 1232 = .ok (.iload 4, 2) := by decide +kernel
theorem dL_law_1234 : decode cL_law 1234 = .ok (.iconst 2, 1) := by decide +kernel
theorem dL_law_1235 : decode cL_law 1235 = .ok (.iadd, 1) := by decide +kernel
theorem dL_law_1236 : decode cL_law 1236 = .ok (.iaload, 1) := by decide +kernel
theorem dL_law_1237 : decode cL_law 1237 = .ok (.aload_n 0, 1) := by decide +kernel
theorem dL_law_1238 : decode cL_law 1238 = .ok (.iload 4, 2) := by decide +kernel
theorem dL_law_1240 : decode cL_law 1240 = .ok (.iconst 3, 1) := by decide +kernel
theorem dL_law_1241 : decode cL_law 1241 = .ok (.iadd, 1) := by decide +kernel
theorem dL_law_1242 : decode cL_law 1242 = .ok (.iaload, 1) := by decide +kernel
theorem dL_law_1243 : decode cL_law 1243 = .ok (.aload_n 3, 1) := by decide +kernel
theorem dL_law_1244 : decode cL_law 1244 = .ok (.invokestatic 160, 3) := by decide +kernel
theorem dL_law_1247 : decode cL_law 1247 = .ok (.istore 5, 2) := by decide +kernel
theorem dL_law_1249 : decode cL_law 1249 = .ok (.aload_n 2, 1) := by decide +kernel
theorem dL_law_1250 : decode cL_law 1250 = .ok (.aload_n 0, 1) := by decide +kernel
theorem dL_law_1251 : decode cL_law 1251 = .ok (.iload 4, 2) := by decide +kernel
theorem dL_law_1253 : decode cL_law 1253 = .ok (.iconst 1, 1) := by decide +kernel
theorem dL_law_1254 : decode cL_law 1254 = .ok (.iadd, 1) := by decide +kernel
theorem dL_law_1255 : decode cL_law 1255 = .ok (.iaload, 1) := by decide +kernel
theorem dL_law_1256 : decode cL_law 1256 = .ok (.aload_n 0, 1) := by decide +kernel
theorem dL_law_1257 : decode cL_law 1257 = .ok (.iload 4, 2) := by decide +kernel
theorem dL_law_1259 : decode cL_law 1259 = .ok (.iconst 2, 1) := by decide +kernel
theorem dL_law_1260 : decode cL_law 1260 = .ok (.iadd, 1) := by decide +kernel
theorem dL_law_1261 : decode cL_law 1261 = .ok (.iaload, 1) := by decide +kernel
theorem dL_law_1262 : decode cL_law 1262 = .ok (.aload_n 0, 1) := by decide +kernel
theorem dL_law_1263 : decode cL_law 1263 = .ok (.iload 4, 2) := by decide +kernel
theorem dL_law_1265 : decode cL_law 1265 = .ok (.iconst 3, 1) := by decide +kernel
theorem dL_law_1266 : decode cL_law 1266 = .ok (.iadd, 1) := by decide +kernel
theorem dL_law_1267 : decode cL_law 1267 = .ok (.iaload, 1) := by decide +kernel
theorem dL_law_1268 : decode cL_law 1268 = .ok (.invokevirtual 162, 3) := by decide +kernel
theorem dL_law_1271 : decode cL_law 1271 = .ok (.istore 6, 2) := by decide +kernel
theorem dL_law_1273 : decode cL_law 1273 = .ok (.aload_n 2, 1) := by decide +kernel
theorem dL_law_1274 : decode cL_law 1274 = .ok (.invokevirtual 113, 3) := by decide +kernel
theorem dL_law_1277 : decode cL_law 1277 = .ok (.iload 5, 2) := by decide +kernel
theorem dL_law_1279 : decode cL_law 1279 = .ok (.if_icmp .eq 5, 3) := by decide +kernel
theorem dL_law_1284 : decode cL_law 1284 = .ok (.iload 5, 2) := by decide +kernel
theorem dL_law_1286 : decode cL_law 1286 = .ok (.ifCond .ne 15, 3) := by decide +kernel
theorem dL_law_1301 : decode cL_law 1301 = .ok (.goto 895, 3) := by decide +kernel
theorem dL_law_1289 : decode cL_law 1289 = .ok (.aload_n 3, 1) := by decide +kernel
theorem dL_law_1290 : decode cL_law 1290 = .ok (.iconst 0, 1) := by decide +kernel
theorem dL_law_1291 : decode cL_law 1291 = .ok (.laload, 1) := by decide +kernel
theorem dL_law_1292 : decode cL_law 1292 = .ok (.iload 6, 2) := by decide +kernel
theorem dL_law_1294 : decode cL_law 1294 = .ok (.i2l, 1) := by decide +kernel
theorem dL_law_1295 : decode cL_law 1295 = .ok (.lcmp, 1) := by decide +kernel
theorem dL_law_1296 : decode cL_law 1296 = .ok (.ifCond .eq 5, 3) := by decide +kernel
theorem dL_law_1304 : decode cL_law 1304 = .ok (.aload_n 1, 1) := by decide +kernel
theorem dL_law_1305 : decode cL_law 1305 = .ok (.aload_n 0, 1) := by decide +kernel
theorem dL_law_1306 : decode cL_law 1306 = .ok (.iload 4, 2) := by decide +kernel
theorem dL_law_1308 : decode cL_law 1308 = .ok (.iconst 1, 1) := by decide +kernel
theorem dL_law_1309 : decode cL_law 1309 = .ok (.iadd, 1) := by decide +kernel
theorem dL_law_1310 : decode cL_law 1310 = .ok (.iaload, 1) := by decide +kernel
theorem dL_law_1311 : decode cL_law 1311 = .ok (.aload_n 0, 1) := by decide +kernel
theorem dL_law_1312 : decode cL_law 1312 = .ok (.iload 4, 2) := by decide +kernel
theorem dL_law_1314 : decode cL_law 1314 = .ok (.iconst 2, 1) := by decide +kernel
theorem dL_law_1315 : decode cL_law 1315 = .ok (.iadd, 1) := by decide +kernel
theorem dL_law_1316 : decode cL_law 1316 = .ok (.iaload, 1) := by decide +kernel
theorem dL_law_1317 : decode cL_law 1317 = .ok (.aload_n 3, 1) := by decide +kernel
theorem dL_law_1318 : decode cL_law 1318 = .ok (.invokestatic 163, 3) := by decide +kernel
theorem dL_law_1321 : decode cL_law 1321 = .ok (.istore 5, 2) := by decide +kernel
theorem dL_law_1323 : decode cL_law 1323 = .ok (.aload_n 2, 1) := by decide +kernel
theorem dL_law_1324 : decode cL_law 1324 = .ok (.aload_n 0, 1) := by decide +kernel
theorem dL_law_1325 : decode cL_law 1325 = .ok (.iload 4, 2) := by decide +kernel
theorem dL_law_1327 : decode cL_law 1327 = .ok (.iconst 1, 1) := by decide +kernel
theorem dL_law_1328 : decode cL_law 1328 = .ok (.iadd, 1) := by decide +kernel
theorem dL_law_1329 : decode cL_law 1329 = .ok (.iaload, 1) := by decide +kernel
theorem dL_law_1330 : decode cL_law 1330 = .ok (.aload_n 0, 1) := by decide +kernel
theorem dL_law_1331 : decode cL_law 1331 = .ok (.iload 4, 2) := by decide +kernel
theorem dL_law_1333 : decode cL_law 1333 = .ok (.iconst 2, 1) := by decide +kernel
theorem dL_law_1334 : decode cL_law 1334 = .ok (.iadd, 1) := by decide +kernel
theorem dL_law_1335 : decode cL_law 1335 = .ok (.iaload, 1) := by decide +kernel
theorem dL_law_1336 : decode cL_law 1336 = .ok (.invokevirtual 165, 3) := by decide +kernel
theorem dL_law_1339 : decode cL_law 1339 = .ok (.istore 6, 2) := by decide +kernel
theorem dL_law_1341 : decode cL_law 1341 = .ok (.aload_n 2, 1) := by decide +kernel
theorem dL_law_1342 : decode cL_law 1342 = .ok (.invokevirtual 113, 3) := by decide +kernel
theorem dL_law_1345 : decode cL_law 1345 = .ok (.iload 5, 2) := by decide +kernel
theorem dL_law_1347 : decode cL_law 1347 = .ok (.if_icmp .eq 5, 3) := by decide +kernel
theorem dL_law_1352 : decode cL_law 1352 = .ok (.iload 5, 2) := by decide +kernel
theorem dL_law_1354 : decode cL_law 1354 = .ok (.ifCond .ne 15, 3) := by decide +kernel
theorem dL_law_1369 : decode cL_law 1369 = .ok (.goto 827, 3) := by decide +kernel
set_option maxRecDepth 100000 in
theorem gl_c_L_isUnder : GoodIn lw_tbl (va_wsS RL 154 yL_isUnder w_c_L_isUnder) := goodIn_app (goodIn_q _ [] [1480, 1481, 82] rfl (by decide +kernel) (by decide +kernel)) (goodIn_ca (goodIn_q (big := lw_tbl) (.codeWith yL_isUnder cL_isUnder 5 (some .int) [(0, 17, 20, 21)] :: wb_c_L_isUnder) [1486, 1218, 1008, 589, 593, 438, 597, 128, 649, 653, 657, 661, 580, 442, 445, 448, 452, 465, 714, 729, 572, 733, 758, 737, 745] [1482, 1199, 107, 1215, 1217, 41, 83, 1483, 1484, 1485, 1190, 399, 262, 261, 260, 1005, 1006, 1007, 88, 268, 270, 269, 267, 144, 485, 436, 437, 86, 487, 594, 114, 598, 127, 596, 147, 146, 143, 141, 708, 579, 97, 709, 658, 660, 6, 654, 656, 5, 650, 652, 4, 646, 647, 648, 446, 447, 109, 443, 444, 108, 449, 450, 451, 486, 440, 441, 487, 599, 600, 601, 602, 603, 604, 605, 607, 609, 610, 611, 613, 615, 616, 590, 592, 3, 710, 257, 191, 185, 462, 463, 464, 89, 266, 232, 231, 711, 712, 713, 90, 569, 570, 571, 730, 732, 9, 755, 757, 10, 726, 728, 8, 586, 587, 588, 184, 734, 735, 736, 742, 743, 744, 254, 152, 148, 150, 617, 619, 621, 623, 625, 627, 629, 631, 633, 635, 637, 639, 641, 643, 406, 408, 410, 412, 414, 416, 418, 420, 422, 424, 194, 196, 198, 200, 202, 204, 206, 208, 210, 212, 214, 216, 218, 220, 234, 236, 238, 274, 276, 278, 280, 282, 284, 286, 288, 290, 292, 294, 296, 298, 300] rfl (by decide +kernel) (by decide +kernel)) (goodIn_sub z_atIn zAt_good))
set_option maxRecDepth 100000 in
theorem gl_c_M_isUnder : GoodIn lw_tbl (wsV RL 156 RX19 yX19_isUnder w_c_M_isUnder) := goodIn_app (goodIn_q _ [] [1863, 1864, 1865, 94] rfl (by decide +kernel) (by decide +kernel)) (goodIn_q (big := lw_tbl) (.code yX19_isUnder cX19_isUnder 3 (some .boolean) :: wb_c_M_isUnder) [1866, 1705, 438, 1664, 1668, 1672, 1870, 1875, 128, 1709, 442, 445, 448, 452, 1896, 1861, 1714] [1638, 144, 1673, 436, 437, 86, 1662, 1663, 94, 1702, 1704, 58, 1635, 1669, 1671, 56, 1665, 1667, 55, 1871, 1872, 115, 1881, 1876, 127, 1877, 1878, 1879, 1880, 1873, 1874, 1867, 1869, 67, 446, 447, 109, 443, 444, 108, 143, 449, 450, 451, 1710, 440, 441, 1614, 1706, 1708, 59, 1626, 1893, 1894, 1895, 1625, 1897, 1859, 1860, 95, 1898, 1712, 1713, 1627, 152, 148, 150, 1629, 1631, 1882, 1884, 1886, 1888, 1890, 1643, 1645, 1647, 1649, 1651] rfl (by decide +kernel) (by decide +kernel))
set_option maxRecDepth 100000 in
theorem gl_c_L_road : GoodIn lw_tbl (va_wsS RL 157 yL_road w_c_L_road) := goodIn_app (goodIn_q _ [] [1487, 1488, 82] rfl (by decide +kernel) (by decide +kernel)) (goodIn_ca (goodIn_q (big := lw_tbl) (.codeWith yL_road cL_road 6 (some .int) [(0, 12, 15, 21)] :: wb_c_L_road) [1493, 1218, 1008, 1013, 745, 438, 1018] [1489, 1199, 107, 1215, 1217, 41, 83, 1490, 1491, 1492, 1190, 399, 262, 261, 260, 1005, 1006, 1007, 88, 400, 185, 964, 743, 744, 89, 401, 144, 435, 436, 437, 86, 1010, 1012, 35, 1015, 1016, 1017, 152, 148, 150, 406, 408, 410, 412, 414, 416, 418, 420, 422, 424, 194, 196, 198, 200, 202, 204, 206, 208, 210, 212, 214, 216, 218, 220, 274, 276, 278, 280, 282, 284, 286, 288, 290, 292, 294, 296, 298, 300] rfl (by decide +kernel) (by decide +kernel)) (goodIn_sub z_atIn zAt_good))
set_option maxRecDepth 100000 in
theorem gl_c_M_road : GoodIn lw_tbl (wsV RL 159 RX19 yX19_road w_c_M_road) := goodIn_app (goodIn_q _ [] [1932, 1933, 1934, 94] rfl (by decide +kernel) (by decide +kernel)) (goodIn_q (big := lw_tbl) (.code yX19_road cX19_road 4 (some .int) :: wb_c_M_road) [1935, 1705, 438, 1664, 1668, 1672, 1939, 1870, 1875, 128, 1709, 442, 445, 448, 452, 1906, 133, 136, 139, 1714] [1638, 144, 1673, 436, 437, 86, 1662, 1663, 94, 1702, 1704, 58, 1635, 1669, 1671, 56, 1665, 1667, 55, 1871, 1872, 115, 1881, 1876, 127, 1877, 1878, 1879, 1880, 1873, 1874, 1867, 1869, 67, 446, 447, 109, 443, 444, 108, 143, 449, 450, 451, 1710, 440, 441, 1614, 1706, 1708, 59, 1907, 130, 140, 84, 137, 138, 145, 85, 134, 135, 141, 1908, 132, 1625, 1898, 1712, 1713, 95, 1940, 1904, 1905, 1936, 1938, 68, 152, 148, 150, 1629, 1631, 1882, 1884, 1886, 1888, 1890, 1643, 1645, 1647, 1649, 1651] rfl (by decide +kernel) (by decide +kernel))
set_option maxRecDepth 100000 in
theorem gl_c_L_join : GoodIn lw_tbl (va_wsS RL 160 yL_join w_c_L_join) := goodIn_app (goodIn_q _ [] [1494, 1495, 82] rfl (by decide +kernel) (by decide +kernel)) (goodIn_ca (goodIn_q (big := lw_tbl) (.codeWith yL_join cL_join 6 (some .int) [(0, 12, 15, 21)] :: wb_c_L_join) [1500, 1218, 461, 465, 1008, 568, 572, 1018, 589, 593, 438, 597, 128, 649, 653, 657, 661, 580, 442, 445, 448, 452, 714, 854, 745, 858, 758] [1496, 1199, 107, 1215, 1217, 41, 83, 1497, 1498, 1499, 1190, 399, 262, 269, 257, 191, 185, 462, 463, 464, 89, 458, 459, 460, 88, 261, 260, 1005, 1006, 1007, 569, 570, 571, 565, 566, 567, 271, 272, 268, 270, 267, 144, 485, 436, 437, 86, 487, 594, 114, 598, 127, 596, 147, 146, 143, 141, 708, 579, 97, 709, 658, 660, 6, 654, 656, 5, 650, 652, 4, 646, 647, 648, 446, 447, 109, 443, 444, 108, 449, 450, 451, 486, 440, 441, 487, 599, 600, 601, 602, 603, 604, 605, 607, 609, 610, 611, 613, 615, 616, 590, 592, 3, 710, 266, 232, 231, 711, 712, 713, 90, 742, 743, 744, 273, 247, 855, 856, 857, 91, 254, 755, 757, 10, 851, 853, 21, 991, 587, 588, 1015, 1016, 1017, 152, 148, 150, 617, 619, 621, 623, 625, 627, 629, 631, 633, 635, 637, 639, 641, 643, 406, 408, 410, 412, 414, 416, 418, 420, 422, 424, 194, 196, 198, 200, 202, 204, 206, 208, 210, 212, 214, 216, 218, 220, 234, 236, 238, 274, 276, 278, 280, 282, 284, 286, 288, 290, 292, 294, 296, 298, 300, 249, 251] rfl (by decide +kernel) (by decide +kernel)) (goodIn_sub z_atIn zAt_good))
set_option maxRecDepth 100000 in
theorem gl_c_M_join : GoodIn lw_tbl (wsV RL 162 RX19 yX19_join w_c_M_join) := goodIn_app (goodIn_q _ [] [1975, 1976, 1977, 94] rfl (by decide +kernel) (by decide +kernel)) (goodIn_q (big := lw_tbl) (.code yX19_join cX19_join 4 (some .int) :: wb_c_M_join) [1978, 1705, 438, 1664, 1668, 1672, 1870, 1875, 128, 1709, 442, 445, 448, 452, 1982, 1896, 1943, 133, 136, 139, 1947, 1950, 649, 653, 657, 661, 580, 1974, 1861, 1714] [1638, 144, 1673, 436, 437, 86, 1662, 1663, 94, 1702, 1704, 58, 1635, 1669, 1671, 56, 1665, 1667, 55, 1871, 1872, 115, 1881, 1876, 127, 1877, 1878, 1879, 1880, 1873, 1874, 1867, 1869, 67, 446, 447, 109, 443, 444, 108, 143, 449, 450, 451, 1710, 440, 441, 1614, 1706, 1708, 59, 1626, 1931, 1894, 1895, 1979, 1980, 1981, 1612, 130, 140, 84, 137, 138, 145, 85, 134, 135, 141, 1613, 132, 1625, 1951, 1953, 1948, 1949, 117, 147, 146, 708, 579, 97, 709, 658, 660, 6, 654, 656, 5, 650, 652, 4, 1968, 647, 648, 1627, 1944, 1945, 1946, 95, 1970, 1964, 1971, 1972, 1973, 1941, 1942, 1897, 1859, 1860, 1898, 1712, 1713, 152, 148, 150, 1629, 1631, 1882, 1884, 1886, 1888, 1890, 1643, 1645, 1647, 1649, 1651] rfl (by decide +kernel) (by decide +kernel))
set_option maxRecDepth 100000 in
theorem gl_c_L_line : GoodIn lw_tbl (va_wsS RL 163 yL_line w_c_L_line) := goodIn_app (goodIn_q _ [] [1501, 1502, 82] rfl (by decide +kernel) (by decide +kernel)) (goodIn_ca (goodIn_q (big := lw_tbl) (.codeWith yL_line cL_line 5 (some .int) [(0, 10, 13, 21)] :: wb_c_L_line) [1507, 1442, 438] [1503, 1199, 107, 396, 144, 435, 436, 437, 86, 1439, 1441, 51, 83, 1504, 1505, 1506, 1190, 152, 148, 150, 406, 408, 410, 412, 414, 416, 418, 420, 422, 424] rfl (by decide +kernel) (by decide +kernel)) (goodIn_sub z_atIn zAt_good))
set_option maxRecDepth 100000 in
theorem gl_c_M_line : GoodIn lw_tbl (wsV RL 165 RX19 yX19_line w_c_M_line) := goodIn_app (goodIn_q _ [] [1990, 1991, 1992, 94] rfl (by decide +kernel) (by decide +kernel)) (goodIn_q (big := lw_tbl) (.code yX19_line cX19_line 3 (some .int) :: wb_c_M_line) [1993, 1997, 1833, 438, 1664, 1668, 1672] [1641, 144, 1673, 436, 437, 86, 1662, 1663, 94, 1830, 1832, 65, 1635, 1669, 1671, 56, 1665, 1667, 55, 1994, 1996, 70, 152, 148, 150, 1643, 1645, 1647, 1649, 1651] rfl (by decide +kernel) (by decide +kernel))
set_option maxHeartbeats 4000000 in
set_option maxRecDepth 100000 in
theorem law_case_12 {p : Program} {e : Env} {s : State} {m : MethodId} {below : List Frame} {meth : Method} {c : Code} (l : Launch) {b : Nat} {xs : Nat → Int32} {A : Nat → Prop} {eD eI : Nat} {ad : Nat → Nat} (Z : zLaw l p s m meth c b xs A eD eI ad) (y1 : Int32) (hy1 : xs (1 : Int32).toNatClampNeg = y1) (y2 : Int32) (hy2 : xs (2 : Int32).toNatClampNeg = y2) (y3 : Int32) (hy3 : xs (3 : Int32).toNatClampNeg = y3) (y4 : Int32) (hy4 : xs (4 : Int32).toNatClampNeg = y4) (y5 : Int32) (hy5 : xs (5 : Int32).toNatClampNeg = y5) (y6 : Int32) (hy6 : xs (6 : Int32).toNatClampNeg = y6) (dC : Nat → ClassId) (dI : Nat → Nat → Nat) (hh : Nat) (aexpr : Nat) (achoo : Nat) (ameth : Nat) (aroom : Nat) (anod : Nat) (asort : Nat) (anote : Nat) (amet : Nat) (atold : Nat) (aheld : Nat) (apair : Nat) (astep : Nat) (asize : Nat) (nm : Nat) (nl : Nat) (n1 : Nat) (n2 : Nat) (nf : Nat) (ns : Nat) (nh : Nat) (nk : Nat) (np : Nat) (apsl : Nat) (azsl : Nat) (acand : Nat) (ahint : Nat) (af1 : Nat) (af2 : Nat) (af3 : Nat) (ou : Nat) (mm : Nat) (ms : Nat) (mt : Nat) (mh : Nat) (me : Nat) (ma : Nat) (t0 : Nat) (t1 : Nat) (t2 : Nat) (i0 : Nat) (i1 : Nat) (i2 : Nat) (kI : ClassId) (kL : ClassId) (kO : ClassId) (kT : ClassId) (mo : Int32) (fo : Nat → Int64) {H : Heap} {locs : List Loc} {ls : Array Slot} (hP : va_P (dC, dI) vwCl [(hh, .inr (13, [.ref aexpr, .ref achoo, .ref ameth, .ref aroom, .ref anod, .ref asort, .ref anote, .ref amet, .int 0, .int 1])), (achoo, .inr (3, [.ref aroom, .ref ameth, .ref acand, .ref ahint, .int 0, .int (-1), .int 0, .int 0, .null])), (aroom, .inr (9, [.ref asort, .ref anod, .ref atold, .int 3, .ref aheld, .int 0, .ref apair, .ref astep, .int 0, .int 0, .int (-1), .int 0, .int 0, .ref asize])), (anod, .inr (7, [.ref nm, .ref nl, .ref n1, .ref n2, .ref nf, .ref ns, .ref nh, .ref nk, .ref np, .int 16, .int 0, .int 16, .int 0, .int 0])), (apair, .inr (8, [.ref apsl, .int 0, .int 0])), (asize, .inr (10, [.ref azsl, .int 0])), (anote, .inr (5, [.ref af1, .ref af2, .ref af3, .int 0])), (aexpr, .inr (1, [.int 0, .ref eD, .int 0])), (ameth, .inr (1, [.int 0, .ref eD, .int 0])), (asort, .inr (1, [.int 0, .ref eD, .int 0])), (astep, .inr (1, [.int 0, .ref eD, .int 0])), (atold, .inl (kI, 60, .inl zTold)), (ns, .inl (kL, 1024, .inr (.inl zSec))), (nf, .inl (kL, 1024, .inr (.inl zFir))), (nm, .inl (kI, 12, .inl (fun _ => 0))), (nl, .inl (kI, 12, .inl (fun _ => 0))), (n1, .inl (kI, 12, .inl (fun _ => 0))), (n2, .inl (kI, 12, .inl (fun _ => 0))), (apsl, .inl (kL, 512, .inr (.inl (fun _ => 0)))), (azsl, .inl (kL, 0, .inr (.inl (fun _ => 0)))), (mm, .inr (21, [.int 0, .ref ms, .ref mt, .ref mh, .ref me])), (ms, .inr (1, [.int 0, .ref eD, .int 0])), (mt, .inr (1, [.int mo, .ref ma, .int 3])), (mh, .inr (1, [.int 0, .ref eD, .int 0])), (me, .inr (1, [.int 0, .ref eD, .int 0])), (ma, .inl (kO, 10, .inr (.inr (.inr (.inr (zfT t0 t1 t2)))))), (t0, .inr (18, [.int (-1), .ref i0])), (t1, .inr (18, [.int (-2), .ref i1])), (t2, .inr (18, [.int (-3), .ref i2])), (i0, .inl (kT, 0, .inr (.inr (.inr (.inr (fun _ => none)))))), (i1, .inl (kT, 0, .inr (.inr (.inr (.inr (fun _ => none)))))), (i2, .inl (kT, 0, .inr (.inr (.inr (.inr (fun _ => none)))))), (ou, .inl (kL, 1, .inr (.inl fo)))] H) (hD : va_D A [(hh, .inr (13, [.ref aexpr, .ref achoo, .ref ameth, .ref aroom, .ref anod, .ref asort, .ref anote, .ref amet, .int 0, .int 1])), (achoo, .inr (3, [.ref aroom, .ref ameth, .ref acand, .ref ahint, .int 0, .int (-1), .int 0, .int 0, .null])), (aroom, .inr (9, [.ref asort, .ref anod, .ref atold, .int 3, .ref aheld, .int 0, .ref apair, .ref astep, .int 0, .int 0, .int (-1), .int 0, .int 0, .ref asize])), (anod, .inr (7, [.ref nm, .ref nl, .ref n1, .ref n2, .ref nf, .ref ns, .ref nh, .ref nk, .ref np, .int 16, .int 0, .int 16, .int 0, .int 0])), (apair, .inr (8, [.ref apsl, .int 0, .int 0])), (asize, .inr (10, [.ref azsl, .int 0])), (anote, .inr (5, [.ref af1, .ref af2, .ref af3, .int 0])), (aexpr, .inr (1, [.int 0, .ref eD, .int 0])), (ameth, .inr (1, [.int 0, .ref eD, .int 0])), (asort, .inr (1, [.int 0, .ref eD, .int 0])), (astep, .inr (1, [.int 0, .ref eD, .int 0])), (atold, .inl (kI, 60, .inl zTold)), (ns, .inl (kL, 1024, .inr (.inl zSec))), (nf, .inl (kL, 1024, .inr (.inl zFir))), (nm, .inl (kI, 12, .inl (fun _ => 0))), (nl, .inl (kI, 12, .inl (fun _ => 0))), (n1, .inl (kI, 12, .inl (fun _ => 0))), (n2, .inl (kI, 12, .inl (fun _ => 0))), (apsl, .inl (kL, 512, .inr (.inl (fun _ => 0)))), (azsl, .inl (kL, 0, .inr (.inl (fun _ => 0)))), (mm, .inr (21, [.int 0, .ref ms, .ref mt, .ref mh, .ref me])), (ms, .inr (1, [.int 0, .ref eD, .int 0])), (mt, .inr (1, [.int mo, .ref ma, .int 3])), (mh, .inr (1, [.int 0, .ref eD, .int 0])), (me, .inr (1, [.int 0, .ref eD, .int 0])), (ma, .inl (kO, 10, .inr (.inr (.inr (.inr (zfT t0 t1 t2)))))), (t0, .inr (18, [.int (-1), .ref i0])), (t1, .inr (18, [.int (-2), .ref i1])), (t2, .inr (18, [.int (-3), .ref i2])), (i0, .inl (kT, 0, .inr (.inr (.inr (.inr (fun _ => none)))))), (i1, .inl (kT, 0, .inr (.inr (.inr (.inr (fun _ => none)))))), (i2, .inl (kT, 0, .inr (.inr (.inr (.inr (fun _ => none)))))), (ou, .inl (kL, 1, .inr (.inl fo)))]) (hK : va_K (dC, dI) vwCl [(kI, .int), (kL, .long), (kO, .object "java/lang/Object"), (kT, .object "HornbookModel$Tree")] s) (hS : va_S A s.heap H locs) (hl : lv_has ls 9 [(4, .int 0), (3, .ref ou), (2, .ref mm), (1, .ref hh), (0, .ref b)]) : W p l e room_1 s m #[Value.ref b] below meth c H locs 74 3613 (lw_Z below #[Value.ref b] s) (F0 m 1069 ls []) := by
  obtain ⟨hfl, hx, hb, hr, hml, hown, hts, hX, hbl, hbA, hlocks, hE, hA, hAs, hDc⟩ := id Z
  have in_RJx4a65c := zin_RJx4a65c
  have in_RX10 := zin_RX10
  have in_RX11 := zin_RX11
  have in_RX16 := zin_RX16
  have in_RX17 := zin_RX17
  have in_RX19 := zin_RX19
  have in_RX5 := zin_RX5
  have in_RX6 := zin_RX6
  have in_RX7 := zin_RX7
  refine lv_aload_n hx hb dL_law_1069 rfl (lv_at hl 3 rfl) ?_
  refine lv_aload_n hx hb dL_law_1070 rfl (lv_at hl 4 rfl) ?_
  refine lv_iload hx hb dL_law_1071 (lv_at hl 0 rfl) ?_
  refine lv_iconst (v := 1) hx hb dL_law_1073 (by decide) ?_
  refine lv_iadd hx hb dL_law_1074 ?_
  refine z_top (v' := .int 1) (congrArg Value.int (by decide)) ?_
  refine va_sld hx hb hX hbl hbA hS (by unfold vp_in; decide) dL_law_1075 ?_
  refine z_top (v' := .int y1) (congrArg Value.int hy1) ?_
  refine lv_aload_n hx hb dL_law_1076 rfl (lv_at hl 4 rfl) ?_
  refine lv_iload hx hb dL_law_1077 (lv_at hl 0 rfl) ?_
  refine lv_iconst (v := 2) hx hb dL_law_1079 (by decide) ?_
  refine lv_iadd hx hb dL_law_1080 ?_
  refine z_top (v' := .int 2) (congrArg Value.int (by decide)) ?_
  refine va_sld hx hb hX hbl hbA hS (by unfold vp_in; decide) dL_law_1081 ?_
  refine z_top (v' := .int y2) (congrArg Value.int hy2) ?_
  refine lv_aload_n hx hb dL_law_1082 rfl (lv_at hl 1 rfl) ?_
  refine zx_i (wr := [(achoo, .inr (3, [.ref aroom, .ref ameth, .ref acand, .ref ahint, .int 0, .int (-1), .int 0, .int 0, .null])), (asize, .inr (10, [.ref azsl, .int 0])), (anote, .inr (5, [.ref af1, .ref af2, .ref af3, .int 0])), (aexpr, .inr (1, [.int 0, .ref eD, .int 0])), (ameth, .inr (1, [.int 0, .ref eD, .int 0])), (nm, .inl (kI, 12, .inl (fun _ => 0))), (nl, .inl (kI, 12, .inl (fun _ => 0))), (n1, .inl (kI, 12, .inl (fun _ => 0))), (n2, .inl (kI, 12, .inl (fun _ => 0))), (azsl, .inl (kL, 0, .inr (.inl (fun _ => 0)))), (mm, .inr (21, [.int 0, .ref ms, .ref mt, .ref mh, .ref me])), (ms, .inr (1, [.int 0, .ref eD, .int 0])), (mt, .inr (1, [.int mo, .ref ma, .int 3])), (mh, .inr (1, [.int 0, .ref eD, .int 0])), (me, .inr (1, [.int 0, .ref eD, .int 0])), (ma, .inl (kO, 10, .inr (.inr (.inr (.inr (zfT t0 t1 t2)))))), (t0, .inr (18, [.int (-1), .ref i0])), (t1, .inr (18, [.int (-2), .ref i1])), (t2, .inr (18, [.int (-3), .ref i2])), (i0, .inl (kT, 0, .inr (.inr (.inr (.inr (fun _ => none)))))), (i1, .inl (kT, 0, .inr (.inr (.inr (.inr (fun _ => none)))))), (i2, .inl (kT, 0, .inr (.inr (.inr (.inr (fun _ => none))))))]) (vx_runSX (As := [.ref hh, .int y1, .int y2, .ref ou]) (rest := []) ⟨hx, hb, hml, hown, hts⟩ (c_L_isUnder l hfl eD eI ad dC dI H.size hh aexpr achoo ameth aroom anod asort anote amet atold aheld apair astep asize nm nl n1 n2 nf ns nh nk np apsl ou kI kL y1 y2 fo) (vx_cwSW 4 hts gl_c_L_isUnder rfl rfl rfl (by decide +kernel) ⟨Nat.le_of_ble_eq_true rfl, Nat.le_of_ble_eq_true rfl⟩) (z_preSD (wc := [(hh, .inr (13, [.ref aexpr, .ref achoo, .ref ameth, .ref aroom, .ref anod, .ref asort, .ref anote, .ref amet, .int 0, .int 1])), (aroom, .inr (9, [.ref asort, .ref anod, .ref atold, .int 3, .ref aheld, .int 0, .ref apair, .ref astep, .int 0, .int 0, .int (-1), .int 0, .int 0, .ref asize])), (atold, .inl (kI, 60, .inl zTold)), (anod, .inr (7, [.ref nm, .ref nl, .ref n1, .ref n2, .ref nf, .ref ns, .ref nh, .ref nk, .ref np, .int 16, .int 0, .int 16, .int 0, .int 0])), (ns, .inl (kL, 1024, .inr (.inl zSec))), (nf, .inl (kL, 1024, .inr (.inl zFir))), (asort, .inr (1, [.int 0, .ref eD, .int 0])), (astep, .inr (1, [.int 0, .ref eD, .int 0])), (apair, .inr (8, [.ref apsl, .int 0, .int 0])), (apsl, .inl (kL, 512, .inr (.inl (fun _ => 0)))), (ou, .inl (kL, 1, .inr (.inl fo)))]) hP hD hK hS hA hE [0, 2, 11, 3, 12, 13, 9, 10, 4, 18, 32] [0, 1] rfl (by decide) rfl hDc) rfl rfl hl.1 rfl (lv_room (Nat.le_of_ble_eq_true rfl)) dL_law_1083 ⟨Nat.le_of_ble_eq_true rfl, Nat.le_of_ble_eq_true rfl⟩) hP hD hK hS hA [0, 2, 11, 3, 12, 13, 9, 10, 4, 18, 32] [1, 5, 6, 7, 8, 14, 15, 16, 17, 19, 20, 21, 22, 23, 24, 25, 26, 27, 28, 29, 30, 31] rfl rfl (by decide) (by decide) (fun E ce q9 H locs hbad hP hD hS h91 h92 h93 => ?_) (fun r_3 u H locs hw_4 hP hD hK hS => ?_)
  · exact absurd hbad id
  obtain ⟨u_1, u_2⟩ := u
  have hP : va_P (dC, dI) vwCl [(achoo, .inr (3, [.ref aroom, .ref ameth, .ref acand, .ref ahint, .int 0, .int (-1), .int 0, .int 0, .null])), (asize, .inr (10, [.ref azsl, .int 0])), (anote, .inr (5, [.ref af1, .ref af2, .ref af3, .int 0])), (aexpr, .inr (1, [.int 0, .ref eD, .int 0])), (ameth, .inr (1, [.int 0, .ref eD, .int 0])), (nm, .inl (kI, 12, .inl (fun _ => 0))), (nl, .inl (kI, 12, .inl (fun _ => 0))), (n1, .inl (kI, 12, .inl (fun _ => 0))), (n2, .inl (kI, 12, .inl (fun _ => 0))), (azsl, .inl (kL, 0, .inr (.inl (fun _ => 0)))), (mm, .inr (21, [.int 0, .ref ms, .ref mt, .ref mh, .ref me])), (ms, .inr (1, [.int 0, .ref eD, .int 0])), (mt, .inr (1, [.int mo, .ref ma, .int 3])), (mh, .inr (1, [.int 0, .ref eD, .int 0])), (me, .inr (1, [.int 0, .ref eD, .int 0])), (ma, .inl (kO, 10, .inr (.inr (.inr (.inr (zfT t0 t1 t2)))))), (t0, .inr (18, [.int (-1), .ref i0])), (t1, .inr (18, [.int (-2), .ref i1])), (t2, .inr (18, [.int (-3), .ref i2])), (i0, .inl (kT, 0, .inr (.inr (.inr (.inr (fun _ => none)))))), (i1, .inl (kT, 0, .inr (.inr (.inr (.inr (fun _ => none)))))), (i2, .inl (kT, 0, .inr (.inr (.inr (.inr (fun _ => none)))))), (ou, .inl (kL, 1, .inr (.inl u_2)))] H := hP
  have hD : va_D A [(achoo, .inr (3, [.ref aroom, .ref ameth, .ref acand, .ref ahint, .int 0, .int (-1), .int 0, .int 0, .null])), (asize, .inr (10, [.ref azsl, .int 0])), (anote, .inr (5, [.ref af1, .ref af2, .ref af3, .int 0])), (aexpr, .inr (1, [.int 0, .ref eD, .int 0])), (ameth, .inr (1, [.int 0, .ref eD, .int 0])), (nm, .inl (kI, 12, .inl (fun _ => 0))), (nl, .inl (kI, 12, .inl (fun _ => 0))), (n1, .inl (kI, 12, .inl (fun _ => 0))), (n2, .inl (kI, 12, .inl (fun _ => 0))), (azsl, .inl (kL, 0, .inr (.inl (fun _ => 0)))), (mm, .inr (21, [.int 0, .ref ms, .ref mt, .ref mh, .ref me])), (ms, .inr (1, [.int 0, .ref eD, .int 0])), (mt, .inr (1, [.int mo, .ref ma, .int 3])), (mh, .inr (1, [.int 0, .ref eD, .int 0])), (me, .inr (1, [.int 0, .ref eD, .int 0])), (ma, .inl (kO, 10, .inr (.inr (.inr (.inr (zfT t0 t1 t2)))))), (t0, .inr (18, [.int (-1), .ref i0])), (t1, .inr (18, [.int (-2), .ref i1])), (t2, .inr (18, [.int (-3), .ref i2])), (i0, .inl (kT, 0, .inr (.inr (.inr (.inr (fun _ => none)))))), (i1, .inl (kT, 0, .inr (.inr (.inr (.inr (fun _ => none)))))), (i2, .inl (kT, 0, .inr (.inr (.inr (.inr (fun _ => none)))))), (ou, .inl (kL, 1, .inr (.inl u_2)))] := hD
  have hK : va_K (dC, dI) vwCl [(kI, .int), (kL, .long), (kO, .object "java/lang/Object"), (kT, .object "HornbookModel$Tree"), (kL, .long)] s := hK
  have hw_4 : r_3 = u_1 ∧ u_1 = (if y1 < 0 ∨ 2 < y1 ∨ y2 < 0 ∨ 2 < y2 then 1 else 0) ∧ (u_1 = 0 → u_2 (0 : Int32).toNatClampNeg = (if y1 = y2 ∨ y1 = 1 ∨ y2 = 0 then 1 else 0)) := hw_4
  obtain ⟨hw_4, hp_5, hp_6⟩ := hw_4
  have hw_4 := hw_4.symm
  subst hw_4
  refine lv_istore (lv' := [(5, .int u_1), (4, .int 0), (3, .ref ou), (2, .ref mm), (1, .ref hh), (0, .ref b)]) hx hb dL_law_1086 hl (by decide) rfl (fun ls hl => ?_)
  refine lv_aload_n hx hb dL_law_1088 rfl (lv_at hl 3 rfl) ?_
  refine lv_aload_n hx hb dL_law_1089 rfl (lv_at hl 5 rfl) ?_
  refine lv_iload hx hb dL_law_1090 (lv_at hl 1 rfl) ?_
  refine lv_iconst (v := 1) hx hb dL_law_1092 (by decide) ?_
  refine lv_iadd hx hb dL_law_1093 ?_
  refine z_top (v' := .int 1) (congrArg Value.int (by decide)) ?_
  refine va_sld hx hb hX hbl hbA hS (by unfold vp_in; decide) dL_law_1094 ?_
  refine z_top (v' := .int y1) (congrArg Value.int hy1) ?_
  refine lv_aload_n hx hb dL_law_1095 rfl (lv_at hl 5 rfl) ?_
  refine lv_iload hx hb dL_law_1096 (lv_at hl 1 rfl) ?_
  refine lv_iconst (v := 2) hx hb dL_law_1098 (by decide) ?_
  refine lv_iadd hx hb dL_law_1099 ?_
  refine z_top (v' := .int 2) (congrArg Value.int (by decide)) ?_
  refine va_sld hx hb hX hbl hbA hS (by unfold vp_in; decide) dL_law_1100 ?_
  refine z_top (v' := .int y2) (congrArg Value.int hy2) ?_
  refine z_i (wr := [(achoo, .inr (3, [.ref aroom, .ref ameth, .ref acand, .ref ahint, .int 0, .int (-1), .int 0, .int 0, .null])), (asize, .inr (10, [.ref azsl, .int 0])), (anote, .inr (5, [.ref af1, .ref af2, .ref af3, .int 0])), (aexpr, .inr (1, [.int 0, .ref eD, .int 0])), (ameth, .inr (1, [.int 0, .ref eD, .int 0])), (nm, .inl (kI, 12, .inl (fun _ => 0))), (nl, .inl (kI, 12, .inl (fun _ => 0))), (n1, .inl (kI, 12, .inl (fun _ => 0))), (n2, .inl (kI, 12, .inl (fun _ => 0))), (azsl, .inl (kL, 0, .inr (.inl (fun _ => 0)))), (ou, .inl (kL, 1, .inr (.inl u_2)))]) (va_runV (As := [.int y1, .int y2]) (rest := []) ⟨hx, hb, hml, hown, hts⟩ (c_M_isUnder l eD eI ad dC dI H.size mm ms mt mh me mo ma kO kT t0 t1 t2 i0 i1 i2 0 y1 y2) (cwV 2 hts gl_c_M_isUnder rfl rfl rfl (by decide +kernel) ⟨Nat.le_of_ble_eq_true rfl, Nat.le_of_ble_eq_true rfl⟩) (z_preV (wc := [(mm, .inr (21, [.int 0, .ref ms, .ref mt, .ref mh, .ref me])), (ms, .inr (1, [.int 0, .ref eD, .int 0])), (mt, .inr (1, [.int mo, .ref ma, .int 3])), (mh, .inr (1, [.int 0, .ref eD, .int 0])), (me, .inr (1, [.int 0, .ref eD, .int 0])), (ma, .inl (kO, 10, .inr (.inr (.inr (.inr (zfT t0 t1 t2)))))), (t0, .inr (18, [.int (-1), .ref i0])), (t1, .inr (18, [.int (-2), .ref i1])), (t2, .inr (18, [.int (-3), .ref i2])), (i0, .inl (kT, 0, .inr (.inr (.inr (.inr (fun _ => none)))))), (i1, .inl (kT, 0, .inr (.inr (.inr (.inr (fun _ => none)))))), (i2, .inl (kT, 0, .inr (.inr (.inr (.inr (fun _ => none))))))]) hP hD hK hS hA hE [10, 11, 12, 13, 14, 15, 16, 17, 18, 19, 20, 21] [2, 3] rfl (by decide) rfl (ci := 21) (q0 := 0) rfl rfl) rfl rfl hl.1 rfl (lv_room (Nat.le_of_ble_eq_true rfl)) dL_law_1101 ⟨Nat.le_of_ble_eq_true rfl, Nat.le_of_ble_eq_true rfl⟩) hP hD hK hS hA [10, 11, 12, 13, 14, 15, 16, 17, 18, 19, 20, 21] [0, 1, 2, 3, 4, 5, 6, 7, 8, 9, 22] rfl rfl (by decide) (by decide) (fun r_9 u H locs hw_10 hP hD hK hS => ?_)
  obtain ⟨u_7, u_8⟩ := u
  have hP : va_P (dC, dI) vwCl [(achoo, .inr (3, [.ref aroom, .ref ameth, .ref acand, .ref ahint, .int 0, .int (-1), .int 0, .int 0, .null])), (asize, .inr (10, [.ref azsl, .int 0])), (anote, .inr (5, [.ref af1, .ref af2, .ref af3, .int 0])), (aexpr, .inr (1, [.int 0, .ref eD, .int 0])), (ameth, .inr (1, [.int 0, .ref eD, .int 0])), (nm, .inl (kI, 12, .inl (fun _ => 0))), (nl, .inl (kI, 12, .inl (fun _ => 0))), (n1, .inl (kI, 12, .inl (fun _ => 0))), (n2, .inl (kI, 12, .inl (fun _ => 0))), (azsl, .inl (kL, 0, .inr (.inl (fun _ => 0)))), (ou, .inl (kL, 1, .inr (.inl u_2))), (mm, .inr (21, [.int u_7, .ref ms, .ref mt, .ref mh, .ref me]))] H := hP
  have hD : va_D A [(achoo, .inr (3, [.ref aroom, .ref ameth, .ref acand, .ref ahint, .int 0, .int (-1), .int 0, .int 0, .null])), (asize, .inr (10, [.ref azsl, .int 0])), (anote, .inr (5, [.ref af1, .ref af2, .ref af3, .int 0])), (aexpr, .inr (1, [.int 0, .ref eD, .int 0])), (ameth, .inr (1, [.int 0, .ref eD, .int 0])), (nm, .inl (kI, 12, .inl (fun _ => 0))), (nl, .inl (kI, 12, .inl (fun _ => 0))), (n1, .inl (kI, 12, .inl (fun _ => 0))), (n2, .inl (kI, 12, .inl (fun _ => 0))), (azsl, .inl (kL, 0, .inr (.inl (fun _ => 0)))), (ou, .inl (kL, 1, .inr (.inl u_2))), (mm, .inr (21, [.int u_7, .ref ms, .ref mt, .ref mh, .ref me]))] := hD
  have hK : va_K (dC, dI) vwCl [(kI, .int), (kL, .long), (kO, .object "java/lang/Object"), (kT, .object "HornbookModel$Tree"), (kL, .long)] s := by simpa using hK
  have hw_10 : r_9 = u_8 ∧ u_7 = (if y1 < 0 ∨ 2 < y1 ∨ y2 < 0 ∨ 2 < y2 then 1 else 0) ∧ (u_7 = 0 → u_8 = (if y1 = y2 ∨ y1 = 1 ∨ y2 = 0 then 1 else 0)) := hw_10
  obtain ⟨hw_10, hp_11, hp_12⟩ := hw_10
  have hw_10 := hw_10.symm
  subst hw_10
  refine lv_istore (lv' := [(6, .int u_8), (5, .int u_1), (4, .int 0), (3, .ref ou), (2, .ref mm), (1, .ref hh), (0, .ref b)]) hx hb dL_law_1104 hl (by decide) rfl (fun ls hl => ?_)
  have hk9 : u_1 = u_7 := hp_5.trans hp_11.symm
  subst hk9
  refine lv_aload_n hx hb dL_law_1106 rfl (lv_at hl 4 rfl) ?_
  refine z_i (wr := [(achoo, .inr (3, [.ref aroom, .ref ameth, .ref acand, .ref ahint, .int 0, .int (-1), .int 0, .int 0, .null])), (asize, .inr (10, [.ref azsl, .int 0])), (anote, .inr (5, [.ref af1, .ref af2, .ref af3, .int 0])), (aexpr, .inr (1, [.int 0, .ref eD, .int 0])), (ameth, .inr (1, [.int 0, .ref eD, .int 0])), (nm, .inl (kI, 12, .inl (fun _ => 0))), (nl, .inl (kI, 12, .inl (fun _ => 0))), (n1, .inl (kI, 12, .inl (fun _ => 0))), (n2, .inl (kI, 12, .inl (fun _ => 0))), (azsl, .inl (kL, 0, .inr (.inl (fun _ => 0)))), (ou, .inl (kL, 1, .inr (.inl u_2)))]) (va_runV (As := []) (rest := []) ⟨hx, hb, hml, hown, hts⟩ (c_M_thrown l eD eI ad dC dI H.size mm ((.ref ms)) ((.ref mt)) ((.ref mh)) ((.ref me)) u_1) (cwV 0 hts gl_c_M_thrown rfl rfl rfl (by decide +kernel) ⟨Nat.le_of_ble_eq_true rfl, Nat.le_of_ble_eq_true rfl⟩) (z_preV (wc := [(mm, .inr (21, [.int u_1, .ref ms, .ref mt, .ref mh, .ref me]))]) hP hD hK hS hA hE [11] [] rfl (by decide) rfl (ci := 21) (q0 := 0) rfl rfl) rfl rfl hl.1 rfl (lv_room (Nat.le_of_ble_eq_true rfl)) dL_law_1107 ⟨Nat.le_of_ble_eq_true rfl, Nat.le_of_ble_eq_true rfl⟩) hP hD hK hS hA [11] [0, 1, 2, 3, 4, 5, 6, 7, 8, 9, 10] rfl rfl (by decide) (by decide) (fun r_13 u H locs hw_14 hP hD hK hS => ?_)
  obtain ⟨⟩ := u
  have hP : va_P (dC, dI) vwCl [(achoo, .inr (3, [.ref aroom, .ref ameth, .ref acand, .ref ahint, .int 0, .int (-1), .int 0, .int 0, .null])), (asize, .inr (10, [.ref azsl, .int 0])), (anote, .inr (5, [.ref af1, .ref af2, .ref af3, .int 0])), (aexpr, .inr (1, [.int 0, .ref eD, .int 0])), (ameth, .inr (1, [.int 0, .ref eD, .int 0])), (nm, .inl (kI, 12, .inl (fun _ => 0))), (nl, .inl (kI, 12, .inl (fun _ => 0))), (n1, .inl (kI, 12, .inl (fun _ => 0))), (n2, .inl (kI, 12, .inl (fun _ => 0))), (azsl, .inl (kL, 0, .inr (.inl (fun _ => 0)))), (ou, .inl (kL, 1, .inr (.inl u_2))), (mm, .inr (21, [.int u_1, .ref ms, .ref mt, .ref mh, .ref me]))] H := hP
  have hD : va_D A [(achoo, .inr (3, [.ref aroom, .ref ameth, .ref acand, .ref ahint, .int 0, .int (-1), .int 0, .int 0, .null])), (asize, .inr (10, [.ref azsl, .int 0])), (anote, .inr (5, [.ref af1, .ref af2, .ref af3, .int 0])), (aexpr, .inr (1, [.int 0, .ref eD, .int 0])), (ameth, .inr (1, [.int 0, .ref eD, .int 0])), (nm, .inl (kI, 12, .inl (fun _ => 0))), (nl, .inl (kI, 12, .inl (fun _ => 0))), (n1, .inl (kI, 12, .inl (fun _ => 0))), (n2, .inl (kI, 12, .inl (fun _ => 0))), (azsl, .inl (kL, 0, .inr (.inl (fun _ => 0)))), (ou, .inl (kL, 1, .inr (.inl u_2))), (mm, .inr (21, [.int u_1, .ref ms, .ref mt, .ref mh, .ref me]))] := hD
  have hK : va_K (dC, dI) vwCl [(kI, .int), (kL, .long), (kO, .object "java/lang/Object"), (kT, .object "HornbookModel$Tree"), (kL, .long)] s := by simpa using hK
  have hw_14 : r_13 = u_1 := hw_14
  have hw_14 := hw_14.symm
  subst hw_14
  refine lv_iload hx hb dL_law_1110 (lv_at hl 1 rfl) ?_
  refine lv_icmp_eq (tgt := 1117) hx hb dL_law_1112 (by decide) (fun c_15 => ?_) (fun c_15 => ?_)
  rotate_left
  · exact absurd rfl c_15
  refine lv_iload hx hb dL_law_1117 (lv_at hl 1 rfl) ?_
  refine lv_if_ne (tgt := 1141) hx hb dL_law_1119 (by decide) (fun c_16 => ?_) (fun c_16 => ?_)
  · refine lv_goto (tgt := 2196) hx hb dL_law_1141 (by decide) ?_
    exact law_tail l Z hS (lv_sub hl [2, 6] rfl) (Nat.le_of_ble_eq_true rfl) (Nat.le_of_ble_eq_true rfl)
  · refine lv_aload_n hx hb dL_law_1122 rfl (lv_at hl 3 rfl) ?_
    have hf9 := hp_6 c_16
    have hv9 := hp_12 c_16
    by_cases hB9 : y1 = y2 ∨ y1 = 1 ∨ y2 = 0
    · rw [if_pos hB9] at hf9 hv9
      have hPz := hP
      have hDz := hD
      have hKz := hK
      have hSz := hS
      have hlz := hl
      subst hv9
      have hP := hPz
      have hD := hDz
      have hK := hKz
      have hS := hSz
      have hl := hlz
      refine lv_iconst (v := 0) hx hb dL_law_1123 (by decide) ?_
      refine va_lald (D := (dC, dI)) hx hb hK hP 10 1 rfl rfl (by unfold vp_in; decide) dL_law_1124 ?_
      refine lv_iload hx hb dL_law_1125 (lv_at hl 0 rfl) ?_
      refine lv_if_eq (tgt := 1134) hx hb dL_law_1127 (by decide) (fun c_17 => ?_) (fun c_17 => ?_)
      · exact absurd c_17 (by decide)
      refine lv_lconst (v := 1) hx hb dL_law_1130 (by decide) ?_
      refine lv_goto (tgt := 1135) hx hb dL_law_1131 (by decide) ?_
      refine W.lcmp hx hb dL_law_1135 ?_
      refine z_top (v' := .int 0) (congrArg Value.int (by rw [hf9]; exact z_cmp0 _)) ?_
      refine lv_if_eq (tgt := 1141) hx hb dL_law_1136 (by decide) (fun c_18 => ?_) (fun c_18 => ?_)
      rotate_left
      · exact absurd (by decide) c_18
      refine lv_goto (tgt := 2196) hx hb dL_law_1141 (by decide) ?_
      exact law_tail l Z hS (lv_sub hl [2, 6] rfl) (Nat.le_of_ble_eq_true rfl) (Nat.le_of_ble_eq_true rfl)
    · rw [if_neg hB9] at hf9 hv9
      have hPz := hP
      have hDz := hD
      have hKz := hK
      have hSz := hS
      have hlz := hl
      subst hv9
      have hP := hPz
      have hD := hDz
      have hK := hKz
      have hS := hSz
      have hl := hlz
      refine lv_iconst (v := 0) hx hb dL_law_1123 (by decide) ?_
      refine va_lald (D := (dC, dI)) hx hb hK hP 10 1 rfl rfl (by unfold vp_in; decide) dL_law_1124 ?_
      refine lv_iload hx hb dL_law_1125 (lv_at hl 0 rfl) ?_
      refine lv_if_eq (tgt := 1134) hx hb dL_law_1127 (by decide) (fun c_19 => ?_) (fun c_19 => ?_)
      rotate_left
      · exact absurd (by decide) c_19
      refine lv_lconst (v := 0) hx hb dL_law_1134 (by decide) ?_
      refine W.lcmp hx hb dL_law_1135 ?_
      refine z_top (v' := .int 0) (congrArg Value.int (by rw [hf9]; exact z_cmp0 _)) ?_
      refine lv_if_eq (tgt := 1141) hx hb dL_law_1136 (by decide) (fun c_20 => ?_) (fun c_20 => ?_)
      rotate_left
      · exact absurd (by decide) c_20
      refine lv_goto (tgt := 2196) hx hb dL_law_1141 (by decide) ?_
      exact law_tail l Z hS (lv_sub hl [2, 6] rfl) (Nat.le_of_ble_eq_true rfl) (Nat.le_of_ble_eq_true rfl)

set_option maxHeartbeats 4000000 in
set_option maxRecDepth 100000 in
theorem law_case_13 {p : Program} {e : Env} {s : State} {m : MethodId} {below : List Frame} {meth : Method} {c : Code} (l : Launch) {b : Nat} {xs : Nat → Int32} {A : Nat → Prop} {eD eI : Nat} {ad : Nat → Nat} (Z : zLaw l p s m meth c b xs A eD eI ad) (y1 : Int32) (hy1 : xs (1 : Int32).toNatClampNeg = y1) (y2 : Int32) (hy2 : xs (2 : Int32).toNatClampNeg = y2) (y3 : Int32) (hy3 : xs (3 : Int32).toNatClampNeg = y3) (y4 : Int32) (hy4 : xs (4 : Int32).toNatClampNeg = y4) (y5 : Int32) (hy5 : xs (5 : Int32).toNatClampNeg = y5) (y6 : Int32) (hy6 : xs (6 : Int32).toNatClampNeg = y6) (dC : Nat → ClassId) (dI : Nat → Nat → Nat) (hh : Nat) (aexpr : Nat) (achoo : Nat) (ameth : Nat) (aroom : Nat) (anod : Nat) (asort : Nat) (anote : Nat) (amet : Nat) (atold : Nat) (aheld : Nat) (apair : Nat) (astep : Nat) (asize : Nat) (nm : Nat) (nl : Nat) (n1 : Nat) (n2 : Nat) (nf : Nat) (ns : Nat) (nh : Nat) (nk : Nat) (np : Nat) (apsl : Nat) (azsl : Nat) (acand : Nat) (ahint : Nat) (af1 : Nat) (af2 : Nat) (af3 : Nat) (ou : Nat) (mm : Nat) (ms : Nat) (mt : Nat) (mh : Nat) (me : Nat) (ma : Nat) (t0 : Nat) (t1 : Nat) (t2 : Nat) (i0 : Nat) (i1 : Nat) (i2 : Nat) (kI : ClassId) (kL : ClassId) (kO : ClassId) (kT : ClassId) (mo : Int32) (fo : Nat → Int64) {H : Heap} {locs : List Loc} {ls : Array Slot} (hP : va_P (dC, dI) vwCl [(hh, .inr (13, [.ref aexpr, .ref achoo, .ref ameth, .ref aroom, .ref anod, .ref asort, .ref anote, .ref amet, .int 0, .int 1])), (achoo, .inr (3, [.ref aroom, .ref ameth, .ref acand, .ref ahint, .int 0, .int (-1), .int 0, .int 0, .null])), (aroom, .inr (9, [.ref asort, .ref anod, .ref atold, .int 3, .ref aheld, .int 0, .ref apair, .ref astep, .int 0, .int 0, .int (-1), .int 0, .int 0, .ref asize])), (anod, .inr (7, [.ref nm, .ref nl, .ref n1, .ref n2, .ref nf, .ref ns, .ref nh, .ref nk, .ref np, .int 16, .int 0, .int 16, .int 0, .int 0])), (apair, .inr (8, [.ref apsl, .int 0, .int 0])), (asize, .inr (10, [.ref azsl, .int 0])), (anote, .inr (5, [.ref af1, .ref af2, .ref af3, .int 0])), (aexpr, .inr (1, [.int 0, .ref eD, .int 0])), (ameth, .inr (1, [.int 0, .ref eD, .int 0])), (asort, .inr (1, [.int 0, .ref eD, .int 0])), (astep, .inr (1, [.int 0, .ref eD, .int 0])), (atold, .inl (kI, 60, .inl zTold)), (ns, .inl (kL, 1024, .inr (.inl zSec))), (nf, .inl (kL, 1024, .inr (.inl zFir))), (nm, .inl (kI, 12, .inl (fun _ => 0))), (nl, .inl (kI, 12, .inl (fun _ => 0))), (n1, .inl (kI, 12, .inl (fun _ => 0))), (n2, .inl (kI, 12, .inl (fun _ => 0))), (apsl, .inl (kL, 512, .inr (.inl (fun _ => 0)))), (azsl, .inl (kL, 0, .inr (.inl (fun _ => 0)))), (mm, .inr (21, [.int 0, .ref ms, .ref mt, .ref mh, .ref me])), (ms, .inr (1, [.int 0, .ref eD, .int 0])), (mt, .inr (1, [.int mo, .ref ma, .int 3])), (mh, .inr (1, [.int 0, .ref eD, .int 0])), (me, .inr (1, [.int 0, .ref eD, .int 0])), (ma, .inl (kO, 10, .inr (.inr (.inr (.inr (zfT t0 t1 t2)))))), (t0, .inr (18, [.int (-1), .ref i0])), (t1, .inr (18, [.int (-2), .ref i1])), (t2, .inr (18, [.int (-3), .ref i2])), (i0, .inl (kT, 0, .inr (.inr (.inr (.inr (fun _ => none)))))), (i1, .inl (kT, 0, .inr (.inr (.inr (.inr (fun _ => none)))))), (i2, .inl (kT, 0, .inr (.inr (.inr (.inr (fun _ => none)))))), (ou, .inl (kL, 1, .inr (.inl fo)))] H) (hD : va_D A [(hh, .inr (13, [.ref aexpr, .ref achoo, .ref ameth, .ref aroom, .ref anod, .ref asort, .ref anote, .ref amet, .int 0, .int 1])), (achoo, .inr (3, [.ref aroom, .ref ameth, .ref acand, .ref ahint, .int 0, .int (-1), .int 0, .int 0, .null])), (aroom, .inr (9, [.ref asort, .ref anod, .ref atold, .int 3, .ref aheld, .int 0, .ref apair, .ref astep, .int 0, .int 0, .int (-1), .int 0, .int 0, .ref asize])), (anod, .inr (7, [.ref nm, .ref nl, .ref n1, .ref n2, .ref nf, .ref ns, .ref nh, .ref nk, .ref np, .int 16, .int 0, .int 16, .int 0, .int 0])), (apair, .inr (8, [.ref apsl, .int 0, .int 0])), (asize, .inr (10, [.ref azsl, .int 0])), (anote, .inr (5, [.ref af1, .ref af2, .ref af3, .int 0])), (aexpr, .inr (1, [.int 0, .ref eD, .int 0])), (ameth, .inr (1, [.int 0, .ref eD, .int 0])), (asort, .inr (1, [.int 0, .ref eD, .int 0])), (astep, .inr (1, [.int 0, .ref eD, .int 0])), (atold, .inl (kI, 60, .inl zTold)), (ns, .inl (kL, 1024, .inr (.inl zSec))), (nf, .inl (kL, 1024, .inr (.inl zFir))), (nm, .inl (kI, 12, .inl (fun _ => 0))), (nl, .inl (kI, 12, .inl (fun _ => 0))), (n1, .inl (kI, 12, .inl (fun _ => 0))), (n2, .inl (kI, 12, .inl (fun _ => 0))), (apsl, .inl (kL, 512, .inr (.inl (fun _ => 0)))), (azsl, .inl (kL, 0, .inr (.inl (fun _ => 0)))), (mm, .inr (21, [.int 0, .ref ms, .ref mt, .ref mh, .ref me])), (ms, .inr (1, [.int 0, .ref eD, .int 0])), (mt, .inr (1, [.int mo, .ref ma, .int 3])), (mh, .inr (1, [.int 0, .ref eD, .int 0])), (me, .inr (1, [.int 0, .ref eD, .int 0])), (ma, .inl (kO, 10, .inr (.inr (.inr (.inr (zfT t0 t1 t2)))))), (t0, .inr (18, [.int (-1), .ref i0])), (t1, .inr (18, [.int (-2), .ref i1])), (t2, .inr (18, [.int (-3), .ref i2])), (i0, .inl (kT, 0, .inr (.inr (.inr (.inr (fun _ => none)))))), (i1, .inl (kT, 0, .inr (.inr (.inr (.inr (fun _ => none)))))), (i2, .inl (kT, 0, .inr (.inr (.inr (.inr (fun _ => none)))))), (ou, .inl (kL, 1, .inr (.inl fo)))]) (hK : va_K (dC, dI) vwCl [(kI, .int), (kL, .long), (kO, .object "java/lang/Object"), (kT, .object "HornbookModel$Tree")] s) (hS : va_S A s.heap H locs) (hl : lv_has ls 9 [(4, .int 0), (3, .ref ou), (2, .ref mm), (1, .ref hh), (0, .ref b)]) : W p l e room_1 s m #[Value.ref b] below meth c H locs 74 3613 (lw_Z below #[Value.ref b] s) (F0 m 1144 ls []) := by
  obtain ⟨hfl, hx, hb, hr, hml, hown, hts, hX, hbl, hbA, hlocks, hE, hA, hAs, hDc⟩ := id Z
  have in_RJx4a65c := zin_RJx4a65c
  have in_RX11 := zin_RX11
  have in_RX16 := zin_RX16
  have in_RX17 := zin_RX17
  have in_RX19 := zin_RX19
  have in_RX5 := zin_RX5
  have in_RX7 := zin_RX7
  refine lv_aload_n hx hb dL_law_1144 rfl (lv_at hl 3 rfl) ?_
  refine lv_aload_n hx hb dL_law_1145 rfl (lv_at hl 4 rfl) ?_
  refine lv_iload hx hb dL_law_1146 (lv_at hl 0 rfl) ?_
  refine lv_iconst (v := 1) hx hb dL_law_1148 (by decide) ?_
  refine lv_iadd hx hb dL_law_1149 ?_
  refine z_top (v' := .int 1) (congrArg Value.int (by decide)) ?_
  refine va_sld hx hb hX hbl hbA hS (by unfold vp_in; decide) dL_law_1150 ?_
  refine z_top (v' := .int y1) (congrArg Value.int hy1) ?_
  refine lv_aload_n hx hb dL_law_1151 rfl (lv_at hl 4 rfl) ?_
  refine lv_iload hx hb dL_law_1152 (lv_at hl 0 rfl) ?_
  refine lv_iconst (v := 2) hx hb dL_law_1154 (by decide) ?_
  refine lv_iadd hx hb dL_law_1155 ?_
  refine z_top (v' := .int 2) (congrArg Value.int (by decide)) ?_
  refine va_sld hx hb hX hbl hbA hS (by unfold vp_in; decide) dL_law_1156 ?_
  refine z_top (v' := .int y2) (congrArg Value.int hy2) ?_
  refine lv_aload_n hx hb dL_law_1157 rfl (lv_at hl 4 rfl) ?_
  refine lv_iload hx hb dL_law_1158 (lv_at hl 0 rfl) ?_
  refine lv_iconst (v := 3) hx hb dL_law_1160 (by decide) ?_
  refine lv_iadd hx hb dL_law_1161 ?_
  refine z_top (v' := .int 3) (congrArg Value.int (by decide)) ?_
  refine va_sld hx hb hX hbl hbA hS (by unfold vp_in; decide) dL_law_1162 ?_
  refine z_top (v' := .int y3) (congrArg Value.int hy3) ?_
  refine lv_aload_n hx hb dL_law_1163 rfl (lv_at hl 1 rfl) ?_
  refine zx_i (wr := [(achoo, .inr (3, [.ref aroom, .ref ameth, .ref acand, .ref ahint, .int 0, .int (-1), .int 0, .int 0, .null])), (apair, .inr (8, [.ref apsl, .int 0, .int 0])), (asize, .inr (10, [.ref azsl, .int 0])), (anote, .inr (5, [.ref af1, .ref af2, .ref af3, .int 0])), (aexpr, .inr (1, [.int 0, .ref eD, .int 0])), (ameth, .inr (1, [.int 0, .ref eD, .int 0])), (astep, .inr (1, [.int 0, .ref eD, .int 0])), (nf, .inl (kL, 1024, .inr (.inl zFir))), (nm, .inl (kI, 12, .inl (fun _ => 0))), (nl, .inl (kI, 12, .inl (fun _ => 0))), (n1, .inl (kI, 12, .inl (fun _ => 0))), (n2, .inl (kI, 12, .inl (fun _ => 0))), (apsl, .inl (kL, 512, .inr (.inl (fun _ => 0)))), (azsl, .inl (kL, 0, .inr (.inl (fun _ => 0)))), (mm, .inr (21, [.int 0, .ref ms, .ref mt, .ref mh, .ref me])), (ms, .inr (1, [.int 0, .ref eD, .int 0])), (mt, .inr (1, [.int mo, .ref ma, .int 3])), (mh, .inr (1, [.int 0, .ref eD, .int 0])), (me, .inr (1, [.int 0, .ref eD, .int 0])), (ma, .inl (kO, 10, .inr (.inr (.inr (.inr (zfT t0 t1 t2)))))), (t0, .inr (18, [.int (-1), .ref i0])), (t1, .inr (18, [.int (-2), .ref i1])), (t2, .inr (18, [.int (-3), .ref i2])), (i0, .inl (kT, 0, .inr (.inr (.inr (.inr (fun _ => none)))))), (i1, .inl (kT, 0, .inr (.inr (.inr (.inr (fun _ => none)))))), (i2, .inl (kT, 0, .inr (.inr (.inr (.inr (fun _ => none))))))]) (vx_runSX (As := [.ref hh, .int y1, .int y2, .int y3, .ref ou]) (rest := []) ⟨hx, hb, hml, hown, hts⟩ (c_L_road l hfl eD eI ad dC dI H.size hh aexpr achoo ameth aroom anod asort anote amet atold aheld apair astep asize nm nl n1 n2 nf ns nh nk np ou kI kL y1 y2 y3 fo) (vx_cwSW 5 hts gl_c_L_road rfl rfl rfl (by decide +kernel) ⟨Nat.le_of_ble_eq_true rfl, Nat.le_of_ble_eq_true rfl⟩) (z_preSD (wc := [(hh, .inr (13, [.ref aexpr, .ref achoo, .ref ameth, .ref aroom, .ref anod, .ref asort, .ref anote, .ref amet, .int 0, .int 1])), (aroom, .inr (9, [.ref asort, .ref anod, .ref atold, .int 3, .ref aheld, .int 0, .ref apair, .ref astep, .int 0, .int 0, .int (-1), .int 0, .int 0, .ref asize])), (atold, .inl (kI, 60, .inl zTold)), (anod, .inr (7, [.ref nm, .ref nl, .ref n1, .ref n2, .ref nf, .ref ns, .ref nh, .ref nk, .ref np, .int 16, .int 0, .int 16, .int 0, .int 0])), (ns, .inl (kL, 1024, .inr (.inl zSec))), (asort, .inr (1, [.int 0, .ref eD, .int 0])), (ou, .inl (kL, 1, .inr (.inl fo)))]) hP hD hK hS hA hE [0, 2, 11, 3, 12, 9, 32] [0, 1] rfl (by decide) rfl hDc) rfl rfl hl.1 rfl (lv_room (Nat.le_of_ble_eq_true rfl)) dL_law_1164 ⟨Nat.le_of_ble_eq_true rfl, Nat.le_of_ble_eq_true rfl⟩) hP hD hK hS hA [0, 2, 11, 3, 12, 9, 32] [1, 4, 5, 6, 7, 8, 10, 13, 14, 15, 16, 17, 18, 19, 20, 21, 22, 23, 24, 25, 26, 27, 28, 29, 30, 31] rfl rfl (by decide) (by decide) (fun E ce q9 H locs hbad hP hD hS h91 h92 h93 => ?_) (fun r_3 u H locs hw_4 hP hD hK hS => ?_)
  · exact absurd hbad id
  obtain ⟨u_1, u_2⟩ := u
  have hP : va_P (dC, dI) vwCl [(achoo, .inr (3, [.ref aroom, .ref ameth, .ref acand, .ref ahint, .int 0, .int (-1), .int 0, .int 0, .null])), (apair, .inr (8, [.ref apsl, .int 0, .int 0])), (asize, .inr (10, [.ref azsl, .int 0])), (anote, .inr (5, [.ref af1, .ref af2, .ref af3, .int 0])), (aexpr, .inr (1, [.int 0, .ref eD, .int 0])), (ameth, .inr (1, [.int 0, .ref eD, .int 0])), (astep, .inr (1, [.int 0, .ref eD, .int 0])), (nf, .inl (kL, 1024, .inr (.inl zFir))), (nm, .inl (kI, 12, .inl (fun _ => 0))), (nl, .inl (kI, 12, .inl (fun _ => 0))), (n1, .inl (kI, 12, .inl (fun _ => 0))), (n2, .inl (kI, 12, .inl (fun _ => 0))), (apsl, .inl (kL, 512, .inr (.inl (fun _ => 0)))), (azsl, .inl (kL, 0, .inr (.inl (fun _ => 0)))), (mm, .inr (21, [.int 0, .ref ms, .ref mt, .ref mh, .ref me])), (ms, .inr (1, [.int 0, .ref eD, .int 0])), (mt, .inr (1, [.int mo, .ref ma, .int 3])), (mh, .inr (1, [.int 0, .ref eD, .int 0])), (me, .inr (1, [.int 0, .ref eD, .int 0])), (ma, .inl (kO, 10, .inr (.inr (.inr (.inr (zfT t0 t1 t2)))))), (t0, .inr (18, [.int (-1), .ref i0])), (t1, .inr (18, [.int (-2), .ref i1])), (t2, .inr (18, [.int (-3), .ref i2])), (i0, .inl (kT, 0, .inr (.inr (.inr (.inr (fun _ => none)))))), (i1, .inl (kT, 0, .inr (.inr (.inr (.inr (fun _ => none)))))), (i2, .inl (kT, 0, .inr (.inr (.inr (.inr (fun _ => none)))))), (ou, .inl (kL, 1, .inr (.inl u_2)))] H := hP
  have hD : va_D A [(achoo, .inr (3, [.ref aroom, .ref ameth, .ref acand, .ref ahint, .int 0, .int (-1), .int 0, .int 0, .null])), (apair, .inr (8, [.ref apsl, .int 0, .int 0])), (asize, .inr (10, [.ref azsl, .int 0])), (anote, .inr (5, [.ref af1, .ref af2, .ref af3, .int 0])), (aexpr, .inr (1, [.int 0, .ref eD, .int 0])), (ameth, .inr (1, [.int 0, .ref eD, .int 0])), (astep, .inr (1, [.int 0, .ref eD, .int 0])), (nf, .inl (kL, 1024, .inr (.inl zFir))), (nm, .inl (kI, 12, .inl (fun _ => 0))), (nl, .inl (kI, 12, .inl (fun _ => 0))), (n1, .inl (kI, 12, .inl (fun _ => 0))), (n2, .inl (kI, 12, .inl (fun _ => 0))), (apsl, .inl (kL, 512, .inr (.inl (fun _ => 0)))), (azsl, .inl (kL, 0, .inr (.inl (fun _ => 0)))), (mm, .inr (21, [.int 0, .ref ms, .ref mt, .ref mh, .ref me])), (ms, .inr (1, [.int 0, .ref eD, .int 0])), (mt, .inr (1, [.int mo, .ref ma, .int 3])), (mh, .inr (1, [.int 0, .ref eD, .int 0])), (me, .inr (1, [.int 0, .ref eD, .int 0])), (ma, .inl (kO, 10, .inr (.inr (.inr (.inr (zfT t0 t1 t2)))))), (t0, .inr (18, [.int (-1), .ref i0])), (t1, .inr (18, [.int (-2), .ref i1])), (t2, .inr (18, [.int (-3), .ref i2])), (i0, .inl (kT, 0, .inr (.inr (.inr (.inr (fun _ => none)))))), (i1, .inl (kT, 0, .inr (.inr (.inr (.inr (fun _ => none)))))), (i2, .inl (kT, 0, .inr (.inr (.inr (.inr (fun _ => none)))))), (ou, .inl (kL, 1, .inr (.inl u_2)))] := hD
  have hK : va_K (dC, dI) vwCl [(kI, .int), (kL, .long), (kO, .object "java/lang/Object"), (kT, .object "HornbookModel$Tree"), (kL, .long)] s := hK
  have hw_4 : r_3 = u_1 ∧ u_1 = (if y1 < 0 ∨ 2 < y1 then 1 else 0) ∧ (u_1 = 0 → u_2 (0 : Int32).toNatClampNeg = ((-9) : Int32).toInt64) := hw_4
  obtain ⟨hw_4, hp_5, hp_6⟩ := hw_4
  have hw_4 := hw_4.symm
  subst hw_4
  refine lv_istore (lv' := [(5, .int u_1), (4, .int 0), (3, .ref ou), (2, .ref mm), (1, .ref hh), (0, .ref b)]) hx hb dL_law_1167 hl (by decide) rfl (fun ls hl => ?_)
  refine lv_aload_n hx hb dL_law_1169 rfl (lv_at hl 3 rfl) ?_
  refine lv_aload_n hx hb dL_law_1170 rfl (lv_at hl 5 rfl) ?_
  refine lv_iload hx hb dL_law_1171 (lv_at hl 1 rfl) ?_
  refine lv_iconst (v := 1) hx hb dL_law_1173 (by decide) ?_
  refine lv_iadd hx hb dL_law_1174 ?_
  refine z_top (v' := .int 1) (congrArg Value.int (by decide)) ?_
  refine va_sld hx hb hX hbl hbA hS (by unfold vp_in; decide) dL_law_1175 ?_
  refine z_top (v' := .int y1) (congrArg Value.int hy1) ?_
  refine lv_aload_n hx hb dL_law_1176 rfl (lv_at hl 5 rfl) ?_
  refine lv_iload hx hb dL_law_1177 (lv_at hl 1 rfl) ?_
  refine lv_iconst (v := 2) hx hb dL_law_1179 (by decide) ?_
  refine lv_iadd hx hb dL_law_1180 ?_
  refine z_top (v' := .int 2) (congrArg Value.int (by decide)) ?_
  refine va_sld hx hb hX hbl hbA hS (by unfold vp_in; decide) dL_law_1181 ?_
  refine z_top (v' := .int y2) (congrArg Value.int hy2) ?_
  refine lv_aload_n hx hb dL_law_1182 rfl (lv_at hl 5 rfl) ?_
  refine lv_iload hx hb dL_law_1183 (lv_at hl 1 rfl) ?_
  refine lv_iconst (v := 3) hx hb dL_law_1185 (by decide) ?_
  refine lv_iadd hx hb dL_law_1186 ?_
  refine z_top (v' := .int 3) (congrArg Value.int (by decide)) ?_
  refine va_sld hx hb hX hbl hbA hS (by unfold vp_in; decide) dL_law_1187 ?_
  refine z_top (v' := .int y3) (congrArg Value.int hy3) ?_
  refine z_i (wr := [(achoo, .inr (3, [.ref aroom, .ref ameth, .ref acand, .ref ahint, .int 0, .int (-1), .int 0, .int 0, .null])), (apair, .inr (8, [.ref apsl, .int 0, .int 0])), (asize, .inr (10, [.ref azsl, .int 0])), (anote, .inr (5, [.ref af1, .ref af2, .ref af3, .int 0])), (aexpr, .inr (1, [.int 0, .ref eD, .int 0])), (ameth, .inr (1, [.int 0, .ref eD, .int 0])), (astep, .inr (1, [.int 0, .ref eD, .int 0])), (nf, .inl (kL, 1024, .inr (.inl zFir))), (nm, .inl (kI, 12, .inl (fun _ => 0))), (nl, .inl (kI, 12, .inl (fun _ => 0))), (n1, .inl (kI, 12, .inl (fun _ => 0))), (n2, .inl (kI, 12, .inl (fun _ => 0))), (apsl, .inl (kL, 512, .inr (.inl (fun _ => 0)))), (azsl, .inl (kL, 0, .inr (.inl (fun _ => 0)))), (ou, .inl (kL, 1, .inr (.inl u_2)))]) (va_runV (As := [.int y1, .int y2, .int y3]) (rest := []) ⟨hx, hb, hml, hown, hts⟩ (c_M_road l eD eI ad dC dI H.size mm ms mt mh me mo ma kO kT t0 t1 t2 i0 i1 i2 0 y1 y2 y3) (cwV 3 hts gl_c_M_road rfl rfl rfl (by decide +kernel) ⟨Nat.le_of_ble_eq_true rfl, Nat.le_of_ble_eq_true rfl⟩) (z_preV (wc := [(mm, .inr (21, [.int 0, .ref ms, .ref mt, .ref mh, .ref me])), (ms, .inr (1, [.int 0, .ref eD, .int 0])), (mt, .inr (1, [.int mo, .ref ma, .int 3])), (mh, .inr (1, [.int 0, .ref eD, .int 0])), (me, .inr (1, [.int 0, .ref eD, .int 0])), (ma, .inl (kO, 10, .inr (.inr (.inr (.inr (zfT t0 t1 t2)))))), (t0, .inr (18, [.int (-1), .ref i0])), (t1, .inr (18, [.int (-2), .ref i1])), (t2, .inr (18, [.int (-3), .ref i2])), (i0, .inl (kT, 0, .inr (.inr (.inr (.inr (fun _ => none)))))), (i1, .inl (kT, 0, .inr (.inr (.inr (.inr (fun _ => none)))))), (i2, .inl (kT, 0, .inr (.inr (.inr (.inr (fun _ => none))))))]) hP hD hK hS hA hE [14, 15, 16, 17, 18, 19, 20, 21, 22, 23, 24, 25] [2, 3] rfl (by decide) rfl (ci := 21) (q0 := 0) rfl rfl) rfl rfl hl.1 rfl (lv_room (Nat.le_of_ble_eq_true rfl)) dL_law_1188 ⟨Nat.le_of_ble_eq_true rfl, Nat.le_of_ble_eq_true rfl⟩) hP hD hK hS hA [14, 15, 16, 17, 18, 19, 20, 21, 22, 23, 24, 25] [0, 1, 2, 3, 4, 5, 6, 7, 8, 9, 10, 11, 12, 13, 26] rfl rfl (by decide) (by decide) (fun r_9 u H locs hw_10 hP hD hK hS => ?_)
  obtain ⟨u_7, u_8⟩ := u
  have hP : va_P (dC, dI) vwCl [(achoo, .inr (3, [.ref aroom, .ref ameth, .ref acand, .ref ahint, .int 0, .int (-1), .int 0, .int 0, .null])), (apair, .inr (8, [.ref apsl, .int 0, .int 0])), (asize, .inr (10, [.ref azsl, .int 0])), (anote, .inr (5, [.ref af1, .ref af2, .ref af3, .int 0])), (aexpr, .inr (1, [.int 0, .ref eD, .int 0])), (ameth, .inr (1, [.int 0, .ref eD, .int 0])), (astep, .inr (1, [.int 0, .ref eD, .int 0])), (nf, .inl (kL, 1024, .inr (.inl zFir))), (nm, .inl (kI, 12, .inl (fun _ => 0))), (nl, .inl (kI, 12, .inl (fun _ => 0))), (n1, .inl (kI, 12, .inl (fun _ => 0))), (n2, .inl (kI, 12, .inl (fun _ => 0))), (apsl, .inl (kL, 512, .inr (.inl (fun _ => 0)))), (azsl, .inl (kL, 0, .inr (.inl (fun _ => 0)))), (ou, .inl (kL, 1, .inr (.inl u_2))), (mm, .inr (21, [.int u_7, .ref ms, .ref mt, .ref mh, .ref me]))] H := hP
  have hD : va_D A [(achoo, .inr (3, [.ref aroom, .ref ameth, .ref acand, .ref ahint, .int 0, .int (-1), .int 0, .int 0, .null])), (apair, .inr (8, [.ref apsl, .int 0, .int 0])), (asize, .inr (10, [.ref azsl, .int 0])), (anote, .inr (5, [.ref af1, .ref af2, .ref af3, .int 0])), (aexpr, .inr (1, [.int 0, .ref eD, .int 0])), (ameth, .inr (1, [.int 0, .ref eD, .int 0])), (astep, .inr (1, [.int 0, .ref eD, .int 0])), (nf, .inl (kL, 1024, .inr (.inl zFir))), (nm, .inl (kI, 12, .inl (fun _ => 0))), (nl, .inl (kI, 12, .inl (fun _ => 0))), (n1, .inl (kI, 12, .inl (fun _ => 0))), (n2, .inl (kI, 12, .inl (fun _ => 0))), (apsl, .inl (kL, 512, .inr (.inl (fun _ => 0)))), (azsl, .inl (kL, 0, .inr (.inl (fun _ => 0)))), (ou, .inl (kL, 1, .inr (.inl u_2))), (mm, .inr (21, [.int u_7, .ref ms, .ref mt, .ref mh, .ref me]))] := hD
  have hK : va_K (dC, dI) vwCl [(kI, .int), (kL, .long), (kO, .object "java/lang/Object"), (kT, .object "HornbookModel$Tree"), (kL, .long)] s := by simpa using hK
  have hw_10 : r_9 = u_8 ∧ u_7 = (if y1 < 0 ∨ 2 < y1 then 1 else 0) ∧ (u_7 = 0 → u_8 = (-9)) := hw_10
  obtain ⟨hw_10, hp_11, hp_12⟩ := hw_10
  have hw_10 := hw_10.symm
  subst hw_10
  refine lv_istore (lv' := [(6, .int u_8), (5, .int u_1), (4, .int 0), (3, .ref ou), (2, .ref mm), (1, .ref hh), (0, .ref b)]) hx hb dL_law_1191 hl (by decide) rfl (fun ls hl => ?_)
  have hk9 : u_1 = u_7 := hp_5.trans hp_11.symm
  subst hk9
  refine lv_aload_n hx hb dL_law_1193 rfl (lv_at hl 4 rfl) ?_
  refine z_i (wr := [(achoo, .inr (3, [.ref aroom, .ref ameth, .ref acand, .ref ahint, .int 0, .int (-1), .int 0, .int 0, .null])), (apair, .inr (8, [.ref apsl, .int 0, .int 0])), (asize, .inr (10, [.ref azsl, .int 0])), (anote, .inr (5, [.ref af1, .ref af2, .ref af3, .int 0])), (aexpr, .inr (1, [.int 0, .ref eD, .int 0])), (ameth, .inr (1, [.int 0, .ref eD, .int 0])), (astep, .inr (1, [.int 0, .ref eD, .int 0])), (nf, .inl (kL, 1024, .inr (.inl zFir))), (nm, .inl (kI, 12, .inl (fun _ => 0))), (nl, .inl (kI, 12, .inl (fun _ => 0))), (n1, .inl (kI, 12, .inl (fun _ => 0))), (n2, .inl (kI, 12, .inl (fun _ => 0))), (apsl, .inl (kL, 512, .inr (.inl (fun _ => 0)))), (azsl, .inl (kL, 0, .inr (.inl (fun _ => 0)))), (ou, .inl (kL, 1, .inr (.inl u_2)))]) (va_runV (As := []) (rest := []) ⟨hx, hb, hml, hown, hts⟩ (c_M_thrown l eD eI ad dC dI H.size mm ((.ref ms)) ((.ref mt)) ((.ref mh)) ((.ref me)) u_1) (cwV 0 hts gl_c_M_thrown rfl rfl rfl (by decide +kernel) ⟨Nat.le_of_ble_eq_true rfl, Nat.le_of_ble_eq_true rfl⟩) (z_preV (wc := [(mm, .inr (21, [.int u_1, .ref ms, .ref mt, .ref mh, .ref me]))]) hP hD hK hS hA hE [15] [] rfl (by decide) rfl (ci := 21) (q0 := 0) rfl rfl) rfl rfl hl.1 rfl (lv_room (Nat.le_of_ble_eq_true rfl)) dL_law_1194 ⟨Nat.le_of_ble_eq_true rfl, Nat.le_of_ble_eq_true rfl⟩) hP hD hK hS hA [15] [0, 1, 2, 3, 4, 5, 6, 7, 8, 9, 10, 11, 12, 13, 14] rfl rfl (by decide) (by decide) (fun r_13 u H locs hw_14 hP hD hK hS => ?_)
  obtain ⟨⟩ := u
  have hP : va_P (dC, dI) vwCl [(achoo, .inr (3, [.ref aroom, .ref ameth, .ref acand, .ref ahint, .int 0, .int (-1), .int 0, .int 0, .null])), (apair, .inr (8, [.ref apsl, .int 0, .int 0])), (asize, .inr (10, [.ref azsl, .int 0])), (anote, .inr (5, [.ref af1, .ref af2, .ref af3, .int 0])), (aexpr, .inr (1, [.int 0, .ref eD, .int 0])), (ameth, .inr (1, [.int 0, .ref eD, .int 0])), (astep, .inr (1, [.int 0, .ref eD, .int 0])), (nf, .inl (kL, 1024, .inr (.inl zFir))), (nm, .inl (kI, 12, .inl (fun _ => 0))), (nl, .inl (kI, 12, .inl (fun _ => 0))), (n1, .inl (kI, 12, .inl (fun _ => 0))), (n2, .inl (kI, 12, .inl (fun _ => 0))), (apsl, .inl (kL, 512, .inr (.inl (fun _ => 0)))), (azsl, .inl (kL, 0, .inr (.inl (fun _ => 0)))), (ou, .inl (kL, 1, .inr (.inl u_2))), (mm, .inr (21, [.int u_1, .ref ms, .ref mt, .ref mh, .ref me]))] H := hP
  have hD : va_D A [(achoo, .inr (3, [.ref aroom, .ref ameth, .ref acand, .ref ahint, .int 0, .int (-1), .int 0, .int 0, .null])), (apair, .inr (8, [.ref apsl, .int 0, .int 0])), (asize, .inr (10, [.ref azsl, .int 0])), (anote, .inr (5, [.ref af1, .ref af2, .ref af3, .int 0])), (aexpr, .inr (1, [.int 0, .ref eD, .int 0])), (ameth, .inr (1, [.int 0, .ref eD, .int 0])), (astep, .inr (1, [.int 0, .ref eD, .int 0])), (nf, .inl (kL, 1024, .inr (.inl zFir))), (nm, .inl (kI, 12, .inl (fun _ => 0))), (nl, .inl (kI, 12, .inl (fun _ => 0))), (n1, .inl (kI, 12, .inl (fun _ => 0))), (n2, .inl (kI, 12, .inl (fun _ => 0))), (apsl, .inl (kL, 512, .inr (.inl (fun _ => 0)))), (azsl, .inl (kL, 0, .inr (.inl (fun _ => 0)))), (ou, .inl (kL, 1, .inr (.inl u_2))), (mm, .inr (21, [.int u_1, .ref ms, .ref mt, .ref mh, .ref me]))] := hD
  have hK : va_K (dC, dI) vwCl [(kI, .int), (kL, .long), (kO, .object "java/lang/Object"), (kT, .object "HornbookModel$Tree"), (kL, .long)] s := by simpa using hK
  have hw_14 : r_13 = u_1 := hw_14
  have hw_14 := hw_14.symm
  subst hw_14
  refine lv_iload hx hb dL_law_1197 (lv_at hl 1 rfl) ?_
  refine lv_icmp_eq (tgt := 1204) hx hb dL_law_1199 (by decide) (fun c_15 => ?_) (fun c_15 => ?_)
  rotate_left
  · exact absurd rfl c_15
  refine lv_iload hx hb dL_law_1204 (lv_at hl 1 rfl) ?_
  refine lv_if_ne (tgt := 1221) hx hb dL_law_1206 (by decide) (fun c_16 => ?_) (fun c_16 => ?_)
  · refine lv_goto (tgt := 2196) hx hb dL_law_1221 (by decide) ?_
    exact law_tail l Z hS (lv_sub hl [2, 6] rfl) (Nat.le_of_ble_eq_true rfl) (Nat.le_of_ble_eq_true rfl)
  · refine lv_aload_n hx hb dL_law_1209 rfl (lv_at hl 3 rfl) ?_
    have hf9 := hp_6 c_16
    have hv9 := hp_12 c_16
    refine lv_iconst (v := 0) hx hb dL_law_1210 (by decide) ?_
    refine va_lald (D := (dC, dI)) hx hb hK hP 14 1 rfl rfl (by unfold vp_in; decide) dL_law_1211 ?_
    refine lv_iload hx hb dL_law_1212 (lv_at hl 0 rfl) ?_
    refine lv_i2l (v := u_8.toInt64) hx hb dL_law_1214 rfl ?_
    refine W.lcmp hx hb dL_law_1215 ?_
    refine z_top (v' := .int 0) (congrArg Value.int (by rw [hf9, hv9]; exact z_cmp0 _)) ?_
    refine lv_if_eq (tgt := 1221) hx hb dL_law_1216 (by decide) (fun c_17 => ?_) (fun c_17 => ?_)
    rotate_left
    · exact absurd (by decide) c_17
    refine lv_goto (tgt := 2196) hx hb dL_law_1221 (by decide) ?_
    exact law_tail l Z hS (lv_sub hl [2, 6] rfl) (Nat.le_of_ble_eq_true rfl) (Nat.le_of_ble_eq_true rfl)

set_option maxHeartbeats 4000000 in
set_option maxRecDepth 100000 in
theorem law_case_14 {p : Program} {e : Env} {s : State} {m : MethodId} {below : List Frame} {meth : Method} {c : Code} (l : Launch) {b : Nat} {xs : Nat → Int32} {A : Nat → Prop} {eD eI : Nat} {ad : Nat → Nat} (Z : zLaw l p s m meth c b xs A eD eI ad) (y1 : Int32) (hy1 : xs (1 : Int32).toNatClampNeg = y1) (y2 : Int32) (hy2 : xs (2 : Int32).toNatClampNeg = y2) (y3 : Int32) (hy3 : xs (3 : Int32).toNatClampNeg = y3) (y4 : Int32) (hy4 : xs (4 : Int32).toNatClampNeg = y4) (y5 : Int32) (hy5 : xs (5 : Int32).toNatClampNeg = y5) (y6 : Int32) (hy6 : xs (6 : Int32).toNatClampNeg = y6) (dC : Nat → ClassId) (dI : Nat → Nat → Nat) (hh : Nat) (aexpr : Nat) (achoo : Nat) (ameth : Nat) (aroom : Nat) (anod : Nat) (asort : Nat) (anote : Nat) (amet : Nat) (atold : Nat) (aheld : Nat) (apair : Nat) (astep : Nat) (asize : Nat) (nm : Nat) (nl : Nat) (n1 : Nat) (n2 : Nat) (nf : Nat) (ns : Nat) (nh : Nat) (nk : Nat) (np : Nat) (apsl : Nat) (azsl : Nat) (acand : Nat) (ahint : Nat) (af1 : Nat) (af2 : Nat) (af3 : Nat) (ou : Nat) (mm : Nat) (ms : Nat) (mt : Nat) (mh : Nat) (me : Nat) (ma : Nat) (t0 : Nat) (t1 : Nat) (t2 : Nat) (i0 : Nat) (i1 : Nat) (i2 : Nat) (kI : ClassId) (kL : ClassId) (kO : ClassId) (kT : ClassId) (mo : Int32) (fo : Nat → Int64) {H : Heap} {locs : List Loc} {ls : Array Slot} (hP : va_P (dC, dI) vwCl [(hh, .inr (13, [.ref aexpr, .ref achoo, .ref ameth, .ref aroom, .ref anod, .ref asort, .ref anote, .ref amet, .int 0, .int 1])), (achoo, .inr (3, [.ref aroom, .ref ameth, .ref acand, .ref ahint, .int 0, .int (-1), .int 0, .int 0, .null])), (aroom, .inr (9, [.ref asort, .ref anod, .ref atold, .int 3, .ref aheld, .int 0, .ref apair, .ref astep, .int 0, .int 0, .int (-1), .int 0, .int 0, .ref asize])), (anod, .inr (7, [.ref nm, .ref nl, .ref n1, .ref n2, .ref nf, .ref ns, .ref nh, .ref nk, .ref np, .int 16, .int 0, .int 16, .int 0, .int 0])), (apair, .inr (8, [.ref apsl, .int 0, .int 0])), (asize, .inr (10, [.ref azsl, .int 0])), (anote, .inr (5, [.ref af1, .ref af2, .ref af3, .int 0])), (aexpr, .inr (1, [.int 0, .ref eD, .int 0])), (ameth, .inr (1, [.int 0, .ref eD, .int 0])), (asort, .inr (1, [.int 0, .ref eD, .int 0])), (astep, .inr (1, [.int 0, .ref eD, .int 0])), (atold, .inl (kI, 60, .inl zTold)), (ns, .inl (kL, 1024, .inr (.inl zSec))), (nf, .inl (kL, 1024, .inr (.inl zFir))), (nm, .inl (kI, 12, .inl (fun _ => 0))), (nl, .inl (kI, 12, .inl (fun _ => 0))), (n1, .inl (kI, 12, .inl (fun _ => 0))), (n2, .inl (kI, 12, .inl (fun _ => 0))), (apsl, .inl (kL, 512, .inr (.inl (fun _ => 0)))), (azsl, .inl (kL, 0, .inr (.inl (fun _ => 0)))), (mm, .inr (21, [.int 0, .ref ms, .ref mt, .ref mh, .ref me])), (ms, .inr (1, [.int 0, .ref eD, .int 0])), (mt, .inr (1, [.int mo, .ref ma, .int 3])), (mh, .inr (1, [.int 0, .ref eD, .int 0])), (me, .inr (1, [.int 0, .ref eD, .int 0])), (ma, .inl (kO, 10, .inr (.inr (.inr (.inr (zfT t0 t1 t2)))))), (t0, .inr (18, [.int (-1), .ref i0])), (t1, .inr (18, [.int (-2), .ref i1])), (t2, .inr (18, [.int (-3), .ref i2])), (i0, .inl (kT, 0, .inr (.inr (.inr (.inr (fun _ => none)))))), (i1, .inl (kT, 0, .inr (.inr (.inr (.inr (fun _ => none)))))), (i2, .inl (kT, 0, .inr (.inr (.inr (.inr (fun _ => none)))))), (ou, .inl (kL, 1, .inr (.inl fo)))] H) (hD : va_D A [(hh, .inr (13, [.ref aexpr, .ref achoo, .ref ameth, .ref aroom, .ref anod, .ref asort, .ref anote, .ref amet, .int 0, .int 1])), (achoo, .inr (3, [.ref aroom, .ref ameth, .ref acand, .ref ahint, .int 0, .int (-1), .int 0, .int 0, .null])), (aroom, .inr (9, [.ref asort, .ref anod, .ref atold, .int 3, .ref aheld, .int 0, .ref apair, .ref astep, .int 0, .int 0, .int (-1), .int 0, .int 0, .ref asize])), (anod, .inr (7, [.ref nm, .ref nl, .ref n1, .ref n2, .ref nf, .ref ns, .ref nh, .ref nk, .ref np, .int 16, .int 0, .int 16, .int 0, .int 0])), (apair, .inr (8, [.ref apsl, .int 0, .int 0])), (asize, .inr (10, [.ref azsl, .int 0])), (anote, .inr (5, [.ref af1, .ref af2, .ref af3, .int 0])), (aexpr, .inr (1, [.int 0, .ref eD, .int 0])), (ameth, .inr (1, [.int 0, .ref eD, .int 0])), (asort, .inr (1, [.int 0, .ref eD, .int 0])), (astep, .inr (1, [.int 0, .ref eD, .int 0])), (atold, .inl (kI, 60, .inl zTold)), (ns, .inl (kL, 1024, .inr (.inl zSec))), (nf, .inl (kL, 1024, .inr (.inl zFir))), (nm, .inl (kI, 12, .inl (fun _ => 0))), (nl, .inl (kI, 12, .inl (fun _ => 0))), (n1, .inl (kI, 12, .inl (fun _ => 0))), (n2, .inl (kI, 12, .inl (fun _ => 0))), (apsl, .inl (kL, 512, .inr (.inl (fun _ => 0)))), (azsl, .inl (kL, 0, .inr (.inl (fun _ => 0)))), (mm, .inr (21, [.int 0, .ref ms, .ref mt, .ref mh, .ref me])), (ms, .inr (1, [.int 0, .ref eD, .int 0])), (mt, .inr (1, [.int mo, .ref ma, .int 3])), (mh, .inr (1, [.int 0, .ref eD, .int 0])), (me, .inr (1, [.int 0, .ref eD, .int 0])), (ma, .inl (kO, 10, .inr (.inr (.inr (.inr (zfT t0 t1 t2)))))), (t0, .inr (18, [.int (-1), .ref i0])), (t1, .inr (18, [.int (-2), .ref i1])), (t2, .inr (18, [.int (-3), .ref i2])), (i0, .inl (kT, 0, .inr (.inr (.inr (.inr (fun _ => none)))))), (i1, .inl (kT, 0, .inr (.inr (.inr (.inr (fun _ => none)))))), (i2, .inl (kT, 0, .inr (.inr (.inr (.inr (fun _ => none)))))), (ou, .inl (kL, 1, .inr (.inl fo)))]) (hK : va_K (dC, dI) vwCl [(kI, .int), (kL, .long), (kO, .object "java/lang/Object"), (kT, .object "HornbookModel$Tree")] s) (hS : va_S A s.heap H locs) (hl : lv_has ls 9 [(4, .int 0), (3, .ref ou), (2, .ref mm), (1, .ref hh), (0, .ref b)]) : W p l e room_1 s m #[Value.ref b] below meth c H locs 74 3613 (lw_Z below #[Value.ref b] s) (F0 m 1224 ls []) := by
  obtain ⟨hfl, hx, hb, hr, hml, hown, hts, hX, hbl, hbA, hlocks, hE, hA, hAs, hDc⟩ := id Z
  have in_RJx4a65c := zin_RJx4a65c
  have in_RX10 := zin_RX10
  have in_RX11 := zin_RX11
  have in_RX16 := zin_RX16
  have in_RX17 := zin_RX17
  have in_RX19 := zin_RX19
  have in_RX5 := zin_RX5
  have in_RX6 := zin_RX6
  have in_RX7 := zin_RX7
  have in_RX8 := zin_RX8
  refine lv_aload_n hx hb dL_law_1224 rfl (lv_at hl 3 rfl) ?_
  refine lv_aload_n hx hb dL_law_1225 rfl (lv_at hl 4 rfl) ?_
  refine lv_iload hx hb dL_law_1226 (lv_at hl 0 rfl) ?_
  refine lv_iconst (v := 1) hx hb dL_law_1228 (by decide) ?_
  refine lv_iadd hx hb dL_law_1229 ?_
  refine z_top (v' := .int 1) (congrArg Value.int (by decide)) ?_
  refine va_sld hx hb hX hbl hbA hS (by unfold vp_in; decide) dL_law_1230 ?_
  refine z_top (v' := .int y1) (congrArg Value.int hy1) ?_
  refine lv_aload_n hx hb dL_law_1231 rfl (lv_at hl 4 rfl) ?_
  refine lv_iload hx hb dL_law_1232 (lv_at hl 0 rfl) ?_
  refine lv_iconst (v := 2) hx hb dL_law_1234 (by decide) ?_
  refine lv_iadd hx hb dL_law_1235 ?_
  refine z_top (v' := .int 2) (congrArg Value.int (by decide)) ?_
  refine va_sld hx hb hX hbl hbA hS (by unfold vp_in; decide) dL_law_1236 ?_
  refine z_top (v' := .int y2) (congrArg Value.int hy2) ?_
  refine lv_aload_n hx hb dL_law_1237 rfl (lv_at hl 4 rfl) ?_
  refine lv_iload hx hb dL_law_1238 (lv_at hl 0 rfl) ?_
  refine lv_iconst (v := 3) hx hb dL_law_1240 (by decide) ?_
  refine lv_iadd hx hb dL_law_1241 ?_
  refine z_top (v' := .int 3) (congrArg Value.int (by decide)) ?_
  refine va_sld hx hb hX hbl hbA hS (by unfold vp_in; decide) dL_law_1242 ?_
  refine z_top (v' := .int y3) (congrArg Value.int hy3) ?_
  refine lv_aload_n hx hb dL_law_1243 rfl (lv_at hl 1 rfl) ?_
  refine zx_i (wr := [(achoo, .inr (3, [.ref aroom, .ref ameth, .ref acand, .ref ahint, .int 0, .int (-1), .int 0, .int 0, .null])), (anote, .inr (5, [.ref af1, .ref af2, .ref af3, .int 0])), (aexpr, .inr (1, [.int 0, .ref eD, .int 0])), (ameth, .inr (1, [.int 0, .ref eD, .int 0])), (nf, .inl (kL, 1024, .inr (.inl zFir))), (nm, .inl (kI, 12, .inl (fun _ => 0))), (nl, .inl (kI, 12, .inl (fun _ => 0))), (n1, .inl (kI, 12, .inl (fun _ => 0))), (n2, .inl (kI, 12, .inl (fun _ => 0))), (mm, .inr (21, [.int 0, .ref ms, .ref mt, .ref mh, .ref me])), (ms, .inr (1, [.int 0, .ref eD, .int 0])), (mt, .inr (1, [.int mo, .ref ma, .int 3])), (mh, .inr (1, [.int 0, .ref eD, .int 0])), (me, .inr (1, [.int 0, .ref eD, .int 0])), (ma, .inl (kO, 10, .inr (.inr (.inr (.inr (zfT t0 t1 t2)))))), (t0, .inr (18, [.int (-1), .ref i0])), (t1, .inr (18, [.int (-2), .ref i1])), (t2, .inr (18, [.int (-3), .ref i2])), (i0, .inl (kT, 0, .inr (.inr (.inr (.inr (fun _ => none)))))), (i1, .inl (kT, 0, .inr (.inr (.inr (.inr (fun _ => none)))))), (i2, .inl (kT, 0, .inr (.inr (.inr (.inr (fun _ => none))))))]) (vx_runSX (As := [.ref hh, .int y1, .int y2, .int y3, .ref ou]) (rest := []) ⟨hx, hb, hml, hown, hts⟩ (c_L_join l hfl eD eI ad dC dI H.size hh aexpr achoo ameth aroom anod asort anote amet atold aheld apair astep asize nm nl n1 n2 nf ns nh nk np apsl azsl ou kI kL y1 y2 y3 fo) (vx_cwSW 5 hts gl_c_L_join rfl rfl rfl (by decide +kernel) ⟨Nat.le_of_ble_eq_true rfl, Nat.le_of_ble_eq_true rfl⟩) (z_preSD (wc := [(hh, .inr (13, [.ref aexpr, .ref achoo, .ref ameth, .ref aroom, .ref anod, .ref asort, .ref anote, .ref amet, .int 0, .int 1])), (aroom, .inr (9, [.ref asort, .ref anod, .ref atold, .int 3, .ref aheld, .int 0, .ref apair, .ref astep, .int 0, .int 0, .int (-1), .int 0, .int 0, .ref asize])), (atold, .inl (kI, 60, .inl zTold)), (anod, .inr (7, [.ref nm, .ref nl, .ref n1, .ref n2, .ref nf, .ref ns, .ref nh, .ref nk, .ref np, .int 16, .int 0, .int 16, .int 0, .int 0])), (ns, .inl (kL, 1024, .inr (.inl zSec))), (asort, .inr (1, [.int 0, .ref eD, .int 0])), (astep, .inr (1, [.int 0, .ref eD, .int 0])), (apair, .inr (8, [.ref apsl, .int 0, .int 0])), (apsl, .inl (kL, 512, .inr (.inl (fun _ => 0)))), (asize, .inr (10, [.ref azsl, .int 0])), (azsl, .inl (kL, 0, .inr (.inl (fun _ => 0)))), (ou, .inl (kL, 1, .inr (.inl fo)))]) hP hD hK hS hA hE [0, 2, 11, 3, 12, 9, 10, 4, 18, 5, 19, 32] [0, 1] rfl (by decide) rfl hDc) rfl rfl hl.1 rfl (lv_room (Nat.le_of_ble_eq_true rfl)) dL_law_1244 ⟨Nat.le_of_ble_eq_true rfl, Nat.le_of_ble_eq_true rfl⟩) hP hD hK hS hA [0, 2, 11, 3, 12, 9, 10, 4, 18, 5, 19, 32] [1, 6, 7, 8, 13, 14, 15, 16, 17, 20, 21, 22, 23, 24, 25, 26, 27, 28, 29, 30, 31] rfl rfl (by decide) (by decide) (fun E ce q9 H locs hbad hP hD hS h91 h92 h93 => ?_) (fun r_3 u H locs hw_4 hP hD hK hS => ?_)
  · exact absurd hbad id
  obtain ⟨u_1, u_2⟩ := u
  have hP : va_P (dC, dI) vwCl [(achoo, .inr (3, [.ref aroom, .ref ameth, .ref acand, .ref ahint, .int 0, .int (-1), .int 0, .int 0, .null])), (anote, .inr (5, [.ref af1, .ref af2, .ref af3, .int 0])), (aexpr, .inr (1, [.int 0, .ref eD, .int 0])), (ameth, .inr (1, [.int 0, .ref eD, .int 0])), (nf, .inl (kL, 1024, .inr (.inl zFir))), (nm, .inl (kI, 12, .inl (fun _ => 0))), (nl, .inl (kI, 12, .inl (fun _ => 0))), (n1, .inl (kI, 12, .inl (fun _ => 0))), (n2, .inl (kI, 12, .inl (fun _ => 0))), (mm, .inr (21, [.int 0, .ref ms, .ref mt, .ref mh, .ref me])), (ms, .inr (1, [.int 0, .ref eD, .int 0])), (mt, .inr (1, [.int mo, .ref ma, .int 3])), (mh, .inr (1, [.int 0, .ref eD, .int 0])), (me, .inr (1, [.int 0, .ref eD, .int 0])), (ma, .inl (kO, 10, .inr (.inr (.inr (.inr (zfT t0 t1 t2)))))), (t0, .inr (18, [.int (-1), .ref i0])), (t1, .inr (18, [.int (-2), .ref i1])), (t2, .inr (18, [.int (-3), .ref i2])), (i0, .inl (kT, 0, .inr (.inr (.inr (.inr (fun _ => none)))))), (i1, .inl (kT, 0, .inr (.inr (.inr (.inr (fun _ => none)))))), (i2, .inl (kT, 0, .inr (.inr (.inr (.inr (fun _ => none)))))), (ou, .inl (kL, 1, .inr (.inl u_2)))] H := hP
  have hD : va_D A [(achoo, .inr (3, [.ref aroom, .ref ameth, .ref acand, .ref ahint, .int 0, .int (-1), .int 0, .int 0, .null])), (anote, .inr (5, [.ref af1, .ref af2, .ref af3, .int 0])), (aexpr, .inr (1, [.int 0, .ref eD, .int 0])), (ameth, .inr (1, [.int 0, .ref eD, .int 0])), (nf, .inl (kL, 1024, .inr (.inl zFir))), (nm, .inl (kI, 12, .inl (fun _ => 0))), (nl, .inl (kI, 12, .inl (fun _ => 0))), (n1, .inl (kI, 12, .inl (fun _ => 0))), (n2, .inl (kI, 12, .inl (fun _ => 0))), (mm, .inr (21, [.int 0, .ref ms, .ref mt, .ref mh, .ref me])), (ms, .inr (1, [.int 0, .ref eD, .int 0])), (mt, .inr (1, [.int mo, .ref ma, .int 3])), (mh, .inr (1, [.int 0, .ref eD, .int 0])), (me, .inr (1, [.int 0, .ref eD, .int 0])), (ma, .inl (kO, 10, .inr (.inr (.inr (.inr (zfT t0 t1 t2)))))), (t0, .inr (18, [.int (-1), .ref i0])), (t1, .inr (18, [.int (-2), .ref i1])), (t2, .inr (18, [.int (-3), .ref i2])), (i0, .inl (kT, 0, .inr (.inr (.inr (.inr (fun _ => none)))))), (i1, .inl (kT, 0, .inr (.inr (.inr (.inr (fun _ => none)))))), (i2, .inl (kT, 0, .inr (.inr (.inr (.inr (fun _ => none)))))), (ou, .inl (kL, 1, .inr (.inl u_2)))] := hD
  have hK : va_K (dC, dI) vwCl [(kI, .int), (kL, .long), (kO, .object "java/lang/Object"), (kT, .object "HornbookModel$Tree"), (kL, .long)] s := hK
  have hw_4 : r_3 = u_1 ∧ u_1 = (if y1 < 0 ∨ 2 < y1 ∨ y2 < 0 ∨ 2 < y2 then 1 else 0) ∧ (u_1 = 0 → u_2 (0 : Int32).toNatClampNeg = ((if y3 = 0 then (if y1 = y2 ∨ y1 = 1 ∨ y2 = 0 then -1 - y2 else -1 - y1) else (-9)) : Int32).toInt64) := hw_4
  obtain ⟨hw_4, hp_5, hp_6⟩ := hw_4
  have hw_4 := hw_4.symm
  subst hw_4
  refine lv_istore (lv' := [(5, .int u_1), (4, .int 0), (3, .ref ou), (2, .ref mm), (1, .ref hh), (0, .ref b)]) hx hb dL_law_1247 hl (by decide) rfl (fun ls hl => ?_)
  refine lv_aload_n hx hb dL_law_1249 rfl (lv_at hl 3 rfl) ?_
  refine lv_aload_n hx hb dL_law_1250 rfl (lv_at hl 5 rfl) ?_
  refine lv_iload hx hb dL_law_1251 (lv_at hl 1 rfl) ?_
  refine lv_iconst (v := 1) hx hb dL_law_1253 (by decide) ?_
  refine lv_iadd hx hb dL_law_1254 ?_
  refine z_top (v' := .int 1) (congrArg Value.int (by decide)) ?_
  refine va_sld hx hb hX hbl hbA hS (by unfold vp_in; decide) dL_law_1255 ?_
  refine z_top (v' := .int y1) (congrArg Value.int hy1) ?_
  refine lv_aload_n hx hb dL_law_1256 rfl (lv_at hl 5 rfl) ?_
  refine lv_iload hx hb dL_law_1257 (lv_at hl 1 rfl) ?_
  refine lv_iconst (v := 2) hx hb dL_law_1259 (by decide) ?_
  refine lv_iadd hx hb dL_law_1260 ?_
  refine z_top (v' := .int 2) (congrArg Value.int (by decide)) ?_
  refine va_sld hx hb hX hbl hbA hS (by unfold vp_in; decide) dL_law_1261 ?_
  refine z_top (v' := .int y2) (congrArg Value.int hy2) ?_
  refine lv_aload_n hx hb dL_law_1262 rfl (lv_at hl 5 rfl) ?_
  refine lv_iload hx hb dL_law_1263 (lv_at hl 1 rfl) ?_
  refine lv_iconst (v := 3) hx hb dL_law_1265 (by decide) ?_
  refine lv_iadd hx hb dL_law_1266 ?_
  refine z_top (v' := .int 3) (congrArg Value.int (by decide)) ?_
  refine va_sld hx hb hX hbl hbA hS (by unfold vp_in; decide) dL_law_1267 ?_
  refine z_top (v' := .int y3) (congrArg Value.int hy3) ?_
  refine z_i (wr := [(achoo, .inr (3, [.ref aroom, .ref ameth, .ref acand, .ref ahint, .int 0, .int (-1), .int 0, .int 0, .null])), (anote, .inr (5, [.ref af1, .ref af2, .ref af3, .int 0])), (aexpr, .inr (1, [.int 0, .ref eD, .int 0])), (ameth, .inr (1, [.int 0, .ref eD, .int 0])), (nf, .inl (kL, 1024, .inr (.inl zFir))), (nm, .inl (kI, 12, .inl (fun _ => 0))), (nl, .inl (kI, 12, .inl (fun _ => 0))), (n1, .inl (kI, 12, .inl (fun _ => 0))), (n2, .inl (kI, 12, .inl (fun _ => 0))), (ou, .inl (kL, 1, .inr (.inl u_2)))]) (va_runV (As := [.int y1, .int y2, .int y3]) (rest := []) ⟨hx, hb, hml, hown, hts⟩ (c_M_join l eD eI ad dC dI H.size mm ms mt mh me mo ma kO kT t0 t1 t2 i0 i1 i2 0 y1 y2 y3) (cwV 3 hts gl_c_M_join rfl rfl rfl (by decide +kernel) ⟨Nat.le_of_ble_eq_true rfl, Nat.le_of_ble_eq_true rfl⟩) (z_preV (wc := [(mm, .inr (21, [.int 0, .ref ms, .ref mt, .ref mh, .ref me])), (ms, .inr (1, [.int 0, .ref eD, .int 0])), (mt, .inr (1, [.int mo, .ref ma, .int 3])), (mh, .inr (1, [.int 0, .ref eD, .int 0])), (me, .inr (1, [.int 0, .ref eD, .int 0])), (ma, .inl (kO, 10, .inr (.inr (.inr (.inr (zfT t0 t1 t2)))))), (t0, .inr (18, [.int (-1), .ref i0])), (t1, .inr (18, [.int (-2), .ref i1])), (t2, .inr (18, [.int (-3), .ref i2])), (i0, .inl (kT, 0, .inr (.inr (.inr (.inr (fun _ => none)))))), (i1, .inl (kT, 0, .inr (.inr (.inr (.inr (fun _ => none)))))), (i2, .inl (kT, 0, .inr (.inr (.inr (.inr (fun _ => none))))))]) hP hD hK hS hA hE [9, 10, 11, 12, 13, 14, 15, 16, 17, 18, 19, 20] [2, 3] rfl (by decide) rfl (ci := 21) (q0 := 0) rfl rfl) rfl rfl hl.1 rfl (lv_room (Nat.le_of_ble_eq_true rfl)) dL_law_1268 ⟨Nat.le_of_ble_eq_true rfl, Nat.le_of_ble_eq_true rfl⟩) hP hD hK hS hA [9, 10, 11, 12, 13, 14, 15, 16, 17, 18, 19, 20] [0, 1, 2, 3, 4, 5, 6, 7, 8, 21] rfl rfl (by decide) (by decide) (fun r_9 u H locs hw_10 hP hD hK hS => ?_)
  obtain ⟨u_7, u_8⟩ := u
  have hP : va_P (dC, dI) vwCl [(achoo, .inr (3, [.ref aroom, .ref ameth, .ref acand, .ref ahint, .int 0, .int (-1), .int 0, .int 0, .null])), (anote, .inr (5, [.ref af1, .ref af2, .ref af3, .int 0])), (aexpr, .inr (1, [.int 0, .ref eD, .int 0])), (ameth, .inr (1, [.int 0, .ref eD, .int 0])), (nf, .inl (kL, 1024, .inr (.inl zFir))), (nm, .inl (kI, 12, .inl (fun _ => 0))), (nl, .inl (kI, 12, .inl (fun _ => 0))), (n1, .inl (kI, 12, .inl (fun _ => 0))), (n2, .inl (kI, 12, .inl (fun _ => 0))), (ou, .inl (kL, 1, .inr (.inl u_2))), (mm, .inr (21, [.int u_7, .ref ms, .ref mt, .ref mh, .ref me]))] H := hP
  have hD : va_D A [(achoo, .inr (3, [.ref aroom, .ref ameth, .ref acand, .ref ahint, .int 0, .int (-1), .int 0, .int 0, .null])), (anote, .inr (5, [.ref af1, .ref af2, .ref af3, .int 0])), (aexpr, .inr (1, [.int 0, .ref eD, .int 0])), (ameth, .inr (1, [.int 0, .ref eD, .int 0])), (nf, .inl (kL, 1024, .inr (.inl zFir))), (nm, .inl (kI, 12, .inl (fun _ => 0))), (nl, .inl (kI, 12, .inl (fun _ => 0))), (n1, .inl (kI, 12, .inl (fun _ => 0))), (n2, .inl (kI, 12, .inl (fun _ => 0))), (ou, .inl (kL, 1, .inr (.inl u_2))), (mm, .inr (21, [.int u_7, .ref ms, .ref mt, .ref mh, .ref me]))] := hD
  have hK : va_K (dC, dI) vwCl [(kI, .int), (kL, .long), (kO, .object "java/lang/Object"), (kT, .object "HornbookModel$Tree"), (kL, .long)] s := by simpa using hK
  have hw_10 : r_9 = u_8 ∧ u_7 = (if y1 < 0 ∨ 2 < y1 ∨ y2 < 0 ∨ 2 < y2 then 1 else 0) ∧ (u_7 = 0 → u_8 = (if y3 = 0 then (if y1 = y2 ∨ y1 = 1 ∨ y2 = 0 then -1 - y2 else -1 - y1) else (-9))) := hw_10
  obtain ⟨hw_10, hp_11, hp_12⟩ := hw_10
  have hw_10 := hw_10.symm
  subst hw_10
  refine lv_istore (lv' := [(6, .int u_8), (5, .int u_1), (4, .int 0), (3, .ref ou), (2, .ref mm), (1, .ref hh), (0, .ref b)]) hx hb dL_law_1271 hl (by decide) rfl (fun ls hl => ?_)
  have hk9 : u_1 = u_7 := hp_5.trans hp_11.symm
  subst hk9
  refine lv_aload_n hx hb dL_law_1273 rfl (lv_at hl 4 rfl) ?_
  refine z_i (wr := [(achoo, .inr (3, [.ref aroom, .ref ameth, .ref acand, .ref ahint, .int 0, .int (-1), .int 0, .int 0, .null])), (anote, .inr (5, [.ref af1, .ref af2, .ref af3, .int 0])), (aexpr, .inr (1, [.int 0, .ref eD, .int 0])), (ameth, .inr (1, [.int 0, .ref eD, .int 0])), (nf, .inl (kL, 1024, .inr (.inl zFir))), (nm, .inl (kI, 12, .inl (fun _ => 0))), (nl, .inl (kI, 12, .inl (fun _ => 0))), (n1, .inl (kI, 12, .inl (fun _ => 0))), (n2, .inl (kI, 12, .inl (fun _ => 0))), (ou, .inl (kL, 1, .inr (.inl u_2)))]) (va_runV (As := []) (rest := []) ⟨hx, hb, hml, hown, hts⟩ (c_M_thrown l eD eI ad dC dI H.size mm ((.ref ms)) ((.ref mt)) ((.ref mh)) ((.ref me)) u_1) (cwV 0 hts gl_c_M_thrown rfl rfl rfl (by decide +kernel) ⟨Nat.le_of_ble_eq_true rfl, Nat.le_of_ble_eq_true rfl⟩) (z_preV (wc := [(mm, .inr (21, [.int u_1, .ref ms, .ref mt, .ref mh, .ref me]))]) hP hD hK hS hA hE [10] [] rfl (by decide) rfl (ci := 21) (q0 := 0) rfl rfl) rfl rfl hl.1 rfl (lv_room (Nat.le_of_ble_eq_true rfl)) dL_law_1274 ⟨Nat.le_of_ble_eq_true rfl, Nat.le_of_ble_eq_true rfl⟩) hP hD hK hS hA [10] [0, 1, 2, 3, 4, 5, 6, 7, 8, 9] rfl rfl (by decide) (by decide) (fun r_13 u H locs hw_14 hP hD hK hS => ?_)
  obtain ⟨⟩ := u
  have hP : va_P (dC, dI) vwCl [(achoo, .inr (3, [.ref aroom, .ref ameth, .ref acand, .ref ahint, .int 0, .int (-1), .int 0, .int 0, .null])), (anote, .inr (5, [.ref af1, .ref af2, .ref af3, .int 0])), (aexpr, .inr (1, [.int 0, .ref eD, .int 0])), (ameth, .inr (1, [.int 0, .ref eD, .int 0])), (nf, .inl (kL, 1024, .inr (.inl zFir))), (nm, .inl (kI, 12, .inl (fun _ => 0))), (nl, .inl (kI, 12, .inl (fun _ => 0))), (n1, .inl (kI, 12, .inl (fun _ => 0))), (n2, .inl (kI, 12, .inl (fun _ => 0))), (ou, .inl (kL, 1, .inr (.inl u_2))), (mm, .inr (21, [.int u_1, .ref ms, .ref mt, .ref mh, .ref me]))] H := hP
  have hD : va_D A [(achoo, .inr (3, [.ref aroom, .ref ameth, .ref acand, .ref ahint, .int 0, .int (-1), .int 0, .int 0, .null])), (anote, .inr (5, [.ref af1, .ref af2, .ref af3, .int 0])), (aexpr, .inr (1, [.int 0, .ref eD, .int 0])), (ameth, .inr (1, [.int 0, .ref eD, .int 0])), (nf, .inl (kL, 1024, .inr (.inl zFir))), (nm, .inl (kI, 12, .inl (fun _ => 0))), (nl, .inl (kI, 12, .inl (fun _ => 0))), (n1, .inl (kI, 12, .inl (fun _ => 0))), (n2, .inl (kI, 12, .inl (fun _ => 0))), (ou, .inl (kL, 1, .inr (.inl u_2))), (mm, .inr (21, [.int u_1, .ref ms, .ref mt, .ref mh, .ref me]))] := hD
  have hK : va_K (dC, dI) vwCl [(kI, .int), (kL, .long), (kO, .object "java/lang/Object"), (kT, .object "HornbookModel$Tree"), (kL, .long)] s := by simpa using hK
  have hw_14 : r_13 = u_1 := hw_14
  have hw_14 := hw_14.symm
  subst hw_14
  refine lv_iload hx hb dL_law_1277 (lv_at hl 1 rfl) ?_
  refine lv_icmp_eq (tgt := 1284) hx hb dL_law_1279 (by decide) (fun c_15 => ?_) (fun c_15 => ?_)
  rotate_left
  · exact absurd rfl c_15
  refine lv_iload hx hb dL_law_1284 (lv_at hl 1 rfl) ?_
  refine lv_if_ne (tgt := 1301) hx hb dL_law_1286 (by decide) (fun c_16 => ?_) (fun c_16 => ?_)
  · refine lv_goto (tgt := 2196) hx hb dL_law_1301 (by decide) ?_
    exact law_tail l Z hS (lv_sub hl [2, 6] rfl) (Nat.le_of_ble_eq_true rfl) (Nat.le_of_ble_eq_true rfl)
  · refine lv_aload_n hx hb dL_law_1289 rfl (lv_at hl 3 rfl) ?_
    have hf9 := hp_6 c_16
    have hv9 := hp_12 c_16
    refine lv_iconst (v := 0) hx hb dL_law_1290 (by decide) ?_
    refine va_lald (D := (dC, dI)) hx hb hK hP 9 1 rfl rfl (by unfold vp_in; decide) dL_law_1291 ?_
    refine lv_iload hx hb dL_law_1292 (lv_at hl 0 rfl) ?_
    refine lv_i2l (v := u_8.toInt64) hx hb dL_law_1294 rfl ?_
    refine W.lcmp hx hb dL_law_1295 ?_
    refine z_top (v' := .int 0) (congrArg Value.int (by rw [hf9, hv9]; exact z_cmp0 _)) ?_
    refine lv_if_eq (tgt := 1301) hx hb dL_law_1296 (by decide) (fun c_17 => ?_) (fun c_17 => ?_)
    rotate_left
    · exact absurd (by decide) c_17
    refine lv_goto (tgt := 2196) hx hb dL_law_1301 (by decide) ?_
    exact law_tail l Z hS (lv_sub hl [2, 6] rfl) (Nat.le_of_ble_eq_true rfl) (Nat.le_of_ble_eq_true rfl)

set_option maxHeartbeats 4000000 in
set_option maxRecDepth 100000 in
theorem law_case_15 {p : Program} {e : Env} {s : State} {m : MethodId} {below : List Frame} {meth : Method} {c : Code} (l : Launch) {b : Nat} {xs : Nat → Int32} {A : Nat → Prop} {eD eI : Nat} {ad : Nat → Nat} (Z : zLaw l p s m meth c b xs A eD eI ad) (y1 : Int32) (hy1 : xs (1 : Int32).toNatClampNeg = y1) (y2 : Int32) (hy2 : xs (2 : Int32).toNatClampNeg = y2) (y3 : Int32) (hy3 : xs (3 : Int32).toNatClampNeg = y3) (y4 : Int32) (hy4 : xs (4 : Int32).toNatClampNeg = y4) (y5 : Int32) (hy5 : xs (5 : Int32).toNatClampNeg = y5) (y6 : Int32) (hy6 : xs (6 : Int32).toNatClampNeg = y6) (dC : Nat → ClassId) (dI : Nat → Nat → Nat) (hh : Nat) (aexpr : Nat) (achoo : Nat) (ameth : Nat) (aroom : Nat) (anod : Nat) (asort : Nat) (anote : Nat) (amet : Nat) (atold : Nat) (aheld : Nat) (apair : Nat) (astep : Nat) (asize : Nat) (nm : Nat) (nl : Nat) (n1 : Nat) (n2 : Nat) (nf : Nat) (ns : Nat) (nh : Nat) (nk : Nat) (np : Nat) (apsl : Nat) (azsl : Nat) (acand : Nat) (ahint : Nat) (af1 : Nat) (af2 : Nat) (af3 : Nat) (ou : Nat) (mm : Nat) (ms : Nat) (mt : Nat) (mh : Nat) (me : Nat) (ma : Nat) (t0 : Nat) (t1 : Nat) (t2 : Nat) (i0 : Nat) (i1 : Nat) (i2 : Nat) (kI : ClassId) (kL : ClassId) (kO : ClassId) (kT : ClassId) (mo : Int32) (fo : Nat → Int64) {H : Heap} {locs : List Loc} {ls : Array Slot} (hP : va_P (dC, dI) vwCl [(hh, .inr (13, [.ref aexpr, .ref achoo, .ref ameth, .ref aroom, .ref anod, .ref asort, .ref anote, .ref amet, .int 0, .int 1])), (achoo, .inr (3, [.ref aroom, .ref ameth, .ref acand, .ref ahint, .int 0, .int (-1), .int 0, .int 0, .null])), (aroom, .inr (9, [.ref asort, .ref anod, .ref atold, .int 3, .ref aheld, .int 0, .ref apair, .ref astep, .int 0, .int 0, .int (-1), .int 0, .int 0, .ref asize])), (anod, .inr (7, [.ref nm, .ref nl, .ref n1, .ref n2, .ref nf, .ref ns, .ref nh, .ref nk, .ref np, .int 16, .int 0, .int 16, .int 0, .int 0])), (apair, .inr (8, [.ref apsl, .int 0, .int 0])), (asize, .inr (10, [.ref azsl, .int 0])), (anote, .inr (5, [.ref af1, .ref af2, .ref af3, .int 0])), (aexpr, .inr (1, [.int 0, .ref eD, .int 0])), (ameth, .inr (1, [.int 0, .ref eD, .int 0])), (asort, .inr (1, [.int 0, .ref eD, .int 0])), (astep, .inr (1, [.int 0, .ref eD, .int 0])), (atold, .inl (kI, 60, .inl zTold)), (ns, .inl (kL, 1024, .inr (.inl zSec))), (nf, .inl (kL, 1024, .inr (.inl zFir))), (nm, .inl (kI, 12, .inl (fun _ => 0))), (nl, .inl (kI, 12, .inl (fun _ => 0))), (n1, .inl (kI, 12, .inl (fun _ => 0))), (n2, .inl (kI, 12, .inl (fun _ => 0))), (apsl, .inl (kL, 512, .inr (.inl (fun _ => 0)))), (azsl, .inl (kL, 0, .inr (.inl (fun _ => 0)))), (mm, .inr (21, [.int 0, .ref ms, .ref mt, .ref mh, .ref me])), (ms, .inr (1, [.int 0, .ref eD, .int 0])), (mt, .inr (1, [.int mo, .ref ma, .int 3])), (mh, .inr (1, [.int 0, .ref eD, .int 0])), (me, .inr (1, [.int 0, .ref eD, .int 0])), (ma, .inl (kO, 10, .inr (.inr (.inr (.inr (zfT t0 t1 t2)))))), (t0, .inr (18, [.int (-1), .ref i0])), (t1, .inr (18, [.int (-2), .ref i1])), (t2, .inr (18, [.int (-3), .ref i2])), (i0, .inl (kT, 0, .inr (.inr (.inr (.inr (fun _ => none)))))), (i1, .inl (kT, 0, .inr (.inr (.inr (.inr (fun _ => none)))))), (i2, .inl (kT, 0, .inr (.inr (.inr (.inr (fun _ => none)))))), (ou, .inl (kL, 1, .inr (.inl fo)))] H) (hD : va_D A [(hh, .inr (13, [.ref aexpr, .ref achoo, .ref ameth, .ref aroom, .ref anod, .ref asort, .ref anote, .ref amet, .int 0, .int 1])), (achoo, .inr (3, [.ref aroom, .ref ameth, .ref acand, .ref ahint, .int 0, .int (-1), .int 0, .int 0, .null])), (aroom, .inr (9, [.ref asort, .ref anod, .ref atold, .int 3, .ref aheld, .int 0, .ref apair, .ref astep, .int 0, .int 0, .int (-1), .int 0, .int 0, .ref asize])), (anod, .inr (7, [.ref nm, .ref nl, .ref n1, .ref n2, .ref nf, .ref ns, .ref nh, .ref nk, .ref np, .int 16, .int 0, .int 16, .int 0, .int 0])), (apair, .inr (8, [.ref apsl, .int 0, .int 0])), (asize, .inr (10, [.ref azsl, .int 0])), (anote, .inr (5, [.ref af1, .ref af2, .ref af3, .int 0])), (aexpr, .inr (1, [.int 0, .ref eD, .int 0])), (ameth, .inr (1, [.int 0, .ref eD, .int 0])), (asort, .inr (1, [.int 0, .ref eD, .int 0])), (astep, .inr (1, [.int 0, .ref eD, .int 0])), (atold, .inl (kI, 60, .inl zTold)), (ns, .inl (kL, 1024, .inr (.inl zSec))), (nf, .inl (kL, 1024, .inr (.inl zFir))), (nm, .inl (kI, 12, .inl (fun _ => 0))), (nl, .inl (kI, 12, .inl (fun _ => 0))), (n1, .inl (kI, 12, .inl (fun _ => 0))), (n2, .inl (kI, 12, .inl (fun _ => 0))), (apsl, .inl (kL, 512, .inr (.inl (fun _ => 0)))), (azsl, .inl (kL, 0, .inr (.inl (fun _ => 0)))), (mm, .inr (21, [.int 0, .ref ms, .ref mt, .ref mh, .ref me])), (ms, .inr (1, [.int 0, .ref eD, .int 0])), (mt, .inr (1, [.int mo, .ref ma, .int 3])), (mh, .inr (1, [.int 0, .ref eD, .int 0])), (me, .inr (1, [.int 0, .ref eD, .int 0])), (ma, .inl (kO, 10, .inr (.inr (.inr (.inr (zfT t0 t1 t2)))))), (t0, .inr (18, [.int (-1), .ref i0])), (t1, .inr (18, [.int (-2), .ref i1])), (t2, .inr (18, [.int (-3), .ref i2])), (i0, .inl (kT, 0, .inr (.inr (.inr (.inr (fun _ => none)))))), (i1, .inl (kT, 0, .inr (.inr (.inr (.inr (fun _ => none)))))), (i2, .inl (kT, 0, .inr (.inr (.inr (.inr (fun _ => none)))))), (ou, .inl (kL, 1, .inr (.inl fo)))]) (hK : va_K (dC, dI) vwCl [(kI, .int), (kL, .long), (kO, .object "java/lang/Object"), (kT, .object "HornbookModel$Tree")] s) (hS : va_S A s.heap H locs) (hl : lv_has ls 9 [(4, .int 0), (3, .ref ou), (2, .ref mm), (1, .ref hh), (0, .ref b)]) : W p l e room_1 s m #[Value.ref b] below meth c H locs 74 3613 (lw_Z below #[Value.ref b] s) (F0 m 1304 ls []) := by
  obtain ⟨hfl, hx, hb, hr, hml, hown, hts, hX, hbl, hbA, hlocks, hE, hA, hAs, hDc⟩ := id Z
  have in_RJx4a65c := zin_RJx4a65c
  have in_RX11 := zin_RX11
  have in_RX19 := zin_RX19
  refine lv_aload_n hx hb dL_law_1304 rfl (lv_at hl 3 rfl) ?_
  refine lv_aload_n hx hb dL_law_1305 rfl (lv_at hl 4 rfl) ?_
  refine lv_iload hx hb dL_law_1306 (lv_at hl 0 rfl) ?_
  refine lv_iconst (v := 1) hx hb dL_law_1308 (by decide) ?_
  refine lv_iadd hx hb dL_law_1309 ?_
  refine z_top (v' := .int 1) (congrArg Value.int (by decide)) ?_
  refine va_sld hx hb hX hbl hbA hS (by unfold vp_in; decide) dL_law_1310 ?_
  refine z_top (v' := .int y1) (congrArg Value.int hy1) ?_
  refine lv_aload_n hx hb dL_law_1311 rfl (lv_at hl 4 rfl) ?_
  refine lv_iload hx hb dL_law_1312 (lv_at hl 0 rfl) ?_
  refine lv_iconst (v := 2) hx hb dL_law_1314 (by decide) ?_
  refine lv_iadd hx hb dL_law_1315 ?_
  refine z_top (v' := .int 2) (congrArg Value.int (by decide)) ?_
  refine va_sld hx hb hX hbl hbA hS (by unfold vp_in; decide) dL_law_1316 ?_
  refine z_top (v' := .int y2) (congrArg Value.int hy2) ?_
  refine lv_aload_n hx hb dL_law_1317 rfl (lv_at hl 1 rfl) ?_
  refine zx_i (wr := [(achoo, .inr (3, [.ref aroom, .ref ameth, .ref acand, .ref ahint, .int 0, .int (-1), .int 0, .int 0, .null])), (aroom, .inr (9, [.ref asort, .ref anod, .ref atold, .int 3, .ref aheld, .int 0, .ref apair, .ref astep, .int 0, .int 0, .int (-1), .int 0, .int 0, .ref asize])), (anod, .inr (7, [.ref nm, .ref nl, .ref n1, .ref n2, .ref nf, .ref ns, .ref nh, .ref nk, .ref np, .int 16, .int 0, .int 16, .int 0, .int 0])), (apair, .inr (8, [.ref apsl, .int 0, .int 0])), (asize, .inr (10, [.ref azsl, .int 0])), (anote, .inr (5, [.ref af1, .ref af2, .ref af3, .int 0])), (ameth, .inr (1, [.int 0, .ref eD, .int 0])), (asort, .inr (1, [.int 0, .ref eD, .int 0])), (astep, .inr (1, [.int 0, .ref eD, .int 0])), (atold, .inl (kI, 60, .inl zTold)), (ns, .inl (kL, 1024, .inr (.inl zSec))), (nf, .inl (kL, 1024, .inr (.inl zFir))), (nm, .inl (kI, 12, .inl (fun _ => 0))), (nl, .inl (kI, 12, .inl (fun _ => 0))), (n1, .inl (kI, 12, .inl (fun _ => 0))), (n2, .inl (kI, 12, .inl (fun _ => 0))), (apsl, .inl (kL, 512, .inr (.inl (fun _ => 0)))), (azsl, .inl (kL, 0, .inr (.inl (fun _ => 0)))), (mm, .inr (21, [.int 0, .ref ms, .ref mt, .ref mh, .ref me])), (ms, .inr (1, [.int 0, .ref eD, .int 0])), (mt, .inr (1, [.int mo, .ref ma, .int 3])), (mh, .inr (1, [.int 0, .ref eD, .int 0])), (me, .inr (1, [.int 0, .ref eD, .int 0])), (ma, .inl (kO, 10, .inr (.inr (.inr (.inr (zfT t0 t1 t2)))))), (t0, .inr (18, [.int (-1), .ref i0])), (t1, .inr (18, [.int (-2), .ref i1])), (t2, .inr (18, [.int (-3), .ref i2])), (i0, .inl (kT, 0, .inr (.inr (.inr (.inr (fun _ => none)))))), (i1, .inl (kT, 0, .inr (.inr (.inr (.inr (fun _ => none)))))), (i2, .inl (kT, 0, .inr (.inr (.inr (.inr (fun _ => none))))))]) (vx_runSX (As := [.ref hh, .int y1, .int y2, .ref ou]) (rest := []) ⟨hx, hb, hml, hown, hts⟩ (c_L_line l hfl eD eI ad dC dI H.size hh aexpr achoo ameth aroom anod asort anote amet ou kL y1 y2 fo) (vx_cwSW 4 hts gl_c_L_line rfl rfl rfl (by decide +kernel) ⟨Nat.le_of_ble_eq_true rfl, Nat.le_of_ble_eq_true rfl⟩) (z_preSD (wc := [(hh, .inr (13, [.ref aexpr, .ref achoo, .ref ameth, .ref aroom, .ref anod, .ref asort, .ref anote, .ref amet, .int 0, .int 1])), (aexpr, .inr (1, [.int 0, .ref eD, .int 0])), (ou, .inl (kL, 1, .inr (.inl fo)))]) hP hD hK hS hA hE [0, 7, 32] [1] rfl (by decide) rfl hDc) rfl rfl hl.1 rfl (lv_room (Nat.le_of_ble_eq_true rfl)) dL_law_1318 ⟨Nat.le_of_ble_eq_true rfl, Nat.le_of_ble_eq_true rfl⟩) hP hD hK hS hA [0, 7, 32] [1, 2, 3, 4, 5, 6, 8, 9, 10, 11, 12, 13, 14, 15, 16, 17, 18, 19, 20, 21, 22, 23, 24, 25, 26, 27, 28, 29, 30, 31] rfl rfl (by decide) (by decide) (fun E ce q9 H locs hbad hP hD hS h91 h92 h93 => ?_) (fun r_1 u H locs hw_2 hP hD hK hS => ?_)
  · exact absurd hbad id
  obtain ⟨⟩ := u
  have hP : va_P (dC, dI) vwCl [(achoo, .inr (3, [.ref aroom, .ref ameth, .ref acand, .ref ahint, .int 0, .int (-1), .int 0, .int 0, .null])), (aroom, .inr (9, [.ref asort, .ref anod, .ref atold, .int 3, .ref aheld, .int 0, .ref apair, .ref astep, .int 0, .int 0, .int (-1), .int 0, .int 0, .ref asize])), (anod, .inr (7, [.ref nm, .ref nl, .ref n1, .ref n2, .ref nf, .ref ns, .ref nh, .ref nk, .ref np, .int 16, .int 0, .int 16, .int 0, .int 0])), (apair, .inr (8, [.ref apsl, .int 0, .int 0])), (asize, .inr (10, [.ref azsl, .int 0])), (anote, .inr (5, [.ref af1, .ref af2, .ref af3, .int 0])), (ameth, .inr (1, [.int 0, .ref eD, .int 0])), (asort, .inr (1, [.int 0, .ref eD, .int 0])), (astep, .inr (1, [.int 0, .ref eD, .int 0])), (atold, .inl (kI, 60, .inl zTold)), (ns, .inl (kL, 1024, .inr (.inl zSec))), (nf, .inl (kL, 1024, .inr (.inl zFir))), (nm, .inl (kI, 12, .inl (fun _ => 0))), (nl, .inl (kI, 12, .inl (fun _ => 0))), (n1, .inl (kI, 12, .inl (fun _ => 0))), (n2, .inl (kI, 12, .inl (fun _ => 0))), (apsl, .inl (kL, 512, .inr (.inl (fun _ => 0)))), (azsl, .inl (kL, 0, .inr (.inl (fun _ => 0)))), (mm, .inr (21, [.int 0, .ref ms, .ref mt, .ref mh, .ref me])), (ms, .inr (1, [.int 0, .ref eD, .int 0])), (mt, .inr (1, [.int mo, .ref ma, .int 3])), (mh, .inr (1, [.int 0, .ref eD, .int 0])), (me, .inr (1, [.int 0, .ref eD, .int 0])), (ma, .inl (kO, 10, .inr (.inr (.inr (.inr (zfT t0 t1 t2)))))), (t0, .inr (18, [.int (-1), .ref i0])), (t1, .inr (18, [.int (-2), .ref i1])), (t2, .inr (18, [.int (-3), .ref i2])), (i0, .inl (kT, 0, .inr (.inr (.inr (.inr (fun _ => none)))))), (i1, .inl (kT, 0, .inr (.inr (.inr (.inr (fun _ => none)))))), (i2, .inl (kT, 0, .inr (.inr (.inr (.inr (fun _ => none)))))), (ou, .inl (kL, 1, .inr (.inl fo)))] H := hP
  have hD : va_D A [(achoo, .inr (3, [.ref aroom, .ref ameth, .ref acand, .ref ahint, .int 0, .int (-1), .int 0, .int 0, .null])), (aroom, .inr (9, [.ref asort, .ref anod, .ref atold, .int 3, .ref aheld, .int 0, .ref apair, .ref astep, .int 0, .int 0, .int (-1), .int 0, .int 0, .ref asize])), (anod, .inr (7, [.ref nm, .ref nl, .ref n1, .ref n2, .ref nf, .ref ns, .ref nh, .ref nk, .ref np, .int 16, .int 0, .int 16, .int 0, .int 0])), (apair, .inr (8, [.ref apsl, .int 0, .int 0])), (asize, .inr (10, [.ref azsl, .int 0])), (anote, .inr (5, [.ref af1, .ref af2, .ref af3, .int 0])), (ameth, .inr (1, [.int 0, .ref eD, .int 0])), (asort, .inr (1, [.int 0, .ref eD, .int 0])), (astep, .inr (1, [.int 0, .ref eD, .int 0])), (atold, .inl (kI, 60, .inl zTold)), (ns, .inl (kL, 1024, .inr (.inl zSec))), (nf, .inl (kL, 1024, .inr (.inl zFir))), (nm, .inl (kI, 12, .inl (fun _ => 0))), (nl, .inl (kI, 12, .inl (fun _ => 0))), (n1, .inl (kI, 12, .inl (fun _ => 0))), (n2, .inl (kI, 12, .inl (fun _ => 0))), (apsl, .inl (kL, 512, .inr (.inl (fun _ => 0)))), (azsl, .inl (kL, 0, .inr (.inl (fun _ => 0)))), (mm, .inr (21, [.int 0, .ref ms, .ref mt, .ref mh, .ref me])), (ms, .inr (1, [.int 0, .ref eD, .int 0])), (mt, .inr (1, [.int mo, .ref ma, .int 3])), (mh, .inr (1, [.int 0, .ref eD, .int 0])), (me, .inr (1, [.int 0, .ref eD, .int 0])), (ma, .inl (kO, 10, .inr (.inr (.inr (.inr (zfT t0 t1 t2)))))), (t0, .inr (18, [.int (-1), .ref i0])), (t1, .inr (18, [.int (-2), .ref i1])), (t2, .inr (18, [.int (-3), .ref i2])), (i0, .inl (kT, 0, .inr (.inr (.inr (.inr (fun _ => none)))))), (i1, .inl (kT, 0, .inr (.inr (.inr (.inr (fun _ => none)))))), (i2, .inl (kT, 0, .inr (.inr (.inr (.inr (fun _ => none)))))), (ou, .inl (kL, 1, .inr (.inl fo)))] := hD
  have hK : va_K (dC, dI) vwCl [(kI, .int), (kL, .long), (kO, .object "java/lang/Object"), (kT, .object "HornbookModel$Tree"), (kL, .long)] s := hK
  have hw_2 : r_1 = 1 := hw_2
  have hw_2 := hw_2.symm
  subst hw_2
  refine lv_istore (lv' := [(5, .int 1), (4, .int 0), (3, .ref ou), (2, .ref mm), (1, .ref hh), (0, .ref b)]) hx hb dL_law_1321 hl (by decide) rfl (fun ls hl => ?_)
  refine lv_aload_n hx hb dL_law_1323 rfl (lv_at hl 3 rfl) ?_
  refine lv_aload_n hx hb dL_law_1324 rfl (lv_at hl 5 rfl) ?_
  refine lv_iload hx hb dL_law_1325 (lv_at hl 1 rfl) ?_
  refine lv_iconst (v := 1) hx hb dL_law_1327 (by decide) ?_
  refine lv_iadd hx hb dL_law_1328 ?_
  refine z_top (v' := .int 1) (congrArg Value.int (by decide)) ?_
  refine va_sld hx hb hX hbl hbA hS (by unfold vp_in; decide) dL_law_1329 ?_
  refine z_top (v' := .int y1) (congrArg Value.int hy1) ?_
  refine lv_aload_n hx hb dL_law_1330 rfl (lv_at hl 5 rfl) ?_
  refine lv_iload hx hb dL_law_1331 (lv_at hl 1 rfl) ?_
  refine lv_iconst (v := 2) hx hb dL_law_1333 (by decide) ?_
  refine lv_iadd hx hb dL_law_1334 ?_
  refine z_top (v' := .int 2) (congrArg Value.int (by decide)) ?_
  refine va_sld hx hb hX hbl hbA hS (by unfold vp_in; decide) dL_law_1335 ?_
  refine z_top (v' := .int y2) (congrArg Value.int hy2) ?_
  refine z_i (wr := [(achoo, .inr (3, [.ref aroom, .ref ameth, .ref acand, .ref ahint, .int 0, .int (-1), .int 0, .int 0, .null])), (aroom, .inr (9, [.ref asort, .ref anod, .ref atold, .int 3, .ref aheld, .int 0, .ref apair, .ref astep, .int 0, .int 0, .int (-1), .int 0, .int 0, .ref asize])), (anod, .inr (7, [.ref nm, .ref nl, .ref n1, .ref n2, .ref nf, .ref ns, .ref nh, .ref nk, .ref np, .int 16, .int 0, .int 16, .int 0, .int 0])), (apair, .inr (8, [.ref apsl, .int 0, .int 0])), (asize, .inr (10, [.ref azsl, .int 0])), (anote, .inr (5, [.ref af1, .ref af2, .ref af3, .int 0])), (ameth, .inr (1, [.int 0, .ref eD, .int 0])), (asort, .inr (1, [.int 0, .ref eD, .int 0])), (astep, .inr (1, [.int 0, .ref eD, .int 0])), (atold, .inl (kI, 60, .inl zTold)), (ns, .inl (kL, 1024, .inr (.inl zSec))), (nf, .inl (kL, 1024, .inr (.inl zFir))), (nm, .inl (kI, 12, .inl (fun _ => 0))), (nl, .inl (kI, 12, .inl (fun _ => 0))), (n1, .inl (kI, 12, .inl (fun _ => 0))), (n2, .inl (kI, 12, .inl (fun _ => 0))), (apsl, .inl (kL, 512, .inr (.inl (fun _ => 0)))), (azsl, .inl (kL, 0, .inr (.inl (fun _ => 0)))), (ou, .inl (kL, 1, .inr (.inl fo)))]) (va_runV (As := [.int y1, .int y2]) (rest := []) ⟨hx, hb, hml, hown, hts⟩ (c_M_line l eD eI ad dC dI H.size mm ms mt mh me mo ma kO kT t0 t1 t2 i0 i1 i2 0 y1 y2) (cwV 2 hts gl_c_M_line rfl rfl rfl (by decide +kernel) ⟨Nat.le_of_ble_eq_true rfl, Nat.le_of_ble_eq_true rfl⟩) (z_preV (wc := [(mm, .inr (21, [.int 0, .ref ms, .ref mt, .ref mh, .ref me])), (ms, .inr (1, [.int 0, .ref eD, .int 0])), (mt, .inr (1, [.int mo, .ref ma, .int 3])), (mh, .inr (1, [.int 0, .ref eD, .int 0])), (me, .inr (1, [.int 0, .ref eD, .int 0])), (ma, .inl (kO, 10, .inr (.inr (.inr (.inr (zfT t0 t1 t2)))))), (t0, .inr (18, [.int (-1), .ref i0])), (t1, .inr (18, [.int (-2), .ref i1])), (t2, .inr (18, [.int (-3), .ref i2])), (i0, .inl (kT, 0, .inr (.inr (.inr (.inr (fun _ => none)))))), (i1, .inl (kT, 0, .inr (.inr (.inr (.inr (fun _ => none)))))), (i2, .inl (kT, 0, .inr (.inr (.inr (.inr (fun _ => none))))))]) hP hD hK hS hA hE [18, 19, 20, 21, 22, 23, 24, 25, 26, 27, 28, 29] [2, 3] rfl (by decide) rfl (ci := 21) (q0 := 0) rfl rfl) rfl rfl hl.1 rfl (lv_room (Nat.le_of_ble_eq_true rfl)) dL_law_1336 ⟨Nat.le_of_ble_eq_true rfl, Nat.le_of_ble_eq_true rfl⟩) hP hD hK hS hA [18, 19, 20, 21, 22, 23, 24, 25, 26, 27, 28, 29] [0, 1, 2, 3, 4, 5, 6, 7, 8, 9, 10, 11, 12, 13, 14, 15, 16, 17, 30] rfl rfl (by decide) (by decide) (fun r_5 u H locs hw_6 hP hD hK hS => ?_)
  obtain ⟨u_3, u_4⟩ := u
  have hP : va_P (dC, dI) vwCl [(achoo, .inr (3, [.ref aroom, .ref ameth, .ref acand, .ref ahint, .int 0, .int (-1), .int 0, .int 0, .null])), (aroom, .inr (9, [.ref asort, .ref anod, .ref atold, .int 3, .ref aheld, .int 0, .ref apair, .ref astep, .int 0, .int 0, .int (-1), .int 0, .int 0, .ref asize])), (anod, .inr (7, [.ref nm, .ref nl, .ref n1, .ref n2, .ref nf, .ref ns, .ref nh, .ref nk, .ref np, .int 16, .int 0, .int 16, .int 0, .int 0])), (apair, .inr (8, [.ref apsl, .int 0, .int 0])), (asize, .inr (10, [.ref azsl, .int 0])), (anote, .inr (5, [.ref af1, .ref af2, .ref af3, .int 0])), (ameth, .inr (1, [.int 0, .ref eD, .int 0])), (asort, .inr (1, [.int 0, .ref eD, .int 0])), (astep, .inr (1, [.int 0, .ref eD, .int 0])), (atold, .inl (kI, 60, .inl zTold)), (ns, .inl (kL, 1024, .inr (.inl zSec))), (nf, .inl (kL, 1024, .inr (.inl zFir))), (nm, .inl (kI, 12, .inl (fun _ => 0))), (nl, .inl (kI, 12, .inl (fun _ => 0))), (n1, .inl (kI, 12, .inl (fun _ => 0))), (n2, .inl (kI, 12, .inl (fun _ => 0))), (apsl, .inl (kL, 512, .inr (.inl (fun _ => 0)))), (azsl, .inl (kL, 0, .inr (.inl (fun _ => 0)))), (ou, .inl (kL, 1, .inr (.inl fo))), (mm, .inr (21, [.int u_3, .ref ms, .ref mt, .ref mh, .ref me]))] H := hP
  have hD : va_D A [(achoo, .inr (3, [.ref aroom, .ref ameth, .ref acand, .ref ahint, .int 0, .int (-1), .int 0, .int 0, .null])), (aroom, .inr (9, [.ref asort, .ref anod, .ref atold, .int 3, .ref aheld, .int 0, .ref apair, .ref astep, .int 0, .int 0, .int (-1), .int 0, .int 0, .ref asize])), (anod, .inr (7, [.ref nm, .ref nl, .ref n1, .ref n2, .ref nf, .ref ns, .ref nh, .ref nk, .ref np, .int 16, .int 0, .int 16, .int 0, .int 0])), (apair, .inr (8, [.ref apsl, .int 0, .int 0])), (asize, .inr (10, [.ref azsl, .int 0])), (anote, .inr (5, [.ref af1, .ref af2, .ref af3, .int 0])), (ameth, .inr (1, [.int 0, .ref eD, .int 0])), (asort, .inr (1, [.int 0, .ref eD, .int 0])), (astep, .inr (1, [.int 0, .ref eD, .int 0])), (atold, .inl (kI, 60, .inl zTold)), (ns, .inl (kL, 1024, .inr (.inl zSec))), (nf, .inl (kL, 1024, .inr (.inl zFir))), (nm, .inl (kI, 12, .inl (fun _ => 0))), (nl, .inl (kI, 12, .inl (fun _ => 0))), (n1, .inl (kI, 12, .inl (fun _ => 0))), (n2, .inl (kI, 12, .inl (fun _ => 0))), (apsl, .inl (kL, 512, .inr (.inl (fun _ => 0)))), (azsl, .inl (kL, 0, .inr (.inl (fun _ => 0)))), (ou, .inl (kL, 1, .inr (.inl fo))), (mm, .inr (21, [.int u_3, .ref ms, .ref mt, .ref mh, .ref me]))] := hD
  have hK : va_K (dC, dI) vwCl [(kI, .int), (kL, .long), (kO, .object "java/lang/Object"), (kT, .object "HornbookModel$Tree"), (kL, .long)] s := by simpa using hK
  have hw_6 : r_5 = u_4 ∧ u_3 = 1 := hw_6
  obtain ⟨hw_6, hp_7⟩ := hw_6
  have hw_6 := hw_6.symm
  subst hw_6
  refine lv_istore (lv' := [(6, .int u_4), (5, .int 1), (4, .int 0), (3, .ref ou), (2, .ref mm), (1, .ref hh), (0, .ref b)]) hx hb dL_law_1339 hl (by decide) rfl (fun ls hl => ?_)
  subst hp_7
  refine lv_aload_n hx hb dL_law_1341 rfl (lv_at hl 4 rfl) ?_
  refine z_i (wr := [(achoo, .inr (3, [.ref aroom, .ref ameth, .ref acand, .ref ahint, .int 0, .int (-1), .int 0, .int 0, .null])), (aroom, .inr (9, [.ref asort, .ref anod, .ref atold, .int 3, .ref aheld, .int 0, .ref apair, .ref astep, .int 0, .int 0, .int (-1), .int 0, .int 0, .ref asize])), (anod, .inr (7, [.ref nm, .ref nl, .ref n1, .ref n2, .ref nf, .ref ns, .ref nh, .ref nk, .ref np, .int 16, .int 0, .int 16, .int 0, .int 0])), (apair, .inr (8, [.ref apsl, .int 0, .int 0])), (asize, .inr (10, [.ref azsl, .int 0])), (anote, .inr (5, [.ref af1, .ref af2, .ref af3, .int 0])), (ameth, .inr (1, [.int 0, .ref eD, .int 0])), (asort, .inr (1, [.int 0, .ref eD, .int 0])), (astep, .inr (1, [.int 0, .ref eD, .int 0])), (atold, .inl (kI, 60, .inl zTold)), (ns, .inl (kL, 1024, .inr (.inl zSec))), (nf, .inl (kL, 1024, .inr (.inl zFir))), (nm, .inl (kI, 12, .inl (fun _ => 0))), (nl, .inl (kI, 12, .inl (fun _ => 0))), (n1, .inl (kI, 12, .inl (fun _ => 0))), (n2, .inl (kI, 12, .inl (fun _ => 0))), (apsl, .inl (kL, 512, .inr (.inl (fun _ => 0)))), (azsl, .inl (kL, 0, .inr (.inl (fun _ => 0)))), (ou, .inl (kL, 1, .inr (.inl fo)))]) (va_runV (As := []) (rest := []) ⟨hx, hb, hml, hown, hts⟩ (c_M_thrown l eD eI ad dC dI H.size mm ((.ref ms)) ((.ref mt)) ((.ref mh)) ((.ref me)) 1) (cwV 0 hts gl_c_M_thrown rfl rfl rfl (by decide +kernel) ⟨Nat.le_of_ble_eq_true rfl, Nat.le_of_ble_eq_true rfl⟩) (z_preV (wc := [(mm, .inr (21, [.int 1, .ref ms, .ref mt, .ref mh, .ref me]))]) hP hD hK hS hA hE [19] [] rfl (by decide) rfl (ci := 21) (q0 := 0) rfl rfl) rfl rfl hl.1 rfl (lv_room (Nat.le_of_ble_eq_true rfl)) dL_law_1342 ⟨Nat.le_of_ble_eq_true rfl, Nat.le_of_ble_eq_true rfl⟩) hP hD hK hS hA [19] [0, 1, 2, 3, 4, 5, 6, 7, 8, 9, 10, 11, 12, 13, 14, 15, 16, 17, 18] rfl rfl (by decide) (by decide) (fun r_8 u H locs hw_9 hP hD hK hS => ?_)
  obtain ⟨⟩ := u
  have hP : va_P (dC, dI) vwCl [(achoo, .inr (3, [.ref aroom, .ref ameth, .ref acand, .ref ahint, .int 0, .int (-1), .int 0, .int 0, .null])), (aroom, .inr (9, [.ref asort, .ref anod, .ref atold, .int 3, .ref aheld, .int 0, .ref apair, .ref astep, .int 0, .int 0, .int (-1), .int 0, .int 0, .ref asize])), (anod, .inr (7, [.ref nm, .ref nl, .ref n1, .ref n2, .ref nf, .ref ns, .ref nh, .ref nk, .ref np, .int 16, .int 0, .int 16, .int 0, .int 0])), (apair, .inr (8, [.ref apsl, .int 0, .int 0])), (asize, .inr (10, [.ref azsl, .int 0])), (anote, .inr (5, [.ref af1, .ref af2, .ref af3, .int 0])), (ameth, .inr (1, [.int 0, .ref eD, .int 0])), (asort, .inr (1, [.int 0, .ref eD, .int 0])), (astep, .inr (1, [.int 0, .ref eD, .int 0])), (atold, .inl (kI, 60, .inl zTold)), (ns, .inl (kL, 1024, .inr (.inl zSec))), (nf, .inl (kL, 1024, .inr (.inl zFir))), (nm, .inl (kI, 12, .inl (fun _ => 0))), (nl, .inl (kI, 12, .inl (fun _ => 0))), (n1, .inl (kI, 12, .inl (fun _ => 0))), (n2, .inl (kI, 12, .inl (fun _ => 0))), (apsl, .inl (kL, 512, .inr (.inl (fun _ => 0)))), (azsl, .inl (kL, 0, .inr (.inl (fun _ => 0)))), (ou, .inl (kL, 1, .inr (.inl fo))), (mm, .inr (21, [.int 1, .ref ms, .ref mt, .ref mh, .ref me]))] H := hP
  have hD : va_D A [(achoo, .inr (3, [.ref aroom, .ref ameth, .ref acand, .ref ahint, .int 0, .int (-1), .int 0, .int 0, .null])), (aroom, .inr (9, [.ref asort, .ref anod, .ref atold, .int 3, .ref aheld, .int 0, .ref apair, .ref astep, .int 0, .int 0, .int (-1), .int 0, .int 0, .ref asize])), (anod, .inr (7, [.ref nm, .ref nl, .ref n1, .ref n2, .ref nf, .ref ns, .ref nh, .ref nk, .ref np, .int 16, .int 0, .int 16, .int 0, .int 0])), (apair, .inr (8, [.ref apsl, .int 0, .int 0])), (asize, .inr (10, [.ref azsl, .int 0])), (anote, .inr (5, [.ref af1, .ref af2, .ref af3, .int 0])), (ameth, .inr (1, [.int 0, .ref eD, .int 0])), (asort, .inr (1, [.int 0, .ref eD, .int 0])), (astep, .inr (1, [.int 0, .ref eD, .int 0])), (atold, .inl (kI, 60, .inl zTold)), (ns, .inl (kL, 1024, .inr (.inl zSec))), (nf, .inl (kL, 1024, .inr (.inl zFir))), (nm, .inl (kI, 12, .inl (fun _ => 0))), (nl, .inl (kI, 12, .inl (fun _ => 0))), (n1, .inl (kI, 12, .inl (fun _ => 0))), (n2, .inl (kI, 12, .inl (fun _ => 0))), (apsl, .inl (kL, 512, .inr (.inl (fun _ => 0)))), (azsl, .inl (kL, 0, .inr (.inl (fun _ => 0)))), (ou, .inl (kL, 1, .inr (.inl fo))), (mm, .inr (21, [.int 1, .ref ms, .ref mt, .ref mh, .ref me]))] := hD
  have hK : va_K (dC, dI) vwCl [(kI, .int), (kL, .long), (kO, .object "java/lang/Object"), (kT, .object "HornbookModel$Tree"), (kL, .long)] s := by simpa using hK
  have hw_9 : r_8 = 1 := hw_9
  have hw_9 := hw_9.symm
  subst hw_9
  refine lv_iload hx hb dL_law_1345 (lv_at hl 1 rfl) ?_
  refine lv_icmp_eq (tgt := 1352) hx hb dL_law_1347 (by decide) (fun c_10 => ?_) (fun c_10 => ?_)
  rotate_left
  · exact absurd (by decide) c_10
  refine lv_iload hx hb dL_law_1352 (lv_at hl 1 rfl) ?_
  refine lv_if_ne (tgt := 1369) hx hb dL_law_1354 (by decide) (fun c_11 => ?_) (fun c_11 => ?_)
  rotate_left
  · exact absurd c_11 (by decide)
  refine lv_goto (tgt := 2196) hx hb dL_law_1369 (by decide) ?_
  exact law_tail l Z hS (lv_sub hl [2, 6] rfl) (Nat.le_of_ble_eq_true rfl) (Nat.le_of_ble_eq_true rfl)
