section XR3
variable {E : xt_Ev} {cx : xt_Cx} {b L i : Nat} {xs : Nat → Int32} {Z : State → Prop} {k n : Nat} {S : xt_St}
set_option maxRecDepth 20000 in
set_option maxHeartbeats 2000000 in
theorem la_soften (A : xt_LA E cx b L xs) (hi : i + 6 ≤ L) (hk : k + 1 ≤ 601024 ∧ n + 6 ≤ 7293034) (hI : xt_Inv S) (kk : ∀ S9, xt_Inv S9 → xt_X E cx Z (k + 1) (n + 6) 2308 (xt_lv9 E b i none none none) [] S9) : xt_X E cx Z k n 1020 (xt_lv9 E b i none none none) [] S := by
  obtain ⟨q, P1, hq, hW, hM⟩ := st_soften (E := E) (l := cx.2.1) A.2.2.2.2.2 hI (xs (i + 1)) (xs (i + 2))
  refine xt_aload_n A.1 dL_law_1020 rfl ?_
  refine xt_arg A 1 (by omega) (by decide) dL_law_1021 dL_law_1022 dL_law_1024 dL_law_1025 dL_law_1026 ?_
  refine xt_arg A 2 (by omega) (by decide) dL_law_1027 dL_law_1028 dL_law_1030 dL_law_1031 dL_law_1032 ?_
  refine xt_aload_n A.1 dL_law_1033 rfl ?_
  refine xt_callSH A.1 mh_L_soften lkL_167 hW rfl ⟨Nat.le_of_ble_eq_true rfl, Nat.le_of_ble_eq_true rfl, hk.1, hk.2⟩ rfl (Nat.le_of_ble_eq_true rfl) dL_law_1034 (fun v S1 h1 => ?_)
  obtain ⟨rfl, h1⟩ := h1
  show xt_X E cx Z (k + 1) (n + 6) 1037 _ [.int (nI q)] S1
  refine xt_istore A.1 dL_law_1037 (Nat.le_of_ble_eq_true rfl) rfl rfl ?_
  obtain ⟨v2, P2, hM1, hM2⟩ := hM S1 h1
  show xt_X E cx Z (k + 1) (n + 6) 1039 (xt_lv9 E b i (some (.int (nI q))) none none) [] S1
  refine xt_aload_n A.1 dL_law_1039 rfl ?_
  refine xt_arg A 1 (by omega) (by decide) dL_law_1040 dL_law_1041 dL_law_1043 dL_law_1044 dL_law_1045 ?_
  refine xt_arg A 2 (by omega) (by decide) dL_law_1046 dL_law_1047 dL_law_1049 dL_law_1050 dL_law_1051 ?_
  refine xt_cVq A.1 mv_X6_soften lkL_169 hM1 rfl (by decide) (xt_cl49 _ _) rfl ⟨Nat.le_of_ble_eq_true rfl, Nat.le_of_ble_eq_true rfl, hk.1, hk.2⟩ rfl (Nat.le_of_ble_eq_true rfl) dL_law_1052 (fun v S2 h2 => ?_)
  obtain ⟨rfl, h2⟩ := h2
  obtain ⟨e1, e2, e3⟩ := hM2 S2 h2
  exact xt_tail A hq e1 e2 dL_law_1055 dL_law_1057 dL_law_1058 dL_law_1061 dL_law_1063 dL_law_1068 dL_law_1070 dL_law_1073 dL_law_1074 dL_law_1075 dL_law_1076 dL_law_1078 dL_law_1079 dL_law_1080 dL_law_1085 (by decide) hk (kk S2 e3)
set_option maxRecDepth 20000 in
set_option maxHeartbeats 2000000 in
theorem la_coefficient (A : xt_LA E cx b L xs) (hi : i + 6 ≤ L) (hk : k + 1 ≤ 601024 ∧ n + 6 ≤ 7293034) (hI : xt_Inv S) (kk : ∀ S9, xt_Inv S9 → xt_X E cx Z (k + 1) (n + 6) 2308 (xt_lv9 E b i none none none) [] S9) : xt_X E cx Z k n 1088 (xt_lv9 E b i none none none) [] S := by
  obtain ⟨q, P1, hq, hW, hM⟩ := st_coefficient (E := E) (l := cx.2.1) A.2.2.2.2.2 hI (xs (i + 1)) (xs (i + 2)) (xs (i + 3))
  refine xt_aload_n A.1 dL_law_1088 rfl ?_
  refine xt_arg A 1 (by omega) (by decide) dL_law_1089 dL_law_1090 dL_law_1092 dL_law_1093 dL_law_1094 ?_
  refine xt_arg A 2 (by omega) (by decide) dL_law_1095 dL_law_1096 dL_law_1098 dL_law_1099 dL_law_1100 ?_
  refine xt_arg A 3 (by omega) (by decide) dL_law_1101 dL_law_1102 dL_law_1104 dL_law_1105 dL_law_1106 ?_
  refine xt_aload_n A.1 dL_law_1107 rfl ?_
  refine xt_callSH A.1 mh_L_coefficient lkL_170 hW rfl ⟨Nat.le_of_ble_eq_true rfl, Nat.le_of_ble_eq_true rfl, hk.1, hk.2⟩ rfl (Nat.le_of_ble_eq_true rfl) dL_law_1108 (fun v S1 h1 => ?_)
  obtain ⟨rfl, h1⟩ := h1
  show xt_X E cx Z (k + 1) (n + 6) 1111 _ [.int (nI q)] S1
  refine xt_istore A.1 dL_law_1111 (Nat.le_of_ble_eq_true rfl) rfl rfl ?_
  obtain ⟨v2, P2, hM1, hM2⟩ := hM S1 h1
  show xt_X E cx Z (k + 1) (n + 6) 1113 (xt_lv9 E b i (some (.int (nI q))) none none) [] S1
  refine xt_aload_n A.1 dL_law_1113 rfl ?_
  refine xt_arg A 1 (by omega) (by decide) dL_law_1114 dL_law_1115 dL_law_1117 dL_law_1118 dL_law_1119 ?_
  refine xt_arg A 2 (by omega) (by decide) dL_law_1120 dL_law_1121 dL_law_1123 dL_law_1124 dL_law_1125 ?_
  refine xt_arg A 3 (by omega) (by decide) dL_law_1126 dL_law_1127 dL_law_1129 dL_law_1130 dL_law_1131 ?_
  refine xt_cVq A.1 mv_X6_coefficient lkL_172 hM1 rfl (by decide) (xt_cl49 _ _) rfl ⟨Nat.le_of_ble_eq_true rfl, Nat.le_of_ble_eq_true rfl, hk.1, hk.2⟩ rfl (Nat.le_of_ble_eq_true rfl) dL_law_1132 (fun v S2 h2 => ?_)
  obtain ⟨rfl, h2⟩ := h2
  obtain ⟨e1, e2, e3⟩ := hM2 S2 h2
  exact xt_tail A hq e1 e2 dL_law_1135 dL_law_1137 dL_law_1138 dL_law_1141 dL_law_1143 dL_law_1148 dL_law_1150 dL_law_1153 dL_law_1154 dL_law_1155 dL_law_1156 dL_law_1158 dL_law_1159 dL_law_1160 dL_law_1165 (by decide) hk (kk S2 e3)
set_option maxRecDepth 20000 in
set_option maxHeartbeats 2000000 in
theorem la_band (A : xt_LA E cx b L xs) (hi : i + 6 ≤ L) (hk : k + 1 ≤ 601024 ∧ n + 6 ≤ 7293034) (hI : xt_Inv S) (kk : ∀ S9, xt_Inv S9 → xt_X E cx Z (k + 1) (n + 6) 2308 (xt_lv9 E b i none none none) [] S9) : xt_X E cx Z k n 1168 (xt_lv9 E b i none none none) [] S := by
  obtain ⟨q, P1, hq, hW, hM⟩ := st_band (E := E) (l := cx.2.1) A.2.2.2.2.2 hI (xs (i + 1)) (xs (i + 2)) (xs (i + 3))
  refine xt_aload_n A.1 dL_law_1168 rfl ?_
  refine xt_arg A 1 (by omega) (by decide) dL_law_1169 dL_law_1170 dL_law_1172 dL_law_1173 dL_law_1174 ?_
  refine xt_arg A 2 (by omega) (by decide) dL_law_1175 dL_law_1176 dL_law_1178 dL_law_1179 dL_law_1180 ?_
  refine xt_arg A 3 (by omega) (by decide) dL_law_1181 dL_law_1182 dL_law_1184 dL_law_1185 dL_law_1186 ?_
  refine xt_aload_n A.1 dL_law_1187 rfl ?_
  refine xt_callSH A.1 mh_L_band lkL_173 hW rfl ⟨Nat.le_of_ble_eq_true rfl, Nat.le_of_ble_eq_true rfl, hk.1, hk.2⟩ rfl (Nat.le_of_ble_eq_true rfl) dL_law_1188 (fun v S1 h1 => ?_)
  obtain ⟨rfl, h1⟩ := h1
  show xt_X E cx Z (k + 1) (n + 6) 1191 _ [.int (nI q)] S1
  refine xt_istore A.1 dL_law_1191 (Nat.le_of_ble_eq_true rfl) rfl rfl ?_
  obtain ⟨v2, P2, hM1, hM2⟩ := hM S1 h1
  show xt_X E cx Z (k + 1) (n + 6) 1193 (xt_lv9 E b i (some (.int (nI q))) none none) [] S1
  refine xt_aload_n A.1 dL_law_1193 rfl ?_
  refine xt_arg A 1 (by omega) (by decide) dL_law_1194 dL_law_1195 dL_law_1197 dL_law_1198 dL_law_1199 ?_
  refine xt_arg A 2 (by omega) (by decide) dL_law_1200 dL_law_1201 dL_law_1203 dL_law_1204 dL_law_1205 ?_
  refine xt_arg A 3 (by omega) (by decide) dL_law_1206 dL_law_1207 dL_law_1209 dL_law_1210 dL_law_1211 ?_
  refine xt_cVq A.1 mv_X6_band lkL_175 hM1 rfl (by decide) (xt_cl49 _ _) rfl ⟨Nat.le_of_ble_eq_true rfl, Nat.le_of_ble_eq_true rfl, hk.1, hk.2⟩ rfl (Nat.le_of_ble_eq_true rfl) dL_law_1212 (fun v S2 h2 => ?_)
  obtain ⟨rfl, h2⟩ := h2
  obtain ⟨e1, e2, e3⟩ := hM2 S2 h2
  exact xt_tail A hq e1 e2 dL_law_1215 dL_law_1217 dL_law_1218 dL_law_1221 dL_law_1223 dL_law_1228 dL_law_1230 dL_law_1233 dL_law_1234 dL_law_1235 dL_law_1236 dL_law_1238 dL_law_1239 dL_law_1240 dL_law_1245 (by decide) hk (kk S2 e3)
set_option maxRecDepth 20000 in
set_option maxHeartbeats 2000000 in
theorem la_layerOf (A : xt_LA E cx b L xs) (hi : i + 6 ≤ L) (hk : k + 1 ≤ 601024 ∧ n + 6 ≤ 7293034) (hI : xt_Inv S) (kk : ∀ S9, xt_Inv S9 → xt_X E cx Z (k + 1) (n + 6) 2308 (xt_lv9 E b i none none none) [] S9) : xt_X E cx Z k n 1248 (xt_lv9 E b i none none none) [] S := by
  obtain ⟨q, P1, hq, hW, hM⟩ := st_layerOf (E := E) (l := cx.2.1) A.2.2.2.2.2 hI (xs (i + 1)) (xs (i + 2)) (xs (i + 3)) (xs (i + 4))
  refine xt_aload_n A.1 dL_law_1248 rfl ?_
  refine xt_arg A 1 (by omega) (by decide) dL_law_1249 dL_law_1250 dL_law_1252 dL_law_1253 dL_law_1254 ?_
  refine xt_arg A 2 (by omega) (by decide) dL_law_1255 dL_law_1256 dL_law_1258 dL_law_1259 dL_law_1260 ?_
  refine xt_arg A 3 (by omega) (by decide) dL_law_1261 dL_law_1262 dL_law_1264 dL_law_1265 dL_law_1266 ?_
  refine xt_arg A 4 (by omega) (by decide) dL_law_1267 dL_law_1268 dL_law_1270 dL_law_1271 dL_law_1272 ?_
  refine xt_aload_n A.1 dL_law_1273 rfl ?_
  refine xt_callSH A.1 mh_L_layerOf lkL_176 hW rfl ⟨Nat.le_of_ble_eq_true rfl, Nat.le_of_ble_eq_true rfl, hk.1, hk.2⟩ rfl (Nat.le_of_ble_eq_true rfl) dL_law_1274 (fun v S1 h1 => ?_)
  obtain ⟨rfl, h1⟩ := h1
  show xt_X E cx Z (k + 1) (n + 6) 1277 _ [.int (nI q)] S1
  refine xt_istore A.1 dL_law_1277 (Nat.le_of_ble_eq_true rfl) rfl rfl ?_
  obtain ⟨v2, P2, hM1, hM2⟩ := hM S1 h1
  show xt_X E cx Z (k + 1) (n + 6) 1279 (xt_lv9 E b i (some (.int (nI q))) none none) [] S1
  refine xt_aload_n A.1 dL_law_1279 rfl ?_
  refine xt_arg A 1 (by omega) (by decide) dL_law_1280 dL_law_1281 dL_law_1283 dL_law_1284 dL_law_1285 ?_
  refine xt_arg A 2 (by omega) (by decide) dL_law_1286 dL_law_1287 dL_law_1289 dL_law_1290 dL_law_1291 ?_
  refine xt_arg A 3 (by omega) (by decide) dL_law_1292 dL_law_1293 dL_law_1295 dL_law_1296 dL_law_1297 ?_
  refine xt_arg A 4 (by omega) (by decide) dL_law_1298 dL_law_1299 dL_law_1301 dL_law_1302 dL_law_1303 ?_
  refine xt_cVq A.1 mv_X6_layerOf lkL_179 hM1 rfl (by decide) (xt_cl49 _ _) rfl ⟨Nat.le_of_ble_eq_true rfl, Nat.le_of_ble_eq_true rfl, hk.1, hk.2⟩ rfl (Nat.le_of_ble_eq_true rfl) dL_law_1304 (fun v S2 h2 => ?_)
  obtain ⟨rfl, h2⟩ := h2
  obtain ⟨e1, e2, e3⟩ := hM2 S2 h2
  exact xt_tail A hq e1 e2 dL_law_1307 dL_law_1309 dL_law_1310 dL_law_1313 dL_law_1315 dL_law_1320 dL_law_1322 dL_law_1325 dL_law_1326 dL_law_1327 dL_law_1328 dL_law_1330 dL_law_1331 dL_law_1332 dL_law_1337 (by decide) hk (kk S2 e3)
set_option maxRecDepth 20000 in
set_option maxHeartbeats 2000000 in
theorem la_bits (A : xt_LA E cx b L xs) (hi : i + 6 ≤ L) (hk : k + 1 ≤ 601024 ∧ n + 6 ≤ 7293034) (hI : xt_Inv S) (kk : ∀ S9, xt_Inv S9 → xt_X E cx Z (k + 1) (n + 6) 2308 (xt_lv9 E b i none none none) [] S9) : xt_X E cx Z k n 1340 (xt_lv9 E b i none none none) [] S := by
  obtain ⟨q, P1, hq, hW, hM⟩ := st_bits (E := E) (l := cx.2.1) A.2.2.2.2.2 hI (xs (i + 1)) (xs (i + 2))
  refine xt_aload_n A.1 dL_law_1340 rfl ?_
  refine xt_arg A 1 (by omega) (by decide) dL_law_1341 dL_law_1342 dL_law_1344 dL_law_1345 dL_law_1346 ?_
  refine xt_arg A 2 (by omega) (by decide) dL_law_1347 dL_law_1348 dL_law_1350 dL_law_1351 dL_law_1352 ?_
  refine xt_aload_n A.1 dL_law_1353 rfl ?_
  refine xt_callSH A.1 mh_L_bits lkL_180 hW rfl ⟨Nat.le_of_ble_eq_true rfl, Nat.le_of_ble_eq_true rfl, hk.1, hk.2⟩ rfl (Nat.le_of_ble_eq_true rfl) dL_law_1354 (fun v S1 h1 => ?_)
  obtain ⟨rfl, h1⟩ := h1
  show xt_X E cx Z (k + 1) (n + 6) 1357 _ [.int (nI q)] S1
  refine xt_istore A.1 dL_law_1357 (Nat.le_of_ble_eq_true rfl) rfl rfl ?_
  obtain ⟨v2, P2, hM1, hM2⟩ := hM S1 h1
  show xt_X E cx Z (k + 1) (n + 6) 1359 (xt_lv9 E b i (some (.int (nI q))) none none) [] S1
  refine xt_aload_n A.1 dL_law_1359 rfl ?_
  refine xt_arg A 1 (by omega) (by decide) dL_law_1360 dL_law_1361 dL_law_1363 dL_law_1364 dL_law_1365 ?_
  refine xt_arg A 2 (by omega) (by decide) dL_law_1366 dL_law_1367 dL_law_1369 dL_law_1370 dL_law_1371 ?_
  refine xt_cVq A.1 mv_X6_bits lkL_182 hM1 rfl (by decide) (xt_cl49 _ _) rfl ⟨Nat.le_of_ble_eq_true rfl, Nat.le_of_ble_eq_true rfl, hk.1, hk.2⟩ rfl (Nat.le_of_ble_eq_true rfl) dL_law_1372 (fun v S2 h2 => ?_)
  obtain ⟨rfl, h2⟩ := h2
  obtain ⟨e1, e2, e3⟩ := hM2 S2 h2
  exact xt_tail A hq e1 e2 dL_law_1375 dL_law_1377 dL_law_1378 dL_law_1381 dL_law_1383 dL_law_1388 dL_law_1390 dL_law_1393 dL_law_1394 dL_law_1395 dL_law_1396 dL_law_1398 dL_law_1399 dL_law_1400 dL_law_1405 (by decide) hk (kk S2 e3)
set_option maxRecDepth 20000 in
set_option maxHeartbeats 2000000 in
theorem la_descendants (A : xt_LA E cx b L xs) (hi : i + 6 ≤ L) (hk : k + 1 ≤ 601024 ∧ n + 6 ≤ 7293034) (hI : xt_Inv S) (kk : ∀ S9, xt_Inv S9 → xt_X E cx Z (k + 1) (n + 6) 2308 (xt_lv9 E b i none none none) [] S9) : xt_X E cx Z k n 1408 (xt_lv9 E b i none none none) [] S := by
  obtain ⟨q, P1, hq, hW, hM⟩ := st_descendants (E := E) (l := cx.2.1) A.2.2.2.2.2 hI (xs (i + 1)) (xs (i + 2)) (xs (i + 3))
  refine xt_aload_n A.1 dL_law_1408 rfl ?_
  refine xt_arg A 1 (by omega) (by decide) dL_law_1409 dL_law_1410 dL_law_1412 dL_law_1413 dL_law_1414 ?_
  refine xt_arg A 2 (by omega) (by decide) dL_law_1415 dL_law_1416 dL_law_1418 dL_law_1419 dL_law_1420 ?_
  refine xt_arg A 3 (by omega) (by decide) dL_law_1421 dL_law_1422 dL_law_1424 dL_law_1425 dL_law_1426 ?_
  refine xt_aload_n A.1 dL_law_1427 rfl ?_
  refine xt_callSH A.1 mh_L_descendants lkL_183 hW rfl ⟨Nat.le_of_ble_eq_true rfl, Nat.le_of_ble_eq_true rfl, hk.1, hk.2⟩ rfl (Nat.le_of_ble_eq_true rfl) dL_law_1428 (fun v S1 h1 => ?_)
  obtain ⟨rfl, h1⟩ := h1
  show xt_X E cx Z (k + 1) (n + 6) 1431 _ [.int (nI q)] S1
  refine xt_istore A.1 dL_law_1431 (Nat.le_of_ble_eq_true rfl) rfl rfl ?_
  obtain ⟨v2, P2, hM1, hM2⟩ := hM S1 h1
  show xt_X E cx Z (k + 1) (n + 6) 1433 (xt_lv9 E b i (some (.int (nI q))) none none) [] S1
  refine xt_aload_n A.1 dL_law_1433 rfl ?_
  refine xt_arg A 1 (by omega) (by decide) dL_law_1434 dL_law_1435 dL_law_1437 dL_law_1438 dL_law_1439 ?_
  refine xt_arg A 2 (by omega) (by decide) dL_law_1440 dL_law_1441 dL_law_1443 dL_law_1444 dL_law_1445 ?_
  refine xt_arg A 3 (by omega) (by decide) dL_law_1446 dL_law_1447 dL_law_1449 dL_law_1450 dL_law_1451 ?_
  refine xt_cVq A.1 mv_X6_descendants lkL_185 hM1 rfl (by decide) (xt_cl49 _ _) rfl ⟨Nat.le_of_ble_eq_true rfl, Nat.le_of_ble_eq_true rfl, hk.1, hk.2⟩ rfl (Nat.le_of_ble_eq_true rfl) dL_law_1452 (fun v S2 h2 => ?_)
  obtain ⟨rfl, h2⟩ := h2
  obtain ⟨e1, e2, e3⟩ := hM2 S2 h2
  exact xt_tail A hq e1 e2 dL_law_1455 dL_law_1457 dL_law_1458 dL_law_1461 dL_law_1463 dL_law_1468 dL_law_1470 dL_law_1473 dL_law_1474 dL_law_1475 dL_law_1476 dL_law_1478 dL_law_1479 dL_law_1480 dL_law_1485 (by decide) hk (kk S2 e3)
set_option maxRecDepth 20000 in
set_option maxHeartbeats 2000000 in
theorem la_roots (A : xt_LA E cx b L xs) (hi : i + 6 ≤ L) (hk : k + 1 ≤ 601024 ∧ n + 6 ≤ 7293034) (hI : xt_Inv S) (kk : ∀ S9, xt_Inv S9 → xt_X E cx Z (k + 1) (n + 6) 2308 (xt_lv9 E b i none none none) [] S9) : xt_X E cx Z k n 1488 (xt_lv9 E b i none none none) [] S := by
  obtain ⟨q, P1, hq, hW, hM⟩ := st_roots (E := E) (l := cx.2.1) A.2.2.2.2.2 hI (xs (i + 1)) (xs (i + 2))
  refine xt_aload_n A.1 dL_law_1488 rfl ?_
  refine xt_arg A 1 (by omega) (by decide) dL_law_1489 dL_law_1490 dL_law_1492 dL_law_1493 dL_law_1494 ?_
  refine xt_arg A 2 (by omega) (by decide) dL_law_1495 dL_law_1496 dL_law_1498 dL_law_1499 dL_law_1500 ?_
  refine xt_aload_n A.1 dL_law_1501 rfl ?_
  refine xt_callSH A.1 mh_L_roots lkL_186 hW rfl ⟨Nat.le_of_ble_eq_true rfl, Nat.le_of_ble_eq_true rfl, hk.1, hk.2⟩ rfl (Nat.le_of_ble_eq_true rfl) dL_law_1502 (fun v S1 h1 => ?_)
  obtain ⟨rfl, h1⟩ := h1
  show xt_X E cx Z (k + 1) (n + 6) 1505 _ [.int (nI q)] S1
  refine xt_istore A.1 dL_law_1505 (Nat.le_of_ble_eq_true rfl) rfl rfl ?_
  obtain ⟨v2, P2, hM1, hM2⟩ := hM S1 h1
  show xt_X E cx Z (k + 1) (n + 6) 1507 (xt_lv9 E b i (some (.int (nI q))) none none) [] S1
  refine xt_aload_n A.1 dL_law_1507 rfl ?_
  refine xt_arg A 1 (by omega) (by decide) dL_law_1508 dL_law_1509 dL_law_1511 dL_law_1512 dL_law_1513 ?_
  refine xt_arg A 2 (by omega) (by decide) dL_law_1514 dL_law_1515 dL_law_1517 dL_law_1518 dL_law_1519 ?_
  refine xt_cVq A.1 mv_X6_roots lkL_188 hM1 rfl (by decide) (xt_cl49 _ _) rfl ⟨Nat.le_of_ble_eq_true rfl, Nat.le_of_ble_eq_true rfl, hk.1, hk.2⟩ rfl (Nat.le_of_ble_eq_true rfl) dL_law_1520 (fun v S2 h2 => ?_)
  obtain ⟨rfl, h2⟩ := h2
  obtain ⟨e1, e2, e3⟩ := hM2 S2 h2
  exact xt_tail A hq e1 e2 dL_law_1523 dL_law_1525 dL_law_1526 dL_law_1529 dL_law_1531 dL_law_1536 dL_law_1538 dL_law_1541 dL_law_1542 dL_law_1543 dL_law_1544 dL_law_1546 dL_law_1547 dL_law_1548 dL_law_1553 (by decide) hk (kk S2 e3)
set_option maxRecDepth 20000 in
set_option maxHeartbeats 2000000 in
theorem la_needed (A : xt_LA E cx b L xs) (hi : i + 6 ≤ L) (hk : k + 1 ≤ 601024 ∧ n + 6 ≤ 7293034) (hI : xt_Inv S) (kk : ∀ S9, xt_Inv S9 → xt_X E cx Z (k + 1) (n + 6) 2308 (xt_lv9 E b i none none none) [] S9) : xt_X E cx Z k n 1556 (xt_lv9 E b i none none none) [] S := by
  obtain ⟨q, P1, hq, hW, hM⟩ := st_needed (E := E) (l := cx.2.1) A.2.2.2.2.2 hI (xs (i + 1)) (xs (i + 2))
  refine xt_aload_n A.1 dL_law_1556 rfl ?_
  refine xt_arg A 1 (by omega) (by decide) dL_law_1557 dL_law_1558 dL_law_1560 dL_law_1561 dL_law_1562 ?_
  refine xt_arg A 2 (by omega) (by decide) dL_law_1563 dL_law_1564 dL_law_1566 dL_law_1567 dL_law_1568 ?_
  refine xt_aload_n A.1 dL_law_1569 rfl ?_
  refine xt_callSH A.1 mh_L_needed lkL_189 hW rfl ⟨Nat.le_of_ble_eq_true rfl, Nat.le_of_ble_eq_true rfl, hk.1, hk.2⟩ rfl (Nat.le_of_ble_eq_true rfl) dL_law_1570 (fun v S1 h1 => ?_)
  obtain ⟨rfl, h1⟩ := h1
  show xt_X E cx Z (k + 1) (n + 6) 1573 _ [.int (nI q)] S1
  refine xt_istore A.1 dL_law_1573 (Nat.le_of_ble_eq_true rfl) rfl rfl ?_
  obtain ⟨v2, P2, hM1, hM2⟩ := hM S1 h1
  show xt_X E cx Z (k + 1) (n + 6) 1575 (xt_lv9 E b i (some (.int (nI q))) none none) [] S1
  refine xt_aload_n A.1 dL_law_1575 rfl ?_
  refine xt_arg A 1 (by omega) (by decide) dL_law_1576 dL_law_1577 dL_law_1579 dL_law_1580 dL_law_1581 ?_
  refine xt_arg A 2 (by omega) (by decide) dL_law_1582 dL_law_1583 dL_law_1585 dL_law_1586 dL_law_1587 ?_
  refine xt_cVq A.1 mv_X6_needed lkL_191 hM1 rfl (by decide) (xt_cl49 _ _) rfl ⟨Nat.le_of_ble_eq_true rfl, Nat.le_of_ble_eq_true rfl, hk.1, hk.2⟩ rfl (Nat.le_of_ble_eq_true rfl) dL_law_1588 (fun v S2 h2 => ?_)
  obtain ⟨rfl, h2⟩ := h2
  obtain ⟨e1, e2, e3⟩ := hM2 S2 h2
  exact xt_tail A hq e1 e2 dL_law_1591 dL_law_1593 dL_law_1594 dL_law_1597 dL_law_1599 dL_law_1604 dL_law_1606 dL_law_1609 dL_law_1610 dL_law_1611 dL_law_1612 dL_law_1614 dL_law_1615 dL_law_1616 dL_law_1621 (by decide) hk (kk S2 e3)
set_option maxRecDepth 20000 in
set_option maxHeartbeats 2000000 in
theorem la_decoded (A : xt_LA E cx b L xs) (hi : i + 6 ≤ L) (hk : k + 1 ≤ 601024 ∧ n + 6 ≤ 7293034) (hI : xt_Inv S) (kk : ∀ S9, xt_Inv S9 → xt_X E cx Z (k + 1) (n + 6) 2308 (xt_lv9 E b i none none none) [] S9) : xt_X E cx Z k n 1624 (xt_lv9 E b i none none none) [] S := by
  obtain ⟨q, P1, hq, hW, hM⟩ := st_decoded (E := E) (l := cx.2.1) A.2.2.2.2.2 hI (xs (i + 1)) (xs (i + 2)) (xs (i + 3))
  refine xt_aload_n A.1 dL_law_1624 rfl ?_
  refine xt_arg A 1 (by omega) (by decide) dL_law_1625 dL_law_1626 dL_law_1628 dL_law_1629 dL_law_1630 ?_
  refine xt_arg A 2 (by omega) (by decide) dL_law_1631 dL_law_1632 dL_law_1634 dL_law_1635 dL_law_1636 ?_
  refine xt_arg A 3 (by omega) (by decide) dL_law_1637 dL_law_1638 dL_law_1640 dL_law_1641 dL_law_1642 ?_
  refine xt_aload_n A.1 dL_law_1643 rfl ?_
  refine xt_callSH A.1 mh_L_decoded lkL_192 hW rfl ⟨Nat.le_of_ble_eq_true rfl, Nat.le_of_ble_eq_true rfl, hk.1, hk.2⟩ rfl (Nat.le_of_ble_eq_true rfl) dL_law_1644 (fun v S1 h1 => ?_)
  obtain ⟨rfl, h1⟩ := h1
  show xt_X E cx Z (k + 1) (n + 6) 1647 _ [.int (nI q)] S1
  refine xt_istore A.1 dL_law_1647 (Nat.le_of_ble_eq_true rfl) rfl rfl ?_
  obtain ⟨v2, P2, hM1, hM2⟩ := hM S1 h1
  show xt_X E cx Z (k + 1) (n + 6) 1649 (xt_lv9 E b i (some (.int (nI q))) none none) [] S1
  refine xt_aload_n A.1 dL_law_1649 rfl ?_
  refine xt_arg A 1 (by omega) (by decide) dL_law_1650 dL_law_1651 dL_law_1653 dL_law_1654 dL_law_1655 ?_
  refine xt_arg A 2 (by omega) (by decide) dL_law_1656 dL_law_1657 dL_law_1659 dL_law_1660 dL_law_1661 ?_
  refine xt_arg A 3 (by omega) (by decide) dL_law_1662 dL_law_1663 dL_law_1665 dL_law_1666 dL_law_1667 ?_
  refine xt_cVq A.1 mv_X6_decoded lkL_194 hM1 rfl (by decide) (xt_cl49 _ _) rfl ⟨Nat.le_of_ble_eq_true rfl, Nat.le_of_ble_eq_true rfl, hk.1, hk.2⟩ rfl (Nat.le_of_ble_eq_true rfl) dL_law_1668 (fun v S2 h2 => ?_)
  obtain ⟨rfl, h2⟩ := h2
  obtain ⟨e1, e2, e3⟩ := hM2 S2 h2
  exact xt_tail A hq e1 e2 dL_law_1671 dL_law_1673 dL_law_1674 dL_law_1677 dL_law_1679 dL_law_1684 dL_law_1686 dL_law_1689 dL_law_1690 dL_law_1691 dL_law_1692 dL_law_1694 dL_law_1695 dL_law_1696 dL_law_1701 (by decide) hk (kk S2 e3)
set_option maxRecDepth 20000 in
set_option maxHeartbeats 2000000 in
theorem la_worst (A : xt_LA E cx b L xs) (hi : i + 6 ≤ L) (hk : k + 1 ≤ 601024 ∧ n + 6 ≤ 7293034) (hI : xt_Inv S) (kk : ∀ S9, xt_Inv S9 → xt_X E cx Z (k + 1) (n + 6) 2308 (xt_lv9 E b i none none none) [] S9) : xt_X E cx Z k n 1704 (xt_lv9 E b i none none none) [] S := by
  by_cases c0 : xs (i + 3) = 0
  · skip
    obtain ⟨q, P1, hq, hW, hM⟩ := st_worst (E := E) (l := cx.2.1) A.2.2.2.2.2 hI (xs (i + 1)) (xs (i + 2)) (nI 0) (Or.inl rfl)
    refine xt_aload_n A.1 dL_law_1704 rfl ?_
    refine xt_arg A 1 (by omega) (by decide) dL_law_1705 dL_law_1706 dL_law_1708 dL_law_1709 dL_law_1710 ?_
    refine xt_arg A 2 (by omega) (by decide) dL_law_1711 dL_law_1712 dL_law_1714 dL_law_1715 dL_law_1716 ?_
    refine xt_arg A 3 (by omega) (by decide) dL_law_1717 dL_law_1718 dL_law_1720 dL_law_1721 dL_law_1722 ?_
    refine xt_if_eq (tgt := 1730) A.1 dL_law_1723 (by decide) (fun _ => ?_) (fun c9 => absurd c0 c9)
    refine xt_iconst (v := nI 0) A.1 dL_law_1730 rfl ?_
    refine xt_aload_n A.1 dL_law_1731 rfl ?_
    refine xt_callSH A.1 mh_L_worst lkL_195 hW rfl ⟨Nat.le_of_ble_eq_true rfl, Nat.le_of_ble_eq_true rfl, hk.1, hk.2⟩ rfl (Nat.le_of_ble_eq_true rfl) dL_law_1732 (fun v S1 h1 => ?_)
    obtain ⟨rfl, h1⟩ := h1
    show xt_X E cx Z (k + 1) (n + 6) 1735 _ [.int (nI q)] S1
    refine xt_istore A.1 dL_law_1735 (Nat.le_of_ble_eq_true rfl) rfl rfl ?_
    obtain ⟨v2, P2, hM1, hM2⟩ := hM S1 h1
    show xt_X E cx Z (k + 1) (n + 6) 1737 (xt_lv9 E b i (some (.int (nI q))) none none) [] S1
    refine xt_aload_n A.1 dL_law_1737 rfl ?_
    refine xt_arg A 1 (by omega) (by decide) dL_law_1738 dL_law_1739 dL_law_1741 dL_law_1742 dL_law_1743 ?_
    refine xt_arg A 2 (by omega) (by decide) dL_law_1744 dL_law_1745 dL_law_1747 dL_law_1748 dL_law_1749 ?_
    refine xt_arg A 3 (by omega) (by decide) dL_law_1750 dL_law_1751 dL_law_1753 dL_law_1754 dL_law_1755 ?_
    refine xt_if_eq (tgt := 1763) A.1 dL_law_1756 (by decide) (fun _ => ?_) (fun c9 => absurd c0 c9)
    refine xt_iconst (v := nI 0) A.1 dL_law_1763 rfl ?_
    refine xt_cVq A.1 mv_X6_worst lkL_198 hM1 rfl (by decide) (xt_cl49 _ _) rfl ⟨Nat.le_of_ble_eq_true rfl, Nat.le_of_ble_eq_true rfl, hk.1, hk.2⟩ rfl (Nat.le_of_ble_eq_true rfl) dL_law_1764 (fun v S2 h2 => ?_)
    obtain ⟨rfl, h2⟩ := h2
    obtain ⟨e1, e2, e3⟩ := hM2 S2 h2
    exact xt_tail A hq e1 e2 dL_law_1767 dL_law_1769 dL_law_1770 dL_law_1773 dL_law_1775 dL_law_1780 dL_law_1782 dL_law_1785 dL_law_1786 dL_law_1787 dL_law_1788 dL_law_1790 dL_law_1791 dL_law_1792 dL_law_1797 (by decide) hk (kk S2 e3)
  · skip
    obtain ⟨q, P1, hq, hW, hM⟩ := st_worst (E := E) (l := cx.2.1) A.2.2.2.2.2 hI (xs (i + 1)) (xs (i + 2)) (nI 1) (Or.inr rfl)
    refine xt_aload_n A.1 dL_law_1704 rfl ?_
    refine xt_arg A 1 (by omega) (by decide) dL_law_1705 dL_law_1706 dL_law_1708 dL_law_1709 dL_law_1710 ?_
    refine xt_arg A 2 (by omega) (by decide) dL_law_1711 dL_law_1712 dL_law_1714 dL_law_1715 dL_law_1716 ?_
    refine xt_arg A 3 (by omega) (by decide) dL_law_1717 dL_law_1718 dL_law_1720 dL_law_1721 dL_law_1722 ?_
    refine xt_if_eq (tgt := 1730) A.1 dL_law_1723 (by decide) (fun c9 => absurd c9 c0) (fun _ => ?_)
    refine xt_iconst (v := nI 1) A.1 dL_law_1726 rfl ?_
    refine xt_goto (tgt := 1731) A.1 dL_law_1727 (by decide) ?_
    refine xt_aload_n A.1 dL_law_1731 rfl ?_
    refine xt_callSH A.1 mh_L_worst lkL_195 hW rfl ⟨Nat.le_of_ble_eq_true rfl, Nat.le_of_ble_eq_true rfl, hk.1, hk.2⟩ rfl (Nat.le_of_ble_eq_true rfl) dL_law_1732 (fun v S1 h1 => ?_)
    obtain ⟨rfl, h1⟩ := h1
    show xt_X E cx Z (k + 1) (n + 6) 1735 _ [.int (nI q)] S1
    refine xt_istore A.1 dL_law_1735 (Nat.le_of_ble_eq_true rfl) rfl rfl ?_
    obtain ⟨v2, P2, hM1, hM2⟩ := hM S1 h1
    show xt_X E cx Z (k + 1) (n + 6) 1737 (xt_lv9 E b i (some (.int (nI q))) none none) [] S1
    refine xt_aload_n A.1 dL_law_1737 rfl ?_
    refine xt_arg A 1 (by omega) (by decide) dL_law_1738 dL_law_1739 dL_law_1741 dL_law_1742 dL_law_1743 ?_
    refine xt_arg A 2 (by omega) (by decide) dL_law_1744 dL_law_1745 dL_law_1747 dL_law_1748 dL_law_1749 ?_
    refine xt_arg A 3 (by omega) (by decide) dL_law_1750 dL_law_1751 dL_law_1753 dL_law_1754 dL_law_1755 ?_
    refine xt_if_eq (tgt := 1763) A.1 dL_law_1756 (by decide) (fun c9 => absurd c9 c0) (fun _ => ?_)
    refine xt_iconst (v := nI 1) A.1 dL_law_1759 rfl ?_
    refine xt_goto (tgt := 1764) A.1 dL_law_1760 (by decide) ?_
    refine xt_cVq A.1 mv_X6_worst lkL_198 hM1 rfl (by decide) (xt_cl49 _ _) rfl ⟨Nat.le_of_ble_eq_true rfl, Nat.le_of_ble_eq_true rfl, hk.1, hk.2⟩ rfl (Nat.le_of_ble_eq_true rfl) dL_law_1764 (fun v S2 h2 => ?_)
    obtain ⟨rfl, h2⟩ := h2
    obtain ⟨e1, e2, e3⟩ := hM2 S2 h2
    exact xt_tail A hq e1 e2 dL_law_1767 dL_law_1769 dL_law_1770 dL_law_1773 dL_law_1775 dL_law_1780 dL_law_1782 dL_law_1785 dL_law_1786 dL_law_1787 dL_law_1788 dL_law_1790 dL_law_1791 dL_law_1792 dL_law_1797 (by decide) hk (kk S2 e3)
set_option maxRecDepth 20000 in
set_option maxHeartbeats 2000000 in
theorem la_meanSquare (A : xt_LA E cx b L xs) (hi : i + 6 ≤ L) (hk : k + 1 ≤ 601024 ∧ n + 6 ≤ 7293034) (hI : xt_Inv S) (kk : ∀ S9, xt_Inv S9 → xt_X E cx Z (k + 1) (n + 6) 2308 (xt_lv9 E b i none none none) [] S9) : xt_X E cx Z k n 1800 (xt_lv9 E b i none none none) [] S := by
  obtain ⟨q, P1, hq, hW, hM⟩ := st_meanSquare (E := E) (l := cx.2.1) A.2.2.2.2.2 hI (xs (i + 1))
  refine xt_aload_n A.1 dL_law_1800 rfl ?_
  refine xt_arg A 1 (by omega) (by decide) dL_law_1801 dL_law_1802 dL_law_1804 dL_law_1805 dL_law_1806 ?_
  refine xt_aload A.1 dL_law_1807 rfl ?_
  refine xt_callSH A.1 mh_L_meanSquare lkL_199 hW rfl ⟨Nat.le_of_ble_eq_true rfl, Nat.le_of_ble_eq_true rfl, hk.1, hk.2⟩ rfl (Nat.le_of_ble_eq_true rfl) dL_law_1809 (fun v S1 h1 => ?_)
  obtain ⟨rfl, h1⟩ := h1
  show xt_X E cx Z (k + 1) (n + 6) 1812 _ [.int (nI q)] S1
  refine xt_istore A.1 dL_law_1812 (Nat.le_of_ble_eq_true rfl) rfl rfl ?_
  obtain ⟨v2, P2, hM1, hM2⟩ := hM S1 h1
  show xt_X E cx Z (k + 1) (n + 6) 1814 (xt_lv9 E b i (some (.int (nI q))) none none) [] S1
  refine xt_aload_n A.1 dL_law_1814 rfl ?_
  refine xt_arg A 1 (by omega) (by decide) dL_law_1815 dL_law_1816 dL_law_1818 dL_law_1819 dL_law_1820 ?_
  refine xt_cVq A.1 mv_X6_meanSquare lkL_202 hM1 rfl (by decide) (xt_cl49 _ _) rfl ⟨Nat.le_of_ble_eq_true rfl, Nat.le_of_ble_eq_true rfl, hk.1, hk.2⟩ rfl (Nat.le_of_ble_eq_true rfl) dL_law_1821 (fun v S2 h2 => ?_)
  obtain ⟨rfl, h2⟩ := h2
  obtain ⟨e1, e2, e3⟩ := hM2 S2 h2
  show xt_X E cx Z (k + 1) (n + 6) 1824 (xt_lv9 E b i (some (.int (nI q))) none none) [.double v2] S2
  have hend : xt_X E cx Z (k + 1) (n + 6) 1874 (xt_lv9 E b i (some (.int (nI q))) (some (.double v2)) none) [] S2 := by
    refine xt_goto (tgt := 2308) A.1 dL_law_1874 (by decide) ?_
    exact xt_fg (by repeat' constructor) (kk S2 e3)
  refine xt_dst A (fun w h => by cases h; rfl) dL_law_1824 ?_
  refine xt_aload_n A.1 dL_law_1826 rfl ?_
  refine xt_cV A.1 mv_X6_thrown lkL_130 (ct_mthrown e1) rfl (by decide) (xt_cl49 _ _) rfl ⟨Nat.le_of_ble_eq_true rfl, Nat.le_of_ble_eq_true rfl, hk.1, hk.2⟩ rfl (Nat.le_of_ble_eq_true rfl) dL_law_1827 ?_
  refine xt_iload A.1 dL_law_1830 rfl ?_
  refine xt_icmp_eq (tgt := 1837) A.1 dL_law_1832 (by decide) (fun c9 => ?_) (fun c9 => absurd rfl c9)
  refine xt_iload A.1 dL_law_1837 rfl ?_
  refine xt_if_ne (tgt := 1874) A.1 dL_law_1839 (by decide) (fun c9 => hend) (fun c9 => ?_)
  have hq0 : q = 0 := (nI_eq (by omega) (by omega)).mp (c9.trans nI_0.symm)
  obtain ⟨e4, e5⟩ := e2 hq0
  refine xt_aload A.1 dL_law_1842 rfl ?_
  refine xt_iconst (v := nI 0) A.1 dL_law_1844 rfl ?_
  refine xt_dald (v := v2) A.1 (by decide) (xt_cl68 _) (vp_in_nI (by decide) (by decide)) (by rw [nI_clamp (by decide)]; exact e4) dL_law_1845 ?_
  refine xt_dload A.1 dL_law_1846 rfl ?_
  refine xt_dcmp A.1 dL_law_1848 ?_
  rw [e5]
  exact xt_if_eq (tgt := 1874) A.1 dL_law_1849 (by decide) (fun c9 => hend) (fun c9 => absurd rfl c9)
end XR3
