theorem tb_1130 : Cond.fieldLink RX11 92 "LitCoastModel" "drawnRow" "[I" ∈ aTb := tm_5_21 (List.mem_of_getElem? (i := 2) rfl) rfl
theorem tb_1131 : Cond.fieldLink RX11 95 "LitCoastModel" "drawnMany" "I" ∈ aTb := tm_5_21 (List.mem_of_getElem? (i := 3) rfl) rfl
theorem tb_1132 : Cond.fieldLink RX11 347 "LitCoastModel" "drawnFails" "I" ∈ aTb := tm_5_21 (List.mem_of_getElem? (i := 4) rfl) rfl
theorem tb_1133 : Cond.fieldLink RX11 344 "LitCoastModel" "latest" "I" ∈ aTb := tm_5_21 (List.mem_of_getElem? (i := 5) rfl) rfl
theorem tb_1219 : Cond.methodLink RL 180 yX11_image ∈ aTb := tm_6_2 (List.mem_of_getElem? (i := 3) rfl) rfl
theorem tb_1220 : Cond.instanceMethod yX11_image ∈ aTb := tm_6_2 (List.mem_of_getElem? (i := 4) rfl) rfl
theorem tb_1221 : Cond.selects RX11 yX11_image yX11_image ∈ aTb := tm_6_2 (List.mem_of_getElem? (i := 5) rfl) rfl
theorem tb_1223 : Cond.methodLink RX11 101 yX11_lies ∈ aTb := tm_6_2 (List.mem_of_getElem? (i := 7) rfl) rfl
theorem tb_1224 : Cond.static yX11_lies ∈ aTb := tm_6_3 (List.mem_of_getElem? (i := 0) rfl) rfl
theorem tb_1226 : Cond.methodLink RX11 105 yX11_refuses ∈ aTb := tm_6_3 (List.mem_of_getElem? (i := 2) rfl) rfl
theorem tb_1228 : Cond.instanceMethod yX11_refuses ∈ aTb := tm_6_3 (List.mem_of_getElem? (i := 4) rfl) rfl
theorem tb_1230 : Cond.methodLink RX11 109 yX11_good ∈ aTb := tm_6_3 (List.mem_of_getElem? (i := 6) rfl) rfl
theorem tb_1232 : Cond.instanceMethod yX11_good ∈ aTb := tm_6_4 (List.mem_of_getElem? (i := 0) rfl) rfl
theorem tb_1234 : Cond.methodLink RL 184 yX11_back ∈ aTb := tm_6_4 (List.mem_of_getElem? (i := 2) rfl) rfl
theorem tb_1235 : Cond.instanceMethod yX11_back ∈ aTb := tm_6_4 (List.mem_of_getElem? (i := 3) rfl) rfl
theorem tb_1236 : Cond.selects RX11 yX11_back yX11_back ∈ aTb := tm_6_4 (List.mem_of_getElem? (i := 4) rfl) rfl
theorem tb_1238 : Cond.methodLink RL 17 yX11_lamps ∈ aTb := tm_6_4 (List.mem_of_getElem? (i := 6) rfl) rfl
theorem tb_1239 : Cond.instanceMethod yX11_lamps ∈ aTb := tm_6_4 (List.mem_of_getElem? (i := 7) rfl) rfl
theorem tb_1240 : Cond.selects RX11 yX11_lamps yX11_lamps ∈ aTb := tm_6_5 (List.mem_of_getElem? (i := 0) rfl) rfl
theorem tb_1242 : Cond.methodLink RL 21 yX11_news ∈ aTb := tm_6_5 (List.mem_of_getElem? (i := 2) rfl) rfl
theorem tb_1243 : Cond.instanceMethod yX11_news ∈ aTb := tm_6_5 (List.mem_of_getElem? (i := 3) rfl) rfl
theorem tb_1244 : Cond.selects RX11 yX11_news yX11_news ∈ aTb := tm_6_5 (List.mem_of_getElem? (i := 4) rfl) rfl
theorem tb_1246 : Cond.methodLink RL 26 yX11_oil ∈ aTb := tm_6_5 (List.mem_of_getElem? (i := 6) rfl) rfl
theorem tb_1247 : Cond.instanceMethod yX11_oil ∈ aTb := tm_6_5 (List.mem_of_getElem? (i := 7) rfl) rfl
theorem tb_1248 : Cond.selects RX11 yX11_oil yX11_oil ∈ aTb := tm_6_6 (List.mem_of_getElem? (i := 0) rfl) rfl
theorem tb_1250 : Cond.methodLink RX11 116 yX11_isLamp ∈ aTb := tm_6_6 (List.mem_of_getElem? (i := 2) rfl) rfl
theorem tb_1252 : Cond.instanceMethod yX11_isLamp ∈ aTb := tm_6_6 (List.mem_of_getElem? (i := 4) rfl) rfl
theorem tb_1254 : Cond.methodLink RL 30 yX11_broken ∈ aTb := tm_6_6 (List.mem_of_getElem? (i := 6) rfl) rfl
theorem tb_1255 : Cond.instanceMethod yX11_broken ∈ aTb := tm_6_6 (List.mem_of_getElem? (i := 7) rfl) rfl
theorem tb_1256 : Cond.selects RX11 yX11_broken yX11_broken ∈ aTb := tm_6_7 (List.mem_of_getElem? (i := 0) rfl) rfl
theorem tb_1258 : Cond.methodLink RL 34 yX11_read ∈ aTb := tm_6_7 (List.mem_of_getElem? (i := 2) rfl) rfl
theorem tb_1259 : Cond.instanceMethod yX11_read ∈ aTb := tm_6_7 (List.mem_of_getElem? (i := 3) rfl) rfl
theorem tb_1260 : Cond.selects RX11 yX11_read yX11_read ∈ aTb := tm_6_7 (List.mem_of_getElem? (i := 4) rfl) rfl
theorem tb_1262 : Cond.methodLink RX11 120 yX11_isState ∈ aTb := tm_6_7 (List.mem_of_getElem? (i := 6) rfl) rfl
theorem tb_1264 : Cond.instanceMethod yX11_isState ∈ aTb := tm_6_8 (List.mem_of_getElem? (i := 0) rfl) rfl
theorem tb_1266 : Cond.methodLink RX11 112 yX11_states ∈ aTb := tm_6_8 (List.mem_of_getElem? (i := 2) rfl) rfl
theorem tb_1268 : Cond.instanceMethod yX11_states ∈ aTb := tm_6_8 (List.mem_of_getElem? (i := 4) rfl) rfl
theorem tb_1270 : Cond.methodLink RX11 123 yX11_isNews ∈ aTb := tm_6_8 (List.mem_of_getElem? (i := 6) rfl) rfl
theorem tb_1272 : Cond.instanceMethod yX11_isNews ∈ aTb := tm_6_9 (List.mem_of_getElem? (i := 0) rfl) rfl
theorem tb_1274 : Cond.methodLink RX11 126 yX11_readOf ∈ aTb := tm_6_9 (List.mem_of_getElem? (i := 2) rfl) rfl
theorem tb_1276 : Cond.instanceMethod yX11_readOf ∈ aTb := tm_6_9 (List.mem_of_getElem? (i := 4) rfl) rfl
theorem tb_1278 : Cond.methodLink RL 38 yX11_of ∈ aTb := tm_6_9 (List.mem_of_getElem? (i := 6) rfl) rfl
theorem tb_1279 : Cond.instanceMethod yX11_of ∈ aTb := tm_6_9 (List.mem_of_getElem? (i := 7) rfl) rfl
theorem tb_1280 : Cond.selects RX11 yX11_of yX11_of ∈ aTb := tm_6_10 (List.mem_of_getElem? (i := 0) rfl) rfl
theorem tb_1282 : Cond.methodLink RL 52 yX11_row ∈ aTb := tm_6_10 (List.mem_of_getElem? (i := 2) rfl) rfl
theorem tb_1283 : Cond.instanceMethod yX11_row ∈ aTb := tm_6_10 (List.mem_of_getElem? (i := 3) rfl) rfl
theorem tb_1284 : Cond.selects RX11 yX11_row yX11_row ∈ aTb := tm_6_10 (List.mem_of_getElem? (i := 4) rfl) rfl
theorem tb_1286 : Cond.methodLink RX11 132 yX11_greater ∈ aTb := tm_6_10 (List.mem_of_getElem? (i := 6) rfl) rfl
theorem tb_1287 : Cond.static yX11_greater ∈ aTb := tm_6_10 (List.mem_of_getElem? (i := 7) rfl) rfl
theorem tb_1289 : Cond.methodLink RX11 139 yX11_readMany ∈ aTb := tm_6_11 (List.mem_of_getElem? (i := 1) rfl) rfl
theorem tb_1291 : Cond.instanceMethod yX11_readMany ∈ aTb := tm_6_11 (List.mem_of_getElem? (i := 3) rfl) rfl
theorem tb_1293 : Cond.methodLink RL 56 yX11_torn ∈ aTb := tm_6_11 (List.mem_of_getElem? (i := 5) rfl) rfl
theorem tb_1294 : Cond.instanceMethod yX11_torn ∈ aTb := tm_6_11 (List.mem_of_getElem? (i := 6) rfl) rfl
theorem tb_1295 : Cond.selects RX11 yX11_torn yX11_torn ∈ aTb := tm_6_11 (List.mem_of_getElem? (i := 7) rfl) rfl
theorem tb_1297 : Cond.methodLink RL 43 yX11_feed ∈ aTb := tm_6_12 (List.mem_of_getElem? (i := 1) rfl) rfl
theorem tb_1298 : Cond.instanceMethod yX11_feed ∈ aTb := tm_6_12 (List.mem_of_getElem? (i := 2) rfl) rfl
theorem tb_1299 : Cond.selects RX11 yX11_feed yX11_feed ∈ aTb := tm_6_12 (List.mem_of_getElem? (i := 3) rfl) rfl
theorem tb_1301 : Cond.methodLink RL 47 yX11_end ∈ aTb := tm_6_12 (List.mem_of_getElem? (i := 5) rfl) rfl
theorem tb_1302 : Cond.instanceMethod yX11_end ∈ aTb := tm_6_12 (List.mem_of_getElem? (i := 6) rfl) rfl
theorem tb_1303 : Cond.selects RX11 yX11_end yX11_end ∈ aTb := tm_6_12 (List.mem_of_getElem? (i := 7) rfl) rfl
theorem tb_1305 : Cond.methodLink RL 60 yX11_law ∈ aTb := tm_6_13 (List.mem_of_getElem? (i := 1) rfl) rfl
theorem tb_1306 : Cond.instanceMethod yX11_law ∈ aTb := tm_6_13 (List.mem_of_getElem? (i := 2) rfl) rfl
theorem tb_1307 : Cond.selects RX11 yX11_law yX11_law ∈ aTb := tm_6_13 (List.mem_of_getElem? (i := 3) rfl) rfl
theorem tb_1309 : Cond.methodLink RX11 209 yX11_reads ∈ aTb := tm_6_13 (List.mem_of_getElem? (i := 5) rfl) rfl
theorem tb_1311 : Cond.instanceMethod yX11_reads ∈ aTb := tm_6_13 (List.mem_of_getElem? (i := 7) rfl) rfl
theorem tb_1313 : Cond.methodLink RX11 203 yX11_splits ∈ aTb := tm_6_14 (List.mem_of_getElem? (i := 1) rfl) rfl
theorem tb_1315 : Cond.instanceMethod yX11_splits ∈ aTb := tm_6_14 (List.mem_of_getElem? (i := 3) rfl) rfl
theorem tb_1317 : Cond.methodLink RX11 145 yX11_isSmall ∈ aTb := tm_6_14 (List.mem_of_getElem? (i := 5) rfl) rfl
theorem tb_1318 : Cond.static yX11_isSmall ∈ aTb := tm_6_14 (List.mem_of_getElem? (i := 6) rfl) rfl
theorem tb_1320 : Cond.methodLink RX11 148 yX11_isDigit ∈ aTb := tm_6_15 (List.mem_of_getElem? (i := 0) rfl) rfl
theorem tb_1321 : Cond.static yX11_isDigit ∈ aTb := tm_6_15 (List.mem_of_getElem? (i := 1) rfl) rfl
theorem tb_1323 : Cond.methodLink RX11 151 yX11_wordOf ∈ aTb := tm_6_15 (List.mem_of_getElem? (i := 3) rfl) rfl
theorem tb_1325 : Cond.instanceMethod yX11_wordOf ∈ aTb := tm_6_15 (List.mem_of_getElem? (i := 5) rfl) rfl
theorem tb_1327 : Cond.constant RX11 154 (Int32.ofInt (1000000)) ∈ aTb := tm_6_15 (List.mem_of_getElem? (i := 7) rfl) rfl
theorem tb_1328 : Cond.methodLink RX11 206 yX11_readClause ∈ aTb := tm_6_16 (List.mem_of_getElem? (i := 0) rfl) rfl
theorem tb_1330 : Cond.instanceMethod yX11_readClause ∈ aTb := tm_6_16 (List.mem_of_getElem? (i := 2) rfl) rfl
theorem tb_1332 : Cond.methodLink RX11 174 yX11_must ∈ aTb := tm_6_16 (List.mem_of_getElem? (i := 4) rfl) rfl
theorem tb_1334 : Cond.instanceMethod yX11_must ∈ aTb := tm_6_16 (List.mem_of_getElem? (i := 6) rfl) rfl
theorem tb_1336 : Cond.methodLink RX11 165 yX11_takes0 ∈ aTb := tm_6_17 (List.mem_of_getElem? (i := 0) rfl) rfl
theorem tb_1338 : Cond.instanceMethod yX11_takes0 ∈ aTb := tm_6_17 (List.mem_of_getElem? (i := 2) rfl) rfl
theorem tb_1340 : Cond.methodLink RX11 158 yX11_fine ∈ aTb := tm_6_17 (List.mem_of_getElem? (i := 4) rfl) rfl
theorem tb_1342 : Cond.instanceMethod yX11_fine ∈ aTb := tm_6_17 (List.mem_of_getElem? (i := 6) rfl) rfl
theorem tb_1344 : Cond.methodLink RX11 168 yX11_faults ∈ aTb := tm_6_18 (List.mem_of_getElem? (i := 0) rfl) rfl
theorem tb_1346 : Cond.instanceMethod yX11_faults ∈ aTb := tm_6_18 (List.mem_of_getElem? (i := 2) rfl) rfl
theorem tb_1348 : Cond.methodLink RX11 178 yX11_readSum ∈ aTb := tm_6_18 (List.mem_of_getElem? (i := 4) rfl) rfl
theorem tb_1350 : Cond.instanceMethod yX11_readSum ∈ aTb := tm_6_18 (List.mem_of_getElem? (i := 6) rfl) rfl
theorem tb_1352 : Cond.methodLink RX11 194 yX11_readTerm ∈ aTb := tm_6_19 (List.mem_of_getElem? (i := 0) rfl) rfl
theorem tb_1354 : Cond.instanceMethod yX11_readTerm ∈ aTb := tm_6_19 (List.mem_of_getElem? (i := 2) rfl) rfl
theorem tb_1356 : Cond.methodLink RX11 197 yX11_readPart ∈ aTb := tm_6_19 (List.mem_of_getElem? (i := 4) rfl) rfl
theorem tb_1358 : Cond.instanceMethod yX11_readPart ∈ aTb := tm_6_19 (List.mem_of_getElem? (i := 6) rfl) rfl
theorem tb_1360 : Cond.methodLink RX11 190 yX11_sign ∈ aTb := tm_6_20 (List.mem_of_getElem? (i := 0) rfl) rfl
theorem tb_1361 : Cond.static yX11_sign ∈ aTb := tm_6_20 (List.mem_of_getElem? (i := 1) rfl) rfl
theorem tb_1363 : Cond.methodLink RX11 200 yX11_leaf ∈ aTb := tm_6_20 (List.mem_of_getElem? (i := 3) rfl) rfl
theorem tb_1365 : Cond.instanceMethod yX11_leaf ∈ aTb := tm_6_20 (List.mem_of_getElem? (i := 5) rfl) rfl
theorem tb_1367 : Cond.methodLink RX11 181 yX11_readTest ∈ aTb := tm_6_20 (List.mem_of_getElem? (i := 7) rfl) rfl
theorem tb_1369 : Cond.instanceMethod yX11_readTest ∈ aTb := tm_6_21 (List.mem_of_getElem? (i := 1) rfl) rfl
theorem tb_1371 : Cond.methodLink RX11 184 yX11_readBoth ∈ aTb := tm_6_21 (List.mem_of_getElem? (i := 3) rfl) rfl
theorem tb_1373 : Cond.instanceMethod yX11_readBoth ∈ aTb := tm_6_21 (List.mem_of_getElem? (i := 5) rfl) rfl
theorem tb_1375 : Cond.methodLink RX11 187 yX11_readPlain ∈ aTb := tm_6_21 (List.mem_of_getElem? (i := 7) rfl) rfl
theorem tb_1377 : Cond.instanceMethod yX11_readPlain ∈ aTb := tm_6_22 (List.mem_of_getElem? (i := 1) rfl) rfl
theorem tb_1379 : Cond.methodLink RL 64 yX11_fault ∈ aTb := tm_6_22 (List.mem_of_getElem? (i := 3) rfl) rfl
theorem tb_1380 : Cond.instanceMethod yX11_fault ∈ aTb := tm_6_22 (List.mem_of_getElem? (i := 4) rfl) rfl
theorem tb_1381 : Cond.selects RX11 yX11_fault yX11_fault ∈ aTb := tm_6_22 (List.mem_of_getElem? (i := 5) rfl) rfl
theorem tb_1383 : Cond.methodLink RL 68 yX11_learn ∈ aTb := tm_6_22 (List.mem_of_getElem? (i := 7) rfl) rfl
theorem tb_1384 : Cond.instanceMethod yX11_learn ∈ aTb := tm_6_23 (List.mem_of_getElem? (i := 0) rfl) rfl
theorem tb_1385 : Cond.selects RX11 yX11_learn yX11_learn ∈ aTb := tm_6_23 (List.mem_of_getElem? (i := 1) rfl) rfl
theorem tb_1387 : Cond.methodLink RX11 264 yX11_asksOf ∈ aTb := tm_6_23 (List.mem_of_getElem? (i := 3) rfl) rfl
theorem tb_1389 : Cond.instanceMethod yX11_asksOf ∈ aTb := tm_6_23 (List.mem_of_getElem? (i := 5) rfl) rfl
theorem tb_1391 : Cond.methodLink RX11 259 yX11_ones ∈ aTb := tm_6_23 (List.mem_of_getElem? (i := 7) rfl) rfl
theorem tb_1392 : Cond.static yX11_ones ∈ aTb := tm_6_24 (List.mem_of_getElem? (i := 0) rfl) rfl
theorem tb_1394 : Cond.methodLink RX11 267 yX11_toldBy ∈ aTb := tm_6_24 (List.mem_of_getElem? (i := 2) rfl) rfl
theorem tb_1396 : Cond.instanceMethod yX11_toldBy ∈ aTb := tm_6_24 (List.mem_of_getElem? (i := 4) rfl) rfl
theorem tb_1398 : Cond.constantLong RX11 262 (Int64.ofInt (-1)) ∈ aTb := tm_6_24 (List.mem_of_getElem? (i := 6) rfl) rfl
theorem tb_1399 : Cond.methodLink RX11 243 yX11_sumOf ∈ aTb := tm_6_24 (List.mem_of_getElem? (i := 7) rfl) rfl
theorem tb_1401 : Cond.instanceMethod yX11_sumOf ∈ aTb := tm_6_25 (List.mem_of_getElem? (i := 1) rfl) rfl
theorem tb_1403 : Cond.methodLink RX11 229 yX11_termOf ∈ aTb := tm_6_25 (List.mem_of_getElem? (i := 3) rfl) rfl
theorem tb_1405 : Cond.instanceMethod yX11_termOf ∈ aTb := tm_6_25 (List.mem_of_getElem? (i := 5) rfl) rfl
theorem tb_1407 : Cond.methodLink RX11 237 yX11_partOf ∈ aTb := tm_6_25 (List.mem_of_getElem? (i := 7) rfl) rfl
theorem tb_1409 : Cond.instanceMethod yX11_partOf ∈ aTb := tm_6_26 (List.mem_of_getElem? (i := 1) rfl) rfl
theorem tb_1411 : Cond.methodLink RX11 240 yX11_passes0 ∈ aTb := tm_6_26 (List.mem_of_getElem? (i := 3) rfl) rfl
theorem tb_1413 : Cond.instanceMethod yX11_passes0 ∈ aTb := tm_6_26 (List.mem_of_getElem? (i := 5) rfl) rfl
theorem tb_1415 : Cond.methodLink RX11 218 yX11_codeAt ∈ aTb := tm_6_26 (List.mem_of_getElem? (i := 7) rfl) rfl
theorem tb_1417 : Cond.instanceMethod yX11_codeAt ∈ aTb := tm_6_27 (List.mem_of_getElem? (i := 1) rfl) rfl
theorem tb_1419 : Cond.methodLink RX11 233 yX11_bounded ∈ aTb := tm_6_27 (List.mem_of_getElem? (i := 3) rfl) rfl
theorem tb_1421 : Cond.instanceMethod yX11_bounded ∈ aTb := tm_6_27 (List.mem_of_getElem? (i := 5) rfl) rfl
theorem tb_1423 : Cond.constantLong RX11 221 (Int64.ofInt (1000000000)) ∈ aTb := tm_6_27 (List.mem_of_getElem? (i := 7) rfl) rfl
theorem tb_1424 : Cond.constantLong RX11 223 (Int64.ofInt (-1000000000)) ∈ aTb := tm_6_28 (List.mem_of_getElem? (i := 0) rfl) rfl
theorem tb_1425 : Cond.methodLink RX11 256 yX11_testOf ∈ aTb := tm_6_28 (List.mem_of_getElem? (i := 1) rfl) rfl
theorem tb_1427 : Cond.instanceMethod yX11_testOf ∈ aTb := tm_6_28 (List.mem_of_getElem? (i := 3) rfl) rfl
theorem tb_1429 : Cond.methodLink RX11 246 yX11_bothOf ∈ aTb := tm_6_28 (List.mem_of_getElem? (i := 5) rfl) rfl
theorem tb_1431 : Cond.instanceMethod yX11_bothOf ∈ aTb := tm_6_28 (List.mem_of_getElem? (i := 7) rfl) rfl
theorem tb_1433 : Cond.methodLink RX11 250 yX11_plainOf ∈ aTb := tm_6_29 (List.mem_of_getElem? (i := 1) rfl) rfl
theorem tb_1435 : Cond.instanceMethod yX11_plainOf ∈ aTb := tm_6_29 (List.mem_of_getElem? (i := 3) rfl) rfl
theorem tb_1437 : Cond.methodLink RX11 253 yX11_positiveOf ∈ aTb := tm_6_29 (List.mem_of_getElem? (i := 5) rfl) rfl
theorem tb_1439 : Cond.instanceMethod yX11_positiveOf ∈ aTb := tm_6_29 (List.mem_of_getElem? (i := 7) rfl) rfl
theorem tb_1441 : Cond.methodLink RL 81 yX11_lasts ∈ aTb := tm_7_0 (List.mem_of_getElem? (i := 1) rfl) rfl
theorem tb_1442 : Cond.instanceMethod yX11_lasts ∈ aTb := tm_7_0 (List.mem_of_getElem? (i := 2) rfl) rfl
theorem tb_1443 : Cond.selects RX11 yX11_lasts yX11_lasts ∈ aTb := tm_7_0 (List.mem_of_getElem? (i := 3) rfl) rfl
theorem tb_1445 : Cond.methodLink RX11 294 yX11_looks ∈ aTb := tm_7_0 (List.mem_of_getElem? (i := 5) rfl) rfl
theorem tb_1447 : Cond.instanceMethod yX11_looks ∈ aTb := tm_7_0 (List.mem_of_getElem? (i := 7) rfl) rfl
theorem tb_1449 : Cond.methodLink RX11 285 yX11_lasts0 ∈ aTb := tm_7_1 (List.mem_of_getElem? (i := 1) rfl) rfl
theorem tb_1451 : Cond.instanceMethod yX11_lasts0 ∈ aTb := tm_7_1 (List.mem_of_getElem? (i := 3) rfl) rfl
theorem tb_1453 : Cond.methodLink RX11 291 yX11_lastingOf ∈ aTb := tm_7_1 (List.mem_of_getElem? (i := 5) rfl) rfl
theorem tb_1455 : Cond.instanceMethod yX11_lastingOf ∈ aTb := tm_7_1 (List.mem_of_getElem? (i := 7) rfl) rfl
theorem tb_1457 : Cond.constant RX11 270 (Int32.ofInt (1000000000)) ∈ aTb := tm_7_2 (List.mem_of_getElem? (i := 1) rfl) rfl
theorem tb_1458 : Cond.methodLink RX11 271 yX11_canCome ∈ aTb := tm_7_2 (List.mem_of_getElem? (i := 2) rfl) rfl
theorem tb_1460 : Cond.instanceMethod yX11_canCome ∈ aTb := tm_7_2 (List.mem_of_getElem? (i := 4) rfl) rfl
theorem tb_1462 : Cond.methodLink RX11 288 yX11_meanOf ∈ aTb := tm_7_2 (List.mem_of_getElem? (i := 6) rfl) rfl
theorem tb_1464 : Cond.instanceMethod yX11_meanOf ∈ aTb := tm_7_3 (List.mem_of_getElem? (i := 0) rfl) rfl
theorem tb_1466 : Cond.methodLink RX11 274 yX11_dark ∈ aTb := tm_7_3 (List.mem_of_getElem? (i := 2) rfl) rfl
theorem tb_1468 : Cond.instanceMethod yX11_dark ∈ aTb := tm_7_3 (List.mem_of_getElem? (i := 4) rfl) rfl
theorem tb_1470 : Cond.methodLink RX11 277 yX11_power ∈ aTb := tm_7_3 (List.mem_of_getElem? (i := 6) rfl) rfl
theorem tb_1472 : Cond.instanceMethod yX11_power ∈ aTb := tm_7_4 (List.mem_of_getElem? (i := 0) rfl) rfl
theorem tb_1474 : Cond.methodLink RX11 281 yX11_meanIn ∈ aTb := tm_7_4 (List.mem_of_getElem? (i := 2) rfl) rfl
theorem tb_1476 : Cond.instanceMethod yX11_meanIn ∈ aTb := tm_7_4 (List.mem_of_getElem? (i := 4) rfl) rfl
theorem tb_1478 : Cond.methodLink RL 86 yX11_mean ∈ aTb := tm_7_4 (List.mem_of_getElem? (i := 6) rfl) rfl
theorem tb_1479 : Cond.instanceMethod yX11_mean ∈ aTb := tm_7_4 (List.mem_of_getElem? (i := 7) rfl) rfl
theorem tb_1480 : Cond.selects RX11 yX11_mean yX11_mean ∈ aTb := tm_7_5 (List.mem_of_getElem? (i := 0) rfl) rfl
theorem tb_1482 : Cond.methodLink RX11 297 yX11_gcd ∈ aTb := tm_7_5 (List.mem_of_getElem? (i := 2) rfl) rfl
theorem tb_1483 : Cond.static yX11_gcd ∈ aTb := tm_7_5 (List.mem_of_getElem? (i := 3) rfl) rfl
theorem tb_1485 : Cond.methodLink RL 73 yX11_next ∈ aTb := tm_7_5 (List.mem_of_getElem? (i := 5) rfl) rfl
theorem tb_1486 : Cond.instanceMethod yX11_next ∈ aTb := tm_7_5 (List.mem_of_getElem? (i := 6) rfl) rfl
theorem tb_1487 : Cond.selects RX11 yX11_next yX11_next ∈ aTb := tm_7_5 (List.mem_of_getElem? (i := 7) rfl) rfl
theorem tb_1489 : Cond.methodLink RX11 308 yX11_isManner ∈ aTb := tm_7_6 (List.mem_of_getElem? (i := 1) rfl) rfl
theorem tb_1490 : Cond.static yX11_isManner ∈ aTb := tm_7_6 (List.mem_of_getElem? (i := 2) rfl) rfl
theorem tb_1492 : Cond.methodLink RX11 311 yX11_nextOf ∈ aTb := tm_7_6 (List.mem_of_getElem? (i := 4) rfl) rfl
theorem tb_1494 : Cond.instanceMethod yX11_nextOf ∈ aTb := tm_7_6 (List.mem_of_getElem? (i := 6) rfl) rfl
theorem tb_1496 : Cond.methodLink RX11 304 yX11_isBetter ∈ aTb := tm_7_7 (List.mem_of_getElem? (i := 0) rfl) rfl
theorem tb_1498 : Cond.instanceMethod yX11_isBetter ∈ aTb := tm_7_7 (List.mem_of_getElem? (i := 2) rfl) rfl
theorem tb_1500 : Cond.methodLink RX11 301 yX11_oilOf ∈ aTb := tm_7_7 (List.mem_of_getElem? (i := 4) rfl) rfl
theorem tb_1502 : Cond.instanceMethod yX11_oilOf ∈ aTb := tm_7_7 (List.mem_of_getElem? (i := 6) rfl) rfl
theorem tb_1504 : Cond.methodLink RL 77 yX11_ways ∈ aTb := tm_7_8 (List.mem_of_getElem? (i := 0) rfl) rfl
theorem tb_1505 : Cond.instanceMethod yX11_ways ∈ aTb := tm_7_8 (List.mem_of_getElem? (i := 1) rfl) rfl
theorem tb_1506 : Cond.selects RX11 yX11_ways yX11_ways ∈ aTb := tm_7_8 (List.mem_of_getElem? (i := 2) rfl) rfl
theorem tb_1508 : Cond.methodLink RL 90 yX11_reached ∈ aTb := tm_7_8 (List.mem_of_getElem? (i := 4) rfl) rfl
theorem tb_1509 : Cond.instanceMethod yX11_reached ∈ aTb := tm_7_8 (List.mem_of_getElem? (i := 5) rfl) rfl
theorem tb_1510 : Cond.selects RX11 yX11_reached yX11_reached ∈ aTb := tm_7_8 (List.mem_of_getElem? (i := 6) rfl) rfl
theorem tb_1512 : Cond.methodLink RX11 315 yX11_reaches ∈ aTb := tm_7_9 (List.mem_of_getElem? (i := 0) rfl) rfl
theorem tb_1514 : Cond.instanceMethod yX11_reaches ∈ aTb := tm_7_9 (List.mem_of_getElem? (i := 2) rfl) rfl
theorem tb_1516 : Cond.methodLink RL 94 yX11_failing ∈ aTb := tm_7_9 (List.mem_of_getElem? (i := 4) rfl) rfl
theorem tb_1517 : Cond.instanceMethod yX11_failing ∈ aTb := tm_7_9 (List.mem_of_getElem? (i := 5) rfl) rfl
theorem tb_1518 : Cond.selects RX11 yX11_failing yX11_failing ∈ aTb := tm_7_9 (List.mem_of_getElem? (i := 6) rfl) rfl
theorem tb_1520 : Cond.methodLink RX11 321 yX11_failing0 ∈ aTb := tm_7_10 (List.mem_of_getElem? (i := 0) rfl) rfl
theorem tb_1522 : Cond.instanceMethod yX11_failing0 ∈ aTb := tm_7_10 (List.mem_of_getElem? (i := 2) rfl) rfl
theorem tb_1524 : Cond.methodLink RL 98 yX11_hurts ∈ aTb := tm_7_10 (List.mem_of_getElem? (i := 4) rfl) rfl
theorem tb_1525 : Cond.instanceMethod yX11_hurts ∈ aTb := tm_7_10 (List.mem_of_getElem? (i := 5) rfl) rfl
theorem tb_1526 : Cond.selects RX11 yX11_hurts yX11_hurts ∈ aTb := tm_7_10 (List.mem_of_getElem? (i := 6) rfl) rfl
theorem tb_1528 : Cond.methodLink RL 102 yX11_codes ∈ aTb := tm_7_11 (List.mem_of_getElem? (i := 0) rfl) rfl
theorem tb_1529 : Cond.instanceMethod yX11_codes ∈ aTb := tm_7_11 (List.mem_of_getElem? (i := 1) rfl) rfl
theorem tb_1530 : Cond.selects RX11 yX11_codes yX11_codes ∈ aTb := tm_7_11 (List.mem_of_getElem? (i := 2) rfl) rfl
theorem tb_1532 : Cond.methodLink RX11 327 yX11_areCodes ∈ aTb := tm_7_11 (List.mem_of_getElem? (i := 4) rfl) rfl
theorem tb_1533 : Cond.static yX11_areCodes ∈ aTb := tm_7_11 (List.mem_of_getElem? (i := 5) rfl) rfl
theorem tb_1535 : Cond.methodLink RX11 330 yX11_codes0 ∈ aTb := tm_7_11 (List.mem_of_getElem? (i := 7) rfl) rfl
theorem tb_1537 : Cond.instanceMethod yX11_codes0 ∈ aTb := tm_7_12 (List.mem_of_getElem? (i := 1) rfl) rfl
theorem tb_1539 : Cond.methodLink RL 106 yX11_make ∈ aTb := tm_7_12 (List.mem_of_getElem? (i := 3) rfl) rfl
theorem tb_1540 : Cond.instanceMethod yX11_make ∈ aTb := tm_7_12 (List.mem_of_getElem? (i := 4) rfl) rfl
theorem tb_1541 : Cond.selects RX11 yX11_make yX11_make ∈ aTb := tm_7_12 (List.mem_of_getElem? (i := 5) rfl) rfl
theorem tb_1543 : Cond.methodLink RL 110 yX11_send ∈ aTb := tm_7_12 (List.mem_of_getElem? (i := 7) rfl) rfl
theorem tb_1544 : Cond.instanceMethod yX11_send ∈ aTb := tm_7_13 (List.mem_of_getElem? (i := 0) rfl) rfl
theorem tb_1545 : Cond.selects RX11 yX11_send yX11_send ∈ aTb := tm_7_13 (List.mem_of_getElem? (i := 1) rfl) rfl
theorem tb_1547 : Cond.methodLink RL 114 yX11_dawn ∈ aTb := tm_7_13 (List.mem_of_getElem? (i := 3) rfl) rfl
theorem tb_1548 : Cond.instanceMethod yX11_dawn ∈ aTb := tm_7_13 (List.mem_of_getElem? (i := 4) rfl) rfl
theorem tb_1549 : Cond.selects RX11 yX11_dawn yX11_dawn ∈ aTb := tm_7_13 (List.mem_of_getElem? (i := 5) rfl) rfl
theorem tb_1551 : Cond.methodLink RL 118 yX11_log ∈ aTb := tm_7_13 (List.mem_of_getElem? (i := 7) rfl) rfl
theorem tb_1552 : Cond.instanceMethod yX11_log ∈ aTb := tm_7_14 (List.mem_of_getElem? (i := 0) rfl) rfl
theorem tb_1553 : Cond.selects RX11 yX11_log yX11_log ∈ aTb := tm_7_14 (List.mem_of_getElem? (i := 1) rfl) rfl
theorem tb_1555 : Cond.methodLink RL 122 yX11_burnt ∈ aTb := tm_7_14 (List.mem_of_getElem? (i := 3) rfl) rfl
theorem tb_1556 : Cond.instanceMethod yX11_burnt ∈ aTb := tm_7_14 (List.mem_of_getElem? (i := 4) rfl) rfl
theorem tb_1557 : Cond.selects RX11 yX11_burnt yX11_burnt ∈ aTb := tm_7_14 (List.mem_of_getElem? (i := 5) rfl) rfl
theorem tb_1559 : Cond.methodLink RL 126 yX11_trail ∈ aTb := tm_7_14 (List.mem_of_getElem? (i := 7) rfl) rfl
theorem tb_1560 : Cond.instanceMethod yX11_trail ∈ aTb := tm_7_15 (List.mem_of_getElem? (i := 0) rfl) rfl
theorem tb_1561 : Cond.selects RX11 yX11_trail yX11_trail ∈ aTb := tm_7_15 (List.mem_of_getElem? (i := 1) rfl) rfl
theorem tb_1563 : Cond.methodLink RL 130 yX11_judge ∈ aTb := tm_7_15 (List.mem_of_getElem? (i := 3) rfl) rfl
theorem tb_1564 : Cond.instanceMethod yX11_judge ∈ aTb := tm_7_15 (List.mem_of_getElem? (i := 4) rfl) rfl
theorem tb_1565 : Cond.selects RX11 yX11_judge yX11_judge ∈ aTb := tm_7_15 (List.mem_of_getElem? (i := 5) rfl) rfl
theorem tb_1567 : Cond.methodLink RL 135 yX11_rows ∈ aTb := tm_7_15 (List.mem_of_getElem? (i := 7) rfl) rfl
theorem tb_1568 : Cond.instanceMethod yX11_rows ∈ aTb := tm_7_16 (List.mem_of_getElem? (i := 0) rfl) rfl
theorem tb_1569 : Cond.selects RX11 yX11_rows yX11_rows ∈ aTb := tm_7_16 (List.mem_of_getElem? (i := 1) rfl) rfl
theorem tb_1571 : Cond.methodLink RX11 337 yX11_rowsOf ∈ aTb := tm_7_16 (List.mem_of_getElem? (i := 3) rfl) rfl
theorem tb_1573 : Cond.instanceMethod yX11_rowsOf ∈ aTb := tm_7_16 (List.mem_of_getElem? (i := 5) rfl) rfl
theorem tb_1575 : Cond.methodLink RL 140 yX11_could ∈ aTb := tm_7_16 (List.mem_of_getElem? (i := 7) rfl) rfl
theorem tb_1576 : Cond.instanceMethod yX11_could ∈ aTb := tm_7_17 (List.mem_of_getElem? (i := 0) rfl) rfl
theorem tb_1577 : Cond.selects RX11 yX11_could yX11_could ∈ aTb := tm_7_17 (List.mem_of_getElem? (i := 1) rfl) rfl
theorem tb_1579 : Cond.methodLink RL 144 yX11_maybe ∈ aTb := tm_7_17 (List.mem_of_getElem? (i := 3) rfl) rfl
theorem tb_1580 : Cond.instanceMethod yX11_maybe ∈ aTb := tm_7_17 (List.mem_of_getElem? (i := 4) rfl) rfl
theorem tb_1581 : Cond.selects RX11 yX11_maybe yX11_maybe ∈ aTb := tm_7_17 (List.mem_of_getElem? (i := 5) rfl) rfl
theorem tb_1583 : Cond.methodLink RL 148 yX11_safe ∈ aTb := tm_7_17 (List.mem_of_getElem? (i := 7) rfl) rfl
theorem tb_1584 : Cond.instanceMethod yX11_safe ∈ aTb := tm_7_18 (List.mem_of_getElem? (i := 0) rfl) rfl
theorem tb_1585 : Cond.selects RX11 yX11_safe yX11_safe ∈ aTb := tm_7_18 (List.mem_of_getElem? (i := 1) rfl) rfl
theorem tb_1587 : Cond.methodLink RL 152 yX11_spy ∈ aTb := tm_7_18 (List.mem_of_getElem? (i := 3) rfl) rfl
theorem tb_1588 : Cond.instanceMethod yX11_spy ∈ aTb := tm_7_18 (List.mem_of_getElem? (i := 4) rfl) rfl
theorem tb_1589 : Cond.selects RX11 yX11_spy yX11_spy ∈ aTb := tm_7_18 (List.mem_of_getElem? (i := 5) rfl) rfl
theorem tb_1591 : Cond.methodLink RL 156 yX11_want ∈ aTb := tm_7_18 (List.mem_of_getElem? (i := 7) rfl) rfl
theorem tb_1592 : Cond.instanceMethod yX11_want ∈ aTb := tm_7_19 (List.mem_of_getElem? (i := 0) rfl) rfl
theorem tb_1593 : Cond.selects RX11 yX11_want yX11_want ∈ aTb := tm_7_19 (List.mem_of_getElem? (i := 1) rfl) rfl
theorem tb_1595 : Cond.methodLink RL 160 yX11_unwant ∈ aTb := tm_7_19 (List.mem_of_getElem? (i := 3) rfl) rfl
theorem tb_1596 : Cond.instanceMethod yX11_unwant ∈ aTb := tm_7_19 (List.mem_of_getElem? (i := 4) rfl) rfl
theorem tb_1597 : Cond.selects RX11 yX11_unwant yX11_unwant ∈ aTb := tm_7_19 (List.mem_of_getElem? (i := 5) rfl) rfl
theorem tb_1599 : Cond.methodLink RL 164 yX11_cheap ∈ aTb := tm_7_19 (List.mem_of_getElem? (i := 7) rfl) rfl
theorem tb_1600 : Cond.instanceMethod yX11_cheap ∈ aTb := tm_7_20 (List.mem_of_getElem? (i := 0) rfl) rfl
theorem tb_1601 : Cond.selects RX11 yX11_cheap yX11_cheap ∈ aTb := tm_7_20 (List.mem_of_getElem? (i := 1) rfl) rfl
theorem tb_1603 : Cond.methodLink RX11 341 yX11_plans ∈ aTb := tm_7_20 (List.mem_of_getElem? (i := 3) rfl) rfl
theorem tb_1605 : Cond.instanceMethod yX11_plans ∈ aTb := tm_7_20 (List.mem_of_getElem? (i := 5) rfl) rfl
theorem tb_1607 : Cond.methodLink RL 168 yX11_plan ∈ aTb := tm_7_20 (List.mem_of_getElem? (i := 7) rfl) rfl
theorem tb_1608 : Cond.instanceMethod yX11_plan ∈ aTb := tm_7_21 (List.mem_of_getElem? (i := 0) rfl) rfl
theorem tb_1609 : Cond.selects RX11 yX11_plan yX11_plan ∈ aTb := tm_7_21 (List.mem_of_getElem? (i := 1) rfl) rfl
theorem tb_1611 : Cond.methodLink RL 172 yX11_night ∈ aTb := tm_7_21 (List.mem_of_getElem? (i := 3) rfl) rfl
theorem tb_1612 : Cond.instanceMethod yX11_night ∈ aTb := tm_7_21 (List.mem_of_getElem? (i := 4) rfl) rfl
theorem tb_1613 : Cond.selects RX11 yX11_night yX11_night ∈ aTb := tm_7_21 (List.mem_of_getElem? (i := 5) rfl) rfl
theorem tb_1615 : Cond.constantLong RX11 350 (Int64.ofInt (1103)) ∈ aTb := tm_7_21 (List.mem_of_getElem? (i := 7) rfl) rfl
theorem tb_1616 : Cond.constantLong RX11 352 (Int64.ofInt (12345)) ∈ aTb := tm_7_22 (List.mem_of_getElem? (i := 0) rfl) rfl
theorem tb_1617 : Cond.constantLong RX11 354 (Int64.ofInt (1000003)) ∈ aTb := tm_7_22 (List.mem_of_getElem? (i := 1) rfl) rfl
theorem tb_1618 : Cond.methodLink RL 176 yX11_drawn ∈ aTb := tm_7_22 (List.mem_of_getElem? (i := 2) rfl) rfl
theorem tb_1619 : Cond.instanceMethod yX11_drawn ∈ aTb := tm_7_22 (List.mem_of_getElem? (i := 3) rfl) rfl
theorem tb_1620 : Cond.selects RX11 yX11_drawn yX11_drawn ∈ aTb := tm_7_22 (List.mem_of_getElem? (i := 4) rfl) rfl
theorem tb_1622 : Cond.methodLink RL 188 yX11_count ∈ aTb := tm_7_22 (List.mem_of_getElem? (i := 6) rfl) rfl
theorem tb_1623 : Cond.instanceMethod yX11_count ∈ aTb := tm_7_22 (List.mem_of_getElem? (i := 7) rfl) rfl
theorem tb_1624 : Cond.selects RX11 yX11_count yX11_count ∈ aTb := tm_7_23 (List.mem_of_getElem? (i := 0) rfl) rfl
theorem tb_1626 : Cond.methodLink RL 192 yX11_status ∈ aTb := tm_7_23 (List.mem_of_getElem? (i := 2) rfl) rfl
theorem tb_1627 : Cond.instanceMethod yX11_status ∈ aTb := tm_7_23 (List.mem_of_getElem? (i := 3) rfl) rfl
theorem tb_1628 : Cond.selects RX11 yX11_status yX11_status ∈ aTb := tm_7_23 (List.mem_of_getElem? (i := 4) rfl) rfl
theorem tb_1630 : Cond.fieldLink RJ0 9 "java/lang/String" "value" "[B" ∈ aTb := tm_7_23 (List.mem_of_getElem? (i := 6) rfl) rfl
theorem tb_1631 : Cond.fieldLink RJ0 15 "java/lang/String" "coder" "B" ∈ aTb := tm_7_23 (List.mem_of_getElem? (i := 7) rfl) rfl
theorem tk_link : Cond.methodLink RJ7 316 ⟨"[I", "clone", "()Ljava/lang/Object;"⟩ ∈ aTb := tm_3_21 (List.mem_of_getElem? (i := 5) rfl) rfl
theorem tk_same : Cond.sameMethod "[I" "java/lang/Object" "clone" "()Ljava/lang/Object;" ∈ aTb := tm_3_21 (List.mem_of_getElem? (i := 6) rfl) rfl
theorem tk_nat : Cond.native ⟨"java/lang/Object", "clone", "()Ljava/lang/Object;"⟩ ∈ aTb := tm_3_21 (List.mem_of_getElem? (i := 7) rfl) rfl
theorem tk_inst : Cond.instanceMethod ⟨"java/lang/Object", "clone", "()Ljava/lang/Object;"⟩ ∈ aTb := tm_3_22 (List.mem_of_getElem? (i := 0) rfl) rfl
theorem tk_sel : Cond.selects "[I" ⟨"[I", "clone", "()Ljava/lang/Object;"⟩ ⟨"java/lang/Object", "clone", "()Ljava/lang/Object;"⟩ ∈ aTb := tm_3_22 (List.mem_of_getElem? (i := 1) rfl) rfl
abbrev mX0_init : aM := (yX0_init, cX0_init, 1, none)
theorem tc_X0_init : Cond.code yX0_init cX0_init 1 none ∈ aTb := tm_1_21 (List.mem_of_getElem? (i := 0) rfl) rfl
abbrev mX0_ask : aM := (yX0_ask, cX0_ask, 10, (some .int))
theorem tc_X0_ask : Cond.code yX0_ask cX0_ask 10 (some .int) ∈ aTb := tm_3_26 (List.mem_of_getElem? (i := 5) rfl) rfl
abbrev mX0_isSo : aM := (yX0_isSo, cX0_isSo, 4, (some .boolean))
theorem tc_X0_isSo : Cond.code yX0_isSo cX0_isSo 4 (some .boolean) ∈ aTb := tm_3_28 (List.mem_of_getElem? (i := 3) rfl) rfl
abbrev mX0_works : aM := (yX0_works, cX0_works, 9, (some .boolean))
theorem tc_X0_works : Cond.code yX0_works cX0_works 9 (some .boolean) ∈ aTb := tm_3_28 (List.mem_of_getElem? (i := 7) rfl) rfl
abbrev mX0_join : aM := (yX0_join, cX0_join, 9, (some .boolean))
theorem tc_X0_join : Cond.code yX0_join cX0_join 9 (some .boolean) ∈ aTb := tm_3_29 (List.mem_of_getElem? (i := 5) rfl) rfl
abbrev mX0_fillWords : aM := (yX0_fillWords, cX0_fillWords, 8, none)
theorem tc_X0_fillWords : Cond.code yX0_fillWords cX0_fillWords 8 none ∈ aTb := tm_3_27 (List.mem_of_getElem? (i := 1) rfl) rfl
abbrev mX1_init : aM := (yX1_init, cX1_init, 1, none)
theorem tc_X1_init : Cond.code yX1_init cX1_init 1 none ∈ aTb := tm_1_4 (List.mem_of_getElem? (i := 1) rfl) rfl
abbrev mX1_full : aM := (yX1_full, cX1_full, 1, (some .int))
theorem tc_X1_full : Cond.code yX1_full cX1_full 1 (some .int) ∈ aTb := tm_2_23 (List.mem_of_getElem? (i := 1) rfl) rfl
abbrev mX1_isLamp : aM := (yX1_isLamp, cX1_isLamp, 2, (some .boolean))
theorem tc_X1_isLamp : Cond.code yX1_isLamp cX1_isLamp 2 (some .boolean) ∈ aTb := tm_2_21 (List.mem_of_getElem? (i := 1) rfl) rfl
abbrev mX1_isState : aM := (yX1_isState, cX1_isState, 2, (some .boolean))
theorem tc_X1_isState : Cond.code yX1_isState cX1_isState 2 (some .boolean) ∈ aTb := tm_2_22 (List.mem_of_getElem? (i := 5) rfl) rfl
abbrev mX1_isNews : aM := (yX1_isNews, cX1_isNews, 2, (some .boolean))
theorem tc_X1_isNews : Cond.code yX1_isNews cX1_isNews 2 (some .boolean) ∈ aTb := tm_2_23 (List.mem_of_getElem? (i := 5) rfl) rfl
abbrev mX1_isReached : aM := (yX1_isReached, cX1_isReached, 2, (some .boolean))
theorem tc_X1_isReached : Cond.code yX1_isReached cX1_isReached 2 (some .boolean) ∈ aTb := tm_4_13 (List.mem_of_getElem? (i := 5) rfl) rfl
abbrev mX1_canLight : aM := (yX1_canLight, cX1_canLight, 3, (some .boolean))
theorem tc_X1_canLight : Cond.code yX1_canLight cX1_canLight 3 (some .boolean) ∈ aTb := tm_4_6 (List.mem_of_getElem? (i := 2) rfl) rfl
abbrev mX1_newsBit : aM := (yX1_newsBit, cX1_newsBit, 2, (some .int))
theorem tc_X1_newsBit : Cond.code yX1_newsBit cX1_newsBit 2 (some .int) ∈ aTb := tm_5_1 (List.mem_of_getElem? (i := 2) rfl) rfl
abbrev mX1_readCount : aM := (yX1_readCount, cX1_readCount, 4, (some .int))
theorem tc_X1_readCount : Cond.code yX1_readCount cX1_readCount 4 (some .int) ∈ aTb := tm_2_28 (List.mem_of_getElem? (i := 1) rfl) rfl
abbrev mX1_countReached : aM := (yX1_countReached, cX1_countReached, 4, (some .int))
theorem tc_X1_countReached : Cond.code yX1_countReached cX1_countReached 4 (some .int) ∈ aTb := tm_4_13 (List.mem_of_getElem? (i := 1) rfl) rfl
abbrev mX1_countWays : aM := (yX1_countWays, cX1_countWays, 6, (some .int))
theorem tc_X1_countWays : Cond.code yX1_countWays cX1_countWays 6 (some .int) ∈ aTb := tm_4_9 (List.mem_of_getElem? (i := 4) rfl) rfl
abbrev mX1_forget : aM := (yX1_forget, cX1_forget, 1, none)
theorem tc_X1_forget : Cond.code yX1_forget cX1_forget 1 none ∈ aTb := tm_2_18 (List.mem_of_getElem? (i := 1) rfl) rfl
abbrev mX1_copyFrom : aM := (yX1_copyFrom, cX1_copyFrom, 3, none)
theorem tc_X1_copyFrom : Cond.code yX1_copyFrom cX1_copyFrom 3 none ∈ aTb := tm_5_13 (List.mem_of_getElem? (i := 4) rfl) rfl
abbrev mX2_init : aM := (yX2_init, cX2_init, 1, none)
theorem tc_X2_init : Cond.code yX2_init cX2_init 1 none ∈ aTb := tm_2_7 (List.mem_of_getElem? (i := 1) rfl) rfl
abbrev mX2_isSearched : aM := (yX2_isSearched, cX2_isSearched, 3, (some .boolean))
theorem tc_X2_isSearched : Cond.code yX2_isSearched cX2_isSearched 3 (some .boolean) ∈ aTb := tm_4_17 (List.mem_of_getElem? (i := 1) rfl) rfl
abbrev mX2_countCodes : aM := (yX2_countCodes, cX2_countCodes, 5, (some .int))
theorem tc_X2_countCodes : Cond.code yX2_countCodes cX2_countCodes 5 (some .int) ∈ aTb := tm_4_17 (List.mem_of_getElem? (i := 5) rfl) rfl
abbrev mX2_copyFirst : aM := (yX2_copyFirst, cX2_copyFirst, 5, none)
theorem tc_X2_copyFirst : Cond.code yX2_copyFirst cX2_copyFirst 5 none ∈ aTb := tm_4_21 (List.mem_of_getElem? (i := 5) rfl) rfl
abbrev mX2_pairOf : aM := (yX2_pairOf, cX2_pairOf, 2, (some .int))
theorem tc_X2_pairOf : Cond.code yX2_pairOf cX2_pairOf 2 (some .int) ∈ aTb := tm_4_18 (List.mem_of_getElem? (i := 0) rfl) rfl
abbrev mX2_search : aM := (yX2_search, cX2_search, 7, none)
theorem tc_X2_search : Cond.code yX2_search cX2_search 7 none ∈ aTb := tm_4_18 (List.mem_of_getElem? (i := 4) rfl) rfl
abbrev mX2_note : aM := (yX2_note, cX2_note, 6, none)
theorem tc_X2_note : Cond.code yX2_note cX2_note 6 none ∈ aTb := tm_4_19 (List.mem_of_getElem? (i := 6) rfl) rfl
abbrev mX2_namings : aM := (yX2_namings, cX2_namings, 4, (some .int))
theorem tc_X2_namings : Cond.code yX2_namings cX2_namings 4 (some .int) ∈ aTb := tm_4_19 (List.mem_of_getElem? (i := 2) rfl) rfl
abbrev mX2_turnOn : aM := (yX2_turnOn, cX2_turnOn, 5, (some .boolean))
theorem tc_X2_turnOn : Cond.code yX2_turnOn cX2_turnOn 5 (some .boolean) ∈ aTb := tm_4_20 (List.mem_of_getElem? (i := 3) rfl) rfl
abbrev mX3_init : aM := (yX3_init, cX3_init, 2, none)
theorem tc_X3_init : Cond.code yX3_init cX3_init 2 none ∈ aTb := tm_2_2 (List.mem_of_getElem? (i := 6) rfl) rfl
abbrev mX3_solve : aM := (yX3_solve, cX3_solve, 1, none)
theorem tc_X3_solve : Cond.code yX3_solve cX3_solve 1 none ∈ aTb := tm_5_5 (List.mem_of_getElem? (i := 4) rfl) rfl
abbrev mX3_countWays : aM := (yX3_countWays, cX3_countWays, 4, none)
theorem tc_X3_countWays : Cond.code yX3_countWays cX3_countWays 4 none ∈ aTb := tm_5_6 (List.mem_of_getElem? (i := 1) rfl) rfl
abbrev mX3_spreadUp : aM := (yX3_spreadUp, cX3_spreadUp, 4, none)
theorem tc_X3_spreadUp : Cond.code yX3_spreadUp cX3_spreadUp 4 none ∈ aTb := tm_5_6 (List.mem_of_getElem? (i := 7) rfl) rfl
abbrev mX3_findLeast : aM := (yX3_findLeast, cX3_findLeast, 6, none)
theorem tc_X3_findLeast : Cond.code yX3_findLeast cX3_findLeast 6 none ∈ aTb := tm_5_7 (List.mem_of_getElem? (i := 3) rfl) rfl
abbrev mX3_findOpen : aM := (yX3_findOpen, cX3_findOpen, 4, none)
theorem tc_X3_findOpen : Cond.code yX3_findOpen cX3_findOpen 4 none ∈ aTb := tm_5_8 (List.mem_of_getElem? (i := 3) rfl) rfl
abbrev mX3_spreadDown : aM := (yX3_spreadDown, cX3_spreadDown, 5, none)
theorem tc_X3_spreadDown : Cond.code yX3_spreadDown cX3_spreadDown 5 none ∈ aTb := tm_5_9 (List.mem_of_getElem? (i := 3) rfl) rfl
abbrev mX3_goesOn : aM := (yX3_goesOn, cX3_goesOn, 3, (some .boolean))
theorem tc_X3_goesOn : Cond.code yX3_goesOn cX3_goesOn 3 (some .boolean) ∈ aTb := tm_5_8 (List.mem_of_getElem? (i := 7) rfl) rfl
abbrev mX3_findStates : aM := (yX3_findStates, cX3_findStates, 5, none)
theorem tc_X3_findStates : Cond.code yX3_findStates cX3_findStates 5 none ∈ aTb := tm_5_9 (List.mem_of_getElem? (i := 7) rfl) rfl
abbrev mX4_init : aM := (yX4_init, cX4_init, 2, none)
theorem tc_X4_init : Cond.code yX4_init cX4_init 2 none ∈ aTb := tm_1_22 (List.mem_of_getElem? (i := 6) rfl) rfl
abbrev mX4_forgetTables : aM := (yX4_forgetTables, cX4_forgetTables, 1, none)
theorem tc_X4_forgetTables : Cond.code yX4_forgetTables cX4_forgetTables 1 none ∈ aTb := tm_2_19 (List.mem_of_getElem? (i := 1) rfl) rfl
abbrev mX4_oilOf : aM := (yX4_oilOf, cX4_oilOf, 2, (some .int))
theorem tc_X4_oilOf : Cond.code yX4_oilOf cX4_oilOf 2 (some .int) ∈ aTb := tm_4_24 (List.mem_of_getElem? (i := 3) rfl) rfl
abbrev mX4_lastingOf : aM := (yX4_lastingOf, cX4_lastingOf, 2, (some .int))
theorem tc_X4_lastingOf : Cond.code yX4_lastingOf cX4_lastingOf 2 (some .int) ∈ aTb := tm_4_10 (List.mem_of_getElem? (i := 5) rfl) rfl
abbrev mX4_lastingWithout : aM := (yX4_lastingWithout, cX4_lastingWithout, 2, (some .int))
theorem tc_X4_lastingWithout : Cond.code yX4_lastingWithout cX4_lastingWithout 2 (some .int) ∈ aTb := tm_4_16 (List.mem_of_getElem? (i := 2) rfl) rfl
abbrev mX4_meanPart : aM := (yX4_meanPart, cX4_meanPart, 9, (some .long))
theorem tc_X4_meanPart : Cond.code yX4_meanPart cX4_meanPart 9 (some .long) ∈ aTb := tm_4_11 (List.mem_of_getElem? (i := 6) rfl) rfl
abbrev mX4_choose : aM := (yX4_choose, cX4_choose, 4, (some .int))
theorem tc_X4_choose : Cond.code yX4_choose cX4_choose 4 (some .int) ∈ aTb := tm_4_7 (List.mem_of_getElem? (i := 2) rfl) rfl
abbrev mX4_chooseAll : aM := (yX4_chooseAll, cX4_chooseAll, 6, none)
theorem tc_X4_chooseAll : Cond.code yX4_chooseAll cX4_chooseAll 6 none ∈ aTb := tm_4_7 (List.mem_of_getElem? (i := 6) rfl) rfl
abbrev mX4_wouldLight : aM := (yX4_wouldLight, cX4_wouldLight, 5, (some .boolean))
theorem tc_X4_wouldLight : Cond.code yX4_wouldLight cX4_wouldLight 5 (some .boolean) ∈ aTb := tm_4_26 (List.mem_of_getElem? (i := 0) rfl) rfl
abbrev mX4_findFailing : aM := (yX4_findFailing, cX4_findFailing, 5, (some .int))
theorem tc_X4_findFailing : Cond.code yX4_findFailing cX4_findFailing 5 (some .int) ∈ aTb := tm_4_14 (List.mem_of_getElem? (i := 6) rfl) rfl
abbrev mX4_findSafe : aM := (yX4_findSafe, cX4_findSafe, 4, (some .int))
theorem tc_X4_findSafe : Cond.code yX4_findSafe cX4_findSafe 4 (some .int) ∈ aTb := tm_5_2 (List.mem_of_getElem? (i := 2) rfl) rfl
abbrev mX4_firstDoubt : aM := (yX4_firstDoubt, cX4_firstDoubt, 5, (some .int))
theorem tc_X4_firstDoubt : Cond.code yX4_firstDoubt cX4_firstDoubt 5 (some .int) ∈ aTb := tm_5_2 (List.mem_of_getElem? (i := 6) rfl) rfl
abbrev mX4_lastsBy : aM := (yX4_lastsBy, cX4_lastsBy, 2, (some .int))
theorem tc_X4_lastsBy : Cond.code yX4_lastsBy cX4_lastsBy 2 (some .int) ∈ aTb := tm_4_15 (List.mem_of_getElem? (i := 2) rfl) rfl
abbrev mX4_isBetter : aM := (yX4_isBetter, cX4_isBetter, 4, (some .boolean))
theorem tc_X4_isBetter : Cond.code yX4_isBetter cX4_isBetter 4 (some .boolean) ∈ aTb := tm_4_8 (List.mem_of_getElem? (i := 3) rfl) rfl
abbrev mX4_prepare : aM := (yX4_prepare, cX4_prepare, 2, none)
theorem tc_X4_prepare : Cond.code yX4_prepare cX4_prepare 2 none ∈ aTb := tm_4_1 (List.mem_of_getElem? (i := 2) rfl) rfl
abbrev mX4_fillOil : aM := (yX4_fillOil, cX4_fillOil, 4, none)
theorem tc_X4_fillOil : Cond.code yX4_fillOil cX4_fillOil 4 none ∈ aTb := tm_4_1 (List.mem_of_getElem? (i := 6) rfl) rfl
abbrev mX4_fillLasting : aM := (yX4_fillLasting, cX4_fillLasting, 1, none)
theorem tc_X4_fillLasting : Cond.code yX4_fillLasting cX4_fillLasting 1 none ∈ aTb := tm_4_2 (List.mem_of_getElem? (i := 2) rfl) rfl
abbrev mX4_fillMean : aM := (yX4_fillMean, cX4_fillMean, 2, none)
theorem tc_X4_fillMean : Cond.code yX4_fillMean cX4_fillMean 2 none ∈ aTb := tm_4_4 (List.mem_of_getElem? (i := 2) rfl) rfl
abbrev mX4_meanOf : aM := (yX4_meanOf, cX4_meanOf, 6, (some .long))
theorem tc_X4_meanOf : Cond.code yX4_meanOf cX4_meanOf 6 (some .long) ∈ aTb := tm_4_4 (List.mem_of_getElem? (i := 6) rfl) rfl
abbrev mX4_fillRichest : aM := (yX4_fillRichest, cX4_fillRichest, 5, none)
theorem tc_X4_fillRichest : Cond.code yX4_fillRichest cX4_fillRichest 5 none ∈ aTb := tm_4_5 (List.mem_of_getElem? (i := 2) rfl) rfl
abbrev mX4_commonDivisor : aM := (yX4_commonDivisor, cX4_commonDivisor, 7, (some .long))
theorem tc_X4_commonDivisor : Cond.code yX4_commonDivisor cX4_commonDivisor 7 (some .long) ∈ aTb := tm_4_12 (List.mem_of_getElem? (i := 1) rfl) rfl
abbrev mX5_init : aM := (yX5_init, cX5_init, 2, none)
theorem tc_X5_init : Cond.code yX5_init cX5_init 2 none ∈ aTb := tm_1_23 (List.mem_of_getElem? (i := 4) rfl) rfl
abbrev mX5_fill : aM := (yX5_fill, cX5_fill, 9, none)
theorem tc_X5_fill : Cond.code yX5_fill cX5_fill 9 none ∈ aTb := tm_4_2 (List.mem_of_getElem? (i := 7) rfl) rfl
abbrev mX5_fillBest : aM := (yX5_fillBest, cX5_fillBest, 7, none)
theorem tc_X5_fillBest : Cond.code yX5_fillBest cX5_fillBest 7 none ∈ aTb := tm_4_3 (List.mem_of_getElem? (i := 4) rfl) rfl
abbrev mX6_init : aM := (yX6_init, cX6_init, 4, none)
theorem tc_X6_init : Cond.code yX6_init cX6_init 4 none ∈ aTb := tm_3_23 (List.mem_of_getElem? (i := 2) rfl) rfl
abbrev mX7_init : aM := (yX7_init, cX7_init, 2, none)
theorem tc_X7_init : Cond.code yX7_init cX7_init 2 none ∈ aTb := tm_1_15 (List.mem_of_getElem? (i := 4) rfl) rfl
abbrev mX7_understand : aM := (yX7_understand, cX7_understand, 1, (some (.object "LitCoast$Law")))
theorem tc_X7_understand : Cond.code yX7_understand cX7_understand 1 (some (.object "LitCoast$Law")) ∈ aTb := tm_2_29 (List.mem_of_getElem? (i := 5) rfl) rfl
abbrev mX7_takeClauses : aM := (yX7_takeClauses, cX7_takeClauses, 2, (some .boolean))
theorem tc_X7_takeClauses : Cond.code yX7_takeClauses cX7_takeClauses 2 (some .boolean) ∈ aTb := tm_3_13 (List.mem_of_getElem? (i := 0) rfl) rfl
abbrev mX7_takeClause : aM := (yX7_takeClause, cX7_takeClause, 1, (some .boolean))
theorem tc_X7_takeClause : Cond.code yX7_takeClause cX7_takeClause 1 (some .boolean) ∈ aTb := tm_3_13 (List.mem_of_getElem? (i := 4) rfl) rfl
abbrev mX7_takeTest : aM := (yX7_takeTest, cX7_takeTest, 4, (some .boolean))
theorem tc_X7_takeTest : Cond.code yX7_takeTest cX7_takeTest 4 (some .boolean) ∈ aTb := tm_3_17 (List.mem_of_getElem? (i := 7) rfl) rfl
abbrev mX7_takeBoth : aM := (yX7_takeBoth, cX7_takeBoth, 4, (some .boolean))
theorem tc_X7_takeBoth : Cond.code yX7_takeBoth cX7_takeBoth 4 (some .boolean) ∈ aTb := tm_3_18 (List.mem_of_getElem? (i := 3) rfl) rfl
abbrev mX7_takePlain : aM := (yX7_takePlain, cX7_takePlain, 4, (some .boolean))
theorem tc_X7_takePlain : Cond.code yX7_takePlain cX7_takePlain 4 (some .boolean) ∈ aTb := tm_3_18 (List.mem_of_getElem? (i := 7) rfl) rfl
abbrev mX7_takeBracketed : aM := (yX7_takeBracketed, cX7_takeBracketed, 2, (some .boolean))
theorem tc_X7_takeBracketed : Cond.code yX7_takeBracketed cX7_takeBracketed 2 (some .boolean) ∈ aTb := tm_3_19 (List.mem_of_getElem? (i := 3) rfl) rfl
abbrev mX7_takeComparison : aM := (yX7_takeComparison, cX7_takeComparison, 3, (some .boolean))
theorem tc_X7_takeComparison : Cond.code yX7_takeComparison cX7_takeComparison 3 (some .boolean) ∈ aTb := tm_3_19 (List.mem_of_getElem? (i := 7) rfl) rfl
abbrev mX7_takeSum : aM := (yX7_takeSum, cX7_takeSum, 4, (some .boolean))
theorem tc_X7_takeSum : Cond.code yX7_takeSum cX7_takeSum 4 (some .boolean) ∈ aTb := tm_3_15 (List.mem_of_getElem? (i := 0) rfl) rfl
abbrev mX7_takeTerm : aM := (yX7_takeTerm, cX7_takeTerm, 4, (some .boolean))
theorem tc_X7_takeTerm : Cond.code yX7_takeTerm cX7_takeTerm 4 (some .boolean) ∈ aTb := tm_3_15 (List.mem_of_getElem? (i := 4) rfl) rfl
abbrev mX7_takePart : aM := (yX7_takePart, cX7_takePart, 3, (some .boolean))
theorem tc_X7_takePart : Cond.code yX7_takePart cX7_takePart 3 (some .boolean) ∈ aTb := tm_3_16 (List.mem_of_getElem? (i := 0) rfl) rfl
abbrev mX7_takeSign : aM := (yX7_takeSign, cX7_takeSign, 2, (some .boolean))
theorem tc_X7_takeSign : Cond.code yX7_takeSign cX7_takeSign 2 (some .boolean) ∈ aTb := tm_3_16 (List.mem_of_getElem? (i := 4) rfl) rfl
abbrev mX7_fail : aM := (yX7_fail, cX7_fail, 1, (some .boolean))
theorem tc_X7_fail : Cond.code yX7_fail cX7_fail 1 (some .boolean) ∈ aTb := tm_3_14 (List.mem_of_getElem? (i := 0) rfl) rfl
abbrev mX7_step : aM := (yX7_step, cX7_step, 2, none)
theorem tc_X7_step : Cond.code yX7_step cX7_step 2 none ∈ aTb := tm_3_17 (List.mem_of_getElem? (i := 0) rfl) rfl
abbrev mX7_openSkip : aM := (yX7_openSkip, cX7_openSkip, 2, (some .int))
theorem tc_X7_openSkip : Cond.code yX7_openSkip cX7_openSkip 2 (some .int) ∈ aTb := tm_3_20 (List.mem_of_getElem? (i := 3) rfl) rfl
abbrev mX7_closeSkip : aM := (yX7_closeSkip, cX7_closeSkip, 2, none)
theorem tc_X7_closeSkip : Cond.code yX7_closeSkip cX7_closeSkip 2 none ∈ aTb := tm_3_20 (List.mem_of_getElem? (i := 7) rfl) rfl
abbrev mX7_stepOf : aM := (yX7_stepOf, cX7_stepOf, 1, (some .int))
theorem tc_X7_stepOf : Cond.code yX7_stepOf cX7_stepOf 1 (some .int) ∈ aTb := tm_3_17 (List.mem_of_getElem? (i := 3) rfl) rfl
abbrev mX7_advance : aM := (yX7_advance, cX7_advance, 1, none)
theorem tc_X7_advance : Cond.code yX7_advance cX7_advance 1 none ∈ aTb := tm_3_14 (List.mem_of_getElem? (i := 4) rfl) rfl
abbrev mX7_findTokens : aM := (yX7_findTokens, cX7_findTokens, 3, none)
theorem tc_X7_findTokens : Cond.code yX7_findTokens cX7_findTokens 3 none ∈ aTb := tm_3_0 (List.mem_of_getElem? (i := 1) rfl) rfl
abbrev mX7_skipBlanks : aM := (yX7_skipBlanks, cX7_skipBlanks, 3, (some .int))
theorem tc_X7_skipBlanks : Cond.code yX7_skipBlanks cX7_skipBlanks 3 (some .int) ∈ aTb := tm_3_0 (List.mem_of_getElem? (i := 5) rfl) rfl
abbrev mX7_stopOf : aM := (yX7_stopOf, cX7_stopOf, 5, (some .int))
theorem tc_X7_stopOf : Cond.code yX7_stopOf cX7_stopOf 5 (some .int) ∈ aTb := tm_3_1 (List.mem_of_getElem? (i := 2) rfl) rfl
abbrev mX7_kindOf : aM := (yX7_kindOf, cX7_kindOf, 4, (some .int))
theorem tc_X7_kindOf : Cond.code yX7_kindOf cX7_kindOf 4 (some .int) ∈ aTb := tm_3_2 (List.mem_of_getElem? (i := 4) rfl) rfl
abbrev mX7_numberAt : aM := (yX7_numberAt, cX7_numberAt, 5, (some .int))
theorem tc_X7_numberAt : Cond.code yX7_numberAt cX7_numberAt 5 (some .int) ∈ aTb := tm_3_12 (List.mem_of_getElem? (i := 1) rfl) rfl
abbrev mX7_isLetter : aM := (yX7_isLetter, cX7_isLetter, 1, (some .boolean))
theorem tc_X7_isLetter : Cond.code yX7_isLetter cX7_isLetter 1 (some .boolean) ∈ aTb := tm_3_1 (List.mem_of_getElem? (i := 5) rfl) rfl
abbrev mX7_isDigit : aM := (yX7_isDigit, cX7_isDigit, 1, (some .boolean))
theorem tc_X7_isDigit : Cond.code yX7_isDigit cX7_isDigit 1 (some .boolean) ∈ aTb := tm_3_2 (List.mem_of_getElem? (i := 0) rfl) rfl
abbrev mX7_wordKind : aM := (yX7_wordKind, cX7_wordKind, 3, (some .int))
theorem tc_X7_wordKind : Cond.code yX7_wordKind cX7_wordKind 3 (some .int) ∈ aTb := tm_3_3 (List.mem_of_getElem? (i := 0) rfl) rfl
abbrev mX7_partKind : aM := (yX7_partKind, cX7_partKind, 3, (some .int))
theorem tc_X7_partKind : Cond.code yX7_partKind cX7_partKind 3 (some .int) ∈ aTb := tm_3_10 (List.mem_of_getElem? (i := 5) rfl) rfl
abbrev mX8_init : aM := (yX8_init, cX8_init, 2, none)
theorem tc_X8_init : Cond.code yX8_init cX8_init 2 none ∈ aTb := tm_2_1 (List.mem_of_getElem? (i := 1) rfl) rfl
abbrev mX8_countRows : aM := (yX8_countRows, cX8_countRows, 7, (some .long))
theorem tc_X8_countRows : Cond.code yX8_countRows cX8_countRows 7 (some .long) ∈ aTb := tm_4_27 (List.mem_of_getElem? (i := 6) rfl) rfl
abbrev mX8_isMet : aM := (yX8_isMet, cX8_isMet, 4, (some .boolean))
theorem tc_X8_isMet : Cond.code yX8_isMet cX8_isMet 4 (some .boolean) ∈ aTb := tm_4_29 (List.mem_of_getElem? (i := 1) rfl) rfl
abbrev mX8_spread : aM := (yX8_spread, cX8_spread, 10, none)
theorem tc_X8_spread : Cond.code yX8_spread cX8_spread 10 none ∈ aTb := tm_4_29 (List.mem_of_getElem? (i := 5) rfl) rfl
abbrev mX9_init : aM := (yX9_init, cX9_init, 1, none)
theorem tc_X9_init : Cond.code yX9_init cX9_init 1 none ∈ aTb := tm_1_13 (List.mem_of_getElem? (i := 5) rfl) rfl
abbrev mX9_hasRoom : aM := (yX9_hasRoom, cX9_hasRoom, 1, (some .boolean))
theorem tc_X9_hasRoom : Cond.code yX9_hasRoom cX9_hasRoom 1 (some .boolean) ∈ aTb := tm_2_25 (List.mem_of_getElem? (i := 1) rfl) rfl
abbrev mX9_put : aM := (yX9_put, cX9_put, 3, none)
theorem tc_X9_put : Cond.code yX9_put cX9_put 3 none ∈ aTb := tm_2_25 (List.mem_of_getElem? (i := 5) rfl) rfl
abbrev mX9_byteAt : aM := (yX9_byteAt, cX9_byteAt, 2, (some .int))
theorem tc_X9_byteAt : Cond.code yX9_byteAt cX9_byteAt 2 (some .int) ∈ aTb := tm_2_27 (List.mem_of_getElem? (i := 2) rfl) rfl
abbrev mX9_spells : aM := (yX9_spells, cX9_spells, 5, (some .boolean))
theorem tc_X9_spells : Cond.code yX9_spells cX9_spells 5 (some .boolean) ∈ aTb := tm_3_3 (List.mem_of_getElem? (i := 5) rfl) rfl
abbrev mX10_init : aM := (yX10_init, cX10_init, 1, none)
theorem tc_X10_init : Cond.code yX10_init cX10_init 1 none ∈ aTb := tm_1_3 (List.mem_of_getElem? (i := 1) rfl) rfl
abbrev mX10_lamps : aM := (yX10_lamps, cX10_lamps, 3, (some .int))
theorem tc_X10_lamps : Cond.code yX10_lamps cX10_lamps 3 (some .int) ∈ aTb := tm_2_17 (List.mem_of_getElem? (i := 0) rfl) rfl
abbrev mX10_news : aM := (yX10_news, cX10_news, 3, (some .int))
theorem tc_X10_news : Cond.code yX10_news cX10_news 3 (some .int) ∈ aTb := tm_2_20 (List.mem_of_getElem? (i := 1) rfl) rfl
abbrev mX10_oil : aM := (yX10_oil, cX10_oil, 4, (some .int))
theorem tc_X10_oil : Cond.code yX10_oil cX10_oil 4 (some .int) ∈ aTb := tm_2_20 (List.mem_of_getElem? (i := 5) rfl) rfl
abbrev mX10_broken : aM := (yX10_broken, cX10_broken, 4, (some .int))
theorem tc_X10_broken : Cond.code yX10_broken cX10_broken 4 (some .int) ∈ aTb := tm_2_21 (List.mem_of_getElem? (i := 5) rfl) rfl
abbrev mX10_read : aM := (yX10_read, cX10_read, 4, (some .int))
theorem tc_X10_read : Cond.code yX10_read cX10_read 4 (some .int) ∈ aTb := tm_2_22 (List.mem_of_getElem? (i := 1) rfl) rfl
abbrev mX10_of : aM := (yX10_of, cX10_of, 2, (some .int))
theorem tc_X10_of : Cond.code yX10_of cX10_of 2 (some .int) ∈ aTb := tm_2_24 (List.mem_of_getElem? (i := 1) rfl) rfl
abbrev mX10_feed : aM := (yX10_feed, cX10_feed, 6, (some .int))
theorem tc_X10_feed : Cond.code yX10_feed cX10_feed 6 (some .int) ∈ aTb := tm_2_24 (List.mem_of_getElem? (i := 5) rfl) rfl
abbrev mX10_end : aM := (yX10_end, cX10_end, 2, (some .int))
theorem tc_X10_end : Cond.code yX10_end cX10_end 2 (some .int) ∈ aTb := tm_2_26 (List.mem_of_getElem? (i := 1) rfl) rfl
abbrev mX10_row : aM := (yX10_row, cX10_row, 4, (some .int))
theorem tc_X10_row : Cond.code yX10_row cX10_row 4 (some .int) ∈ aTb := tm_2_26 (List.mem_of_getElem? (i := 5) rfl) rfl
abbrev mX10_torn : aM := (yX10_torn, cX10_torn, 1, (some .int))
theorem tc_X10_torn : Cond.code yX10_torn cX10_torn 1 (some .int) ∈ aTb := tm_2_28 (List.mem_of_getElem? (i := 5) rfl) rfl
abbrev mX10_law : aM := (yX10_law, cX10_law, 3, (some .int))
theorem tc_X10_law : Cond.code yX10_law cX10_law 3 (some .int) ∈ aTb := tm_2_29 (List.mem_of_getElem? (i := 1) rfl) rfl
abbrev mX10_fault : aM := (yX10_fault, cX10_fault, 1, (some .int))
theorem tc_X10_fault : Cond.code yX10_fault cX10_fault 1 (some .int) ∈ aTb := tm_3_25 (List.mem_of_getElem? (i := 5) rfl) rfl
abbrev mX10_learn : aM := (yX10_learn, cX10_learn, 5, (some .int))
theorem tc_X10_learn : Cond.code yX10_learn cX10_learn 5 (some .int) ∈ aTb := tm_3_26 (List.mem_of_getElem? (i := 1) rfl) rfl
abbrev mX10_next : aM := (yX10_next, cX10_next, 4, (some .int))
theorem tc_X10_next : Cond.code yX10_next cX10_next 4 (some .int) ∈ aTb := tm_4_0 (List.mem_of_getElem? (i := 3) rfl) rfl
abbrev mX10_ways : aM := (yX10_ways, cX10_ways, 3, (some .int))
theorem tc_X10_ways : Cond.code yX10_ways cX10_ways 3 (some .int) ∈ aTb := tm_4_9 (List.mem_of_getElem? (i := 0) rfl) rfl
abbrev mX10_lasts : aM := (yX10_lasts, cX10_lasts, 2, (some .int))
theorem tc_X10_lasts : Cond.code yX10_lasts cX10_lasts 2 (some .int) ∈ aTb := tm_4_10 (List.mem_of_getElem? (i := 1) rfl) rfl
abbrev mX10_mean : aM := (yX10_mean, cX10_mean, 3, (some .long))
theorem tc_X10_mean : Cond.code yX10_mean cX10_mean 3 (some .long) ∈ aTb := tm_4_11 (List.mem_of_getElem? (i := 1) rfl) rfl
abbrev mX10_reached : aM := (yX10_reached, cX10_reached, 2, (some .int))
theorem tc_X10_reached : Cond.code yX10_reached cX10_reached 2 (some .int) ∈ aTb := tm_4_12 (List.mem_of_getElem? (i := 5) rfl) rfl
abbrev mX10_failing : aM := (yX10_failing, cX10_failing, 3, (some .int))
theorem tc_X10_failing : Cond.code yX10_failing cX10_failing 3 (some .int) ∈ aTb := tm_4_14 (List.mem_of_getElem? (i := 2) rfl) rfl
abbrev mX10_hurts : aM := (yX10_hurts, cX10_hurts, 2, (some .int))
theorem tc_X10_hurts : Cond.code yX10_hurts cX10_hurts 2 (some .int) ∈ aTb := tm_4_15 (List.mem_of_getElem? (i := 6) rfl) rfl
abbrev mX10_codes : aM := (yX10_codes, cX10_codes, 4, (some .int))
theorem tc_X10_codes : Cond.code yX10_codes cX10_codes 4 (some .int) ∈ aTb := tm_4_16 (List.mem_of_getElem? (i := 6) rfl) rfl
abbrev mX10_make : aM := (yX10_make, cX10_make, 4, (some .int))
theorem tc_X10_make : Cond.code yX10_make cX10_make 4 (some .int) ∈ aTb := tm_4_21 (List.mem_of_getElem? (i := 1) rfl) rfl
abbrev mX10_send : aM := (yX10_send, cX10_send, 5, (some .int))
theorem tc_X10_send : Cond.code yX10_send cX10_send 5 (some .int) ∈ aTb := tm_4_22 (List.mem_of_getElem? (i := 2) rfl) rfl
abbrev mX10_dawn : aM := (yX10_dawn, cX10_dawn, 2, (some .int))
theorem tc_X10_dawn : Cond.code yX10_dawn cX10_dawn 2 (some .int) ∈ aTb := tm_4_22 (List.mem_of_getElem? (i := 7) rfl) rfl
abbrev mX10_log : aM := (yX10_log, cX10_log, 2, (some .int))
theorem tc_X10_log : Cond.code yX10_log cX10_log 2 (some .int) ∈ aTb := tm_4_23 (List.mem_of_getElem? (i := 3) rfl) rfl
abbrev mX10_burnt : aM := (yX10_burnt, cX10_burnt, 1, (some .int))
theorem tc_X10_burnt : Cond.code yX10_burnt cX10_burnt 1 (some .int) ∈ aTb := tm_4_23 (List.mem_of_getElem? (i := 7) rfl) rfl
abbrev mX10_trail : aM := (yX10_trail, cX10_trail, 2, (some .int))
theorem tc_X10_trail : Cond.code yX10_trail cX10_trail 2 (some .int) ∈ aTb := tm_4_24 (List.mem_of_getElem? (i := 7) rfl) rfl
abbrev mX10_judge : aM := (yX10_judge, cX10_judge, 5, (some .int))
theorem tc_X10_judge : Cond.code yX10_judge cX10_judge 5 (some .int) ∈ aTb := tm_4_25 (List.mem_of_getElem? (i := 4) rfl) rfl
abbrev mX10_rows : aM := (yX10_rows, cX10_rows, 4, (some .long))
theorem tc_X10_rows : Cond.code yX10_rows cX10_rows 4 (some .long) ∈ aTb := tm_4_26 (List.mem_of_getElem? (i := 6) rfl) rfl
abbrev mX10_could : aM := (yX10_could, cX10_could, 6, (some .long))
theorem tc_X10_could : Cond.code yX10_could cX10_could 6 (some .long) ∈ aTb := tm_5_0 (List.mem_of_getElem? (i := 2) rfl) rfl
abbrev mX10_maybe : aM := (yX10_maybe, cX10_maybe, 6, (some .int))
theorem tc_X10_maybe : Cond.code yX10_maybe cX10_maybe 6 (some .int) ∈ aTb := tm_5_0 (List.mem_of_getElem? (i := 6) rfl) rfl
abbrev mX10_safe : aM := (yX10_safe, cX10_safe, 1, (some .int))
theorem tc_X10_safe : Cond.code yX10_safe cX10_safe 1 (some .int) ∈ aTb := tm_5_1 (List.mem_of_getElem? (i := 6) rfl) rfl
abbrev mX10_spy : aM := (yX10_spy, cX10_spy, 5, (some .int))
theorem tc_X10_spy : Cond.code yX10_spy cX10_spy 5 (some .int) ∈ aTb := tm_5_3 (List.mem_of_getElem? (i := 4) rfl) rfl
abbrev mX10_want : aM := (yX10_want, cX10_want, 2, (some .int))
theorem tc_X10_want : Cond.code yX10_want cX10_want 2 (some .int) ∈ aTb := tm_5_4 (List.mem_of_getElem? (i := 0) rfl) rfl
abbrev mX10_unwant : aM := (yX10_unwant, cX10_unwant, 2, (some .int))
theorem tc_X10_unwant : Cond.code yX10_unwant cX10_unwant 2 (some .int) ∈ aTb := tm_5_4 (List.mem_of_getElem? (i := 4) rfl) rfl
abbrev mX10_cheap : aM := (yX10_cheap, cX10_cheap, 2, (some .int))
theorem tc_X10_cheap : Cond.code yX10_cheap cX10_cheap 2 (some .int) ∈ aTb := tm_5_5 (List.mem_of_getElem? (i := 0) rfl) rfl
abbrev mX10_plan : aM := (yX10_plan, cX10_plan, 2, (some .int))
theorem tc_X10_plan : Cond.code yX10_plan cX10_plan 2 (some .int) ∈ aTb := tm_5_10 (List.mem_of_getElem? (i := 4) rfl) rfl
abbrev mX10_night : aM := (yX10_night, cX10_night, 4, (some .int))
theorem tc_X10_night : Cond.code yX10_night cX10_night 4 (some .int) ∈ aTb := tm_5_11 (List.mem_of_getElem? (i := 0) rfl) rfl
abbrev mX10_drawn : aM := (yX10_drawn, cX10_drawn, 2, (some .int))
theorem tc_X10_drawn : Cond.code yX10_drawn cX10_drawn 2 (some .int) ∈ aTb := tm_5_12 (List.mem_of_getElem? (i := 4) rfl) rfl
abbrev mX10_image : aM := (yX10_image, cX10_image, 3, (some .int))
theorem tc_X10_image : Cond.code yX10_image cX10_image 3 (some .int) ∈ aTb := tm_5_13 (List.mem_of_getElem? (i := 0) rfl) rfl
abbrev mX10_back : aM := (yX10_back, cX10_back, 3, (some .int))
theorem tc_X10_back : Cond.code yX10_back cX10_back 3 (some .int) ∈ aTb := tm_5_14 (List.mem_of_getElem? (i := 1) rfl) rfl
abbrev mX10_count : aM := (yX10_count, cX10_count, 2, (some .int))
theorem tc_X10_count : Cond.code yX10_count cX10_count 2 (some .int) ∈ aTb := tm_5_14 (List.mem_of_getElem? (i := 5) rfl) rfl
abbrev mX10_status : aM := (yX10_status, cX10_status, 1, (some .int))
theorem tc_X10_status : Cond.code yX10_status cX10_status 1 (some .int) ∈ aTb := tm_5_15 (List.mem_of_getElem? (i := 1) rfl) rfl
abbrev mX10_refuse : aM := (yX10_refuse, cX10_refuse, 2, (some .int))
theorem tc_X10_refuse : Cond.code yX10_refuse cX10_refuse 2 (some .int) ∈ aTb := tm_2_17 (List.mem_of_getElem? (i := 4) rfl) rfl
abbrev mX10_accept : aM := (yX10_accept, cX10_accept, 2, (some .int))
theorem tc_X10_accept : Cond.code yX10_accept cX10_accept 2 (some .int) ∈ aTb := tm_2_19 (List.mem_of_getElem? (i := 5) rfl) rfl
abbrev mX10_codeChanged : aM := (yX10_codeChanged, cX10_codeChanged, 1, none)
theorem tc_X10_codeChanged : Cond.code yX10_codeChanged cX10_codeChanged 1 none ∈ aTb := tm_2_18 (List.mem_of_getElem? (i := 5) rfl) rfl
abbrev mX10_isManner : aM := (yX10_isManner, cX10_isManner, 1, (some .boolean))
theorem tc_X10_isManner : Cond.code yX10_isManner cX10_isManner 1 (some .boolean) ∈ aTb := tm_4_0 (List.mem_of_getElem? (i := 6) rfl) rfl
abbrev mX10_isRowTo : aM := (yX10_isRowTo, cX10_isRowTo, 4, (some .boolean))
theorem tc_X10_isRowTo : Cond.code yX10_isRowTo cX10_isRowTo 4 (some .boolean) ∈ aTb := tm_4_27 (List.mem_of_getElem? (i := 2) rfl) rfl
abbrev mX10_drawNight : aM := (yX10_drawNight, cX10_drawNight, 10, none)
theorem tc_X10_drawNight : Cond.code yX10_drawNight cX10_drawNight 10 none ∈ aTb := tm_5_11 (List.mem_of_getElem? (i := 5) rfl) rfl
abbrev mX11_lies : aM := (yX11_lies, cX11_lies, 3, (some .boolean))
theorem tc_X11_lies : Cond.code yX11_lies cX11_lies 3 (some .boolean) ∈ aTb := tm_6_3 (List.mem_of_getElem? (i := 1) rfl) rfl
abbrev mX11_refuses : aM := (yX11_refuses, cX11_refuses, 2, (some .int))
theorem tc_X11_refuses : Cond.code yX11_refuses cX11_refuses 2 (some .int) ∈ aTb := tm_6_3 (List.mem_of_getElem? (i := 5) rfl) rfl
abbrev mX11_good : aM := (yX11_good, cX11_good, 2, (some .int))
theorem tc_X11_good : Cond.code yX11_good cX11_good 2 (some .int) ∈ aTb := tm_6_4 (List.mem_of_getElem? (i := 1) rfl) rfl
abbrev mX11_ones : aM := (yX11_ones, cX11_ones, 3, (some .int))
theorem tc_X11_ones : Cond.code yX11_ones cX11_ones 3 (some .int) ∈ aTb := tm_6_24 (List.mem_of_getElem? (i := 1) rfl) rfl
abbrev mX11_greater : aM := (yX11_greater, cX11_greater, 2, (some .int))
theorem tc_X11_greater : Cond.code yX11_greater cX11_greater 2 (some .int) ∈ aTb := tm_6_11 (List.mem_of_getElem? (i := 0) rfl) rfl
abbrev mX11_init : aM := (yX11_init, cX11_init, 2, none)
theorem tc_X11_init : Cond.code yX11_init cX11_init 2 none ∈ aTb := tm_5_15 (List.mem_of_getElem? (i := 6) rfl) rfl
