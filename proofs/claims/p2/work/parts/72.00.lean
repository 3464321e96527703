theorem wd_102 : (Jvm.Cond.fieldLink "Sleepers" (66 : Nat) "Sleepers$Tokens" "signs" "I") ∈ tb := tb_at 102 (by decide +kernel) (by decide +kernel)
theorem wd_103 : (Jvm.Cond.fieldLink "Sleepers$Tokens" (45 : Nat) "Sleepers$Tokens" "signs" "I") ∈ tb := tb_at 103 (by decide +kernel) (by decide +kernel)
theorem wd_242 : (Jvm.Cond.fieldLink "Sleepers" (181 : Nat) "Sleepers$Hall" "row" "[I") ∈ tb := tb_at 242 (by decide +kernel) (by decide +kernel)
theorem wd_244 : (Jvm.Cond.fieldLink "Sleepers" (178 : Nat) "Sleepers$Hall" "rowCount" "I") ∈ tb := tb_at 244 (by decide +kernel) (by decide +kernel)
theorem wd_258 : (Jvm.Cond.fieldLink "Sleepers" (186 : Nat) "Sleepers$Hall" "lost" "LSleepers$Book;") ∈ tb := tb_at 258 (by decide +kernel) (by decide +kernel)
theorem wd_306 : (Jvm.Cond.fieldLink "Sleepers" (76 : Nat) "Sleepers$Runner" "puts" "LSleepers$Book;") ∈ tb := tb_at 306 (by decide +kernel) (by decide +kernel)
theorem wd_504 : (Jvm.Cond.methodLink "Sleepers" (62 : Nat) ({ cls := "Sleepers$Tokens", name := "add", desc := "(J)V" } : Jvm.MethodName)) ∈ tb := tb_at 504 (by decide +kernel) (by decide +kernel)
theorem wd_505 : (Jvm.Cond.instanceMethod ({ cls := "Sleepers$Tokens", name := "add", desc := "(J)V" } : Jvm.MethodName)) ∈ tb := tb_at 505 (by decide +kernel) (by decide +kernel)
theorem wd_506 : (Jvm.Cond.selects "Sleepers$Tokens" ({ cls := "Sleepers$Tokens", name := "add", desc := "(J)V" } : Jvm.MethodName) ({ cls := "Sleepers$Tokens", name := "add", desc := "(J)V" } : Jvm.MethodName)) ∈ tb := tb_at 506 (by decide +kernel) (by decide +kernel)
theorem wd_507 : (Jvm.Cond.code ({ cls := "Sleepers$Tokens", name := "add", desc := "(J)V" } : Jvm.MethodName) prog_12_method_2_code (5 : Nat) (Option.none : Option Jvm.ClassFile.FieldType)) ∈ tb := tb_at 507 (by decide +kernel) (by decide +kernel)
theorem wd_1252 : (Jvm.Cond.methodLink "Sleepers" (184 : Nat) ({ cls := "Sleepers$Book", name := "tell", desc := "(II)I" } : Jvm.MethodName)) ∈ tb := tb_at 1252 (by decide +kernel) (by decide +kernel)
theorem wd_1253 : (Jvm.Cond.instanceMethod ({ cls := "Sleepers$Book", name := "tell", desc := "(II)I" } : Jvm.MethodName)) ∈ tb := tb_at 1253 (by decide +kernel) (by decide +kernel)
theorem wd_1254 : (Jvm.Cond.selects "Sleepers$Book" ({ cls := "Sleepers$Book", name := "tell", desc := "(II)I" } : Jvm.MethodName) ({ cls := "Sleepers$Book", name := "tell", desc := "(II)I" } : Jvm.MethodName)) ∈ tb := tb_at 1254 (by decide +kernel) (by decide +kernel)
theorem wd_1255 : (Jvm.Cond.code ({ cls := "Sleepers$Book", name := "tell", desc := "(II)I" } : Jvm.MethodName) prog_2_method_3_code (3 : Nat) (Option.some Jvm.ClassFile.FieldType.int)) ∈ tb := tb_at 1255 (by decide +kernel) (by decide +kernel)
theorem wd_1379 : (Jvm.Cond.methodLink "SleepersModel" (7 : Nat) ({ cls := "SleepersModel", name := "lay", desc := "(J)V" } : Jvm.MethodName)) ∈ tb := tb_at 1379 (by decide +kernel) (by decide +kernel)
theorem wd_1381 : (Jvm.Cond.instanceMethod ({ cls := "SleepersModel", name := "lay", desc := "(J)V" } : Jvm.MethodName)) ∈ tb := tb_at 1381 (by decide +kernel) (by decide +kernel)
theorem wd_1383 : (Jvm.Cond.code ({ cls := "SleepersModel", name := "lay", desc := "(J)V" } : Jvm.MethodName) prog_14_method_3_code (5 : Nat) (Option.none : Option Jvm.ClassFile.FieldType)) ∈ tb := tb_at 1383 (by decide +kernel) (by decide +kernel)
theorem wd_1388 : (Jvm.Cond.methodLink "SleepersModel" (18 : Nat) ({ cls := "java/lang/Object", name := "<init>", desc := "()V" } : Jvm.MethodName)) ∈ tb := tb_at 1388 (by decide +kernel) (by decide +kernel)
theorem wd_1390 : (Jvm.Cond.constant "SleepersModel" (273 : Nat) (100300 : Int32)) ∈ tb := tb_at 1390 (by decide +kernel) (by decide +kernel)
theorem wd_1391 : (Jvm.Cond.methodLink "SleepersModel" (301 : Nat) ({ cls := "java/lang/String", name := "length", desc := "()I" } : Jvm.MethodName)) ∈ tb := tb_at 1391 (by decide +kernel) (by decide +kernel)
theorem wd_1392 : (Jvm.Cond.methodLink "SleepersModel" (307 : Nat) ({ cls := "java/lang/String", name := "charAt", desc := "(I)C" } : Jvm.MethodName)) ∈ tb := tb_at 1392 (by decide +kernel) (by decide +kernel)
theorem wd_1393 : (Jvm.Cond.constantLong "SleepersModel" (311 : Nat) (37 : Int64)) ∈ tb := tb_at 1393 (by decide +kernel) (by decide +kernel)
theorem wd_1394 : (Jvm.Cond.methodLink "SleepersModel" (313 : Nat) ({ cls := "SleepersModel", name := "rank", desc := "(I)I" } : Jvm.MethodName)) ∈ tb := tb_at 1394 (by decide +kernel) (by decide +kernel)
theorem wd_1395 : (Jvm.Cond.static ({ cls := "SleepersModel", name := "rank", desc := "(I)I" } : Jvm.MethodName)) ∈ tb := tb_at 1395 (by decide +kernel) (by decide +kernel)
theorem wd_1396 : (Jvm.Cond.code ({ cls := "SleepersModel", name := "rank", desc := "(I)I" } : Jvm.MethodName) prog_14_method_7_code (1 : Nat) (Option.some Jvm.ClassFile.FieldType.int)) ∈ tb := tb_at 1396 (by decide +kernel) (by decide +kernel)
theorem wd_1400 : (Jvm.Cond.fieldLink "SleepersModel" (1 : Nat) "SleepersModel" "thrown" "I") ∈ tb := tb_at 1400 (by decide +kernel) (by decide +kernel)
theorem wd_1401 : (Jvm.Cond.fieldLink "SleepersModel" (14 : Nat) "SleepersModel" "tape" "[I") ∈ tb := tb_at 1401 (by decide +kernel) (by decide +kernel)
theorem wd_1402 : (Jvm.Cond.fieldLink "SleepersModel" (11 : Nat) "SleepersModel" "taped" "I") ∈ tb := tb_at 1402 (by decide +kernel) (by decide +kernel)
theorem wd_1404 : (Jvm.Cond.fieldLink "SleepersModel" (24 : Nat) "SleepersModel" "sort" "[I") ∈ tb := tb_at 1404 (by decide +kernel) (by decide +kernel)
theorem wd_1405 : (Jvm.Cond.fieldLink "SleepersModel" (27 : Nat) "SleepersModel" "place" "[I") ∈ tb := tb_at 1405 (by decide +kernel) (by decide +kernel)
theorem wd_1406 : (Jvm.Cond.fieldLink "SleepersModel" (30 : Nat) "SleepersModel" "word" "[J") ∈ tb := tb_at 1406 (by decide +kernel) (by decide +kernel)
theorem wd_1407 : (Jvm.Cond.fieldLink "SleepersModel" (334 : Nat) "SleepersModel" "at" "I") ∈ tb := tb_at 1407 (by decide +kernel) (by decide +kernel)
theorem wd_1408 : (Jvm.Cond.fieldLink "SleepersModel" (337 : Nat) "SleepersModel" "fault" "I") ∈ tb := tb_at 1408 (by decide +kernel) (by decide +kernel)
theorem wd_1409 : (Jvm.Cond.fieldLink "SleepersModel" (36 : Nat) "SleepersModel" "keys" "Ljava/lang/String;") ∈ tb := tb_at 1409 (by decide +kernel) (by decide +kernel)
theorem wd_1410 : (Jvm.Cond.fieldLink "SleepersModel" (40 : Nat) "SleepersModel" "words" "[J") ∈ tb := tb_at 1410 (by decide +kernel) (by decide +kernel)
theorem wd_1411 : (Jvm.Cond.fieldLink "SleepersModel" (356 : Nat) "SleepersModel" "now" "I") ∈ tb := tb_at 1411 (by decide +kernel) (by decide +kernel)
theorem wd_1413 : (Jvm.Cond.fieldLink "SleepersModel" (43 : Nat) "SleepersModel" "routines" "[I") ∈ tb := tb_at 1413 (by decide +kernel) (by decide +kernel)
theorem wd_1414 : (Jvm.Cond.fieldLink "SleepersModel" (46 : Nat) "SleepersModel" "routineName" "[J") ∈ tb := tb_at 1414 (by decide +kernel) (by decide +kernel)
theorem wd_1415 : (Jvm.Cond.fieldLink "SleepersModel" (49 : Nat) "SleepersModel" "givens" "[I") ∈ tb := tb_at 1415 (by decide +kernel) (by decide +kernel)
theorem wd_1416 : (Jvm.Cond.fieldLink "SleepersModel" (52 : Nat) "SleepersModel" "cells" "[I") ∈ tb := tb_at 1416 (by decide +kernel) (by decide +kernel)
theorem wd_1417 : (Jvm.Cond.fieldLink "SleepersModel" (55 : Nat) "SleepersModel" "cellName" "[J") ∈ tb := tb_at 1417 (by decide +kernel) (by decide +kernel)
theorem wd_1418 : (Jvm.Cond.fieldLink "SleepersModel" (58 : Nat) "SleepersModel" "waits" "[I") ∈ tb := tb_at 1418 (by decide +kernel) (by decide +kernel)
theorem wd_1419 : (Jvm.Cond.fieldLink "SleepersModel" (61 : Nat) "SleepersModel" "codeAt" "[I") ∈ tb := tb_at 1419 (by decide +kernel) (by decide +kernel)
theorem wd_1420 : (Jvm.Cond.fieldLink "SleepersModel" (64 : Nat) "SleepersModel" "op" "[I") ∈ tb := tb_at 1420 (by decide +kernel) (by decide +kernel)
theorem wd_1421 : (Jvm.Cond.fieldLink "SleepersModel" (67 : Nat) "SleepersModel" "one" "[I") ∈ tb := tb_at 1421 (by decide +kernel) (by decide +kernel)
theorem wd_1422 : (Jvm.Cond.fieldLink "SleepersModel" (70 : Nat) "SleepersModel" "two" "[I") ∈ tb := tb_at 1422 (by decide +kernel) (by decide +kernel)
theorem wd_1423 : (Jvm.Cond.fieldLink "SleepersModel" (362 : Nat) "SleepersModel" "codes" "I") ∈ tb := tb_at 1423 (by decide +kernel) (by decide +kernel)
theorem wd_1424 : (Jvm.Cond.fieldLink "SleepersModel" (73 : Nat) "SleepersModel" "does" "[I") ∈ tb := tb_at 1424 (by decide +kernel) (by decide +kernel)
theorem wd_1425 : (Jvm.Cond.fieldLink "SleepersModel" (76 : Nat) "SleepersModel" "toWhat" "[I") ∈ tb := tb_at 1425 (by decide +kernel) (by decide +kernel)
theorem wd_1426 : (Jvm.Cond.fieldLink "SleepersModel" (79 : Nat) "SleepersModel" "wayA" "[I") ∈ tb := tb_at 1426 (by decide +kernel) (by decide +kernel)
theorem wd_1427 : (Jvm.Cond.fieldLink "SleepersModel" (82 : Nat) "SleepersModel" "wayB" "[I") ∈ tb := tb_at 1427 (by decide +kernel) (by decide +kernel)
theorem wd_1428 : (Jvm.Cond.fieldLink "SleepersModel" (85 : Nat) "SleepersModel" "inTry" "[I") ∈ tb := tb_at 1428 (by decide +kernel) (by decide +kernel)
theorem wd_1429 : (Jvm.Cond.fieldLink "SleepersModel" (88 : Nat) "SleepersModel" "inPart" "[I") ∈ tb := tb_at 1429 (by decide +kernel) (by decide +kernel)
theorem wd_1430 : (Jvm.Cond.fieldLink "SleepersModel" (91 : Nat) "SleepersModel" "inWhile" "[I") ∈ tb := tb_at 1430 (by decide +kernel) (by decide +kernel)
theorem wd_1431 : (Jvm.Cond.fieldLink "SleepersModel" (365 : Nat) "SleepersModel" "acts" "I") ∈ tb := tb_at 1431 (by decide +kernel) (by decide +kernel)
theorem wd_1432 : (Jvm.Cond.fieldLink "SleepersModel" (94 : Nat) "SleepersModel" "actAt" "[I") ∈ tb := tb_at 1432 (by decide +kernel) (by decide +kernel)
theorem wd_1433 : (Jvm.Cond.fieldLink "SleepersModel" (97 : Nat) "SleepersModel" "endAct" "[I") ∈ tb := tb_at 1433 (by decide +kernel) (by decide +kernel)
theorem wd_1434 : (Jvm.Cond.fieldLink "SleepersModel" (100 : Nat) "SleepersModel" "waitAct" "[I") ∈ tb := tb_at 1434 (by decide +kernel) (by decide +kernel)
theorem wd_1436 : (Jvm.Cond.fieldLink "SleepersModel" (103 : Nat) "SleepersModel" "tryTry" "[I") ∈ tb := tb_at 1436 (by decide +kernel) (by decide +kernel)
theorem wd_1437 : (Jvm.Cond.fieldLink "SleepersModel" (106 : Nat) "SleepersModel" "tryPart" "[I") ∈ tb := tb_at 1437 (by decide +kernel) (by decide +kernel)
theorem wd_1438 : (Jvm.Cond.fieldLink "SleepersModel" (109 : Nat) "SleepersModel" "tryWhile" "[I") ∈ tb := tb_at 1438 (by decide +kernel) (by decide +kernel)
theorem wd_1439 : (Jvm.Cond.fieldLink "SleepersModel" (112 : Nat) "SleepersModel" "hasOn" "[Z") ∈ tb := tb_at 1439 (by decide +kernel) (by decide +kernel)
theorem wd_1440 : (Jvm.Cond.fieldLink "SleepersModel" (116 : Nat) "SleepersModel" "hasFinish" "[Z") ∈ tb := tb_at 1440 (by decide +kernel) (by decide +kernel)
theorem wd_1441 : (Jvm.Cond.fieldLink "SleepersModel" (119 : Nat) "SleepersModel" "onCode" "[I") ∈ tb := tb_at 1441 (by decide +kernel) (by decide +kernel)
theorem wd_1442 : (Jvm.Cond.fieldLink "SleepersModel" (122 : Nat) "SleepersModel" "onCell" "[I") ∈ tb := tb_at 1442 (by decide +kernel) (by decide +kernel)
theorem wd_1443 : (Jvm.Cond.fieldLink "SleepersModel" (125 : Nat) "SleepersModel" "finishCode" "[I") ∈ tb := tb_at 1443 (by decide +kernel) (by decide +kernel)
theorem wd_1444 : (Jvm.Cond.fieldLink "SleepersModel" (128 : Nat) "SleepersModel" "behindCode" "[I") ∈ tb := tb_at 1444 (by decide +kernel) (by decide +kernel)
theorem wd_1445 : (Jvm.Cond.fieldLink "SleepersModel" (131 : Nat) "SleepersModel" "onAct" "[I") ∈ tb := tb_at 1445 (by decide +kernel) (by decide +kernel)
theorem wd_1446 : (Jvm.Cond.fieldLink "SleepersModel" (134 : Nat) "SleepersModel" "finishAct" "[I") ∈ tb := tb_at 1446 (by decide +kernel) (by decide +kernel)
theorem wd_1447 : (Jvm.Cond.fieldLink "SleepersModel" (137 : Nat) "SleepersModel" "behindAct" "[I") ∈ tb := tb_at 1447 (by decide +kernel) (by decide +kernel)
theorem wd_1448 : (Jvm.Cond.fieldLink "SleepersModel" (140 : Nat) "SleepersModel" "breaks" "[Z") ∈ tb := tb_at 1448 (by decide +kernel) (by decide +kernel)
theorem wd_1449 : (Jvm.Cond.fieldLink "SleepersModel" (143 : Nat) "SleepersModel" "continues" "[Z") ∈ tb := tb_at 1449 (by decide +kernel) (by decide +kernel)
theorem wd_1450 : (Jvm.Cond.fieldLink "SleepersModel" (146 : Nat) "SleepersModel" "returns" "[Z") ∈ tb := tb_at 1450 (by decide +kernel) (by decide +kernel)
theorem wd_1452 : (Jvm.Cond.fieldLink "SleepersModel" (149 : Nat) "SleepersModel" "whileTry" "[I") ∈ tb := tb_at 1452 (by decide +kernel) (by decide +kernel)
theorem wd_1453 : (Jvm.Cond.fieldLink "SleepersModel" (152 : Nat) "SleepersModel" "whileDeep" "[I") ∈ tb := tb_at 1453 (by decide +kernel) (by decide +kernel)
theorem wd_1454 : (Jvm.Cond.fieldLink "SleepersModel" (155 : Nat) "SleepersModel" "whileCode" "[I") ∈ tb := tb_at 1454 (by decide +kernel) (by decide +kernel)
theorem wd_1455 : (Jvm.Cond.fieldLink "SleepersModel" (158 : Nat) "SleepersModel" "whileOut" "[I") ∈ tb := tb_at 1455 (by decide +kernel) (by decide +kernel)
theorem wd_1456 : (Jvm.Cond.fieldLink "SleepersModel" (161 : Nat) "SleepersModel" "whileAct" "[I") ∈ tb := tb_at 1456 (by decide +kernel) (by decide +kernel)
theorem wd_1457 : (Jvm.Cond.fieldLink "SleepersModel" (164 : Nat) "SleepersModel" "whileEnd" "[I") ∈ tb := tb_at 1457 (by decide +kernel) (by decide +kernel)
theorem wd_1458 : (Jvm.Cond.fieldLink "SleepersModel" (167 : Nat) "SleepersModel" "lateAt" "[I") ∈ tb := tb_at 1458 (by decide +kernel) (by decide +kernel)
theorem wd_1459 : (Jvm.Cond.fieldLink "SleepersModel" (170 : Nat) "SleepersModel" "lateMany" "[I") ∈ tb := tb_at 1459 (by decide +kernel) (by decide +kernel)
theorem wd_1460 : (Jvm.Cond.fieldLink "SleepersModel" (173 : Nat) "SleepersModel" "lateCode" "[I") ∈ tb := tb_at 1460 (by decide +kernel) (by decide +kernel)
theorem wd_1463 : (Jvm.Cond.fieldLink "SleepersModel" (403 : Nat) "SleepersModel" "placeTry" "I") ∈ tb := tb_at 1463 (by decide +kernel) (by decide +kernel)
theorem wd_1464 : (Jvm.Cond.fieldLink "SleepersModel" (406 : Nat) "SleepersModel" "placePart" "I") ∈ tb := tb_at 1464 (by decide +kernel) (by decide +kernel)
theorem wd_1465 : (Jvm.Cond.fieldLink "SleepersModel" (409 : Nat) "SleepersModel" "placeWhile" "I") ∈ tb := tb_at 1465 (by decide +kernel) (by decide +kernel)
theorem wd_1470 : (Jvm.Cond.fieldLink "SleepersModel" (176 : Nat) "SleepersModel" "mayReturn" "Z") ∈ tb := tb_at 1470 (by decide +kernel) (by decide +kernel)
theorem wd_1471 : (Jvm.Cond.fieldLink "SleepersModel" (180 : Nat) "SleepersModel" "seen" "[Z") ∈ tb := tb_at 1471 (by decide +kernel) (by decide +kernel)
theorem wd_1472 : (Jvm.Cond.fieldLink "SleepersModel" (183 : Nat) "SleepersModel" "open" "[I") ∈ tb := tb_at 1472 (by decide +kernel) (by decide +kernel)
theorem wd_1474 : (Jvm.Cond.fieldLink "SleepersModel" (542 : Nat) "SleepersModel" "tasks" "I") ∈ tb := tb_at 1474 (by decide +kernel) (by decide +kernel)
theorem wd_1475 : (Jvm.Cond.fieldLink "SleepersModel" (186 : Nat) "SleepersModel" "routineOf" "[I") ∈ tb := tb_at 1475 (by decide +kernel) (by decide +kernel)
theorem wd_1476 : (Jvm.Cond.fieldLink "SleepersModel" (189 : Nat) "SleepersModel" "parentOf" "[I") ∈ tb := tb_at 1476 (by decide +kernel) (by decide +kernel)
theorem wd_1477 : (Jvm.Cond.fieldLink "SleepersModel" (192 : Nat) "SleepersModel" "nodeOf" "[I") ∈ tb := tb_at 1477 (by decide +kernel) (by decide +kernel)
theorem wd_1478 : (Jvm.Cond.fieldLink "SleepersModel" (195 : Nat) "SleepersModel" "stateOf" "[I") ∈ tb := tb_at 1478 (by decide +kernel) (by decide +kernel)
theorem wd_1479 : (Jvm.Cond.fieldLink "SleepersModel" (198 : Nat) "SleepersModel" "endKind" "[I") ∈ tb := tb_at 1479 (by decide +kernel) (by decide +kernel)
theorem wd_1480 : (Jvm.Cond.fieldLink "SleepersModel" (201 : Nat) "SleepersModel" "returned" "[I") ∈ tb := tb_at 1480 (by decide +kernel) (by decide +kernel)
theorem wd_1481 : (Jvm.Cond.fieldLink "SleepersModel" (204 : Nat) "SleepersModel" "pcOf" "[I") ∈ tb := tb_at 1481 (by decide +kernel) (by decide +kernel)
theorem wd_1482 : (Jvm.Cond.fieldLink "SleepersModel" (207 : Nat) "SleepersModel" "cell" "[I") ∈ tb := tb_at 1482 (by decide +kernel) (by decide +kernel)
theorem wd_1483 : (Jvm.Cond.fieldLink "SleepersModel" (210 : Nat) "SleepersModel" "waitOf" "[I") ∈ tb := tb_at 1483 (by decide +kernel) (by decide +kernel)
theorem wd_1484 : (Jvm.Cond.fieldLink "SleepersModel" (213 : Nat) "SleepersModel" "turnsOf" "[I") ∈ tb := tb_at 1484 (by decide +kernel) (by decide +kernel)
theorem wd_1485 : (Jvm.Cond.fieldLink "SleepersModel" (216 : Nat) "SleepersModel" "isCancelled" "[Z") ∈ tb := tb_at 1485 (by decide +kernel) (by decide +kernel)
theorem wd_1486 : (Jvm.Cond.fieldLink "SleepersModel" (219 : Nat) "SleepersModel" "cameHow" "[I") ∈ tb := tb_at 1486 (by decide +kernel) (by decide +kernel)
theorem wd_1487 : (Jvm.Cond.fieldLink "SleepersModel" (222 : Nat) "SleepersModel" "came" "[I") ∈ tb := tb_at 1487 (by decide +kernel) (by decide +kernel)
theorem wd_1488 : (Jvm.Cond.fieldLink "SleepersModel" (225 : Nat) "SleepersModel" "cameCell" "[I") ∈ tb := tb_at 1488 (by decide +kernel) (by decide +kernel)
theorem wd_1489 : (Jvm.Cond.fieldLink "SleepersModel" (228 : Nat) "SleepersModel" "rootOf" "[I") ∈ tb := tb_at 1489 (by decide +kernel) (by decide +kernel)
theorem wd_1490 : (Jvm.Cond.fieldLink "SleepersModel" (231 : Nat) "SleepersModel" "rootEnd" "[I") ∈ tb := tb_at 1490 (by decide +kernel) (by decide +kernel)
theorem wd_1491 : (Jvm.Cond.fieldLink "SleepersModel" (234 : Nat) "SleepersModel" "childrenOf" "[I") ∈ tb := tb_at 1491 (by decide +kernel) (by decide +kernel)
theorem wd_1492 : (Jvm.Cond.fieldLink "SleepersModel" (237 : Nat) "SleepersModel" "frames" "[I") ∈ tb := tb_at 1492 (by decide +kernel) (by decide +kernel)
theorem wd_1493 : (Jvm.Cond.fieldLink "SleepersModel" (240 : Nat) "SleepersModel" "frameTry" "[I") ∈ tb := tb_at 1493 (by decide +kernel) (by decide +kernel)
theorem wd_1494 : (Jvm.Cond.fieldLink "SleepersModel" (243 : Nat) "SleepersModel" "framePart" "[I") ∈ tb := tb_at 1494 (by decide +kernel) (by decide +kernel)
theorem wd_1495 : (Jvm.Cond.fieldLink "SleepersModel" (246 : Nat) "SleepersModel" "frameLeft" "[I") ∈ tb := tb_at 1495 (by decide +kernel) (by decide +kernel)
theorem wd_1496 : (Jvm.Cond.fieldLink "SleepersModel" (249 : Nat) "SleepersModel" "frameWith" "[I") ∈ tb := tb_at 1496 (by decide +kernel) (by decide +kernel)
theorem wd_1497 : (Jvm.Cond.fieldLink "SleepersModel" (252 : Nat) "SleepersModel" "rowOf" "[I") ∈ tb := tb_at 1497 (by decide +kernel) (by decide +kernel)
theorem wd_1498 : (Jvm.Cond.fieldLink "SleepersModel" (545 : Nat) "SleepersModel" "rowMany" "I") ∈ tb := tb_at 1498 (by decide +kernel) (by decide +kernel)
theorem wd_1502 : (Jvm.Cond.fieldLink "SleepersModel" (554 : Nat) "SleepersModel" "puts" "I") ∈ tb := tb_at 1502 (by decide +kernel) (by decide +kernel)
theorem wd_1503 : (Jvm.Cond.fieldLink "SleepersModel" (255 : Nat) "SleepersModel" "putTask" "[I") ∈ tb := tb_at 1503 (by decide +kernel) (by decide +kernel)
theorem wd_1504 : (Jvm.Cond.fieldLink "SleepersModel" (258 : Nat) "SleepersModel" "putValue" "[I") ∈ tb := tb_at 1504 (by decide +kernel) (by decide +kernel)
theorem wd_1505 : (Jvm.Cond.fieldLink "SleepersModel" (557 : Nat) "SleepersModel" "losts" "I") ∈ tb := tb_at 1505 (by decide +kernel) (by decide +kernel)
theorem wd_1506 : (Jvm.Cond.fieldLink "SleepersModel" (261 : Nat) "SleepersModel" "lostTask" "[I") ∈ tb := tb_at 1506 (by decide +kernel) (by decide +kernel)
theorem wd_1507 : (Jvm.Cond.fieldLink "SleepersModel" (264 : Nat) "SleepersModel" "lostValue" "[I") ∈ tb := tb_at 1507 (by decide +kernel) (by decide +kernel)
theorem wd_1508 : (Jvm.Cond.fieldLink "SleepersModel" (267 : Nat) "SleepersModel" "letters" "[I") ∈ tb := tb_at 1508 (by decide +kernel) (by decide +kernel)
theorem wd_1509 : (Jvm.Cond.fieldLink "SleepersModel" (270 : Nat) "SleepersModel" "letterOf" "[I") ∈ tb := tb_at 1509 (by decide +kernel) (by decide +kernel)
theorem wd_1511 : (Jvm.Cond.fieldLink "SleepersModel" (274 : Nat) "SleepersModel" "nodeSort" "[I") ∈ tb := tb_at 1511 (by decide +kernel) (by decide +kernel)
theorem wd_1512 : (Jvm.Cond.fieldLink "SleepersModel" (277 : Nat) "SleepersModel" "nodeUp" "[I") ∈ tb := tb_at 1512 (by decide +kernel) (by decide +kernel)
theorem wd_1513 : (Jvm.Cond.fieldLink "SleepersModel" (280 : Nat) "SleepersModel" "nodeEnd" "[I") ∈ tb := tb_at 1513 (by decide +kernel) (by decide +kernel)
theorem wd_1514 : (Jvm.Cond.fieldLink "SleepersModel" (283 : Nat) "SleepersModel" "nodeState" "[I") ∈ tb := tb_at 1514 (by decide +kernel) (by decide +kernel)
theorem wd_1515 : (Jvm.Cond.fieldLink "SleepersModel" (286 : Nat) "SleepersModel" "nodeValue" "[I") ∈ tb := tb_at 1515 (by decide +kernel) (by decide +kernel)
theorem wd_1516 : (Jvm.Cond.fieldLink "SleepersModel" (289 : Nat) "SleepersModel" "nodeTask" "[I") ∈ tb := tb_at 1516 (by decide +kernel) (by decide +kernel)
theorem wd_1517 : (Jvm.Cond.fieldLink "SleepersModel" (292 : Nat) "SleepersModel" "nodeDate" "[J") ∈ tb := tb_at 1517 (by decide +kernel) (by decide +kernel)
theorem wd_1518 : (Jvm.Cond.fieldLink "SleepersModel" (295 : Nat) "SleepersModel" "standing" "[I") ∈ tb := tb_at 1518 (by decide +kernel) (by decide +kernel)
theorem wd_1520 : (Jvm.Cond.fieldLink "SleepersModel" (298 : Nat) "SleepersModel" "pile" "[I") ∈ tb := tb_at 1520 (by decide +kernel) (by decide +kernel)
theorem wd_1785 : (Jvm.Cond.arrayClass Jvm.ClassFile.FieldType.boolean) ∈ tb := tb_at 1785 (by decide +kernel) (by decide +kernel)
theorem wd_1802 : (Jvm.Cond.methodLink "SleepersModel" (347 : Nat) ({ cls := "SleepersModel", name := "isWord", desc := "(I)Z" } : Jvm.MethodName)) ∈ tb := tb_at 1802 (by decide +kernel) (by decide +kernel)
theorem wd_1804 : (Jvm.Cond.instanceMethod ({ cls := "SleepersModel", name := "isWord", desc := "(I)Z" } : Jvm.MethodName)) ∈ tb := tb_at 1804 (by decide +kernel) (by decide +kernel)
theorem wd_1805 : (Jvm.Cond.code ({ cls := "SleepersModel", name := "isWord", desc := "(I)Z" } : Jvm.MethodName) prog_14_method_12_code (2 : Nat) (Option.some Jvm.ClassFile.FieldType.boolean)) ∈ tb := tb_at 1805 (by decide +kernel) (by decide +kernel)
theorem wd_1826 : (Jvm.Cond.methodLink "SleepersModel" (340 : Nat) ({ cls := "SleepersModel", name := "isSign", desc := "(I)Z" } : Jvm.MethodName)) ∈ tb := tb_at 1826 (by decide +kernel) (by decide +kernel)
theorem wd_1828 : (Jvm.Cond.instanceMethod ({ cls := "SleepersModel", name := "isSign", desc := "(I)Z" } : Jvm.MethodName)) ∈ tb := tb_at 1828 (by decide +kernel) (by decide +kernel)
theorem wd_1829 : (Jvm.Cond.code ({ cls := "SleepersModel", name := "isSign", desc := "(I)Z" } : Jvm.MethodName) prog_14_method_11_code (2 : Nat) (Option.some Jvm.ClassFile.FieldType.boolean)) ∈ tb := tb_at 1829 (by decide +kernel) (by decide +kernel)
theorem wd_2002 : (Jvm.Cond.methodLink "SleepersModel" (569 : Nat) ({ cls := "SleepersModel", name := "newTask", desc := "(III)I" } : Jvm.MethodName)) ∈ tb := tb_at 2002 (by decide +kernel) (by decide +kernel)
theorem wd_2004 : (Jvm.Cond.instanceMethod ({ cls := "SleepersModel", name := "newTask", desc := "(III)I" } : Jvm.MethodName)) ∈ tb := tb_at 2004 (by decide +kernel) (by decide +kernel)
theorem wd_2005 : (Jvm.Cond.code ({ cls := "SleepersModel", name := "newTask", desc := "(III)I" } : Jvm.MethodName) prog_14_method_62_code (6 : Nat) (Option.some Jvm.ClassFile.FieldType.int)) ∈ tb := tb_at 2005 (by decide +kernel) (by decide +kernel)
theorem wd_2006 : (Jvm.Cond.methodLink "SleepersModel" (566 : Nat) ({ cls := "SleepersModel", name := "toRow", desc := "(I)V" } : Jvm.MethodName)) ∈ tb := tb_at 2006 (by decide +kernel) (by decide +kernel)
theorem wd_2008 : (Jvm.Cond.instanceMethod ({ cls := "SleepersModel", name := "toRow", desc := "(I)V" } : Jvm.MethodName)) ∈ tb := tb_at 2008 (by decide +kernel) (by decide +kernel)
theorem wd_2009 : (Jvm.Cond.code ({ cls := "SleepersModel", name := "toRow", desc := "(I)V" } : Jvm.MethodName) prog_14_method_60_code (2 : Nat) (Option.none : Option Jvm.ClassFile.FieldType)) ∈ tb := tb_at 2009 (by decide +kernel) (by decide +kernel)
theorem sl_X12_isSign : Cond.selects RX12 yX12_isSign yX12_isSign ∈ tb := sl_of (y := ⟨"SleepersModel", "isSign", "(I)Z"⟩) (n := 128) (by decide +kernel) (by decide +kernel)
theorem sl_X12_isWord : Cond.selects RX12 yX12_isWord yX12_isWord ∈ tb := sl_of (y := ⟨"SleepersModel", "isWord", "(I)Z"⟩) (n := 128) (by decide +kernel) (by decide +kernel)
theorem sl_X12_lay : Cond.selects RX12 yX12_lay yX12_lay ∈ tb := sl_of (y := ⟨"SleepersModel", "lay", "(J)V"⟩) (n := 128) (by decide +kernel) (by decide +kernel)
theorem sl_X12_newTask : Cond.selects RX12 yX12_newTask yX12_newTask ∈ tb := sl_of (y := ⟨"SleepersModel", "newTask", "(III)I"⟩) (n := 128) (by decide +kernel) (by decide +kernel)
theorem sl_X12_toRow : Cond.selects RX12 yX12_toRow yX12_toRow ∈ tb := sl_of (y := ⟨"SleepersModel", "toRow", "(I)V"⟩) (n := 128) (by decide +kernel) (by decide +kernel)
theorem dX12_act_0 : decode cX12_act 0 = .ok (.aload_n 0, 1) := by decide +kernel
theorem dX12_act_1 : decode cX12_act 1 = .ok (.getfield 73, 3) := by decide +kernel
theorem dX12_act_4 : decode cX12_act 4 = .ok (.aload_n 0, 1) := by decide +kernel
theorem dX12_act_5 : decode cX12_act 5 = .ok (.getfield 365, 3) := by decide +kernel
theorem dX12_act_8 : decode cX12_act 8 = .ok (.iload_n 1, 1) := by decide +kernel
theorem dX12_act_9 : decode cX12_act 9 = .ok (.iastore, 1) := by decide +kernel
theorem dX12_act_10 : decode cX12_act 10 = .ok (.aload_n 0, 1) := by decide +kernel
theorem dX12_act_11 : decode cX12_act 11 = .ok (.getfield 76, 3) := by decide +kernel
theorem dX12_act_14 : decode cX12_act 14 = .ok (.aload_n 0, 1) := by decide +kernel
theorem dX12_act_15 : decode cX12_act 15 = .ok (.getfield 365, 3) := by decide +kernel
theorem dX12_act_18 : decode cX12_act 18 = .ok (.iload_n 2, 1) := by decide +kernel
theorem dX12_act_19 : decode cX12_act 19 = .ok (.iastore, 1) := by decide +kernel
theorem dX12_act_20 : decode cX12_act 20 = .ok (.aload_n 0, 1) := by decide +kernel
theorem dX12_act_21 : decode cX12_act 21 = .ok (.getfield 79, 3) := by decide +kernel
theorem dX12_act_24 : decode cX12_act 24 = .ok (.aload_n 0, 1) := by decide +kernel
theorem dX12_act_25 : decode cX12_act 25 = .ok (.getfield 365, 3) := by decide +kernel
theorem dX12_act_28 : decode cX12_act 28 = .ok (.iconst (-1), 1) := by decide +kernel
theorem dX12_act_29 : decode cX12_act 29 = .ok (.iastore, 1) := by decide +kernel
theorem dX12_act_30 : decode cX12_act 30 = .ok (.aload_n 0, 1) := by decide +kernel
theorem dX12_act_31 : decode cX12_act 31 = .ok (.getfield 82, 3) := by decide +kernel
theorem dX12_act_34 : decode cX12_act 34 = .ok (.aload_n 0, 1) := by decide +kernel
theorem dX12_act_35 : decode cX12_act 35 = .ok (.getfield 365, 3) := by decide +kernel
theorem dX12_act_38 : decode cX12_act 38 = .ok (.iconst (-1), 1) := by decide +kernel
theorem dX12_act_39 : decode cX12_act 39 = .ok (.iastore, 1) := by decide +kernel
theorem dX12_act_40 : decode cX12_act 40 = .ok (.aload_n 0, 1) := by decide +kernel
theorem dX12_act_41 : decode cX12_act 41 = .ok (.getfield 85, 3) := by decide +kernel
theorem dX12_act_44 : decode cX12_act 44 = .ok (.aload_n 0, 1) := by decide +kernel
theorem dX12_act_45 : decode cX12_act 45 = .ok (.getfield 365, 3) := by decide +kernel
theorem dX12_act_48 : decode cX12_act 48 = .ok (.aload_n 0, 1) := by decide +kernel
theorem dX12_act_49 : decode cX12_act 49 = .ok (.getfield 403, 3) := by decide +kernel
theorem dX12_act_52 : decode cX12_act 52 = .ok (.iastore, 1) := by decide +kernel
theorem dX12_act_53 : decode cX12_act 53 = .ok (.aload_n 0, 1) := by decide +kernel
theorem dX12_act_54 : decode cX12_act 54 = .ok (.getfield 88, 3) := by decide +kernel
theorem dX12_act_57 : decode cX12_act 57 = .ok (.aload_n 0, 1) := by decide +kernel
theorem dX12_act_58 : decode cX12_act 58 = .ok (.getfield 365, 3) := by decide +kernel
theorem dX12_act_61 : decode cX12_act 61 = .ok (.aload_n 0, 1) := by decide +kernel
theorem dX12_act_62 : decode cX12_act 62 = .ok (.getfield 406, 3) := by decide +kernel
theorem dX12_act_65 : decode cX12_act 65 = .ok (.iastore, 1) := by decide +kernel
theorem dX12_act_66 : decode cX12_act 66 = .ok (.aload_n 0, 1) := by decide +kernel
theorem dX12_act_67 : decode cX12_act 67 = .ok (.getfield 91, 3) := by decide +kernel
theorem dX12_act_70 : decode cX12_act 70 = .ok (.aload_n 0, 1) := by decide +kernel
theorem dX12_act_71 : decode cX12_act 71 = .ok (.getfield 365, 3) := by decide +kernel
theorem dX12_act_74 : decode cX12_act 74 = .ok (.aload_n 0, 1) := by decide +kernel
theorem dX12_act_75 : decode cX12_act 75 = .ok (.getfield 409, 3) := by decide +kernel
theorem dX12_act_78 : decode cX12_act 78 = .ok (.iastore, 1) := by decide +kernel
theorem dX12_act_79 : decode cX12_act 79 = .ok (.aload_n 0, 1) := by decide +kernel
theorem dX12_act_80 : decode cX12_act 80 = .ok (.dup, 1) := by decide +kernel
theorem dX12_act_81 : decode cX12_act 81 = .ok (.getfield 365, 3) := by decide +kernel
theorem dX12_act_84 : decode cX12_act 84 = .ok (.iconst 1, 1) := by decide +kernel
theorem dX12_act_85 : decode cX12_act 85 = .ok (.iadd, 1) := by decide +kernel
theorem dX12_act_86 : decode cX12_act 86 = .ok (.putfield 365, 3) := by decide +kernel
theorem dX12_act_89 : decode cX12_act 89 = .ok (.aload_n 0, 1) := by decide +kernel
theorem dX12_act_90 : decode cX12_act 90 = .ok (.getfield 365, 3) := by decide +kernel
theorem dX12_act_93 : decode cX12_act 93 = .ok (.iconst 1, 1) := by decide +kernel
theorem dX12_act_94 : decode cX12_act 94 = .ok (.isub, 1) := by decide +kernel
theorem dX12_act_95 : decode cX12_act 95 = .ok (.ireturn, 1) := by decide +kernel
theorem dX12_begin_0 : decode cX12_begin 0 = .ok (.aload_n 0, 1) := by decide +kernel
theorem dX12_begin_1 : decode cX12_begin 1 = .ok (.iconst 0, 1) := by decide +kernel
theorem dX12_begin_2 : decode cX12_begin 2 = .ok (.putfield 1, 3) := by decide +kernel
theorem dX12_begin_5 : decode cX12_begin 5 = .ok (.iload_n 1, 1) := by decide +kernel
theorem dX12_begin_6 : decode cX12_begin 6 = .ok (.ifCond .lt 26, 3) := by decide +kernel
theorem dX12_begin_9 : decode cX12_begin 9 = .ok (.iload_n 1, 1) := by decide +kernel
theorem dX12_begin_10 : decode cX12_begin 10 = .ok (.aload_n 0, 1) := by decide +kernel
theorem dX12_begin_11 : decode cX12_begin 11 = .ok (.getfield 43, 3) := by decide +kernel
theorem dX12_begin_14 : decode cX12_begin 14 = .ok (.aload_n 0, 1) := by decide +kernel
theorem dX12_begin_15 : decode cX12_begin 15 = .ok (.getfield 356, 3) := by decide +kernel
theorem dX12_begin_18 : decode cX12_begin 18 = .ok (.iaload, 1) := by decide +kernel
theorem dX12_begin_19 : decode cX12_begin 19 = .ok (.if_icmp .ge 13, 3) := by decide +kernel
theorem dX12_begin_22 : decode cX12_begin 22 = .ok (.aload_n 0, 1) := by decide +kernel
theorem dX12_begin_23 : decode cX12_begin 23 = .ok (.getfield 542, 3) := by decide +kernel
theorem dX12_begin_26 : decode cX12_begin 26 = .ok (.sipush 200, 3) := by decide +kernel
theorem dX12_begin_29 : decode cX12_begin 29 = .ok (.if_icmp .ne 5, 3) := by decide +kernel
theorem dX12_begin_32 : decode cX12_begin 32 = .ok (.iconst (-1), 1) := by decide +kernel
theorem dX12_begin_33 : decode cX12_begin 33 = .ok (.ireturn, 1) := by decide +kernel
theorem dX12_begin_34 : decode cX12_begin 34 = .ok (.aload_n 0, 1) := by decide +kernel
theorem dX12_begin_35 : decode cX12_begin 35 = .ok (.iload_n 1, 1) := by decide +kernel
theorem dX12_begin_36 : decode cX12_begin 36 = .ok (.iconst (-1), 1) := by decide +kernel
theorem dX12_begin_37 : decode cX12_begin 37 = .ok (.iconst (-1), 1) := by decide +kernel
theorem dX12_begin_38 : decode cX12_begin 38 = .ok (.invokevirtual 569, 3) := by decide +kernel
theorem dX12_begin_41 : decode cX12_begin 41 = .ok (.istore 6, 2) := by decide +kernel
theorem dX12_begin_43 : decode cX12_begin 43 = .ok (.aload_n 0, 1) := by decide +kernel
theorem dX12_begin_44 : decode cX12_begin 44 = .ok (.getfield 49, 3) := by decide +kernel
theorem dX12_begin_47 : decode cX12_begin 47 = .ok (.bipush 12, 2) := by decide +kernel
theorem dX12_begin_49 : decode cX12_begin 49 = .ok (.aload_n 0, 1) := by decide +kernel
theorem dX12_begin_50 : decode cX12_begin 50 = .ok (.getfield 356, 3) := by decide +kernel
theorem dX12_begin_53 : decode cX12_begin 53 = .ok (.imul, 1) := by decide +kernel
theorem dX12_begin_54 : decode cX12_begin 54 = .ok (.iload_n 1, 1) := by decide +kernel
theorem dX12_begin_55 : decode cX12_begin 55 = .ok (.iadd, 1) := by decide +kernel
theorem dX12_begin_56 : decode cX12_begin 56 = .ok (.iaload, 1) := by decide +kernel
theorem dX12_begin_57 : decode cX12_begin 57 = .ok (.istore 7, 2) := by decide +kernel
theorem dX12_begin_59 : decode cX12_begin 59 = .ok (.iconst 0, 1) := by decide +kernel
theorem dX12_begin_60 : decode cX12_begin 60 = .ok (.istore 8, 2) := by decide +kernel
theorem dX12_begin_62 : decode cX12_begin 62 = .ok (.iload 8, 2) := by decide +kernel
theorem dX12_begin_64 : decode cX12_begin 64 = .ok (.iload 7, 2) := by decide +kernel
theorem dX12_begin_66 : decode cX12_begin 66 = .ok (.if_icmp .ge 60, 3) := by decide +kernel
theorem dX12_begin_69 : decode cX12_begin 69 = .ok (.iload 8, 2) := by decide +kernel
theorem dX12_begin_71 : decode cX12_begin 71 = .ok (.iconst 4, 1) := by decide +kernel
theorem dX12_begin_72 : decode cX12_begin 72 = .ok (.if_icmp .ge 54, 3) := by decide +kernel
theorem dX12_begin_75 : decode cX12_begin 75 = .ok (.aload_n 0, 1) := by decide +kernel
theorem dX12_begin_76 : decode cX12_begin 76 = .ok (.getfield 207, 3) := by decide +kernel
theorem dX12_begin_79 : decode cX12_begin 79 = .ok (.bipush 12, 2) := by decide +kernel
theorem dX12_begin_81 : decode cX12_begin 81 = .ok (.iload 6, 2) := by decide +kernel
theorem dX12_begin_83 : decode cX12_begin 83 = .ok (.imul, 1) := by decide +kernel
theorem dX12_begin_84 : decode cX12_begin 84 = .ok (.iload 8, 2) := by decide +kernel
theorem dX12_begin_86 : decode cX12_begin 86 = .ok (.iadd, 1) := by decide +kernel
theorem dX12_begin_87 : decode cX12_begin 87 = .ok (.iload 8, 2) := by decide +kernel
theorem dX12_begin_89 : decode cX12_begin 89 = .ok (.ifCond .ne 7, 3) := by decide +kernel
theorem dX12_begin_92 : decode cX12_begin 92 = .ok (.iload_n 2, 1) := by decide +kernel
theorem dX12_begin_93 : decode cX12_begin 93 = .ok (.goto 26, 3) := by decide +kernel
theorem dX12_begin_96 : decode cX12_begin 96 = .ok (.iload 8, 2) := by decide +kernel
theorem dX12_begin_98 : decode cX12_begin 98 = .ok (.iconst 1, 1) := by decide +kernel
theorem dX12_begin_99 : decode cX12_begin 99 = .ok (.if_icmp .ne 7, 3) := by decide +kernel
theorem dX12_begin_102 : decode cX12_begin 102 = .ok (.iload_n 3, 1) := by decide +kernel
theorem dX12_begin_103 : decode cX12_begin 103 = .ok (.goto 16, 3) := by decide +kernel
theorem dX12_begin_106 : decode cX12_begin 106 = .ok (.iload 8, 2) := by decide +kernel
theorem dX12_begin_108 : decode cX12_begin 108 = .ok (.iconst 2, 1) := by decide +kernel
theorem dX12_begin_109 : decode cX12_begin 109 = .ok (.if_icmp .ne 8, 3) := by decide +kernel
theorem dX12_begin_112 : decode cX12_begin 112 = .ok (.iload 4, 2) := by decide +kernel
theorem dX12_begin_114 : decode cX12_begin 114 = .ok (.goto 5, 3) := by decide +kernel
theorem dX12_begin_117 : decode cX12_begin 117 = .ok (.iload 5, 2) := by decide +kernel
theorem dX12_begin_119 : decode cX12_begin 119 = .ok (.iastore, 1) := by decide +kernel
theorem dX12_begin_120 : decode cX12_begin 120 = .ok (.iinc 8 1, 3) := by decide +kernel
theorem dX12_begin_123 : decode cX12_begin 123 = .ok (.goto (-61), 3) := by decide +kernel
theorem dX12_begin_126 : decode cX12_begin 126 = .ok (.iload 6, 2) := by decide +kernel
theorem dX12_begin_128 : decode cX12_begin 128 = .ok (.ireturn, 1) := by decide +kernel
theorem dX12_emit_0 : decode cX12_emit 0 = .ok (.aload_n 0, 1) := by decide +kernel
theorem dX12_emit_1 : decode cX12_emit 1 = .ok (.getfield 64, 3) := by decide +kernel
theorem dX12_emit_4 : decode cX12_emit 4 = .ok (.aload_n 0, 1) := by decide +kernel
theorem dX12_emit_5 : decode cX12_emit 5 = .ok (.getfield 362, 3) := by decide +kernel
theorem dX12_emit_8 : decode cX12_emit 8 = .ok (.iload_n 1, 1) := by decide +kernel
theorem dX12_emit_9 : decode cX12_emit 9 = .ok (.iastore, 1) := by decide +kernel
theorem dX12_emit_10 : decode cX12_emit 10 = .ok (.aload_n 0, 1) := by decide +kernel
theorem dX12_emit_11 : decode cX12_emit 11 = .ok (.getfield 67, 3) := by decide +kernel
theorem dX12_emit_14 : decode cX12_emit 14 = .ok (.aload_n 0, 1) := by decide +kernel
theorem dX12_emit_15 : decode cX12_emit 15 = .ok (.getfield 362, 3) := by decide +kernel
theorem dX12_emit_18 : decode cX12_emit 18 = .ok (.iload_n 2, 1) := by decide +kernel
theorem dX12_emit_19 : decode cX12_emit 19 = .ok (.iastore, 1) := by decide +kernel
theorem dX12_emit_20 : decode cX12_emit 20 = .ok (.aload_n 0, 1) := by decide +kernel
theorem dX12_emit_21 : decode cX12_emit 21 = .ok (.getfield 70, 3) := by decide +kernel
theorem dX12_emit_24 : decode cX12_emit 24 = .ok (.aload_n 0, 1) := by decide +kernel
theorem dX12_emit_25 : decode cX12_emit 25 = .ok (.getfield 362, 3) := by decide +kernel
theorem dX12_emit_28 : decode cX12_emit 28 = .ok (.iload_n 3, 1) := by decide +kernel
theorem dX12_emit_29 : decode cX12_emit 29 = .ok (.iastore, 1) := by decide +kernel
theorem dX12_emit_30 : decode cX12_emit 30 = .ok (.aload_n 0, 1) := by decide +kernel
theorem dX12_emit_31 : decode cX12_emit 31 = .ok (.dup, 1) := by decide +kernel
theorem dX12_emit_32 : decode cX12_emit 32 = .ok (.getfield 362, 3) := by decide +kernel
theorem dX12_emit_35 : decode cX12_emit 35 = .ok (.iconst 1, 1) := by decide +kernel
theorem dX12_emit_36 : decode cX12_emit 36 = .ok (.iadd, 1) := by decide +kernel
theorem dX12_emit_37 : decode cX12_emit 37 = .ok (.putfield 362, 3) := by decide +kernel
theorem dX12_emit_40 : decode cX12_emit 40 = .ok (.aload_n 0, 1) := by decide +kernel
theorem dX12_emit_41 : decode cX12_emit 41 = .ok (.getfield 362, 3) := by decide +kernel
theorem dX12_emit_44 : decode cX12_emit 44 = .ok (.iconst 1, 1) := by decide +kernel
theorem dX12_emit_45 : decode cX12_emit 45 = .ok (.isub, 1) := by decide +kernel
theorem dX12_emit_46 : decode cX12_emit 46 = .ok (.ireturn, 1) := by decide +kernel
theorem dX12_hasSign_0 : decode cX12_hasSign 0 = .ok (.aload_n 0, 1) := by decide +kernel
theorem dX12_hasSign_1 : decode cX12_hasSign 1 = .ok (.iload_n 1, 1) := by decide +kernel
theorem dX12_hasSign_2 : decode cX12_hasSign 2 = .ok (.invokevirtual 340, 3) := by decide +kernel
theorem dX12_hasSign_5 : decode cX12_hasSign 5 = .ok (.istore_n 2, 1) := by decide +kernel
theorem dX12_hasSign_6 : decode cX12_hasSign 6 = .ok (.aload_n 0, 1) := by decide +kernel
theorem dX12_hasSign_7 : decode cX12_hasSign 7 = .ok (.dup, 1) := by decide +kernel
theorem dX12_hasSign_8 : decode cX12_hasSign 8 = .ok (.getfield 334, 3) := by decide +kernel
theorem dX12_hasSign_11 : decode cX12_hasSign 11 = .ok (.iload_n 2, 1) := by decide +kernel
theorem dX12_hasSign_12 : decode cX12_hasSign 12 = .ok (.ifCond .eq 7, 3) := by decide +kernel
theorem dX12_hasSign_15 : decode cX12_hasSign 15 = .ok (.iconst 1, 1) := by decide +kernel
theorem dX12_hasSign_16 : decode cX12_hasSign 16 = .ok (.goto 4, 3) := by decide +kernel
theorem dX12_hasSign_19 : decode cX12_hasSign 19 = .ok (.iconst 0, 1) := by decide +kernel
theorem dX12_hasSign_20 : decode cX12_hasSign 20 = .ok (.iadd, 1) := by decide +kernel
theorem dX12_hasSign_21 : decode cX12_hasSign 21 = .ok (.putfield 334, 3) := by decide +kernel
theorem dX12_hasSign_24 : decode cX12_hasSign 24 = .ok (.iload_n 2, 1) := by decide +kernel
theorem dX12_hasSign_25 : decode cX12_hasSign 25 = .ok (.ireturn, 1) := by decide +kernel
theorem dX12_hasWord_0 : decode cX12_hasWord 0 = .ok (.aload_n 0, 1) := by decide +kernel
theorem dX12_hasWord_1 : decode cX12_hasWord 1 = .ok (.iload_n 1, 1) := by decide +kernel
theorem dX12_hasWord_2 : decode cX12_hasWord 2 = .ok (.invokevirtual 347, 3) := by decide +kernel
theorem dX12_hasWord_5 : decode cX12_hasWord 5 = .ok (.istore_n 2, 1) := by decide +kernel
theorem dX12_hasWord_6 : decode cX12_hasWord 6 = .ok (.aload_n 0, 1) := by decide +kernel
theorem dX12_hasWord_7 : decode cX12_hasWord 7 = .ok (.dup, 1) := by decide +kernel
theorem dX12_hasWord_8 : decode cX12_hasWord 8 = .ok (.getfield 334, 3) := by decide +kernel
theorem dX12_hasWord_11 : decode cX12_hasWord 11 = .ok (.iload_n 2, 1) := by decide +kernel
theorem dX12_hasWord_12 : decode cX12_hasWord 12 = .ok (.ifCond .eq 7, 3) := by decide +kernel
theorem dX12_hasWord_15 : decode cX12_hasWord 15 = .ok (.iconst 1, 1) := by decide +kernel
theorem dX12_hasWord_16 : decode cX12_hasWord 16 = .ok (.goto 4, 3) := by decide +kernel
theorem dX12_hasWord_19 : decode cX12_hasWord 19 = .ok (.iconst 0, 1) := by decide +kernel
theorem dX12_hasWord_20 : decode cX12_hasWord 20 = .ok (.iadd, 1) := by decide +kernel
theorem dX12_hasWord_21 : decode cX12_hasWord 21 = .ok (.putfield 334, 3) := by decide +kernel
theorem dX12_hasWord_24 : decode cX12_hasWord 24 = .ok (.iload_n 2, 1) := by decide +kernel
theorem dX12_hasWord_25 : decode cX12_hasWord 25 = .ok (.ireturn, 1) := by decide +kernel
theorem dX12_isName_0 : decode cX12_isName 0 = .ok (.aload_n 0, 1) := by decide +kernel
theorem dX12_isName_1 : decode cX12_isName 1 = .ok (.getfield 337, 3) := by decide +kernel
theorem dX12_isName_4 : decode cX12_isName 4 = .ok (.ifCond .ne 20, 3) := by decide +kernel
theorem dX12_isName_7 : decode cX12_isName 7 = .ok (.aload_n 0, 1) := by decide +kernel
theorem dX12_isName_8 : decode cX12_isName 8 = .ok (.getfield 24, 3) := by decide +kernel
theorem dX12_isName_11 : decode cX12_isName 11 = .ok (.aload_n 0, 1) := by decide +kernel
theorem dX12_isName_12 : decode cX12_isName 12 = .ok (.getfield 334, 3) := by decide +kernel
theorem dX12_isName_15 : decode cX12_isName 15 = .ok (.iaload, 1) := by decide +kernel
theorem dX12_isName_16 : decode cX12_isName 16 = .ok (.iconst 1, 1) := by decide +kernel
theorem dX12_isName_17 : decode cX12_isName 17 = .ok (.if_icmp .ne 7, 3) := by decide +kernel
theorem dX12_isName_20 : decode cX12_isName 20 = .ok (.iconst 1, 1) := by decide +kernel
theorem dX12_isName_21 : decode cX12_isName 21 = .ok (.goto 4, 3) := by decide +kernel
theorem dX12_isName_24 : decode cX12_isName 24 = .ok (.iconst 0, 1) := by decide +kernel
theorem dX12_isName_25 : decode cX12_isName 25 = .ok (.istore_n 1, 1) := by decide +kernel
theorem dX12_isName_26 : decode cX12_isName 26 = .ok (.iconst 0, 1) := by decide +kernel
theorem dX12_isName_27 : decode cX12_isName 27 = .ok (.istore_n 2, 1) := by decide +kernel
theorem dX12_isName_28 : decode cX12_isName 28 = .ok (.iload_n 2, 1) := by decide +kernel
theorem dX12_isName_29 : decode cX12_isName 29 = .ok (.bipush 21, 2) := by decide +kernel
theorem dX12_isName_31 : decode cX12_isName 31 = .ok (.if_icmp .ge 38, 3) := by decide +kernel
theorem dX12_isName_34 : decode cX12_isName 34 = .ok (.iload_n 1, 1) := by decide +kernel
theorem dX12_isName_35 : decode cX12_isName 35 = .ok (.ifCond .eq 34, 3) := by decide +kernel
theorem dX12_isName_38 : decode cX12_isName 38 = .ok (.aload_n 0, 1) := by decide +kernel
theorem dX12_isName_39 : decode cX12_isName 39 = .ok (.getfield 30, 3) := by decide +kernel
theorem dX12_isName_42 : decode cX12_isName 42 = .ok (.aload_n 0, 1) := by decide +kernel
theorem dX12_isName_43 : decode cX12_isName 43 = .ok (.getfield 334, 3) := by decide +kernel
theorem dX12_isName_46 : decode cX12_isName 46 = .ok (.laload, 1) := by decide +kernel
theorem dX12_isName_47 : decode cX12_isName 47 = .ok (.aload_n 0, 1) := by decide +kernel
theorem dX12_isName_48 : decode cX12_isName 48 = .ok (.getfield 40, 3) := by decide +kernel
theorem dX12_isName_51 : decode cX12_isName 51 = .ok (.iload_n 2, 1) := by decide +kernel
theorem dX12_isName_52 : decode cX12_isName 52 = .ok (.laload, 1) := by decide +kernel
theorem dX12_isName_53 : decode cX12_isName 53 = .ok (.lcmp, 1) := by decide +kernel
theorem dX12_isName_54 : decode cX12_isName 54 = .ok (.ifCond .eq 7, 3) := by decide +kernel
theorem dX12_isName_57 : decode cX12_isName 57 = .ok (.iconst 1, 1) := by decide +kernel
theorem dX12_isName_58 : decode cX12_isName 58 = .ok (.goto 4, 3) := by decide +kernel
theorem dX12_isName_61 : decode cX12_isName 61 = .ok (.iconst 0, 1) := by decide +kernel
theorem dX12_isName_62 : decode cX12_isName 62 = .ok (.istore_n 1, 1) := by decide +kernel
theorem dX12_isName_63 : decode cX12_isName 63 = .ok (.iinc 2 1, 3) := by decide +kernel
theorem dX12_isName_66 : decode cX12_isName 66 = .ok (.goto (-38), 3) := by decide +kernel
theorem dX12_isName_69 : decode cX12_isName 69 = .ok (.iload_n 1, 1) := by decide +kernel
theorem dX12_isName_70 : decode cX12_isName 70 = .ok (.ireturn, 1) := by decide +kernel
theorem dX12_isSign_0 : decode cX12_isSign 0 = .ok (.aload_n 0, 1) := by decide +kernel
theorem dX12_isSign_1 : decode cX12_isSign 1 = .ok (.getfield 337, 3) := by decide +kernel
theorem dX12_isSign_4 : decode cX12_isSign 4 = .ok (.ifCond .ne 35, 3) := by decide +kernel
theorem dX12_isSign_7 : decode cX12_isSign 7 = .ok (.aload_n 0, 1) := by decide +kernel
theorem dX12_isSign_8 : decode cX12_isSign 8 = .ok (.getfield 24, 3) := by decide +kernel
theorem dX12_isSign_11 : decode cX12_isSign 11 = .ok (.aload_n 0, 1) := by decide +kernel
theorem dX12_isSign_12 : decode cX12_isSign 12 = .ok (.getfield 334, 3) := by decide +kernel
theorem dX12_isSign_15 : decode cX12_isSign 15 = .ok (.iaload, 1) := by decide +kernel
theorem dX12_isSign_16 : decode cX12_isSign 16 = .ok (.iconst 3, 1) := by decide +kernel
theorem dX12_isSign_17 : decode cX12_isSign 17 = .ok (.if_icmp .ne 22, 3) := by decide +kernel
theorem dX12_isSign_20 : decode cX12_isSign 20 = .ok (.aload_n 0, 1) := by decide +kernel
theorem dX12_isSign_21 : decode cX12_isSign 21 = .ok (.getfield 30, 3) := by decide +kernel
theorem dX12_isSign_24 : decode cX12_isSign 24 = .ok (.aload_n 0, 1) := by decide +kernel
theorem dX12_isSign_25 : decode cX12_isSign 25 = .ok (.getfield 334, 3) := by decide +kernel
theorem dX12_isSign_28 : decode cX12_isSign 28 = .ok (.laload, 1) := by decide +kernel
theorem dX12_isSign_29 : decode cX12_isSign 29 = .ok (.iload_n 1, 1) := by decide +kernel
theorem dX12_isSign_30 : decode cX12_isSign 30 = .ok (.i2l, 1) := by decide +kernel
theorem dX12_isSign_31 : decode cX12_isSign 31 = .ok (.lcmp, 1) := by decide +kernel
theorem dX12_isSign_32 : decode cX12_isSign 32 = .ok (.ifCond .ne 7, 3) := by decide +kernel
theorem dX12_isSign_35 : decode cX12_isSign 35 = .ok (.iconst 1, 1) := by decide +kernel
theorem dX12_isSign_36 : decode cX12_isSign 36 = .ok (.goto 4, 3) := by decide +kernel
theorem dX12_isSign_39 : decode cX12_isSign 39 = .ok (.iconst 0, 1) := by decide +kernel
theorem dX12_isSign_40 : decode cX12_isSign 40 = .ok (.ireturn, 1) := by decide +kernel
theorem dX12_isWord_0 : decode cX12_isWord 0 = .ok (.aload_n 0, 1) := by decide +kernel
theorem dX12_isWord_1 : decode cX12_isWord 1 = .ok (.getfield 337, 3) := by decide +kernel
theorem dX12_isWord_4 : decode cX12_isWord 4 = .ok (.ifCond .ne 39, 3) := by decide +kernel
theorem dX12_isWord_7 : decode cX12_isWord 7 = .ok (.aload_n 0, 1) := by decide +kernel
theorem dX12_isWord_8 : decode cX12_isWord 8 = .ok (.getfield 24, 3) := by decide +kernel
theorem dX12_isWord_11 : decode cX12_isWord 11 = .ok (.aload_n 0, 1) := by decide +kernel
theorem dX12_isWord_12 : decode cX12_isWord 12 = .ok (.getfield 334, 3) := by decide +kernel
theorem dX12_isWord_15 : decode cX12_isWord 15 = .ok (.iaload, 1) := by decide +kernel
theorem dX12_isWord_16 : decode cX12_isWord 16 = .ok (.iconst 1, 1) := by decide +kernel
theorem dX12_isWord_17 : decode cX12_isWord 17 = .ok (.if_icmp .ne 26, 3) := by decide +kernel
theorem dX12_isWord_20 : decode cX12_isWord 20 = .ok (.aload_n 0, 1) := by decide +kernel
theorem dX12_isWord_21 : decode cX12_isWord 21 = .ok (.getfield 30, 3) := by decide +kernel
theorem dX12_isWord_24 : decode cX12_isWord 24 = .ok (.aload_n 0, 1) := by decide +kernel
theorem dX12_isWord_25 : decode cX12_isWord 25 = .ok (.getfield 334, 3) := by decide +kernel
theorem dX12_isWord_28 : decode cX12_isWord 28 = .ok (.laload, 1) := by decide +kernel
theorem dX12_isWord_29 : decode cX12_isWord 29 = .ok (.aload_n 0, 1) := by decide +kernel
theorem dX12_isWord_30 : decode cX12_isWord 30 = .ok (.getfield 40, 3) := by decide +kernel
theorem dX12_isWord_33 : decode cX12_isWord 33 = .ok (.iload_n 1, 1) := by decide +kernel
theorem dX12_isWord_34 : decode cX12_isWord 34 = .ok (.laload, 1) := by decide +kernel
theorem dX12_isWord_35 : decode cX12_isWord 35 = .ok (.lcmp, 1) := by decide +kernel
theorem dX12_isWord_36 : decode cX12_isWord 36 = .ok (.ifCond .ne 7, 3) := by decide +kernel
theorem dX12_isWord_39 : decode cX12_isWord 39 = .ok (.iconst 1, 1) := by decide +kernel
theorem dX12_isWord_40 : decode cX12_isWord 40 = .ok (.goto 4, 3) := by decide +kernel
theorem dX12_isWord_43 : decode cX12_isWord 43 = .ok (.iconst 0, 1) := by decide +kernel
theorem dX12_isWord_44 : decode cX12_isWord 44 = .ok (.ireturn, 1) := by decide +kernel
theorem dX12_newTask_0 : decode cX12_newTask 0 = .ok (.aload_n 0, 1) := by decide +kernel
theorem dX12_newTask_1 : decode cX12_newTask 1 = .ok (.getfield 542, 3) := by decide +kernel
theorem dX12_newTask_4 : decode cX12_newTask 4 = .ok (.istore 4, 2) := by decide +kernel
theorem dX12_newTask_6 : decode cX12_newTask 6 = .ok (.aload_n 0, 1) := by decide +kernel
theorem dX12_newTask_7 : decode cX12_newTask 7 = .ok (.dup, 1) := by decide +kernel
theorem dX12_newTask_8 : decode cX12_newTask 8 = .ok (.getfield 542, 3) := by decide +kernel
theorem dX12_newTask_11 : decode cX12_newTask 11 = .ok (.iconst 1, 1) := by decide +kernel
theorem dX12_newTask_12 : decode cX12_newTask 12 = .ok (.iadd, 1) := by decide +kernel
theorem dX12_newTask_13 : decode cX12_newTask 13 = .ok (.putfield 542, 3) := by decide +kernel
theorem dX12_newTask_16 : decode cX12_newTask 16 = .ok (.aload_n 0, 1) := by decide +kernel
theorem dX12_newTask_17 : decode cX12_newTask 17 = .ok (.getfield 186, 3) := by decide +kernel
theorem dX12_newTask_20 : decode cX12_newTask 20 = .ok (.iload 4, 2) := by decide +kernel
theorem dX12_newTask_22 : decode cX12_newTask 22 = .ok (.iload_n 1, 1) := by decide +kernel
theorem dX12_newTask_23 : decode cX12_newTask 23 = .ok (.iastore, 1) := by decide +kernel
theorem dX12_newTask_24 : decode cX12_newTask 24 = .ok (.aload_n 0, 1) := by decide +kernel
theorem dX12_newTask_25 : decode cX12_newTask 25 = .ok (.getfield 189, 3) := by decide +kernel
theorem dX12_newTask_28 : decode cX12_newTask 28 = .ok (.iload 4, 2) := by decide +kernel
theorem dX12_newTask_30 : decode cX12_newTask 30 = .ok (.iload_n 2, 1) := by decide +kernel
theorem dX12_newTask_31 : decode cX12_newTask 31 = .ok (.iastore, 1) := by decide +kernel
theorem dX12_newTask_32 : decode cX12_newTask 32 = .ok (.aload_n 0, 1) := by decide +kernel
theorem dX12_newTask_33 : decode cX12_newTask 33 = .ok (.getfield 192, 3) := by decide +kernel
theorem dX12_newTask_36 : decode cX12_newTask 36 = .ok (.iload 4, 2) := by decide +kernel
theorem dX12_newTask_38 : decode cX12_newTask 38 = .ok (.iload_n 3, 1) := by decide +kernel
theorem dX12_newTask_39 : decode cX12_newTask 39 = .ok (.iastore, 1) := by decide +kernel
theorem dX12_newTask_40 : decode cX12_newTask 40 = .ok (.aload_n 0, 1) := by decide +kernel
theorem dX12_newTask_41 : decode cX12_newTask 41 = .ok (.getfield 198, 3) := by decide +kernel
theorem dX12_newTask_44 : decode cX12_newTask 44 = .ok (.iload 4, 2) := by decide +kernel
theorem dX12_newTask_46 : decode cX12_newTask 46 = .ok (.iconst 0, 1) := by decide +kernel
theorem dX12_newTask_47 : decode cX12_newTask 47 = .ok (.iastore, 1) := by decide +kernel
theorem dX12_newTask_48 : decode cX12_newTask 48 = .ok (.aload_n 0, 1) := by decide +kernel
theorem dX12_newTask_49 : decode cX12_newTask 49 = .ok (.getfield 201, 3) := by decide +kernel
theorem dX12_newTask_52 : decode cX12_newTask 52 = .ok (.iload 4, 2) := by decide +kernel
theorem dX12_newTask_54 : decode cX12_newTask 54 = .ok (.iconst 0, 1) := by decide +kernel
theorem dX12_newTask_55 : decode cX12_newTask 55 = .ok (.iastore, 1) := by decide +kernel
theorem dX12_newTask_56 : decode cX12_newTask 56 = .ok (.aload_n 0, 1) := by decide +kernel
theorem dX12_newTask_57 : decode cX12_newTask 57 = .ok (.getfield 204, 3) := by decide +kernel
theorem dX12_newTask_60 : decode cX12_newTask 60 = .ok (.iload 4, 2) := by decide +kernel
theorem dX12_newTask_62 : decode cX12_newTask 62 = .ok (.aload_n 0, 1) := by decide +kernel
theorem dX12_newTask_63 : decode cX12_newTask 63 = .ok (.getfield 61, 3) := by decide +kernel
theorem dX12_newTask_66 : decode cX12_newTask 66 = .ok (.bipush 12, 2) := by decide +kernel
theorem dX12_newTask_68 : decode cX12_newTask 68 = .ok (.aload_n 0, 1) := by decide +kernel
theorem dX12_newTask_69 : decode cX12_newTask 69 = .ok (.getfield 356, 3) := by decide +kernel
theorem dX12_newTask_72 : decode cX12_newTask 72 = .ok (.imul, 1) := by decide +kernel
theorem dX12_newTask_73 : decode cX12_newTask 73 = .ok (.iload_n 1, 1) := by decide +kernel
theorem dX12_newTask_74 : decode cX12_newTask 74 = .ok (.iadd, 1) := by decide +kernel
theorem dX12_newTask_75 : decode cX12_newTask 75 = .ok (.iaload, 1) := by decide +kernel
theorem dX12_newTask_76 : decode cX12_newTask 76 = .ok (.iastore, 1) := by decide +kernel
theorem dX12_newTask_77 : decode cX12_newTask 77 = .ok (.aload_n 0, 1) := by decide +kernel
theorem dX12_newTask_78 : decode cX12_newTask 78 = .ok (.getfield 210, 3) := by decide +kernel
theorem dX12_newTask_81 : decode cX12_newTask 81 = .ok (.iload 4, 2) := by decide +kernel
theorem dX12_newTask_83 : decode cX12_newTask 83 = .ok (.iconst 0, 1) := by decide +kernel
theorem dX12_newTask_84 : decode cX12_newTask 84 = .ok (.iastore, 1) := by decide +kernel
theorem dX12_newTask_85 : decode cX12_newTask 85 = .ok (.aload_n 0, 1) := by decide +kernel
theorem dX12_newTask_86 : decode cX12_newTask 86 = .ok (.getfield 213, 3) := by decide +kernel
theorem dX12_newTask_89 : decode cX12_newTask 89 = .ok (.iload 4, 2) := by decide +kernel
theorem dX12_newTask_91 : decode cX12_newTask 91 = .ok (.iconst 0, 1) := by decide +kernel
theorem dX12_newTask_92 : decode cX12_newTask 92 = .ok (.iastore, 1) := by decide +kernel
theorem dX12_newTask_93 : decode cX12_newTask 93 = .ok (.aload_n 0, 1) := by decide +kernel
theorem dX12_newTask_94 : decode cX12_newTask 94 = .ok (.getfield 216, 3) := by decide +kernel
theorem dX12_newTask_97 : decode cX12_newTask 97 = .ok (.iload 4, 2) := by decide +kernel
theorem dX12_newTask_99 : decode cX12_newTask 99 = .ok (.iconst 0, 1) := by decide +kernel
theorem dX12_newTask_100 : decode cX12_newTask 100 = .ok (.bastore, 1) := by decide +kernel
theorem dX12_newTask_101 : decode cX12_newTask 101 = .ok (.aload_n 0, 1) := by decide +kernel
theorem dX12_newTask_102 : decode cX12_newTask 102 = .ok (.getfield 219, 3) := by decide +kernel
theorem dX12_newTask_105 : decode cX12_newTask 105 = .ok (.iload 4, 2) := by decide +kernel
theorem dX12_newTask_107 : decode cX12_newTask 107 = .ok (.iconst 0, 1) := by decide +kernel
theorem dX12_newTask_108 : decode cX12_newTask 108 = .ok (.iastore, 1) := by decide +kernel
theorem dX12_newTask_109 : decode cX12_newTask 109 = .ok (.aload_n 0, 1) := by decide +kernel
theorem dX12_newTask_110 : decode cX12_newTask 110 = .ok (.getfield 234, 3) := by decide +kernel
theorem dX12_newTask_113 : decode cX12_newTask 113 = .ok (.iload 4, 2) := by decide +kernel
theorem dX12_newTask_115 : decode cX12_newTask 115 = .ok (.iconst 0, 1) := by decide +kernel
theorem dX12_newTask_116 : decode cX12_newTask 116 = .ok (.iastore, 1) := by decide +kernel
theorem dX12_newTask_117 : decode cX12_newTask 117 = .ok (.aload_n 0, 1) := by decide +kernel
theorem dX12_newTask_118 : decode cX12_newTask 118 = .ok (.getfield 237, 3) := by decide +kernel
theorem dX12_newTask_121 : decode cX12_newTask 121 = .ok (.iload 4, 2) := by decide +kernel
theorem dX12_newTask_123 : decode cX12_newTask 123 = .ok (.iconst 0, 1) := by decide +kernel
theorem dX12_newTask_124 : decode cX12_newTask 124 = .ok (.iastore, 1) := by decide +kernel
theorem dX12_newTask_125 : decode cX12_newTask 125 = .ok (.iconst 0, 1) := by decide +kernel
theorem dX12_newTask_126 : decode cX12_newTask 126 = .ok (.istore 5, 2) := by decide +kernel
theorem dX12_newTask_128 : decode cX12_newTask 128 = .ok (.iload 5, 2) := by decide +kernel
theorem dX12_newTask_130 : decode cX12_newTask 130 = .ok (.bipush 12, 2) := by decide +kernel
theorem dX12_newTask_132 : decode cX12_newTask 132 = .ok (.if_icmp .ge 23, 3) := by decide +kernel
theorem dX12_newTask_135 : decode cX12_newTask 135 = .ok (.aload_n 0, 1) := by decide +kernel
theorem dX12_newTask_136 : decode cX12_newTask 136 = .ok (.getfield 207, 3) := by decide +kernel
theorem dX12_newTask_139 : decode cX12_newTask 139 = .ok (.bipush 12, 2) := by decide +kernel
theorem dX12_newTask_141 : decode cX12_newTask 141 = .ok (.iload 4, 2) := by decide +kernel
theorem dX12_newTask_143 : decode cX12_newTask 143 = .ok (.imul, 1) := by decide +kernel
theorem dX12_newTask_144 : decode cX12_newTask 144 = .ok (.iload 5, 2) := by decide +kernel
theorem dX12_newTask_146 : decode cX12_newTask 146 = .ok (.iadd, 1) := by decide +kernel
theorem dX12_newTask_147 : decode cX12_newTask 147 = .ok (.iconst 0, 1) := by decide +kernel
theorem dX12_newTask_148 : decode cX12_newTask 148 = .ok (.iastore, 1) := by decide +kernel
theorem dX12_newTask_149 : decode cX12_newTask 149 = .ok (.iinc 5 1, 3) := by decide +kernel
theorem dX12_newTask_152 : decode cX12_newTask 152 = .ok (.goto (-24), 3) := by decide +kernel
theorem dX12_newTask_155 : decode cX12_newTask 155 = .ok (.aload_n 0, 1) := by decide +kernel
theorem dX12_newTask_156 : decode cX12_newTask 156 = .ok (.iload 4, 2) := by decide +kernel
theorem dX12_newTask_158 : decode cX12_newTask 158 = .ok (.invokevirtual 566, 3) := by decide +kernel
theorem dX12_newTask_161 : decode cX12_newTask 161 = .ok (.iload 4, 2) := by decide +kernel
theorem dX12_newTask_163 : decode cX12_newTask 163 = .ok (.ireturn, 1) := by decide +kernel
theorem dX12_toRow_0 : decode cX12_toRow 0 = .ok (.aload_n 0, 1) := by decide +kernel
theorem dX12_toRow_1 : decode cX12_toRow 1 = .ok (.getfield 252, 3) := by decide +kernel
theorem dX12_toRow_4 : decode cX12_toRow 4 = .ok (.aload_n 0, 1) := by decide +kernel
theorem dX12_toRow_5 : decode cX12_toRow 5 = .ok (.getfield 545, 3) := by decide +kernel
theorem dX12_toRow_8 : decode cX12_toRow 8 = .ok (.iload_n 1, 1) := by decide +kernel
theorem dX12_toRow_9 : decode cX12_toRow 9 = .ok (.iastore, 1) := by decide +kernel
theorem dX12_toRow_10 : decode cX12_toRow 10 = .ok (.aload_n 0, 1) := by decide +kernel
theorem dX12_toRow_11 : decode cX12_toRow 11 = .ok (.dup, 1) := by decide +kernel
theorem dX12_toRow_12 : decode cX12_toRow 12 = .ok (.getfield 545, 3) := by decide +kernel
theorem dX12_toRow_15 : decode cX12_toRow 15 = .ok (.iconst 1, 1) := by decide +kernel
theorem dX12_toRow_16 : decode cX12_toRow 16 = .ok (.iadd, 1) := by decide +kernel
theorem dX12_toRow_17 : decode cX12_toRow 17 = .ok (.putfield 545, 3) := by decide +kernel
theorem dX12_toRow_20 : decode cX12_toRow 20 = .ok (.aload_n 0, 1) := by decide +kernel
theorem dX12_toRow_21 : decode cX12_toRow 21 = .ok (.getfield 195, 3) := by decide +kernel
theorem dX12_toRow_24 : decode cX12_toRow 24 = .ok (.iload_n 1, 1) := by decide +kernel
theorem dX12_toRow_25 : decode cX12_toRow 25 = .ok (.iconst 0, 1) := by decide +kernel
theorem dX12_toRow_26 : decode cX12_toRow 26 = .ok (.iastore, 1) := by decide +kernel
theorem dX12_toRow_27 : decode cX12_toRow 27 = .ok (.return_, 1) := by decide +kernel
def wp_act (a0 : Int32) (a1 : Int32) (S : mS) (K : mS → Int32 → Prop) : Prop := inR (S.1 8) 24000 ∧ ∀ S1 : mS, S1 = sF S 15 (ix (S.1 8)) a0 → inR (S1.1 8) 24000 ∧ ∀ S2 : mS, S2 = sF S1 16 (ix (S1.1 8)) a1 → inR (S2.1 8) 24000 ∧ ∀ S3 : mS, S3 = sF S2 17 (ix (S2.1 8)) (-1) → inR (S3.1 8) 24000 ∧ ∀ S4 : mS, S4 = sF S3 18 (ix (S3.1 8)) (-1) → inR (S4.1 8) 24000 ∧ ∀ S5 : mS, S5 = sF S4 19 (ix (S4.1 8)) (S4.1 13) → inR (S5.1 8) 24000 ∧ ∀ S6 : mS, S6 = sF S5 20 (ix (S5.1 8)) (S5.1 14) → inR (S6.1 8) 24000 ∧ ∀ S7 : mS, S7 = sF S6 21 (ix (S6.1 8)) (S6.1 15) → ∀ z8 : Int32, z8 = (S7.1 8) + 1 → ∀ S9 : mS, S9 = sZ S7 8 z8 → ∀ z10 : Int32, z10 = (S9.1 8) - 1 → K S9 z10
set_option maxHeartbeats 4000000 in
set_option maxRecDepth 100000 in
theorem ct_act (l : Launch) (S : mS) (a0 : Int32) (a1 : Int32) (K : mS → Int32 → Prop) (h : wp_act a0 a1 S K) : mMi l yX12_act cX12_act 3 (some .int) 0 0 (fun E => [.int a0, .int a1]) S K := by
  refine mv_ofi (by decide) rfl (fun _ => Nat.le_of_ble_eq_true rfl) ?_
  intro E p e R s m args below meth c A ls Q hRf hRl hX hC hl hret
  have hx := hX.1.1
  have hb := hX.1.2.1
  have hown := hX.1.2.2.2.1
  have hts := hX.1.2.2.2.2
  have hl : lv_has ls 3 [(0, .ref E.2.1), (1, .int a0), (2, .int a1)] := hl
  unfold wp_act at h
  refine lv_aload_n hx hb dX12_act_0 rfl (lv_at hl 0 rfl) ?_
  refine mv_get (v := .ref (E.2.2.1 15)) hX hC 24 (Nat.le_of_ble_eq_true rfl) wd_1424 rfl dX12_act_1 ?_
  refine lv_aload_n hx hb dX12_act_4 rfl (lv_at hl 0 rfl) ?_
  refine mv_get (v := .int (S.1 8)) hX hC 31 (Nat.le_of_ble_eq_true rfl) wd_1431 rfl dX12_act_5 ?_
  refine lv_iload_n hx hb dX12_act_8 rfl (lv_at hl 1 rfl) ?_
  refine mq_ist (n := 24000) (v := a0) hX hC 15 rfl rfl mf_15 dX12_act_9 h.1 h.2 (fun S1 H locs hC h => ?_)
  refine lv_aload_n hx hb dX12_act_10 rfl (lv_at hl 0 rfl) ?_
  refine mv_get (v := .ref (E.2.2.1 16)) hX hC 25 (Nat.le_of_ble_eq_true rfl) wd_1425 rfl dX12_act_11 ?_
  refine lv_aload_n hx hb dX12_act_14 rfl (lv_at hl 0 rfl) ?_
  refine mv_get (v := .int (S1.1 8)) hX hC 31 (Nat.le_of_ble_eq_true rfl) wd_1431 rfl dX12_act_15 ?_
  refine lv_iload_n hx hb dX12_act_18 rfl (lv_at hl 2 rfl) ?_
  refine mq_ist (n := 24000) (v := a1) hX hC 16 rfl rfl mf_16 dX12_act_19 h.1 h.2 (fun S2 H locs hC h => ?_)
  refine lv_aload_n hx hb dX12_act_20 rfl (lv_at hl 0 rfl) ?_
  refine mv_get (v := .ref (E.2.2.1 17)) hX hC 26 (Nat.le_of_ble_eq_true rfl) wd_1426 rfl dX12_act_21 ?_
  refine lv_aload_n hx hb dX12_act_24 rfl (lv_at hl 0 rfl) ?_
  refine mv_get (v := .int (S2.1 8)) hX hC 31 (Nat.le_of_ble_eq_true rfl) wd_1431 rfl dX12_act_25 ?_
  refine lv_iconst (v := -1) hx hb dX12_act_28 (by decide) ?_
  refine mq_ist (n := 24000) (v := -1) hX hC 17 rfl rfl mf_17 dX12_act_29 h.1 h.2 (fun S3 H locs hC h => ?_)
  refine lv_aload_n hx hb dX12_act_30 rfl (lv_at hl 0 rfl) ?_
  refine mv_get (v := .ref (E.2.2.1 18)) hX hC 27 (Nat.le_of_ble_eq_true rfl) wd_1427 rfl dX12_act_31 ?_
  refine lv_aload_n hx hb dX12_act_34 rfl (lv_at hl 0 rfl) ?_
  refine mv_get (v := .int (S3.1 8)) hX hC 31 (Nat.le_of_ble_eq_true rfl) wd_1431 rfl dX12_act_35 ?_
  refine lv_iconst (v := -1) hx hb dX12_act_38 (by decide) ?_
  refine mq_ist (n := 24000) (v := -1) hX hC 18 rfl rfl mf_18 dX12_act_39 h.1 h.2 (fun S4 H locs hC h => ?_)
  refine lv_aload_n hx hb dX12_act_40 rfl (lv_at hl 0 rfl) ?_
  refine mv_get (v := .ref (E.2.2.1 19)) hX hC 28 (Nat.le_of_ble_eq_true rfl) wd_1428 rfl dX12_act_41 ?_
  refine lv_aload_n hx hb dX12_act_44 rfl (lv_at hl 0 rfl) ?_
  refine mv_get (v := .int (S4.1 8)) hX hC 31 (Nat.le_of_ble_eq_true rfl) wd_1431 rfl dX12_act_45 ?_
  refine lv_aload_n hx hb dX12_act_48 rfl (lv_at hl 0 rfl) ?_
  refine mv_get (v := .int (S4.1 13)) hX hC 63 (Nat.le_of_ble_eq_true rfl) wd_1463 rfl dX12_act_49 ?_
  refine mq_ist (n := 24000) (v := S4.1 13) hX hC 19 rfl rfl mf_19 dX12_act_52 h.1 h.2 (fun S5 H locs hC h => ?_)
  refine lv_aload_n hx hb dX12_act_53 rfl (lv_at hl 0 rfl) ?_
  refine mv_get (v := .ref (E.2.2.1 20)) hX hC 29 (Nat.le_of_ble_eq_true rfl) wd_1429 rfl dX12_act_54 ?_
  refine lv_aload_n hx hb dX12_act_57 rfl (lv_at hl 0 rfl) ?_
  refine mv_get (v := .int (S5.1 8)) hX hC 31 (Nat.le_of_ble_eq_true rfl) wd_1431 rfl dX12_act_58 ?_
  refine lv_aload_n hx hb dX12_act_61 rfl (lv_at hl 0 rfl) ?_
  refine mv_get (v := .int (S5.1 14)) hX hC 64 (Nat.le_of_ble_eq_true rfl) wd_1464 rfl dX12_act_62 ?_
  refine mq_ist (n := 24000) (v := S5.1 14) hX hC 20 rfl rfl mf_20 dX12_act_65 h.1 h.2 (fun S6 H locs hC h => ?_)
  refine lv_aload_n hx hb dX12_act_66 rfl (lv_at hl 0 rfl) ?_
  refine mv_get (v := .ref (E.2.2.1 21)) hX hC 30 (Nat.le_of_ble_eq_true rfl) wd_1430 rfl dX12_act_67 ?_
  refine lv_aload_n hx hb dX12_act_70 rfl (lv_at hl 0 rfl) ?_
  refine mv_get (v := .int (S6.1 8)) hX hC 31 (Nat.le_of_ble_eq_true rfl) wd_1431 rfl dX12_act_71 ?_
  refine lv_aload_n hx hb dX12_act_74 rfl (lv_at hl 0 rfl) ?_
  refine mv_get (v := .int (S6.1 15)) hX hC 65 (Nat.le_of_ble_eq_true rfl) wd_1465 rfl dX12_act_75 ?_
  refine mq_ist (n := 24000) (v := S6.1 15) hX hC 21 rfl rfl mf_21 dX12_act_78 h.1 h.2 (fun S7 H locs hC h => ?_)
  refine lv_aload_n hx hb dX12_act_79 rfl (lv_at hl 0 rfl) ?_
  refine lv_dup hx hb dX12_act_80 rfl ?_
  refine mv_get (v := .int (S7.1 8)) hX hC 31 (Nat.le_of_ble_eq_true rfl) wd_1431 rfl dX12_act_81 ?_
  refine lv_iconst (v := 1) hx hb dX12_act_84 (by decide) ?_
  refine lq_iadd hx hb dX12_act_85 h (fun z8 h => ?_)
  refine mq_put (v := z8) hX hC 31 8 (Nat.le_of_ble_eq_true rfl) wd_1431 rfl rfl rfl mz_8 dX12_act_86 h (fun S9 H locs hC h => ?_)
  refine lv_aload_n hx hb dX12_act_89 rfl (lv_at hl 0 rfl) ?_
  refine mv_get (v := .int (S9.1 8)) hX hC 31 (Nat.le_of_ble_eq_true rfl) wd_1431 rfl dX12_act_90 ?_
  refine lv_iconst (v := 1) hx hb dX12_act_93 (by decide) ?_
  refine lq_isub hx hb dX12_act_94 h (fun z10 h => ?_)
  exact hret _ _ _ _ _ _ hC h dX12_act_95
def wp_toRow (a0 : Int32) (S : mS) (K : mS → Prop) : Prop := inR (S.1 23) 200 ∧ ∀ S1 : mS, S1 = sF S 73 (ix (S.1 23)) a0 → ∀ z2 : Int32, z2 = (S1.1 23) + 1 → ∀ S3 : mS, S3 = sZ S1 23 z2 → inR a0 200 ∧ ∀ S4 : mS, S4 = sF S3 54 (ix a0) 0 → K S4
set_option maxHeartbeats 4000000 in
set_option maxRecDepth 100000 in
theorem ct_toRow (l : Launch) (S : mS) (a0 : Int32) (K : mS → Prop) (h : wp_toRow a0 S K) : mMv l yX12_toRow cX12_toRow 2 none 0 0 (fun E => [.int a0]) S K := by
  refine mv_ofv (by decide) rfl (fun _ => Nat.le_of_ble_eq_true rfl) ?_
  intro E p e R s m args below meth c A ls Q hRf hRl hX hC hl hret
  have hx := hX.1.1
  have hb := hX.1.2.1
  have hown := hX.1.2.2.2.1
  have hts := hX.1.2.2.2.2
  have hl : lv_has ls 2 [(0, .ref E.2.1), (1, .int a0)] := hl
  unfold wp_toRow at h
  refine lv_aload_n hx hb dX12_toRow_0 rfl (lv_at hl 0 rfl) ?_
  refine mv_get (v := .ref (E.2.2.1 73)) hX hC 97 (Nat.le_of_ble_eq_true rfl) wd_1497 rfl dX12_toRow_1 ?_
  refine lv_aload_n hx hb dX12_toRow_4 rfl (lv_at hl 0 rfl) ?_
  refine mv_get (v := .int (S.1 23)) hX hC 98 (Nat.le_of_ble_eq_true rfl) wd_1498 rfl dX12_toRow_5 ?_
  refine lv_iload_n hx hb dX12_toRow_8 rfl (lv_at hl 1 rfl) ?_
  refine mq_ist (n := 200) (v := a0) hX hC 73 rfl rfl mf_73 dX12_toRow_9 h.1 h.2 (fun S1 H locs hC h => ?_)
  refine lv_aload_n hx hb dX12_toRow_10 rfl (lv_at hl 0 rfl) ?_
  refine lv_dup hx hb dX12_toRow_11 rfl ?_
  refine mv_get (v := .int (S1.1 23)) hX hC 98 (Nat.le_of_ble_eq_true rfl) wd_1498 rfl dX12_toRow_12 ?_
  refine lv_iconst (v := 1) hx hb dX12_toRow_15 (by decide) ?_
  refine lq_iadd hx hb dX12_toRow_16 h (fun z2 h => ?_)
  refine mq_put (v := z2) hX hC 98 23 (Nat.le_of_ble_eq_true rfl) wd_1498 rfl rfl rfl mz_23 dX12_toRow_17 h (fun S3 H locs hC h => ?_)
  refine lv_aload_n hx hb dX12_toRow_20 rfl (lv_at hl 0 rfl) ?_
  refine mv_get (v := .ref (E.2.2.1 54)) hX hC 78 (Nat.le_of_ble_eq_true rfl) wd_1478 rfl dX12_toRow_21 ?_
  refine lv_iload_n hx hb dX12_toRow_24 rfl (lv_at hl 1 rfl) ?_
  refine lv_iconst (v := 0) hx hb dX12_toRow_25 (by decide) ?_
  refine mq_ist (n := 200) (v := 0) hX hC 54 rfl rfl mf_54 dX12_toRow_26 h.1 h.2 (fun S4 H locs hC h => ?_)
  exact hret _ _ _ _ _ hC h dX12_toRow_27
def wp_newTask_128 (K : mS → Int32 → Prop) (k128 : Int32 × Int32 × mS → Prop) (x4 : Int32) (x5 : Int32) (S : mS) : Prop := ((12 ≤ x5 → wp_toRow x4 S (fun (S19 : mS) => K S19 x4)) ∧ (¬ 12 ≤ x5 → ∀ z20 : Int32, z20 = 12 * x4 → ∀ z21 : Int32, z21 = z20 + x5 → inR z21 2400 ∧ ∀ S22 : mS, S22 = sF S 58 (ix z21) 0 → ∀ z23 : Int32, z23 = x5 + 1 → k128 (x4, z23, S22)))
def ls_newTask_128 (K : mS → Int32 → Prop) (k128 : Int32 × Int32 × mS → Prop) (u : Int32 × Int32 × mS) : Prop := wp_newTask_128 K k128 u.1 u.2.1 u.2.2
def wp_newTask (a0 : Int32) (a1 : Int32) (a2 : Int32) (S : mS) (K : mS → Int32 → Prop) : Prop := ∀ z1 : Int32, z1 = (S.1 22) + 1 → ∀ S2 : mS, S2 = sZ S 22 z1 → inR (S.1 22) 200 ∧ ∀ S3 : mS, S3 = sF S2 51 (ix (S.1 22)) a0 → inR (S.1 22) 200 ∧ ∀ S4 : mS, S4 = sF S3 52 (ix (S.1 22)) a1 → inR (S.1 22) 200 ∧ ∀ S5 : mS, S5 = sF S4 53 (ix (S.1 22)) a2 → inR (S.1 22) 200 ∧ ∀ S6 : mS, S6 = sF S5 55 (ix (S.1 22)) 0 → inR (S.1 22) 200 ∧ ∀ S7 : mS, S7 = sF S6 56 (ix (S.1 22)) 0 → ∀ z8 : Int32, z8 = 12 * (S7.1 5) → ∀ z9 : Int32, z9 = z8 + a0 → inR z9 24 ∧ ∀ z10 : Int32, z10 = S7.2.1 11 (ix z9) → inR (S.1 22) 200 ∧ ∀ S11 : mS, S11 = sF S7 57 (ix (S.1 22)) z10 → inR (S.1 22) 200 ∧ ∀ S12 : mS, S12 = sF S11 59 (ix (S.1 22)) 0 → inR (S.1 22) 200 ∧ ∀ S13 : mS, S13 = sF S12 60 (ix (S.1 22)) 0 → inR (S.1 22) 200 ∧ ∀ S14 : mS, S14 = sF S13 61 (ix (S.1 22)) 0 → inR (S.1 22) 200 ∧ ∀ S15 : mS, S15 = sF S14 62 (ix (S.1 22)) 0 → inR (S.1 22) 200 ∧ ∀ S16 : mS, S16 = sF S15 67 (ix (S.1 22)) 0 → inR (S.1 22) 200 ∧ ∀ S17 : mS, S17 = sF S16 68 (ix (S.1 22)) 0 → (∃ n9, it (ls_newTask_128 K) n9 (S.1 22, 0, S17))
theorem cw_X12_toRow {R : Room} {s : State} {args : Array Value} {fr lo : Nat} (hts : ∀ w ∈ tb, w.before args s = true) (h1 : fr + 1 ≤ R.frames) (h2 : 8 + (2 + 11) + lo ≤ R.locals) : CallW R s args RX12 RX12 566 yX12_toRow cX12_toRow 2 none (.code yX12_toRow cX12_toRow 2 none :: tb) (mRm fr lo) 0 0 1 := cwV 1 hts (gd_V wd_2006 wd_2008 sl_X12_toRow wd_15 wd_2009) rfl rfl rfl (by decide +kernel) ⟨h1, h2⟩
set_option maxHeartbeats 4000000 in
set_option maxRecDepth 100000 in
theorem ct_newTask (l : Launch) (S : mS) (a0 : Int32) (a1 : Int32) (a2 : Int32) (K : mS → Int32 → Prop) (h : wp_newTask a0 a1 a2 S K) : mMi l yX12_newTask cX12_newTask 6 (some .int) 1 21 (fun E => [.int a0, .int a1, .int a2]) S K := by
  refine mv_ofi (by decide) rfl (fun _ => Nat.le_of_ble_eq_true rfl) ?_
  intro E p e R s m args below meth c A ls Q hRf hRl hX hC hl hret
  have hx := hX.1.1
  have hb := hX.1.2.1
  have hown := hX.1.2.2.2.1
  have hts := hX.1.2.2.2.2
  have cut128 : ∀ (n128 : Nat) (x4 : Int32) (x5 : Int32) (S : mS) (H : Heap) (locs : List Loc) (ls : Array Slot), it (ls_newTask_128 K) n128 (x4, x5, S) → mC E A s.heap S H locs → lv_has ls 6 [(0, .ref E.2.1), (4, .int x4), (5, .int x5)] → W p l e R s m args below meth c H locs 0 0 Q (F0 m 128 ls []) := by
    intro n128
    induction n128 with
    | zero => intro x4 x5 S H locs ls h hC hl; exact h.elim
    | succ n128 ih128 =>
      intro x4 x5 S H locs ls h hC hl
      have h : wp_newTask_128 K (it (ls_newTask_128 K) n128) x4 x5 S := h
      unfold wp_newTask_128 at h
      refine lv_iload hx hb dX12_newTask_128 (lv_at hl 2 rfl) ?_
      refine lv_bipush (v := 12) hx hb dX12_newTask_130 (by decide) ?_
      refine lv_icmp_ge (tgt := 155) hx hb dX12_newTask_132 (by decide) (fun c18 => ?_) (fun c18 => ?_)
      · have h := h.1 c18
        refine lv_aload_n hx hb dX12_newTask_155 rfl (lv_at hl 0 rfl) ?_
        refine lv_iload hx hb dX12_newTask_156 (lv_at hl 1 rfl) ?_
        refine mv_callv [.int x4] (rest := []) hX hC (ct_toRow l S x4 _ h E _) (cw_X12_toRow hts (by omega) (by omega)) rfl hl.1 (Nat.le_of_ble_eq_true rfl) ⟨Nat.zero_le _, Nat.zero_le _⟩ dX12_newTask_158 (fun S19 H locs hC h => ?_)
        refine lv_iload hx hb dX12_newTask_161 (lv_at hl 1 rfl) ?_
        exact hret _ _ _ _ _ _ hC h dX12_newTask_163
      · have h := h.2 c18
        refine lv_aload_n hx hb dX12_newTask_135 rfl (lv_at hl 0 rfl) ?_
        refine mv_get (v := .ref (E.2.2.1 58)) hX hC 82 (Nat.le_of_ble_eq_true rfl) wd_1482 rfl dX12_newTask_136 ?_
        refine lv_bipush (v := 12) hx hb dX12_newTask_139 (by decide) ?_
        refine lv_iload hx hb dX12_newTask_141 (lv_at hl 1 rfl) ?_
        refine lq_imul hx hb dX12_newTask_143 h (fun z20 h => ?_)
        refine lv_iload hx hb dX12_newTask_144 (lv_at hl 2 rfl) ?_
        refine lq_iadd hx hb dX12_newTask_146 h (fun z21 h => ?_)
        refine lv_iconst (v := 0) hx hb dX12_newTask_147 (by decide) ?_
        refine mq_ist (n := 2400) (v := 0) hX hC 58 rfl rfl mf_58 dX12_newTask_148 h.1 h.2 (fun S22 H locs hC h => ?_)
        obtain ⟨z23, ez23⟩ : ∃ y : Int32, y = x5 + 1 := ⟨_, rfl⟩
        have h := h z23 ez23
        refine lv_iinc (v := z23) (lv' := [(5, .int z23), (0, .ref E.2.1), (4, .int x4)]) hx hb dX12_newTask_149 hl (k := 2) rfl (by rw [ez23]; rfl) (by decide) rfl (fun ls hl => ?_)
        refine lv_goto (tgt := 128) hx hb dX12_newTask_152 (by decide) ?_
        exact ih128 x4 z23 S22 _ _ _ h hC (lv_sub hl [1, 2, 0] rfl)
  have hl : lv_has ls 6 [(0, .ref E.2.1), (1, .int a0), (2, .int a1), (3, .int a2)] := hl
  unfold wp_newTask at h
  refine lv_aload_n hx hb dX12_newTask_0 rfl (lv_at hl 0 rfl) ?_
  refine mv_get (v := .int (S.1 22)) hX hC 74 (Nat.le_of_ble_eq_true rfl) wd_1474 rfl dX12_newTask_1 ?_
  refine lv_istore (lv' := [(4, .int (S.1 22)), (0, .ref E.2.1), (1, .int a0), (2, .int a1), (3, .int a2)]) hx hb dX12_newTask_4 hl (by decide) rfl (fun ls hl => ?_)
  refine lv_aload_n hx hb dX12_newTask_6 rfl (lv_at hl 1 rfl) ?_
  refine lv_dup hx hb dX12_newTask_7 rfl ?_
  refine mv_get (v := .int (S.1 22)) hX hC 74 (Nat.le_of_ble_eq_true rfl) wd_1474 rfl dX12_newTask_8 ?_
  refine lv_iconst (v := 1) hx hb dX12_newTask_11 (by decide) ?_
  refine lq_iadd hx hb dX12_newTask_12 h (fun z1 h => ?_)
  refine mq_put (v := z1) hX hC 74 22 (Nat.le_of_ble_eq_true rfl) wd_1474 rfl rfl rfl mz_22 dX12_newTask_13 h (fun S2 H locs hC h => ?_)
  refine lv_aload_n hx hb dX12_newTask_16 rfl (lv_at hl 1 rfl) ?_
  refine mv_get (v := .ref (E.2.2.1 51)) hX hC 75 (Nat.le_of_ble_eq_true rfl) wd_1475 rfl dX12_newTask_17 ?_
  refine lv_iload hx hb dX12_newTask_20 (lv_at hl 0 rfl) ?_
  refine lv_iload_n hx hb dX12_newTask_22 rfl (lv_at hl 2 rfl) ?_
  refine mq_ist (n := 200) (v := a0) hX hC 51 rfl rfl mf_51 dX12_newTask_23 h.1 h.2 (fun S3 H locs hC h => ?_)
  refine lv_aload_n hx hb dX12_newTask_24 rfl (lv_at hl 1 rfl) ?_
  refine mv_get (v := .ref (E.2.2.1 52)) hX hC 76 (Nat.le_of_ble_eq_true rfl) wd_1476 rfl dX12_newTask_25 ?_
  refine lv_iload hx hb dX12_newTask_28 (lv_at hl 0 rfl) ?_
  refine lv_iload_n hx hb dX12_newTask_30 rfl (lv_at hl 3 rfl) ?_
  refine mq_ist (n := 200) (v := a1) hX hC 52 rfl rfl mf_52 dX12_newTask_31 h.1 h.2 (fun S4 H locs hC h => ?_)
  refine lv_aload_n hx hb dX12_newTask_32 rfl (lv_at hl 1 rfl) ?_
  refine mv_get (v := .ref (E.2.2.1 53)) hX hC 77 (Nat.le_of_ble_eq_true rfl) wd_1477 rfl dX12_newTask_33 ?_
  refine lv_iload hx hb dX12_newTask_36 (lv_at hl 0 rfl) ?_
  refine lv_iload_n hx hb dX12_newTask_38 rfl (lv_at hl 4 rfl) ?_
  refine mq_ist (n := 200) (v := a2) hX hC 53 rfl rfl mf_53 dX12_newTask_39 h.1 h.2 (fun S5 H locs hC h => ?_)
  refine lv_aload_n hx hb dX12_newTask_40 rfl (lv_at hl 1 rfl) ?_
  refine mv_get (v := .ref (E.2.2.1 55)) hX hC 79 (Nat.le_of_ble_eq_true rfl) wd_1479 rfl dX12_newTask_41 ?_
  refine lv_iload hx hb dX12_newTask_44 (lv_at hl 0 rfl) ?_
  refine lv_iconst (v := 0) hx hb dX12_newTask_46 (by decide) ?_
  refine mq_ist (n := 200) (v := 0) hX hC 55 rfl rfl mf_55 dX12_newTask_47 h.1 h.2 (fun S6 H locs hC h => ?_)
  refine lv_aload_n hx hb dX12_newTask_48 rfl (lv_at hl 1 rfl) ?_
  refine mv_get (v := .ref (E.2.2.1 56)) hX hC 80 (Nat.le_of_ble_eq_true rfl) wd_1480 rfl dX12_newTask_49 ?_
  refine lv_iload hx hb dX12_newTask_52 (lv_at hl 0 rfl) ?_
  refine lv_iconst (v := 0) hx hb dX12_newTask_54 (by decide) ?_
  refine mq_ist (n := 200) (v := 0) hX hC 56 rfl rfl mf_56 dX12_newTask_55 h.1 h.2 (fun S7 H locs hC h => ?_)
  refine lv_aload_n hx hb dX12_newTask_56 rfl (lv_at hl 1 rfl) ?_
  refine mv_get (v := .ref (E.2.2.1 57)) hX hC 81 (Nat.le_of_ble_eq_true rfl) wd_1481 rfl dX12_newTask_57 ?_
  refine lv_iload hx hb dX12_newTask_60 (lv_at hl 0 rfl) ?_
  refine lv_aload_n hx hb dX12_newTask_62 rfl (lv_at hl 1 rfl) ?_
  refine mv_get (v := .ref (E.2.2.1 11)) hX hC 19 (Nat.le_of_ble_eq_true rfl) wd_1419 rfl dX12_newTask_63 ?_
  refine lv_bipush (v := 12) hx hb dX12_newTask_66 (by decide) ?_
  refine lv_aload_n hx hb dX12_newTask_68 rfl (lv_at hl 1 rfl) ?_
  refine mv_get (v := .int (S7.1 5)) hX hC 11 (Nat.le_of_ble_eq_true rfl) wd_1411 rfl dX12_newTask_69 ?_
  refine lq_imul hx hb dX12_newTask_72 h (fun z8 h => ?_)
  refine lv_iload_n hx hb dX12_newTask_73 rfl (lv_at hl 2 rfl) ?_
  refine lq_iadd hx hb dX12_newTask_74 h (fun z9 h => ?_)
  refine mq_ild (n := 24) hX hC 11 rfl rfl dX12_newTask_75 h (fun z10 h => ?_)
  refine mq_ist (n := 200) (v := z10) hX hC 57 rfl rfl mf_57 dX12_newTask_76 h.1 h.2 (fun S11 H locs hC h => ?_)
  refine lv_aload_n hx hb dX12_newTask_77 rfl (lv_at hl 1 rfl) ?_
  refine mv_get (v := .ref (E.2.2.1 59)) hX hC 83 (Nat.le_of_ble_eq_true rfl) wd_1483 rfl dX12_newTask_78 ?_
  refine lv_iload hx hb dX12_newTask_81 (lv_at hl 0 rfl) ?_
  refine lv_iconst (v := 0) hx hb dX12_newTask_83 (by decide) ?_
  refine mq_ist (n := 200) (v := 0) hX hC 59 rfl rfl mf_59 dX12_newTask_84 h.1 h.2 (fun S12 H locs hC h => ?_)
  refine lv_aload_n hx hb dX12_newTask_85 rfl (lv_at hl 1 rfl) ?_
  refine mv_get (v := .ref (E.2.2.1 60)) hX hC 84 (Nat.le_of_ble_eq_true rfl) wd_1484 rfl dX12_newTask_86 ?_
  refine lv_iload hx hb dX12_newTask_89 (lv_at hl 0 rfl) ?_
  refine lv_iconst (v := 0) hx hb dX12_newTask_91 (by decide) ?_
  refine mq_ist (n := 200) (v := 0) hX hC 60 rfl rfl mf_60 dX12_newTask_92 h.1 h.2 (fun S13 H locs hC h => ?_)
  refine lv_aload_n hx hb dX12_newTask_93 rfl (lv_at hl 1 rfl) ?_
  refine mv_get (v := .ref (E.2.2.1 61)) hX hC 85 (Nat.le_of_ble_eq_true rfl) wd_1485 rfl dX12_newTask_94 ?_
  refine lv_iload hx hb dX12_newTask_97 (lv_at hl 0 rfl) ?_
  refine lv_iconst (v := 0) hx hb dX12_newTask_99 (by decide) ?_
  refine mq_zst (n := 200) (v := 0) hX hC 61 rfl rfl rfl mf_61 dX12_newTask_100 h.1 h.2 (fun S14 H locs hC h => ?_)
  refine lv_aload_n hx hb dX12_newTask_101 rfl (lv_at hl 1 rfl) ?_
  refine mv_get (v := .ref (E.2.2.1 62)) hX hC 86 (Nat.le_of_ble_eq_true rfl) wd_1486 rfl dX12_newTask_102 ?_
  refine lv_iload hx hb dX12_newTask_105 (lv_at hl 0 rfl) ?_
  refine lv_iconst (v := 0) hx hb dX12_newTask_107 (by decide) ?_
  refine mq_ist (n := 200) (v := 0) hX hC 62 rfl rfl mf_62 dX12_newTask_108 h.1 h.2 (fun S15 H locs hC h => ?_)
  refine lv_aload_n hx hb dX12_newTask_109 rfl (lv_at hl 1 rfl) ?_
  refine mv_get (v := .ref (E.2.2.1 67)) hX hC 91 (Nat.le_of_ble_eq_true rfl) wd_1491 rfl dX12_newTask_110 ?_
  refine lv_iload hx hb dX12_newTask_113 (lv_at hl 0 rfl) ?_
  refine lv_iconst (v := 0) hx hb dX12_newTask_115 (by decide) ?_
  refine mq_ist (n := 200) (v := 0) hX hC 67 rfl rfl mf_67 dX12_newTask_116 h.1 h.2 (fun S16 H locs hC h => ?_)
  refine lv_aload_n hx hb dX12_newTask_117 rfl (lv_at hl 1 rfl) ?_
  refine mv_get (v := .ref (E.2.2.1 68)) hX hC 92 (Nat.le_of_ble_eq_true rfl) wd_1492 rfl dX12_newTask_118 ?_
  refine lv_iload hx hb dX12_newTask_121 (lv_at hl 0 rfl) ?_
  refine lv_iconst (v := 0) hx hb dX12_newTask_123 (by decide) ?_
  refine mq_ist (n := 200) (v := 0) hX hC 68 rfl rfl mf_68 dX12_newTask_124 h.1 h.2 (fun S17 H locs hC h => ?_)
  refine lv_iconst (v := 0) hx hb dX12_newTask_125 (by decide) ?_
  refine lv_istore (lv' := [(5, .int 0), (4, .int (S.1 22)), (0, .ref E.2.1), (1, .int a0), (2, .int a1), (3, .int a2)]) hx hb dX12_newTask_126 hl (by decide) rfl (fun ls hl => ?_)
  obtain ⟨n9, h⟩ := h
  exact cut128 n9 (S.1 22) 0 S17 _ _ _ h hC (lv_sub hl [2, 1, 0] rfl)
def wp_begin_119 (K : mS → Int32 → Prop) (k62 : Int32 × Int32 × Int32 × Int32 × Int32 × Int32 × Int32 × mS → Prop) (x2 : Int32) (x3 : Int32) (x4 : Int32) (x5 : Int32) (x6 : Int32) (x7 : Int32) (x8 : Int32) (y1 : Int32) (y2 : Int32) (S : mS) : Prop := inR y1 2400 ∧ ∀ S17 : mS, S17 = sF S 58 (ix y1) y2 → ∀ z18 : Int32, z18 = x8 + 1 → k62 (x2, x3, x4, x5, x6, x7, z18, S17)
def wp_begin_62 (K : mS → Int32 → Prop) (k62 : Int32 × Int32 × Int32 × Int32 × Int32 × Int32 × Int32 × mS → Prop) (x2 : Int32) (x3 : Int32) (x4 : Int32) (x5 : Int32) (x6 : Int32) (x7 : Int32) (x8 : Int32) (S : mS) : Prop := ((x7 ≤ x8 → K S x6) ∧ (¬ x7 ≤ x8 → ((4 ≤ x8 → K S x6) ∧ (¬ 4 ≤ x8 → ∀ z12 : Int32, z12 = 12 * x6 → ∀ z13 : Int32, z13 = z12 + x8 → ((¬ x8 = 0 → ((¬ x8 = 1 → ((¬ x8 = 2 → wp_begin_119 K k62 x2 x3 x4 x5 x6 x7 x8 z13 x5 S) ∧ (x8 = 2 → wp_begin_119 K k62 x2 x3 x4 x5 x6 x7 x8 z13 x4 S))) ∧ (x8 = 1 → wp_begin_119 K k62 x2 x3 x4 x5 x6 x7 x8 z13 x3 S))) ∧ (x8 = 0 → wp_begin_119 K k62 x2 x3 x4 x5 x6 x7 x8 z13 x2 S))))))
def ls_begin_62 (K : mS → Int32 → Prop) (k62 : Int32 × Int32 × Int32 × Int32 × Int32 × Int32 × Int32 × mS → Prop) (u : Int32 × Int32 × Int32 × Int32 × Int32 × Int32 × Int32 × mS) : Prop := wp_begin_62 K k62 u.1 u.2.1 u.2.2.1 u.2.2.2.1 u.2.2.2.2.1 u.2.2.2.2.2.1 u.2.2.2.2.2.2.1 u.2.2.2.2.2.2.2
def wp_begin (a0 : Int32) (a1 : Int32) (a2 : Int32) (a3 : Int32) (a4 : Int32) (S : mS) (K : mS → Int32 → Prop) : Prop := ∀ S1 : mS, S1 = sZ S 0 0 → ((a0 < 0 → K S1 (-1)) ∧ (¬ a0 < 0 → inR (S1.1 5) 2 ∧ ∀ z3 : Int32, z3 = S1.2.1 5 (ix (S1.1 5)) → ((z3 ≤ a0 → K S1 (-1)) ∧ (¬ z3 ≤ a0 → ((¬ (S1.1 22) = 200 → wp_newTask a0 (-1) (-1) S1 (fun (S6 : mS) (r6 : Int32) => ∀ z7 : Int32, z7 = 12 * (S6.1 5) → ∀ z8 : Int32, z8 = z7 + a0 → inR z8 24 ∧ ∀ z9 : Int32, z9 = S6.2.1 7 (ix z8) → (∃ n9, it (ls_begin_62 K) n9 (a1, a2, a3, a4, r6, z9, 0, S6)))) ∧ ((S1.1 22) = 200 → K S1 (-1)))))))
theorem cw_X12_newTask {R : Room} {s : State} {args : Array Value} {fr lo : Nat} (hts : ∀ w ∈ tb, w.before args s = true) (h1 : fr + 1 ≤ R.frames) (h2 : 8 + (6 + 11) + lo ≤ R.locals) : CallW R s args RX12 RX12 569 yX12_newTask cX12_newTask 6 (some .int) (.code yX12_newTask cX12_newTask 6 (some .int) :: tb) (mRm fr lo) 0 0 3 := cwV 3 hts (gd_V wd_2002 wd_2004 sl_X12_newTask wd_15 wd_2005) rfl rfl rfl (by decide +kernel) ⟨h1, h2⟩
set_option maxHeartbeats 4000000 in
set_option maxRecDepth 100000 in
theorem ct_begin (l : Launch) (S : mS) (a0 : Int32) (a1 : Int32) (a2 : Int32) (a3 : Int32) (a4 : Int32) (K : mS → Int32 → Prop) (h : wp_begin a0 a1 a2 a3 a4 S K) : mMi l yX12_begin cX12_begin 9 (some .int) 2 46 (fun E => [.int a0, .int a1, .int a2, .int a3, .int a4]) S K := by
  refine mv_ofi (by decide) rfl (fun _ => Nat.le_of_ble_eq_true rfl) ?_
  intro E p e R s m args below meth c A ls Q hRf hRl hX hC hl hret
  have hx := hX.1.1
  have hb := hX.1.2.1
  have hown := hX.1.2.2.2.1
  have hts := hX.1.2.2.2.2
  have cut62 : ∀ (n62 : Nat) (x2 : Int32) (x3 : Int32) (x4 : Int32) (x5 : Int32) (x6 : Int32) (x7 : Int32) (x8 : Int32) (S : mS) (H : Heap) (locs : List Loc) (ls : Array Slot), it (ls_begin_62 K) n62 (x2, x3, x4, x5, x6, x7, x8, S) → mC E A s.heap S H locs → lv_has ls 9 [(0, .ref E.2.1), (2, .int x2), (3, .int x3), (4, .int x4), (5, .int x5), (6, .int x6), (7, .int x7), (8, .int x8)] → W p l e R s m args below meth c H locs 0 0 Q (F0 m 62 ls []) := by
    intro n62
    induction n62 with
    | zero => intro x2 x3 x4 x5 x6 x7 x8 S H locs ls h hC hl; exact h.elim
    | succ n62 ih62 =>
      have cut119 : ∀ (x2 : Int32) (x3 : Int32) (x4 : Int32) (x5 : Int32) (x6 : Int32) (x7 : Int32) (x8 : Int32) (y1 : Int32) (y2 : Int32) (S : mS) (H : Heap) (locs : List Loc) (ls : Array Slot), wp_begin_119 K (it (ls_begin_62 K) n62) x2 x3 x4 x5 x6 x7 x8 y1 y2 S → mC E A s.heap S H locs → lv_has ls 9 [(0, .ref E.2.1), (2, .int x2), (3, .int x3), (4, .int x4), (5, .int x5), (6, .int x6), (7, .int x7), (8, .int x8)] → W p l e R s m args below meth c H locs 0 0 Q (F0 m 119 ls [.int y2, .int y1, .ref (E.2.2.1 58)]) := by
        intro x2 x3 x4 x5 x6 x7 x8 y1 y2 S H locs ls h hC hl
        unfold wp_begin_119 at h
        refine mq_ist (n := 2400) (v := y2) hX hC 58 rfl rfl mf_58 dX12_begin_119 h.1 h.2 (fun S17 H locs hC h => ?_)
        obtain ⟨z18, ez18⟩ : ∃ y : Int32, y = x8 + 1 := ⟨_, rfl⟩
        have h := h z18 ez18
        refine lv_iinc (v := z18) (lv' := [(8, .int z18), (0, .ref E.2.1), (2, .int x2), (3, .int x3), (4, .int x4), (5, .int x5), (6, .int x6), (7, .int x7)]) hx hb dX12_begin_120 hl (k := 7) rfl (by rw [ez18]; rfl) (by decide) rfl (fun ls hl => ?_)
        refine lv_goto (tgt := 62) hx hb dX12_begin_123 (by decide) ?_
        exact ih62 x2 x3 x4 x5 x6 x7 z18 S17 _ _ _ h hC (lv_sub hl [1, 2, 3, 4, 5, 6, 7, 0] rfl)
      intro x2 x3 x4 x5 x6 x7 x8 S H locs ls h hC hl
      have h : wp_begin_62 K (it (ls_begin_62 K) n62) x2 x3 x4 x5 x6 x7 x8 S := h
      unfold wp_begin_62 at h
      refine lv_iload hx hb dX12_begin_62 (lv_at hl 7 rfl) ?_
      refine lv_iload hx hb dX12_begin_64 (lv_at hl 6 rfl) ?_
      refine lv_icmp_ge (tgt := 126) hx hb dX12_begin_66 (by decide) (fun c10 => ?_) (fun c10 => ?_)
      · have h := h.1 c10
        refine lv_iload hx hb dX12_begin_126 (lv_at hl 5 rfl) ?_
        exact hret _ _ _ _ _ _ hC h dX12_begin_128
      · have h := h.2 c10
        refine lv_iload hx hb dX12_begin_69 (lv_at hl 7 rfl) ?_
        refine lv_iconst (v := 4) hx hb dX12_begin_71 (by decide) ?_
        refine lv_icmp_ge (tgt := 126) hx hb dX12_begin_72 (by decide) (fun c11 => ?_) (fun c11 => ?_)
        · have h := h.1 c11
          refine lv_iload hx hb dX12_begin_126 (lv_at hl 5 rfl) ?_
          exact hret _ _ _ _ _ _ hC h dX12_begin_128
        · have h := h.2 c11
          refine lv_aload_n hx hb dX12_begin_75 rfl (lv_at hl 0 rfl) ?_
          refine mv_get (v := .ref (E.2.2.1 58)) hX hC 82 (Nat.le_of_ble_eq_true rfl) wd_1482 rfl dX12_begin_76 ?_
          refine lv_bipush (v := 12) hx hb dX12_begin_79 (by decide) ?_
          refine lv_iload hx hb dX12_begin_81 (lv_at hl 5 rfl) ?_
          refine lq_imul hx hb dX12_begin_83 h (fun z12 h => ?_)
          refine lv_iload hx hb dX12_begin_84 (lv_at hl 7 rfl) ?_
          refine lq_iadd hx hb dX12_begin_86 h (fun z13 h => ?_)
          refine lv_iload hx hb dX12_begin_87 (lv_at hl 7 rfl) ?_
          refine lv_if_ne (tgt := 96) hx hb dX12_begin_89 (by decide) (fun c14 => ?_) (fun c14 => ?_)
          · have h := h.1 c14
            refine lv_iload hx hb dX12_begin_96 (lv_at hl 7 rfl) ?_
            refine lv_iconst (v := 1) hx hb dX12_begin_98 (by decide) ?_
            refine lv_icmp_ne (tgt := 106) hx hb dX12_begin_99 (by decide) (fun c15 => ?_) (fun c15 => ?_)
            · have h := h.1 c15
              refine lv_iload hx hb dX12_begin_106 (lv_at hl 7 rfl) ?_
              refine lv_iconst (v := 2) hx hb dX12_begin_108 (by decide) ?_
              refine lv_icmp_ne (tgt := 117) hx hb dX12_begin_109 (by decide) (fun c16 => ?_) (fun c16 => ?_)
              · have h := h.1 c16
                refine lv_iload hx hb dX12_begin_117 (lv_at hl 4 rfl) ?_
                exact cut119 x2 x3 x4 x5 x6 x7 x8 z13 x5 S _ _ _ h hC (lv_sub hl [0, 1, 2, 3, 4, 5, 6, 7] rfl)
              · have h := h.2 c16
                refine lv_iload hx hb dX12_begin_112 (lv_at hl 3 rfl) ?_
                refine lv_goto (tgt := 119) hx hb dX12_begin_114 (by decide) ?_
                exact cut119 x2 x3 x4 x5 x6 x7 x8 z13 x4 S _ _ _ h hC (lv_sub hl [0, 1, 2, 3, 4, 5, 6, 7] rfl)
            · have h := h.2 c15
              refine lv_iload_n hx hb dX12_begin_102 rfl (lv_at hl 2 rfl) ?_
              refine lv_goto (tgt := 119) hx hb dX12_begin_103 (by decide) ?_
              exact cut119 x2 x3 x4 x5 x6 x7 x8 z13 x3 S _ _ _ h hC (lv_sub hl [0, 1, 2, 3, 4, 5, 6, 7] rfl)
          · have h := h.2 c14
            refine lv_iload_n hx hb dX12_begin_92 rfl (lv_at hl 1 rfl) ?_
            refine lv_goto (tgt := 119) hx hb dX12_begin_93 (by decide) ?_
            exact cut119 x2 x3 x4 x5 x6 x7 x8 z13 x2 S _ _ _ h hC (lv_sub hl [0, 1, 2, 3, 4, 5, 6, 7] rfl)
  have hl : lv_has ls 9 [(0, .ref E.2.1), (1, .int a0), (2, .int a1), (3, .int a2), (4, .int a3), (5, .int a4)] := hl
  unfold wp_begin at h
  refine lv_aload_n hx hb dX12_begin_0 rfl (lv_at hl 0 rfl) ?_
  refine lv_iconst (v := 0) hx hb dX12_begin_1 (by decide) ?_
  refine mq_put (v := 0) hX hC 0 0 (Nat.le_of_ble_eq_true rfl) wd_1400 rfl rfl rfl mz_0 dX12_begin_2 h (fun S1 H locs hC h => ?_)
  refine lv_iload_n hx hb dX12_begin_5 rfl (lv_at hl 1 rfl) ?_
  refine lv_if_lt (tgt := 32) hx hb dX12_begin_6 (by decide) (fun c2 => ?_) (fun c2 => ?_)
  · have h := h.1 c2
    refine lv_iconst (v := -1) hx hb dX12_begin_32 (by decide) ?_
    exact hret _ _ _ _ _ _ hC h dX12_begin_33
  · have h := h.2 c2
    refine lv_iload_n hx hb dX12_begin_9 rfl (lv_at hl 1 rfl) ?_
    refine lv_aload_n hx hb dX12_begin_10 rfl (lv_at hl 0 rfl) ?_
    refine mv_get (v := .ref (E.2.2.1 5)) hX hC 13 (Nat.le_of_ble_eq_true rfl) wd_1413 rfl dX12_begin_11 ?_
    refine lv_aload_n hx hb dX12_begin_14 rfl (lv_at hl 0 rfl) ?_
    refine mv_get (v := .int (S1.1 5)) hX hC 11 (Nat.le_of_ble_eq_true rfl) wd_1411 rfl dX12_begin_15 ?_
    refine mq_ild (n := 2) hX hC 5 rfl rfl dX12_begin_18 h (fun z3 h => ?_)
    refine lv_icmp_ge (tgt := 32) hx hb dX12_begin_19 (by decide) (fun c4 => ?_) (fun c4 => ?_)
    · have h := h.1 c4
      refine lv_iconst (v := -1) hx hb dX12_begin_32 (by decide) ?_
      exact hret _ _ _ _ _ _ hC h dX12_begin_33
    · have h := h.2 c4
      refine lv_aload_n hx hb dX12_begin_22 rfl (lv_at hl 0 rfl) ?_
      refine mv_get (v := .int (S1.1 22)) hX hC 74 (Nat.le_of_ble_eq_true rfl) wd_1474 rfl dX12_begin_23 ?_
      refine lv_sipush (v := 200) hx hb dX12_begin_26 (by decide) ?_
      refine lv_icmp_ne (tgt := 34) hx hb dX12_begin_29 (by decide) (fun c5 => ?_) (fun c5 => ?_)
      · have h := h.1 c5
        refine lv_aload_n hx hb dX12_begin_34 rfl (lv_at hl 0 rfl) ?_
        refine lv_iload_n hx hb dX12_begin_35 rfl (lv_at hl 1 rfl) ?_
        refine lv_iconst (v := -1) hx hb dX12_begin_36 (by decide) ?_
        refine lv_iconst (v := -1) hx hb dX12_begin_37 (by decide) ?_
        refine mv_calli [.int a0, .int (-1), .int (-1)] (rest := []) hX hC (ct_newTask l S1 a0 (-1) (-1) _ h E _) (cw_X12_newTask hts (by omega) (by omega)) rfl hl.1 (Nat.le_of_ble_eq_true rfl) ⟨Nat.zero_le _, Nat.zero_le _⟩ dX12_begin_38 (fun r6 S6 H locs hC h => ?_)
        refine lv_istore (lv' := [(6, .int r6), (0, .ref E.2.1), (1, .int a0), (2, .int a1), (3, .int a2), (4, .int a3), (5, .int a4)]) hx hb dX12_begin_41 hl (by decide) rfl (fun ls hl => ?_)
        refine lv_aload_n hx hb dX12_begin_43 rfl (lv_at hl 1 rfl) ?_
        refine mv_get (v := .ref (E.2.2.1 7)) hX hC 15 (Nat.le_of_ble_eq_true rfl) wd_1415 rfl dX12_begin_44 ?_
        refine lv_bipush (v := 12) hx hb dX12_begin_47 (by decide) ?_
        refine lv_aload_n hx hb dX12_begin_49 rfl (lv_at hl 1 rfl) ?_
        refine mv_get (v := .int (S6.1 5)) hX hC 11 (Nat.le_of_ble_eq_true rfl) wd_1411 rfl dX12_begin_50 ?_
        refine lq_imul hx hb dX12_begin_53 h (fun z7 h => ?_)
        refine lv_iload_n hx hb dX12_begin_54 rfl (lv_at hl 2 rfl) ?_
        refine lq_iadd hx hb dX12_begin_55 h (fun z8 h => ?_)
        refine mq_ild (n := 24) hX hC 7 rfl rfl dX12_begin_56 h (fun z9 h => ?_)
        refine lv_istore (lv' := [(7, .int z9), (6, .int r6), (0, .ref E.2.1), (1, .int a0), (2, .int a1), (3, .int a2), (4, .int a3), (5, .int a4)]) hx hb dX12_begin_57 hl (by decide) rfl (fun ls hl => ?_)
        refine lv_iconst (v := 0) hx hb dX12_begin_59 (by decide) ?_
        refine lv_istore (lv' := [(8, .int 0), (7, .int z9), (6, .int r6), (0, .ref E.2.1), (1, .int a0), (2, .int a1), (3, .int a2), (4, .int a3), (5, .int a4)]) hx hb dX12_begin_60 hl (by decide) rfl (fun ls hl => ?_)
        obtain ⟨n9, h⟩ := h
        exact cut62 n9 a1 a2 a3 a4 r6 z9 0 S6 _ _ _ h hC (lv_sub hl [3, 5, 6, 7, 8, 2, 1, 0] rfl)
      · have h := h.2 c5
        refine lv_iconst (v := -1) hx hb dX12_begin_32 (by decide) ?_
        exact hret _ _ _ _ _ _ hC h dX12_begin_33
def wp_isSign (a0 : Int32) (S : mS) (K : mS → Int32 → Prop) : Prop := ((¬ (S.1 4) = 0 → K S 0) ∧ ((S.1 4) = 0 → inR (S.1 3) 4002 ∧ ∀ z2 : Int32, z2 = S.2.1 1 (ix (S.1 3)) → ((¬ z2 = 3 → K S 0) ∧ (z2 = 3 → inR (S.1 3) 4002 ∧ ∀ z4 : Int64, z4 = S.2.2 3 (ix (S.1 3)) → ∀ z5 : Int64, z5 = Int32.toInt64 a0 → ∀ z6 : Int32, z6 = lg_cmp z4 z5 → ((¬ z6 = 0 → K S 0) ∧ (z6 = 0 → K S 1))))))
set_option maxHeartbeats 4000000 in
set_option maxRecDepth 100000 in
theorem ct_isSign (l : Launch) (S : mS) (a0 : Int32) (K : mS → Int32 → Prop) (h : wp_isSign a0 S K) : mMi l yX12_isSign cX12_isSign 2 (some .boolean) 0 0 (fun E => [.int a0]) S K := by
  refine mv_ofz (by decide) rfl (fun _ => Nat.le_of_ble_eq_true rfl) ?_
  intro E p e R s m args below meth c A ls Q hRf hRl hX hC hl hret
  have hx := hX.1.1
  have hb := hX.1.2.1
  have hown := hX.1.2.2.2.1
  have hts := hX.1.2.2.2.2
  have hl : lv_has ls 2 [(0, .ref E.2.1), (1, .int a0)] := hl
  unfold wp_isSign at h
  refine lv_aload_n hx hb dX12_isSign_0 rfl (lv_at hl 0 rfl) ?_
  refine mv_get (v := .int (S.1 4)) hX hC 8 (Nat.le_of_ble_eq_true rfl) wd_1408 rfl dX12_isSign_1 ?_
  refine lv_if_ne (tgt := 39) hx hb dX12_isSign_4 (by decide) (fun c1 => ?_) (fun c1 => ?_)
  · have h := h.1 c1
    refine lv_iconst (v := 0) hx hb dX12_isSign_39 (by decide) ?_
    exact hret _ _ _ _ _ _ hC (Or.inl rfl) h dX12_isSign_40
  · have h := h.2 c1
    refine lv_aload_n hx hb dX12_isSign_7 rfl (lv_at hl 0 rfl) ?_
    refine mv_get (v := .ref (E.2.2.1 1)) hX hC 4 (Nat.le_of_ble_eq_true rfl) wd_1404 rfl dX12_isSign_8 ?_
    refine lv_aload_n hx hb dX12_isSign_11 rfl (lv_at hl 0 rfl) ?_
    refine mv_get (v := .int (S.1 3)) hX hC 7 (Nat.le_of_ble_eq_true rfl) wd_1407 rfl dX12_isSign_12 ?_
    refine mq_ild (n := 4002) hX hC 1 rfl rfl dX12_isSign_15 h (fun z2 h => ?_)
    refine lv_iconst (v := 3) hx hb dX12_isSign_16 (by decide) ?_
    refine lv_icmp_ne (tgt := 39) hx hb dX12_isSign_17 (by decide) (fun c3 => ?_) (fun c3 => ?_)
    · have h := h.1 c3
      refine lv_iconst (v := 0) hx hb dX12_isSign_39 (by decide) ?_
      exact hret _ _ _ _ _ _ hC (Or.inl rfl) h dX12_isSign_40
    · have h := h.2 c3
      refine lv_aload_n hx hb dX12_isSign_20 rfl (lv_at hl 0 rfl) ?_
      refine mv_get (v := .ref (E.2.2.1 3)) hX hC 6 (Nat.le_of_ble_eq_true rfl) wd_1406 rfl dX12_isSign_21 ?_
      refine lv_aload_n hx hb dX12_isSign_24 rfl (lv_at hl 0 rfl) ?_
      refine mv_get (v := .int (S.1 3)) hX hC 7 (Nat.le_of_ble_eq_true rfl) wd_1407 rfl dX12_isSign_25 ?_
      refine mq_lld (n := 4002) hX hC 3 rfl rfl dX12_isSign_28 h (fun z4 h => ?_)
      refine lv_iload_n hx hb dX12_isSign_29 rfl (lv_at hl 1 rfl) ?_
      refine lq_i2l hx hb dX12_isSign_30 h (fun z5 h => ?_)
      refine lq_lcmp hx hb dX12_isSign_31 h (fun z6 h => ?_)
      refine lv_if_ne (tgt := 39) hx hb dX12_isSign_32 (by decide) (fun c7 => ?_) (fun c7 => ?_)
      · have h := h.1 c7
        refine lv_iconst (v := 0) hx hb dX12_isSign_39 (by decide) ?_
        exact hret _ _ _ _ _ _ hC (Or.inl rfl) h dX12_isSign_40
      · have h := h.2 c7
        refine lv_iconst (v := 1) hx hb dX12_isSign_35 (by decide) ?_
        refine lv_goto (tgt := 40) hx hb dX12_isSign_36 (by decide) ?_
        exact hret _ _ _ _ _ _ hC (Or.inr rfl) h dX12_isSign_40
def wp_emit (a0 : Int32) (a1 : Int32) (a2 : Int32) (S : mS) (K : mS → Int32 → Prop) : Prop := inR (S.1 7) 24000 ∧ ∀ S1 : mS, S1 = sF S 12 (ix (S.1 7)) a0 → inR (S1.1 7) 24000 ∧ ∀ S2 : mS, S2 = sF S1 13 (ix (S1.1 7)) a1 → inR (S2.1 7) 24000 ∧ ∀ S3 : mS, S3 = sF S2 14 (ix (S2.1 7)) a2 → ∀ z4 : Int32, z4 = (S3.1 7) + 1 → ∀ S5 : mS, S5 = sZ S3 7 z4 → ∀ z6 : Int32, z6 = (S5.1 7) - 1 → K S5 z6
set_option maxHeartbeats 4000000 in
set_option maxRecDepth 100000 in
theorem ct_emit (l : Launch) (S : mS) (a0 : Int32) (a1 : Int32) (a2 : Int32) (K : mS → Int32 → Prop) (h : wp_emit a0 a1 a2 S K) : mMi l yX12_emit cX12_emit 4 (some .int) 0 0 (fun E => [.int a0, .int a1, .int a2]) S K := by
  refine mv_ofi (by decide) rfl (fun _ => Nat.le_of_ble_eq_true rfl) ?_
  intro E p e R s m args below meth c A ls Q hRf hRl hX hC hl hret
  have hx := hX.1.1
  have hb := hX.1.2.1
  have hown := hX.1.2.2.2.1
  have hts := hX.1.2.2.2.2
  have hl : lv_has ls 4 [(0, .ref E.2.1), (1, .int a0), (2, .int a1), (3, .int a2)] := hl
  unfold wp_emit at h
  refine lv_aload_n hx hb dX12_emit_0 rfl (lv_at hl 0 rfl) ?_
  refine mv_get (v := .ref (E.2.2.1 12)) hX hC 20 (Nat.le_of_ble_eq_true rfl) wd_1420 rfl dX12_emit_1 ?_
  refine lv_aload_n hx hb dX12_emit_4 rfl (lv_at hl 0 rfl) ?_
  refine mv_get (v := .int (S.1 7)) hX hC 23 (Nat.le_of_ble_eq_true rfl) wd_1423 rfl dX12_emit_5 ?_
  refine lv_iload_n hx hb dX12_emit_8 rfl (lv_at hl 1 rfl) ?_
  refine mq_ist (n := 24000) (v := a0) hX hC 12 rfl rfl mf_12 dX12_emit_9 h.1 h.2 (fun S1 H locs hC h => ?_)
  refine lv_aload_n hx hb dX12_emit_10 rfl (lv_at hl 0 rfl) ?_
  refine mv_get (v := .ref (E.2.2.1 13)) hX hC 21 (Nat.le_of_ble_eq_true rfl) wd_1421 rfl dX12_emit_11 ?_
  refine lv_aload_n hx hb dX12_emit_14 rfl (lv_at hl 0 rfl) ?_
  refine mv_get (v := .int (S1.1 7)) hX hC 23 (Nat.le_of_ble_eq_true rfl) wd_1423 rfl dX12_emit_15 ?_
  refine lv_iload_n hx hb dX12_emit_18 rfl (lv_at hl 2 rfl) ?_
  refine mq_ist (n := 24000) (v := a1) hX hC 13 rfl rfl mf_13 dX12_emit_19 h.1 h.2 (fun S2 H locs hC h => ?_)
  refine lv_aload_n hx hb dX12_emit_20 rfl (lv_at hl 0 rfl) ?_
  refine mv_get (v := .ref (E.2.2.1 14)) hX hC 22 (Nat.le_of_ble_eq_true rfl) wd_1422 rfl dX12_emit_21 ?_
  refine lv_aload_n hx hb dX12_emit_24 rfl (lv_at hl 0 rfl) ?_
  refine mv_get (v := .int (S2.1 7)) hX hC 23 (Nat.le_of_ble_eq_true rfl) wd_1423 rfl dX12_emit_25 ?_
  refine lv_iload_n hx hb dX12_emit_28 rfl (lv_at hl 3 rfl) ?_
  refine mq_ist (n := 24000) (v := a2) hX hC 14 rfl rfl mf_14 dX12_emit_29 h.1 h.2 (fun S3 H locs hC h => ?_)
  refine lv_aload_n hx hb dX12_emit_30 rfl (lv_at hl 0 rfl) ?_
  refine lv_dup hx hb dX12_emit_31 rfl ?_
  refine mv_get (v := .int (S3.1 7)) hX hC 23 (Nat.le_of_ble_eq_true rfl) wd_1423 rfl dX12_emit_32 ?_
  refine lv_iconst (v := 1) hx hb dX12_emit_35 (by decide) ?_
  refine lq_iadd hx hb dX12_emit_36 h (fun z4 h => ?_)
  refine mq_put (v := z4) hX hC 23 7 (Nat.le_of_ble_eq_true rfl) wd_1423 rfl rfl rfl mz_7 dX12_emit_37 h (fun S5 H locs hC h => ?_)
  refine lv_aload_n hx hb dX12_emit_40 rfl (lv_at hl 0 rfl) ?_
  refine mv_get (v := .int (S5.1 7)) hX hC 23 (Nat.le_of_ble_eq_true rfl) wd_1423 rfl dX12_emit_41 ?_
  refine lv_iconst (v := 1) hx hb dX12_emit_44 (by decide) ?_
  refine lq_isub hx hb dX12_emit_45 h (fun z6 h => ?_)
  exact hret _ _ _ _ _ _ hC h dX12_emit_46
def wp_isName_62 (K : mS → Int32 → Prop) (k28 : Int32 × Int32 × mS → Prop) (x2 : Int32) (y0 : Int32) (S : mS) : Prop := ∀ z10 : Int32, z10 = x2 + 1 → k28 (y0, z10, S)
def wp_isName_28 (K : mS → Int32 → Prop) (k28 : Int32 × Int32 × mS → Prop) (x1 : Int32) (x2 : Int32) (S : mS) : Prop := ((21 ≤ x2 → (x1 = 0 ∨ x1 = 1) ∧ K S x1) ∧ (¬ 21 ≤ x2 → ((x1 = 0 → (x1 = 0 ∨ x1 = 1) ∧ K S x1) ∧ (¬ x1 = 0 → inR (S.1 3) 4002 ∧ ∀ z6 : Int64, z6 = S.2.2 3 (ix (S.1 3)) → inR x2 22 ∧ ∀ z7 : Int64, z7 = S.2.2 4 (ix x2) → ∀ z8 : Int32, z8 = lg_cmp z6 z7 → ((z8 = 0 → wp_isName_62 K k28 x2 0 S) ∧ (¬ z8 = 0 → wp_isName_62 K k28 x2 1 S))))))
def ls_isName_28 (K : mS → Int32 → Prop) (k28 : Int32 × Int32 × mS → Prop) (u : Int32 × Int32 × mS) : Prop := wp_isName_28 K k28 u.1 u.2.1 u.2.2
def wp_isName_25 (K : mS → Int32 → Prop) (y0 : Int32) (S : mS) : Prop := (∃ n9, it (ls_isName_28 K) n9 (y0, 0, S))
def wp_isName_24 (K : mS → Int32 → Prop) (S : mS) : Prop := wp_isName_25 K 0 S
def wp_isName (S : mS) (K : mS → Int32 → Prop) : Prop := ((¬ (S.1 4) = 0 → wp_isName_24 K S) ∧ ((S.1 4) = 0 → inR (S.1 3) 4002 ∧ ∀ z2 : Int32, z2 = S.2.1 1 (ix (S.1 3)) → ((¬ z2 = 1 → wp_isName_24 K S) ∧ (z2 = 1 → wp_isName_25 K 1 S))))
set_option maxHeartbeats 4000000 in
set_option maxRecDepth 100000 in
theorem ct_isName (l : Launch) (S : mS) (K : mS → Int32 → Prop) (h : wp_isName S K) : mMi l yX12_isName cX12_isName 3 (some .boolean) 0 0 (fun E => []) S K := by
  refine mv_ofz (by decide) rfl (fun _ => Nat.le_of_ble_eq_true rfl) ?_
  intro E p e R s m args below meth c A ls Q hRf hRl hX hC hl hret
  have hx := hX.1.1
  have hb := hX.1.2.1
  have hown := hX.1.2.2.2.1
  have hts := hX.1.2.2.2.2
  have cut28 : ∀ (n28 : Nat) (x1 : Int32) (x2 : Int32) (S : mS) (H : Heap) (locs : List Loc) (ls : Array Slot), it (ls_isName_28 K) n28 (x1, x2, S) → mC E A s.heap S H locs → lv_has ls 3 [(0, .ref E.2.1), (1, .int x1), (2, .int x2)] → W p l e R s m args below meth c H locs 0 0 Q (F0 m 28 ls []) := by
    intro n28
    induction n28 with
    | zero => intro x1 x2 S H locs ls h hC hl; exact h.elim
    | succ n28 ih28 =>
      have cut62 : ∀ (x2 : Int32) (y0 : Int32) (S : mS) (H : Heap) (locs : List Loc) (ls : Array Slot), wp_isName_62 K (it (ls_isName_28 K) n28) x2 y0 S → mC E A s.heap S H locs → lv_has ls 3 [(0, .ref E.2.1), (2, .int x2)] → W p l e R s m args below meth c H locs 0 0 Q (F0 m 62 ls [.int y0]) := by
        intro x2 y0 S H locs ls h hC hl
        unfold wp_isName_62 at h
        refine lv_istore_n (lv' := [(1, .int y0), (0, .ref E.2.1), (2, .int x2)]) hx hb dX12_isName_62 rfl hl (by decide) rfl (fun ls hl => ?_)
        obtain ⟨z10, ez10⟩ : ∃ y : Int32, y = x2 + 1 := ⟨_, rfl⟩
        have h := h z10 ez10
        refine lv_iinc (v := z10) (lv' := [(2, .int z10), (1, .int y0), (0, .ref E.2.1)]) hx hb dX12_isName_63 hl (k := 2) rfl (by rw [ez10]; rfl) (by decide) rfl (fun ls hl => ?_)
        refine lv_goto (tgt := 28) hx hb dX12_isName_66 (by decide) ?_
        exact ih28 y0 z10 S _ _ _ h hC (lv_sub hl [2, 1, 0] rfl)
      intro x1 x2 S H locs ls h hC hl
      have h : wp_isName_28 K (it (ls_isName_28 K) n28) x1 x2 S := h
      unfold wp_isName_28 at h
      refine lv_iload_n hx hb dX12_isName_28 rfl (lv_at hl 2 rfl) ?_
      refine lv_bipush (v := 21) hx hb dX12_isName_29 (by decide) ?_
      refine lv_icmp_ge (tgt := 69) hx hb dX12_isName_31 (by decide) (fun c4 => ?_) (fun c4 => ?_)
      · have h := h.1 c4
        refine lv_iload_n hx hb dX12_isName_69 rfl (lv_at hl 1 rfl) ?_
        exact hret _ _ _ _ _ _ hC h.1 h.2 dX12_isName_70
      · have h := h.2 c4
        refine lv_iload_n hx hb dX12_isName_34 rfl (lv_at hl 1 rfl) ?_
        refine lv_if_eq (tgt := 69) hx hb dX12_isName_35 (by decide) (fun c5 => ?_) (fun c5 => ?_)
        · have h := h.1 c5
          refine lv_iload_n hx hb dX12_isName_69 rfl (lv_at hl 1 rfl) ?_
          exact hret _ _ _ _ _ _ hC h.1 h.2 dX12_isName_70
        · have h := h.2 c5
          refine lv_aload_n hx hb dX12_isName_38 rfl (lv_at hl 0 rfl) ?_
          refine mv_get (v := .ref (E.2.2.1 3)) hX hC 6 (Nat.le_of_ble_eq_true rfl) wd_1406 rfl dX12_isName_39 ?_
          refine lv_aload_n hx hb dX12_isName_42 rfl (lv_at hl 0 rfl) ?_
          refine mv_get (v := .int (S.1 3)) hX hC 7 (Nat.le_of_ble_eq_true rfl) wd_1407 rfl dX12_isName_43 ?_
          refine mq_lld (n := 4002) hX hC 3 rfl rfl dX12_isName_46 h (fun z6 h => ?_)
          refine lv_aload_n hx hb dX12_isName_47 rfl (lv_at hl 0 rfl) ?_
          refine mv_get (v := .ref (E.2.2.1 4)) hX hC 10 (Nat.le_of_ble_eq_true rfl) wd_1410 rfl dX12_isName_48 ?_
          refine lv_iload_n hx hb dX12_isName_51 rfl (lv_at hl 2 rfl) ?_
          refine mq_lld (n := 22) hX hC 4 rfl rfl dX12_isName_52 h (fun z7 h => ?_)
          refine lq_lcmp hx hb dX12_isName_53 h (fun z8 h => ?_)
          refine lv_if_eq (tgt := 61) hx hb dX12_isName_54 (by decide) (fun c9 => ?_) (fun c9 => ?_)
          · have h := h.1 c9
            refine lv_iconst (v := 0) hx hb dX12_isName_61 (by decide) ?_
            exact cut62 x2 0 S _ _ _ h hC (lv_sub hl [0, 2] rfl)
          · have h := h.2 c9
            refine lv_iconst (v := 1) hx hb dX12_isName_57 (by decide) ?_
            refine lv_goto (tgt := 62) hx hb dX12_isName_58 (by decide) ?_
            exact cut62 x2 1 S _ _ _ h hC (lv_sub hl [0, 2] rfl)
  have cut25 : ∀ (y0 : Int32) (S : mS) (H : Heap) (locs : List Loc) (ls : Array Slot), wp_isName_25 K y0 S → mC E A s.heap S H locs → lv_has ls 3 [(0, .ref E.2.1)] → W p l e R s m args below meth c H locs 0 0 Q (F0 m 25 ls [.int y0]) := by
    intro y0 S H locs ls h hC hl
    unfold wp_isName_25 at h
    refine lv_istore_n (lv' := [(1, .int y0), (0, .ref E.2.1)]) hx hb dX12_isName_25 rfl hl (by decide) rfl (fun ls hl => ?_)
    refine lv_iconst (v := 0) hx hb dX12_isName_26 (by decide) ?_
    refine lv_istore_n (lv' := [(2, .int 0), (1, .int y0), (0, .ref E.2.1)]) hx hb dX12_isName_27 rfl hl (by decide) rfl (fun ls hl => ?_)
    obtain ⟨n9, h⟩ := h
    exact cut28 n9 y0 0 S _ _ _ h hC (lv_sub hl [2, 1, 0] rfl)
  have cut24 : ∀ (S : mS) (H : Heap) (locs : List Loc) (ls : Array Slot), wp_isName_24 K S → mC E A s.heap S H locs → lv_has ls 3 [(0, .ref E.2.1)] → W p l e R s m args below meth c H locs 0 0 Q (F0 m 24 ls []) := by
    intro S H locs ls h hC hl
    unfold wp_isName_24 at h
    refine lv_iconst (v := 0) hx hb dX12_isName_24 (by decide) ?_
    exact cut25 0 S _ _ _ h hC (lv_sub hl [0] rfl)
  have hl : lv_has ls 3 [(0, .ref E.2.1)] := hl
  unfold wp_isName at h
  refine lv_aload_n hx hb dX12_isName_0 rfl (lv_at hl 0 rfl) ?_
  refine mv_get (v := .int (S.1 4)) hX hC 8 (Nat.le_of_ble_eq_true rfl) wd_1408 rfl dX12_isName_1 ?_
  refine lv_if_ne (tgt := 24) hx hb dX12_isName_4 (by decide) (fun c1 => ?_) (fun c1 => ?_)
  · have h := h.1 c1
    exact cut24 S _ _ _ h hC (lv_sub hl [0] rfl)
  · have h := h.2 c1
    refine lv_aload_n hx hb dX12_isName_7 rfl (lv_at hl 0 rfl) ?_
    refine mv_get (v := .ref (E.2.2.1 1)) hX hC 4 (Nat.le_of_ble_eq_true rfl) wd_1404 rfl dX12_isName_8 ?_
    refine lv_aload_n hx hb dX12_isName_11 rfl (lv_at hl 0 rfl) ?_
    refine mv_get (v := .int (S.1 3)) hX hC 7 (Nat.le_of_ble_eq_true rfl) wd_1407 rfl dX12_isName_12 ?_
    refine mq_ild (n := 4002) hX hC 1 rfl rfl dX12_isName_15 h (fun z2 h => ?_)
    refine lv_iconst (v := 1) hx hb dX12_isName_16 (by decide) ?_
    refine lv_icmp_ne (tgt := 24) hx hb dX12_isName_17 (by decide) (fun c3 => ?_) (fun c3 => ?_)
    · have h := h.1 c3
      exact cut24 S _ _ _ h hC (lv_sub hl [0] rfl)
    · have h := h.2 c3
      refine lv_iconst (v := 1) hx hb dX12_isName_20 (by decide) ?_
      refine lv_goto (tgt := 25) hx hb dX12_isName_21 (by decide) ?_
      exact cut25 1 S _ _ _ h hC (lv_sub hl [0] rfl)
def wp_isWord (a0 : Int32) (S : mS) (K : mS → Int32 → Prop) : Prop := ((¬ (S.1 4) = 0 → K S 0) ∧ ((S.1 4) = 0 → inR (S.1 3) 4002 ∧ ∀ z2 : Int32, z2 = S.2.1 1 (ix (S.1 3)) → ((¬ z2 = 1 → K S 0) ∧ (z2 = 1 → inR (S.1 3) 4002 ∧ ∀ z4 : Int64, z4 = S.2.2 3 (ix (S.1 3)) → inR a0 22 ∧ ∀ z5 : Int64, z5 = S.2.2 4 (ix a0) → ∀ z6 : Int32, z6 = lg_cmp z4 z5 → ((¬ z6 = 0 → K S 0) ∧ (z6 = 0 → K S 1))))))
set_option maxHeartbeats 4000000 in
set_option maxRecDepth 100000 in
theorem ct_isWord (l : Launch) (S : mS) (a0 : Int32) (K : mS → Int32 → Prop) (h : wp_isWord a0 S K) : mMi l yX12_isWord cX12_isWord 2 (some .boolean) 0 0 (fun E => [.int a0]) S K := by
  refine mv_ofz (by decide) rfl (fun _ => Nat.le_of_ble_eq_true rfl) ?_
  intro E p e R s m args below meth c A ls Q hRf hRl hX hC hl hret
  have hx := hX.1.1
  have hb := hX.1.2.1
  have hown := hX.1.2.2.2.1
  have hts := hX.1.2.2.2.2
  have hl : lv_has ls 2 [(0, .ref E.2.1), (1, .int a0)] := hl
  unfold wp_isWord at h
  refine lv_aload_n hx hb dX12_isWord_0 rfl (lv_at hl 0 rfl) ?_
  refine mv_get (v := .int (S.1 4)) hX hC 8 (Nat.le_of_ble_eq_true rfl) wd_1408 rfl dX12_isWord_1 ?_
  refine lv_if_ne (tgt := 43) hx hb dX12_isWord_4 (by decide) (fun c1 => ?_) (fun c1 => ?_)
  · have h := h.1 c1
    refine lv_iconst (v := 0) hx hb dX12_isWord_43 (by decide) ?_
    exact hret _ _ _ _ _ _ hC (Or.inl rfl) h dX12_isWord_44
  · have h := h.2 c1
    refine lv_aload_n hx hb dX12_isWord_7 rfl (lv_at hl 0 rfl) ?_
    refine mv_get (v := .ref (E.2.2.1 1)) hX hC 4 (Nat.le_of_ble_eq_true rfl) wd_1404 rfl dX12_isWord_8 ?_
    refine lv_aload_n hx hb dX12_isWord_11 rfl (lv_at hl 0 rfl) ?_
    refine mv_get (v := .int (S.1 3)) hX hC 7 (Nat.le_of_ble_eq_true rfl) wd_1407 rfl dX12_isWord_12 ?_
    refine mq_ild (n := 4002) hX hC 1 rfl rfl dX12_isWord_15 h (fun z2 h => ?_)
    refine lv_iconst (v := 1) hx hb dX12_isWord_16 (by decide) ?_
    refine lv_icmp_ne (tgt := 43) hx hb dX12_isWord_17 (by decide) (fun c3 => ?_) (fun c3 => ?_)
    · have h := h.1 c3
      refine lv_iconst (v := 0) hx hb dX12_isWord_43 (by decide) ?_
      exact hret _ _ _ _ _ _ hC (Or.inl rfl) h dX12_isWord_44
    · have h := h.2 c3
      refine lv_aload_n hx hb dX12_isWord_20 rfl (lv_at hl 0 rfl) ?_
      refine mv_get (v := .ref (E.2.2.1 3)) hX hC 6 (Nat.le_of_ble_eq_true rfl) wd_1406 rfl dX12_isWord_21 ?_
      refine lv_aload_n hx hb dX12_isWord_24 rfl (lv_at hl 0 rfl) ?_
      refine mv_get (v := .int (S.1 3)) hX hC 7 (Nat.le_of_ble_eq_true rfl) wd_1407 rfl dX12_isWord_25 ?_
      refine mq_lld (n := 4002) hX hC 3 rfl rfl dX12_isWord_28 h (fun z4 h => ?_)
      refine lv_aload_n hx hb dX12_isWord_29 rfl (lv_at hl 0 rfl) ?_
      refine mv_get (v := .ref (E.2.2.1 4)) hX hC 10 (Nat.le_of_ble_eq_true rfl) wd_1410 rfl dX12_isWord_30 ?_
      refine lv_iload_n hx hb dX12_isWord_33 rfl (lv_at hl 1 rfl) ?_
      refine mq_lld (n := 22) hX hC 4 rfl rfl dX12_isWord_34 h (fun z5 h => ?_)
      refine lq_lcmp hx hb dX12_isWord_35 h (fun z6 h => ?_)
      refine lv_if_ne (tgt := 43) hx hb dX12_isWord_36 (by decide) (fun c7 => ?_) (fun c7 => ?_)
      · have h := h.1 c7
        refine lv_iconst (v := 0) hx hb dX12_isWord_43 (by decide) ?_
        exact hret _ _ _ _ _ _ hC (Or.inl rfl) h dX12_isWord_44
      · have h := h.2 c7
        refine lv_iconst (v := 1) hx hb dX12_isWord_39 (by decide) ?_
        refine lv_goto (tgt := 44) hx hb dX12_isWord_40 (by decide) ?_
        exact hret _ _ _ _ _ _ hC (Or.inr rfl) h dX12_isWord_44
def wp_hasSign (a0 : Int32) (S : mS) (K : mS → Int32 → Prop) : Prop := wp_isSign a0 S (fun (S1 : mS) (r1 : Int32) => ((r1 = 0 → ∀ z3 : Int32, z3 = (S1.1 3) + 0 → ∀ S4 : mS, S4 = sZ S1 3 z3 → (r1 = 0 ∨ r1 = 1) ∧ K S4 r1) ∧ (¬ r1 = 0 → ∀ z5 : Int32, z5 = (S1.1 3) + 1 → ∀ S6 : mS, S6 = sZ S1 3 z5 → (r1 = 0 ∨ r1 = 1) ∧ K S6 r1)))
theorem cw_X12_isSign {R : Room} {s : State} {args : Array Value} {fr lo : Nat} (hts : ∀ w ∈ tb, w.before args s = true) (h1 : fr + 1 ≤ R.frames) (h2 : 8 + (2 + 11) + lo ≤ R.locals) : CallW R s args RX12 RX12 340 yX12_isSign cX12_isSign 2 (some .boolean) (.code yX12_isSign cX12_isSign 2 (some .boolean) :: tb) (mRm fr lo) 0 0 1 := cwV 1 hts (gd_V wd_1826 wd_1828 sl_X12_isSign wd_15 wd_1829) rfl rfl rfl (by decide +kernel) ⟨h1, h2⟩
set_option maxHeartbeats 4000000 in
set_option maxRecDepth 100000 in
theorem ct_hasSign (l : Launch) (S : mS) (a0 : Int32) (K : mS → Int32 → Prop) (h : wp_hasSign a0 S K) : mMi l yX12_hasSign cX12_hasSign 3 (some .boolean) 1 21 (fun E => [.int a0]) S K := by
  refine mv_ofz (by decide) rfl (fun _ => Nat.le_of_ble_eq_true rfl) ?_
  intro E p e R s m args below meth c A ls Q hRf hRl hX hC hl hret
  have hx := hX.1.1
  have hb := hX.1.2.1
  have hown := hX.1.2.2.2.1
  have hts := hX.1.2.2.2.2
  have hl : lv_has ls 3 [(0, .ref E.2.1), (1, .int a0)] := hl
  unfold wp_hasSign at h
  refine lv_aload_n hx hb dX12_hasSign_0 rfl (lv_at hl 0 rfl) ?_
  refine lv_iload_n hx hb dX12_hasSign_1 rfl (lv_at hl 1 rfl) ?_
  refine mv_calli [.int a0] (rest := []) hX hC (ct_isSign l S a0 _ h E _) (cw_X12_isSign hts (by omega) (by omega)) rfl hl.1 (Nat.le_of_ble_eq_true rfl) ⟨Nat.zero_le _, Nat.zero_le _⟩ dX12_hasSign_2 (fun r1 S1 H locs hC h => ?_)
  refine lv_istore_n (lv' := [(2, .int r1), (0, .ref E.2.1), (1, .int a0)]) hx hb dX12_hasSign_5 rfl hl (by decide) rfl (fun ls hl => ?_)
  refine lv_aload_n hx hb dX12_hasSign_6 rfl (lv_at hl 1 rfl) ?_
  refine lv_dup hx hb dX12_hasSign_7 rfl ?_
  refine mv_get (v := .int (S1.1 3)) hX hC 7 (Nat.le_of_ble_eq_true rfl) wd_1407 rfl dX12_hasSign_8 ?_
  refine lv_iload_n hx hb dX12_hasSign_11 rfl (lv_at hl 0 rfl) ?_
  refine lv_if_eq (tgt := 19) hx hb dX12_hasSign_12 (by decide) (fun c2 => ?_) (fun c2 => ?_)
  · have h := h.1 c2
    refine lv_iconst (v := 0) hx hb dX12_hasSign_19 (by decide) ?_
    refine lq_iadd hx hb dX12_hasSign_20 h (fun z3 h => ?_)
    refine mq_put (v := z3) hX hC 7 3 (Nat.le_of_ble_eq_true rfl) wd_1407 rfl rfl rfl mz_3 dX12_hasSign_21 h (fun S4 H locs hC h => ?_)
    refine lv_iload_n hx hb dX12_hasSign_24 rfl (lv_at hl 0 rfl) ?_
    exact hret _ _ _ _ _ _ hC h.1 h.2 dX12_hasSign_25
  · have h := h.2 c2
    refine lv_iconst (v := 1) hx hb dX12_hasSign_15 (by decide) ?_
    refine lv_goto (tgt := 20) hx hb dX12_hasSign_16 (by decide) ?_
    refine lq_iadd hx hb dX12_hasSign_20 h (fun z5 h => ?_)
    refine mq_put (v := z5) hX hC 7 3 (Nat.le_of_ble_eq_true rfl) wd_1407 rfl rfl rfl mz_3 dX12_hasSign_21 h (fun S6 H locs hC h => ?_)
    refine lv_iload_n hx hb dX12_hasSign_24 rfl (lv_at hl 0 rfl) ?_
    exact hret _ _ _ _ _ _ hC h.1 h.2 dX12_hasSign_25
def wp_hasWord (a0 : Int32) (S : mS) (K : mS → Int32 → Prop) : Prop := wp_isWord a0 S (fun (S1 : mS) (r1 : Int32) => ((r1 = 0 → ∀ z3 : Int32, z3 = (S1.1 3) + 0 → ∀ S4 : mS, S4 = sZ S1 3 z3 → (r1 = 0 ∨ r1 = 1) ∧ K S4 r1) ∧ (¬ r1 = 0 → ∀ z5 : Int32, z5 = (S1.1 3) + 1 → ∀ S6 : mS, S6 = sZ S1 3 z5 → (r1 = 0 ∨ r1 = 1) ∧ K S6 r1)))
theorem cw_X12_isWord {R : Room} {s : State} {args : Array Value} {fr lo : Nat} (hts : ∀ w ∈ tb, w.before args s = true) (h1 : fr + 1 ≤ R.frames) (h2 : 8 + (2 + 11) + lo ≤ R.locals) : CallW R s args RX12 RX12 347 yX12_isWord cX12_isWord 2 (some .boolean) (.code yX12_isWord cX12_isWord 2 (some .boolean) :: tb) (mRm fr lo) 0 0 1 := cwV 1 hts (gd_V wd_1802 wd_1804 sl_X12_isWord wd_15 wd_1805) rfl rfl rfl (by decide +kernel) ⟨h1, h2⟩
set_option maxHeartbeats 4000000 in
set_option maxRecDepth 100000 in
theorem ct_hasWord (l : Launch) (S : mS) (a0 : Int32) (K : mS → Int32 → Prop) (h : wp_hasWord a0 S K) : mMi l yX12_hasWord cX12_hasWord 3 (some .boolean) 1 21 (fun E => [.int a0]) S K := by
  refine mv_ofz (by decide) rfl (fun _ => Nat.le_of_ble_eq_true rfl) ?_
  intro E p e R s m args below meth c A ls Q hRf hRl hX hC hl hret
  have hx := hX.1.1
  have hb := hX.1.2.1
  have hown := hX.1.2.2.2.1
  have hts := hX.1.2.2.2.2
  have hl : lv_has ls 3 [(0, .ref E.2.1), (1, .int a0)] := hl
  unfold wp_hasWord at h
  refine lv_aload_n hx hb dX12_hasWord_0 rfl (lv_at hl 0 rfl) ?_
  refine lv_iload_n hx hb dX12_hasWord_1 rfl (lv_at hl 1 rfl) ?_
  refine mv_calli [.int a0] (rest := []) hX hC (ct_isWord l S a0 _ h E _) (cw_X12_isWord hts (by omega) (by omega)) rfl hl.1 (Nat.le_of_ble_eq_true rfl) ⟨Nat.zero_le _, Nat.zero_le _⟩ dX12_hasWord_2 (fun r1 S1 H locs hC h => ?_)
  refine lv_istore_n (lv' := [(2, .int r1), (0, .ref E.2.1), (1, .int a0)]) hx hb dX12_hasWord_5 rfl hl (by decide) rfl (fun ls hl => ?_)
  refine lv_aload_n hx hb dX12_hasWord_6 rfl (lv_at hl 1 rfl) ?_
  refine lv_dup hx hb dX12_hasWord_7 rfl ?_
  refine mv_get (v := .int (S1.1 3)) hX hC 7 (Nat.le_of_ble_eq_true rfl) wd_1407 rfl dX12_hasWord_8 ?_
  refine lv_iload_n hx hb dX12_hasWord_11 rfl (lv_at hl 0 rfl) ?_
  refine lv_if_eq (tgt := 19) hx hb dX12_hasWord_12 (by decide) (fun c2 => ?_) (fun c2 => ?_)
  · have h := h.1 c2
    refine lv_iconst (v := 0) hx hb dX12_hasWord_19 (by decide) ?_
    refine lq_iadd hx hb dX12_hasWord_20 h (fun z3 h => ?_)
    refine mq_put (v := z3) hX hC 7 3 (Nat.le_of_ble_eq_true rfl) wd_1407 rfl rfl rfl mz_3 dX12_hasWord_21 h (fun S4 H locs hC h => ?_)
    refine lv_iload_n hx hb dX12_hasWord_24 rfl (lv_at hl 0 rfl) ?_
    exact hret _ _ _ _ _ _ hC h.1 h.2 dX12_hasWord_25
  · have h := h.2 c2
    refine lv_iconst (v := 1) hx hb dX12_hasWord_15 (by decide) ?_
    refine lv_goto (tgt := 20) hx hb dX12_hasWord_16 (by decide) ?_
    refine lq_iadd hx hb dX12_hasWord_20 h (fun z5 h => ?_)
    refine mq_put (v := z5) hX hC 7 3 (Nat.le_of_ble_eq_true rfl) wd_1407 rfl rfl rfl mz_3 dX12_hasWord_21 h (fun S6 H locs hC h => ?_)
    refine lv_iload_n hx hb dX12_hasWord_24 rfl (lv_at hl 0 rfl) ?_
    exact hret _ _ _ _ _ _ hC h.1 h.2 dX12_hasWord_25
