theorem d_Mo_init_1337 : decode prog_14_method_1_code 1337 = .ok (.iload 4, 2) := by decide +kernel
theorem d_Mo_init_1339 : decode prog_14_method_1_code 1339 = .ok (.bipush (16), 2) := by decide +kernel
theorem d_Mo_init_1341 : decode prog_14_method_1_code 1341 = .ok (.if_icmp .ge (54), 3) := by decide +kernel
theorem d_Mo_init_1344 : decode prog_14_method_1_code 1344 = .ok (.ldc2_w 170, 3) := by decide +kernel
theorem d_Mo_init_1347 : decode prog_14_method_1_code 1347 = .ok (.aload_n 0, 1) := by decide +kernel
theorem d_Mo_init_1348 : decode prog_14_method_1_code 1348 = .ok (.getfield 122, 3) := by decide +kernel
theorem d_Mo_init_1351 : decode prog_14_method_1_code 1351 = .ok (.bipush (16), 2) := by decide +kernel
theorem d_Mo_init_1353 : decode prog_14_method_1_code 1353 = .ok (.iload_n 1, 1) := by decide +kernel
theorem d_Mo_init_1354 : decode prog_14_method_1_code 1354 = .ok (.imul, 1) := by decide +kernel
theorem d_Mo_init_1355 : decode prog_14_method_1_code 1355 = .ok (.iload 4, 2) := by decide +kernel
theorem d_Mo_init_1357 : decode prog_14_method_1_code 1357 = .ok (.iadd, 1) := by decide +kernel
theorem d_Mo_init_1358 : decode prog_14_method_1_code 1358 = .ok (.laload, 1) := by decide +kernel
theorem d_Mo_init_1359 : decode prog_14_method_1_code 1359 = .ok (.lsub, 1) := by decide +kernel
theorem d_Mo_init_1360 : decode prog_14_method_1_code 1360 = .ok (.lload_n 2, 1) := by decide +kernel
theorem d_Mo_init_1361 : decode prog_14_method_1_code 1361 = .ok (.ladd, 1) := by decide +kernel
theorem d_Mo_init_1362 : decode prog_14_method_1_code 1362 = .ok (.lstore 5, 2) := by decide +kernel
theorem d_Mo_init_1364 : decode prog_14_method_1_code 1364 = .ok (.aload_n 0, 1) := by decide +kernel
theorem d_Mo_init_1365 : decode prog_14_method_1_code 1365 = .ok (.getfield 129, 3) := by decide +kernel
theorem d_Mo_init_1368 : decode prog_14_method_1_code 1368 = .ok (.sipush (288), 3) := by decide +kernel
theorem d_Mo_init_1371 : decode prog_14_method_1_code 1371 = .ok (.iload_n 1, 1) := by decide +kernel
theorem d_Mo_init_1372 : decode prog_14_method_1_code 1372 = .ok (.imul, 1) := by decide +kernel
theorem d_Mo_init_1373 : decode prog_14_method_1_code 1373 = .ok (.iload 4, 2) := by decide +kernel
theorem d_Mo_init_1375 : decode prog_14_method_1_code 1375 = .ok (.iadd, 1) := by decide +kernel
theorem d_Mo_init_1376 : decode prog_14_method_1_code 1376 = .ok (.lload 5, 2) := by decide +kernel
theorem d_Mo_init_1378 : decode prog_14_method_1_code 1378 = .ok (.ldc2_w 170, 3) := by decide +kernel
theorem d_Mo_init_1381 : decode prog_14_method_1_code 1381 = .ok (.land, 1) := by decide +kernel
theorem d_Mo_init_1382 : decode prog_14_method_1_code 1382 = .ok (.lastore, 1) := by decide +kernel
theorem d_Mo_init_1383 : decode prog_14_method_1_code 1383 = .ok (.lload 5, 2) := by decide +kernel
theorem d_Mo_init_1385 : decode prog_14_method_1_code 1385 = .ok (.bipush (16), 2) := by decide +kernel
theorem d_Mo_init_1387 : decode prog_14_method_1_code 1387 = .ok (.lshr, 1) := by decide +kernel
theorem d_Mo_init_1388 : decode prog_14_method_1_code 1388 = .ok (.lstore_n 2, 1) := by decide +kernel
theorem d_Mo_init_1389 : decode prog_14_method_1_code 1389 = .ok (.iinc 4 (1), 3) := by decide +kernel
theorem d_Mo_init_1392 : decode prog_14_method_1_code 1392 = .ok (.goto (-55), 3) := by decide +kernel
theorem d_Mo_init_1395 : decode prog_14_method_1_code 1395 = .ok (.iconst 1, 1) := by decide +kernel
theorem d_Mo_init_1396 : decode prog_14_method_1_code 1396 = .ok (.istore 4, 2) := by decide +kernel
theorem d_Mo_init_1398 : decode prog_14_method_1_code 1398 = .ok (.iload 4, 2) := by decide +kernel
theorem d_Mo_init_1400 : decode prog_14_method_1_code 1400 = .ok (.bipush (18), 2) := by decide +kernel
theorem d_Mo_init_1402 : decode prog_14_method_1_code 1402 = .ok (.if_icmp .ge (119), 3) := by decide +kernel
theorem d_Mo_init_1405 : decode prog_14_method_1_code 1405 = .ok (.iconst 0, 1) := by decide +kernel
theorem d_Mo_init_1406 : decode prog_14_method_1_code 1406 = .ok (.istore 5, 2) := by decide +kernel
theorem d_Mo_init_1408 : decode prog_14_method_1_code 1408 = .ok (.iload 5, 2) := by decide +kernel
theorem d_Mo_init_1410 : decode prog_14_method_1_code 1410 = .ok (.bipush (40), 2) := by decide +kernel
theorem d_Mo_init_1412 : decode prog_14_method_1_code 1412 = .ok (.if_icmp .ge (56), 3) := by decide +kernel
theorem d_Mo_init_1415 : decode prog_14_method_1_code 1415 = .ok (.aload_n 0, 1) := by decide +kernel
theorem d_Mo_init_1416 : decode prog_14_method_1_code 1416 = .ok (.getfield 126, 3) := by decide +kernel
theorem d_Mo_init_1419 : decode prog_14_method_1_code 1419 = .ok (.iload 5, 2) := by decide +kernel
theorem d_Mo_init_1421 : decode prog_14_method_1_code 1421 = .ok (.iload 5, 2) := by decide +kernel
theorem d_Mo_init_1423 : decode prog_14_method_1_code 1423 = .ok (.ifCond .le (37), 3) := by decide +kernel
theorem d_Mo_init_1426 : decode prog_14_method_1_code 1426 = .ok (.iload 5, 2) := by decide +kernel
theorem d_Mo_init_1428 : decode prog_14_method_1_code 1428 = .ok (.bipush (17), 2) := by decide +kernel
theorem d_Mo_init_1430 : decode prog_14_method_1_code 1430 = .ok (.if_icmp .ge (30), 3) := by decide +kernel
theorem d_Mo_init_1433 : decode prog_14_method_1_code 1433 = .ok (.aload_n 0, 1) := by decide +kernel
theorem d_Mo_init_1434 : decode prog_14_method_1_code 1434 = .ok (.getfield 129, 3) := by decide +kernel
theorem d_Mo_init_1437 : decode prog_14_method_1_code 1437 = .ok (.sipush (288), 3) := by decide +kernel
theorem d_Mo_init_1440 : decode prog_14_method_1_code 1440 = .ok (.iload_n 1, 1) := by decide +kernel
theorem d_Mo_init_1441 : decode prog_14_method_1_code 1441 = .ok (.imul, 1) := by decide +kernel
theorem d_Mo_init_1442 : decode prog_14_method_1_code 1442 = .ok (.bipush (16), 2) := by decide +kernel
theorem d_Mo_init_1444 : decode prog_14_method_1_code 1444 = .ok (.iload 4, 2) := by decide +kernel
theorem d_Mo_init_1446 : decode prog_14_method_1_code 1446 = .ok (.imul, 1) := by decide +kernel
theorem d_Mo_init_1447 : decode prog_14_method_1_code 1447 = .ok (.iadd, 1) := by decide +kernel
theorem d_Mo_init_1448 : decode prog_14_method_1_code 1448 = .ok (.bipush (16), 2) := by decide +kernel
theorem d_Mo_init_1450 : decode prog_14_method_1_code 1450 = .ok (.isub, 1) := by decide +kernel
theorem d_Mo_init_1451 : decode prog_14_method_1_code 1451 = .ok (.iload 5, 2) := by decide +kernel
theorem d_Mo_init_1453 : decode prog_14_method_1_code 1453 = .ok (.iadd, 1) := by decide +kernel
theorem d_Mo_init_1454 : decode prog_14_method_1_code 1454 = .ok (.iconst 1, 1) := by decide +kernel
theorem d_Mo_init_1455 : decode prog_14_method_1_code 1455 = .ok (.isub, 1) := by decide +kernel
theorem d_Mo_init_1456 : decode prog_14_method_1_code 1456 = .ok (.laload, 1) := by decide +kernel
theorem d_Mo_init_1457 : decode prog_14_method_1_code 1457 = .ok (.goto (4), 3) := by decide +kernel
theorem d_Mo_init_1460 : decode prog_14_method_1_code 1460 = .ok (.lconst 0, 1) := by decide +kernel
theorem d_Mo_init_1461 : decode prog_14_method_1_code 1461 = .ok (.lastore, 1) := by decide +kernel
theorem d_Mo_init_1462 : decode prog_14_method_1_code 1462 = .ok (.iinc 5 (1), 3) := by decide +kernel
theorem d_Mo_init_1465 : decode prog_14_method_1_code 1465 = .ok (.goto (-57), 3) := by decide +kernel
theorem d_Mo_init_1468 : decode prog_14_method_1_code 1468 = .ok (.aload_n 0, 1) := by decide +kernel
theorem d_Mo_init_1469 : decode prog_14_method_1_code 1469 = .ok (.iload_n 1, 1) := by decide +kernel
theorem d_Mo_init_1470 : decode prog_14_method_1_code 1470 = .ok (.invokevirtual 172, 3) := by decide +kernel
theorem d_Mo_init_1473 : decode prog_14_method_1_code 1473 = .ok (.iconst 0, 1) := by decide +kernel
theorem d_Mo_init_1474 : decode prog_14_method_1_code 1474 = .ok (.istore 5, 2) := by decide +kernel
theorem d_Mo_init_1476 : decode prog_14_method_1_code 1476 = .ok (.iload 5, 2) := by decide +kernel
theorem d_Mo_init_1478 : decode prog_14_method_1_code 1478 = .ok (.bipush (16), 2) := by decide +kernel
theorem d_Mo_init_1480 : decode prog_14_method_1_code 1480 = .ok (.if_icmp .ge (35), 3) := by decide +kernel
theorem d_Mo_init_1483 : decode prog_14_method_1_code 1483 = .ok (.aload_n 0, 1) := by decide +kernel
theorem d_Mo_init_1484 : decode prog_14_method_1_code 1484 = .ok (.getfield 129, 3) := by decide +kernel
theorem d_Mo_init_1487 : decode prog_14_method_1_code 1487 = .ok (.sipush (288), 3) := by decide +kernel
theorem d_Mo_init_1490 : decode prog_14_method_1_code 1490 = .ok (.iload_n 1, 1) := by decide +kernel
theorem d_Mo_init_1491 : decode prog_14_method_1_code 1491 = .ok (.imul, 1) := by decide +kernel
theorem d_Mo_init_1492 : decode prog_14_method_1_code 1492 = .ok (.bipush (16), 2) := by decide +kernel
theorem d_Mo_init_1494 : decode prog_14_method_1_code 1494 = .ok (.iload 4, 2) := by decide +kernel
theorem d_Mo_init_1496 : decode prog_14_method_1_code 1496 = .ok (.imul, 1) := by decide +kernel
theorem d_Mo_init_1497 : decode prog_14_method_1_code 1497 = .ok (.iadd, 1) := by decide +kernel
theorem d_Mo_init_1498 : decode prog_14_method_1_code 1498 = .ok (.iload 5, 2) := by decide +kernel
theorem d_Mo_init_1500 : decode prog_14_method_1_code 1500 = .ok (.iadd, 1) := by decide +kernel
theorem d_Mo_init_1501 : decode prog_14_method_1_code 1501 = .ok (.aload_n 0, 1) := by decide +kernel
theorem d_Mo_init_1502 : decode prog_14_method_1_code 1502 = .ok (.getfield 126, 3) := by decide +kernel
theorem d_Mo_init_1505 : decode prog_14_method_1_code 1505 = .ok (.iload 5, 2) := by decide +kernel
theorem d_Mo_init_1507 : decode prog_14_method_1_code 1507 = .ok (.laload, 1) := by decide +kernel
theorem d_Mo_init_1508 : decode prog_14_method_1_code 1508 = .ok (.lastore, 1) := by decide +kernel
theorem d_Mo_init_1509 : decode prog_14_method_1_code 1509 = .ok (.iinc 5 (1), 3) := by decide +kernel
theorem d_Mo_init_1512 : decode prog_14_method_1_code 1512 = .ok (.goto (-36), 3) := by decide +kernel
theorem d_Mo_init_1515 : decode prog_14_method_1_code 1515 = .ok (.iinc 4 (1), 3) := by decide +kernel
theorem d_Mo_init_1518 : decode prog_14_method_1_code 1518 = .ok (.goto (-120), 3) := by decide +kernel
theorem d_Mo_init_1521 : decode prog_14_method_1_code 1521 = .ok (.iinc 1 (1), 3) := by decide +kernel
theorem d_Mo_init_1524 : decode prog_14_method_1_code 1524 = .ok (.goto (-197), 3) := by decide +kernel
theorem d_Mo_init_1527 : decode prog_14_method_1_code 1527 = .ok (.return_, 1) := by decide +kernel
theorem d_Mo_about_0 : decode prog_14_method_67_code 0 = .ok (.aload_n 0, 1) := by decide +kernel
theorem d_Mo_about_1 : decode prog_14_method_67_code 1 = .ok (.iconst 0, 1) := by decide +kernel
theorem d_Mo_about_2 : decode prog_14_method_67_code 2 = .ok (.putfield 176, 3) := by decide +kernel
theorem d_Mo_about_5 : decode prog_14_method_67_code 5 = .ok (.iload_n 1, 1) := by decide +kernel
theorem d_Mo_about_6 : decode prog_14_method_67_code 6 = .ok (.tableswitch (86) (0) (7) #[46, 51, 56, 61, 66, 71, 76, 81], 46) := by decide +kernel
theorem d_Mo_about_52 : decode prog_14_method_67_code 52 = .ok (.aload_n 0, 1) := by decide +kernel
theorem d_Mo_about_53 : decode prog_14_method_67_code 53 = .ok (.getfield 304, 3) := by decide +kernel
theorem d_Mo_about_56 : decode prog_14_method_67_code 56 = .ok (.ireturn, 1) := by decide +kernel
theorem d_Mo_about_57 : decode prog_14_method_67_code 57 = .ok (.aload_n 0, 1) := by decide +kernel
theorem d_Mo_about_58 : decode prog_14_method_67_code 58 = .ok (.getfield 307, 3) := by decide +kernel
theorem d_Mo_about_61 : decode prog_14_method_67_code 61 = .ok (.ireturn, 1) := by decide +kernel
theorem d_Mo_about_62 : decode prog_14_method_67_code 62 = .ok (.aload_n 0, 1) := by decide +kernel
theorem d_Mo_about_63 : decode prog_14_method_67_code 63 = .ok (.getfield 310, 3) := by decide +kernel
theorem d_Mo_about_66 : decode prog_14_method_67_code 66 = .ok (.ireturn, 1) := by decide +kernel
theorem d_Mo_about_67 : decode prog_14_method_67_code 67 = .ok (.aload_n 0, 1) := by decide +kernel
theorem d_Mo_about_68 : decode prog_14_method_67_code 68 = .ok (.getfield 277, 3) := by decide +kernel
theorem d_Mo_about_71 : decode prog_14_method_67_code 71 = .ok (.ireturn, 1) := by decide +kernel
theorem d_Mo_about_72 : decode prog_14_method_67_code 72 = .ok (.aload_n 0, 1) := by decide +kernel
theorem d_Mo_about_73 : decode prog_14_method_67_code 73 = .ok (.getfield 280, 3) := by decide +kernel
theorem d_Mo_about_76 : decode prog_14_method_67_code 76 = .ok (.ireturn, 1) := by decide +kernel
theorem d_Mo_about_77 : decode prog_14_method_67_code 77 = .ok (.aload_n 0, 1) := by decide +kernel
theorem d_Mo_about_78 : decode prog_14_method_67_code 78 = .ok (.getfield 274, 3) := by decide +kernel
theorem d_Mo_about_81 : decode prog_14_method_67_code 81 = .ok (.ireturn, 1) := by decide +kernel
theorem d_Mo_about_82 : decode prog_14_method_67_code 82 = .ok (.aload_n 0, 1) := by decide +kernel
theorem d_Mo_about_83 : decode prog_14_method_67_code 83 = .ok (.getfield 262, 3) := by decide +kernel
theorem d_Mo_about_86 : decode prog_14_method_67_code 86 = .ok (.ireturn, 1) := by decide +kernel
theorem d_Mo_about_87 : decode prog_14_method_67_code 87 = .ok (.aload_n 0, 1) := by decide +kernel
theorem d_Mo_about_88 : decode prog_14_method_67_code 88 = .ok (.getfield 268, 3) := by decide +kernel
theorem d_Mo_about_91 : decode prog_14_method_67_code 91 = .ok (.ireturn, 1) := by decide +kernel
theorem d_Mo_about_92 : decode prog_14_method_67_code 92 = .ok (.iconst 0, 1) := by decide +kernel
theorem d_Mo_about_93 : decode prog_14_method_67_code 93 = .ok (.ireturn, 1) := by decide +kernel
theorem d_Mo_carry_0 : decode prog_14_method_4_code 0 = .ok (.iconst 0, 1) := by decide +kernel
theorem d_Mo_carry_1 : decode prog_14_method_4_code 1 = .ok (.istore_n 1, 1) := by decide +kernel
theorem d_Mo_carry_2 : decode prog_14_method_4_code 2 = .ok (.iload_n 1, 1) := by decide +kernel
theorem d_Mo_carry_3 : decode prog_14_method_4_code 3 = .ok (.bipush (39), 2) := by decide +kernel
theorem d_Mo_carry_5 : decode prog_14_method_4_code 5 = .ok (.if_icmp .ge (41), 3) := by decide +kernel
theorem d_Mo_carry_8 : decode prog_14_method_4_code 8 = .ok (.aload_n 0, 1) := by decide +kernel
theorem d_Mo_carry_9 : decode prog_14_method_4_code 9 = .ok (.getfield 126, 3) := by decide +kernel
theorem d_Mo_carry_12 : decode prog_14_method_4_code 12 = .ok (.iload_n 1, 1) := by decide +kernel
theorem d_Mo_carry_13 : decode prog_14_method_4_code 13 = .ok (.iconst 1, 1) := by decide +kernel
theorem d_Mo_carry_14 : decode prog_14_method_4_code 14 = .ok (.iadd, 1) := by decide +kernel
theorem d_Mo_carry_15 : decode prog_14_method_4_code 15 = .ok (.dup2, 1) := by decide +kernel
theorem d_Mo_carry_16 : decode prog_14_method_4_code 16 = .ok (.laload, 1) := by decide +kernel
theorem d_Mo_carry_17 : decode prog_14_method_4_code 17 = .ok (.aload_n 0, 1) := by decide +kernel
theorem d_Mo_carry_18 : decode prog_14_method_4_code 18 = .ok (.getfield 126, 3) := by decide +kernel
theorem d_Mo_carry_21 : decode prog_14_method_4_code 21 = .ok (.iload_n 1, 1) := by decide +kernel
theorem d_Mo_carry_22 : decode prog_14_method_4_code 22 = .ok (.laload, 1) := by decide +kernel
theorem d_Mo_carry_23 : decode prog_14_method_4_code 23 = .ok (.bipush (16), 2) := by decide +kernel
theorem d_Mo_carry_25 : decode prog_14_method_4_code 25 = .ok (.lshr, 1) := by decide +kernel
theorem d_Mo_carry_26 : decode prog_14_method_4_code 26 = .ok (.ladd, 1) := by decide +kernel
theorem d_Mo_carry_27 : decode prog_14_method_4_code 27 = .ok (.lastore, 1) := by decide +kernel
theorem d_Mo_carry_28 : decode prog_14_method_4_code 28 = .ok (.aload_n 0, 1) := by decide +kernel
theorem d_Mo_carry_29 : decode prog_14_method_4_code 29 = .ok (.getfield 126, 3) := by decide +kernel
theorem d_Mo_carry_32 : decode prog_14_method_4_code 32 = .ok (.iload_n 1, 1) := by decide +kernel
theorem d_Mo_carry_33 : decode prog_14_method_4_code 33 = .ok (.dup2, 1) := by decide +kernel
theorem d_Mo_carry_34 : decode prog_14_method_4_code 34 = .ok (.laload, 1) := by decide +kernel
theorem d_Mo_carry_35 : decode prog_14_method_4_code 35 = .ok (.ldc2_w 170, 3) := by decide +kernel
theorem d_Mo_carry_38 : decode prog_14_method_4_code 38 = .ok (.land, 1) := by decide +kernel
theorem d_Mo_carry_39 : decode prog_14_method_4_code 39 = .ok (.lastore, 1) := by decide +kernel
theorem d_Mo_carry_40 : decode prog_14_method_4_code 40 = .ok (.iinc 1 (1), 3) := by decide +kernel
theorem d_Mo_carry_43 : decode prog_14_method_4_code 43 = .ok (.goto (-41), 3) := by decide +kernel
theorem d_Mo_carry_46 : decode prog_14_method_4_code 46 = .ok (.return_, 1) := by decide +kernel
theorem d_Mo_change_0 : decode prog_14_method_45_code 0 = .ok (.aload_n 0, 1) := by decide +kernel
theorem d_Mo_change_1 : decode prog_14_method_45_code 1 = .ok (.invokevirtual 283, 3) := by decide +kernel
theorem d_Mo_change_4 : decode prog_14_method_45_code 4 = .ok (.istore_n 2, 1) := by decide +kernel
theorem d_Mo_change_5 : decode prog_14_method_45_code 5 = .ok (.aload_n 0, 1) := by decide +kernel
theorem d_Mo_change_6 : decode prog_14_method_45_code 6 = .ok (.iload_n 1, 1) := by decide +kernel
theorem d_Mo_change_7 : decode prog_14_method_45_code 7 = .ok (.invokevirtual 322, 3) := by decide +kernel
theorem d_Mo_change_10 : decode prog_14_method_45_code 10 = .ok (.ifCond .eq (5), 3) := by decide +kernel
theorem d_Mo_change_13 : decode prog_14_method_45_code 13 = .ok (.iconst 0, 1) := by decide +kernel
theorem d_Mo_change_14 : decode prog_14_method_45_code 14 = .ok (.ireturn, 1) := by decide +kernel
theorem d_Mo_choose_0 : decode prog_14_method_53_code 0 = .ok (.aload_n 0, 1) := by decide +kernel
theorem d_Mo_choose_1 : decode prog_14_method_53_code 1 = .ok (.iconst 0, 1) := by decide +kernel
theorem d_Mo_choose_2 : decode prog_14_method_53_code 2 = .ok (.putfield 176, 3) := by decide +kernel
theorem d_Mo_choose_5 : decode prog_14_method_53_code 5 = .ok (.aload_n 0, 1) := by decide +kernel
theorem d_Mo_choose_6 : decode prog_14_method_53_code 6 = .ok (.aload_n 0, 1) := by decide +kernel
theorem d_Mo_choose_7 : decode prog_14_method_53_code 7 = .ok (.getfield 307, 3) := by decide +kernel
theorem d_Mo_choose_10 : decode prog_14_method_53_code 10 = .ok (.ifCond .ne (7), 3) := by decide +kernel
theorem d_Mo_choose_13 : decode prog_14_method_53_code 13 = .ok (.iconst 1, 1) := by decide +kernel
theorem d_Mo_choose_14 : decode prog_14_method_53_code 14 = .ok (.goto (4), 3) := by decide +kernel
theorem d_Mo_choose_18 : decode prog_14_method_53_code 18 = .ok (.iconst 1, 1) := by decide +kernel
theorem d_Mo_choose_19 : decode prog_14_method_53_code 19 = .ok (.invokevirtual 287, 3) := by decide +kernel
theorem d_Mo_choose_22 : decode prog_14_method_53_code 22 = .ok (.ifCond .ne (38), 3) := by decide +kernel
theorem d_Mo_choose_60 : decode prog_14_method_53_code 60 = .ok (.return_, 1) := by decide +kernel
theorem d_Mo_commit_0 : decode prog_14_method_47_code 0 = .ok (.aload_n 0, 1) := by decide +kernel
theorem d_Mo_commit_1 : decode prog_14_method_47_code 1 = .ok (.invokevirtual 283, 3) := by decide +kernel
theorem d_Mo_commit_4 : decode prog_14_method_47_code 4 = .ok (.istore_n 2, 1) := by decide +kernel
theorem d_Mo_commit_5 : decode prog_14_method_47_code 5 = .ok (.aload_n 0, 1) := by decide +kernel
theorem d_Mo_commit_6 : decode prog_14_method_47_code 6 = .ok (.iload_n 1, 1) := by decide +kernel
theorem d_Mo_commit_7 : decode prog_14_method_47_code 7 = .ok (.invokevirtual 322, 3) := by decide +kernel
theorem d_Mo_commit_10 : decode prog_14_method_47_code 10 = .ok (.ifCond .ne (22), 3) := by decide +kernel
theorem d_Mo_commit_32 : decode prog_14_method_47_code 32 = .ok (.return_, 1) := by decide +kernel
theorem d_Mo_deal_0 : decode prog_14_method_41_code 0 = .ok (.aload_n 0, 1) := by decide +kernel
theorem d_Mo_deal_1 : decode prog_14_method_41_code 1 = .ok (.invokevirtual 283, 3) := by decide +kernel
theorem d_Mo_deal_4 : decode prog_14_method_41_code 4 = .ok (.istore_n 3, 1) := by decide +kernel
theorem d_Mo_deal_5 : decode prog_14_method_41_code 5 = .ok (.aload_n 0, 1) := by decide +kernel
theorem d_Mo_deal_6 : decode prog_14_method_41_code 6 = .ok (.iload_n 1, 1) := by decide +kernel
theorem d_Mo_deal_7 : decode prog_14_method_41_code 7 = .ok (.iconst 2, 1) := by decide +kernel
theorem d_Mo_deal_8 : decode prog_14_method_41_code 8 = .ok (.if_icmp .lt (22), 3) := by decide +kernel
theorem d_Mo_deal_11 : decode prog_14_method_41_code 11 = .ok (.iload_n 2, 1) := by decide +kernel
theorem d_Mo_deal_12 : decode prog_14_method_41_code 12 = .ok (.iload_n 1, 1) := by decide +kernel
theorem d_Mo_deal_13 : decode prog_14_method_41_code 13 = .ok (.if_icmp .lt (17), 3) := by decide +kernel
theorem d_Mo_deal_16 : decode prog_14_method_41_code 16 = .ok (.iload_n 2, 1) := by decide +kernel
theorem d_Mo_deal_17 : decode prog_14_method_41_code 17 = .ok (.bipush (8), 2) := by decide +kernel
theorem d_Mo_deal_19 : decode prog_14_method_41_code 19 = .ok (.if_icmp .gt (11), 3) := by decide +kernel
theorem d_Mo_deal_22 : decode prog_14_method_41_code 22 = .ok (.iload_n 3, 1) := by decide +kernel
theorem d_Mo_deal_23 : decode prog_14_method_41_code 23 = .ok (.bipush (32), 2) := by decide +kernel
theorem d_Mo_deal_25 : decode prog_14_method_41_code 25 = .ok (.iload_n 1, 1) := by decide +kernel
theorem d_Mo_deal_26 : decode prog_14_method_41_code 26 = .ok (.imul, 1) := by decide +kernel
theorem d_Mo_deal_27 : decode prog_14_method_41_code 27 = .ok (.if_icmp .eq (7), 3) := by decide +kernel
theorem d_Mo_deal_30 : decode prog_14_method_41_code 30 = .ok (.iconst 1, 1) := by decide +kernel
theorem d_Mo_deal_31 : decode prog_14_method_41_code 31 = .ok (.goto (4), 3) := by decide +kernel
theorem d_Mo_deal_35 : decode prog_14_method_41_code 35 = .ok (.iconst 1, 1) := by decide +kernel
theorem d_Mo_deal_36 : decode prog_14_method_41_code 36 = .ok (.invokevirtual 287, 3) := by decide +kernel
theorem d_Mo_deal_39 : decode prog_14_method_41_code 39 = .ok (.ifCond .eq (4), 3) := by decide +kernel
theorem d_Mo_deal_42 : decode prog_14_method_41_code 42 = .ok (.return_, 1) := by decide +kernel
theorem d_Mo_fails_0 : decode prog_14_method_3_code 0 = .ok (.iload_n 1, 1) := by decide +kernel
theorem d_Mo_fails_1 : decode prog_14_method_3_code 1 = .ok (.ifCond .eq (15), 3) := by decide +kernel
theorem d_Mo_fails_4 : decode prog_14_method_3_code 4 = .ok (.aload_n 0, 1) := by decide +kernel
theorem d_Mo_fails_5 : decode prog_14_method_3_code 5 = .ok (.getfield 176, 3) := by decide +kernel
theorem d_Mo_fails_8 : decode prog_14_method_3_code 8 = .ok (.ifCond .ne (8), 3) := by decide +kernel
theorem d_Mo_fails_11 : decode prog_14_method_3_code 11 = .ok (.aload_n 0, 1) := by decide +kernel
theorem d_Mo_fails_12 : decode prog_14_method_3_code 12 = .ok (.iload_n 2, 1) := by decide +kernel
theorem d_Mo_fails_13 : decode prog_14_method_3_code 13 = .ok (.putfield 176, 3) := by decide +kernel
theorem d_Mo_fails_16 : decode prog_14_method_3_code 16 = .ok (.aload_n 0, 1) := by decide +kernel
theorem d_Mo_fails_17 : decode prog_14_method_3_code 17 = .ok (.getfield 176, 3) := by decide +kernel
theorem d_Mo_fails_20 : decode prog_14_method_3_code 20 = .ok (.ifCond .eq (7), 3) := by decide +kernel
theorem d_Mo_fails_23 : decode prog_14_method_3_code 23 = .ok (.iconst 1, 1) := by decide +kernel
theorem d_Mo_fails_24 : decode prog_14_method_3_code 24 = .ok (.goto (4), 3) := by decide +kernel
theorem d_Mo_fails_27 : decode prog_14_method_3_code 27 = .ok (.iconst 0, 1) := by decide +kernel
theorem d_Mo_fails_28 : decode prog_14_method_3_code 28 = .ok (.ireturn, 1) := by decide +kernel
theorem d_Mo_feed_0 : decode prog_14_method_36_code 0 = .ok (.aload_n 0, 1) := by decide +kernel
theorem d_Mo_feed_1 : decode prog_14_method_36_code 1 = .ok (.iconst 0, 1) := by decide +kernel
theorem d_Mo_feed_2 : decode prog_14_method_36_code 2 = .ok (.putfield 176, 3) := by decide +kernel
theorem d_Mo_feed_5 : decode prog_14_method_36_code 5 = .ok (.iload_n 1, 1) := by decide +kernel
theorem d_Mo_feed_6 : decode prog_14_method_36_code 6 = .ok (.ifCond .lt (21), 3) := by decide +kernel
theorem d_Mo_feed_9 : decode prog_14_method_36_code 9 = .ok (.iload_n 1, 1) := by decide +kernel
theorem d_Mo_feed_10 : decode prog_14_method_36_code 10 = .ok (.bipush (20), 2) := by decide +kernel
theorem d_Mo_feed_12 : decode prog_14_method_36_code 12 = .ok (.if_icmp .gt (15), 3) := by decide +kernel
theorem d_Mo_feed_15 : decode prog_14_method_36_code 15 = .ok (.aload_n 0, 1) := by decide +kernel
theorem d_Mo_feed_16 : decode prog_14_method_36_code 16 = .ok (.getfield 274, 3) := by decide +kernel
theorem d_Mo_feed_19 : decode prog_14_method_36_code 19 = .ok (.iload_n 1, 1) := by decide +kernel
theorem d_Mo_feed_20 : decode prog_14_method_36_code 20 = .ok (.iadd, 1) := by decide +kernel
theorem d_Mo_feed_21 : decode prog_14_method_36_code 21 = .ok (.sipush (300), 3) := by decide +kernel
theorem d_Mo_feed_24 : decode prog_14_method_36_code 24 = .ok (.if_icmp .le (5), 3) := by decide +kernel
theorem d_Mo_feed_27 : decode prog_14_method_36_code 27 = .ok (.iconst (-1), 1) := by decide +kernel
theorem d_Mo_feed_28 : decode prog_14_method_36_code 28 = .ok (.ireturn, 1) := by decide +kernel
theorem d_Mo_feed_29 : decode prog_14_method_36_code 29 = .ok (.iconst 0, 1) := by decide +kernel
theorem d_Mo_feed_30 : decode prog_14_method_36_code 30 = .ok (.istore 7, 2) := by decide +kernel
theorem d_Mo_feed_32 : decode prog_14_method_36_code 32 = .ok (.iload 7, 2) := by decide +kernel
theorem d_Mo_feed_34 : decode prog_14_method_36_code 34 = .ok (.iload_n 1, 1) := by decide +kernel
theorem d_Mo_feed_35 : decode prog_14_method_36_code 35 = .ok (.if_icmp .ge (84), 3) := by decide +kernel
theorem d_Mo_feed_38 : decode prog_14_method_36_code 38 = .ok (.iload 7, 2) := by decide +kernel
theorem d_Mo_feed_40 : decode prog_14_method_36_code 40 = .ok (.iconst 4, 1) := by decide +kernel
theorem d_Mo_feed_41 : decode prog_14_method_36_code 41 = .ok (.if_icmp .ge (7), 3) := by decide +kernel
theorem d_Mo_feed_44 : decode prog_14_method_36_code 44 = .ok (.iload_n 2, 1) := by decide +kernel
theorem d_Mo_feed_45 : decode prog_14_method_36_code 45 = .ok (.goto (40), 3) := by decide +kernel
theorem d_Mo_feed_48 : decode prog_14_method_36_code 48 = .ok (.iload 7, 2) := by decide +kernel
theorem d_Mo_feed_50 : decode prog_14_method_36_code 50 = .ok (.bipush (8), 2) := by decide +kernel
theorem d_Mo_feed_52 : decode prog_14_method_36_code 52 = .ok (.if_icmp .ge (7), 3) := by decide +kernel
theorem d_Mo_feed_55 : decode prog_14_method_36_code 55 = .ok (.iload_n 3, 1) := by decide +kernel
theorem d_Mo_feed_56 : decode prog_14_method_36_code 56 = .ok (.goto (29), 3) := by decide +kernel
theorem d_Mo_feed_59 : decode prog_14_method_36_code 59 = .ok (.iload 7, 2) := by decide +kernel
theorem d_Mo_feed_61 : decode prog_14_method_36_code 61 = .ok (.bipush (12), 2) := by decide +kernel
theorem d_Mo_feed_63 : decode prog_14_method_36_code 63 = .ok (.if_icmp .ge (8), 3) := by decide +kernel
theorem d_Mo_feed_66 : decode prog_14_method_36_code 66 = .ok (.iload 4, 2) := by decide +kernel
theorem d_Mo_feed_68 : decode prog_14_method_36_code 68 = .ok (.goto (17), 3) := by decide +kernel
theorem d_Mo_feed_71 : decode prog_14_method_36_code 71 = .ok (.iload 7, 2) := by decide +kernel
theorem d_Mo_feed_73 : decode prog_14_method_36_code 73 = .ok (.bipush (16), 2) := by decide +kernel
theorem d_Mo_feed_75 : decode prog_14_method_36_code 75 = .ok (.if_icmp .ge (8), 3) := by decide +kernel
theorem d_Mo_feed_78 : decode prog_14_method_36_code 78 = .ok (.iload 5, 2) := by decide +kernel
theorem d_Mo_feed_80 : decode prog_14_method_36_code 80 = .ok (.goto (5), 3) := by decide +kernel
theorem d_Mo_feed_83 : decode prog_14_method_36_code 83 = .ok (.iload 6, 2) := by decide +kernel
theorem d_Mo_feed_85 : decode prog_14_method_36_code 85 = .ok (.istore 8, 2) := by decide +kernel
theorem d_Mo_feed_87 : decode prog_14_method_36_code 87 = .ok (.aload_n 0, 1) := by decide +kernel
theorem d_Mo_feed_88 : decode prog_14_method_36_code 88 = .ok (.getfield 139, 3) := by decide +kernel
theorem d_Mo_feed_91 : decode prog_14_method_36_code 91 = .ok (.aload_n 0, 1) := by decide +kernel
theorem d_Mo_feed_92 : decode prog_14_method_36_code 92 = .ok (.getfield 274, 3) := by decide +kernel
theorem d_Mo_feed_95 : decode prog_14_method_36_code 95 = .ok (.iload 7, 2) := by decide +kernel
theorem d_Mo_feed_97 : decode prog_14_method_36_code 97 = .ok (.iadd, 1) := by decide +kernel
theorem d_Mo_feed_98 : decode prog_14_method_36_code 98 = .ok (.iload 8, 2) := by decide +kernel
theorem d_Mo_feed_100 : decode prog_14_method_36_code 100 = .ok (.bipush (24), 2) := by decide +kernel
theorem d_Mo_feed_102 : decode prog_14_method_36_code 102 = .ok (.bipush (8), 2) := by decide +kernel
theorem d_Mo_feed_104 : decode prog_14_method_36_code 104 = .ok (.iload 7, 2) := by decide +kernel
theorem d_Mo_feed_106 : decode prog_14_method_36_code 106 = .ok (.iconst 4, 1) := by decide +kernel
theorem d_Mo_feed_107 : decode prog_14_method_36_code 107 = .ok (.irem, 1) := by decide +kernel
theorem d_Mo_feed_108 : decode prog_14_method_36_code 108 = .ok (.imul, 1) := by decide +kernel
theorem d_Mo_feed_109 : decode prog_14_method_36_code 109 = .ok (.isub, 1) := by decide +kernel
theorem d_Mo_feed_110 : decode prog_14_method_36_code 110 = .ok (.ishr, 1) := by decide +kernel
theorem d_Mo_feed_111 : decode prog_14_method_36_code 111 = .ok (.i2b, 1) := by decide +kernel
theorem d_Mo_feed_112 : decode prog_14_method_36_code 112 = .ok (.bastore, 1) := by decide +kernel
theorem d_Mo_feed_113 : decode prog_14_method_36_code 113 = .ok (.iinc 7 (1), 3) := by decide +kernel
theorem d_Mo_feed_116 : decode prog_14_method_36_code 116 = .ok (.goto (-84), 3) := by decide +kernel
theorem d_Mo_feed_119 : decode prog_14_method_36_code 119 = .ok (.aload_n 0, 1) := by decide +kernel
theorem d_Mo_feed_120 : decode prog_14_method_36_code 120 = .ok (.dup, 1) := by decide +kernel
theorem d_Mo_feed_121 : decode prog_14_method_36_code 121 = .ok (.getfield 274, 3) := by decide +kernel
theorem d_Mo_feed_124 : decode prog_14_method_36_code 124 = .ok (.iload_n 1, 1) := by decide +kernel
theorem d_Mo_feed_125 : decode prog_14_method_36_code 125 = .ok (.iadd, 1) := by decide +kernel
theorem d_Mo_feed_126 : decode prog_14_method_36_code 126 = .ok (.putfield 274, 3) := by decide +kernel
theorem d_Mo_feed_129 : decode prog_14_method_36_code 129 = .ok (.aload_n 0, 1) := by decide +kernel
theorem d_Mo_feed_130 : decode prog_14_method_36_code 130 = .ok (.getfield 274, 3) := by decide +kernel
theorem d_Mo_feed_133 : decode prog_14_method_36_code 133 = .ok (.ireturn, 1) := by decide +kernel
theorem d_Mo_gather_0 : decode prog_14_method_61_code 0 = .ok (.aload_n 0, 1) := by decide +kernel
theorem d_Mo_gather_1 : decode prog_14_method_61_code 1 = .ok (.iconst 0, 1) := by decide +kernel
theorem d_Mo_gather_2 : decode prog_14_method_61_code 2 = .ok (.putfield 176, 3) := by decide +kernel
theorem d_Mo_gather_5 : decode prog_14_method_61_code 5 = .ok (.aload_n 0, 1) := by decide +kernel
theorem d_Mo_gather_6 : decode prog_14_method_61_code 6 = .ok (.aload_n 0, 1) := by decide +kernel
theorem d_Mo_gather_7 : decode prog_14_method_61_code 7 = .ok (.getfield 277, 3) := by decide +kernel
theorem d_Mo_gather_10 : decode prog_14_method_61_code 10 = .ok (.ifCond .ne (7), 3) := by decide +kernel
theorem d_Mo_gather_13 : decode prog_14_method_61_code 13 = .ok (.iconst 1, 1) := by decide +kernel
theorem d_Mo_gather_14 : decode prog_14_method_61_code 14 = .ok (.goto (4), 3) := by decide +kernel
theorem d_Mo_gather_18 : decode prog_14_method_61_code 18 = .ok (.iconst 1, 1) := by decide +kernel
theorem d_Mo_gather_19 : decode prog_14_method_61_code 19 = .ok (.invokevirtual 287, 3) := by decide +kernel
theorem d_Mo_gather_22 : decode prog_14_method_61_code 22 = .ok (.ifCond .eq (5), 3) := by decide +kernel
theorem d_Mo_gather_25 : decode prog_14_method_61_code 25 = .ok (.iconst 0, 1) := by decide +kernel
theorem d_Mo_gather_26 : decode prog_14_method_61_code 26 = .ok (.ireturn, 1) := by decide +kernel
theorem d_Mo_hash_0 : decode prog_14_method_27_code 0 = .ok (.iload_n 1, 1) := by decide +kernel
theorem d_Mo_hash_1 : decode prog_14_method_27_code 1 = .ok (.bipush (72), 2) := by decide +kernel
theorem d_Mo_hash_3 : decode prog_14_method_27_code 3 = .ok (.iadd, 1) := by decide +kernel
theorem d_Mo_hash_4 : decode prog_14_method_27_code 4 = .ok (.bipush (64), 2) := by decide +kernel
theorem d_Mo_hash_6 : decode prog_14_method_27_code 6 = .ok (.idiv, 1) := by decide +kernel
theorem d_Mo_hash_7 : decode prog_14_method_27_code 7 = .ok (.bipush (64), 2) := by decide +kernel
theorem d_Mo_hash_9 : decode prog_14_method_27_code 9 = .ok (.imul, 1) := by decide +kernel
theorem d_Mo_hash_10 : decode prog_14_method_27_code 10 = .ok (.istore_n 2, 1) := by decide +kernel
theorem d_Mo_hash_11 : decode prog_14_method_27_code 11 = .ok (.iload_n 1, 1) := by decide +kernel
theorem d_Mo_hash_12 : decode prog_14_method_27_code 12 = .ok (.istore_n 3, 1) := by decide +kernel
theorem d_Mo_hash_13 : decode prog_14_method_27_code 13 = .ok (.iload_n 3, 1) := by decide +kernel
theorem d_Mo_hash_14 : decode prog_14_method_27_code 14 = .ok (.iload_n 2, 1) := by decide +kernel
theorem d_Mo_hash_15 : decode prog_14_method_27_code 15 = .ok (.if_icmp .ge (51), 3) := by decide +kernel
theorem d_Mo_hash_18 : decode prog_14_method_27_code 18 = .ok (.aload_n 0, 1) := by decide +kernel
theorem d_Mo_hash_19 : decode prog_14_method_27_code 19 = .ok (.getfield 152, 3) := by decide +kernel
theorem d_Mo_hash_22 : decode prog_14_method_27_code 22 = .ok (.iload_n 3, 1) := by decide +kernel
theorem d_Mo_hash_23 : decode prog_14_method_27_code 23 = .ok (.iload_n 3, 1) := by decide +kernel
theorem d_Mo_hash_24 : decode prog_14_method_27_code 24 = .ok (.iload_n 1, 1) := by decide +kernel
theorem d_Mo_hash_25 : decode prog_14_method_27_code 25 = .ok (.if_icmp .ne (9), 3) := by decide +kernel
theorem d_Mo_hash_28 : decode prog_14_method_27_code 28 = .ok (.sipush (128), 3) := by decide +kernel
theorem d_Mo_hash_31 : decode prog_14_method_27_code 31 = .ok (.goto (27), 3) := by decide +kernel
theorem d_Mo_hash_34 : decode prog_14_method_27_code 34 = .ok (.iload_n 3, 1) := by decide +kernel
theorem d_Mo_hash_35 : decode prog_14_method_27_code 35 = .ok (.iload_n 2, 1) := by decide +kernel
theorem d_Mo_hash_36 : decode prog_14_method_27_code 36 = .ok (.iconst 4, 1) := by decide +kernel
theorem d_Mo_hash_37 : decode prog_14_method_27_code 37 = .ok (.isub, 1) := by decide +kernel
theorem d_Mo_hash_38 : decode prog_14_method_27_code 38 = .ok (.if_icmp .ge (7), 3) := by decide +kernel
theorem d_Mo_hash_41 : decode prog_14_method_27_code 41 = .ok (.iconst 0, 1) := by decide +kernel
theorem d_Mo_hash_42 : decode prog_14_method_27_code 42 = .ok (.goto (16), 3) := by decide +kernel
theorem d_Mo_hash_45 : decode prog_14_method_27_code 45 = .ok (.bipush (8), 2) := by decide +kernel
theorem d_Mo_hash_47 : decode prog_14_method_27_code 47 = .ok (.iload_n 1, 1) := by decide +kernel
theorem d_Mo_hash_48 : decode prog_14_method_27_code 48 = .ok (.imul, 1) := by decide +kernel
theorem d_Mo_hash_49 : decode prog_14_method_27_code 49 = .ok (.bipush (8), 2) := by decide +kernel
theorem d_Mo_hash_51 : decode prog_14_method_27_code 51 = .ok (.iload_n 2, 1) := by decide +kernel
theorem d_Mo_hash_52 : decode prog_14_method_27_code 52 = .ok (.iconst 1, 1) := by decide +kernel
theorem d_Mo_hash_53 : decode prog_14_method_27_code 53 = .ok (.isub, 1) := by decide +kernel
theorem d_Mo_hash_54 : decode prog_14_method_27_code 54 = .ok (.iload_n 3, 1) := by decide +kernel
theorem d_Mo_hash_55 : decode prog_14_method_27_code 55 = .ok (.isub, 1) := by decide +kernel
theorem d_Mo_hash_56 : decode prog_14_method_27_code 56 = .ok (.imul, 1) := by decide +kernel
theorem d_Mo_hash_57 : decode prog_14_method_27_code 57 = .ok (.ishr, 1) := by decide +kernel
theorem d_Mo_hash_58 : decode prog_14_method_27_code 58 = .ok (.i2b, 1) := by decide +kernel
theorem d_Mo_hash_59 : decode prog_14_method_27_code 59 = .ok (.bastore, 1) := by decide +kernel
theorem d_Mo_hash_60 : decode prog_14_method_27_code 60 = .ok (.iinc 3 (1), 3) := by decide +kernel
theorem d_Mo_hash_63 : decode prog_14_method_27_code 63 = .ok (.goto (-50), 3) := by decide +kernel
theorem d_Mo_hash_66 : decode prog_14_method_27_code 66 = .ok (.aload_n 0, 1) := by decide +kernel
theorem d_Mo_hash_67 : decode prog_14_method_27_code 67 = .ok (.getfield 164, 3) := by decide +kernel
theorem d_Mo_hash_70 : decode prog_14_method_27_code 70 = .ok (.astore_n 3, 1) := by decide +kernel
theorem d_Mo_hash_71 : decode prog_14_method_27_code 71 = .ok (.aload_n 3, 1) := by decide +kernel
theorem d_Mo_hash_72 : decode prog_14_method_27_code 72 = .ok (.iconst 0, 1) := by decide +kernel
theorem d_Mo_hash_73 : decode prog_14_method_27_code 73 = .ok (.ldc 239, 2) := by decide +kernel
theorem d_Mo_hash_75 : decode prog_14_method_27_code 75 = .ok (.iastore, 1) := by decide +kernel
theorem d_Mo_hash_76 : decode prog_14_method_27_code 76 = .ok (.aload_n 3, 1) := by decide +kernel
theorem d_Mo_hash_77 : decode prog_14_method_27_code 77 = .ok (.iconst 1, 1) := by decide +kernel
theorem d_Mo_hash_78 : decode prog_14_method_27_code 78 = .ok (.ldc 240, 2) := by decide +kernel
theorem d_Mo_hash_80 : decode prog_14_method_27_code 80 = .ok (.iastore, 1) := by decide +kernel
theorem d_Mo_hash_81 : decode prog_14_method_27_code 81 = .ok (.aload_n 3, 1) := by decide +kernel
theorem d_Mo_hash_82 : decode prog_14_method_27_code 82 = .ok (.iconst 2, 1) := by decide +kernel
theorem d_Mo_hash_83 : decode prog_14_method_27_code 83 = .ok (.ldc 241, 2) := by decide +kernel
theorem d_Mo_hash_85 : decode prog_14_method_27_code 85 = .ok (.iastore, 1) := by decide +kernel
theorem d_Mo_hash_86 : decode prog_14_method_27_code 86 = .ok (.aload_n 3, 1) := by decide +kernel
theorem d_Mo_hash_87 : decode prog_14_method_27_code 87 = .ok (.iconst 3, 1) := by decide +kernel
theorem d_Mo_hash_88 : decode prog_14_method_27_code 88 = .ok (.ldc 242, 2) := by decide +kernel
theorem d_Mo_hash_90 : decode prog_14_method_27_code 90 = .ok (.iastore, 1) := by decide +kernel
theorem d_Mo_hash_91 : decode prog_14_method_27_code 91 = .ok (.aload_n 3, 1) := by decide +kernel
theorem d_Mo_hash_92 : decode prog_14_method_27_code 92 = .ok (.iconst 4, 1) := by decide +kernel
theorem d_Mo_hash_93 : decode prog_14_method_27_code 93 = .ok (.ldc 243, 2) := by decide +kernel
theorem d_Mo_hash_95 : decode prog_14_method_27_code 95 = .ok (.iastore, 1) := by decide +kernel
theorem d_Mo_hash_96 : decode prog_14_method_27_code 96 = .ok (.aload_n 3, 1) := by decide +kernel
theorem d_Mo_hash_97 : decode prog_14_method_27_code 97 = .ok (.iconst 5, 1) := by decide +kernel
theorem d_Mo_hash_98 : decode prog_14_method_27_code 98 = .ok (.ldc 244, 2) := by decide +kernel
theorem d_Mo_hash_100 : decode prog_14_method_27_code 100 = .ok (.iastore, 1) := by decide +kernel
theorem d_Mo_hash_101 : decode prog_14_method_27_code 101 = .ok (.aload_n 3, 1) := by decide +kernel
theorem d_Mo_hash_102 : decode prog_14_method_27_code 102 = .ok (.bipush (6), 2) := by decide +kernel
theorem d_Mo_hash_104 : decode prog_14_method_27_code 104 = .ok (.ldc 245, 2) := by decide +kernel
theorem d_Mo_hash_106 : decode prog_14_method_27_code 106 = .ok (.iastore, 1) := by decide +kernel
theorem d_Mo_hash_107 : decode prog_14_method_27_code 107 = .ok (.aload_n 3, 1) := by decide +kernel
theorem d_Mo_hash_108 : decode prog_14_method_27_code 108 = .ok (.bipush (7), 2) := by decide +kernel
theorem d_Mo_hash_110 : decode prog_14_method_27_code 110 = .ok (.ldc 246, 2) := by decide +kernel
theorem d_Mo_hash_112 : decode prog_14_method_27_code 112 = .ok (.iastore, 1) := by decide +kernel
theorem d_Mo_hash_113 : decode prog_14_method_27_code 113 = .ok (.iconst 0, 1) := by decide +kernel
theorem d_Mo_hash_114 : decode prog_14_method_27_code 114 = .ok (.istore 4, 2) := by decide +kernel
theorem d_Mo_hash_116 : decode prog_14_method_27_code 116 = .ok (.iload 4, 2) := by decide +kernel
