set_option maxRecDepth 20000 in
theorem kl_L_13 : Cond.constantLong RL 13 4294967295 ∈ WALL := wm 1602 (by decide +kernel) rfl
set_option maxRecDepth 20000 in
theorem cw_L_15 : CwV RL 15 yX9_opener cX9_opener 4 (some .int) 2 := ⟨wm 417 (by decide +kernel) rfl, wm 418 (by decide +kernel) rfl, wm 419 (by decide +kernel) rfl, wm 1 (by decide +kernel) rfl, wm 420 rfl rfl, by decide +kernel⟩
set_option maxRecDepth 20000 in
theorem cw_L_19 : CwV RL 19 yX10_opener cX10_opener 6 (some .int) 2 := ⟨wm 1262 (by decide +kernel) rfl, wm 1263 (by decide +kernel) rfl, wm 1264 (by decide +kernel) rfl, wm 11 (by decide +kernel) rfl, wm 1265 rfl rfl, by decide +kernel⟩
set_option maxRecDepth 20000 in
theorem cw_L_20 : CwV RL 20 yX9_pair cX9_pair 3 (some .int) 2 := ⟨wm 547 (by decide +kernel) rfl, wm 548 (by decide +kernel) rfl, wm 549 (by decide +kernel) rfl, wm 1 (by decide +kernel) rfl, wm 550 rfl rfl, by decide +kernel⟩
set_option maxRecDepth 20000 in
theorem cw_L_24 : CwV RL 24 yX10_pair cX10_pair 3 (some .int) 2 := ⟨wm 1290 (by decide +kernel) rfl, wm 1291 (by decide +kernel) rfl, wm 1292 (by decide +kernel) rfl, wm 11 (by decide +kernel) rfl, wm 1293 rfl rfl, by decide +kernel⟩
set_option maxRecDepth 20000 in
theorem cw_L_25 : CwV RL 25 yX9_closer cX9_closer 3 (some .int) 1 := ⟨wm 555 (by decide +kernel) rfl, wm 556 (by decide +kernel) rfl, wm 557 (by decide +kernel) rfl, wm 1 (by decide +kernel) rfl, wm 558 rfl rfl, by decide +kernel⟩
set_option maxRecDepth 20000 in
theorem cw_L_29 : CwV RL 29 yX10_closer cX10_closer 5 (some .int) 1 := ⟨wm 1294 (by decide +kernel) rfl, wm 1295 (by decide +kernel) rfl, wm 1296 (by decide +kernel) rfl, wm 11 (by decide +kernel) rfl, wm 1297 rfl rfl, by decide +kernel⟩
set_option maxRecDepth 20000 in
theorem cw_L_30 : CwV RL 30 yX9_goer cX9_goer 2 (some .int) 1 := ⟨wm 563 (by decide +kernel) rfl, wm 564 (by decide +kernel) rfl, wm 565 (by decide +kernel) rfl, wm 1 (by decide +kernel) rfl, wm 566 rfl rfl, by decide +kernel⟩
set_option maxRecDepth 20000 in
theorem cw_L_34 : CwV RL 34 yX10_goer cX10_goer 2 (some .int) 1 := ⟨wm 1298 (by decide +kernel) rfl, wm 1299 (by decide +kernel) rfl, wm 1300 (by decide +kernel) rfl, wm 11 (by decide +kernel) rfl, wm 1301 rfl rfl, by decide +kernel⟩
set_option maxRecDepth 20000 in
theorem cw_L_35 : CwV RL 35 yX9_tab cX9_tab 2 (some .int) 1 := ⟨wm 571 (by decide +kernel) rfl, wm 572 (by decide +kernel) rfl, wm 573 (by decide +kernel) rfl, wm 1 (by decide +kernel) rfl, wm 574 rfl rfl, by decide +kernel⟩
set_option maxRecDepth 20000 in
theorem cw_L_38 : CwV RL 38 yX10_tab cX10_tab 3 (some .int) 1 := ⟨wm 1302 (by decide +kernel) rfl, wm 1303 (by decide +kernel) rfl, wm 1304 (by decide +kernel) rfl, wm 11 (by decide +kernel) rfl, wm 1305 rfl rfl, by decide +kernel⟩
set_option maxRecDepth 20000 in
theorem cw_L_39 : CwV RL 39 yX9_feed cX9_feed 3 (some .int) 1 := ⟨wm 579 (by decide +kernel) rfl, wm 580 (by decide +kernel) rfl, wm 581 (by decide +kernel) rfl, wm 1 (by decide +kernel) rfl, wm 582 rfl rfl, by decide +kernel⟩
set_option maxRecDepth 20000 in
theorem cw_L_42 : CwV RL 42 yX10_feed cX10_feed 5 (some .int) 1 := ⟨wm 1307 (by decide +kernel) rfl, wm 1308 (by decide +kernel) rfl, wm 1309 (by decide +kernel) rfl, wm 11 (by decide +kernel) rfl, wm 1310 rfl rfl, by decide +kernel⟩
set_option maxRecDepth 20000 in
theorem cw_L_43 : CwV RL 43 yX9_cut cX9_cut 2 (some .int) 1 := ⟨wm 589 (by decide +kernel) rfl, wm 590 (by decide +kernel) rfl, wm 591 (by decide +kernel) rfl, wm 1 (by decide +kernel) rfl, wm 592 rfl rfl, by decide +kernel⟩
set_option maxRecDepth 20000 in
theorem cw_L_46 : CwV RL 46 yX10_cut cX10_cut 3 (some .int) 1 := ⟨wm 1311 (by decide +kernel) rfl, wm 1312 (by decide +kernel) rfl, wm 1313 (by decide +kernel) rfl, wm 11 (by decide +kernel) rfl, wm 1314 rfl rfl, by decide +kernel⟩
set_option maxRecDepth 20000 in
theorem cw_L_47 : CwV RL 47 yX9_shift cX9_shift 3 (some .int) 2 := ⟨wm 597 (by decide +kernel) rfl, wm 598 (by decide +kernel) rfl, wm 599 (by decide +kernel) rfl, wm 1 (by decide +kernel) rfl, wm 600 rfl rfl, by decide +kernel⟩
set_option maxRecDepth 20000 in
theorem cw_L_50 : CwV RL 50 yX10_shift cX10_shift 4 (some .int) 2 := ⟨wm 1315 (by decide +kernel) rfl, wm 1316 (by decide +kernel) rfl, wm 1317 (by decide +kernel) rfl, wm 11 (by decide +kernel) rfl, wm 1318 rfl rfl, by decide +kernel⟩
set_option maxRecDepth 20000 in
theorem cw_L_51 : CwV RL 51 yX9_keep cX9_keep 1 (some .int) 0 := ⟨wm 626 (by decide +kernel) rfl, wm 627 (by decide +kernel) rfl, wm 628 (by decide +kernel) rfl, wm 1 (by decide +kernel) rfl, wm 629 rfl rfl, by decide +kernel⟩
set_option maxRecDepth 20000 in
theorem cw_L_55 : CwV RL 55 yX10_keep cX10_keep 2 (some .int) 0 := ⟨wm 1337 (by decide +kernel) rfl, wm 1338 (by decide +kernel) rfl, wm 1339 (by decide +kernel) rfl, wm 11 (by decide +kernel) rfl, wm 1340 rfl rfl, by decide +kernel⟩
set_option maxRecDepth 20000 in
theorem cw_L_56 : CwV RL 56 yX9_byteAt cX9_byteAt 2 (some .int) 1 := ⟨wm 634 (by decide +kernel) rfl, wm 635 (by decide +kernel) rfl, wm 636 (by decide +kernel) rfl, wm 1 (by decide +kernel) rfl, wm 637 rfl rfl, by decide +kernel⟩
set_option maxRecDepth 20000 in
theorem cw_L_59 : CwV RL 59 yX10_byteAt cX10_byteAt 2 (some .int) 1 := ⟨wm 1341 (by decide +kernel) rfl, wm 1342 (by decide +kernel) rfl, wm 1343 (by decide +kernel) rfl, wm 11 (by decide +kernel) rfl, wm 1344 rfl rfl, by decide +kernel⟩
set_option maxRecDepth 20000 in
theorem cw_L_60 : CwV RL 60 yX9_read cX9_read 1 (some .int) 0 := ⟨wm 639 (by decide +kernel) rfl, wm 640 (by decide +kernel) rfl, wm 641 (by decide +kernel) rfl, wm 1 (by decide +kernel) rfl, wm 642 rfl rfl, by decide +kernel⟩
set_option maxRecDepth 20000 in
theorem cw_L_63 : CwV RL 63 yX10_read cX10_read 2 (some .int) 0 := ⟨wm 1345 (by decide +kernel) rfl, wm 1346 (by decide +kernel) rfl, wm 1347 (by decide +kernel) rfl, wm 11 (by decide +kernel) rfl, wm 1348 rfl rfl, by decide +kernel⟩
set_option maxRecDepth 20000 in
theorem cw_L_64 : CwV RL 64 yX9_fault cX9_fault 2 (some .int) 1 := ⟨wm 798 (by decide +kernel) rfl, wm 799 (by decide +kernel) rfl, wm 800 (by decide +kernel) rfl, wm 1 (by decide +kernel) rfl, wm 801 rfl rfl, by decide +kernel⟩
set_option maxRecDepth 20000 in
theorem cw_L_67 : CwV RL 67 yX10_fault cX10_fault 2 (some .int) 1 := ⟨wm 1444 (by decide +kernel) rfl, wm 1445 (by decide +kernel) rfl, wm 1446 (by decide +kernel) rfl, wm 11 (by decide +kernel) rfl, wm 1447 rfl rfl, by decide +kernel⟩
set_option maxRecDepth 20000 in
theorem cw_L_68 : CwV RL 68 yX9_count cX9_count 2 (some .int) 1 := ⟨wm 802 (by decide +kernel) rfl, wm 803 (by decide +kernel) rfl, wm 804 (by decide +kernel) rfl, wm 1 (by decide +kernel) rfl, wm 805 rfl rfl, by decide +kernel⟩
set_option maxRecDepth 20000 in
theorem cw_L_71 : CwV RL 71 yX10_count cX10_count 2 (some .int) 1 := ⟨wm 1448 (by decide +kernel) rfl, wm 1449 (by decide +kernel) rfl, wm 1450 (by decide +kernel) rfl, wm 11 (by decide +kernel) rfl, wm 1451 rfl rfl, by decide +kernel⟩
set_option maxRecDepth 20000 in
theorem cw_L_72 : CwV RL 72 yX9_token cX9_token 3 (some .int) 2 := ⟨wm 811 (by decide +kernel) rfl, wm 812 (by decide +kernel) rfl, wm 813 (by decide +kernel) rfl, wm 1 (by decide +kernel) rfl, wm 814 rfl rfl, by decide +kernel⟩
set_option maxRecDepth 20000 in
theorem cw_L_75 : CwV RL 75 yX10_token cX10_token 3 (some .int) 2 := ⟨wm 1453 (by decide +kernel) rfl, wm 1454 (by decide +kernel) rfl, wm 1455 (by decide +kernel) rfl, wm 11 (by decide +kernel) rfl, wm 1456 rfl rfl, by decide +kernel⟩
set_option maxRecDepth 20000 in
theorem cw_L_76 : CwV RL 76 yX9_block cX9_block 4 (some .int) 2 := ⟨wm 819 (by decide +kernel) rfl, wm 820 (by decide +kernel) rfl, wm 821 (by decide +kernel) rfl, wm 1 (by decide +kernel) rfl, wm 822 rfl rfl, by decide +kernel⟩
set_option maxRecDepth 20000 in
theorem cw_L_79 : CwV RL 79 yX10_block cX10_block 3 (some .int) 2 := ⟨wm 1457 (by decide +kernel) rfl, wm 1458 (by decide +kernel) rfl, wm 1459 (by decide +kernel) rfl, wm 11 (by decide +kernel) rfl, wm 1460 rfl rfl, by decide +kernel⟩
set_option maxRecDepth 20000 in
theorem cw_L_80 : CwV RL 80 yX9_item cX9_item 4 (some .int) 2 := ⟨wm 824 (by decide +kernel) rfl, wm 825 (by decide +kernel) rfl, wm 826 (by decide +kernel) rfl, wm 1 (by decide +kernel) rfl, wm 827 rfl rfl, by decide +kernel⟩
set_option maxRecDepth 20000 in
theorem cw_L_83 : CwV RL 83 yX10_item cX10_item 3 (some .int) 2 := ⟨wm 1473 (by decide +kernel) rfl, wm 1474 (by decide +kernel) rfl, wm 1475 (by decide +kernel) rfl, wm 11 (by decide +kernel) rfl, wm 1476 rfl rfl, by decide +kernel⟩
set_option maxRecDepth 20000 in
theorem cw_L_84 : CwV RL 84 yX9_part cX9_part 4 (some .int) 2 := ⟨wm 829 (by decide +kernel) rfl, wm 830 (by decide +kernel) rfl, wm 831 (by decide +kernel) rfl, wm 1 (by decide +kernel) rfl, wm 832 rfl rfl, by decide +kernel⟩
set_option maxRecDepth 20000 in
theorem cw_L_87 : CwV RL 87 yX10_part cX10_part 5 (some .int) 2 := ⟨wm 1485 (by decide +kernel) rfl, wm 1486 (by decide +kernel) rfl, wm 1487 (by decide +kernel) rfl, wm 11 (by decide +kernel) rfl, wm 1488 rfl rfl, by decide +kernel⟩
set_option maxRecDepth 20000 in
theorem cw_L_88 : CwV RL 88 yX9_itemAs cX9_itemAs 5 (some .int) 3 := ⟨wm 837 (by decide +kernel) rfl, wm 838 (by decide +kernel) rfl, wm 839 (by decide +kernel) rfl, wm 1 (by decide +kernel) rfl, wm 840 rfl rfl, by decide +kernel⟩
set_option maxRecDepth 20000 in
theorem cw_L_92 : CwV RL 92 yX10_itemAs cX10_itemAs 9 (some .int) 3 := ⟨wm 1489 (by decide +kernel) rfl, wm 1490 (by decide +kernel) rfl, wm 1491 (by decide +kernel) rfl, wm 11 (by decide +kernel) rfl, wm 1492 rfl rfl, by decide +kernel⟩
set_option maxRecDepth 20000 in
theorem cw_L_93 : CwV RL 93 yX9_reach cX9_reach 6 (some .int) 3 := ⟨wm 849 (by decide +kernel) rfl, wm 850 (by decide +kernel) rfl, wm 851 (by decide +kernel) rfl, wm 1 (by decide +kernel) rfl, wm 852 rfl rfl, by decide +kernel⟩
set_option maxRecDepth 20000 in
theorem cw_L_97 : CwV RL 97 yX10_reach cX10_reach 6 (some .int) 3 := ⟨wm 1494 (by decide +kernel) rfl, wm 1495 (by decide +kernel) rfl, wm 1496 (by decide +kernel) rfl, wm 11 (by decide +kernel) rfl, wm 1497 rfl rfl, by decide +kernel⟩
set_option maxRecDepth 20000 in
theorem cw_L_98 : CwV RL 98 yX9_around cX9_around 5 (some .int) 2 := ⟨wm 863 (by decide +kernel) rfl, wm 864 (by decide +kernel) rfl, wm 865 (by decide +kernel) rfl, wm 1 (by decide +kernel) rfl, wm 866 rfl rfl, by decide +kernel⟩
set_option maxRecDepth 20000 in
theorem cw_L_101 : CwV RL 101 yX10_around cX10_around 3 (some .int) 2 := ⟨wm 1498 (by decide +kernel) rfl, wm 1499 (by decide +kernel) rfl, wm 1500 (by decide +kernel) rfl, wm 11 (by decide +kernel) rfl, wm 1501 rfl rfl, by decide +kernel⟩
set_option maxRecDepth 20000 in
theorem cw_L_102 : CwV RL 102 yX9_plain cX9_plain 1 (some .int) 0 := ⟨wm 871 (by decide +kernel) rfl, wm 872 (by decide +kernel) rfl, wm 873 (by decide +kernel) rfl, wm 1 (by decide +kernel) rfl, wm 874 rfl rfl, by decide +kernel⟩
set_option maxRecDepth 20000 in
theorem cw_L_105 : CwV RL 105 yX10_plain cX10_plain 5 (some .int) 0 := ⟨wm 1502 (by decide +kernel) rfl, wm 1503 (by decide +kernel) rfl, wm 1504 (by decide +kernel) rfl, wm 11 (by decide +kernel) rfl, wm 1505 rfl rfl, by decide +kernel⟩
set_option maxRecDepth 20000 in
theorem cw_L_106 : CwV RL 106 yX9_write cX9_write 2 (some .int) 1 := ⟨wm 912 (by decide +kernel) rfl, wm 913 (by decide +kernel) rfl, wm 914 (by decide +kernel) rfl, wm 1 (by decide +kernel) rfl, wm 915 rfl rfl, by decide +kernel⟩
set_option maxRecDepth 20000 in
theorem cw_L_109 : CwV RL 109 yX10_write cX10_write 5 (some .int) 1 := ⟨wm 1534 (by decide +kernel) rfl, wm 1535 (by decide +kernel) rfl, wm 1536 (by decide +kernel) rfl, wm 11 (by decide +kernel) rfl, wm 1537 rfl rfl, by decide +kernel⟩
set_option maxRecDepth 20000 in
theorem cw_L_110 : CwV RL 110 yX9_written cX9_written 2 (some .int) 1 := ⟨wm 944 (by decide +kernel) rfl, wm 945 (by decide +kernel) rfl, wm 946 (by decide +kernel) rfl, wm 1 (by decide +kernel) rfl, wm 947 rfl rfl, by decide +kernel⟩
set_option maxRecDepth 20000 in
theorem cw_L_113 : CwV RL 113 yX10_written cX10_written 2 (some .int) 1 := ⟨wm 1554 (by decide +kernel) rfl, wm 1555 (by decide +kernel) rfl, wm 1556 (by decide +kernel) rfl, wm 11 (by decide +kernel) rfl, wm 1557 rfl rfl, by decide +kernel⟩
set_option maxRecDepth 20000 in
theorem cw_L_114 : CwV RL 114 yX9_same cX9_same 1 (some .int) 0 := ⟨wm 952 (by decide +kernel) rfl, wm 953 (by decide +kernel) rfl, wm 954 (by decide +kernel) rfl, wm 1 (by decide +kernel) rfl, wm 955 rfl rfl, by decide +kernel⟩
set_option maxRecDepth 20000 in
theorem cw_L_117 : CwV RL 117 yX10_same cX10_same 3 (some .int) 0 := ⟨wm 1558 (by decide +kernel) rfl, wm 1559 (by decide +kernel) rfl, wm 1560 (by decide +kernel) rfl, wm 11 (by decide +kernel) rfl, wm 1561 rfl rfl, by decide +kernel⟩
set_option maxRecDepth 20000 in
theorem cw_L_118 : CwV RL 118 yX9_parts cX9_parts 3 (some .int) 0 := ⟨wm 968 (by decide +kernel) rfl, wm 969 (by decide +kernel) rfl, wm 970 (by decide +kernel) rfl, wm 1 (by decide +kernel) rfl, wm 971 rfl rfl, by decide +kernel⟩
set_option maxRecDepth 20000 in
theorem cw_L_121 : CwV RL 121 yX10_parts cX10_parts 1 (some .int) 0 := ⟨wm 1574 (by decide +kernel) rfl, wm 1575 (by decide +kernel) rfl, wm 1576 (by decide +kernel) rfl, wm 11 (by decide +kernel) rfl, wm 1577 rfl rfl, by decide +kernel⟩
set_option maxRecDepth 20000 in
theorem cw_L_122 : CwV RL 122 yX9_mend cX9_mend 1 (some .int) 0 := ⟨wm 973 (by decide +kernel) rfl, wm 974 (by decide +kernel) rfl, wm 975 (by decide +kernel) rfl, wm 1 (by decide +kernel) rfl, wm 976 rfl rfl, by decide +kernel⟩
set_option maxRecDepth 20000 in
theorem cw_L_125 : CwV RL 125 yX10_mend cX10_mend 5 (some .int) 0 := ⟨wm 1578 (by decide +kernel) rfl, wm 1579 (by decide +kernel) rfl, wm 1580 (by decide +kernel) rfl, wm 11 (by decide +kernel) rfl, wm 1581 rfl rfl, by decide +kernel⟩
set_option maxRecDepth 20000 in
theorem cw_L_126 : CwV RL 126 yX9_mended cX9_mended 2 (some .int) 1 := ⟨wm 994 (by decide +kernel) rfl, wm 995 (by decide +kernel) rfl, wm 996 (by decide +kernel) rfl, wm 1 (by decide +kernel) rfl, wm 997 rfl rfl, by decide +kernel⟩
set_option maxRecDepth 20000 in
theorem cw_L_129 : CwV RL 129 yX10_mended cX10_mended 2 (some .int) 1 := ⟨wm 1586 (by decide +kernel) rfl, wm 1587 (by decide +kernel) rfl, wm 1588 (by decide +kernel) rfl, wm 11 (by decide +kernel) rfl, wm 1589 rfl rfl, by decide +kernel⟩
set_option maxRecDepth 20000 in
theorem cw_L_130 : CwV RL 130 yX9_marks cX9_marks 2 (some .int) 1 := ⟨wm 998 (by decide +kernel) rfl, wm 999 (by decide +kernel) rfl, wm 1000 (by decide +kernel) rfl, wm 1 (by decide +kernel) rfl, wm 1001 rfl rfl, by decide +kernel⟩
set_option maxRecDepth 20000 in
theorem cw_L_133 : CwV RL 133 yX10_marks cX10_marks 3 (some .int) 1 := ⟨wm 1590 (by decide +kernel) rfl, wm 1591 (by decide +kernel) rfl, wm 1592 (by decide +kernel) rfl, wm 11 (by decide +kernel) rfl, wm 1593 rfl rfl, by decide +kernel⟩
set_option maxRecDepth 20000 in
theorem cw_L_134 : CwV RL 134 yX9_deepen cX9_deepen 3 (some .int) 0 := ⟨wm 1005 (by decide +kernel) rfl, wm 1006 (by decide +kernel) rfl, wm 1007 (by decide +kernel) rfl, wm 1 (by decide +kernel) rfl, wm 1008 rfl rfl, by decide +kernel⟩
set_option maxRecDepth 20000 in
theorem cw_L_137 : CwV RL 137 yX10_deepen cX10_deepen 2 (some .int) 0 := ⟨wm 1594 (by decide +kernel) rfl, wm 1595 (by decide +kernel) rfl, wm 1596 (by decide +kernel) rfl, wm 11 (by decide +kernel) rfl, wm 1597 rfl rfl, by decide +kernel⟩
set_option maxRecDepth 20000 in
theorem cw_L_138 : CwV RL 138 yX9_markAt cX9_markAt 2 (some .int) 1 := ⟨wm 1014 (by decide +kernel) rfl, wm 1015 (by decide +kernel) rfl, wm 1016 (by decide +kernel) rfl, wm 1 (by decide +kernel) rfl, wm 1017 rfl rfl, by decide +kernel⟩
set_option maxRecDepth 20000 in
theorem cw_L_141 : CwV RL 141 yX10_markAt cX10_markAt 2 (some .int) 1 := ⟨wm 1598 (by decide +kernel) rfl, wm 1599 (by decide +kernel) rfl, wm 1600 (by decide +kernel) rfl, wm 11 (by decide +kernel) rfl, wm 1601 rfl rfl, by decide +kernel⟩
theorem dL_law_168 : decode cL_law 168 = .ok (.aload_n 1, 1) := by decide +kernel
theorem dL_law_169 : decode cL_law 169 = .ok (.aload_n 0, 1) := by decide +kernel
theorem dL_law_170 : decode cL_law 170 = .ok (.iload_n 3, 1) := by decide +kernel
theorem dL_law_171 : decode cL_law 171 = .ok (.iconst 1, 1) := by decide +kernel
theorem dL_law_172 : decode cL_law 172 = .ok (.iadd, 1) := by decide +kernel
theorem dL_law_173 : decode cL_law 173 = .ok (.iaload, 1) := by decide +kernel
theorem dL_law_174 : decode cL_law 174 = .ok (.i2l, 1) := by decide +kernel
theorem dL_law_175 : decode cL_law 175 = .ok (.bipush 32, 2) := by decide +kernel
theorem dL_law_177 : decode cL_law 177 = .ok (.lshl, 1) := by decide +kernel
theorem dL_law_178 : decode cL_law 178 = .ok (.aload_n 0, 1) := by decide +kernel
theorem dL_law_179 : decode cL_law 179 = .ok (.iload_n 3, 1) := by decide +kernel
theorem dL_law_180 : decode cL_law 180 = .ok (.iconst 2, 1) := by decide +kernel
theorem dL_law_181 : decode cL_law 181 = .ok (.iadd, 1) := by decide +kernel
theorem dL_law_182 : decode cL_law 182 = .ok (.iaload, 1) := by decide +kernel
theorem dL_law_183 : decode cL_law 183 = .ok (.i2l, 1) := by decide +kernel
theorem dL_law_184 : decode cL_law 184 = .ok (.ldc2_w 13, 3) := by decide +kernel
theorem dL_law_187 : decode cL_law 187 = .ok (.land, 1) := by decide +kernel
theorem dL_law_188 : decode cL_law 188 = .ok (.lor, 1) := by decide +kernel
theorem dL_law_189 : decode cL_law 189 = .ok (.aload_n 0, 1) := by decide +kernel
theorem dL_law_190 : decode cL_law 190 = .ok (.iload_n 3, 1) := by decide +kernel
theorem dL_law_191 : decode cL_law 191 = .ok (.iconst 3, 1) := by decide +kernel
theorem dL_law_192 : decode cL_law 192 = .ok (.iadd, 1) := by decide +kernel
theorem dL_law_193 : decode cL_law 193 = .ok (.iaload, 1) := by decide +kernel
theorem dL_law_194 : decode cL_law 194 = .ok (.invokevirtual 15, 3) := by decide +kernel
theorem dL_law_197 : decode cL_law 197 = .ok (.pop, 1) := by decide +kernel
theorem dL_law_198 : decode cL_law 198 = .ok (.aload_n 2, 1) := by decide +kernel
theorem dL_law_199 : decode cL_law 199 = .ok (.aload_n 0, 1) := by decide +kernel
theorem dL_law_200 : decode cL_law 200 = .ok (.iload_n 3, 1) := by decide +kernel
theorem dL_law_201 : decode cL_law 201 = .ok (.iconst 1, 1) := by decide +kernel
theorem dL_law_202 : decode cL_law 202 = .ok (.iadd, 1) := by decide +kernel
theorem dL_law_203 : decode cL_law 203 = .ok (.iaload, 1) := by decide +kernel
theorem dL_law_204 : decode cL_law 204 = .ok (.i2l, 1) := by decide +kernel
theorem dL_law_205 : decode cL_law 205 = .ok (.bipush 32, 2) := by decide +kernel
theorem dL_law_207 : decode cL_law 207 = .ok (.lshl, 1) := by decide +kernel
theorem dL_law_208 : decode cL_law 208 = .ok (.aload_n 0, 1) := by decide +kernel
theorem dL_law_209 : decode cL_law 209 = .ok (.iload_n 3, 1) := by decide +kernel
theorem dL_law_210 : decode cL_law 210 = .ok (.iconst 2, 1) := by decide +kernel
theorem dL_law_211 : decode cL_law 211 = .ok (.iadd, 1) := by decide +kernel
theorem dL_law_212 : decode cL_law 212 = .ok (.iaload, 1) := by decide +kernel
theorem dL_law_213 : decode cL_law 213 = .ok (.i2l, 1) := by decide +kernel
theorem dL_law_214 : decode cL_law 214 = .ok (.ldc2_w 13, 3) := by decide +kernel
theorem dL_law_217 : decode cL_law 217 = .ok (.land, 1) := by decide +kernel
theorem dL_law_218 : decode cL_law 218 = .ok (.lor, 1) := by decide +kernel
theorem dL_law_219 : decode cL_law 219 = .ok (.aload_n 0, 1) := by decide +kernel
theorem dL_law_220 : decode cL_law 220 = .ok (.iload_n 3, 1) := by decide +kernel
theorem dL_law_221 : decode cL_law 221 = .ok (.iconst 3, 1) := by decide +kernel
theorem dL_law_222 : decode cL_law 222 = .ok (.iadd, 1) := by decide +kernel
theorem dL_law_223 : decode cL_law 223 = .ok (.iaload, 1) := by decide +kernel
theorem dL_law_224 : decode cL_law 224 = .ok (.invokevirtual 19, 3) := by decide +kernel
theorem dL_law_227 : decode cL_law 227 = .ok (.pop, 1) := by decide +kernel
theorem dL_law_228 : decode cL_law 228 = .ok (.goto 786, 3) := by decide +kernel
theorem dL_law_231 : decode cL_law 231 = .ok (.aload_n 1, 1) := by decide +kernel
theorem dL_law_232 : decode cL_law 232 = .ok (.aload_n 0, 1) := by decide +kernel
theorem dL_law_233 : decode cL_law 233 = .ok (.iload_n 3, 1) := by decide +kernel
theorem dL_law_234 : decode cL_law 234 = .ok (.iconst 1, 1) := by decide +kernel
theorem dL_law_235 : decode cL_law 235 = .ok (.iadd, 1) := by decide +kernel
theorem dL_law_236 : decode cL_law 236 = .ok (.iaload, 1) := by decide +kernel
theorem dL_law_237 : decode cL_law 237 = .ok (.aload_n 0, 1) := by decide +kernel
theorem dL_law_238 : decode cL_law 238 = .ok (.iload_n 3, 1) := by decide +kernel
theorem dL_law_239 : decode cL_law 239 = .ok (.iconst 2, 1) := by decide +kernel
theorem dL_law_240 : decode cL_law 240 = .ok (.iadd, 1) := by decide +kernel
theorem dL_law_241 : decode cL_law 241 = .ok (.iaload, 1) := by decide +kernel
theorem dL_law_242 : decode cL_law 242 = .ok (.invokevirtual 20, 3) := by decide +kernel
theorem dL_law_245 : decode cL_law 245 = .ok (.pop, 1) := by decide +kernel
theorem dL_law_246 : decode cL_law 246 = .ok (.aload_n 2, 1) := by decide +kernel
theorem dL_law_247 : decode cL_law 247 = .ok (.aload_n 0, 1) := by decide +kernel
theorem dL_law_248 : decode cL_law 248 = .ok (.iload_n 3, 1) := by decide +kernel
theorem dL_law_249 : decode cL_law 249 = .ok (.iconst 1, 1) := by decide +kernel
theorem dL_law_250 : decode cL_law 250 = .ok (.iadd, 1) := by decide +kernel
theorem dL_law_251 : decode cL_law 251 = .ok (.iaload, 1) := by decide +kernel
theorem dL_law_252 : decode cL_law 252 = .ok (.aload_n 0, 1) := by decide +kernel
theorem dL_law_253 : decode cL_law 253 = .ok (.iload_n 3, 1) := by decide +kernel
theorem dL_law_254 : decode cL_law 254 = .ok (.iconst 2, 1) := by decide +kernel
theorem dL_law_255 : decode cL_law 255 = .ok (.iadd, 1) := by decide +kernel
theorem dL_law_256 : decode cL_law 256 = .ok (.iaload, 1) := by decide +kernel
theorem dL_law_257 : decode cL_law 257 = .ok (.invokevirtual 24, 3) := by decide +kernel
theorem dL_law_260 : decode cL_law 260 = .ok (.pop, 1) := by decide +kernel
theorem dL_law_261 : decode cL_law 261 = .ok (.goto 753, 3) := by decide +kernel
theorem dL_law_264 : decode cL_law 264 = .ok (.aload_n 1, 1) := by decide +kernel
theorem dL_law_265 : decode cL_law 265 = .ok (.aload_n 0, 1) := by decide +kernel
theorem dL_law_266 : decode cL_law 266 = .ok (.iload_n 3, 1) := by decide +kernel
theorem dL_law_267 : decode cL_law 267 = .ok (.iconst 1, 1) := by decide +kernel
theorem dL_law_268 : decode cL_law 268 = .ok (.iadd, 1) := by decide +kernel
theorem dL_law_269 : decode cL_law 269 = .ok (.iaload, 1) := by decide +kernel
theorem dL_law_270 : decode cL_law 270 = .ok (.i2l, 1) := by decide +kernel
theorem dL_law_271 : decode cL_law 271 = .ok (.bipush 32, 2) := by decide +kernel
theorem dL_law_273 : decode cL_law 273 = .ok (.lshl, 1) := by decide +kernel
theorem dL_law_274 : decode cL_law 274 = .ok (.aload_n 0, 1) := by decide +kernel
theorem dL_law_275 : decode cL_law 275 = .ok (.iload_n 3, 1) := by decide +kernel
theorem dL_law_276 : decode cL_law 276 = .ok (.iconst 2, 1) := by decide +kernel
theorem dL_law_277 : decode cL_law 277 = .ok (.iadd, 1) := by decide +kernel
theorem dL_law_278 : decode cL_law 278 = .ok (.iaload, 1) := by decide +kernel
theorem dL_law_279 : decode cL_law 279 = .ok (.i2l, 1) := by decide +kernel
theorem dL_law_280 : decode cL_law 280 = .ok (.ldc2_w 13, 3) := by decide +kernel
theorem dL_law_283 : decode cL_law 283 = .ok (.land, 1) := by decide +kernel
theorem dL_law_284 : decode cL_law 284 = .ok (.lor, 1) := by decide +kernel
theorem dL_law_285 : decode cL_law 285 = .ok (.invokevirtual 25, 3) := by decide +kernel
theorem dL_law_288 : decode cL_law 288 = .ok (.pop, 1) := by decide +kernel
theorem dL_law_289 : decode cL_law 289 = .ok (.aload_n 2, 1) := by decide +kernel
theorem dL_law_290 : decode cL_law 290 = .ok (.aload_n 0, 1) := by decide +kernel
theorem dL_law_291 : decode cL_law 291 = .ok (.iload_n 3, 1) := by decide +kernel
theorem dL_law_292 : decode cL_law 292 = .ok (.iconst 1, 1) := by decide +kernel
theorem dL_law_293 : decode cL_law 293 = .ok (.iadd, 1) := by decide +kernel
theorem dL_law_294 : decode cL_law 294 = .ok (.iaload, 1) := by decide +kernel
theorem dL_law_295 : decode cL_law 295 = .ok (.i2l, 1) := by decide +kernel
theorem dL_law_296 : decode cL_law 296 = .ok (.bipush 32, 2) := by decide +kernel
theorem dL_law_298 : decode cL_law 298 = .ok (.lshl, 1) := by decide +kernel
theorem dL_law_299 : decode cL_law 299 = .ok (.aload_n 0, 1) := by decide +kernel
theorem dL_law_300 : decode cL_law 300 = .ok (.iload_n 3, 1) := by decide +kernel
theorem dL_law_301 : decode cL_law 301 = .ok (.iconst 2, 1) := by decide +kernel
theorem dL_law_302 : decode cL_law 302 = .ok (.iadd, 1) := by decide +kernel
theorem dL_law_303 : decode cL_law 303 = .ok (.iaload, 1) := by decide +kernel
theorem dL_law_304 : decode cL_law 304 = .ok (.i2l, 1) := by decide +kernel
theorem dL_law_305 : decode cL_law 305 = .ok (.ldc2_w 13, 3) := by decide +kernel
theorem dL_law_308 : decode cL_law 308 = .ok (.land, 1) := by decide +kernel
theorem dL_law_309 : decode cL_law 309 = .ok (.lor, 1) := by decide +kernel
theorem dL_law_310 : decode cL_law 310 = .ok (.invokevirtual 29, 3) := by decide +kernel
theorem dL_law_313 : decode cL_law 313 = .ok (.pop, 1) := by decide +kernel
theorem dL_law_314 : decode cL_law 314 = .ok (.goto 700, 3) := by decide +kernel
theorem dL_law_317 : decode cL_law 317 = .ok (.aload_n 1, 1) := by decide +kernel
theorem dL_law_318 : decode cL_law 318 = .ok (.aload_n 0, 1) := by decide +kernel
theorem dL_law_319 : decode cL_law 319 = .ok (.iload_n 3, 1) := by decide +kernel
theorem dL_law_320 : decode cL_law 320 = .ok (.iconst 1, 1) := by decide +kernel
theorem dL_law_321 : decode cL_law 321 = .ok (.iadd, 1) := by decide +kernel
theorem dL_law_322 : decode cL_law 322 = .ok (.iaload, 1) := by decide +kernel
theorem dL_law_323 : decode cL_law 323 = .ok (.invokevirtual 30, 3) := by decide +kernel
theorem dL_law_326 : decode cL_law 326 = .ok (.pop, 1) := by decide +kernel
theorem dL_law_327 : decode cL_law 327 = .ok (.aload_n 2, 1) := by decide +kernel
theorem dL_law_328 : decode cL_law 328 = .ok (.aload_n 0, 1) := by decide +kernel
theorem dL_law_329 : decode cL_law 329 = .ok (.iload_n 3, 1) := by decide +kernel
theorem dL_law_330 : decode cL_law 330 = .ok (.iconst 1, 1) := by decide +kernel
theorem dL_law_331 : decode cL_law 331 = .ok (.iadd, 1) := by decide +kernel
theorem dL_law_332 : decode cL_law 332 = .ok (.iaload, 1) := by decide +kernel
theorem dL_law_333 : decode cL_law 333 = .ok (.invokevirtual 34, 3) := by decide +kernel
theorem dL_law_336 : decode cL_law 336 = .ok (.pop, 1) := by decide +kernel
theorem dL_law_337 : decode cL_law 337 = .ok (.goto 677, 3) := by decide +kernel
theorem dL_law_340 : decode cL_law 340 = .ok (.aload_n 1, 1) := by decide +kernel
theorem dL_law_341 : decode cL_law 341 = .ok (.aload_n 0, 1) := by decide +kernel
theorem dL_law_342 : decode cL_law 342 = .ok (.iload_n 3, 1) := by decide +kernel
theorem dL_law_343 : decode cL_law 343 = .ok (.iconst 1, 1) := by decide +kernel
theorem dL_law_344 : decode cL_law 344 = .ok (.iadd, 1) := by decide +kernel
theorem dL_law_345 : decode cL_law 345 = .ok (.iaload, 1) := by decide +kernel
theorem dL_law_346 : decode cL_law 346 = .ok (.invokevirtual 35, 3) := by decide +kernel
theorem dL_law_349 : decode cL_law 349 = .ok (.pop, 1) := by decide +kernel
theorem dL_law_350 : decode cL_law 350 = .ok (.aload_n 2, 1) := by decide +kernel
theorem dL_law_351 : decode cL_law 351 = .ok (.aload_n 0, 1) := by decide +kernel
theorem dL_law_352 : decode cL_law 352 = .ok (.iload_n 3, 1) := by decide +kernel
theorem dL_law_353 : decode cL_law 353 = .ok (.iconst 1, 1) := by decide +kernel
theorem dL_law_354 : decode cL_law 354 = .ok (.iadd, 1) := by decide +kernel
theorem dL_law_355 : decode cL_law 355 = .ok (.iaload, 1) := by decide +kernel
theorem dL_law_356 : decode cL_law 356 = .ok (.invokevirtual 38, 3) := by decide +kernel
theorem dL_law_359 : decode cL_law 359 = .ok (.pop, 1) := by decide +kernel
theorem dL_law_360 : decode cL_law 360 = .ok (.goto 654, 3) := by decide +kernel
theorem dL_law_363 : decode cL_law 363 = .ok (.aload_n 1, 1) := by decide +kernel
theorem dL_law_364 : decode cL_law 364 = .ok (.aload_n 0, 1) := by decide +kernel
theorem dL_law_365 : decode cL_law 365 = .ok (.iload_n 3, 1) := by decide +kernel
theorem dL_law_366 : decode cL_law 366 = .ok (.iconst 1, 1) := by decide +kernel
theorem dL_law_367 : decode cL_law 367 = .ok (.iadd, 1) := by decide +kernel
theorem dL_law_368 : decode cL_law 368 = .ok (.iaload, 1) := by decide +kernel
theorem dL_law_369 : decode cL_law 369 = .ok (.i2l, 1) := by decide +kernel
theorem dL_law_370 : decode cL_law 370 = .ok (.bipush 32, 2) := by decide +kernel
theorem dL_law_372 : decode cL_law 372 = .ok (.lshl, 1) := by decide +kernel
theorem dL_law_373 : decode cL_law 373 = .ok (.aload_n 0, 1) := by decide +kernel
theorem dL_law_374 : decode cL_law 374 = .ok (.iload_n 3, 1) := by decide +kernel
theorem dL_law_375 : decode cL_law 375 = .ok (.iconst 2, 1) := by decide +kernel
theorem dL_law_376 : decode cL_law 376 = .ok (.iadd, 1) := by decide +kernel
theorem dL_law_377 : decode cL_law 377 = .ok (.iaload, 1) := by decide +kernel
theorem dL_law_378 : decode cL_law 378 = .ok (.i2l, 1) := by decide +kernel
theorem dL_law_379 : decode cL_law 379 = .ok (.ldc2_w 13, 3) := by decide +kernel
theorem dL_law_382 : decode cL_law 382 = .ok (.land, 1) := by decide +kernel
theorem dL_law_383 : decode cL_law 383 = .ok (.lor, 1) := by decide +kernel
theorem dL_law_384 : decode cL_law 384 = .ok (.invokevirtual 39, 3) := by decide +kernel
theorem dL_law_387 : decode cL_law 387 = .ok (.pop, 1) := by decide +kernel
theorem dL_law_388 : decode cL_law 388 = .ok (.aload_n 2, 1) := by decide +kernel
theorem dL_law_389 : decode cL_law 389 = .ok (.aload_n 0, 1) := by decide +kernel
theorem dL_law_390 : decode cL_law 390 = .ok (.iload_n 3, 1) := by decide +kernel
theorem dL_law_391 : decode cL_law 391 = .ok (.iconst 1, 1) := by decide +kernel
theorem dL_law_392 : decode cL_law 392 = .ok (.iadd, 1) := by decide +kernel
theorem dL_law_393 : decode cL_law 393 = .ok (.iaload, 1) := by decide +kernel
theorem dL_law_394 : decode cL_law 394 = .ok (.i2l, 1) := by decide +kernel
theorem dL_law_395 : decode cL_law 395 = .ok (.bipush 32, 2) := by decide +kernel
theorem dL_law_397 : decode cL_law 397 = .ok (.lshl, 1) := by decide +kernel
theorem dL_law_398 : decode cL_law 398 = .ok (.aload_n 0, 1) := by decide +kernel
theorem dL_law_399 : decode cL_law 399 = .ok (.iload_n 3, 1) := by decide +kernel
theorem dL_law_400 : decode cL_law 400 = .ok (.iconst 2, 1) := by decide +kernel
theorem dL_law_401 : decode cL_law 401 = .ok (.iadd, 1) := by decide +kernel
theorem dL_law_402 : decode cL_law 402 = .ok (.iaload, 1) := by decide +kernel
theorem dL_law_403 : decode cL_law 403 = .ok (.i2l, 1) := by decide +kernel
theorem dL_law_404 : decode cL_law 404 = .ok (.ldc2_w 13, 3) := by decide +kernel
theorem dL_law_407 : decode cL_law 407 = .ok (.land, 1) := by decide +kernel
theorem dL_law_408 : decode cL_law 408 = .ok (.lor, 1) := by decide +kernel
theorem dL_law_409 : decode cL_law 409 = .ok (.invokevirtual 42, 3) := by decide +kernel
theorem dL_law_412 : decode cL_law 412 = .ok (.pop, 1) := by decide +kernel
theorem dL_law_413 : decode cL_law 413 = .ok (.goto 601, 3) := by decide +kernel
theorem dL_law_416 : decode cL_law 416 = .ok (.aload_n 1, 1) := by decide +kernel
theorem dL_law_417 : decode cL_law 417 = .ok (.aload_n 0, 1) := by decide +kernel
theorem dL_law_418 : decode cL_law 418 = .ok (.iload_n 3, 1) := by decide +kernel
theorem dL_law_419 : decode cL_law 419 = .ok (.iconst 1, 1) := by decide +kernel
theorem dL_law_420 : decode cL_law 420 = .ok (.iadd, 1) := by decide +kernel
theorem dL_law_421 : decode cL_law 421 = .ok (.iaload, 1) := by decide +kernel
theorem dL_law_422 : decode cL_law 422 = .ok (.invokevirtual 43, 3) := by decide +kernel
theorem dL_law_425 : decode cL_law 425 = .ok (.pop, 1) := by decide +kernel
theorem dL_law_426 : decode cL_law 426 = .ok (.aload_n 2, 1) := by decide +kernel
theorem dL_law_427 : decode cL_law 427 = .ok (.aload_n 0, 1) := by decide +kernel
theorem dL_law_428 : decode cL_law 428 = .ok (.iload_n 3, 1) := by decide +kernel
theorem dL_law_429 : decode cL_law 429 = .ok (.iconst 1, 1) := by decide +kernel
theorem dL_law_430 : decode cL_law 430 = .ok (.iadd, 1) := by decide +kernel
theorem dL_law_431 : decode cL_law 431 = .ok (.iaload, 1) := by decide +kernel
theorem dL_law_432 : decode cL_law 432 = .ok (.invokevirtual 46, 3) := by decide +kernel
theorem dL_law_435 : decode cL_law 435 = .ok (.pop, 1) := by decide +kernel
theorem dL_law_436 : decode cL_law 436 = .ok (.goto 578, 3) := by decide +kernel
theorem dL_law_439 : decode cL_law 439 = .ok (.aload_n 1, 1) := by decide +kernel
theorem dL_law_440 : decode cL_law 440 = .ok (.aload_n 0, 1) := by decide +kernel
theorem dL_law_441 : decode cL_law 441 = .ok (.iload_n 3, 1) := by decide +kernel
theorem dL_law_442 : decode cL_law 442 = .ok (.iconst 1, 1) := by decide +kernel
theorem dL_law_443 : decode cL_law 443 = .ok (.iadd, 1) := by decide +kernel
theorem dL_law_444 : decode cL_law 444 = .ok (.iaload, 1) := by decide +kernel
theorem dL_law_445 : decode cL_law 445 = .ok (.aload_n 0, 1) := by decide +kernel
theorem dL_law_446 : decode cL_law 446 = .ok (.iload_n 3, 1) := by decide +kernel
theorem dL_law_447 : decode cL_law 447 = .ok (.iconst 2, 1) := by decide +kernel
theorem dL_law_448 : decode cL_law 448 = .ok (.iadd, 1) := by decide +kernel
theorem dL_law_449 : decode cL_law 449 = .ok (.iaload, 1) := by decide +kernel
theorem dL_law_450 : decode cL_law 450 = .ok (.invokevirtual 47, 3) := by decide +kernel
theorem dL_law_453 : decode cL_law 453 = .ok (.pop, 1) := by decide +kernel
theorem dL_law_454 : decode cL_law 454 = .ok (.aload_n 2, 1) := by decide +kernel
theorem dL_law_455 : decode cL_law 455 = .ok (.aload_n 0, 1) := by decide +kernel
theorem dL_law_456 : decode cL_law 456 = .ok (.iload_n 3, 1) := by decide +kernel
theorem dL_law_457 : decode cL_law 457 = .ok (.iconst 1, 1) := by decide +kernel
theorem dL_law_458 : decode cL_law 458 = .ok (.iadd, 1) := by decide +kernel
theorem dL_law_459 : decode cL_law 459 = .ok (.iaload, 1) := by decide +kernel
theorem dL_law_460 : decode cL_law 460 = .ok (.aload_n 0, 1) := by decide +kernel
theorem dL_law_461 : decode cL_law 461 = .ok (.iload_n 3, 1) := by decide +kernel
theorem dL_law_462 : decode cL_law 462 = .ok (.iconst 2, 1) := by decide +kernel
theorem dL_law_463 : decode cL_law 463 = .ok (.iadd, 1) := by decide +kernel
theorem dL_law_464 : decode cL_law 464 = .ok (.iaload, 1) := by decide +kernel
theorem dL_law_465 : decode cL_law 465 = .ok (.invokevirtual 50, 3) := by decide +kernel
theorem dL_law_468 : decode cL_law 468 = .ok (.pop, 1) := by decide +kernel
theorem dL_law_469 : decode cL_law 469 = .ok (.goto 545, 3) := by decide +kernel
theorem dL_law_472 : decode cL_law 472 = .ok (.aload_n 1, 1) := by decide +kernel
theorem dL_law_473 : decode cL_law 473 = .ok (.invokevirtual 51, 3) := by decide +kernel
theorem dL_law_476 : decode cL_law 476 = .ok (.pop, 1) := by decide +kernel
theorem dL_law_477 : decode cL_law 477 = .ok (.aload_n 2, 1) := by decide +kernel
theorem dL_law_478 : decode cL_law 478 = .ok (.invokevirtual 55, 3) := by decide +kernel
theorem dL_law_481 : decode cL_law 481 = .ok (.pop, 1) := by decide +kernel
theorem dL_law_482 : decode cL_law 482 = .ok (.goto 532, 3) := by decide +kernel
theorem dL_law_485 : decode cL_law 485 = .ok (.aload_n 1, 1) := by decide +kernel
theorem dL_law_486 : decode cL_law 486 = .ok (.aload_n 0, 1) := by decide +kernel
theorem dL_law_487 : decode cL_law 487 = .ok (.iload_n 3, 1) := by decide +kernel
theorem dL_law_488 : decode cL_law 488 = .ok (.iconst 1, 1) := by decide +kernel
theorem dL_law_489 : decode cL_law 489 = .ok (.iadd, 1) := by decide +kernel
theorem dL_law_490 : decode cL_law 490 = .ok (.iaload, 1) := by decide +kernel
theorem dL_law_491 : decode cL_law 491 = .ok (.invokevirtual 56, 3) := by decide +kernel
theorem dL_law_494 : decode cL_law 494 = .ok (.pop, 1) := by decide +kernel
theorem dL_law_495 : decode cL_law 495 = .ok (.aload_n 2, 1) := by decide +kernel
theorem dL_law_496 : decode cL_law 496 = .ok (.aload_n 0, 1) := by decide +kernel
theorem dL_law_497 : decode cL_law 497 = .ok (.iload_n 3, 1) := by decide +kernel
theorem dL_law_498 : decode cL_law 498 = .ok (.iconst 1, 1) := by decide +kernel
theorem dL_law_499 : decode cL_law 499 = .ok (.iadd, 1) := by decide +kernel
theorem dL_law_500 : decode cL_law 500 = .ok (.iaload, 1) := by decide +kernel
theorem dL_law_501 : decode cL_law 501 = .ok (.invokevirtual 59, 3) := by decide +kernel
theorem dL_law_504 : decode cL_law 504 = .ok (.pop, 1) := by decide +kernel
theorem dL_law_505 : decode cL_law 505 = .ok (.goto 509, 3) := by decide +kernel
theorem dL_law_508 : decode cL_law 508 = .ok (.aload_n 1, 1) := by decide +kernel
theorem dL_law_509 : decode cL_law 509 = .ok (.invokevirtual 60, 3) := by decide +kernel
theorem dL_law_512 : decode cL_law 512 = .ok (.pop, 1) := by decide +kernel
theorem dL_law_513 : decode cL_law 513 = .ok (.aload_n 2, 1) := by decide +kernel
theorem dL_law_514 : decode cL_law 514 = .ok (.invokevirtual 63, 3) := by decide +kernel
theorem dL_law_517 : decode cL_law 517 = .ok (.pop, 1) := by decide +kernel
theorem dL_law_518 : decode cL_law 518 = .ok (.goto 496, 3) := by decide +kernel
theorem dL_law_521 : decode cL_law 521 = .ok (.aload_n 1, 1) := by decide +kernel
theorem dL_law_522 : decode cL_law 522 = .ok (.aload_n 0, 1) := by decide +kernel
theorem dL_law_523 : decode cL_law 523 = .ok (.iload_n 3, 1) := by decide +kernel
theorem dL_law_524 : decode cL_law 524 = .ok (.iconst 1, 1) := by decide +kernel
theorem dL_law_525 : decode cL_law 525 = .ok (.iadd, 1) := by decide +kernel
theorem dL_law_526 : decode cL_law 526 = .ok (.iaload, 1) := by decide +kernel
theorem dL_law_527 : decode cL_law 527 = .ok (.invokevirtual 64, 3) := by decide +kernel
theorem dL_law_530 : decode cL_law 530 = .ok (.pop, 1) := by decide +kernel
theorem dL_law_531 : decode cL_law 531 = .ok (.aload_n 2, 1) := by decide +kernel
theorem dL_law_532 : decode cL_law 532 = .ok (.aload_n 0, 1) := by decide +kernel
theorem dL_law_533 : decode cL_law 533 = .ok (.iload_n 3, 1) := by decide +kernel
theorem dL_law_534 : decode cL_law 534 = .ok (.iconst 1, 1) := by decide +kernel
theorem dL_law_535 : decode cL_law 535 = .ok (.iadd, 1) := by decide +kernel
theorem dL_law_536 : decode cL_law 536 = .ok (.iaload, 1) := by decide +kernel
theorem dL_law_537 : decode cL_law 537 = .ok (.invokevirtual 67, 3) := by decide +kernel
theorem dL_law_540 : decode cL_law 540 = .ok (.pop, 1) := by decide +kernel
theorem dL_law_541 : decode cL_law 541 = .ok (.goto 473, 3) := by decide +kernel
theorem dL_law_544 : decode cL_law 544 = .ok (.aload_n 1, 1) := by decide +kernel
theorem dL_law_545 : decode cL_law 545 = .ok (.aload_n 0, 1) := by decide +kernel
theorem dL_law_546 : decode cL_law 546 = .ok (.iload_n 3, 1) := by decide +kernel
theorem dL_law_547 : decode cL_law 547 = .ok (.iconst 1, 1) := by decide +kernel
theorem dL_law_548 : decode cL_law 548 = .ok (.iadd, 1) := by decide +kernel
theorem dL_law_549 : decode cL_law 549 = .ok (.iaload, 1) := by decide +kernel
theorem dL_law_550 : decode cL_law 550 = .ok (.invokevirtual 68, 3) := by decide +kernel
theorem dL_law_553 : decode cL_law 553 = .ok (.pop, 1) := by decide +kernel
theorem dL_law_554 : decode cL_law 554 = .ok (.aload_n 2, 1) := by decide +kernel
theorem dL_law_555 : decode cL_law 555 = .ok (.aload_n 0, 1) := by decide +kernel
theorem dL_law_556 : decode cL_law 556 = .ok (.iload_n 3, 1) := by decide +kernel
theorem dL_law_557 : decode cL_law 557 = .ok (.iconst 1, 1) := by decide +kernel
theorem dL_law_558 : decode cL_law 558 = .ok (.iadd, 1) := by decide +kernel
theorem dL_law_559 : decode cL_law 559 = .ok (.iaload, 1) := by decide +kernel
theorem dL_law_560 : decode cL_law 560 = .ok (.invokevirtual 71, 3) := by decide +kernel
theorem dL_law_563 : decode cL_law 563 = .ok (.pop, 1) := by decide +kernel
theorem dL_law_564 : decode cL_law 564 = .ok (.goto 450, 3) := by decide +kernel
theorem dL_law_567 : decode cL_law 567 = .ok (.aload_n 1, 1) := by decide +kernel
theorem dL_law_568 : decode cL_law 568 = .ok (.aload_n 0, 1) := by decide +kernel
theorem dL_law_569 : decode cL_law 569 = .ok (.iload_n 3, 1) := by decide +kernel
theorem dL_law_570 : decode cL_law 570 = .ok (.iconst 1, 1) := by decide +kernel
theorem dL_law_571 : decode cL_law 571 = .ok (.iadd, 1) := by decide +kernel
theorem dL_law_572 : decode cL_law 572 = .ok (.iaload, 1) := by decide +kernel
theorem dL_law_573 : decode cL_law 573 = .ok (.aload_n 0, 1) := by decide +kernel
theorem dL_law_574 : decode cL_law 574 = .ok (.iload_n 3, 1) := by decide +kernel
theorem dL_law_575 : decode cL_law 575 = .ok (.iconst 2, 1) := by decide +kernel
theorem dL_law_576 : decode cL_law 576 = .ok (.iadd, 1) := by decide +kernel
theorem dL_law_577 : decode cL_law 577 = .ok (.iaload, 1) := by decide +kernel
theorem dL_law_578 : decode cL_law 578 = .ok (.invokevirtual 72, 3) := by decide +kernel
theorem dL_law_581 : decode cL_law 581 = .ok (.pop, 1) := by decide +kernel
theorem dL_law_582 : decode cL_law 582 = .ok (.aload_n 2, 1) := by decide +kernel
theorem dL_law_583 : decode cL_law 583 = .ok (.aload_n 0, 1) := by decide +kernel
theorem dL_law_584 : decode cL_law 584 = .ok (.iload_n 3, 1) := by decide +kernel
theorem dL_law_585 : decode cL_law 585 = .ok (.iconst 1, 1) := by decide +kernel
theorem dL_law_586 : decode cL_law 586 = .ok (.iadd, 1) := by decide +kernel
theorem dL_law_587 : decode cL_law 587 = .ok (.iaload, 1) := by decide +kernel
theorem dL_law_588 : decode cL_law 588 = .ok (.aload_n 0, 1) := by decide +kernel
theorem dL_law_589 : decode cL_law 589 = .ok (.iload_n 3, 1) := by decide +kernel
theorem dL_law_590 : decode cL_law 590 = .ok (.iconst 2, 1) := by decide +kernel
theorem dL_law_591 : decode cL_law 591 = .ok (.iadd, 1) := by decide +kernel
theorem dL_law_592 : decode cL_law 592 = .ok (.iaload, 1) := by decide +kernel
theorem dL_law_593 : decode cL_law 593 = .ok (.invokevirtual 75, 3) := by decide +kernel
theorem dL_law_596 : decode cL_law 596 = .ok (.pop, 1) := by decide +kernel
theorem dL_law_597 : decode cL_law 597 = .ok (.goto 417, 3) := by decide +kernel
theorem dL_law_600 : decode cL_law 600 = .ok (.aload_n 1, 1) := by decide +kernel
theorem dL_law_601 : decode cL_law 601 = .ok (.aload_n 0, 1) := by decide +kernel
theorem dL_law_602 : decode cL_law 602 = .ok (.iload_n 3, 1) := by decide +kernel
theorem dL_law_603 : decode cL_law 603 = .ok (.iconst 1, 1) := by decide +kernel
theorem dL_law_604 : decode cL_law 604 = .ok (.iadd, 1) := by decide +kernel
theorem dL_law_605 : decode cL_law 605 = .ok (.iaload, 1) := by decide +kernel
theorem dL_law_606 : decode cL_law 606 = .ok (.aload_n 0, 1) := by decide +kernel
theorem dL_law_607 : decode cL_law 607 = .ok (.iload_n 3, 1) := by decide +kernel
theorem dL_law_608 : decode cL_law 608 = .ok (.iconst 2, 1) := by decide +kernel
theorem dL_law_609 : decode cL_law 609 = .ok (.iadd, 1) := by decide +kernel
theorem dL_law_610 : decode cL_law 610 = .ok (.iaload, 1) := by decide +kernel
theorem dL_law_611 : decode cL_law 611 = .ok (.invokevirtual 76, 3) := by decide +kernel
theorem dL_law_614 : decode cL_law 614 = .ok (.pop, 1) := by decide +kernel
theorem dL_law_615 : decode cL_law 615 = .ok (.aload_n 2, 1) := by decide +kernel
theorem dL_law_616 : decode cL_law 616 = .ok (.aload_n 0, 1) := by decide +kernel
theorem dL_law_617 : decode cL_law 617 = .ok (.iload_n 3, 1) := by decide +kernel
theorem dL_law_618 : decode cL_law 618 = .ok (.iconst 1, 1) := by decide +kernel
theorem dL_law_619 : decode cL_law 619 = .ok (.iadd, 1) := by decide +kernel
theorem dL_law_620 : decode cL_law 620 = .ok (.iaload, 1) := by decide +kernel
theorem dL_law_621 : decode cL_law 621 = .ok (.aload_n 0, 1) := by decide +kernel
theorem dL_law_622 : decode cL_law 622 = .ok (.iload_n 3, 1) := by decide +kernel
theorem dL_law_623 : decode cL_law 623 = .ok (.iconst 2, 1) := by decide +kernel
theorem dL_law_624 : decode cL_law 624 = .ok (.iadd, 1) := by decide +kernel
theorem dL_law_625 : decode cL_law 625 = .ok (.iaload, 1) := by decide +kernel
theorem dL_law_626 : decode cL_law 626 = .ok (.invokevirtual 79, 3) := by decide +kernel
theorem dL_law_629 : decode cL_law 629 = .ok (.pop, 1) := by decide +kernel
theorem dL_law_630 : decode cL_law 630 = .ok (.goto 384, 3) := by decide +kernel
theorem dL_law_633 : decode cL_law 633 = .ok (.aload_n 1, 1) := by decide +kernel
theorem dL_law_634 : decode cL_law 634 = .ok (.aload_n 0, 1) := by decide +kernel
theorem dL_law_635 : decode cL_law 635 = .ok (.iload_n 3, 1) := by decide +kernel
theorem dL_law_636 : decode cL_law 636 = .ok (.iconst 1, 1) := by decide +kernel
theorem dL_law_637 : decode cL_law 637 = .ok (.iadd, 1) := by decide +kernel
theorem dL_law_638 : decode cL_law 638 = .ok (.iaload, 1) := by decide +kernel
theorem dL_law_639 : decode cL_law 639 = .ok (.aload_n 0, 1) := by decide +kernel
theorem dL_law_640 : decode cL_law 640 = .ok (.iload_n 3, 1) := by decide +kernel
theorem dL_law_641 : decode cL_law 641 = .ok (.iconst 2, 1) := by decide +kernel
theorem dL_law_642 : decode cL_law 642 = .ok (.iadd, 1) := by decide +kernel
theorem dL_law_643 : decode cL_law 643 = .ok (.iaload, 1) := by decide +kernel
theorem dL_law_644 : decode cL_law 644 = .ok (.invokevirtual 80, 3) := by decide +kernel
theorem dL_law_647 : decode cL_law 647 = .ok (.pop, 1) := by decide +kernel
theorem dL_law_648 : decode cL_law 648 = .ok (.aload_n 2, 1) := by decide +kernel
theorem dL_law_649 : decode cL_law 649 = .ok (.aload_n 0, 1) := by decide +kernel
theorem dL_law_650 : decode cL_law 650 = .ok (.iload_n 3, 1) := by decide +kernel
theorem dL_law_651 : decode cL_law 651 = .ok (.iconst 1, 1) := by decide +kernel
theorem dL_law_652 : decode cL_law 652 = .ok (.iadd, 1) := by decide +kernel
theorem dL_law_653 : decode cL_law 653 = .ok (.iaload, 1) := by decide +kernel
theorem dL_law_654 : decode cL_law 654 = .ok (.aload_n 0, 1) := by decide +kernel
theorem dL_law_655 : decode cL_law 655 = .ok (.iload_n 3, 1) := by decide +kernel
theorem dL_law_656 : decode cL_law 656 = .ok (.iconst 2, 1) := by decide +kernel
theorem dL_law_657 : decode cL_law 657 = .ok (.iadd, 1) := by decide +kernel
theorem dL_law_658 : decode cL_law 658 = .ok (.iaload, 1) := by decide +kernel
theorem dL_law_659 : decode cL_law 659 = .ok (.invokevirtual 83, 3) := by decide +kernel
theorem dL_law_662 : decode cL_law 662 = .ok (.pop, 1) := by decide +kernel
theorem dL_law_663 : decode cL_law 663 = .ok (.goto 351, 3) := by decide +kernel
theorem dL_law_666 : decode cL_law 666 = .ok (.aload_n 1, 1) := by decide +kernel
theorem dL_law_667 : decode cL_law 667 = .ok (.aload_n 0, 1) := by decide +kernel
theorem dL_law_668 : decode cL_law 668 = .ok (.iload_n 3, 1) := by decide +kernel
theorem dL_law_669 : decode cL_law 669 = .ok (.iconst 1, 1) := by decide +kernel
theorem dL_law_670 : decode cL_law 670 = .ok (.iadd, 1) := by decide +kernel
theorem dL_law_671 : decode cL_law 671 = .ok (.iaload, 1) := by decide +kernel
theorem dL_law_672 : decode cL_law 672 = .ok (.aload_n 0, 1) := by decide +kernel
theorem dL_law_673 : decode cL_law 673 = .ok (.iload_n 3, 1) := by decide +kernel
theorem dL_law_674 : decode cL_law 674 = .ok (.iconst 2, 1) := by decide +kernel
theorem dL_law_675 : decode cL_law 675 = .ok (.iadd, 1) := by decide +kernel
theorem dL_law_676 : decode cL_law 676 = .ok (.iaload, 1) := by decide +kernel
theorem dL_law_677 : decode cL_law 677 = .ok (.invokevirtual 84, 3) := by decide +kernel
theorem dL_law_680 : decode cL_law 680 = .ok (.pop, 1) := by decide +kernel
theorem dL_law_681 : decode cL_law 681 = .ok (.aload_n 2, 1) := by decide +kernel
theorem dL_law_682 : decode cL_law 682 = .ok (.aload_n 0, 1) := by decide +kernel
theorem dL_law_683 : decode cL_law 683 = .ok (.iload_n 3, 1) := by decide +kernel
theorem dL_law_684 : decode cL_law 684 = .ok (.iconst 1, 1) := by decide +kernel
theorem dL_law_685 : decode cL_law 685 = .ok (.iadd, 1) := by decide +kernel
theorem dL_law_686 : decode cL_law 686 = .ok (.iaload, 1) := by decide +kernel
theorem dL_law_687 : decode cL_law 687 = .ok (.aload_n 0, 1) := by decide +kernel
theorem dL_law_688 : decode cL_law 688 = .ok (.iload_n 3, 1) := by decide +kernel
theorem dL_law_689 : decode cL_law 689 = .ok (.iconst 2, 1) := by decide +kernel
theorem dL_law_690 : decode cL_law 690 = .ok (.iadd, 1) := by decide +kernel
theorem dL_law_691 : decode cL_law 691 = .ok (.iaload, 1) := by decide +kernel
theorem dL_law_692 : decode cL_law 692 = .ok (.invokevirtual 87, 3) := by decide +kernel
theorem dL_law_695 : decode cL_law 695 = .ok (.pop, 1) := by decide +kernel
theorem dL_law_696 : decode cL_law 696 = .ok (.goto 318, 3) := by decide +kernel
theorem dL_law_699 : decode cL_law 699 = .ok (.aload_n 1, 1) := by decide +kernel
theorem dL_law_700 : decode cL_law 700 = .ok (.aload_n 0, 1) := by decide +kernel
theorem dL_law_701 : decode cL_law 701 = .ok (.iload_n 3, 1) := by decide +kernel
theorem dL_law_702 : decode cL_law 702 = .ok (.iconst 1, 1) := by decide +kernel
theorem dL_law_703 : decode cL_law 703 = .ok (.iadd, 1) := by decide +kernel
theorem dL_law_704 : decode cL_law 704 = .ok (.iaload, 1) := by decide +kernel
theorem dL_law_705 : decode cL_law 705 = .ok (.aload_n 0, 1) := by decide +kernel
theorem dL_law_706 : decode cL_law 706 = .ok (.iload_n 3, 1) := by decide +kernel
theorem dL_law_707 : decode cL_law 707 = .ok (.iconst 2, 1) := by decide +kernel
theorem dL_law_708 : decode cL_law 708 = .ok (.iadd, 1) := by decide +kernel
theorem dL_law_709 : decode cL_law 709 = .ok (.iaload, 1) := by decide +kernel
theorem dL_law_710 : decode cL_law 710 = .ok (.aload_n 0, 1) := by decide +kernel
theorem dL_law_711 : decode cL_law 711 = .ok (.iload_n 3, 1) := by decide +kernel
theorem dL_law_712 : decode cL_law 712 = .ok (.iconst 3, 1) := by decide +kernel
theorem dL_law_713 : decode cL_law 713 = .ok (.iadd, 1) := by decide +kernel
theorem dL_law_714 : decode cL_law 714 = .ok (.iaload, 1) := by decide +kernel
theorem dL_law_715 : decode cL_law 715 = .ok (.invokevirtual 88, 3) := by decide +kernel
theorem dL_law_718 : decode cL_law 718 = .ok (.pop, 1) := by decide +kernel
theorem dL_law_719 : decode cL_law 719 = .ok (.aload_n 2, 1) := by decide +kernel
theorem dL_law_720 : decode cL_law 720 = .ok (.aload_n 0, 1) := by decide +kernel
theorem dL_law_721 : decode cL_law 721 = .ok (.iload_n 3, 1) := by decide +kernel
theorem dL_law_722 : decode cL_law 722 = .ok (.iconst 1, 1) := by decide +kernel
theorem dL_law_723 : decode cL_law 723 = .ok (.iadd, 1) := by decide +kernel
theorem dL_law_724 : decode cL_law 724 = .ok (.iaload, 1) := by decide +kernel
theorem dL_law_725 : decode cL_law 725 = .ok (.aload_n 0, 1) := by decide +kernel
theorem dL_law_726 : decode cL_law 726 = .ok (.iload_n 3, 1) := by decide +kernel
theorem dL_law_727 : decode cL_law 727 = .ok (.iconst 2, 1) := by decide +kernel
theorem dL_law_728 : decode cL_law 728 = .ok (.iadd, 1) := by decide +kernel
theorem dL_law_729 : decode cL_law 729 = .ok (.iaload, 1) := by decide +kernel
theorem dL_law_730 : decode cL_law 730 = .ok (.aload_n 0, 1) := by decide +kernel
theorem dL_law_731 : decode cL_law 731 = .ok (.iload_n 3, 1) := by decide +kernel
theorem dL_law_732 : decode cL_law 732 = .ok (.iconst 3, 1) := by decide +kernel
theorem dL_law_733 : decode cL_law 733 = .ok (.iadd, 1) := by decide +kernel
theorem dL_law_734 : decode cL_law 734 = .ok (.iaload, 1) := by decide +kernel
theorem dL_law_735 : decode cL_law 735 = .ok (.invokevirtual 92, 3) := by decide +kernel
theorem dL_law_738 : decode cL_law 738 = .ok (.pop, 1) := by decide +kernel
theorem dL_law_739 : decode cL_law 739 = .ok (.goto 275, 3) := by decide +kernel
theorem dL_law_742 : decode cL_law 742 = .ok (.aload_n 1, 1) := by decide +kernel
theorem dL_law_743 : decode cL_law 743 = .ok (.aload_n 0, 1) := by decide +kernel
theorem dL_law_744 : decode cL_law 744 = .ok (.iload_n 3, 1) := by decide +kernel
theorem dL_law_745 : decode cL_law 745 = .ok (.iconst 1, 1) := by decide +kernel
theorem dL_law_746 : decode cL_law 746 = .ok (.iadd, 1) := by decide +kernel
theorem dL_law_747 : decode cL_law 747 = .ok (.iaload, 1) := by decide +kernel
theorem dL_law_748 : decode cL_law 748 = .ok (.ifCond .eq 7, 3) := by decide +kernel
theorem dL_law_755 : decode cL_law 755 = .ok (.iconst 0, 1) := by decide +kernel
theorem dL_law_756 : decode cL_law 756 = .ok (.aload_n 0, 1) := by decide +kernel
theorem dL_law_757 : decode cL_law 757 = .ok (.iload_n 3, 1) := by decide +kernel
theorem dL_law_758 : decode cL_law 758 = .ok (.iconst 2, 1) := by decide +kernel
theorem dL_law_759 : decode cL_law 759 = .ok (.iadd, 1) := by decide +kernel
theorem dL_law_760 : decode cL_law 760 = .ok (.iaload, 1) := by decide +kernel
theorem dL_law_761 : decode cL_law 761 = .ok (.aload_n 0, 1) := by decide +kernel
theorem dL_law_762 : decode cL_law 762 = .ok (.iload_n 3, 1) := by decide +kernel
theorem dL_law_763 : decode cL_law 763 = .ok (.iconst 3, 1) := by decide +kernel
theorem dL_law_764 : decode cL_law 764 = .ok (.iadd, 1) := by decide +kernel
theorem dL_law_765 : decode cL_law 765 = .ok (.iaload, 1) := by decide +kernel
theorem dL_law_766 : decode cL_law 766 = .ok (.invokevirtual 93, 3) := by decide +kernel
theorem dL_law_769 : decode cL_law 769 = .ok (.pop, 1) := by decide +kernel
theorem dL_law_770 : decode cL_law 770 = .ok (.aload_n 2, 1) := by decide +kernel
theorem dL_law_771 : decode cL_law 771 = .ok (.aload_n 0, 1) := by decide +kernel
theorem dL_law_772 : decode cL_law 772 = .ok (.iload_n 3, 1) := by decide +kernel
theorem dL_law_773 : decode cL_law 773 = .ok (.iconst 1, 1) := by decide +kernel
theorem dL_law_774 : decode cL_law 774 = .ok (.iadd, 1) := by decide +kernel
theorem dL_law_775 : decode cL_law 775 = .ok (.iaload, 1) := by decide +kernel
theorem dL_law_776 : decode cL_law 776 = .ok (.ifCond .eq 7, 3) := by decide +kernel
theorem dL_law_783 : decode cL_law 783 = .ok (.iconst 0, 1) := by decide +kernel
theorem dL_law_784 : decode cL_law 784 = .ok (.aload_n 0, 1) := by decide +kernel
theorem dL_law_785 : decode cL_law 785 = .ok (.iload_n 3, 1) := by decide +kernel
theorem dL_law_786 : decode cL_law 786 = .ok (.iconst 2, 1) := by decide +kernel
theorem dL_law_787 : decode cL_law 787 = .ok (.iadd, 1) := by decide +kernel
theorem dL_law_788 : decode cL_law 788 = .ok (.iaload, 1) := by decide +kernel
theorem dL_law_789 : decode cL_law 789 = .ok (.aload_n 0, 1) := by decide +kernel
theorem dL_law_790 : decode cL_law 790 = .ok (.iload_n 3, 1) := by decide +kernel
theorem dL_law_791 : decode cL_law 791 = .ok (.iconst 3, 1) := by decide +kernel
theorem dL_law_792 : decode cL_law 792 = .ok (.iadd, 1) := by decide +kernel
theorem dL_law_793 : decode cL_law 793 = .ok (.iaload, 1) := by decide +kernel
theorem dL_law_794 : decode cL_law 794 = .ok (.invokevirtual 97, 3) := by decide +kernel
theorem dL_law_797 : decode cL_law 797 = .ok (.pop, 1) := by decide +kernel
theorem dL_law_798 : decode cL_law 798 = .ok (.goto 216, 3) := by decide +kernel
theorem dL_law_779 : decode cL_law 779 = .ok (.iconst 1, 1) := by decide +kernel
theorem dL_law_780 : decode cL_law 780 = .ok (.goto 4, 3) := by decide +kernel
theorem dL_law_751 : decode cL_law 751 = .ok (.iconst 1, 1) := by decide +kernel
theorem dL_law_752 : decode cL_law 752 = .ok (.goto 4, 3) := by decide +kernel
theorem dL_law_801 : decode cL_law 801 = .ok (.aload_n 1, 1) := by decide +kernel
theorem dL_law_802 : decode cL_law 802 = .ok (.aload_n 0, 1) := by decide +kernel
theorem dL_law_803 : decode cL_law 803 = .ok (.iload_n 3, 1) := by decide +kernel
theorem dL_law_804 : decode cL_law 804 = .ok (.iconst 1, 1) := by decide +kernel
theorem dL_law_805 : decode cL_law 805 = .ok (.iadd, 1) := by decide +kernel
theorem dL_law_806 : decode cL_law 806 = .ok (.iaload, 1) := by decide +kernel
theorem dL_law_807 : decode cL_law 807 = .ok (.aload_n 0, 1) := by decide +kernel
theorem dL_law_808 : decode cL_law 808 = .ok (.iload_n 3, 1) := by decide +kernel
theorem dL_law_809 : decode cL_law 809 = .ok (.iconst 2, 1) := by decide +kernel
theorem dL_law_810 : decode cL_law 810 = .ok (.iadd, 1) := by decide +kernel
theorem dL_law_811 : decode cL_law 811 = .ok (.iaload, 1) := by decide +kernel
theorem dL_law_812 : decode cL_law 812 = .ok (.invokevirtual 98, 3) := by decide +kernel
theorem dL_law_815 : decode cL_law 815 = .ok (.pop, 1) := by decide +kernel
theorem dL_law_816 : decode cL_law 816 = .ok (.aload_n 2, 1) := by decide +kernel
theorem dL_law_817 : decode cL_law 817 = .ok (.aload_n 0, 1) := by decide +kernel
theorem dL_law_818 : decode cL_law 818 = .ok (.iload_n 3, 1) := by decide +kernel
theorem dL_law_819 : decode cL_law 819 = .ok (.iconst 1, 1) := by decide +kernel
theorem dL_law_820 : decode cL_law 820 = .ok (.iadd, 1) := by decide +kernel
theorem dL_law_821 : decode cL_law 821 = .ok (.iaload, 1) := by decide +kernel
theorem dL_law_822 : decode cL_law 822 = .ok (.aload_n 0, 1) := by decide +kernel
theorem dL_law_823 : decode cL_law 823 = .ok (.iload_n 3, 1) := by decide +kernel
theorem dL_law_824 : decode cL_law 824 = .ok (.iconst 2, 1) := by decide +kernel
theorem dL_law_825 : decode cL_law 825 = .ok (.iadd, 1) := by decide +kernel
theorem dL_law_826 : decode cL_law 826 = .ok (.iaload, 1) := by decide +kernel
theorem dL_law_827 : decode cL_law 827 = .ok (.invokevirtual 101, 3) := by decide +kernel
theorem dL_law_830 : decode cL_law 830 = .ok (.pop, 1) := by decide +kernel
theorem dL_law_831 : decode cL_law 831 = .ok (.goto 183, 3) := by decide +kernel
theorem dL_law_834 : decode cL_law 834 = .ok (.aload_n 1, 1) := by decide +kernel
theorem dL_law_835 : decode cL_law 835 = .ok (.invokevirtual 102, 3) := by decide +kernel
theorem dL_law_838 : decode cL_law 838 = .ok (.pop, 1) := by decide +kernel
theorem dL_law_839 : decode cL_law 839 = .ok (.aload_n 2, 1) := by decide +kernel
theorem dL_law_840 : decode cL_law 840 = .ok (.invokevirtual 105, 3) := by decide +kernel
theorem dL_law_843 : decode cL_law 843 = .ok (.pop, 1) := by decide +kernel
theorem dL_law_844 : decode cL_law 844 = .ok (.goto 170, 3) := by decide +kernel
theorem dL_law_847 : decode cL_law 847 = .ok (.aload_n 1, 1) := by decide +kernel
theorem dL_law_848 : decode cL_law 848 = .ok (.aload_n 0, 1) := by decide +kernel
theorem dL_law_849 : decode cL_law 849 = .ok (.iload_n 3, 1) := by decide +kernel
theorem dL_law_850 : decode cL_law 850 = .ok (.iconst 1, 1) := by decide +kernel
theorem dL_law_851 : decode cL_law 851 = .ok (.iadd, 1) := by decide +kernel
theorem dL_law_852 : decode cL_law 852 = .ok (.iaload, 1) := by decide +kernel
theorem dL_law_853 : decode cL_law 853 = .ok (.invokevirtual 106, 3) := by decide +kernel
theorem dL_law_856 : decode cL_law 856 = .ok (.pop, 1) := by decide +kernel
theorem dL_law_857 : decode cL_law 857 = .ok (.aload_n 2, 1) := by decide +kernel
theorem dL_law_858 : decode cL_law 858 = .ok (.aload_n 0, 1) := by decide +kernel
theorem dL_law_859 : decode cL_law 859 = .ok (.iload_n 3, 1) := by decide +kernel
theorem dL_law_860 : decode cL_law 860 = .ok (.iconst 1, 1) := by decide +kernel
theorem dL_law_861 : decode cL_law 861 = .ok (.iadd, 1) := by decide +kernel
theorem dL_law_862 : decode cL_law 862 = .ok (.iaload, 1) := by decide +kernel
theorem dL_law_863 : decode cL_law 863 = .ok (.invokevirtual 109, 3) := by decide +kernel
theorem dL_law_866 : decode cL_law 866 = .ok (.pop, 1) := by decide +kernel
theorem dL_law_867 : decode cL_law 867 = .ok (.goto 147, 3) := by decide +kernel
theorem dL_law_870 : decode cL_law 870 = .ok (.aload_n 1, 1) := by decide +kernel
theorem dL_law_871 : decode cL_law 871 = .ok (.aload_n 0, 1) := by decide +kernel
theorem dL_law_872 : decode cL_law 872 = .ok (.iload_n 3, 1) := by decide +kernel
theorem dL_law_873 : decode cL_law 873 = .ok (.iconst 1, 1) := by decide +kernel
theorem dL_law_874 : decode cL_law 874 = .ok (.iadd, 1) := by decide +kernel
theorem dL_law_875 : decode cL_law 875 = .ok (.iaload, 1) := by decide +kernel
theorem dL_law_876 : decode cL_law 876 = .ok (.invokevirtual 110, 3) := by decide +kernel
theorem dL_law_879 : decode cL_law 879 = .ok (.pop, 1) := by decide +kernel
theorem dL_law_880 : decode cL_law 880 = .ok (.aload_n 2, 1) := by decide +kernel
theorem dL_law_881 : decode cL_law 881 = .ok (.aload_n 0, 1) := by decide +kernel
theorem dL_law_882 : decode cL_law 882 = .ok (.iload_n 3, 1) := by decide +kernel
theorem dL_law_883 : decode cL_law 883 = .ok (.iconst 1, 1) := by decide +kernel
theorem dL_law_884 : decode cL_law 884 = .ok (.iadd, 1) := by decide +kernel
theorem dL_law_885 : decode cL_law 885 = .ok (.iaload, 1) := by decide +kernel
theorem dL_law_886 : decode cL_law 886 = .ok (.invokevirtual 113, 3) := by decide +kernel
theorem dL_law_889 : decode cL_law 889 = .ok (.pop, 1) := by decide +kernel
theorem dL_law_890 : decode cL_law 890 = .ok (.goto 124, 3) := by decide +kernel
theorem dL_law_893 : decode cL_law 893 = .ok (.aload_n 1, 1) := by decide +kernel
theorem dL_law_894 : decode cL_law 894 = .ok (.invokevirtual 114, 3) := by decide +kernel
theorem dL_law_897 : decode cL_law 897 = .ok (.pop, 1) := by decide +kernel
theorem dL_law_898 : decode cL_law 898 = .ok (.aload_n 2, 1) := by decide +kernel
theorem dL_law_899 : decode cL_law 899 = .ok (.invokevirtual 117, 3) := by decide +kernel
theorem dL_law_902 : decode cL_law 902 = .ok (.pop, 1) := by decide +kernel
theorem dL_law_903 : decode cL_law 903 = .ok (.goto 111, 3) := by decide +kernel
theorem dL_law_906 : decode cL_law 906 = .ok (.aload_n 1, 1) := by decide +kernel
theorem dL_law_907 : decode cL_law 907 = .ok (.invokevirtual 118, 3) := by decide +kernel
theorem dL_law_910 : decode cL_law 910 = .ok (.pop, 1) := by decide +kernel
theorem dL_law_911 : decode cL_law 911 = .ok (.aload_n 2, 1) := by decide +kernel
theorem dL_law_912 : decode cL_law 912 = .ok (.invokevirtual 121, 3) := by decide +kernel
theorem dL_law_915 : decode cL_law 915 = .ok (.pop, 1) := by decide +kernel
theorem dL_law_916 : decode cL_law 916 = .ok (.goto 98, 3) := by decide +kernel
theorem dL_law_919 : decode cL_law 919 = .ok (.aload_n 1, 1) := by decide +kernel
theorem dL_law_920 : decode cL_law 920 = .ok (.invokevirtual 122, 3) := by decide +kernel
theorem dL_law_923 : decode cL_law 923 = .ok (.pop, 1) := by decide +kernel
theorem dL_law_924 : decode cL_law 924 = .ok (.aload_n 2, 1) := by decide +kernel
theorem dL_law_925 : decode cL_law 925 = .ok (.invokevirtual 125, 3) := by decide +kernel
theorem dL_law_928 : decode cL_law 928 = .ok (.pop, 1) := by decide +kernel
theorem dL_law_929 : decode cL_law 929 = .ok (.goto 85, 3) := by decide +kernel
theorem dL_law_932 : decode cL_law 932 = .ok (.aload_n 1, 1) := by decide +kernel
theorem dL_law_933 : decode cL_law 933 = .ok (.aload_n 0, 1) := by decide +kernel
theorem dL_law_934 : decode cL_law 934 = .ok (.iload_n 3, 1) := by decide +kernel
theorem dL_law_935 : decode cL_law 935 = .ok (.iconst 1, 1) := by decide +kernel
theorem dL_law_936 : decode cL_law 936 = .ok (.iadd, 1) := by decide +kernel
theorem dL_law_937 : decode cL_law 937 = .ok (.iaload, 1) := by decide +kernel
theorem dL_law_938 : decode cL_law 938 = .ok (.invokevirtual 126, 3) := by decide +kernel
theorem dL_law_941 : decode cL_law 941 = .ok (.pop, 1) := by decide +kernel
theorem dL_law_942 : decode cL_law 942 = .ok (.aload_n 2, 1) := by decide +kernel
theorem dL_law_943 : decode cL_law 943 = .ok (.aload_n 0, 1) := by decide +kernel
theorem dL_law_944 : decode cL_law 944 = .ok (.iload_n 3, 1) := by decide +kernel
theorem dL_law_945 : decode cL_law 945 = .ok (.iconst 1, 1) := by decide +kernel
theorem dL_law_946 : decode cL_law 946 = .ok (.iadd, 1) := by decide +kernel
theorem dL_law_947 : decode cL_law 947 = .ok (.iaload, 1) := by decide +kernel
theorem dL_law_948 : decode cL_law 948 = .ok (.invokevirtual 129, 3) := by decide +kernel
theorem dL_law_951 : decode cL_law 951 = .ok (.pop, 1) := by decide +kernel
theorem dL_law_952 : decode cL_law 952 = .ok (.goto 62, 3) := by decide +kernel
theorem dL_law_955 : decode cL_law 955 = .ok (.aload_n 1, 1) := by decide +kernel
theorem dL_law_956 : decode cL_law 956 = .ok (.aload_n 0, 1) := by decide +kernel
theorem dL_law_957 : decode cL_law 957 = .ok (.iload_n 3, 1) := by decide +kernel
theorem dL_law_958 : decode cL_law 958 = .ok (.iconst 1, 1) := by decide +kernel
theorem dL_law_959 : decode cL_law 959 = .ok (.iadd, 1) := by decide +kernel
theorem dL_law_960 : decode cL_law 960 = .ok (.iaload, 1) := by decide +kernel
theorem dL_law_961 : decode cL_law 961 = .ok (.invokevirtual 130, 3) := by decide +kernel
theorem dL_law_964 : decode cL_law 964 = .ok (.aload_n 2, 1) := by decide +kernel
theorem dL_law_965 : decode cL_law 965 = .ok (.aload_n 0, 1) := by decide +kernel
theorem dL_law_966 : decode cL_law 966 = .ok (.iload_n 3, 1) := by decide +kernel
theorem dL_law_967 : decode cL_law 967 = .ok (.iconst 1, 1) := by decide +kernel
theorem dL_law_968 : decode cL_law 968 = .ok (.iadd, 1) := by decide +kernel
theorem dL_law_969 : decode cL_law 969 = .ok (.iaload, 1) := by decide +kernel
theorem dL_law_970 : decode cL_law 970 = .ok (.invokevirtual 133, 3) := by decide +kernel
theorem dL_law_973 : decode cL_law 973 = .ok (.if_icmp .eq 41, 3) := by decide +kernel
theorem dL_law_978 : decode cL_law 978 = .ok (.aload_n 1, 1) := by decide +kernel
theorem dL_law_979 : decode cL_law 979 = .ok (.invokevirtual 134, 3) := by decide +kernel
theorem dL_law_982 : decode cL_law 982 = .ok (.pop, 1) := by decide +kernel
theorem dL_law_983 : decode cL_law 983 = .ok (.aload_n 2, 1) := by decide +kernel
theorem dL_law_984 : decode cL_law 984 = .ok (.invokevirtual 137, 3) := by decide +kernel
theorem dL_law_987 : decode cL_law 987 = .ok (.pop, 1) := by decide +kernel
theorem dL_law_988 : decode cL_law 988 = .ok (.goto 26, 3) := by decide +kernel
theorem dL_law_991 : decode cL_law 991 = .ok (.aload_n 1, 1) := by decide +kernel
theorem dL_law_992 : decode cL_law 992 = .ok (.aload_n 0, 1) := by decide +kernel
theorem dL_law_993 : decode cL_law 993 = .ok (.iload_n 3, 1) := by decide +kernel
theorem dL_law_994 : decode cL_law 994 = .ok (.iconst 1, 1) := by decide +kernel
theorem dL_law_995 : decode cL_law 995 = .ok (.iadd, 1) := by decide +kernel
theorem dL_law_996 : decode cL_law 996 = .ok (.iaload, 1) := by decide +kernel
theorem dL_law_997 : decode cL_law 997 = .ok (.invokevirtual 138, 3) := by decide +kernel
theorem dL_law_1000 : decode cL_law 1000 = .ok (.pop, 1) := by decide +kernel
theorem dL_law_1001 : decode cL_law 1001 = .ok (.aload_n 2, 1) := by decide +kernel
theorem dL_law_1002 : decode cL_law 1002 = .ok (.aload_n 0, 1) := by decide +kernel
theorem dL_law_1003 : decode cL_law 1003 = .ok (.iload_n 3, 1) := by decide +kernel
theorem dL_law_1004 : decode cL_law 1004 = .ok (.iconst 1, 1) := by decide +kernel
theorem dL_law_1005 : decode cL_law 1005 = .ok (.iadd, 1) := by decide +kernel
theorem dL_law_1006 : decode cL_law 1006 = .ok (.iaload, 1) := by decide +kernel
theorem dL_law_1007 : decode cL_law 1007 = .ok (.invokevirtual 141, 3) := by decide +kernel
theorem dL_law_1010 : decode cL_law 1010 = .ok (.pop, 1) := by decide +kernel
theorem dL_law_1011 : decode cL_law 1011 = .ok (.goto 3, 3) := by decide +kernel
set_option maxHeartbeats 4000000 in
set_option maxRecDepth 100000 in
theorem law_0 {p : Program} {l : Launch} {e : Env} {s : State} {m : MethodId} {below : List Frame} {meth : Method} {c : Code} {H : Heap} {locs : List Loc} {D : va_G} {tA : Nat → ClassId} {b sb : Nat} {xs : Nat → Int32} {ls : Array Slot} {L : Nat} {k : Int32} {uC uM : XS} (C : LW p s m meth c D tA b sb L xs) (hk : 0 ≤ k.toInt ∧ k.toInt + 4 ≤ L) (hLI : LI uC uM) (hC : Hd D tA b 0 78 zz uC.1 uC.2.1 uC.2.2 H) (hM : Hd D tA b 78 52 zz uM.1 uM.2.1 uM.2.2 H) (hS : va_S (Sb b) s.heap H locs) (hl : lv_has ls 4 [(3, .int k), (2, .ref (b + 78)), (1, .ref (b + 0)), (0, .ref sb)]) (NX : ∀ (uC uM : XS) (H : Heap) (locs : List Loc) (ls : Array Slot), LI uC uM → Hd D tA b 0 78 zz uC.1 uC.2.1 uC.2.2 H → Hd D tA b 78 52 zz uM.1 uM.2.1 uM.2.2 H → va_S (Sb b) s.heap H locs → lv_has ls 4 [(3, .int k), (2, .ref (b + 78)), (1, .ref (b + 0)), (0, .ref sb)] → W p l e room_1 s m #[Value.ref sb] below meth c H locs 130 99576 (lw_Z below #[Value.ref sb] s) (F0 m 1014 ls [])) : W p l e room_1 s m #[Value.ref sb] below meth c H locs 130 99576 (lw_Z below #[Value.ref sb] s) (F0 m 168 ls []) := by
  obtain ⟨hL, C0, C2, hX, hbl, hb, hr, hlk⟩ := id C
  have hbA : ¬ Sb b sb := by unfold Sb; omega
  have hk1 : Int32.toInt (k + 1) = k.toInt + 1 := (fb_addI (by have : Int32.toInt 1 = 1 := rfl; omega) (by have : Int32.toInt 1 = 1 := rfl; omega)).trans rfl
  have hk2 : Int32.toInt (k + 2) = k.toInt + 2 := (fb_addI (by have : Int32.toInt 2 = 2 := rfl; omega) (by have : Int32.toInt 2 = 2 := rfl; omega)).trans rfl
  have hk3 : Int32.toInt (k + 3) = k.toInt + 3 := (fb_addI (by have : Int32.toInt 3 = 3 := rfl; omega) (by have : Int32.toInt 3 = 3 := rfl; omega)).trans rfl
  obtain ⟨iC, FC, GC⟩ := uC
  obtain ⟨iM, FM, GM⟩ := uM
  obtain ⟨S, hLC, hLM, hCE⟩ := hLI
  refine lv_aload_n (pc := 168) C0.1 C0.2.1 dL_law_168 rfl (lv_at hl 2 rfl) ?_
  refine lv_aload_n (pc := 169) C0.1 C0.2.1 dL_law_169 rfl (lv_at hl 3 rfl) ?_
  refine lv_iload_n (pc := 170) C0.1 C0.2.1 dL_law_170 rfl (lv_at hl 0 rfl) ?_
  refine lv_iconst (pc := 171) (v := 1) C0.1 C0.2.1 dL_law_171 (by decide) ?_
  refine lv_iadd (pc := 172) C0.1 C0.2.1 dL_law_172 ?_
  refine va_sld (pc := 173) C0.1 C0.2.1 hX hbl hbA hS (i := k + 1) (vI (by omega) (by omega)) dL_law_173 ?_
  refine lv_i2l (pc := 174) (v := (xs (Int32.toNatClampNeg (k + 1))).toInt64) C0.1 C0.2.1 dL_law_174 rfl ?_
  refine lv_bipush (pc := 175) (v := 32) C0.1 C0.2.1 dL_law_175 (by decide) ?_
  obtain ⟨x1, ex1⟩ : ∃ y : Int64, y = ((xs (Int32.toNatClampNeg (k + 1))).toInt64) <<< ((32 : Int32).toInt64 &&& 63) := ⟨_, rfl⟩
  refine lv_lshl (pc := 177) (v := x1) C0.1 C0.2.1 dL_law_177 (by rw [ex1]) ?_
  refine lv_aload_n (pc := 178) C0.1 C0.2.1 dL_law_178 rfl (lv_at hl 3 rfl) ?_
  refine lv_iload_n (pc := 179) C0.1 C0.2.1 dL_law_179 rfl (lv_at hl 0 rfl) ?_
  refine lv_iconst (pc := 180) (v := 2) C0.1 C0.2.1 dL_law_180 (by decide) ?_
  refine lv_iadd (pc := 181) C0.1 C0.2.1 dL_law_181 ?_
  refine va_sld (pc := 182) C0.1 C0.2.1 hX hbl hbA hS (i := k + 2) (vI (by omega) (by omega)) dL_law_182 ?_
  refine lv_i2l (pc := 183) (v := (xs (Int32.toNatClampNeg (k + 2))).toInt64) C0.1 C0.2.1 dL_law_183 rfl ?_
  refine lv_ldc2 (pc := 184) C0.1 C0.2.1 C0.2.2.2.1 (C0.2.2.2.2.1 _ kl_L_13) dL_law_184 ?_
  refine lv_land (pc := 187) C0.1 C0.2.1 dL_law_187 ?_
  refine lv_lor (pc := 188) C0.1 C0.2.1 dL_law_188 ?_
  refine lv_aload_n (pc := 189) C0.1 C0.2.1 dL_law_189 rfl (lv_at hl 3 rfl) ?_
  refine lv_iload_n (pc := 190) C0.1 C0.2.1 dL_law_190 rfl (lv_at hl 0 rfl) ?_
  refine lv_iconst (pc := 191) (v := 3) C0.1 C0.2.1 dL_law_191 (by decide) ?_
  refine lv_iadd (pc := 192) C0.1 C0.2.1 dL_law_192 ?_
  refine va_sld (pc := 193) C0.1 C0.2.1 hX hbl hbA hS (i := k + 3) (vI (by omega) (by omega)) dL_law_193 ?_
  refine xcVIK (pc := 194) 0 [.long (x1 ||| (((xs (Int32.toNatClampNeg (k + 2))).toInt64) &&& 4294967295)), .int (xs (Int32.toNatClampNeg (k + 3)))] (g_X9_opener l D tA b iC FC GC (x1 ||| (((xs (Int32.toNatClampNeg (k + 2))).toInt64) &&& 4294967295)) (xs (Int32.toNatClampNeg (k + 3))) S hLC.1 hLC.2) C0 hC hM (Or.inl (by decide)) hS clX9 rfl ⟨⟨Nat.le_of_ble_eq_true rfl, Nat.le_of_ble_eq_true rfl⟩, rfl, rfl⟩ cw_L_15 rfl ⟨Nat.le_of_ble_eq_true rfl, Nat.le_of_ble_eq_true rfl⟩ hl.1 rfl (Nat.le_of_ble_eq_true rfl) dL_law_194 ⟨Nat.le_of_ble_eq_true rfl, Nat.le_of_ble_eq_true rfl⟩ (fun r2 ur2 _ locs hp hC hM hS => ?_)
  have er2 := hp
  clear hp
  refine lv_pop (pc := 197) C0.1 C0.2.1 dL_law_197 rfl ?_
  refine lv_aload_n (pc := 198) C0.1 C0.2.1 dL_law_198 rfl (lv_at hl 1 rfl) ?_
  refine lv_aload_n (pc := 199) C0.1 C0.2.1 dL_law_199 rfl (lv_at hl 3 rfl) ?_
  refine lv_iload_n (pc := 200) C0.1 C0.2.1 dL_law_200 rfl (lv_at hl 0 rfl) ?_
  refine lv_iconst (pc := 201) (v := 1) C0.1 C0.2.1 dL_law_201 (by decide) ?_
  refine lv_iadd (pc := 202) C0.1 C0.2.1 dL_law_202 ?_
  refine va_sld (pc := 203) C0.1 C0.2.1 hX hbl hbA hS (i := k + 1) (vI (by omega) (by omega)) dL_law_203 ?_
  refine lv_i2l (pc := 204) (v := (xs (Int32.toNatClampNeg (k + 1))).toInt64) C0.1 C0.2.1 dL_law_204 rfl ?_
  refine lv_bipush (pc := 205) (v := 32) C0.1 C0.2.1 dL_law_205 (by decide) ?_
  obtain ⟨x3, ex3⟩ : ∃ y : Int64, y = ((xs (Int32.toNatClampNeg (k + 1))).toInt64) <<< ((32 : Int32).toInt64 &&& 63) := ⟨_, rfl⟩
  refine lv_lshl (pc := 207) (v := x3) C0.1 C0.2.1 dL_law_207 (by rw [ex3]) ?_
  refine lv_aload_n (pc := 208) C0.1 C0.2.1 dL_law_208 rfl (lv_at hl 3 rfl) ?_
  refine lv_iload_n (pc := 209) C0.1 C0.2.1 dL_law_209 rfl (lv_at hl 0 rfl) ?_
  refine lv_iconst (pc := 210) (v := 2) C0.1 C0.2.1 dL_law_210 (by decide) ?_
  refine lv_iadd (pc := 211) C0.1 C0.2.1 dL_law_211 ?_
  refine va_sld (pc := 212) C0.1 C0.2.1 hX hbl hbA hS (i := k + 2) (vI (by omega) (by omega)) dL_law_212 ?_
  refine lv_i2l (pc := 213) (v := (xs (Int32.toNatClampNeg (k + 2))).toInt64) C0.1 C0.2.1 dL_law_213 rfl ?_
  refine lv_ldc2 (pc := 214) C0.1 C0.2.1 C0.2.2.2.1 (C0.2.2.2.2.1 _ kl_L_13) dL_law_214 ?_
  refine lv_land (pc := 217) C0.1 C0.2.1 dL_law_217 ?_
  refine lv_lor (pc := 218) C0.1 C0.2.1 dL_law_218 ?_
  refine lv_aload_n (pc := 219) C0.1 C0.2.1 dL_law_219 rfl (lv_at hl 3 rfl) ?_
  refine lv_iload_n (pc := 220) C0.1 C0.2.1 dL_law_220 rfl (lv_at hl 0 rfl) ?_
  refine lv_iconst (pc := 221) (v := 3) C0.1 C0.2.1 dL_law_221 (by decide) ?_
  refine lv_iadd (pc := 222) C0.1 C0.2.1 dL_law_222 ?_
  refine va_sld (pc := 223) C0.1 C0.2.1 hX hbl hbA hS (i := k + 3) (vI (by omega) (by omega)) dL_law_223 ?_
  refine xcVIK (pc := 224) 78 [.long (x3 ||| (((xs (Int32.toNatClampNeg (k + 2))).toInt64) &&& 4294967295)), .int (xs (Int32.toNatClampNeg (k + 3)))] (m_opener l D tA b iM FM GM (x3 ||| (((xs (Int32.toNatClampNeg (k + 2))).toInt64) &&& 4294967295)) (xs (Int32.toNatClampNeg (k + 3))) S hLM.2) C2 hM hC (Or.inr (by decide)) hS clX10 rfl ⟨⟨Nat.le_of_ble_eq_true rfl, Nat.le_of_ble_eq_true rfl⟩, rfl, rfl⟩ cw_L_19 rfl ⟨Nat.le_of_ble_eq_true rfl, Nat.le_of_ble_eq_true rfl⟩ hl.1 rfl (Nat.le_of_ble_eq_true rfl) dL_law_224 ⟨Nat.le_of_ble_eq_true rfl, Nat.le_of_ble_eq_true rfl⟩ (fun r4 ur4 _ locs hp hM hC hS => ?_)
  have er4 := hp
  clear hp
  refine lv_pop (pc := 227) C0.1 C0.2.1 dL_law_227 rfl ?_
  refine lv_goto (pc := 228) (tgt := 1014) C0.1 C0.2.1 dL_law_228 (by decide) ?_
  subst ex1
  subst ex3
  obtain ⟨hEQ, hLI2⟩ := LI.op hCE hLM er2 er4
  exact NX ur2 ur4 _ _ _ hLI2 hC hM hS (lv_sub hl [0, 1, 2, 3] rfl)
set_option maxHeartbeats 4000000 in
set_option maxRecDepth 100000 in
theorem law_1 {p : Program} {l : Launch} {e : Env} {s : State} {m : MethodId} {below : List Frame} {meth : Method} {c : Code} {H : Heap} {locs : List Loc} {D : va_G} {tA : Nat → ClassId} {b sb : Nat} {xs : Nat → Int32} {ls : Array Slot} {L : Nat} {k : Int32} {uC uM : XS} (C : LW p s m meth c D tA b sb L xs) (hk : 0 ≤ k.toInt ∧ k.toInt + 4 ≤ L) (hLI : LI uC uM) (hC : Hd D tA b 0 78 zz uC.1 uC.2.1 uC.2.2 H) (hM : Hd D tA b 78 52 zz uM.1 uM.2.1 uM.2.2 H) (hS : va_S (Sb b) s.heap H locs) (hl : lv_has ls 4 [(3, .int k), (2, .ref (b + 78)), (1, .ref (b + 0)), (0, .ref sb)]) (NX : ∀ (uC uM : XS) (H : Heap) (locs : List Loc) (ls : Array Slot), LI uC uM → Hd D tA b 0 78 zz uC.1 uC.2.1 uC.2.2 H → Hd D tA b 78 52 zz uM.1 uM.2.1 uM.2.2 H → va_S (Sb b) s.heap H locs → lv_has ls 4 [(3, .int k), (2, .ref (b + 78)), (1, .ref (b + 0)), (0, .ref sb)] → W p l e room_1 s m #[Value.ref sb] below meth c H locs 130 99576 (lw_Z below #[Value.ref sb] s) (F0 m 1014 ls [])) : W p l e room_1 s m #[Value.ref sb] below meth c H locs 130 99576 (lw_Z below #[Value.ref sb] s) (F0 m 231 ls []) := by
  obtain ⟨hL, C0, C2, hX, hbl, hb, hr, hlk⟩ := id C
  have hbA : ¬ Sb b sb := by unfold Sb; omega
  have hk1 : Int32.toInt (k + 1) = k.toInt + 1 := (fb_addI (by have : Int32.toInt 1 = 1 := rfl; omega) (by have : Int32.toInt 1 = 1 := rfl; omega)).trans rfl
  have hk2 : Int32.toInt (k + 2) = k.toInt + 2 := (fb_addI (by have : Int32.toInt 2 = 2 := rfl; omega) (by have : Int32.toInt 2 = 2 := rfl; omega)).trans rfl
  have hk3 : Int32.toInt (k + 3) = k.toInt + 3 := (fb_addI (by have : Int32.toInt 3 = 3 := rfl; omega) (by have : Int32.toInt 3 = 3 := rfl; omega)).trans rfl
  obtain ⟨iC, FC, GC⟩ := uC
  obtain ⟨iM, FM, GM⟩ := uM
  obtain ⟨S, hLC, hLM, hCE⟩ := hLI
  refine lv_aload_n (pc := 231) C0.1 C0.2.1 dL_law_231 rfl (lv_at hl 2 rfl) ?_
  refine lv_aload_n (pc := 232) C0.1 C0.2.1 dL_law_232 rfl (lv_at hl 3 rfl) ?_
  refine lv_iload_n (pc := 233) C0.1 C0.2.1 dL_law_233 rfl (lv_at hl 0 rfl) ?_
  refine lv_iconst (pc := 234) (v := 1) C0.1 C0.2.1 dL_law_234 (by decide) ?_
  refine lv_iadd (pc := 235) C0.1 C0.2.1 dL_law_235 ?_
  refine va_sld (pc := 236) C0.1 C0.2.1 hX hbl hbA hS (i := k + 1) (vI (by omega) (by omega)) dL_law_236 ?_
  refine lv_aload_n (pc := 237) C0.1 C0.2.1 dL_law_237 rfl (lv_at hl 3 rfl) ?_
  refine lv_iload_n (pc := 238) C0.1 C0.2.1 dL_law_238 rfl (lv_at hl 0 rfl) ?_
  refine lv_iconst (pc := 239) (v := 2) C0.1 C0.2.1 dL_law_239 (by decide) ?_
  refine lv_iadd (pc := 240) C0.1 C0.2.1 dL_law_240 ?_
  refine va_sld (pc := 241) C0.1 C0.2.1 hX hbl hbA hS (i := k + 2) (vI (by omega) (by omega)) dL_law_241 ?_
  refine xcVIK (pc := 242) 0 [.int (xs (Int32.toNatClampNeg (k + 1))), .int (xs (Int32.toNatClampNeg (k + 2)))] (g_X9_pair l D tA b iC FC GC (xs (Int32.toNatClampNeg (k + 1))) (xs (Int32.toNatClampNeg (k + 2))) S hLC.1 hLC.2) C0 hC hM (Or.inl (by decide)) hS clX9 rfl ⟨⟨Nat.le_of_ble_eq_true rfl, Nat.le_of_ble_eq_true rfl⟩, rfl, rfl⟩ cw_L_20 rfl ⟨Nat.le_of_ble_eq_true rfl, Nat.le_of_ble_eq_true rfl⟩ hl.1 rfl (Nat.le_of_ble_eq_true rfl) dL_law_242 ⟨Nat.le_of_ble_eq_true rfl, Nat.le_of_ble_eq_true rfl⟩ (fun r1 ur1 _ locs hp hC hM hS => ?_)
  have er1 := hp
  clear hp
  refine lv_pop (pc := 245) C0.1 C0.2.1 dL_law_245 rfl ?_
  refine lv_aload_n (pc := 246) C0.1 C0.2.1 dL_law_246 rfl (lv_at hl 1 rfl) ?_
  refine lv_aload_n (pc := 247) C0.1 C0.2.1 dL_law_247 rfl (lv_at hl 3 rfl) ?_
  refine lv_iload_n (pc := 248) C0.1 C0.2.1 dL_law_248 rfl (lv_at hl 0 rfl) ?_
  refine lv_iconst (pc := 249) (v := 1) C0.1 C0.2.1 dL_law_249 (by decide) ?_
  refine lv_iadd (pc := 250) C0.1 C0.2.1 dL_law_250 ?_
  refine va_sld (pc := 251) C0.1 C0.2.1 hX hbl hbA hS (i := k + 1) (vI (by omega) (by omega)) dL_law_251 ?_
  refine lv_aload_n (pc := 252) C0.1 C0.2.1 dL_law_252 rfl (lv_at hl 3 rfl) ?_
  refine lv_iload_n (pc := 253) C0.1 C0.2.1 dL_law_253 rfl (lv_at hl 0 rfl) ?_
  refine lv_iconst (pc := 254) (v := 2) C0.1 C0.2.1 dL_law_254 (by decide) ?_
  refine lv_iadd (pc := 255) C0.1 C0.2.1 dL_law_255 ?_
  refine va_sld (pc := 256) C0.1 C0.2.1 hX hbl hbA hS (i := k + 2) (vI (by omega) (by omega)) dL_law_256 ?_
  refine xcVIK (pc := 257) 78 [.int (xs (Int32.toNatClampNeg (k + 1))), .int (xs (Int32.toNatClampNeg (k + 2)))] (m_pair l D tA b iM FM GM (xs (Int32.toNatClampNeg (k + 1))) (xs (Int32.toNatClampNeg (k + 2))) S hLM.2) C2 hM hC (Or.inr (by decide)) hS clX10 rfl ⟨⟨Nat.le_of_ble_eq_true rfl, Nat.le_of_ble_eq_true rfl⟩, rfl, rfl⟩ cw_L_24 rfl ⟨Nat.le_of_ble_eq_true rfl, Nat.le_of_ble_eq_true rfl⟩ hl.1 rfl (Nat.le_of_ble_eq_true rfl) dL_law_257 ⟨Nat.le_of_ble_eq_true rfl, Nat.le_of_ble_eq_true rfl⟩ (fun r2 ur2 _ locs hp hM hC hS => ?_)
  have er2 := hp
  clear hp
  refine lv_pop (pc := 260) C0.1 C0.2.1 dL_law_260 rfl ?_
  refine lv_goto (pc := 261) (tgt := 1014) C0.1 C0.2.1 dL_law_261 (by decide) ?_
  obtain ⟨hEQ, hLI2⟩ := LI.pr hCE hLM er1 er2
  exact NX ur1 ur2 _ _ _ hLI2 hC hM hS (lv_sub hl [0, 1, 2, 3] rfl)
set_option maxHeartbeats 4000000 in
set_option maxRecDepth 100000 in
theorem law_2 {p : Program} {l : Launch} {e : Env} {s : State} {m : MethodId} {below : List Frame} {meth : Method} {c : Code} {H : Heap} {locs : List Loc} {D : va_G} {tA : Nat → ClassId} {b sb : Nat} {xs : Nat → Int32} {ls : Array Slot} {L : Nat} {k : Int32} {uC uM : XS} (C : LW p s m meth c D tA b sb L xs) (hk : 0 ≤ k.toInt ∧ k.toInt + 4 ≤ L) (hLI : LI uC uM) (hC : Hd D tA b 0 78 zz uC.1 uC.2.1 uC.2.2 H) (hM : Hd D tA b 78 52 zz uM.1 uM.2.1 uM.2.2 H) (hS : va_S (Sb b) s.heap H locs) (hl : lv_has ls 4 [(3, .int k), (2, .ref (b + 78)), (1, .ref (b + 0)), (0, .ref sb)]) (NX : ∀ (uC uM : XS) (H : Heap) (locs : List Loc) (ls : Array Slot), LI uC uM → Hd D tA b 0 78 zz uC.1 uC.2.1 uC.2.2 H → Hd D tA b 78 52 zz uM.1 uM.2.1 uM.2.2 H → va_S (Sb b) s.heap H locs → lv_has ls 4 [(3, .int k), (2, .ref (b + 78)), (1, .ref (b + 0)), (0, .ref sb)] → W p l e room_1 s m #[Value.ref sb] below meth c H locs 130 99576 (lw_Z below #[Value.ref sb] s) (F0 m 1014 ls [])) : W p l e room_1 s m #[Value.ref sb] below meth c H locs 130 99576 (lw_Z below #[Value.ref sb] s) (F0 m 264 ls []) := by
  obtain ⟨hL, C0, C2, hX, hbl, hb, hr, hlk⟩ := id C
  have hbA : ¬ Sb b sb := by unfold Sb; omega
  have hk1 : Int32.toInt (k + 1) = k.toInt + 1 := (fb_addI (by have : Int32.toInt 1 = 1 := rfl; omega) (by have : Int32.toInt 1 = 1 := rfl; omega)).trans rfl
  have hk2 : Int32.toInt (k + 2) = k.toInt + 2 := (fb_addI (by have : Int32.toInt 2 = 2 := rfl; omega) (by have : Int32.toInt 2 = 2 := rfl; omega)).trans rfl
  have hk3 : Int32.toInt (k + 3) = k.toInt + 3 := (fb_addI (by have : Int32.toInt 3 = 3 := rfl; omega) (by have : Int32.toInt 3 = 3 := rfl; omega)).trans rfl
  obtain ⟨iC, FC, GC⟩ := uC
  obtain ⟨iM, FM, GM⟩ := uM
  obtain ⟨S, hLC, hLM, hCE⟩ := hLI
  refine lv_aload_n (pc := 264) C0.1 C0.2.1 dL_law_264 rfl (lv_at hl 2 rfl) ?_
  refine lv_aload_n (pc := 265) C0.1 C0.2.1 dL_law_265 rfl (lv_at hl 3 rfl) ?_
  refine lv_iload_n (pc := 266) C0.1 C0.2.1 dL_law_266 rfl (lv_at hl 0 rfl) ?_
  refine lv_iconst (pc := 267) (v := 1) C0.1 C0.2.1 dL_law_267 (by decide) ?_
  refine lv_iadd (pc := 268) C0.1 C0.2.1 dL_law_268 ?_
  refine va_sld (pc := 269) C0.1 C0.2.1 hX hbl hbA hS (i := k + 1) (vI (by omega) (by omega)) dL_law_269 ?_
  refine lv_i2l (pc := 270) (v := (xs (Int32.toNatClampNeg (k + 1))).toInt64) C0.1 C0.2.1 dL_law_270 rfl ?_
  refine lv_bipush (pc := 271) (v := 32) C0.1 C0.2.1 dL_law_271 (by decide) ?_
  obtain ⟨x1, ex1⟩ : ∃ y : Int64, y = ((xs (Int32.toNatClampNeg (k + 1))).toInt64) <<< ((32 : Int32).toInt64 &&& 63) := ⟨_, rfl⟩
  refine lv_lshl (pc := 273) (v := x1) C0.1 C0.2.1 dL_law_273 (by rw [ex1]) ?_
  refine lv_aload_n (pc := 274) C0.1 C0.2.1 dL_law_274 rfl (lv_at hl 3 rfl) ?_
  refine lv_iload_n (pc := 275) C0.1 C0.2.1 dL_law_275 rfl (lv_at hl 0 rfl) ?_
  refine lv_iconst (pc := 276) (v := 2) C0.1 C0.2.1 dL_law_276 (by decide) ?_
  refine lv_iadd (pc := 277) C0.1 C0.2.1 dL_law_277 ?_
  refine va_sld (pc := 278) C0.1 C0.2.1 hX hbl hbA hS (i := k + 2) (vI (by omega) (by omega)) dL_law_278 ?_
  refine lv_i2l (pc := 279) (v := (xs (Int32.toNatClampNeg (k + 2))).toInt64) C0.1 C0.2.1 dL_law_279 rfl ?_
  refine lv_ldc2 (pc := 280) C0.1 C0.2.1 C0.2.2.2.1 (C0.2.2.2.2.1 _ kl_L_13) dL_law_280 ?_
  refine lv_land (pc := 283) C0.1 C0.2.1 dL_law_283 ?_
  refine lv_lor (pc := 284) C0.1 C0.2.1 dL_law_284 ?_
  refine xcVIK (pc := 285) 0 [.long (x1 ||| (((xs (Int32.toNatClampNeg (k + 2))).toInt64) &&& 4294967295))] (g_X9_closer l D tA b iC FC GC (x1 ||| (((xs (Int32.toNatClampNeg (k + 2))).toInt64) &&& 4294967295)) S hLC.1 hLC.2) C0 hC hM (Or.inl (by decide)) hS clX9 rfl ⟨⟨Nat.le_of_ble_eq_true rfl, Nat.le_of_ble_eq_true rfl⟩, rfl, rfl⟩ cw_L_25 rfl ⟨Nat.le_of_ble_eq_true rfl, Nat.le_of_ble_eq_true rfl⟩ hl.1 rfl (Nat.le_of_ble_eq_true rfl) dL_law_285 ⟨Nat.le_of_ble_eq_true rfl, Nat.le_of_ble_eq_true rfl⟩ (fun r2 ur2 _ locs hp hC hM hS => ?_)
  have er2 := hp
  clear hp
  refine lv_pop (pc := 288) C0.1 C0.2.1 dL_law_288 rfl ?_
  refine lv_aload_n (pc := 289) C0.1 C0.2.1 dL_law_289 rfl (lv_at hl 1 rfl) ?_
  refine lv_aload_n (pc := 290) C0.1 C0.2.1 dL_law_290 rfl (lv_at hl 3 rfl) ?_
  refine lv_iload_n (pc := 291) C0.1 C0.2.1 dL_law_291 rfl (lv_at hl 0 rfl) ?_
  refine lv_iconst (pc := 292) (v := 1) C0.1 C0.2.1 dL_law_292 (by decide) ?_
  refine lv_iadd (pc := 293) C0.1 C0.2.1 dL_law_293 ?_
  refine va_sld (pc := 294) C0.1 C0.2.1 hX hbl hbA hS (i := k + 1) (vI (by omega) (by omega)) dL_law_294 ?_
  refine lv_i2l (pc := 295) (v := (xs (Int32.toNatClampNeg (k + 1))).toInt64) C0.1 C0.2.1 dL_law_295 rfl ?_
  refine lv_bipush (pc := 296) (v := 32) C0.1 C0.2.1 dL_law_296 (by decide) ?_
  obtain ⟨x3, ex3⟩ : ∃ y : Int64, y = ((xs (Int32.toNatClampNeg (k + 1))).toInt64) <<< ((32 : Int32).toInt64 &&& 63) := ⟨_, rfl⟩
  refine lv_lshl (pc := 298) (v := x3) C0.1 C0.2.1 dL_law_298 (by rw [ex3]) ?_
  refine lv_aload_n (pc := 299) C0.1 C0.2.1 dL_law_299 rfl (lv_at hl 3 rfl) ?_
  refine lv_iload_n (pc := 300) C0.1 C0.2.1 dL_law_300 rfl (lv_at hl 0 rfl) ?_
  refine lv_iconst (pc := 301) (v := 2) C0.1 C0.2.1 dL_law_301 (by decide) ?_
  refine lv_iadd (pc := 302) C0.1 C0.2.1 dL_law_302 ?_
  refine va_sld (pc := 303) C0.1 C0.2.1 hX hbl hbA hS (i := k + 2) (vI (by omega) (by omega)) dL_law_303 ?_
  refine lv_i2l (pc := 304) (v := (xs (Int32.toNatClampNeg (k + 2))).toInt64) C0.1 C0.2.1 dL_law_304 rfl ?_
  refine lv_ldc2 (pc := 305) C0.1 C0.2.1 C0.2.2.2.1 (C0.2.2.2.2.1 _ kl_L_13) dL_law_305 ?_
  refine lv_land (pc := 308) C0.1 C0.2.1 dL_law_308 ?_
  refine lv_lor (pc := 309) C0.1 C0.2.1 dL_law_309 ?_
  refine xcVIK (pc := 310) 78 [.long (x3 ||| (((xs (Int32.toNatClampNeg (k + 2))).toInt64) &&& 4294967295))] (m_closer l D tA b iM FM GM (x3 ||| (((xs (Int32.toNatClampNeg (k + 2))).toInt64) &&& 4294967295)) S hLM.2) C2 hM hC (Or.inr (by decide)) hS clX10 rfl ⟨⟨Nat.le_of_ble_eq_true rfl, Nat.le_of_ble_eq_true rfl⟩, rfl, rfl⟩ cw_L_29 rfl ⟨Nat.le_of_ble_eq_true rfl, Nat.le_of_ble_eq_true rfl⟩ hl.1 rfl (Nat.le_of_ble_eq_true rfl) dL_law_310 ⟨Nat.le_of_ble_eq_true rfl, Nat.le_of_ble_eq_true rfl⟩ (fun r4 ur4 _ locs hp hM hC hS => ?_)
  have er4 := hp
  clear hp
  refine lv_pop (pc := 313) C0.1 C0.2.1 dL_law_313 rfl ?_
  refine lv_goto (pc := 314) (tgt := 1014) C0.1 C0.2.1 dL_law_314 (by decide) ?_
  subst ex1
  subst ex3
  obtain ⟨hEQ, hLI2⟩ := LI.cl hCE hLM er2 er4
  exact NX ur2 ur4 _ _ _ hLI2 hC hM hS (lv_sub hl [0, 1, 2, 3] rfl)
set_option maxHeartbeats 4000000 in
set_option maxRecDepth 100000 in
theorem law_3 {p : Program} {l : Launch} {e : Env} {s : State} {m : MethodId} {below : List Frame} {meth : Method} {c : Code} {H : Heap} {locs : List Loc} {D : va_G} {tA : Nat → ClassId} {b sb : Nat} {xs : Nat → Int32} {ls : Array Slot} {L : Nat} {k : Int32} {uC uM : XS} (C : LW p s m meth c D tA b sb L xs) (hk : 0 ≤ k.toInt ∧ k.toInt + 4 ≤ L) (hLI : LI uC uM) (hC : Hd D tA b 0 78 zz uC.1 uC.2.1 uC.2.2 H) (hM : Hd D tA b 78 52 zz uM.1 uM.2.1 uM.2.2 H) (hS : va_S (Sb b) s.heap H locs) (hl : lv_has ls 4 [(3, .int k), (2, .ref (b + 78)), (1, .ref (b + 0)), (0, .ref sb)]) (NX : ∀ (uC uM : XS) (H : Heap) (locs : List Loc) (ls : Array Slot), LI uC uM → Hd D tA b 0 78 zz uC.1 uC.2.1 uC.2.2 H → Hd D tA b 78 52 zz uM.1 uM.2.1 uM.2.2 H → va_S (Sb b) s.heap H locs → lv_has ls 4 [(3, .int k), (2, .ref (b + 78)), (1, .ref (b + 0)), (0, .ref sb)] → W p l e room_1 s m #[Value.ref sb] below meth c H locs 130 99576 (lw_Z below #[Value.ref sb] s) (F0 m 1014 ls [])) : W p l e room_1 s m #[Value.ref sb] below meth c H locs 130 99576 (lw_Z below #[Value.ref sb] s) (F0 m 317 ls []) := by
  obtain ⟨hL, C0, C2, hX, hbl, hb, hr, hlk⟩ := id C
  have hbA : ¬ Sb b sb := by unfold Sb; omega
  have hk1 : Int32.toInt (k + 1) = k.toInt + 1 := (fb_addI (by have : Int32.toInt 1 = 1 := rfl; omega) (by have : Int32.toInt 1 = 1 := rfl; omega)).trans rfl
  have hk2 : Int32.toInt (k + 2) = k.toInt + 2 := (fb_addI (by have : Int32.toInt 2 = 2 := rfl; omega) (by have : Int32.toInt 2 = 2 := rfl; omega)).trans rfl
  have hk3 : Int32.toInt (k + 3) = k.toInt + 3 := (fb_addI (by have : Int32.toInt 3 = 3 := rfl; omega) (by have : Int32.toInt 3 = 3 := rfl; omega)).trans rfl
  obtain ⟨iC, FC, GC⟩ := uC
  obtain ⟨iM, FM, GM⟩ := uM
  obtain ⟨S, hLC, hLM, hCE⟩ := hLI
  refine lv_aload_n (pc := 317) C0.1 C0.2.1 dL_law_317 rfl (lv_at hl 2 rfl) ?_
  refine lv_aload_n (pc := 318) C0.1 C0.2.1 dL_law_318 rfl (lv_at hl 3 rfl) ?_
  refine lv_iload_n (pc := 319) C0.1 C0.2.1 dL_law_319 rfl (lv_at hl 0 rfl) ?_
  refine lv_iconst (pc := 320) (v := 1) C0.1 C0.2.1 dL_law_320 (by decide) ?_
  refine lv_iadd (pc := 321) C0.1 C0.2.1 dL_law_321 ?_
  refine va_sld (pc := 322) C0.1 C0.2.1 hX hbl hbA hS (i := k + 1) (vI (by omega) (by omega)) dL_law_322 ?_
  refine xcVIK (pc := 323) 0 [.int (xs (Int32.toNatClampNeg (k + 1)))] (g_X9_goer l D tA b iC FC GC (xs (Int32.toNatClampNeg (k + 1))) S hLC.1 hLC.2) C0 hC hM (Or.inl (by decide)) hS clX9 rfl ⟨⟨Nat.le_of_ble_eq_true rfl, Nat.le_of_ble_eq_true rfl⟩, rfl, rfl⟩ cw_L_30 rfl ⟨Nat.le_of_ble_eq_true rfl, Nat.le_of_ble_eq_true rfl⟩ hl.1 rfl (Nat.le_of_ble_eq_true rfl) dL_law_323 ⟨Nat.le_of_ble_eq_true rfl, Nat.le_of_ble_eq_true rfl⟩ (fun r1 ur1 _ locs hp hC hM hS => ?_)
  have er1 := hp
  clear hp
  refine lv_pop (pc := 326) C0.1 C0.2.1 dL_law_326 rfl ?_
  refine lv_aload_n (pc := 327) C0.1 C0.2.1 dL_law_327 rfl (lv_at hl 1 rfl) ?_
  refine lv_aload_n (pc := 328) C0.1 C0.2.1 dL_law_328 rfl (lv_at hl 3 rfl) ?_
  refine lv_iload_n (pc := 329) C0.1 C0.2.1 dL_law_329 rfl (lv_at hl 0 rfl) ?_
  refine lv_iconst (pc := 330) (v := 1) C0.1 C0.2.1 dL_law_330 (by decide) ?_
  refine lv_iadd (pc := 331) C0.1 C0.2.1 dL_law_331 ?_
  refine va_sld (pc := 332) C0.1 C0.2.1 hX hbl hbA hS (i := k + 1) (vI (by omega) (by omega)) dL_law_332 ?_
  refine xcVIK (pc := 333) 78 [.int (xs (Int32.toNatClampNeg (k + 1)))] (m_goer l D tA b iM FM GM (xs (Int32.toNatClampNeg (k + 1))) S hLM.2) C2 hM hC (Or.inr (by decide)) hS clX10 rfl ⟨⟨Nat.le_of_ble_eq_true rfl, Nat.le_of_ble_eq_true rfl⟩, rfl, rfl⟩ cw_L_34 rfl ⟨Nat.le_of_ble_eq_true rfl, Nat.le_of_ble_eq_true rfl⟩ hl.1 rfl (Nat.le_of_ble_eq_true rfl) dL_law_333 ⟨Nat.le_of_ble_eq_true rfl, Nat.le_of_ble_eq_true rfl⟩ (fun r2 ur2 _ locs hp hM hC hS => ?_)
  have er2 := hp
  clear hp
  refine lv_pop (pc := 336) C0.1 C0.2.1 dL_law_336 rfl ?_
  refine lv_goto (pc := 337) (tgt := 1014) C0.1 C0.2.1 dL_law_337 (by decide) ?_
  obtain ⟨hEQ, hLI2⟩ := LI.go hCE hLM er1 er2
  exact NX ur1 ur2 _ _ _ hLI2 hC hM hS (lv_sub hl [0, 1, 2, 3] rfl)
set_option maxHeartbeats 4000000 in
set_option maxRecDepth 100000 in
theorem law_4 {p : Program} {l : Launch} {e : Env} {s : State} {m : MethodId} {below : List Frame} {meth : Method} {c : Code} {H : Heap} {locs : List Loc} {D : va_G} {tA : Nat → ClassId} {b sb : Nat} {xs : Nat → Int32} {ls : Array Slot} {L : Nat} {k : Int32} {uC uM : XS} (C : LW p s m meth c D tA b sb L xs) (hk : 0 ≤ k.toInt ∧ k.toInt + 4 ≤ L) (hLI : LI uC uM) (hC : Hd D tA b 0 78 zz uC.1 uC.2.1 uC.2.2 H) (hM : Hd D tA b 78 52 zz uM.1 uM.2.1 uM.2.2 H) (hS : va_S (Sb b) s.heap H locs) (hl : lv_has ls 4 [(3, .int k), (2, .ref (b + 78)), (1, .ref (b + 0)), (0, .ref sb)]) (NX : ∀ (uC uM : XS) (H : Heap) (locs : List Loc) (ls : Array Slot), LI uC uM → Hd D tA b 0 78 zz uC.1 uC.2.1 uC.2.2 H → Hd D tA b 78 52 zz uM.1 uM.2.1 uM.2.2 H → va_S (Sb b) s.heap H locs → lv_has ls 4 [(3, .int k), (2, .ref (b + 78)), (1, .ref (b + 0)), (0, .ref sb)] → W p l e room_1 s m #[Value.ref sb] below meth c H locs 130 99576 (lw_Z below #[Value.ref sb] s) (F0 m 1014 ls [])) : W p l e room_1 s m #[Value.ref sb] below meth c H locs 130 99576 (lw_Z below #[Value.ref sb] s) (F0 m 340 ls []) := by
  obtain ⟨hL, C0, C2, hX, hbl, hb, hr, hlk⟩ := id C
  have hbA : ¬ Sb b sb := by unfold Sb; omega
  have hk1 : Int32.toInt (k + 1) = k.toInt + 1 := (fb_addI (by have : Int32.toInt 1 = 1 := rfl; omega) (by have : Int32.toInt 1 = 1 := rfl; omega)).trans rfl
  have hk2 : Int32.toInt (k + 2) = k.toInt + 2 := (fb_addI (by have : Int32.toInt 2 = 2 := rfl; omega) (by have : Int32.toInt 2 = 2 := rfl; omega)).trans rfl
  have hk3 : Int32.toInt (k + 3) = k.toInt + 3 := (fb_addI (by have : Int32.toInt 3 = 3 := rfl; omega) (by have : Int32.toInt 3 = 3 := rfl; omega)).trans rfl
  obtain ⟨iC, FC, GC⟩ := uC
  obtain ⟨iM, FM, GM⟩ := uM
  obtain ⟨S, hLC, hLM, hCE⟩ := hLI
  refine lv_aload_n (pc := 340) C0.1 C0.2.1 dL_law_340 rfl (lv_at hl 2 rfl) ?_
  refine lv_aload_n (pc := 341) C0.1 C0.2.1 dL_law_341 rfl (lv_at hl 3 rfl) ?_
  refine lv_iload_n (pc := 342) C0.1 C0.2.1 dL_law_342 rfl (lv_at hl 0 rfl) ?_
  refine lv_iconst (pc := 343) (v := 1) C0.1 C0.2.1 dL_law_343 (by decide) ?_
  refine lv_iadd (pc := 344) C0.1 C0.2.1 dL_law_344 ?_
  refine va_sld (pc := 345) C0.1 C0.2.1 hX hbl hbA hS (i := k + 1) (vI (by omega) (by omega)) dL_law_345 ?_
  refine xcVIK (pc := 346) 0 [.int (xs (Int32.toNatClampNeg (k + 1)))] (g_X9_tab l D tA b iC FC GC (xs (Int32.toNatClampNeg (k + 1))) S hLC.1 hLC.2) C0 hC hM (Or.inl (by decide)) hS clX9 rfl ⟨⟨Nat.le_of_ble_eq_true rfl, Nat.le_of_ble_eq_true rfl⟩, rfl, rfl⟩ cw_L_35 rfl ⟨Nat.le_of_ble_eq_true rfl, Nat.le_of_ble_eq_true rfl⟩ hl.1 rfl (Nat.le_of_ble_eq_true rfl) dL_law_346 ⟨Nat.le_of_ble_eq_true rfl, Nat.le_of_ble_eq_true rfl⟩ (fun r1 ur1 _ locs hp hC hM hS => ?_)
  have er1 := hp
  clear hp
  refine lv_pop (pc := 349) C0.1 C0.2.1 dL_law_349 rfl ?_
  refine lv_aload_n (pc := 350) C0.1 C0.2.1 dL_law_350 rfl (lv_at hl 1 rfl) ?_
  refine lv_aload_n (pc := 351) C0.1 C0.2.1 dL_law_351 rfl (lv_at hl 3 rfl) ?_
  refine lv_iload_n (pc := 352) C0.1 C0.2.1 dL_law_352 rfl (lv_at hl 0 rfl) ?_
  refine lv_iconst (pc := 353) (v := 1) C0.1 C0.2.1 dL_law_353 (by decide) ?_
  refine lv_iadd (pc := 354) C0.1 C0.2.1 dL_law_354 ?_
  refine va_sld (pc := 355) C0.1 C0.2.1 hX hbl hbA hS (i := k + 1) (vI (by omega) (by omega)) dL_law_355 ?_
  refine xcVIK (pc := 356) 78 [.int (xs (Int32.toNatClampNeg (k + 1)))] (m_tab l D tA b iM FM GM (xs (Int32.toNatClampNeg (k + 1))) S hLM.2) C2 hM hC (Or.inr (by decide)) hS clX10 rfl ⟨⟨Nat.le_of_ble_eq_true rfl, Nat.le_of_ble_eq_true rfl⟩, rfl, rfl⟩ cw_L_38 rfl ⟨Nat.le_of_ble_eq_true rfl, Nat.le_of_ble_eq_true rfl⟩ hl.1 rfl (Nat.le_of_ble_eq_true rfl) dL_law_356 ⟨Nat.le_of_ble_eq_true rfl, Nat.le_of_ble_eq_true rfl⟩ (fun r2 ur2 _ locs hp hM hC hS => ?_)
  have er2 := hp
  clear hp
  refine lv_pop (pc := 359) C0.1 C0.2.1 dL_law_359 rfl ?_
  refine lv_goto (pc := 360) (tgt := 1014) C0.1 C0.2.1 dL_law_360 (by decide) ?_
  obtain ⟨hEQ, hLI2⟩ := LI.tb hCE hLM er1 er2
  exact NX ur1 ur2 _ _ _ hLI2 hC hM hS (lv_sub hl [0, 1, 2, 3] rfl)
set_option maxHeartbeats 4000000 in
set_option maxRecDepth 100000 in
theorem law_5 {p : Program} {l : Launch} {e : Env} {s : State} {m : MethodId} {below : List Frame} {meth : Method} {c : Code} {H : Heap} {locs : List Loc} {D : va_G} {tA : Nat → ClassId} {b sb : Nat} {xs : Nat → Int32} {ls : Array Slot} {L : Nat} {k : Int32} {uC uM : XS} (C : LW p s m meth c D tA b sb L xs) (hk : 0 ≤ k.toInt ∧ k.toInt + 4 ≤ L) (hLI : LI uC uM) (hC : Hd D tA b 0 78 zz uC.1 uC.2.1 uC.2.2 H) (hM : Hd D tA b 78 52 zz uM.1 uM.2.1 uM.2.2 H) (hS : va_S (Sb b) s.heap H locs) (hl : lv_has ls 4 [(3, .int k), (2, .ref (b + 78)), (1, .ref (b + 0)), (0, .ref sb)]) (NX : ∀ (uC uM : XS) (H : Heap) (locs : List Loc) (ls : Array Slot), LI uC uM → Hd D tA b 0 78 zz uC.1 uC.2.1 uC.2.2 H → Hd D tA b 78 52 zz uM.1 uM.2.1 uM.2.2 H → va_S (Sb b) s.heap H locs → lv_has ls 4 [(3, .int k), (2, .ref (b + 78)), (1, .ref (b + 0)), (0, .ref sb)] → W p l e room_1 s m #[Value.ref sb] below meth c H locs 130 99576 (lw_Z below #[Value.ref sb] s) (F0 m 1014 ls [])) : W p l e room_1 s m #[Value.ref sb] below meth c H locs 130 99576 (lw_Z below #[Value.ref sb] s) (F0 m 363 ls []) := by
  obtain ⟨hL, C0, C2, hX, hbl, hb, hr, hlk⟩ := id C
  have hbA : ¬ Sb b sb := by unfold Sb; omega
  have hk1 : Int32.toInt (k + 1) = k.toInt + 1 := (fb_addI (by have : Int32.toInt 1 = 1 := rfl; omega) (by have : Int32.toInt 1 = 1 := rfl; omega)).trans rfl
  have hk2 : Int32.toInt (k + 2) = k.toInt + 2 := (fb_addI (by have : Int32.toInt 2 = 2 := rfl; omega) (by have : Int32.toInt 2 = 2 := rfl; omega)).trans rfl
  have hk3 : Int32.toInt (k + 3) = k.toInt + 3 := (fb_addI (by have : Int32.toInt 3 = 3 := rfl; omega) (by have : Int32.toInt 3 = 3 := rfl; omega)).trans rfl
  obtain ⟨iC, FC, GC⟩ := uC
  obtain ⟨iM, FM, GM⟩ := uM
  obtain ⟨S, hLC, hLM, hCE⟩ := hLI
  refine lv_aload_n (pc := 363) C0.1 C0.2.1 dL_law_363 rfl (lv_at hl 2 rfl) ?_
  refine lv_aload_n (pc := 364) C0.1 C0.2.1 dL_law_364 rfl (lv_at hl 3 rfl) ?_
  refine lv_iload_n (pc := 365) C0.1 C0.2.1 dL_law_365 rfl (lv_at hl 0 rfl) ?_
  refine lv_iconst (pc := 366) (v := 1) C0.1 C0.2.1 dL_law_366 (by decide) ?_
  refine lv_iadd (pc := 367) C0.1 C0.2.1 dL_law_367 ?_
  refine va_sld (pc := 368) C0.1 C0.2.1 hX hbl hbA hS (i := k + 1) (vI (by omega) (by omega)) dL_law_368 ?_
  refine lv_i2l (pc := 369) (v := (xs (Int32.toNatClampNeg (k + 1))).toInt64) C0.1 C0.2.1 dL_law_369 rfl ?_
  refine lv_bipush (pc := 370) (v := 32) C0.1 C0.2.1 dL_law_370 (by decide) ?_
  obtain ⟨x1, ex1⟩ : ∃ y : Int64, y = ((xs (Int32.toNatClampNeg (k + 1))).toInt64) <<< ((32 : Int32).toInt64 &&& 63) := ⟨_, rfl⟩
  refine lv_lshl (pc := 372) (v := x1) C0.1 C0.2.1 dL_law_372 (by rw [ex1]) ?_
  refine lv_aload_n (pc := 373) C0.1 C0.2.1 dL_law_373 rfl (lv_at hl 3 rfl) ?_
  refine lv_iload_n (pc := 374) C0.1 C0.2.1 dL_law_374 rfl (lv_at hl 0 rfl) ?_
  refine lv_iconst (pc := 375) (v := 2) C0.1 C0.2.1 dL_law_375 (by decide) ?_
  refine lv_iadd (pc := 376) C0.1 C0.2.1 dL_law_376 ?_
  refine va_sld (pc := 377) C0.1 C0.2.1 hX hbl hbA hS (i := k + 2) (vI (by omega) (by omega)) dL_law_377 ?_
  refine lv_i2l (pc := 378) (v := (xs (Int32.toNatClampNeg (k + 2))).toInt64) C0.1 C0.2.1 dL_law_378 rfl ?_
  refine lv_ldc2 (pc := 379) C0.1 C0.2.1 C0.2.2.2.1 (C0.2.2.2.2.1 _ kl_L_13) dL_law_379 ?_
  refine lv_land (pc := 382) C0.1 C0.2.1 dL_law_382 ?_
  refine lv_lor (pc := 383) C0.1 C0.2.1 dL_law_383 ?_
  refine xcVIK (pc := 384) 0 [.long (x1 ||| (((xs (Int32.toNatClampNeg (k + 2))).toInt64) &&& 4294967295))] (g_X9_feed l D tA b iC FC GC (x1 ||| (((xs (Int32.toNatClampNeg (k + 2))).toInt64) &&& 4294967295)) hLC.1 hLC.td) C0 hC hM (Or.inl (by decide)) hS clX9 rfl ⟨⟨Nat.le_of_ble_eq_true rfl, Nat.le_of_ble_eq_true rfl⟩, rfl, rfl⟩ cw_L_39 rfl ⟨Nat.le_of_ble_eq_true rfl, Nat.le_of_ble_eq_true rfl⟩ hl.1 rfl (Nat.le_of_ble_eq_true rfl) dL_law_384 ⟨Nat.le_of_ble_eq_true rfl, Nat.le_of_ble_eq_true rfl⟩ (fun r2 ur2 _ locs hp hC hM hS => ?_)
  have er2 := hp
  clear hp
  refine lv_pop (pc := 387) C0.1 C0.2.1 dL_law_387 rfl ?_
  refine lv_aload_n (pc := 388) C0.1 C0.2.1 dL_law_388 rfl (lv_at hl 1 rfl) ?_
  refine lv_aload_n (pc := 389) C0.1 C0.2.1 dL_law_389 rfl (lv_at hl 3 rfl) ?_
  refine lv_iload_n (pc := 390) C0.1 C0.2.1 dL_law_390 rfl (lv_at hl 0 rfl) ?_
  refine lv_iconst (pc := 391) (v := 1) C0.1 C0.2.1 dL_law_391 (by decide) ?_
  refine lv_iadd (pc := 392) C0.1 C0.2.1 dL_law_392 ?_
  refine va_sld (pc := 393) C0.1 C0.2.1 hX hbl hbA hS (i := k + 1) (vI (by omega) (by omega)) dL_law_393 ?_
  refine lv_i2l (pc := 394) (v := (xs (Int32.toNatClampNeg (k + 1))).toInt64) C0.1 C0.2.1 dL_law_394 rfl ?_
  refine lv_bipush (pc := 395) (v := 32) C0.1 C0.2.1 dL_law_395 (by decide) ?_
  obtain ⟨x3, ex3⟩ : ∃ y : Int64, y = ((xs (Int32.toNatClampNeg (k + 1))).toInt64) <<< ((32 : Int32).toInt64 &&& 63) := ⟨_, rfl⟩
  refine lv_lshl (pc := 397) (v := x3) C0.1 C0.2.1 dL_law_397 (by rw [ex3]) ?_
  refine lv_aload_n (pc := 398) C0.1 C0.2.1 dL_law_398 rfl (lv_at hl 3 rfl) ?_
  refine lv_iload_n (pc := 399) C0.1 C0.2.1 dL_law_399 rfl (lv_at hl 0 rfl) ?_
  refine lv_iconst (pc := 400) (v := 2) C0.1 C0.2.1 dL_law_400 (by decide) ?_
  refine lv_iadd (pc := 401) C0.1 C0.2.1 dL_law_401 ?_
  refine va_sld (pc := 402) C0.1 C0.2.1 hX hbl hbA hS (i := k + 2) (vI (by omega) (by omega)) dL_law_402 ?_
  refine lv_i2l (pc := 403) (v := (xs (Int32.toNatClampNeg (k + 2))).toInt64) C0.1 C0.2.1 dL_law_403 rfl ?_
  refine lv_ldc2 (pc := 404) C0.1 C0.2.1 C0.2.2.2.1 (C0.2.2.2.2.1 _ kl_L_13) dL_law_404 ?_
  refine lv_land (pc := 407) C0.1 C0.2.1 dL_law_407 ?_
  refine lv_lor (pc := 408) C0.1 C0.2.1 dL_law_408 ?_
  refine xcVIK (pc := 409) 78 [.long (x3 ||| (((xs (Int32.toNatClampNeg (k + 2))).toInt64) &&& 4294967295))] (m_feed l D tA b iM FM GM (x3 ||| (((xs (Int32.toNatClampNeg (k + 2))).toInt64) &&& 4294967295)) hLM.1.1 hLM.1.2.1) C2 hM hC (Or.inr (by decide)) hS clX10 rfl ⟨⟨Nat.le_of_ble_eq_true rfl, Nat.le_of_ble_eq_true rfl⟩, rfl, rfl⟩ cw_L_42 rfl ⟨Nat.le_of_ble_eq_true rfl, Nat.le_of_ble_eq_true rfl⟩ hl.1 rfl (Nat.le_of_ble_eq_true rfl) dL_law_409 ⟨Nat.le_of_ble_eq_true rfl, Nat.le_of_ble_eq_true rfl⟩ (fun r4 ur4 _ locs hp hM hC hS => ?_)
  have er4 := hp
  clear hp
  refine lv_pop (pc := 412) C0.1 C0.2.1 dL_law_412 rfl ?_
  refine lv_goto (pc := 413) (tgt := 1014) C0.1 C0.2.1 dL_law_413 (by decide) ?_
  subst ex1
  subst ex3
  have hLI2 := LI.a hCE (LC.sb hLC er2) (LM.tx hLM er4)
  exact NX ur2 ur4 _ _ _ hLI2 hC hM hS (lv_sub hl [0, 1, 2, 3] rfl)
set_option maxHeartbeats 4000000 in
set_option maxRecDepth 100000 in
theorem law_6 {p : Program} {l : Launch} {e : Env} {s : State} {m : MethodId} {below : List Frame} {meth : Method} {c : Code} {H : Heap} {locs : List Loc} {D : va_G} {tA : Nat → ClassId} {b sb : Nat} {xs : Nat → Int32} {ls : Array Slot} {L : Nat} {k : Int32} {uC uM : XS} (C : LW p s m meth c D tA b sb L xs) (hk : 0 ≤ k.toInt ∧ k.toInt + 4 ≤ L) (hLI : LI uC uM) (hC : Hd D tA b 0 78 zz uC.1 uC.2.1 uC.2.2 H) (hM : Hd D tA b 78 52 zz uM.1 uM.2.1 uM.2.2 H) (hS : va_S (Sb b) s.heap H locs) (hl : lv_has ls 4 [(3, .int k), (2, .ref (b + 78)), (1, .ref (b + 0)), (0, .ref sb)]) (NX : ∀ (uC uM : XS) (H : Heap) (locs : List Loc) (ls : Array Slot), LI uC uM → Hd D tA b 0 78 zz uC.1 uC.2.1 uC.2.2 H → Hd D tA b 78 52 zz uM.1 uM.2.1 uM.2.2 H → va_S (Sb b) s.heap H locs → lv_has ls 4 [(3, .int k), (2, .ref (b + 78)), (1, .ref (b + 0)), (0, .ref sb)] → W p l e room_1 s m #[Value.ref sb] below meth c H locs 130 99576 (lw_Z below #[Value.ref sb] s) (F0 m 1014 ls [])) : W p l e room_1 s m #[Value.ref sb] below meth c H locs 130 99576 (lw_Z below #[Value.ref sb] s) (F0 m 416 ls []) := by
  obtain ⟨hL, C0, C2, hX, hbl, hb, hr, hlk⟩ := id C
  have hbA : ¬ Sb b sb := by unfold Sb; omega
  have hk1 : Int32.toInt (k + 1) = k.toInt + 1 := (fb_addI (by have : Int32.toInt 1 = 1 := rfl; omega) (by have : Int32.toInt 1 = 1 := rfl; omega)).trans rfl
  have hk2 : Int32.toInt (k + 2) = k.toInt + 2 := (fb_addI (by have : Int32.toInt 2 = 2 := rfl; omega) (by have : Int32.toInt 2 = 2 := rfl; omega)).trans rfl
  have hk3 : Int32.toInt (k + 3) = k.toInt + 3 := (fb_addI (by have : Int32.toInt 3 = 3 := rfl; omega) (by have : Int32.toInt 3 = 3 := rfl; omega)).trans rfl
  obtain ⟨iC, FC, GC⟩ := uC
  obtain ⟨iM, FM, GM⟩ := uM
  obtain ⟨S, hLC, hLM, hCE⟩ := hLI
  refine lv_aload_n (pc := 416) C0.1 C0.2.1 dL_law_416 rfl (lv_at hl 2 rfl) ?_
  refine lv_aload_n (pc := 417) C0.1 C0.2.1 dL_law_417 rfl (lv_at hl 3 rfl) ?_
  refine lv_iload_n (pc := 418) C0.1 C0.2.1 dL_law_418 rfl (lv_at hl 0 rfl) ?_
  refine lv_iconst (pc := 419) (v := 1) C0.1 C0.2.1 dL_law_419 (by decide) ?_
  refine lv_iadd (pc := 420) C0.1 C0.2.1 dL_law_420 ?_
  refine va_sld (pc := 421) C0.1 C0.2.1 hX hbl hbA hS (i := k + 1) (vI (by omega) (by omega)) dL_law_421 ?_
  refine xcVIK (pc := 422) 0 [.int (xs (Int32.toNatClampNeg (k + 1)))] (g_X9_cut l D tA b iC FC GC (xs (Int32.toNatClampNeg (k + 1))) hLC.1 hLC.td) C0 hC hM (Or.inl (by decide)) hS clX9 rfl ⟨⟨Nat.le_of_ble_eq_true rfl, Nat.le_of_ble_eq_true rfl⟩, rfl, rfl⟩ cw_L_43 rfl ⟨Nat.le_of_ble_eq_true rfl, Nat.le_of_ble_eq_true rfl⟩ hl.1 rfl (Nat.le_of_ble_eq_true rfl) dL_law_422 ⟨Nat.le_of_ble_eq_true rfl, Nat.le_of_ble_eq_true rfl⟩ (fun r1 ur1 _ locs hp hC hM hS => ?_)
  have er1 := hp
  clear hp
  refine lv_pop (pc := 425) C0.1 C0.2.1 dL_law_425 rfl ?_
  refine lv_aload_n (pc := 426) C0.1 C0.2.1 dL_law_426 rfl (lv_at hl 1 rfl) ?_
  refine lv_aload_n (pc := 427) C0.1 C0.2.1 dL_law_427 rfl (lv_at hl 3 rfl) ?_
  refine lv_iload_n (pc := 428) C0.1 C0.2.1 dL_law_428 rfl (lv_at hl 0 rfl) ?_
  refine lv_iconst (pc := 429) (v := 1) C0.1 C0.2.1 dL_law_429 (by decide) ?_
  refine lv_iadd (pc := 430) C0.1 C0.2.1 dL_law_430 ?_
  refine va_sld (pc := 431) C0.1 C0.2.1 hX hbl hbA hS (i := k + 1) (vI (by omega) (by omega)) dL_law_431 ?_
  refine xcVIK (pc := 432) 78 [.int (xs (Int32.toNatClampNeg (k + 1)))] (m_cut l D tA b iM FM GM (xs (Int32.toNatClampNeg (k + 1))) hLM.1.1 hLM.1.2.1) C2 hM hC (Or.inr (by decide)) hS clX10 rfl ⟨⟨Nat.le_of_ble_eq_true rfl, Nat.le_of_ble_eq_true rfl⟩, rfl, rfl⟩ cw_L_46 rfl ⟨Nat.le_of_ble_eq_true rfl, Nat.le_of_ble_eq_true rfl⟩ hl.1 rfl (Nat.le_of_ble_eq_true rfl) dL_law_432 ⟨Nat.le_of_ble_eq_true rfl, Nat.le_of_ble_eq_true rfl⟩ (fun r2 ur2 _ locs hp hM hC hS => ?_)
  have er2 := hp
  clear hp
  refine lv_pop (pc := 435) C0.1 C0.2.1 dL_law_435 rfl ?_
  refine lv_goto (pc := 436) (tgt := 1014) C0.1 C0.2.1 dL_law_436 (by decide) ?_
  have hLI2 := LI.a hCE (LC.sb hLC er1) (LM.tx hLM er2)
  exact NX ur1 ur2 _ _ _ hLI2 hC hM hS (lv_sub hl [0, 1, 2, 3] rfl)
set_option maxHeartbeats 4000000 in
set_option maxRecDepth 100000 in
theorem law_7 {p : Program} {l : Launch} {e : Env} {s : State} {m : MethodId} {below : List Frame} {meth : Method} {c : Code} {H : Heap} {locs : List Loc} {D : va_G} {tA : Nat → ClassId} {b sb : Nat} {xs : Nat → Int32} {ls : Array Slot} {L : Nat} {k : Int32} {uC uM : XS} (C : LW p s m meth c D tA b sb L xs) (hk : 0 ≤ k.toInt ∧ k.toInt + 4 ≤ L) (hLI : LI uC uM) (hC : Hd D tA b 0 78 zz uC.1 uC.2.1 uC.2.2 H) (hM : Hd D tA b 78 52 zz uM.1 uM.2.1 uM.2.2 H) (hS : va_S (Sb b) s.heap H locs) (hl : lv_has ls 4 [(3, .int k), (2, .ref (b + 78)), (1, .ref (b + 0)), (0, .ref sb)]) (NX : ∀ (uC uM : XS) (H : Heap) (locs : List Loc) (ls : Array Slot), LI uC uM → Hd D tA b 0 78 zz uC.1 uC.2.1 uC.2.2 H → Hd D tA b 78 52 zz uM.1 uM.2.1 uM.2.2 H → va_S (Sb b) s.heap H locs → lv_has ls 4 [(3, .int k), (2, .ref (b + 78)), (1, .ref (b + 0)), (0, .ref sb)] → W p l e room_1 s m #[Value.ref sb] below meth c H locs 130 99576 (lw_Z below #[Value.ref sb] s) (F0 m 1014 ls [])) : W p l e room_1 s m #[Value.ref sb] below meth c H locs 130 99576 (lw_Z below #[Value.ref sb] s) (F0 m 439 ls []) := by
  obtain ⟨hL, C0, C2, hX, hbl, hb, hr, hlk⟩ := id C
  have hbA : ¬ Sb b sb := by unfold Sb; omega
  have hk1 : Int32.toInt (k + 1) = k.toInt + 1 := (fb_addI (by have : Int32.toInt 1 = 1 := rfl; omega) (by have : Int32.toInt 1 = 1 := rfl; omega)).trans rfl
  have hk2 : Int32.toInt (k + 2) = k.toInt + 2 := (fb_addI (by have : Int32.toInt 2 = 2 := rfl; omega) (by have : Int32.toInt 2 = 2 := rfl; omega)).trans rfl
  have hk3 : Int32.toInt (k + 3) = k.toInt + 3 := (fb_addI (by have : Int32.toInt 3 = 3 := rfl; omega) (by have : Int32.toInt 3 = 3 := rfl; omega)).trans rfl
  obtain ⟨iC, FC, GC⟩ := uC
  obtain ⟨iM, FM, GM⟩ := uM
  obtain ⟨S, hLC, hLM, hCE⟩ := hLI
  refine lv_aload_n (pc := 439) C0.1 C0.2.1 dL_law_439 rfl (lv_at hl 2 rfl) ?_
  refine lv_aload_n (pc := 440) C0.1 C0.2.1 dL_law_440 rfl (lv_at hl 3 rfl) ?_
  refine lv_iload_n (pc := 441) C0.1 C0.2.1 dL_law_441 rfl (lv_at hl 0 rfl) ?_
  refine lv_iconst (pc := 442) (v := 1) C0.1 C0.2.1 dL_law_442 (by decide) ?_
  refine lv_iadd (pc := 443) C0.1 C0.2.1 dL_law_443 ?_
  refine va_sld (pc := 444) C0.1 C0.2.1 hX hbl hbA hS (i := k + 1) (vI (by omega) (by omega)) dL_law_444 ?_
  refine lv_aload_n (pc := 445) C0.1 C0.2.1 dL_law_445 rfl (lv_at hl 3 rfl) ?_
  refine lv_iload_n (pc := 446) C0.1 C0.2.1 dL_law_446 rfl (lv_at hl 0 rfl) ?_
  refine lv_iconst (pc := 447) (v := 2) C0.1 C0.2.1 dL_law_447 (by decide) ?_
  refine lv_iadd (pc := 448) C0.1 C0.2.1 dL_law_448 ?_
  refine va_sld (pc := 449) C0.1 C0.2.1 hX hbl hbA hS (i := k + 2) (vI (by omega) (by omega)) dL_law_449 ?_
  refine xcVIK (pc := 450) 0 [.int (xs (Int32.toNatClampNeg (k + 1))), .int (xs (Int32.toNatClampNeg (k + 2)))] (g_X9_shift l D tA b iC FC GC (xs (Int32.toNatClampNeg (k + 1))) (xs (Int32.toNatClampNeg (k + 2))) hLC.1 hLC.td) C0 hC hM (Or.inl (by decide)) hS clX9 rfl ⟨⟨Nat.le_of_ble_eq_true rfl, Nat.le_of_ble_eq_true rfl⟩, rfl, rfl⟩ cw_L_47 rfl ⟨Nat.le_of_ble_eq_true rfl, Nat.le_of_ble_eq_true rfl⟩ hl.1 rfl (Nat.le_of_ble_eq_true rfl) dL_law_450 ⟨Nat.le_of_ble_eq_true rfl, Nat.le_of_ble_eq_true rfl⟩ (fun r1 ur1 _ locs hp hC hM hS => ?_)
  have er1 := hp
  clear hp
  refine lv_pop (pc := 453) C0.1 C0.2.1 dL_law_453 rfl ?_
  refine lv_aload_n (pc := 454) C0.1 C0.2.1 dL_law_454 rfl (lv_at hl 1 rfl) ?_
  refine lv_aload_n (pc := 455) C0.1 C0.2.1 dL_law_455 rfl (lv_at hl 3 rfl) ?_
  refine lv_iload_n (pc := 456) C0.1 C0.2.1 dL_law_456 rfl (lv_at hl 0 rfl) ?_
  refine lv_iconst (pc := 457) (v := 1) C0.1 C0.2.1 dL_law_457 (by decide) ?_
  refine lv_iadd (pc := 458) C0.1 C0.2.1 dL_law_458 ?_
  refine va_sld (pc := 459) C0.1 C0.2.1 hX hbl hbA hS (i := k + 1) (vI (by omega) (by omega)) dL_law_459 ?_
  refine lv_aload_n (pc := 460) C0.1 C0.2.1 dL_law_460 rfl (lv_at hl 3 rfl) ?_
  refine lv_iload_n (pc := 461) C0.1 C0.2.1 dL_law_461 rfl (lv_at hl 0 rfl) ?_
  refine lv_iconst (pc := 462) (v := 2) C0.1 C0.2.1 dL_law_462 (by decide) ?_
  refine lv_iadd (pc := 463) C0.1 C0.2.1 dL_law_463 ?_
  refine va_sld (pc := 464) C0.1 C0.2.1 hX hbl hbA hS (i := k + 2) (vI (by omega) (by omega)) dL_law_464 ?_
  refine xcVIK (pc := 465) 78 [.int (xs (Int32.toNatClampNeg (k + 1))), .int (xs (Int32.toNatClampNeg (k + 2)))] (m_shift l D tA b iM FM GM (xs (Int32.toNatClampNeg (k + 1))) (xs (Int32.toNatClampNeg (k + 2))) hLM.1.1 hLM.1.2.1) C2 hM hC (Or.inr (by decide)) hS clX10 rfl ⟨⟨Nat.le_of_ble_eq_true rfl, Nat.le_of_ble_eq_true rfl⟩, rfl, rfl⟩ cw_L_50 rfl ⟨Nat.le_of_ble_eq_true rfl, Nat.le_of_ble_eq_true rfl⟩ hl.1 rfl (Nat.le_of_ble_eq_true rfl) dL_law_465 ⟨Nat.le_of_ble_eq_true rfl, Nat.le_of_ble_eq_true rfl⟩ (fun r2 ur2 _ locs hp hM hC hS => ?_)
  have er2 := hp
  clear hp
  refine lv_pop (pc := 468) C0.1 C0.2.1 dL_law_468 rfl ?_
  refine lv_goto (pc := 469) (tgt := 1014) C0.1 C0.2.1 dL_law_469 (by decide) ?_
  have hLI2 := LI.a hCE (LC.sb hLC er1) (LM.tx hLM er2)
  exact NX ur1 ur2 _ _ _ hLI2 hC hM hS (lv_sub hl [0, 1, 2, 3] rfl)
set_option maxHeartbeats 4000000 in
set_option maxRecDepth 100000 in
theorem law_8 {p : Program} {l : Launch} {e : Env} {s : State} {m : MethodId} {below : List Frame} {meth : Method} {c : Code} {H : Heap} {locs : List Loc} {D : va_G} {tA : Nat → ClassId} {b sb : Nat} {xs : Nat → Int32} {ls : Array Slot} {L : Nat} {k : Int32} {uC uM : XS} (C : LW p s m meth c D tA b sb L xs) (hk : 0 ≤ k.toInt ∧ k.toInt + 4 ≤ L) (hLI : LI uC uM) (hC : Hd D tA b 0 78 zz uC.1 uC.2.1 uC.2.2 H) (hM : Hd D tA b 78 52 zz uM.1 uM.2.1 uM.2.2 H) (hS : va_S (Sb b) s.heap H locs) (hl : lv_has ls 4 [(3, .int k), (2, .ref (b + 78)), (1, .ref (b + 0)), (0, .ref sb)]) (NX : ∀ (uC uM : XS) (H : Heap) (locs : List Loc) (ls : Array Slot), LI uC uM → Hd D tA b 0 78 zz uC.1 uC.2.1 uC.2.2 H → Hd D tA b 78 52 zz uM.1 uM.2.1 uM.2.2 H → va_S (Sb b) s.heap H locs → lv_has ls 4 [(3, .int k), (2, .ref (b + 78)), (1, .ref (b + 0)), (0, .ref sb)] → W p l e room_1 s m #[Value.ref sb] below meth c H locs 130 99576 (lw_Z below #[Value.ref sb] s) (F0 m 1014 ls [])) : W p l e room_1 s m #[Value.ref sb] below meth c H locs 130 99576 (lw_Z below #[Value.ref sb] s) (F0 m 472 ls []) := by
  obtain ⟨hL, C0, C2, hX, hbl, hb, hr, hlk⟩ := id C
  have hbA : ¬ Sb b sb := by unfold Sb; omega
  have hk1 : Int32.toInt (k + 1) = k.toInt + 1 := (fb_addI (by have : Int32.toInt 1 = 1 := rfl; omega) (by have : Int32.toInt 1 = 1 := rfl; omega)).trans rfl
  have hk2 : Int32.toInt (k + 2) = k.toInt + 2 := (fb_addI (by have : Int32.toInt 2 = 2 := rfl; omega) (by have : Int32.toInt 2 = 2 := rfl; omega)).trans rfl
  have hk3 : Int32.toInt (k + 3) = k.toInt + 3 := (fb_addI (by have : Int32.toInt 3 = 3 := rfl; omega) (by have : Int32.toInt 3 = 3 := rfl; omega)).trans rfl
  obtain ⟨iC, FC, GC⟩ := uC
  obtain ⟨iM, FM, GM⟩ := uM
  obtain ⟨S, hLC, hLM, hCE⟩ := hLI
  refine lv_aload_n (pc := 472) C0.1 C0.2.1 dL_law_472 rfl (lv_at hl 2 rfl) ?_
  refine xcVIK (pc := 473) 0 [] (g_X9_keep l D tA b iC FC GC  hLC.1 hLC.td) C0 hC hM (Or.inl (by decide)) hS clX9 rfl ⟨⟨Nat.le_of_ble_eq_true rfl, Nat.le_of_ble_eq_true rfl⟩, rfl, rfl⟩ cw_L_51 rfl ⟨Nat.le_of_ble_eq_true rfl, Nat.le_of_ble_eq_true rfl⟩ hl.1 rfl (Nat.le_of_ble_eq_true rfl) dL_law_473 ⟨Nat.le_of_ble_eq_true rfl, Nat.le_of_ble_eq_true rfl⟩ (fun r1 ur1 _ locs hp hC hM hS => ?_)
  have er1 := hp
  clear hp
  refine lv_pop (pc := 476) C0.1 C0.2.1 dL_law_476 rfl ?_
  refine lv_aload_n (pc := 477) C0.1 C0.2.1 dL_law_477 rfl (lv_at hl 1 rfl) ?_
  refine xcVIK (pc := 478) 78 [] (m_keep l D tA b iM FM GM  hLM.1.1 hLM.1.2.1) C2 hM hC (Or.inr (by decide)) hS clX10 rfl ⟨⟨Nat.le_of_ble_eq_true rfl, Nat.le_of_ble_eq_true rfl⟩, rfl, rfl⟩ cw_L_55 rfl ⟨Nat.le_of_ble_eq_true rfl, Nat.le_of_ble_eq_true rfl⟩ hl.1 rfl (Nat.le_of_ble_eq_true rfl) dL_law_478 ⟨Nat.le_of_ble_eq_true rfl, Nat.le_of_ble_eq_true rfl⟩ (fun r2 ur2 _ locs hp hM hC hS => ?_)
  have er2 := hp
  clear hp
  refine lv_pop (pc := 481) C0.1 C0.2.1 dL_law_481 rfl ?_
  refine lv_goto (pc := 482) (tgt := 1014) C0.1 C0.2.1 dL_law_482 (by decide) ?_
  have hLI2 := LI.a hCE (LC.sb hLC er1) (LM.kt hLM er2)
  exact NX ur1 ur2 _ _ _ hLI2 hC hM hS (lv_sub hl [0, 1, 2, 3] rfl)
set_option maxHeartbeats 4000000 in
set_option maxRecDepth 100000 in
theorem law_9 {p : Program} {l : Launch} {e : Env} {s : State} {m : MethodId} {below : List Frame} {meth : Method} {c : Code} {H : Heap} {locs : List Loc} {D : va_G} {tA : Nat → ClassId} {b sb : Nat} {xs : Nat → Int32} {ls : Array Slot} {L : Nat} {k : Int32} {uC uM : XS} (C : LW p s m meth c D tA b sb L xs) (hk : 0 ≤ k.toInt ∧ k.toInt + 4 ≤ L) (hLI : LI uC uM) (hC : Hd D tA b 0 78 zz uC.1 uC.2.1 uC.2.2 H) (hM : Hd D tA b 78 52 zz uM.1 uM.2.1 uM.2.2 H) (hS : va_S (Sb b) s.heap H locs) (hl : lv_has ls 4 [(3, .int k), (2, .ref (b + 78)), (1, .ref (b + 0)), (0, .ref sb)]) (NX : ∀ (uC uM : XS) (H : Heap) (locs : List Loc) (ls : Array Slot), LI uC uM → Hd D tA b 0 78 zz uC.1 uC.2.1 uC.2.2 H → Hd D tA b 78 52 zz uM.1 uM.2.1 uM.2.2 H → va_S (Sb b) s.heap H locs → lv_has ls 4 [(3, .int k), (2, .ref (b + 78)), (1, .ref (b + 0)), (0, .ref sb)] → W p l e room_1 s m #[Value.ref sb] below meth c H locs 130 99576 (lw_Z below #[Value.ref sb] s) (F0 m 1014 ls [])) : W p l e room_1 s m #[Value.ref sb] below meth c H locs 130 99576 (lw_Z below #[Value.ref sb] s) (F0 m 485 ls []) := by
  obtain ⟨hL, C0, C2, hX, hbl, hb, hr, hlk⟩ := id C
  have hbA : ¬ Sb b sb := by unfold Sb; omega
  have hk1 : Int32.toInt (k + 1) = k.toInt + 1 := (fb_addI (by have : Int32.toInt 1 = 1 := rfl; omega) (by have : Int32.toInt 1 = 1 := rfl; omega)).trans rfl
  have hk2 : Int32.toInt (k + 2) = k.toInt + 2 := (fb_addI (by have : Int32.toInt 2 = 2 := rfl; omega) (by have : Int32.toInt 2 = 2 := rfl; omega)).trans rfl
  have hk3 : Int32.toInt (k + 3) = k.toInt + 3 := (fb_addI (by have : Int32.toInt 3 = 3 := rfl; omega) (by have : Int32.toInt 3 = 3 := rfl; omega)).trans rfl
  obtain ⟨iC, FC, GC⟩ := uC
  obtain ⟨iM, FM, GM⟩ := uM
  obtain ⟨S, hLC, hLM, hCE⟩ := hLI
  refine lv_aload_n (pc := 485) C0.1 C0.2.1 dL_law_485 rfl (lv_at hl 2 rfl) ?_
  refine lv_aload_n (pc := 486) C0.1 C0.2.1 dL_law_486 rfl (lv_at hl 3 rfl) ?_
  refine lv_iload_n (pc := 487) C0.1 C0.2.1 dL_law_487 rfl (lv_at hl 0 rfl) ?_
  refine lv_iconst (pc := 488) (v := 1) C0.1 C0.2.1 dL_law_488 (by decide) ?_
  refine lv_iadd (pc := 489) C0.1 C0.2.1 dL_law_489 ?_
  refine va_sld (pc := 490) C0.1 C0.2.1 hX hbl hbA hS (i := k + 1) (vI (by omega) (by omega)) dL_law_490 ?_
  refine xcVIK (pc := 491) 0 [.int (xs (Int32.toNatClampNeg (k + 1)))] (g_X9_byteAt l D tA b iC FC GC (xs (Int32.toNatClampNeg (k + 1))) hLC.1) C0 hC hM (Or.inl (by decide)) hS clX9 rfl ⟨⟨Nat.le_of_ble_eq_true rfl, Nat.le_of_ble_eq_true rfl⟩, rfl, rfl⟩ cw_L_56 rfl ⟨Nat.le_of_ble_eq_true rfl, Nat.le_of_ble_eq_true rfl⟩ hl.1 rfl (Nat.le_of_ble_eq_true rfl) dL_law_491 ⟨Nat.le_of_ble_eq_true rfl, Nat.le_of_ble_eq_true rfl⟩ (fun r1 ur1 _ locs hp hC hM hS => ?_)
  have er1 := hp
  clear hp
  refine lv_pop (pc := 494) C0.1 C0.2.1 dL_law_494 rfl ?_
  refine lv_aload_n (pc := 495) C0.1 C0.2.1 dL_law_495 rfl (lv_at hl 1 rfl) ?_
  refine lv_aload_n (pc := 496) C0.1 C0.2.1 dL_law_496 rfl (lv_at hl 3 rfl) ?_
  refine lv_iload_n (pc := 497) C0.1 C0.2.1 dL_law_497 rfl (lv_at hl 0 rfl) ?_
  refine lv_iconst (pc := 498) (v := 1) C0.1 C0.2.1 dL_law_498 (by decide) ?_
  refine lv_iadd (pc := 499) C0.1 C0.2.1 dL_law_499 ?_
  refine va_sld (pc := 500) C0.1 C0.2.1 hX hbl hbA hS (i := k + 1) (vI (by omega) (by omega)) dL_law_500 ?_
  refine xcVIK (pc := 501) 78 [.int (xs (Int32.toNatClampNeg (k + 1)))] (m_byteAt l D tA b iM FM GM (xs (Int32.toNatClampNeg (k + 1))) hLM.1.1) C2 hM hC (Or.inr (by decide)) hS clX10 rfl ⟨⟨Nat.le_of_ble_eq_true rfl, Nat.le_of_ble_eq_true rfl⟩, rfl, rfl⟩ cw_L_59 rfl ⟨Nat.le_of_ble_eq_true rfl, Nat.le_of_ble_eq_true rfl⟩ hl.1 rfl (Nat.le_of_ble_eq_true rfl) dL_law_501 ⟨Nat.le_of_ble_eq_true rfl, Nat.le_of_ble_eq_true rfl⟩ (fun r2 ur2 _ locs hp hM hC hS => ?_)
  have er2 := hp
  clear hp
  refine lv_pop (pc := 504) C0.1 C0.2.1 dL_law_504 rfl ?_
  refine lv_goto (pc := 505) (tgt := 1014) C0.1 C0.2.1 dL_law_505 (by decide) ?_
  have hLI2 := LI.a hCE (LC.pu hLC er1) (LM.pu hLM er2)
  exact NX ur1 ur2 _ _ _ hLI2 hC hM hS (lv_sub hl [0, 1, 2, 3] rfl)
set_option maxHeartbeats 4000000 in
set_option maxRecDepth 100000 in
theorem law_10 {p : Program} {l : Launch} {e : Env} {s : State} {m : MethodId} {below : List Frame} {meth : Method} {c : Code} {H : Heap} {locs : List Loc} {D : va_G} {tA : Nat → ClassId} {b sb : Nat} {xs : Nat → Int32} {ls : Array Slot} {L : Nat} {k : Int32} {uC uM : XS} (C : LW p s m meth c D tA b sb L xs) (hk : 0 ≤ k.toInt ∧ k.toInt + 4 ≤ L) (hLI : LI uC uM) (hC : Hd D tA b 0 78 zz uC.1 uC.2.1 uC.2.2 H) (hM : Hd D tA b 78 52 zz uM.1 uM.2.1 uM.2.2 H) (hS : va_S (Sb b) s.heap H locs) (hl : lv_has ls 4 [(3, .int k), (2, .ref (b + 78)), (1, .ref (b + 0)), (0, .ref sb)]) (NX : ∀ (uC uM : XS) (H : Heap) (locs : List Loc) (ls : Array Slot), LI uC uM → Hd D tA b 0 78 zz uC.1 uC.2.1 uC.2.2 H → Hd D tA b 78 52 zz uM.1 uM.2.1 uM.2.2 H → va_S (Sb b) s.heap H locs → lv_has ls 4 [(3, .int k), (2, .ref (b + 78)), (1, .ref (b + 0)), (0, .ref sb)] → W p l e room_1 s m #[Value.ref sb] below meth c H locs 130 99576 (lw_Z below #[Value.ref sb] s) (F0 m 1014 ls [])) : W p l e room_1 s m #[Value.ref sb] below meth c H locs 130 99576 (lw_Z below #[Value.ref sb] s) (F0 m 508 ls []) := by
  obtain ⟨hL, C0, C2, hX, hbl, hb, hr, hlk⟩ := id C
  have hbA : ¬ Sb b sb := by unfold Sb; omega
  have hk1 : Int32.toInt (k + 1) = k.toInt + 1 := (fb_addI (by have : Int32.toInt 1 = 1 := rfl; omega) (by have : Int32.toInt 1 = 1 := rfl; omega)).trans rfl
  have hk2 : Int32.toInt (k + 2) = k.toInt + 2 := (fb_addI (by have : Int32.toInt 2 = 2 := rfl; omega) (by have : Int32.toInt 2 = 2 := rfl; omega)).trans rfl
  have hk3 : Int32.toInt (k + 3) = k.toInt + 3 := (fb_addI (by have : Int32.toInt 3 = 3 := rfl; omega) (by have : Int32.toInt 3 = 3 := rfl; omega)).trans rfl
  obtain ⟨iC, FC, GC⟩ := uC
  obtain ⟨iM, FM, GM⟩ := uM
  obtain ⟨S, hLC, hLM, hCE⟩ := hLI
  refine lv_aload_n (pc := 508) C0.1 C0.2.1 dL_law_508 rfl (lv_at hl 2 rfl) ?_
  refine xcVIK (pc := 509) 0 [] (g_X9_read l D tA b iC FC GC  hLC.1 hLC.td) C0 hC hM (Or.inl (by decide)) hS clX9 rfl ⟨⟨Nat.le_of_ble_eq_true rfl, Nat.le_of_ble_eq_true rfl⟩, rfl, rfl⟩ cw_L_60 rfl ⟨Nat.le_of_ble_eq_true rfl, Nat.le_of_ble_eq_true rfl⟩ hl.1 rfl (Nat.le_of_ble_eq_true rfl) dL_law_509 ⟨Nat.le_of_ble_eq_true rfl, Nat.le_of_ble_eq_true rfl⟩ (fun r1 ur1 _ locs hp hC hM hS => ?_)
  have er1 := hp
  clear hp
  refine lv_pop (pc := 512) C0.1 C0.2.1 dL_law_512 rfl ?_
  refine lv_aload_n (pc := 513) C0.1 C0.2.1 dL_law_513 rfl (lv_at hl 1 rfl) ?_
  refine xcVIK (pc := 514) 78 [] (m_read l D tA b iM FM GM  hLM.1 hLM.br) C2 hM hC (Or.inr (by decide)) hS clX10 rfl ⟨⟨Nat.le_of_ble_eq_true rfl, Nat.le_of_ble_eq_true rfl⟩, rfl, rfl⟩ cw_L_63 rfl ⟨Nat.le_of_ble_eq_true rfl, Nat.le_of_ble_eq_true rfl⟩ hl.1 rfl (Nat.le_of_ble_eq_true rfl) dL_law_514 ⟨Nat.le_of_ble_eq_true rfl, Nat.le_of_ble_eq_true rfl⟩ (fun r2 ur2 _ locs hp hM hC hS => ?_)
  have er2 := hp
  clear hp
  refine lv_pop (pc := 517) C0.1 C0.2.1 dL_law_517 rfl ?_
  refine lv_goto (pc := 518) (tgt := 1014) C0.1 C0.2.1 dL_law_518 (by decide) ?_
  have hLI2 := LI.a hCE (LC.sb hLC er1) (LM.mp hLM (by decide) (by decide) er2.1 er2.2)
  exact NX ur1 ur2 _ _ _ hLI2 hC hM hS (lv_sub hl [0, 1, 2, 3] rfl)
set_option maxHeartbeats 4000000 in
set_option maxRecDepth 100000 in
theorem law_11 {p : Program} {l : Launch} {e : Env} {s : State} {m : MethodId} {below : List Frame} {meth : Method} {c : Code} {H : Heap} {locs : List Loc} {D : va_G} {tA : Nat → ClassId} {b sb : Nat} {xs : Nat → Int32} {ls : Array Slot} {L : Nat} {k : Int32} {uC uM : XS} (C : LW p s m meth c D tA b sb L xs) (hk : 0 ≤ k.toInt ∧ k.toInt + 4 ≤ L) (hLI : LI uC uM) (hC : Hd D tA b 0 78 zz uC.1 uC.2.1 uC.2.2 H) (hM : Hd D tA b 78 52 zz uM.1 uM.2.1 uM.2.2 H) (hS : va_S (Sb b) s.heap H locs) (hl : lv_has ls 4 [(3, .int k), (2, .ref (b + 78)), (1, .ref (b + 0)), (0, .ref sb)]) (NX : ∀ (uC uM : XS) (H : Heap) (locs : List Loc) (ls : Array Slot), LI uC uM → Hd D tA b 0 78 zz uC.1 uC.2.1 uC.2.2 H → Hd D tA b 78 52 zz uM.1 uM.2.1 uM.2.2 H → va_S (Sb b) s.heap H locs → lv_has ls 4 [(3, .int k), (2, .ref (b + 78)), (1, .ref (b + 0)), (0, .ref sb)] → W p l e room_1 s m #[Value.ref sb] below meth c H locs 130 99576 (lw_Z below #[Value.ref sb] s) (F0 m 1014 ls [])) : W p l e room_1 s m #[Value.ref sb] below meth c H locs 130 99576 (lw_Z below #[Value.ref sb] s) (F0 m 521 ls []) := by
  obtain ⟨hL, C0, C2, hX, hbl, hb, hr, hlk⟩ := id C
  have hbA : ¬ Sb b sb := by unfold Sb; omega
  have hk1 : Int32.toInt (k + 1) = k.toInt + 1 := (fb_addI (by have : Int32.toInt 1 = 1 := rfl; omega) (by have : Int32.toInt 1 = 1 := rfl; omega)).trans rfl
  have hk2 : Int32.toInt (k + 2) = k.toInt + 2 := (fb_addI (by have : Int32.toInt 2 = 2 := rfl; omega) (by have : Int32.toInt 2 = 2 := rfl; omega)).trans rfl
  have hk3 : Int32.toInt (k + 3) = k.toInt + 3 := (fb_addI (by have : Int32.toInt 3 = 3 := rfl; omega) (by have : Int32.toInt 3 = 3 := rfl; omega)).trans rfl
  obtain ⟨iC, FC, GC⟩ := uC
  obtain ⟨iM, FM, GM⟩ := uM
  obtain ⟨S, hLC, hLM, hCE⟩ := hLI
  refine lv_aload_n (pc := 521) C0.1 C0.2.1 dL_law_521 rfl (lv_at hl 2 rfl) ?_
  refine lv_aload_n (pc := 522) C0.1 C0.2.1 dL_law_522 rfl (lv_at hl 3 rfl) ?_
  refine lv_iload_n (pc := 523) C0.1 C0.2.1 dL_law_523 rfl (lv_at hl 0 rfl) ?_
  refine lv_iconst (pc := 524) (v := 1) C0.1 C0.2.1 dL_law_524 (by decide) ?_
  refine lv_iadd (pc := 525) C0.1 C0.2.1 dL_law_525 ?_
  refine va_sld (pc := 526) C0.1 C0.2.1 hX hbl hbA hS (i := k + 1) (vI (by omega) (by omega)) dL_law_526 ?_
  refine xcVIK (pc := 527) 0 [.int (xs (Int32.toNatClampNeg (k + 1)))] (g_X9_fault l D tA b iC FC GC (xs (Int32.toNatClampNeg (k + 1))) hLC.1) C0 hC hM (Or.inl (by decide)) hS clX9 rfl ⟨⟨Nat.le_of_ble_eq_true rfl, Nat.le_of_ble_eq_true rfl⟩, rfl, rfl⟩ cw_L_64 rfl ⟨Nat.le_of_ble_eq_true rfl, Nat.le_of_ble_eq_true rfl⟩ hl.1 rfl (Nat.le_of_ble_eq_true rfl) dL_law_527 ⟨Nat.le_of_ble_eq_true rfl, Nat.le_of_ble_eq_true rfl⟩ (fun r1 ur1 _ locs hp hC hM hS => ?_)
  have er1 := hp
  clear hp
  refine lv_pop (pc := 530) C0.1 C0.2.1 dL_law_530 rfl ?_
  refine lv_aload_n (pc := 531) C0.1 C0.2.1 dL_law_531 rfl (lv_at hl 1 rfl) ?_
  refine lv_aload_n (pc := 532) C0.1 C0.2.1 dL_law_532 rfl (lv_at hl 3 rfl) ?_
  refine lv_iload_n (pc := 533) C0.1 C0.2.1 dL_law_533 rfl (lv_at hl 0 rfl) ?_
  refine lv_iconst (pc := 534) (v := 1) C0.1 C0.2.1 dL_law_534 (by decide) ?_
  refine lv_iadd (pc := 535) C0.1 C0.2.1 dL_law_535 ?_
  refine va_sld (pc := 536) C0.1 C0.2.1 hX hbl hbA hS (i := k + 1) (vI (by omega) (by omega)) dL_law_536 ?_
  refine xcVIK (pc := 537) 78 [.int (xs (Int32.toNatClampNeg (k + 1)))] (m_fault l D tA b iM FM GM (xs (Int32.toNatClampNeg (k + 1))) hLM.1) C2 hM hC (Or.inr (by decide)) hS clX10 rfl ⟨⟨Nat.le_of_ble_eq_true rfl, Nat.le_of_ble_eq_true rfl⟩, rfl, rfl⟩ cw_L_67 rfl ⟨Nat.le_of_ble_eq_true rfl, Nat.le_of_ble_eq_true rfl⟩ hl.1 rfl (Nat.le_of_ble_eq_true rfl) dL_law_537 ⟨Nat.le_of_ble_eq_true rfl, Nat.le_of_ble_eq_true rfl⟩ (fun r2 ur2 _ locs hp hM hC hS => ?_)
  have er2 := hp
  clear hp
  refine lv_pop (pc := 540) C0.1 C0.2.1 dL_law_540 rfl ?_
  refine lv_goto (pc := 541) (tgt := 1014) C0.1 C0.2.1 dL_law_541 (by decide) ?_
  have hLI2 := LI.a hCE (LC.pu hLC er1) (LM.pu hLM er2)
  exact NX ur1 ur2 _ _ _ hLI2 hC hM hS (lv_sub hl [0, 1, 2, 3] rfl)
set_option maxHeartbeats 4000000 in
set_option maxRecDepth 100000 in
theorem law_12 {p : Program} {l : Launch} {e : Env} {s : State} {m : MethodId} {below : List Frame} {meth : Method} {c : Code} {H : Heap} {locs : List Loc} {D : va_G} {tA : Nat → ClassId} {b sb : Nat} {xs : Nat → Int32} {ls : Array Slot} {L : Nat} {k : Int32} {uC uM : XS} (C : LW p s m meth c D tA b sb L xs) (hk : 0 ≤ k.toInt ∧ k.toInt + 4 ≤ L) (hLI : LI uC uM) (hC : Hd D tA b 0 78 zz uC.1 uC.2.1 uC.2.2 H) (hM : Hd D tA b 78 52 zz uM.1 uM.2.1 uM.2.2 H) (hS : va_S (Sb b) s.heap H locs) (hl : lv_has ls 4 [(3, .int k), (2, .ref (b + 78)), (1, .ref (b + 0)), (0, .ref sb)]) (NX : ∀ (uC uM : XS) (H : Heap) (locs : List Loc) (ls : Array Slot), LI uC uM → Hd D tA b 0 78 zz uC.1 uC.2.1 uC.2.2 H → Hd D tA b 78 52 zz uM.1 uM.2.1 uM.2.2 H → va_S (Sb b) s.heap H locs → lv_has ls 4 [(3, .int k), (2, .ref (b + 78)), (1, .ref (b + 0)), (0, .ref sb)] → W p l e room_1 s m #[Value.ref sb] below meth c H locs 130 99576 (lw_Z below #[Value.ref sb] s) (F0 m 1014 ls [])) : W p l e room_1 s m #[Value.ref sb] below meth c H locs 130 99576 (lw_Z below #[Value.ref sb] s) (F0 m 544 ls []) := by
  obtain ⟨hL, C0, C2, hX, hbl, hb, hr, hlk⟩ := id C
  have hbA : ¬ Sb b sb := by unfold Sb; omega
  have hk1 : Int32.toInt (k + 1) = k.toInt + 1 := (fb_addI (by have : Int32.toInt 1 = 1 := rfl; omega) (by have : Int32.toInt 1 = 1 := rfl; omega)).trans rfl
  have hk2 : Int32.toInt (k + 2) = k.toInt + 2 := (fb_addI (by have : Int32.toInt 2 = 2 := rfl; omega) (by have : Int32.toInt 2 = 2 := rfl; omega)).trans rfl
  have hk3 : Int32.toInt (k + 3) = k.toInt + 3 := (fb_addI (by have : Int32.toInt 3 = 3 := rfl; omega) (by have : Int32.toInt 3 = 3 := rfl; omega)).trans rfl
  obtain ⟨iC, FC, GC⟩ := uC
  obtain ⟨iM, FM, GM⟩ := uM
  obtain ⟨S, hLC, hLM, hCE⟩ := hLI
  refine lv_aload_n (pc := 544) C0.1 C0.2.1 dL_law_544 rfl (lv_at hl 2 rfl) ?_
  refine lv_aload_n (pc := 545) C0.1 C0.2.1 dL_law_545 rfl (lv_at hl 3 rfl) ?_
  refine lv_iload_n (pc := 546) C0.1 C0.2.1 dL_law_546 rfl (lv_at hl 0 rfl) ?_
  refine lv_iconst (pc := 547) (v := 1) C0.1 C0.2.1 dL_law_547 (by decide) ?_
  refine lv_iadd (pc := 548) C0.1 C0.2.1 dL_law_548 ?_
  refine va_sld (pc := 549) C0.1 C0.2.1 hX hbl hbA hS (i := k + 1) (vI (by omega) (by omega)) dL_law_549 ?_
  refine xcVIK (pc := 550) 0 [.int (xs (Int32.toNatClampNeg (k + 1)))] (g_X9_count l D tA b iC FC GC (xs (Int32.toNatClampNeg (k + 1))) hLC.1) C0 hC hM (Or.inl (by decide)) hS clX9 rfl ⟨⟨Nat.le_of_ble_eq_true rfl, Nat.le_of_ble_eq_true rfl⟩, rfl, rfl⟩ cw_L_68 rfl ⟨Nat.le_of_ble_eq_true rfl, Nat.le_of_ble_eq_true rfl⟩ hl.1 rfl (Nat.le_of_ble_eq_true rfl) dL_law_550 ⟨Nat.le_of_ble_eq_true rfl, Nat.le_of_ble_eq_true rfl⟩ (fun r1 ur1 _ locs hp hC hM hS => ?_)
  have er1 := hp
  clear hp
  refine lv_pop (pc := 553) C0.1 C0.2.1 dL_law_553 rfl ?_
  refine lv_aload_n (pc := 554) C0.1 C0.2.1 dL_law_554 rfl (lv_at hl 1 rfl) ?_
  refine lv_aload_n (pc := 555) C0.1 C0.2.1 dL_law_555 rfl (lv_at hl 3 rfl) ?_
  refine lv_iload_n (pc := 556) C0.1 C0.2.1 dL_law_556 rfl (lv_at hl 0 rfl) ?_
  refine lv_iconst (pc := 557) (v := 1) C0.1 C0.2.1 dL_law_557 (by decide) ?_
  refine lv_iadd (pc := 558) C0.1 C0.2.1 dL_law_558 ?_
  refine va_sld (pc := 559) C0.1 C0.2.1 hX hbl hbA hS (i := k + 1) (vI (by omega) (by omega)) dL_law_559 ?_
  refine xcVIK (pc := 560) 78 [.int (xs (Int32.toNatClampNeg (k + 1)))] (m_count l D tA b iM FM GM (xs (Int32.toNatClampNeg (k + 1))) hLM.1) C2 hM hC (Or.inr (by decide)) hS clX10 rfl ⟨⟨Nat.le_of_ble_eq_true rfl, Nat.le_of_ble_eq_true rfl⟩, rfl, rfl⟩ cw_L_71 rfl ⟨Nat.le_of_ble_eq_true rfl, Nat.le_of_ble_eq_true rfl⟩ hl.1 rfl (Nat.le_of_ble_eq_true rfl) dL_law_560 ⟨Nat.le_of_ble_eq_true rfl, Nat.le_of_ble_eq_true rfl⟩ (fun r2 ur2 _ locs hp hM hC hS => ?_)
  have er2 := hp
  clear hp
  refine lv_pop (pc := 563) C0.1 C0.2.1 dL_law_563 rfl ?_
  refine lv_goto (pc := 564) (tgt := 1014) C0.1 C0.2.1 dL_law_564 (by decide) ?_
  have hLI2 := LI.a hCE (LC.pu hLC er1) (LM.pu hLM er2)
  exact NX ur1 ur2 _ _ _ hLI2 hC hM hS (lv_sub hl [0, 1, 2, 3] rfl)
set_option maxHeartbeats 4000000 in
set_option maxRecDepth 100000 in
theorem law_13 {p : Program} {l : Launch} {e : Env} {s : State} {m : MethodId} {below : List Frame} {meth : Method} {c : Code} {H : Heap} {locs : List Loc} {D : va_G} {tA : Nat → ClassId} {b sb : Nat} {xs : Nat → Int32} {ls : Array Slot} {L : Nat} {k : Int32} {uC uM : XS} (C : LW p s m meth c D tA b sb L xs) (hk : 0 ≤ k.toInt ∧ k.toInt + 4 ≤ L) (hLI : LI uC uM) (hC : Hd D tA b 0 78 zz uC.1 uC.2.1 uC.2.2 H) (hM : Hd D tA b 78 52 zz uM.1 uM.2.1 uM.2.2 H) (hS : va_S (Sb b) s.heap H locs) (hl : lv_has ls 4 [(3, .int k), (2, .ref (b + 78)), (1, .ref (b + 0)), (0, .ref sb)]) (NX : ∀ (uC uM : XS) (H : Heap) (locs : List Loc) (ls : Array Slot), LI uC uM → Hd D tA b 0 78 zz uC.1 uC.2.1 uC.2.2 H → Hd D tA b 78 52 zz uM.1 uM.2.1 uM.2.2 H → va_S (Sb b) s.heap H locs → lv_has ls 4 [(3, .int k), (2, .ref (b + 78)), (1, .ref (b + 0)), (0, .ref sb)] → W p l e room_1 s m #[Value.ref sb] below meth c H locs 130 99576 (lw_Z below #[Value.ref sb] s) (F0 m 1014 ls [])) : W p l e room_1 s m #[Value.ref sb] below meth c H locs 130 99576 (lw_Z below #[Value.ref sb] s) (F0 m 567 ls []) := by
  obtain ⟨hL, C0, C2, hX, hbl, hb, hr, hlk⟩ := id C
  have hbA : ¬ Sb b sb := by unfold Sb; omega
  have hk1 : Int32.toInt (k + 1) = k.toInt + 1 := (fb_addI (by have : Int32.toInt 1 = 1 := rfl; omega) (by have : Int32.toInt 1 = 1 := rfl; omega)).trans rfl
  have hk2 : Int32.toInt (k + 2) = k.toInt + 2 := (fb_addI (by have : Int32.toInt 2 = 2 := rfl; omega) (by have : Int32.toInt 2 = 2 := rfl; omega)).trans rfl
  have hk3 : Int32.toInt (k + 3) = k.toInt + 3 := (fb_addI (by have : Int32.toInt 3 = 3 := rfl; omega) (by have : Int32.toInt 3 = 3 := rfl; omega)).trans rfl
  obtain ⟨iC, FC, GC⟩ := uC
  obtain ⟨iM, FM, GM⟩ := uM
  obtain ⟨S, hLC, hLM, hCE⟩ := hLI
  refine lv_aload_n (pc := 567) C0.1 C0.2.1 dL_law_567 rfl (lv_at hl 2 rfl) ?_
  refine lv_aload_n (pc := 568) C0.1 C0.2.1 dL_law_568 rfl (lv_at hl 3 rfl) ?_
  refine lv_iload_n (pc := 569) C0.1 C0.2.1 dL_law_569 rfl (lv_at hl 0 rfl) ?_
  refine lv_iconst (pc := 570) (v := 1) C0.1 C0.2.1 dL_law_570 (by decide) ?_
  refine lv_iadd (pc := 571) C0.1 C0.2.1 dL_law_571 ?_
  refine va_sld (pc := 572) C0.1 C0.2.1 hX hbl hbA hS (i := k + 1) (vI (by omega) (by omega)) dL_law_572 ?_
  refine lv_aload_n (pc := 573) C0.1 C0.2.1 dL_law_573 rfl (lv_at hl 3 rfl) ?_
  refine lv_iload_n (pc := 574) C0.1 C0.2.1 dL_law_574 rfl (lv_at hl 0 rfl) ?_
  refine lv_iconst (pc := 575) (v := 2) C0.1 C0.2.1 dL_law_575 (by decide) ?_
  refine lv_iadd (pc := 576) C0.1 C0.2.1 dL_law_576 ?_
  refine va_sld (pc := 577) C0.1 C0.2.1 hX hbl hbA hS (i := k + 2) (vI (by omega) (by omega)) dL_law_577 ?_
  refine xcVIK (pc := 578) 0 [.int (xs (Int32.toNatClampNeg (k + 1))), .int (xs (Int32.toNatClampNeg (k + 2)))] (g_X9_token l D tA b iC FC GC (xs (Int32.toNatClampNeg (k + 1))) (xs (Int32.toNatClampNeg (k + 2))) hLC.1) C0 hC hM (Or.inl (by decide)) hS clX9 rfl ⟨⟨Nat.le_of_ble_eq_true rfl, Nat.le_of_ble_eq_true rfl⟩, rfl, rfl⟩ cw_L_72 rfl ⟨Nat.le_of_ble_eq_true rfl, Nat.le_of_ble_eq_true rfl⟩ hl.1 rfl (Nat.le_of_ble_eq_true rfl) dL_law_578 ⟨Nat.le_of_ble_eq_true rfl, Nat.le_of_ble_eq_true rfl⟩ (fun r1 ur1 _ locs hp hC hM hS => ?_)
  have er1 := hp
  clear hp
  refine lv_pop (pc := 581) C0.1 C0.2.1 dL_law_581 rfl ?_
  refine lv_aload_n (pc := 582) C0.1 C0.2.1 dL_law_582 rfl (lv_at hl 1 rfl) ?_
  refine lv_aload_n (pc := 583) C0.1 C0.2.1 dL_law_583 rfl (lv_at hl 3 rfl) ?_
  refine lv_iload_n (pc := 584) C0.1 C0.2.1 dL_law_584 rfl (lv_at hl 0 rfl) ?_
  refine lv_iconst (pc := 585) (v := 1) C0.1 C0.2.1 dL_law_585 (by decide) ?_
  refine lv_iadd (pc := 586) C0.1 C0.2.1 dL_law_586 ?_
  refine va_sld (pc := 587) C0.1 C0.2.1 hX hbl hbA hS (i := k + 1) (vI (by omega) (by omega)) dL_law_587 ?_
  refine lv_aload_n (pc := 588) C0.1 C0.2.1 dL_law_588 rfl (lv_at hl 3 rfl) ?_
  refine lv_iload_n (pc := 589) C0.1 C0.2.1 dL_law_589 rfl (lv_at hl 0 rfl) ?_
  refine lv_iconst (pc := 590) (v := 2) C0.1 C0.2.1 dL_law_590 (by decide) ?_
  refine lv_iadd (pc := 591) C0.1 C0.2.1 dL_law_591 ?_
  refine va_sld (pc := 592) C0.1 C0.2.1 hX hbl hbA hS (i := k + 2) (vI (by omega) (by omega)) dL_law_592 ?_
  refine xcVIK (pc := 593) 78 [.int (xs (Int32.toNatClampNeg (k + 1))), .int (xs (Int32.toNatClampNeg (k + 2)))] (m_token l D tA b iM FM GM (xs (Int32.toNatClampNeg (k + 1))) (xs (Int32.toNatClampNeg (k + 2))) hLM.1) C2 hM hC (Or.inr (by decide)) hS clX10 rfl ⟨⟨Nat.le_of_ble_eq_true rfl, Nat.le_of_ble_eq_true rfl⟩, rfl, rfl⟩ cw_L_75 rfl ⟨Nat.le_of_ble_eq_true rfl, Nat.le_of_ble_eq_true rfl⟩ hl.1 rfl (Nat.le_of_ble_eq_true rfl) dL_law_593 ⟨Nat.le_of_ble_eq_true rfl, Nat.le_of_ble_eq_true rfl⟩ (fun r2 ur2 _ locs hp hM hC hS => ?_)
  have er2 := hp
  clear hp
  refine lv_pop (pc := 596) C0.1 C0.2.1 dL_law_596 rfl ?_
  refine lv_goto (pc := 597) (tgt := 1014) C0.1 C0.2.1 dL_law_597 (by decide) ?_
  have hLI2 := LI.a hCE (LC.pu hLC er1) (LM.pu hLM er2)
  exact NX ur1 ur2 _ _ _ hLI2 hC hM hS (lv_sub hl [0, 1, 2, 3] rfl)
set_option maxHeartbeats 4000000 in
set_option maxRecDepth 100000 in
theorem law_14 {p : Program} {l : Launch} {e : Env} {s : State} {m : MethodId} {below : List Frame} {meth : Method} {c : Code} {H : Heap} {locs : List Loc} {D : va_G} {tA : Nat → ClassId} {b sb : Nat} {xs : Nat → Int32} {ls : Array Slot} {L : Nat} {k : Int32} {uC uM : XS} (C : LW p s m meth c D tA b sb L xs) (hk : 0 ≤ k.toInt ∧ k.toInt + 4 ≤ L) (hLI : LI uC uM) (hC : Hd D tA b 0 78 zz uC.1 uC.2.1 uC.2.2 H) (hM : Hd D tA b 78 52 zz uM.1 uM.2.1 uM.2.2 H) (hS : va_S (Sb b) s.heap H locs) (hl : lv_has ls 4 [(3, .int k), (2, .ref (b + 78)), (1, .ref (b + 0)), (0, .ref sb)]) (NX : ∀ (uC uM : XS) (H : Heap) (locs : List Loc) (ls : Array Slot), LI uC uM → Hd D tA b 0 78 zz uC.1 uC.2.1 uC.2.2 H → Hd D tA b 78 52 zz uM.1 uM.2.1 uM.2.2 H → va_S (Sb b) s.heap H locs → lv_has ls 4 [(3, .int k), (2, .ref (b + 78)), (1, .ref (b + 0)), (0, .ref sb)] → W p l e room_1 s m #[Value.ref sb] below meth c H locs 130 99576 (lw_Z below #[Value.ref sb] s) (F0 m 1014 ls [])) : W p l e room_1 s m #[Value.ref sb] below meth c H locs 130 99576 (lw_Z below #[Value.ref sb] s) (F0 m 600 ls []) := by
  obtain ⟨hL, C0, C2, hX, hbl, hb, hr, hlk⟩ := id C
  have hbA : ¬ Sb b sb := by unfold Sb; omega
  have hk1 : Int32.toInt (k + 1) = k.toInt + 1 := (fb_addI (by have : Int32.toInt 1 = 1 := rfl; omega) (by have : Int32.toInt 1 = 1 := rfl; omega)).trans rfl
  have hk2 : Int32.toInt (k + 2) = k.toInt + 2 := (fb_addI (by have : Int32.toInt 2 = 2 := rfl; omega) (by have : Int32.toInt 2 = 2 := rfl; omega)).trans rfl
  have hk3 : Int32.toInt (k + 3) = k.toInt + 3 := (fb_addI (by have : Int32.toInt 3 = 3 := rfl; omega) (by have : Int32.toInt 3 = 3 := rfl; omega)).trans rfl
  obtain ⟨iC, FC, GC⟩ := uC
  obtain ⟨iM, FM, GM⟩ := uM
  obtain ⟨S, hLC, hLM, hCE⟩ := hLI
  refine lv_aload_n (pc := 600) C0.1 C0.2.1 dL_law_600 rfl (lv_at hl 2 rfl) ?_
  refine lv_aload_n (pc := 601) C0.1 C0.2.1 dL_law_601 rfl (lv_at hl 3 rfl) ?_
  refine lv_iload_n (pc := 602) C0.1 C0.2.1 dL_law_602 rfl (lv_at hl 0 rfl) ?_
  refine lv_iconst (pc := 603) (v := 1) C0.1 C0.2.1 dL_law_603 (by decide) ?_
  refine lv_iadd (pc := 604) C0.1 C0.2.1 dL_law_604 ?_
  refine va_sld (pc := 605) C0.1 C0.2.1 hX hbl hbA hS (i := k + 1) (vI (by omega) (by omega)) dL_law_605 ?_
  refine lv_aload_n (pc := 606) C0.1 C0.2.1 dL_law_606 rfl (lv_at hl 3 rfl) ?_
  refine lv_iload_n (pc := 607) C0.1 C0.2.1 dL_law_607 rfl (lv_at hl 0 rfl) ?_
  refine lv_iconst (pc := 608) (v := 2) C0.1 C0.2.1 dL_law_608 (by decide) ?_
  refine lv_iadd (pc := 609) C0.1 C0.2.1 dL_law_609 ?_
  refine va_sld (pc := 610) C0.1 C0.2.1 hX hbl hbA hS (i := k + 2) (vI (by omega) (by omega)) dL_law_610 ?_
  refine xcVIK (pc := 611) 0 [.int (xs (Int32.toNatClampNeg (k + 1))), .int (xs (Int32.toNatClampNeg (k + 2)))] (g_X9_block l D tA b iC FC GC (xs (Int32.toNatClampNeg (k + 1))) (xs (Int32.toNatClampNeg (k + 2))) hLC.1) C0 hC hM (Or.inl (by decide)) hS clX9 rfl ⟨⟨Nat.le_of_ble_eq_true rfl, Nat.le_of_ble_eq_true rfl⟩, rfl, rfl⟩ cw_L_76 rfl ⟨Nat.le_of_ble_eq_true rfl, Nat.le_of_ble_eq_true rfl⟩ hl.1 rfl (Nat.le_of_ble_eq_true rfl) dL_law_611 ⟨Nat.le_of_ble_eq_true rfl, Nat.le_of_ble_eq_true rfl⟩ (fun r1 ur1 _ locs hp hC hM hS => ?_)
  have er1 := hp
  clear hp
  refine lv_pop (pc := 614) C0.1 C0.2.1 dL_law_614 rfl ?_
  refine lv_aload_n (pc := 615) C0.1 C0.2.1 dL_law_615 rfl (lv_at hl 1 rfl) ?_
  refine lv_aload_n (pc := 616) C0.1 C0.2.1 dL_law_616 rfl (lv_at hl 3 rfl) ?_
  refine lv_iload_n (pc := 617) C0.1 C0.2.1 dL_law_617 rfl (lv_at hl 0 rfl) ?_
  refine lv_iconst (pc := 618) (v := 1) C0.1 C0.2.1 dL_law_618 (by decide) ?_
  refine lv_iadd (pc := 619) C0.1 C0.2.1 dL_law_619 ?_
  refine va_sld (pc := 620) C0.1 C0.2.1 hX hbl hbA hS (i := k + 1) (vI (by omega) (by omega)) dL_law_620 ?_
  refine lv_aload_n (pc := 621) C0.1 C0.2.1 dL_law_621 rfl (lv_at hl 3 rfl) ?_
  refine lv_iload_n (pc := 622) C0.1 C0.2.1 dL_law_622 rfl (lv_at hl 0 rfl) ?_
  refine lv_iconst (pc := 623) (v := 2) C0.1 C0.2.1 dL_law_623 (by decide) ?_
  refine lv_iadd (pc := 624) C0.1 C0.2.1 dL_law_624 ?_
  refine va_sld (pc := 625) C0.1 C0.2.1 hX hbl hbA hS (i := k + 2) (vI (by omega) (by omega)) dL_law_625 ?_
  refine xcVIK (pc := 626) 78 [.int (xs (Int32.toNatClampNeg (k + 1))), .int (xs (Int32.toNatClampNeg (k + 2)))] (m_block l D tA b iM FM GM (xs (Int32.toNatClampNeg (k + 1))) (xs (Int32.toNatClampNeg (k + 2))) hLM.1) C2 hM hC (Or.inr (by decide)) hS clX10 rfl ⟨⟨Nat.le_of_ble_eq_true rfl, Nat.le_of_ble_eq_true rfl⟩, rfl, rfl⟩ cw_L_79 rfl ⟨Nat.le_of_ble_eq_true rfl, Nat.le_of_ble_eq_true rfl⟩ hl.1 rfl (Nat.le_of_ble_eq_true rfl) dL_law_626 ⟨Nat.le_of_ble_eq_true rfl, Nat.le_of_ble_eq_true rfl⟩ (fun r2 ur2 _ locs hp hM hC hS => ?_)
  have er2 := hp
  clear hp
  refine lv_pop (pc := 629) C0.1 C0.2.1 dL_law_629 rfl ?_
  refine lv_goto (pc := 630) (tgt := 1014) C0.1 C0.2.1 dL_law_630 (by decide) ?_
  have hLI2 := LI.a hCE (LC.pu hLC er1) (LM.pu hLM er2)
  exact NX ur1 ur2 _ _ _ hLI2 hC hM hS (lv_sub hl [0, 1, 2, 3] rfl)
set_option maxHeartbeats 4000000 in
set_option maxRecDepth 100000 in
theorem law_15 {p : Program} {l : Launch} {e : Env} {s : State} {m : MethodId} {below : List Frame} {meth : Method} {c : Code} {H : Heap} {locs : List Loc} {D : va_G} {tA : Nat → ClassId} {b sb : Nat} {xs : Nat → Int32} {ls : Array Slot} {L : Nat} {k : Int32} {uC uM : XS} (C : LW p s m meth c D tA b sb L xs) (hk : 0 ≤ k.toInt ∧ k.toInt + 4 ≤ L) (hLI : LI uC uM) (hC : Hd D tA b 0 78 zz uC.1 uC.2.1 uC.2.2 H) (hM : Hd D tA b 78 52 zz uM.1 uM.2.1 uM.2.2 H) (hS : va_S (Sb b) s.heap H locs) (hl : lv_has ls 4 [(3, .int k), (2, .ref (b + 78)), (1, .ref (b + 0)), (0, .ref sb)]) (NX : ∀ (uC uM : XS) (H : Heap) (locs : List Loc) (ls : Array Slot), LI uC uM → Hd D tA b 0 78 zz uC.1 uC.2.1 uC.2.2 H → Hd D tA b 78 52 zz uM.1 uM.2.1 uM.2.2 H → va_S (Sb b) s.heap H locs → lv_has ls 4 [(3, .int k), (2, .ref (b + 78)), (1, .ref (b + 0)), (0, .ref sb)] → W p l e room_1 s m #[Value.ref sb] below meth c H locs 130 99576 (lw_Z below #[Value.ref sb] s) (F0 m 1014 ls [])) : W p l e room_1 s m #[Value.ref sb] below meth c H locs 130 99576 (lw_Z below #[Value.ref sb] s) (F0 m 633 ls []) := by
  obtain ⟨hL, C0, C2, hX, hbl, hb, hr, hlk⟩ := id C
  have hbA : ¬ Sb b sb := by unfold Sb; omega
  have hk1 : Int32.toInt (k + 1) = k.toInt + 1 := (fb_addI (by have : Int32.toInt 1 = 1 := rfl; omega) (by have : Int32.toInt 1 = 1 := rfl; omega)).trans rfl
  have hk2 : Int32.toInt (k + 2) = k.toInt + 2 := (fb_addI (by have : Int32.toInt 2 = 2 := rfl; omega) (by have : Int32.toInt 2 = 2 := rfl; omega)).trans rfl
  have hk3 : Int32.toInt (k + 3) = k.toInt + 3 := (fb_addI (by have : Int32.toInt 3 = 3 := rfl; omega) (by have : Int32.toInt 3 = 3 := rfl; omega)).trans rfl
  obtain ⟨iC, FC, GC⟩ := uC
  obtain ⟨iM, FM, GM⟩ := uM
  obtain ⟨S, hLC, hLM, hCE⟩ := hLI
  refine lv_aload_n (pc := 633) C0.1 C0.2.1 dL_law_633 rfl (lv_at hl 2 rfl) ?_
  refine lv_aload_n (pc := 634) C0.1 C0.2.1 dL_law_634 rfl (lv_at hl 3 rfl) ?_
  refine lv_iload_n (pc := 635) C0.1 C0.2.1 dL_law_635 rfl (lv_at hl 0 rfl) ?_
  refine lv_iconst (pc := 636) (v := 1) C0.1 C0.2.1 dL_law_636 (by decide) ?_
  refine lv_iadd (pc := 637) C0.1 C0.2.1 dL_law_637 ?_
  refine va_sld (pc := 638) C0.1 C0.2.1 hX hbl hbA hS (i := k + 1) (vI (by omega) (by omega)) dL_law_638 ?_
  refine lv_aload_n (pc := 639) C0.1 C0.2.1 dL_law_639 rfl (lv_at hl 3 rfl) ?_
  refine lv_iload_n (pc := 640) C0.1 C0.2.1 dL_law_640 rfl (lv_at hl 0 rfl) ?_
  refine lv_iconst (pc := 641) (v := 2) C0.1 C0.2.1 dL_law_641 (by decide) ?_
  refine lv_iadd (pc := 642) C0.1 C0.2.1 dL_law_642 ?_
  refine va_sld (pc := 643) C0.1 C0.2.1 hX hbl hbA hS (i := k + 2) (vI (by omega) (by omega)) dL_law_643 ?_
  refine xcVIK (pc := 644) 0 [.int (xs (Int32.toNatClampNeg (k + 1))), .int (xs (Int32.toNatClampNeg (k + 2)))] (g_X9_item l D tA b iC FC GC (xs (Int32.toNatClampNeg (k + 1))) (xs (Int32.toNatClampNeg (k + 2))) hLC.1) C0 hC hM (Or.inl (by decide)) hS clX9 rfl ⟨⟨Nat.le_of_ble_eq_true rfl, Nat.le_of_ble_eq_true rfl⟩, rfl, rfl⟩ cw_L_80 rfl ⟨Nat.le_of_ble_eq_true rfl, Nat.le_of_ble_eq_true rfl⟩ hl.1 rfl (Nat.le_of_ble_eq_true rfl) dL_law_644 ⟨Nat.le_of_ble_eq_true rfl, Nat.le_of_ble_eq_true rfl⟩ (fun r1 ur1 _ locs hp hC hM hS => ?_)
  have er1 := hp
  clear hp
  refine lv_pop (pc := 647) C0.1 C0.2.1 dL_law_647 rfl ?_
  refine lv_aload_n (pc := 648) C0.1 C0.2.1 dL_law_648 rfl (lv_at hl 1 rfl) ?_
  refine lv_aload_n (pc := 649) C0.1 C0.2.1 dL_law_649 rfl (lv_at hl 3 rfl) ?_
  refine lv_iload_n (pc := 650) C0.1 C0.2.1 dL_law_650 rfl (lv_at hl 0 rfl) ?_
  refine lv_iconst (pc := 651) (v := 1) C0.1 C0.2.1 dL_law_651 (by decide) ?_
  refine lv_iadd (pc := 652) C0.1 C0.2.1 dL_law_652 ?_
  refine va_sld (pc := 653) C0.1 C0.2.1 hX hbl hbA hS (i := k + 1) (vI (by omega) (by omega)) dL_law_653 ?_
  refine lv_aload_n (pc := 654) C0.1 C0.2.1 dL_law_654 rfl (lv_at hl 3 rfl) ?_
  refine lv_iload_n (pc := 655) C0.1 C0.2.1 dL_law_655 rfl (lv_at hl 0 rfl) ?_
  refine lv_iconst (pc := 656) (v := 2) C0.1 C0.2.1 dL_law_656 (by decide) ?_
  refine lv_iadd (pc := 657) C0.1 C0.2.1 dL_law_657 ?_
  refine va_sld (pc := 658) C0.1 C0.2.1 hX hbl hbA hS (i := k + 2) (vI (by omega) (by omega)) dL_law_658 ?_
  refine xcVIK (pc := 659) 78 [.int (xs (Int32.toNatClampNeg (k + 1))), .int (xs (Int32.toNatClampNeg (k + 2)))] (m_item l D tA b iM FM GM (xs (Int32.toNatClampNeg (k + 1))) (xs (Int32.toNatClampNeg (k + 2))) hLM.1) C2 hM hC (Or.inr (by decide)) hS clX10 rfl ⟨⟨Nat.le_of_ble_eq_true rfl, Nat.le_of_ble_eq_true rfl⟩, rfl, rfl⟩ cw_L_83 rfl ⟨Nat.le_of_ble_eq_true rfl, Nat.le_of_ble_eq_true rfl⟩ hl.1 rfl (Nat.le_of_ble_eq_true rfl) dL_law_659 ⟨Nat.le_of_ble_eq_true rfl, Nat.le_of_ble_eq_true rfl⟩ (fun r2 ur2 _ locs hp hM hC hS => ?_)
  have er2 := hp
  clear hp
  refine lv_pop (pc := 662) C0.1 C0.2.1 dL_law_662 rfl ?_
  refine lv_goto (pc := 663) (tgt := 1014) C0.1 C0.2.1 dL_law_663 (by decide) ?_
  have hLI2 := LI.a hCE (LC.pu hLC er1) (LM.pu hLM er2)
  exact NX ur1 ur2 _ _ _ hLI2 hC hM hS (lv_sub hl [0, 1, 2, 3] rfl)
set_option maxHeartbeats 4000000 in
set_option maxRecDepth 100000 in
theorem law_16 {p : Program} {l : Launch} {e : Env} {s : State} {m : MethodId} {below : List Frame} {meth : Method} {c : Code} {H : Heap} {locs : List Loc} {D : va_G} {tA : Nat → ClassId} {b sb : Nat} {xs : Nat → Int32} {ls : Array Slot} {L : Nat} {k : Int32} {uC uM : XS} (C : LW p s m meth c D tA b sb L xs) (hk : 0 ≤ k.toInt ∧ k.toInt + 4 ≤ L) (hLI : LI uC uM) (hC : Hd D tA b 0 78 zz uC.1 uC.2.1 uC.2.2 H) (hM : Hd D tA b 78 52 zz uM.1 uM.2.1 uM.2.2 H) (hS : va_S (Sb b) s.heap H locs) (hl : lv_has ls 4 [(3, .int k), (2, .ref (b + 78)), (1, .ref (b + 0)), (0, .ref sb)]) (NX : ∀ (uC uM : XS) (H : Heap) (locs : List Loc) (ls : Array Slot), LI uC uM → Hd D tA b 0 78 zz uC.1 uC.2.1 uC.2.2 H → Hd D tA b 78 52 zz uM.1 uM.2.1 uM.2.2 H → va_S (Sb b) s.heap H locs → lv_has ls 4 [(3, .int k), (2, .ref (b + 78)), (1, .ref (b + 0)), (0, .ref sb)] → W p l e room_1 s m #[Value.ref sb] below meth c H locs 130 99576 (lw_Z below #[Value.ref sb] s) (F0 m 1014 ls [])) : W p l e room_1 s m #[Value.ref sb] below meth c H locs 130 99576 (lw_Z below #[Value.ref sb] s) (F0 m 666 ls []) := by
  obtain ⟨hL, C0, C2, hX, hbl, hb, hr, hlk⟩ := id C
  have hbA : ¬ Sb b sb := by unfold Sb; omega
  have hk1 : Int32.toInt (k + 1) = k.toInt + 1 := (fb_addI (by have : Int32.toInt 1 = 1 := rfl; omega) (by have : Int32.toInt 1 = 1 := rfl; omega)).trans rfl
  have hk2 : Int32.toInt (k + 2) = k.toInt + 2 := (fb_addI (by have : Int32.toInt 2 = 2 := rfl; omega) (by have : Int32.toInt 2 = 2 := rfl; omega)).trans rfl
  have hk3 : Int32.toInt (k + 3) = k.toInt + 3 := (fb_addI (by have : Int32.toInt 3 = 3 := rfl; omega) (by have : Int32.toInt 3 = 3 := rfl; omega)).trans rfl
  obtain ⟨iC, FC, GC⟩ := uC
  obtain ⟨iM, FM, GM⟩ := uM
  obtain ⟨S, hLC, hLM, hCE⟩ := hLI
  refine lv_aload_n (pc := 666) C0.1 C0.2.1 dL_law_666 rfl (lv_at hl 2 rfl) ?_
  refine lv_aload_n (pc := 667) C0.1 C0.2.1 dL_law_667 rfl (lv_at hl 3 rfl) ?_
  refine lv_iload_n (pc := 668) C0.1 C0.2.1 dL_law_668 rfl (lv_at hl 0 rfl) ?_
  refine lv_iconst (pc := 669) (v := 1) C0.1 C0.2.1 dL_law_669 (by decide) ?_
  refine lv_iadd (pc := 670) C0.1 C0.2.1 dL_law_670 ?_
  refine va_sld (pc := 671) C0.1 C0.2.1 hX hbl hbA hS (i := k + 1) (vI (by omega) (by omega)) dL_law_671 ?_
  refine lv_aload_n (pc := 672) C0.1 C0.2.1 dL_law_672 rfl (lv_at hl 3 rfl) ?_
  refine lv_iload_n (pc := 673) C0.1 C0.2.1 dL_law_673 rfl (lv_at hl 0 rfl) ?_
  refine lv_iconst (pc := 674) (v := 2) C0.1 C0.2.1 dL_law_674 (by decide) ?_
  refine lv_iadd (pc := 675) C0.1 C0.2.1 dL_law_675 ?_
  refine va_sld (pc := 676) C0.1 C0.2.1 hX hbl hbA hS (i := k + 2) (vI (by omega) (by omega)) dL_law_676 ?_
  refine xcVIK (pc := 677) 0 [.int (xs (Int32.toNatClampNeg (k + 1))), .int (xs (Int32.toNatClampNeg (k + 2)))] (g_X9_part l D tA b iC FC GC (xs (Int32.toNatClampNeg (k + 1))) (xs (Int32.toNatClampNeg (k + 2))) hLC.1) C0 hC hM (Or.inl (by decide)) hS clX9 rfl ⟨⟨Nat.le_of_ble_eq_true rfl, Nat.le_of_ble_eq_true rfl⟩, rfl, rfl⟩ cw_L_84 rfl ⟨Nat.le_of_ble_eq_true rfl, Nat.le_of_ble_eq_true rfl⟩ hl.1 rfl (Nat.le_of_ble_eq_true rfl) dL_law_677 ⟨Nat.le_of_ble_eq_true rfl, Nat.le_of_ble_eq_true rfl⟩ (fun r1 ur1 _ locs hp hC hM hS => ?_)
  have er1 := hp
  clear hp
  refine lv_pop (pc := 680) C0.1 C0.2.1 dL_law_680 rfl ?_
  refine lv_aload_n (pc := 681) C0.1 C0.2.1 dL_law_681 rfl (lv_at hl 1 rfl) ?_
  refine lv_aload_n (pc := 682) C0.1 C0.2.1 dL_law_682 rfl (lv_at hl 3 rfl) ?_
  refine lv_iload_n (pc := 683) C0.1 C0.2.1 dL_law_683 rfl (lv_at hl 0 rfl) ?_
  refine lv_iconst (pc := 684) (v := 1) C0.1 C0.2.1 dL_law_684 (by decide) ?_
  refine lv_iadd (pc := 685) C0.1 C0.2.1 dL_law_685 ?_
  refine va_sld (pc := 686) C0.1 C0.2.1 hX hbl hbA hS (i := k + 1) (vI (by omega) (by omega)) dL_law_686 ?_
  refine lv_aload_n (pc := 687) C0.1 C0.2.1 dL_law_687 rfl (lv_at hl 3 rfl) ?_
  refine lv_iload_n (pc := 688) C0.1 C0.2.1 dL_law_688 rfl (lv_at hl 0 rfl) ?_
  refine lv_iconst (pc := 689) (v := 2) C0.1 C0.2.1 dL_law_689 (by decide) ?_
  refine lv_iadd (pc := 690) C0.1 C0.2.1 dL_law_690 ?_
  refine va_sld (pc := 691) C0.1 C0.2.1 hX hbl hbA hS (i := k + 2) (vI (by omega) (by omega)) dL_law_691 ?_
  refine xcVIK (pc := 692) 78 [.int (xs (Int32.toNatClampNeg (k + 1))), .int (xs (Int32.toNatClampNeg (k + 2)))] (m_part l D tA b iM FM GM (xs (Int32.toNatClampNeg (k + 1))) (xs (Int32.toNatClampNeg (k + 2))) hLM.1) C2 hM hC (Or.inr (by decide)) hS clX10 rfl ⟨⟨Nat.le_of_ble_eq_true rfl, Nat.le_of_ble_eq_true rfl⟩, rfl, rfl⟩ cw_L_87 rfl ⟨Nat.le_of_ble_eq_true rfl, Nat.le_of_ble_eq_true rfl⟩ hl.1 rfl (Nat.le_of_ble_eq_true rfl) dL_law_692 ⟨Nat.le_of_ble_eq_true rfl, Nat.le_of_ble_eq_true rfl⟩ (fun r2 ur2 _ locs hp hM hC hS => ?_)
  have er2 := hp
  clear hp
  refine lv_pop (pc := 695) C0.1 C0.2.1 dL_law_695 rfl ?_
  refine lv_goto (pc := 696) (tgt := 1014) C0.1 C0.2.1 dL_law_696 (by decide) ?_
  have hLI2 := LI.a hCE (LC.pu hLC er1) (LM.pu hLM er2)
  exact NX ur1 ur2 _ _ _ hLI2 hC hM hS (lv_sub hl [0, 1, 2, 3] rfl)
set_option maxHeartbeats 4000000 in
set_option maxRecDepth 100000 in
theorem law_17 {p : Program} {l : Launch} {e : Env} {s : State} {m : MethodId} {below : List Frame} {meth : Method} {c : Code} {H : Heap} {locs : List Loc} {D : va_G} {tA : Nat → ClassId} {b sb : Nat} {xs : Nat → Int32} {ls : Array Slot} {L : Nat} {k : Int32} {uC uM : XS} (C : LW p s m meth c D tA b sb L xs) (hk : 0 ≤ k.toInt ∧ k.toInt + 4 ≤ L) (hLI : LI uC uM) (hC : Hd D tA b 0 78 zz uC.1 uC.2.1 uC.2.2 H) (hM : Hd D tA b 78 52 zz uM.1 uM.2.1 uM.2.2 H) (hS : va_S (Sb b) s.heap H locs) (hl : lv_has ls 4 [(3, .int k), (2, .ref (b + 78)), (1, .ref (b + 0)), (0, .ref sb)]) (NX : ∀ (uC uM : XS) (H : Heap) (locs : List Loc) (ls : Array Slot), LI uC uM → Hd D tA b 0 78 zz uC.1 uC.2.1 uC.2.2 H → Hd D tA b 78 52 zz uM.1 uM.2.1 uM.2.2 H → va_S (Sb b) s.heap H locs → lv_has ls 4 [(3, .int k), (2, .ref (b + 78)), (1, .ref (b + 0)), (0, .ref sb)] → W p l e room_1 s m #[Value.ref sb] below meth c H locs 130 99576 (lw_Z below #[Value.ref sb] s) (F0 m 1014 ls [])) : W p l e room_1 s m #[Value.ref sb] below meth c H locs 130 99576 (lw_Z below #[Value.ref sb] s) (F0 m 699 ls []) := by
  obtain ⟨hL, C0, C2, hX, hbl, hb, hr, hlk⟩ := id C
  have hbA : ¬ Sb b sb := by unfold Sb; omega
  have hk1 : Int32.toInt (k + 1) = k.toInt + 1 := (fb_addI (by have : Int32.toInt 1 = 1 := rfl; omega) (by have : Int32.toInt 1 = 1 := rfl; omega)).trans rfl
  have hk2 : Int32.toInt (k + 2) = k.toInt + 2 := (fb_addI (by have : Int32.toInt 2 = 2 := rfl; omega) (by have : Int32.toInt 2 = 2 := rfl; omega)).trans rfl
  have hk3 : Int32.toInt (k + 3) = k.toInt + 3 := (fb_addI (by have : Int32.toInt 3 = 3 := rfl; omega) (by have : Int32.toInt 3 = 3 := rfl; omega)).trans rfl
  obtain ⟨iC, FC, GC⟩ := uC
  obtain ⟨iM, FM, GM⟩ := uM
  obtain ⟨S, hLC, hLM, hCE⟩ := hLI
  refine lv_aload_n (pc := 699) C0.1 C0.2.1 dL_law_699 rfl (lv_at hl 2 rfl) ?_
  refine lv_aload_n (pc := 700) C0.1 C0.2.1 dL_law_700 rfl (lv_at hl 3 rfl) ?_
  refine lv_iload_n (pc := 701) C0.1 C0.2.1 dL_law_701 rfl (lv_at hl 0 rfl) ?_
  refine lv_iconst (pc := 702) (v := 1) C0.1 C0.2.1 dL_law_702 (by decide) ?_
  refine lv_iadd (pc := 703) C0.1 C0.2.1 dL_law_703 ?_
  refine va_sld (pc := 704) C0.1 C0.2.1 hX hbl hbA hS (i := k + 1) (vI (by omega) (by omega)) dL_law_704 ?_
  refine lv_aload_n (pc := 705) C0.1 C0.2.1 dL_law_705 rfl (lv_at hl 3 rfl) ?_
  refine lv_iload_n (pc := 706) C0.1 C0.2.1 dL_law_706 rfl (lv_at hl 0 rfl) ?_
  refine lv_iconst (pc := 707) (v := 2) C0.1 C0.2.1 dL_law_707 (by decide) ?_
  refine lv_iadd (pc := 708) C0.1 C0.2.1 dL_law_708 ?_
  refine va_sld (pc := 709) C0.1 C0.2.1 hX hbl hbA hS (i := k + 2) (vI (by omega) (by omega)) dL_law_709 ?_
  refine lv_aload_n (pc := 710) C0.1 C0.2.1 dL_law_710 rfl (lv_at hl 3 rfl) ?_
  refine lv_iload_n (pc := 711) C0.1 C0.2.1 dL_law_711 rfl (lv_at hl 0 rfl) ?_
  refine lv_iconst (pc := 712) (v := 3) C0.1 C0.2.1 dL_law_712 (by decide) ?_
  refine lv_iadd (pc := 713) C0.1 C0.2.1 dL_law_713 ?_
  refine va_sld (pc := 714) C0.1 C0.2.1 hX hbl hbA hS (i := k + 3) (vI (by omega) (by omega)) dL_law_714 ?_
  refine xcVIK (pc := 715) 0 [.int (xs (Int32.toNatClampNeg (k + 1))), .int (xs (Int32.toNatClampNeg (k + 2))), .int (xs (Int32.toNatClampNeg (k + 3)))] (g_X9_itemAs l D tA b iC FC GC (xs (Int32.toNatClampNeg (k + 1))) (xs (Int32.toNatClampNeg (k + 2))) (xs (Int32.toNatClampNeg (k + 3))) hLC.1) C0 hC hM (Or.inl (by decide)) hS clX9 rfl ⟨⟨Nat.le_of_ble_eq_true rfl, Nat.le_of_ble_eq_true rfl⟩, rfl, rfl⟩ cw_L_88 rfl ⟨Nat.le_of_ble_eq_true rfl, Nat.le_of_ble_eq_true rfl⟩ hl.1 rfl (Nat.le_of_ble_eq_true rfl) dL_law_715 ⟨Nat.le_of_ble_eq_true rfl, Nat.le_of_ble_eq_true rfl⟩ (fun r1 ur1 _ locs hp hC hM hS => ?_)
  have er1 := hp
  clear hp
  refine lv_pop (pc := 718) C0.1 C0.2.1 dL_law_718 rfl ?_
  refine lv_aload_n (pc := 719) C0.1 C0.2.1 dL_law_719 rfl (lv_at hl 1 rfl) ?_
  refine lv_aload_n (pc := 720) C0.1 C0.2.1 dL_law_720 rfl (lv_at hl 3 rfl) ?_
  refine lv_iload_n (pc := 721) C0.1 C0.2.1 dL_law_721 rfl (lv_at hl 0 rfl) ?_
  refine lv_iconst (pc := 722) (v := 1) C0.1 C0.2.1 dL_law_722 (by decide) ?_
  refine lv_iadd (pc := 723) C0.1 C0.2.1 dL_law_723 ?_
  refine va_sld (pc := 724) C0.1 C0.2.1 hX hbl hbA hS (i := k + 1) (vI (by omega) (by omega)) dL_law_724 ?_
  refine lv_aload_n (pc := 725) C0.1 C0.2.1 dL_law_725 rfl (lv_at hl 3 rfl) ?_
  refine lv_iload_n (pc := 726) C0.1 C0.2.1 dL_law_726 rfl (lv_at hl 0 rfl) ?_
  refine lv_iconst (pc := 727) (v := 2) C0.1 C0.2.1 dL_law_727 (by decide) ?_
  refine lv_iadd (pc := 728) C0.1 C0.2.1 dL_law_728 ?_
  refine va_sld (pc := 729) C0.1 C0.2.1 hX hbl hbA hS (i := k + 2) (vI (by omega) (by omega)) dL_law_729 ?_
  refine lv_aload_n (pc := 730) C0.1 C0.2.1 dL_law_730 rfl (lv_at hl 3 rfl) ?_
  refine lv_iload_n (pc := 731) C0.1 C0.2.1 dL_law_731 rfl (lv_at hl 0 rfl) ?_
  refine lv_iconst (pc := 732) (v := 3) C0.1 C0.2.1 dL_law_732 (by decide) ?_
  refine lv_iadd (pc := 733) C0.1 C0.2.1 dL_law_733 ?_
  refine va_sld (pc := 734) C0.1 C0.2.1 hX hbl hbA hS (i := k + 3) (vI (by omega) (by omega)) dL_law_734 ?_
  refine xcVIK (pc := 735) 78 [.int (xs (Int32.toNatClampNeg (k + 1))), .int (xs (Int32.toNatClampNeg (k + 2))), .int (xs (Int32.toNatClampNeg (k + 3)))] (m_itemAs l D tA b iM FM GM (xs (Int32.toNatClampNeg (k + 1))) (xs (Int32.toNatClampNeg (k + 2))) (xs (Int32.toNatClampNeg (k + 3))) hLM.1) C2 hM hC (Or.inr (by decide)) hS clX10 rfl ⟨⟨Nat.le_of_ble_eq_true rfl, Nat.le_of_ble_eq_true rfl⟩, rfl, rfl⟩ cw_L_92 rfl ⟨Nat.le_of_ble_eq_true rfl, Nat.le_of_ble_eq_true rfl⟩ hl.1 rfl (Nat.le_of_ble_eq_true rfl) dL_law_735 ⟨Nat.le_of_ble_eq_true rfl, Nat.le_of_ble_eq_true rfl⟩ (fun r2 ur2 _ locs hp hM hC hS => ?_)
  have er2 := hp
  clear hp
  refine lv_pop (pc := 738) C0.1 C0.2.1 dL_law_738 rfl ?_
  refine lv_goto (pc := 739) (tgt := 1014) C0.1 C0.2.1 dL_law_739 (by decide) ?_
  have hLI2 := LI.a hCE (LC.pu hLC er1) (LM.pu hLM er2)
  exact NX ur1 ur2 _ _ _ hLI2 hC hM hS (lv_sub hl [0, 1, 2, 3] rfl)
set_option maxHeartbeats 4000000 in
set_option maxRecDepth 100000 in
theorem law_18 {p : Program} {l : Launch} {e : Env} {s : State} {m : MethodId} {below : List Frame} {meth : Method} {c : Code} {H : Heap} {locs : List Loc} {D : va_G} {tA : Nat → ClassId} {b sb : Nat} {xs : Nat → Int32} {ls : Array Slot} {L : Nat} {k : Int32} {uC uM : XS} (C : LW p s m meth c D tA b sb L xs) (hk : 0 ≤ k.toInt ∧ k.toInt + 4 ≤ L) (hLI : LI uC uM) (hC : Hd D tA b 0 78 zz uC.1 uC.2.1 uC.2.2 H) (hM : Hd D tA b 78 52 zz uM.1 uM.2.1 uM.2.2 H) (hS : va_S (Sb b) s.heap H locs) (hl : lv_has ls 4 [(3, .int k), (2, .ref (b + 78)), (1, .ref (b + 0)), (0, .ref sb)]) (NX : ∀ (uC uM : XS) (H : Heap) (locs : List Loc) (ls : Array Slot), LI uC uM → Hd D tA b 0 78 zz uC.1 uC.2.1 uC.2.2 H → Hd D tA b 78 52 zz uM.1 uM.2.1 uM.2.2 H → va_S (Sb b) s.heap H locs → lv_has ls 4 [(3, .int k), (2, .ref (b + 78)), (1, .ref (b + 0)), (0, .ref sb)] → W p l e room_1 s m #[Value.ref sb] below meth c H locs 130 99576 (lw_Z below #[Value.ref sb] s) (F0 m 1014 ls [])) : W p l e room_1 s m #[Value.ref sb] below meth c H locs 130 99576 (lw_Z below #[Value.ref sb] s) (F0 m 742 ls []) := by
  obtain ⟨hL, C0, C2, hX, hbl, hb, hr, hlk⟩ := id C
  have hbA : ¬ Sb b sb := by unfold Sb; omega
  have hk1 : Int32.toInt (k + 1) = k.toInt + 1 := (fb_addI (by have : Int32.toInt 1 = 1 := rfl; omega) (by have : Int32.toInt 1 = 1 := rfl; omega)).trans rfl
  have hk2 : Int32.toInt (k + 2) = k.toInt + 2 := (fb_addI (by have : Int32.toInt 2 = 2 := rfl; omega) (by have : Int32.toInt 2 = 2 := rfl; omega)).trans rfl
  have hk3 : Int32.toInt (k + 3) = k.toInt + 3 := (fb_addI (by have : Int32.toInt 3 = 3 := rfl; omega) (by have : Int32.toInt 3 = 3 := rfl; omega)).trans rfl
  obtain ⟨iC, FC, GC⟩ := uC
  obtain ⟨iM, FM, GM⟩ := uM
  obtain ⟨S, hLC, hLM, hCE⟩ := hLI
  refine lv_aload_n (pc := 742) C0.1 C0.2.1 dL_law_742 rfl (lv_at hl 2 rfl) ?_
  refine lv_aload_n (pc := 743) C0.1 C0.2.1 dL_law_743 rfl (lv_at hl 3 rfl) ?_
  refine lv_iload_n (pc := 744) C0.1 C0.2.1 dL_law_744 rfl (lv_at hl 0 rfl) ?_
  refine lv_iconst (pc := 745) (v := 1) C0.1 C0.2.1 dL_law_745 (by decide) ?_
  refine lv_iadd (pc := 746) C0.1 C0.2.1 dL_law_746 ?_
  refine va_sld (pc := 747) C0.1 C0.2.1 hX hbl hbA hS (i := k + 1) (vI (by omega) (by omega)) dL_law_747 ?_
  refine lv_if_eq (pc := 748) (tgt := 755) C0.1 C0.2.1 dL_law_748 (by decide) (fun _ => ?_) (fun _ => ?_)
  · refine lv_iconst (pc := 755) (v := 0) C0.1 C0.2.1 dL_law_755 (by decide) ?_
    refine lv_aload_n (pc := 756) C0.1 C0.2.1 dL_law_756 rfl (lv_at hl 3 rfl) ?_
    refine lv_iload_n (pc := 757) C0.1 C0.2.1 dL_law_757 rfl (lv_at hl 0 rfl) ?_
    refine lv_iconst (pc := 758) (v := 2) C0.1 C0.2.1 dL_law_758 (by decide) ?_
    refine lv_iadd (pc := 759) C0.1 C0.2.1 dL_law_759 ?_
    refine va_sld (pc := 760) C0.1 C0.2.1 hX hbl hbA hS (i := k + 2) (vI (by omega) (by omega)) dL_law_760 ?_
    refine lv_aload_n (pc := 761) C0.1 C0.2.1 dL_law_761 rfl (lv_at hl 3 rfl) ?_
    refine lv_iload_n (pc := 762) C0.1 C0.2.1 dL_law_762 rfl (lv_at hl 0 rfl) ?_
    refine lv_iconst (pc := 763) (v := 3) C0.1 C0.2.1 dL_law_763 (by decide) ?_
    refine lv_iadd (pc := 764) C0.1 C0.2.1 dL_law_764 ?_
    refine va_sld (pc := 765) C0.1 C0.2.1 hX hbl hbA hS (i := k + 3) (vI (by omega) (by omega)) dL_law_765 ?_
    refine xcVIK (pc := 766) 0 [.int 0, .int (xs (Int32.toNatClampNeg (k + 2))), .int (xs (Int32.toNatClampNeg (k + 3)))] (g_X9_reach l D tA b iC FC GC 0 (xs (Int32.toNatClampNeg (k + 2))) (xs (Int32.toNatClampNeg (k + 3))) hLC.1) C0 hC hM (Or.inl (by decide)) hS clX9 rfl ⟨⟨Nat.le_of_ble_eq_true rfl, Nat.le_of_ble_eq_true rfl⟩, rfl, rfl⟩ cw_L_93 rfl ⟨Nat.le_of_ble_eq_true rfl, Nat.le_of_ble_eq_true rfl⟩ hl.1 rfl (Nat.le_of_ble_eq_true rfl) dL_law_766 ⟨Nat.le_of_ble_eq_true rfl, Nat.le_of_ble_eq_true rfl⟩ (fun r1 ur1 _ locs hp hC hM hS => ?_)
    have er1 := hp
    clear hp
    refine lv_pop (pc := 769) C0.1 C0.2.1 dL_law_769 rfl ?_
    refine lv_aload_n (pc := 770) C0.1 C0.2.1 dL_law_770 rfl (lv_at hl 1 rfl) ?_
    refine lv_aload_n (pc := 771) C0.1 C0.2.1 dL_law_771 rfl (lv_at hl 3 rfl) ?_
    refine lv_iload_n (pc := 772) C0.1 C0.2.1 dL_law_772 rfl (lv_at hl 0 rfl) ?_
    refine lv_iconst (pc := 773) (v := 1) C0.1 C0.2.1 dL_law_773 (by decide) ?_
    refine lv_iadd (pc := 774) C0.1 C0.2.1 dL_law_774 ?_
    refine va_sld (pc := 775) C0.1 C0.2.1 hX hbl hbA hS (i := k + 1) (vI (by omega) (by omega)) dL_law_775 ?_
    refine lv_if_eq (pc := 776) (tgt := 783) C0.1 C0.2.1 dL_law_776 (by decide) (fun _ => ?_) (fun _ => ?_)
    · refine lv_iconst (pc := 783) (v := 0) C0.1 C0.2.1 dL_law_783 (by decide) ?_
      refine lv_aload_n (pc := 784) C0.1 C0.2.1 dL_law_784 rfl (lv_at hl 3 rfl) ?_
      refine lv_iload_n (pc := 785) C0.1 C0.2.1 dL_law_785 rfl (lv_at hl 0 rfl) ?_
      refine lv_iconst (pc := 786) (v := 2) C0.1 C0.2.1 dL_law_786 (by decide) ?_
      refine lv_iadd (pc := 787) C0.1 C0.2.1 dL_law_787 ?_
      refine va_sld (pc := 788) C0.1 C0.2.1 hX hbl hbA hS (i := k + 2) (vI (by omega) (by omega)) dL_law_788 ?_
      refine lv_aload_n (pc := 789) C0.1 C0.2.1 dL_law_789 rfl (lv_at hl 3 rfl) ?_
      refine lv_iload_n (pc := 790) C0.1 C0.2.1 dL_law_790 rfl (lv_at hl 0 rfl) ?_
      refine lv_iconst (pc := 791) (v := 3) C0.1 C0.2.1 dL_law_791 (by decide) ?_
      refine lv_iadd (pc := 792) C0.1 C0.2.1 dL_law_792 ?_
      refine va_sld (pc := 793) C0.1 C0.2.1 hX hbl hbA hS (i := k + 3) (vI (by omega) (by omega)) dL_law_793 ?_
      refine xcVIK (pc := 794) 78 [.int 0, .int (xs (Int32.toNatClampNeg (k + 2))), .int (xs (Int32.toNatClampNeg (k + 3)))] (m_reach l D tA b iM FM GM 0 (xs (Int32.toNatClampNeg (k + 2))) (xs (Int32.toNatClampNeg (k + 3))) hLM.1) C2 hM hC (Or.inr (by decide)) hS clX10 rfl ⟨⟨Nat.le_of_ble_eq_true rfl, Nat.le_of_ble_eq_true rfl⟩, rfl, rfl⟩ cw_L_97 rfl ⟨Nat.le_of_ble_eq_true rfl, Nat.le_of_ble_eq_true rfl⟩ hl.1 rfl (Nat.le_of_ble_eq_true rfl) dL_law_794 ⟨Nat.le_of_ble_eq_true rfl, Nat.le_of_ble_eq_true rfl⟩ (fun r2 ur2 _ locs hp hM hC hS => ?_)
      have er2 := hp
      clear hp
      refine lv_pop (pc := 797) C0.1 C0.2.1 dL_law_797 rfl ?_
      refine lv_goto (pc := 798) (tgt := 1014) C0.1 C0.2.1 dL_law_798 (by decide) ?_
      have hLI2 := LI.a hCE (LC.pu hLC er1) (LM.pu hLM er2)
      exact NX ur1 ur2 _ _ _ hLI2 hC hM hS (lv_sub hl [0, 1, 2, 3] rfl)
    · refine lv_iconst (pc := 779) (v := 1) C0.1 C0.2.1 dL_law_779 (by decide) ?_
      refine lv_goto (pc := 780) (tgt := 784) C0.1 C0.2.1 dL_law_780 (by decide) ?_
      refine lv_aload_n (pc := 784) C0.1 C0.2.1 dL_law_784 rfl (lv_at hl 3 rfl) ?_
      refine lv_iload_n (pc := 785) C0.1 C0.2.1 dL_law_785 rfl (lv_at hl 0 rfl) ?_
      refine lv_iconst (pc := 786) (v := 2) C0.1 C0.2.1 dL_law_786 (by decide) ?_
      refine lv_iadd (pc := 787) C0.1 C0.2.1 dL_law_787 ?_
      refine va_sld (pc := 788) C0.1 C0.2.1 hX hbl hbA hS (i := k + 2) (vI (by omega) (by omega)) dL_law_788 ?_
      refine lv_aload_n (pc := 789) C0.1 C0.2.1 dL_law_789 rfl (lv_at hl 3 rfl) ?_
      refine lv_iload_n (pc := 790) C0.1 C0.2.1 dL_law_790 rfl (lv_at hl 0 rfl) ?_
      refine lv_iconst (pc := 791) (v := 3) C0.1 C0.2.1 dL_law_791 (by decide) ?_
      refine lv_iadd (pc := 792) C0.1 C0.2.1 dL_law_792 ?_
      refine va_sld (pc := 793) C0.1 C0.2.1 hX hbl hbA hS (i := k + 3) (vI (by omega) (by omega)) dL_law_793 ?_
      refine xcVIK (pc := 794) 78 [.int 1, .int (xs (Int32.toNatClampNeg (k + 2))), .int (xs (Int32.toNatClampNeg (k + 3)))] (m_reach l D tA b iM FM GM 1 (xs (Int32.toNatClampNeg (k + 2))) (xs (Int32.toNatClampNeg (k + 3))) hLM.1) C2 hM hC (Or.inr (by decide)) hS clX10 rfl ⟨⟨Nat.le_of_ble_eq_true rfl, Nat.le_of_ble_eq_true rfl⟩, rfl, rfl⟩ cw_L_97 rfl ⟨Nat.le_of_ble_eq_true rfl, Nat.le_of_ble_eq_true rfl⟩ hl.1 rfl (Nat.le_of_ble_eq_true rfl) dL_law_794 ⟨Nat.le_of_ble_eq_true rfl, Nat.le_of_ble_eq_true rfl⟩ (fun r3 ur3 _ locs hp hM hC hS => ?_)
      have er3 := hp
      clear hp
      refine lv_pop (pc := 797) C0.1 C0.2.1 dL_law_797 rfl ?_
      refine lv_goto (pc := 798) (tgt := 1014) C0.1 C0.2.1 dL_law_798 (by decide) ?_
      have hLI2 := LI.a hCE (LC.pu hLC er1) (LM.pu hLM er3)
      exact NX ur1 ur3 _ _ _ hLI2 hC hM hS (lv_sub hl [0, 1, 2, 3] rfl)
  · refine lv_iconst (pc := 751) (v := 1) C0.1 C0.2.1 dL_law_751 (by decide) ?_
    refine lv_goto (pc := 752) (tgt := 756) C0.1 C0.2.1 dL_law_752 (by decide) ?_
    refine lv_aload_n (pc := 756) C0.1 C0.2.1 dL_law_756 rfl (lv_at hl 3 rfl) ?_
    refine lv_iload_n (pc := 757) C0.1 C0.2.1 dL_law_757 rfl (lv_at hl 0 rfl) ?_
    refine lv_iconst (pc := 758) (v := 2) C0.1 C0.2.1 dL_law_758 (by decide) ?_
    refine lv_iadd (pc := 759) C0.1 C0.2.1 dL_law_759 ?_
    refine va_sld (pc := 760) C0.1 C0.2.1 hX hbl hbA hS (i := k + 2) (vI (by omega) (by omega)) dL_law_760 ?_
    refine lv_aload_n (pc := 761) C0.1 C0.2.1 dL_law_761 rfl (lv_at hl 3 rfl) ?_
    refine lv_iload_n (pc := 762) C0.1 C0.2.1 dL_law_762 rfl (lv_at hl 0 rfl) ?_
    refine lv_iconst (pc := 763) (v := 3) C0.1 C0.2.1 dL_law_763 (by decide) ?_
    refine lv_iadd (pc := 764) C0.1 C0.2.1 dL_law_764 ?_
    refine va_sld (pc := 765) C0.1 C0.2.1 hX hbl hbA hS (i := k + 3) (vI (by omega) (by omega)) dL_law_765 ?_
    refine xcVIK (pc := 766) 0 [.int 1, .int (xs (Int32.toNatClampNeg (k + 2))), .int (xs (Int32.toNatClampNeg (k + 3)))] (g_X9_reach l D tA b iC FC GC 1 (xs (Int32.toNatClampNeg (k + 2))) (xs (Int32.toNatClampNeg (k + 3))) hLC.1) C0 hC hM (Or.inl (by decide)) hS clX9 rfl ⟨⟨Nat.le_of_ble_eq_true rfl, Nat.le_of_ble_eq_true rfl⟩, rfl, rfl⟩ cw_L_93 rfl ⟨Nat.le_of_ble_eq_true rfl, Nat.le_of_ble_eq_true rfl⟩ hl.1 rfl (Nat.le_of_ble_eq_true rfl) dL_law_766 ⟨Nat.le_of_ble_eq_true rfl, Nat.le_of_ble_eq_true rfl⟩ (fun r4 ur4 _ locs hp hC hM hS => ?_)
    have er4 := hp
    clear hp
    refine lv_pop (pc := 769) C0.1 C0.2.1 dL_law_769 rfl ?_
    refine lv_aload_n (pc := 770) C0.1 C0.2.1 dL_law_770 rfl (lv_at hl 1 rfl) ?_
    refine lv_aload_n (pc := 771) C0.1 C0.2.1 dL_law_771 rfl (lv_at hl 3 rfl) ?_
    refine lv_iload_n (pc := 772) C0.1 C0.2.1 dL_law_772 rfl (lv_at hl 0 rfl) ?_
    refine lv_iconst (pc := 773) (v := 1) C0.1 C0.2.1 dL_law_773 (by decide) ?_
    refine lv_iadd (pc := 774) C0.1 C0.2.1 dL_law_774 ?_
    refine va_sld (pc := 775) C0.1 C0.2.1 hX hbl hbA hS (i := k + 1) (vI (by omega) (by omega)) dL_law_775 ?_
    refine lv_if_eq (pc := 776) (tgt := 783) C0.1 C0.2.1 dL_law_776 (by decide) (fun _ => ?_) (fun _ => ?_)
    · refine lv_iconst (pc := 783) (v := 0) C0.1 C0.2.1 dL_law_783 (by decide) ?_
      refine lv_aload_n (pc := 784) C0.1 C0.2.1 dL_law_784 rfl (lv_at hl 3 rfl) ?_
      refine lv_iload_n (pc := 785) C0.1 C0.2.1 dL_law_785 rfl (lv_at hl 0 rfl) ?_
      refine lv_iconst (pc := 786) (v := 2) C0.1 C0.2.1 dL_law_786 (by decide) ?_
      refine lv_iadd (pc := 787) C0.1 C0.2.1 dL_law_787 ?_
      refine va_sld (pc := 788) C0.1 C0.2.1 hX hbl hbA hS (i := k + 2) (vI (by omega) (by omega)) dL_law_788 ?_
      refine lv_aload_n (pc := 789) C0.1 C0.2.1 dL_law_789 rfl (lv_at hl 3 rfl) ?_
      refine lv_iload_n (pc := 790) C0.1 C0.2.1 dL_law_790 rfl (lv_at hl 0 rfl) ?_
      refine lv_iconst (pc := 791) (v := 3) C0.1 C0.2.1 dL_law_791 (by decide) ?_
      refine lv_iadd (pc := 792) C0.1 C0.2.1 dL_law_792 ?_
      refine va_sld (pc := 793) C0.1 C0.2.1 hX hbl hbA hS (i := k + 3) (vI (by omega) (by omega)) dL_law_793 ?_
      refine xcVIK (pc := 794) 78 [.int 0, .int (xs (Int32.toNatClampNeg (k + 2))), .int (xs (Int32.toNatClampNeg (k + 3)))] (m_reach l D tA b iM FM GM 0 (xs (Int32.toNatClampNeg (k + 2))) (xs (Int32.toNatClampNeg (k + 3))) hLM.1) C2 hM hC (Or.inr (by decide)) hS clX10 rfl ⟨⟨Nat.le_of_ble_eq_true rfl, Nat.le_of_ble_eq_true rfl⟩, rfl, rfl⟩ cw_L_97 rfl ⟨Nat.le_of_ble_eq_true rfl, Nat.le_of_ble_eq_true rfl⟩ hl.1 rfl (Nat.le_of_ble_eq_true rfl) dL_law_794 ⟨Nat.le_of_ble_eq_true rfl, Nat.le_of_ble_eq_true rfl⟩ (fun r5 ur5 _ locs hp hM hC hS => ?_)
      have er5 := hp
      clear hp
      refine lv_pop (pc := 797) C0.1 C0.2.1 dL_law_797 rfl ?_
      refine lv_goto (pc := 798) (tgt := 1014) C0.1 C0.2.1 dL_law_798 (by decide) ?_
      have hLI2 := LI.a hCE (LC.pu hLC er4) (LM.pu hLM er5)
      exact NX ur4 ur5 _ _ _ hLI2 hC hM hS (lv_sub hl [0, 1, 2, 3] rfl)
    · refine lv_iconst (pc := 779) (v := 1) C0.1 C0.2.1 dL_law_779 (by decide) ?_
      refine lv_goto (pc := 780) (tgt := 784) C0.1 C0.2.1 dL_law_780 (by decide) ?_
      refine lv_aload_n (pc := 784) C0.1 C0.2.1 dL_law_784 rfl (lv_at hl 3 rfl) ?_
      refine lv_iload_n (pc := 785) C0.1 C0.2.1 dL_law_785 rfl (lv_at hl 0 rfl) ?_
      refine lv_iconst (pc := 786) (v := 2) C0.1 C0.2.1 dL_law_786 (by decide) ?_
      refine lv_iadd (pc := 787) C0.1 C0.2.1 dL_law_787 ?_
      refine va_sld (pc := 788) C0.1 C0.2.1 hX hbl hbA hS (i := k + 2) (vI (by omega) (by omega)) dL_law_788 ?_
      refine lv_aload_n (pc := 789) C0.1 C0.2.1 dL_law_789 rfl (lv_at hl 3 rfl) ?_
      refine lv_iload_n (pc := 790) C0.1 C0.2.1 dL_law_790 rfl (lv_at hl 0 rfl) ?_
      refine lv_iconst (pc := 791) (v := 3) C0.1 C0.2.1 dL_law_791 (by decide) ?_
      refine lv_iadd (pc := 792) C0.1 C0.2.1 dL_law_792 ?_
      refine va_sld (pc := 793) C0.1 C0.2.1 hX hbl hbA hS (i := k + 3) (vI (by omega) (by omega)) dL_law_793 ?_
      refine xcVIK (pc := 794) 78 [.int 1, .int (xs (Int32.toNatClampNeg (k + 2))), .int (xs (Int32.toNatClampNeg (k + 3)))] (m_reach l D tA b iM FM GM 1 (xs (Int32.toNatClampNeg (k + 2))) (xs (Int32.toNatClampNeg (k + 3))) hLM.1) C2 hM hC (Or.inr (by decide)) hS clX10 rfl ⟨⟨Nat.le_of_ble_eq_true rfl, Nat.le_of_ble_eq_true rfl⟩, rfl, rfl⟩ cw_L_97 rfl ⟨Nat.le_of_ble_eq_true rfl, Nat.le_of_ble_eq_true rfl⟩ hl.1 rfl (Nat.le_of_ble_eq_true rfl) dL_law_794 ⟨Nat.le_of_ble_eq_true rfl, Nat.le_of_ble_eq_true rfl⟩ (fun r6 ur6 _ locs hp hM hC hS => ?_)
      have er6 := hp
      clear hp
      refine lv_pop (pc := 797) C0.1 C0.2.1 dL_law_797 rfl ?_
      refine lv_goto (pc := 798) (tgt := 1014) C0.1 C0.2.1 dL_law_798 (by decide) ?_
      have hLI2 := LI.a hCE (LC.pu hLC er4) (LM.pu hLM er6)
      exact NX ur4 ur6 _ _ _ hLI2 hC hM hS (lv_sub hl [0, 1, 2, 3] rfl)
set_option maxHeartbeats 4000000 in
set_option maxRecDepth 100000 in
theorem law_19 {p : Program} {l : Launch} {e : Env} {s : State} {m : MethodId} {below : List Frame} {meth : Method} {c : Code} {H : Heap} {locs : List Loc} {D : va_G} {tA : Nat → ClassId} {b sb : Nat} {xs : Nat → Int32} {ls : Array Slot} {L : Nat} {k : Int32} {uC uM : XS} (C : LW p s m meth c D tA b sb L xs) (hk : 0 ≤ k.toInt ∧ k.toInt + 4 ≤ L) (hLI : LI uC uM) (hC : Hd D tA b 0 78 zz uC.1 uC.2.1 uC.2.2 H) (hM : Hd D tA b 78 52 zz uM.1 uM.2.1 uM.2.2 H) (hS : va_S (Sb b) s.heap H locs) (hl : lv_has ls 4 [(3, .int k), (2, .ref (b + 78)), (1, .ref (b + 0)), (0, .ref sb)]) (NX : ∀ (uC uM : XS) (H : Heap) (locs : List Loc) (ls : Array Slot), LI uC uM → Hd D tA b 0 78 zz uC.1 uC.2.1 uC.2.2 H → Hd D tA b 78 52 zz uM.1 uM.2.1 uM.2.2 H → va_S (Sb b) s.heap H locs → lv_has ls 4 [(3, .int k), (2, .ref (b + 78)), (1, .ref (b + 0)), (0, .ref sb)] → W p l e room_1 s m #[Value.ref sb] below meth c H locs 130 99576 (lw_Z below #[Value.ref sb] s) (F0 m 1014 ls [])) : W p l e room_1 s m #[Value.ref sb] below meth c H locs 130 99576 (lw_Z below #[Value.ref sb] s) (F0 m 801 ls []) := by
  obtain ⟨hL, C0, C2, hX, hbl, hb, hr, hlk⟩ := id C
  have hbA : ¬ Sb b sb := by unfold Sb; omega
  have hk1 : Int32.toInt (k + 1) = k.toInt + 1 := (fb_addI (by have : Int32.toInt 1 = 1 := rfl; omega) (by have : Int32.toInt 1 = 1 := rfl; omega)).trans rfl
  have hk2 : Int32.toInt (k + 2) = k.toInt + 2 := (fb_addI (by have : Int32.toInt 2 = 2 := rfl; omega) (by have : Int32.toInt 2 = 2 := rfl; omega)).trans rfl
  have hk3 : Int32.toInt (k + 3) = k.toInt + 3 := (fb_addI (by have : Int32.toInt 3 = 3 := rfl; omega) (by have : Int32.toInt 3 = 3 := rfl; omega)).trans rfl
  obtain ⟨iC, FC, GC⟩ := uC
  obtain ⟨iM, FM, GM⟩ := uM
  obtain ⟨S, hLC, hLM, hCE⟩ := hLI
  refine lv_aload_n (pc := 801) C0.1 C0.2.1 dL_law_801 rfl (lv_at hl 2 rfl) ?_
  refine lv_aload_n (pc := 802) C0.1 C0.2.1 dL_law_802 rfl (lv_at hl 3 rfl) ?_
  refine lv_iload_n (pc := 803) C0.1 C0.2.1 dL_law_803 rfl (lv_at hl 0 rfl) ?_
  refine lv_iconst (pc := 804) (v := 1) C0.1 C0.2.1 dL_law_804 (by decide) ?_
  refine lv_iadd (pc := 805) C0.1 C0.2.1 dL_law_805 ?_
  refine va_sld (pc := 806) C0.1 C0.2.1 hX hbl hbA hS (i := k + 1) (vI (by omega) (by omega)) dL_law_806 ?_
  refine lv_aload_n (pc := 807) C0.1 C0.2.1 dL_law_807 rfl (lv_at hl 3 rfl) ?_
  refine lv_iload_n (pc := 808) C0.1 C0.2.1 dL_law_808 rfl (lv_at hl 0 rfl) ?_
  refine lv_iconst (pc := 809) (v := 2) C0.1 C0.2.1 dL_law_809 (by decide) ?_
  refine lv_iadd (pc := 810) C0.1 C0.2.1 dL_law_810 ?_
  refine va_sld (pc := 811) C0.1 C0.2.1 hX hbl hbA hS (i := k + 2) (vI (by omega) (by omega)) dL_law_811 ?_
  refine xcVIK (pc := 812) 0 [.int (xs (Int32.toNatClampNeg (k + 1))), .int (xs (Int32.toNatClampNeg (k + 2)))] (g_X9_around l D tA b iC FC GC (xs (Int32.toNatClampNeg (k + 1))) (xs (Int32.toNatClampNeg (k + 2))) hLC.1) C0 hC hM (Or.inl (by decide)) hS clX9 rfl ⟨⟨Nat.le_of_ble_eq_true rfl, Nat.le_of_ble_eq_true rfl⟩, rfl, rfl⟩ cw_L_98 rfl ⟨Nat.le_of_ble_eq_true rfl, Nat.le_of_ble_eq_true rfl⟩ hl.1 rfl (Nat.le_of_ble_eq_true rfl) dL_law_812 ⟨Nat.le_of_ble_eq_true rfl, Nat.le_of_ble_eq_true rfl⟩ (fun r1 ur1 _ locs hp hC hM hS => ?_)
  have er1 := hp
  clear hp
  refine lv_pop (pc := 815) C0.1 C0.2.1 dL_law_815 rfl ?_
  refine lv_aload_n (pc := 816) C0.1 C0.2.1 dL_law_816 rfl (lv_at hl 1 rfl) ?_
  refine lv_aload_n (pc := 817) C0.1 C0.2.1 dL_law_817 rfl (lv_at hl 3 rfl) ?_
  refine lv_iload_n (pc := 818) C0.1 C0.2.1 dL_law_818 rfl (lv_at hl 0 rfl) ?_
  refine lv_iconst (pc := 819) (v := 1) C0.1 C0.2.1 dL_law_819 (by decide) ?_
  refine lv_iadd (pc := 820) C0.1 C0.2.1 dL_law_820 ?_
  refine va_sld (pc := 821) C0.1 C0.2.1 hX hbl hbA hS (i := k + 1) (vI (by omega) (by omega)) dL_law_821 ?_
  refine lv_aload_n (pc := 822) C0.1 C0.2.1 dL_law_822 rfl (lv_at hl 3 rfl) ?_
  refine lv_iload_n (pc := 823) C0.1 C0.2.1 dL_law_823 rfl (lv_at hl 0 rfl) ?_
  refine lv_iconst (pc := 824) (v := 2) C0.1 C0.2.1 dL_law_824 (by decide) ?_
  refine lv_iadd (pc := 825) C0.1 C0.2.1 dL_law_825 ?_
  refine va_sld (pc := 826) C0.1 C0.2.1 hX hbl hbA hS (i := k + 2) (vI (by omega) (by omega)) dL_law_826 ?_
  refine xcVIK (pc := 827) 78 [.int (xs (Int32.toNatClampNeg (k + 1))), .int (xs (Int32.toNatClampNeg (k + 2)))] (m_around l D tA b iM FM GM (xs (Int32.toNatClampNeg (k + 1))) (xs (Int32.toNatClampNeg (k + 2))) hLM.1) C2 hM hC (Or.inr (by decide)) hS clX10 rfl ⟨⟨Nat.le_of_ble_eq_true rfl, Nat.le_of_ble_eq_true rfl⟩, rfl, rfl⟩ cw_L_101 rfl ⟨Nat.le_of_ble_eq_true rfl, Nat.le_of_ble_eq_true rfl⟩ hl.1 rfl (Nat.le_of_ble_eq_true rfl) dL_law_827 ⟨Nat.le_of_ble_eq_true rfl, Nat.le_of_ble_eq_true rfl⟩ (fun r2 ur2 _ locs hp hM hC hS => ?_)
  have er2 := hp
  clear hp
  refine lv_pop (pc := 830) C0.1 C0.2.1 dL_law_830 rfl ?_
  refine lv_goto (pc := 831) (tgt := 1014) C0.1 C0.2.1 dL_law_831 (by decide) ?_
  have hLI2 := LI.a hCE (LC.pu hLC er1) (LM.pu hLM er2)
  exact NX ur1 ur2 _ _ _ hLI2 hC hM hS (lv_sub hl [0, 1, 2, 3] rfl)
set_option maxHeartbeats 4000000 in
set_option maxRecDepth 100000 in
theorem law_20 {p : Program} {l : Launch} {e : Env} {s : State} {m : MethodId} {below : List Frame} {meth : Method} {c : Code} {H : Heap} {locs : List Loc} {D : va_G} {tA : Nat → ClassId} {b sb : Nat} {xs : Nat → Int32} {ls : Array Slot} {L : Nat} {k : Int32} {uC uM : XS} (C : LW p s m meth c D tA b sb L xs) (hk : 0 ≤ k.toInt ∧ k.toInt + 4 ≤ L) (hLI : LI uC uM) (hC : Hd D tA b 0 78 zz uC.1 uC.2.1 uC.2.2 H) (hM : Hd D tA b 78 52 zz uM.1 uM.2.1 uM.2.2 H) (hS : va_S (Sb b) s.heap H locs) (hl : lv_has ls 4 [(3, .int k), (2, .ref (b + 78)), (1, .ref (b + 0)), (0, .ref sb)]) (NX : ∀ (uC uM : XS) (H : Heap) (locs : List Loc) (ls : Array Slot), LI uC uM → Hd D tA b 0 78 zz uC.1 uC.2.1 uC.2.2 H → Hd D tA b 78 52 zz uM.1 uM.2.1 uM.2.2 H → va_S (Sb b) s.heap H locs → lv_has ls 4 [(3, .int k), (2, .ref (b + 78)), (1, .ref (b + 0)), (0, .ref sb)] → W p l e room_1 s m #[Value.ref sb] below meth c H locs 130 99576 (lw_Z below #[Value.ref sb] s) (F0 m 1014 ls [])) : W p l e room_1 s m #[Value.ref sb] below meth c H locs 130 99576 (lw_Z below #[Value.ref sb] s) (F0 m 834 ls []) := by
  obtain ⟨hL, C0, C2, hX, hbl, hb, hr, hlk⟩ := id C
  have hbA : ¬ Sb b sb := by unfold Sb; omega
  have hk1 : Int32.toInt (k + 1) = k.toInt + 1 := (fb_addI (by have : Int32.toInt 1 = 1 := rfl; omega) (by have : Int32.toInt 1 = 1 := rfl; omega)).trans rfl
  have hk2 : Int32.toInt (k + 2) = k.toInt + 2 := (fb_addI (by have : Int32.toInt 2 = 2 := rfl; omega) (by have : Int32.toInt 2 = 2 := rfl; omega)).trans rfl
  have hk3 : Int32.toInt (k + 3) = k.toInt + 3 := (fb_addI (by have : Int32.toInt 3 = 3 := rfl; omega) (by have : Int32.toInt 3 = 3 := rfl; omega)).trans rfl
  obtain ⟨iC, FC, GC⟩ := uC
  obtain ⟨iM, FM, GM⟩ := uM
  obtain ⟨S, hLC, hLM, hCE⟩ := hLI
  refine lv_aload_n (pc := 834) C0.1 C0.2.1 dL_law_834 rfl (lv_at hl 2 rfl) ?_
  refine xcVIK (pc := 835) 0 [] (g_X9_plain l D tA b iC FC GC  hLC.1 hLC.td) C0 hC hM (Or.inl (by decide)) hS clX9 rfl ⟨⟨Nat.le_of_ble_eq_true rfl, Nat.le_of_ble_eq_true rfl⟩, rfl, rfl⟩ cw_L_102 rfl ⟨Nat.le_of_ble_eq_true rfl, Nat.le_of_ble_eq_true rfl⟩ hl.1 rfl (Nat.le_of_ble_eq_true rfl) dL_law_835 ⟨Nat.le_of_ble_eq_true rfl, Nat.le_of_ble_eq_true rfl⟩ (fun r1 ur1 _ locs hp hC hM hS => ?_)
  have er1 := hp
  clear hp
  refine lv_pop (pc := 838) C0.1 C0.2.1 dL_law_838 rfl ?_
  refine lv_aload_n (pc := 839) C0.1 C0.2.1 dL_law_839 rfl (lv_at hl 1 rfl) ?_
  refine xcVIK (pc := 840) 78 [] (m_plain l D tA b iM FM GM  hLM.1) C2 hM hC (Or.inr (by decide)) hS clX10 rfl ⟨⟨Nat.le_of_ble_eq_true rfl, Nat.le_of_ble_eq_true rfl⟩, rfl, rfl⟩ cw_L_105 rfl ⟨Nat.le_of_ble_eq_true rfl, Nat.le_of_ble_eq_true rfl⟩ hl.1 rfl (Nat.le_of_ble_eq_true rfl) dL_law_840 ⟨Nat.le_of_ble_eq_true rfl, Nat.le_of_ble_eq_true rfl⟩ (fun r2 ur2 _ locs hp hM hC hS => ?_)
  have er2 := hp
  clear hp
  refine lv_pop (pc := 843) C0.1 C0.2.1 dL_law_843 rfl ?_
  refine lv_goto (pc := 844) (tgt := 1014) C0.1 C0.2.1 dL_law_844 (by decide) ?_
  have hLI2 := LI.a hCE (LC.sb hLC er1) (LM.mp hLM (by decide) (by decide) er2.1 er2.2)
  exact NX ur1 ur2 _ _ _ hLI2 hC hM hS (lv_sub hl [0, 1, 2, 3] rfl)
set_option maxHeartbeats 4000000 in
set_option maxRecDepth 100000 in
theorem law_21 {p : Program} {l : Launch} {e : Env} {s : State} {m : MethodId} {below : List Frame} {meth : Method} {c : Code} {H : Heap} {locs : List Loc} {D : va_G} {tA : Nat → ClassId} {b sb : Nat} {xs : Nat → Int32} {ls : Array Slot} {L : Nat} {k : Int32} {uC uM : XS} (C : LW p s m meth c D tA b sb L xs) (hk : 0 ≤ k.toInt ∧ k.toInt + 4 ≤ L) (hLI : LI uC uM) (hC : Hd D tA b 0 78 zz uC.1 uC.2.1 uC.2.2 H) (hM : Hd D tA b 78 52 zz uM.1 uM.2.1 uM.2.2 H) (hS : va_S (Sb b) s.heap H locs) (hl : lv_has ls 4 [(3, .int k), (2, .ref (b + 78)), (1, .ref (b + 0)), (0, .ref sb)]) (NX : ∀ (uC uM : XS) (H : Heap) (locs : List Loc) (ls : Array Slot), LI uC uM → Hd D tA b 0 78 zz uC.1 uC.2.1 uC.2.2 H → Hd D tA b 78 52 zz uM.1 uM.2.1 uM.2.2 H → va_S (Sb b) s.heap H locs → lv_has ls 4 [(3, .int k), (2, .ref (b + 78)), (1, .ref (b + 0)), (0, .ref sb)] → W p l e room_1 s m #[Value.ref sb] below meth c H locs 130 99576 (lw_Z below #[Value.ref sb] s) (F0 m 1014 ls [])) : W p l e room_1 s m #[Value.ref sb] below meth c H locs 130 99576 (lw_Z below #[Value.ref sb] s) (F0 m 847 ls []) := by
  obtain ⟨hL, C0, C2, hX, hbl, hb, hr, hlk⟩ := id C
  have hbA : ¬ Sb b sb := by unfold Sb; omega
  have hk1 : Int32.toInt (k + 1) = k.toInt + 1 := (fb_addI (by have : Int32.toInt 1 = 1 := rfl; omega) (by have : Int32.toInt 1 = 1 := rfl; omega)).trans rfl
  have hk2 : Int32.toInt (k + 2) = k.toInt + 2 := (fb_addI (by have : Int32.toInt 2 = 2 := rfl; omega) (by have : Int32.toInt 2 = 2 := rfl; omega)).trans rfl
  have hk3 : Int32.toInt (k + 3) = k.toInt + 3 := (fb_addI (by have : Int32.toInt 3 = 3 := rfl; omega) (by have : Int32.toInt 3 = 3 := rfl; omega)).trans rfl
  obtain ⟨iC, FC, GC⟩ := uC
  obtain ⟨iM, FM, GM⟩ := uM
  obtain ⟨S, hLC, hLM, hCE⟩ := hLI
  refine lv_aload_n (pc := 847) C0.1 C0.2.1 dL_law_847 rfl (lv_at hl 2 rfl) ?_
  refine lv_aload_n (pc := 848) C0.1 C0.2.1 dL_law_848 rfl (lv_at hl 3 rfl) ?_
  refine lv_iload_n (pc := 849) C0.1 C0.2.1 dL_law_849 rfl (lv_at hl 0 rfl) ?_
  refine lv_iconst (pc := 850) (v := 1) C0.1 C0.2.1 dL_law_850 (by decide) ?_
  refine lv_iadd (pc := 851) C0.1 C0.2.1 dL_law_851 ?_
  refine va_sld (pc := 852) C0.1 C0.2.1 hX hbl hbA hS (i := k + 1) (vI (by omega) (by omega)) dL_law_852 ?_
  refine xcVIK (pc := 853) 0 [.int (xs (Int32.toNatClampNeg (k + 1)))] (g_X9_write l D tA b iC FC GC (xs (Int32.toNatClampNeg (k + 1))) hLC.1 hLC.td) C0 hC hM (Or.inl (by decide)) hS clX9 rfl ⟨⟨Nat.le_of_ble_eq_true rfl, Nat.le_of_ble_eq_true rfl⟩, rfl, rfl⟩ cw_L_106 rfl ⟨Nat.le_of_ble_eq_true rfl, Nat.le_of_ble_eq_true rfl⟩ hl.1 rfl (Nat.le_of_ble_eq_true rfl) dL_law_853 ⟨Nat.le_of_ble_eq_true rfl, Nat.le_of_ble_eq_true rfl⟩ (fun r1 ur1 _ locs hp hC hM hS => ?_)
  have er1 := hp
  clear hp
  refine lv_pop (pc := 856) C0.1 C0.2.1 dL_law_856 rfl ?_
  refine lv_aload_n (pc := 857) C0.1 C0.2.1 dL_law_857 rfl (lv_at hl 1 rfl) ?_
  refine lv_aload_n (pc := 858) C0.1 C0.2.1 dL_law_858 rfl (lv_at hl 3 rfl) ?_
  refine lv_iload_n (pc := 859) C0.1 C0.2.1 dL_law_859 rfl (lv_at hl 0 rfl) ?_
  refine lv_iconst (pc := 860) (v := 1) C0.1 C0.2.1 dL_law_860 (by decide) ?_
  refine lv_iadd (pc := 861) C0.1 C0.2.1 dL_law_861 ?_
  refine va_sld (pc := 862) C0.1 C0.2.1 hX hbl hbA hS (i := k + 1) (vI (by omega) (by omega)) dL_law_862 ?_
  refine xcVIK (pc := 863) 78 [.int (xs (Int32.toNatClampNeg (k + 1)))] (m_write l D tA b iM FM GM (xs (Int32.toNatClampNeg (k + 1))) hLM.1 hLM.br) C2 hM hC (Or.inr (by decide)) hS clX10 rfl ⟨⟨Nat.le_of_ble_eq_true rfl, Nat.le_of_ble_eq_true rfl⟩, rfl, rfl⟩ cw_L_109 rfl ⟨Nat.le_of_ble_eq_true rfl, Nat.le_of_ble_eq_true rfl⟩ hl.1 rfl (Nat.le_of_ble_eq_true rfl) dL_law_863 ⟨Nat.le_of_ble_eq_true rfl, Nat.le_of_ble_eq_true rfl⟩ (fun r2 ur2 _ locs hp hM hC hS => ?_)
  have er2 := hp
  clear hp
  refine lv_pop (pc := 866) C0.1 C0.2.1 dL_law_866 rfl ?_
  refine lv_goto (pc := 867) (tgt := 1014) C0.1 C0.2.1 dL_law_867 (by decide) ?_
  have hLI2 := LI.a hCE (LC.sb hLC er1) (LM.mp hLM (by decide) (by decide) er2.1 er2.2)
  exact NX ur1 ur2 _ _ _ hLI2 hC hM hS (lv_sub hl [0, 1, 2, 3] rfl)
set_option maxHeartbeats 4000000 in
set_option maxRecDepth 100000 in
theorem law_22 {p : Program} {l : Launch} {e : Env} {s : State} {m : MethodId} {below : List Frame} {meth : Method} {c : Code} {H : Heap} {locs : List Loc} {D : va_G} {tA : Nat → ClassId} {b sb : Nat} {xs : Nat → Int32} {ls : Array Slot} {L : Nat} {k : Int32} {uC uM : XS} (C : LW p s m meth c D tA b sb L xs) (hk : 0 ≤ k.toInt ∧ k.toInt + 4 ≤ L) (hLI : LI uC uM) (hC : Hd D tA b 0 78 zz uC.1 uC.2.1 uC.2.2 H) (hM : Hd D tA b 78 52 zz uM.1 uM.2.1 uM.2.2 H) (hS : va_S (Sb b) s.heap H locs) (hl : lv_has ls 4 [(3, .int k), (2, .ref (b + 78)), (1, .ref (b + 0)), (0, .ref sb)]) (NX : ∀ (uC uM : XS) (H : Heap) (locs : List Loc) (ls : Array Slot), LI uC uM → Hd D tA b 0 78 zz uC.1 uC.2.1 uC.2.2 H → Hd D tA b 78 52 zz uM.1 uM.2.1 uM.2.2 H → va_S (Sb b) s.heap H locs → lv_has ls 4 [(3, .int k), (2, .ref (b + 78)), (1, .ref (b + 0)), (0, .ref sb)] → W p l e room_1 s m #[Value.ref sb] below meth c H locs 130 99576 (lw_Z below #[Value.ref sb] s) (F0 m 1014 ls [])) : W p l e room_1 s m #[Value.ref sb] below meth c H locs 130 99576 (lw_Z below #[Value.ref sb] s) (F0 m 870 ls []) := by
  obtain ⟨hL, C0, C2, hX, hbl, hb, hr, hlk⟩ := id C
  have hbA : ¬ Sb b sb := by unfold Sb; omega
  have hk1 : Int32.toInt (k + 1) = k.toInt + 1 := (fb_addI (by have : Int32.toInt 1 = 1 := rfl; omega) (by have : Int32.toInt 1 = 1 := rfl; omega)).trans rfl
  have hk2 : Int32.toInt (k + 2) = k.toInt + 2 := (fb_addI (by have : Int32.toInt 2 = 2 := rfl; omega) (by have : Int32.toInt 2 = 2 := rfl; omega)).trans rfl
  have hk3 : Int32.toInt (k + 3) = k.toInt + 3 := (fb_addI (by have : Int32.toInt 3 = 3 := rfl; omega) (by have : Int32.toInt 3 = 3 := rfl; omega)).trans rfl
  obtain ⟨iC, FC, GC⟩ := uC
  obtain ⟨iM, FM, GM⟩ := uM
  obtain ⟨S, hLC, hLM, hCE⟩ := hLI
  refine lv_aload_n (pc := 870) C0.1 C0.2.1 dL_law_870 rfl (lv_at hl 2 rfl) ?_
  refine lv_aload_n (pc := 871) C0.1 C0.2.1 dL_law_871 rfl (lv_at hl 3 rfl) ?_
  refine lv_iload_n (pc := 872) C0.1 C0.2.1 dL_law_872 rfl (lv_at hl 0 rfl) ?_
  refine lv_iconst (pc := 873) (v := 1) C0.1 C0.2.1 dL_law_873 (by decide) ?_
  refine lv_iadd (pc := 874) C0.1 C0.2.1 dL_law_874 ?_
  refine va_sld (pc := 875) C0.1 C0.2.1 hX hbl hbA hS (i := k + 1) (vI (by omega) (by omega)) dL_law_875 ?_
  refine xcVIK (pc := 876) 0 [.int (xs (Int32.toNatClampNeg (k + 1)))] (g_X9_written l D tA b iC FC GC (xs (Int32.toNatClampNeg (k + 1))) hLC.1) C0 hC hM (Or.inl (by decide)) hS clX9 rfl ⟨⟨Nat.le_of_ble_eq_true rfl, Nat.le_of_ble_eq_true rfl⟩, rfl, rfl⟩ cw_L_110 rfl ⟨Nat.le_of_ble_eq_true rfl, Nat.le_of_ble_eq_true rfl⟩ hl.1 rfl (Nat.le_of_ble_eq_true rfl) dL_law_876 ⟨Nat.le_of_ble_eq_true rfl, Nat.le_of_ble_eq_true rfl⟩ (fun r1 ur1 _ locs hp hC hM hS => ?_)
  have er1 := hp
  clear hp
  refine lv_pop (pc := 879) C0.1 C0.2.1 dL_law_879 rfl ?_
  refine lv_aload_n (pc := 880) C0.1 C0.2.1 dL_law_880 rfl (lv_at hl 1 rfl) ?_
  refine lv_aload_n (pc := 881) C0.1 C0.2.1 dL_law_881 rfl (lv_at hl 3 rfl) ?_
  refine lv_iload_n (pc := 882) C0.1 C0.2.1 dL_law_882 rfl (lv_at hl 0 rfl) ?_
  refine lv_iconst (pc := 883) (v := 1) C0.1 C0.2.1 dL_law_883 (by decide) ?_
  refine lv_iadd (pc := 884) C0.1 C0.2.1 dL_law_884 ?_
  refine va_sld (pc := 885) C0.1 C0.2.1 hX hbl hbA hS (i := k + 1) (vI (by omega) (by omega)) dL_law_885 ?_
  refine xcVIK (pc := 886) 78 [.int (xs (Int32.toNatClampNeg (k + 1)))] (m_written l D tA b iM FM GM (xs (Int32.toNatClampNeg (k + 1))) hLM.1) C2 hM hC (Or.inr (by decide)) hS clX10 rfl ⟨⟨Nat.le_of_ble_eq_true rfl, Nat.le_of_ble_eq_true rfl⟩, rfl, rfl⟩ cw_L_113 rfl ⟨Nat.le_of_ble_eq_true rfl, Nat.le_of_ble_eq_true rfl⟩ hl.1 rfl (Nat.le_of_ble_eq_true rfl) dL_law_886 ⟨Nat.le_of_ble_eq_true rfl, Nat.le_of_ble_eq_true rfl⟩ (fun r2 ur2 _ locs hp hM hC hS => ?_)
  have er2 := hp
  clear hp
  refine lv_pop (pc := 889) C0.1 C0.2.1 dL_law_889 rfl ?_
  refine lv_goto (pc := 890) (tgt := 1014) C0.1 C0.2.1 dL_law_890 (by decide) ?_
  have hLI2 := LI.a hCE (LC.pu hLC er1) (LM.pu hLM er2)
  exact NX ur1 ur2 _ _ _ hLI2 hC hM hS (lv_sub hl [0, 1, 2, 3] rfl)
set_option maxHeartbeats 4000000 in
set_option maxRecDepth 100000 in
theorem law_23 {p : Program} {l : Launch} {e : Env} {s : State} {m : MethodId} {below : List Frame} {meth : Method} {c : Code} {H : Heap} {locs : List Loc} {D : va_G} {tA : Nat → ClassId} {b sb : Nat} {xs : Nat → Int32} {ls : Array Slot} {L : Nat} {k : Int32} {uC uM : XS} (C : LW p s m meth c D tA b sb L xs) (hk : 0 ≤ k.toInt ∧ k.toInt + 4 ≤ L) (hLI : LI uC uM) (hC : Hd D tA b 0 78 zz uC.1 uC.2.1 uC.2.2 H) (hM : Hd D tA b 78 52 zz uM.1 uM.2.1 uM.2.2 H) (hS : va_S (Sb b) s.heap H locs) (hl : lv_has ls 4 [(3, .int k), (2, .ref (b + 78)), (1, .ref (b + 0)), (0, .ref sb)]) (NX : ∀ (uC uM : XS) (H : Heap) (locs : List Loc) (ls : Array Slot), LI uC uM → Hd D tA b 0 78 zz uC.1 uC.2.1 uC.2.2 H → Hd D tA b 78 52 zz uM.1 uM.2.1 uM.2.2 H → va_S (Sb b) s.heap H locs → lv_has ls 4 [(3, .int k), (2, .ref (b + 78)), (1, .ref (b + 0)), (0, .ref sb)] → W p l e room_1 s m #[Value.ref sb] below meth c H locs 130 99576 (lw_Z below #[Value.ref sb] s) (F0 m 1014 ls [])) : W p l e room_1 s m #[Value.ref sb] below meth c H locs 130 99576 (lw_Z below #[Value.ref sb] s) (F0 m 893 ls []) := by
  obtain ⟨hL, C0, C2, hX, hbl, hb, hr, hlk⟩ := id C
  have hbA : ¬ Sb b sb := by unfold Sb; omega
  have hk1 : Int32.toInt (k + 1) = k.toInt + 1 := (fb_addI (by have : Int32.toInt 1 = 1 := rfl; omega) (by have : Int32.toInt 1 = 1 := rfl; omega)).trans rfl
  have hk2 : Int32.toInt (k + 2) = k.toInt + 2 := (fb_addI (by have : Int32.toInt 2 = 2 := rfl; omega) (by have : Int32.toInt 2 = 2 := rfl; omega)).trans rfl
  have hk3 : Int32.toInt (k + 3) = k.toInt + 3 := (fb_addI (by have : Int32.toInt 3 = 3 := rfl; omega) (by have : Int32.toInt 3 = 3 := rfl; omega)).trans rfl
  obtain ⟨iC, FC, GC⟩ := uC
  obtain ⟨iM, FM, GM⟩ := uM
  obtain ⟨S, hLC, hLM, hCE⟩ := hLI
  refine lv_aload_n (pc := 893) C0.1 C0.2.1 dL_law_893 rfl (lv_at hl 2 rfl) ?_
  refine xcVIK (pc := 894) 0 [] (g_X9_same l D tA b iC FC GC  hLC.1 hLC.td) C0 hC hM (Or.inl (by decide)) hS clX9 rfl ⟨⟨Nat.le_of_ble_eq_true rfl, Nat.le_of_ble_eq_true rfl⟩, rfl, rfl⟩ cw_L_114 rfl ⟨Nat.le_of_ble_eq_true rfl, Nat.le_of_ble_eq_true rfl⟩ hl.1 rfl (Nat.le_of_ble_eq_true rfl) dL_law_894 ⟨Nat.le_of_ble_eq_true rfl, Nat.le_of_ble_eq_true rfl⟩ (fun r1 ur1 _ locs hp hC hM hS => ?_)
  have er1 := hp
  clear hp
  refine lv_pop (pc := 897) C0.1 C0.2.1 dL_law_897 rfl ?_
  refine lv_aload_n (pc := 898) C0.1 C0.2.1 dL_law_898 rfl (lv_at hl 1 rfl) ?_
  refine xcVIK (pc := 899) 78 [] (m_same l D tA b iM FM GM  hLM.1 hLM.br) C2 hM hC (Or.inr (by decide)) hS clX10 rfl ⟨⟨Nat.le_of_ble_eq_true rfl, Nat.le_of_ble_eq_true rfl⟩, rfl, rfl⟩ cw_L_117 rfl ⟨Nat.le_of_ble_eq_true rfl, Nat.le_of_ble_eq_true rfl⟩ hl.1 rfl (Nat.le_of_ble_eq_true rfl) dL_law_899 ⟨Nat.le_of_ble_eq_true rfl, Nat.le_of_ble_eq_true rfl⟩ (fun r2 ur2 _ locs hp hM hC hS => ?_)
  have er2 := hp
  clear hp
  refine lv_pop (pc := 902) C0.1 C0.2.1 dL_law_902 rfl ?_
  refine lv_goto (pc := 903) (tgt := 1014) C0.1 C0.2.1 dL_law_903 (by decide) ?_
  have hLI2 := LI.a hCE (LC.sb hLC er1) (LM.mp hLM (by decide) (by decide) er2.1 er2.2)
  exact NX ur1 ur2 _ _ _ hLI2 hC hM hS (lv_sub hl [0, 1, 2, 3] rfl)
set_option maxHeartbeats 4000000 in
set_option maxRecDepth 100000 in
theorem law_24 {p : Program} {l : Launch} {e : Env} {s : State} {m : MethodId} {below : List Frame} {meth : Method} {c : Code} {H : Heap} {locs : List Loc} {D : va_G} {tA : Nat → ClassId} {b sb : Nat} {xs : Nat → Int32} {ls : Array Slot} {L : Nat} {k : Int32} {uC uM : XS} (C : LW p s m meth c D tA b sb L xs) (hk : 0 ≤ k.toInt ∧ k.toInt + 4 ≤ L) (hLI : LI uC uM) (hC : Hd D tA b 0 78 zz uC.1 uC.2.1 uC.2.2 H) (hM : Hd D tA b 78 52 zz uM.1 uM.2.1 uM.2.2 H) (hS : va_S (Sb b) s.heap H locs) (hl : lv_has ls 4 [(3, .int k), (2, .ref (b + 78)), (1, .ref (b + 0)), (0, .ref sb)]) (NX : ∀ (uC uM : XS) (H : Heap) (locs : List Loc) (ls : Array Slot), LI uC uM → Hd D tA b 0 78 zz uC.1 uC.2.1 uC.2.2 H → Hd D tA b 78 52 zz uM.1 uM.2.1 uM.2.2 H → va_S (Sb b) s.heap H locs → lv_has ls 4 [(3, .int k), (2, .ref (b + 78)), (1, .ref (b + 0)), (0, .ref sb)] → W p l e room_1 s m #[Value.ref sb] below meth c H locs 130 99576 (lw_Z below #[Value.ref sb] s) (F0 m 1014 ls [])) : W p l e room_1 s m #[Value.ref sb] below meth c H locs 130 99576 (lw_Z below #[Value.ref sb] s) (F0 m 906 ls []) := by
  obtain ⟨hL, C0, C2, hX, hbl, hb, hr, hlk⟩ := id C
  have hbA : ¬ Sb b sb := by unfold Sb; omega
  have hk1 : Int32.toInt (k + 1) = k.toInt + 1 := (fb_addI (by have : Int32.toInt 1 = 1 := rfl; omega) (by have : Int32.toInt 1 = 1 := rfl; omega)).trans rfl
  have hk2 : Int32.toInt (k + 2) = k.toInt + 2 := (fb_addI (by have : Int32.toInt 2 = 2 := rfl; omega) (by have : Int32.toInt 2 = 2 := rfl; omega)).trans rfl
  have hk3 : Int32.toInt (k + 3) = k.toInt + 3 := (fb_addI (by have : Int32.toInt 3 = 3 := rfl; omega) (by have : Int32.toInt 3 = 3 := rfl; omega)).trans rfl
  obtain ⟨iC, FC, GC⟩ := uC
  obtain ⟨iM, FM, GM⟩ := uM
  obtain ⟨S, hLC, hLM, hCE⟩ := hLI
  refine lv_aload_n (pc := 906) C0.1 C0.2.1 dL_law_906 rfl (lv_at hl 2 rfl) ?_
  refine xcVIK (pc := 907) 0 [] (g_X9_parts l D tA b iC FC GC  hLC.1 hLC.td) C0 hC hM (Or.inl (by decide)) hS clX9 rfl ⟨⟨Nat.le_of_ble_eq_true rfl, Nat.le_of_ble_eq_true rfl⟩, rfl, rfl⟩ cw_L_118 rfl ⟨Nat.le_of_ble_eq_true rfl, Nat.le_of_ble_eq_true rfl⟩ hl.1 rfl (Nat.le_of_ble_eq_true rfl) dL_law_907 ⟨Nat.le_of_ble_eq_true rfl, Nat.le_of_ble_eq_true rfl⟩ (fun r1 ur1 _ locs hp hC hM hS => ?_)
  have er1 := hp
  clear hp
  refine lv_pop (pc := 910) C0.1 C0.2.1 dL_law_910 rfl ?_
  refine lv_aload_n (pc := 911) C0.1 C0.2.1 dL_law_911 rfl (lv_at hl 1 rfl) ?_
  refine xcVIK (pc := 912) 78 [] (m_parts l D tA b iM FM GM  hLM.1 hLM.br) C2 hM hC (Or.inr (by decide)) hS clX10 rfl ⟨⟨Nat.le_of_ble_eq_true rfl, Nat.le_of_ble_eq_true rfl⟩, rfl, rfl⟩ cw_L_121 rfl ⟨Nat.le_of_ble_eq_true rfl, Nat.le_of_ble_eq_true rfl⟩ hl.1 rfl (Nat.le_of_ble_eq_true rfl) dL_law_912 ⟨Nat.le_of_ble_eq_true rfl, Nat.le_of_ble_eq_true rfl⟩ (fun r2 ur2 _ locs hp hM hC hS => ?_)
  have er2 := hp
  clear hp
  refine lv_pop (pc := 915) C0.1 C0.2.1 dL_law_915 rfl ?_
  refine lv_goto (pc := 916) (tgt := 1014) C0.1 C0.2.1 dL_law_916 (by decide) ?_
  have hLI2 := LI.a hCE (LC.sb hLC er1) (LM.mp hLM (by decide) (by decide) er2.1 er2.2)
  exact NX ur1 ur2 _ _ _ hLI2 hC hM hS (lv_sub hl [0, 1, 2, 3] rfl)
set_option maxHeartbeats 4000000 in
set_option maxRecDepth 100000 in
theorem law_25 {p : Program} {l : Launch} {e : Env} {s : State} {m : MethodId} {below : List Frame} {meth : Method} {c : Code} {H : Heap} {locs : List Loc} {D : va_G} {tA : Nat → ClassId} {b sb : Nat} {xs : Nat → Int32} {ls : Array Slot} {L : Nat} {k : Int32} {uC uM : XS} (C : LW p s m meth c D tA b sb L xs) (hk : 0 ≤ k.toInt ∧ k.toInt + 4 ≤ L) (hLI : LI uC uM) (hC : Hd D tA b 0 78 zz uC.1 uC.2.1 uC.2.2 H) (hM : Hd D tA b 78 52 zz uM.1 uM.2.1 uM.2.2 H) (hS : va_S (Sb b) s.heap H locs) (hl : lv_has ls 4 [(3, .int k), (2, .ref (b + 78)), (1, .ref (b + 0)), (0, .ref sb)]) (NX : ∀ (uC uM : XS) (H : Heap) (locs : List Loc) (ls : Array Slot), LI uC uM → Hd D tA b 0 78 zz uC.1 uC.2.1 uC.2.2 H → Hd D tA b 78 52 zz uM.1 uM.2.1 uM.2.2 H → va_S (Sb b) s.heap H locs → lv_has ls 4 [(3, .int k), (2, .ref (b + 78)), (1, .ref (b + 0)), (0, .ref sb)] → W p l e room_1 s m #[Value.ref sb] below meth c H locs 130 99576 (lw_Z below #[Value.ref sb] s) (F0 m 1014 ls [])) : W p l e room_1 s m #[Value.ref sb] below meth c H locs 130 99576 (lw_Z below #[Value.ref sb] s) (F0 m 919 ls []) := by
  obtain ⟨hL, C0, C2, hX, hbl, hb, hr, hlk⟩ := id C
  have hbA : ¬ Sb b sb := by unfold Sb; omega
  have hk1 : Int32.toInt (k + 1) = k.toInt + 1 := (fb_addI (by have : Int32.toInt 1 = 1 := rfl; omega) (by have : Int32.toInt 1 = 1 := rfl; omega)).trans rfl
  have hk2 : Int32.toInt (k + 2) = k.toInt + 2 := (fb_addI (by have : Int32.toInt 2 = 2 := rfl; omega) (by have : Int32.toInt 2 = 2 := rfl; omega)).trans rfl
  have hk3 : Int32.toInt (k + 3) = k.toInt + 3 := (fb_addI (by have : Int32.toInt 3 = 3 := rfl; omega) (by have : Int32.toInt 3 = 3 := rfl; omega)).trans rfl
  obtain ⟨iC, FC, GC⟩ := uC
  obtain ⟨iM, FM, GM⟩ := uM
  obtain ⟨S, hLC, hLM, hCE⟩ := hLI
  refine lv_aload_n (pc := 919) C0.1 C0.2.1 dL_law_919 rfl (lv_at hl 2 rfl) ?_
  refine xcVIK (pc := 920) 0 [] (g_X9_mend l D tA b iC FC GC  hLC.1 hLC.td) C0 hC hM (Or.inl (by decide)) hS clX9 rfl ⟨⟨Nat.le_of_ble_eq_true rfl, Nat.le_of_ble_eq_true rfl⟩, rfl, rfl⟩ cw_L_122 rfl ⟨Nat.le_of_ble_eq_true rfl, Nat.le_of_ble_eq_true rfl⟩ hl.1 rfl (Nat.le_of_ble_eq_true rfl) dL_law_920 ⟨Nat.le_of_ble_eq_true rfl, Nat.le_of_ble_eq_true rfl⟩ (fun r1 ur1 _ locs hp hC hM hS => ?_)
  have er1 := hp
  clear hp
  refine lv_pop (pc := 923) C0.1 C0.2.1 dL_law_923 rfl ?_
  refine lv_aload_n (pc := 924) C0.1 C0.2.1 dL_law_924 rfl (lv_at hl 1 rfl) ?_
  refine xcVIK (pc := 925) 78 [] (m_mend l D tA b iM FM GM  hLM.1 hLM.br) C2 hM hC (Or.inr (by decide)) hS clX10 rfl ⟨⟨Nat.le_of_ble_eq_true rfl, Nat.le_of_ble_eq_true rfl⟩, rfl, rfl⟩ cw_L_125 rfl ⟨Nat.le_of_ble_eq_true rfl, Nat.le_of_ble_eq_true rfl⟩ hl.1 rfl (Nat.le_of_ble_eq_true rfl) dL_law_925 ⟨Nat.le_of_ble_eq_true rfl, Nat.le_of_ble_eq_true rfl⟩ (fun r2 ur2 _ locs hp hM hC hS => ?_)
  have er2 := hp
  clear hp
  refine lv_pop (pc := 928) C0.1 C0.2.1 dL_law_928 rfl ?_
  refine lv_goto (pc := 929) (tgt := 1014) C0.1 C0.2.1 dL_law_929 (by decide) ?_
  have hLI2 := LI.a hCE (LC.sb hLC er1) (LM.mp hLM (by decide) (by decide) er2.1 er2.2)
  exact NX ur1 ur2 _ _ _ hLI2 hC hM hS (lv_sub hl [0, 1, 2, 3] rfl)
set_option maxHeartbeats 4000000 in
set_option maxRecDepth 100000 in
theorem law_26 {p : Program} {l : Launch} {e : Env} {s : State} {m : MethodId} {below : List Frame} {meth : Method} {c : Code} {H : Heap} {locs : List Loc} {D : va_G} {tA : Nat → ClassId} {b sb : Nat} {xs : Nat → Int32} {ls : Array Slot} {L : Nat} {k : Int32} {uC uM : XS} (C : LW p s m meth c D tA b sb L xs) (hk : 0 ≤ k.toInt ∧ k.toInt + 4 ≤ L) (hLI : LI uC uM) (hC : Hd D tA b 0 78 zz uC.1 uC.2.1 uC.2.2 H) (hM : Hd D tA b 78 52 zz uM.1 uM.2.1 uM.2.2 H) (hS : va_S (Sb b) s.heap H locs) (hl : lv_has ls 4 [(3, .int k), (2, .ref (b + 78)), (1, .ref (b + 0)), (0, .ref sb)]) (NX : ∀ (uC uM : XS) (H : Heap) (locs : List Loc) (ls : Array Slot), LI uC uM → Hd D tA b 0 78 zz uC.1 uC.2.1 uC.2.2 H → Hd D tA b 78 52 zz uM.1 uM.2.1 uM.2.2 H → va_S (Sb b) s.heap H locs → lv_has ls 4 [(3, .int k), (2, .ref (b + 78)), (1, .ref (b + 0)), (0, .ref sb)] → W p l e room_1 s m #[Value.ref sb] below meth c H locs 130 99576 (lw_Z below #[Value.ref sb] s) (F0 m 1014 ls [])) : W p l e room_1 s m #[Value.ref sb] below meth c H locs 130 99576 (lw_Z below #[Value.ref sb] s) (F0 m 932 ls []) := by
  obtain ⟨hL, C0, C2, hX, hbl, hb, hr, hlk⟩ := id C
  have hbA : ¬ Sb b sb := by unfold Sb; omega
  have hk1 : Int32.toInt (k + 1) = k.toInt + 1 := (fb_addI (by have : Int32.toInt 1 = 1 := rfl; omega) (by have : Int32.toInt 1 = 1 := rfl; omega)).trans rfl
  have hk2 : Int32.toInt (k + 2) = k.toInt + 2 := (fb_addI (by have : Int32.toInt 2 = 2 := rfl; omega) (by have : Int32.toInt 2 = 2 := rfl; omega)).trans rfl
  have hk3 : Int32.toInt (k + 3) = k.toInt + 3 := (fb_addI (by have : Int32.toInt 3 = 3 := rfl; omega) (by have : Int32.toInt 3 = 3 := rfl; omega)).trans rfl
  obtain ⟨iC, FC, GC⟩ := uC
  obtain ⟨iM, FM, GM⟩ := uM
  obtain ⟨S, hLC, hLM, hCE⟩ := hLI
  refine lv_aload_n (pc := 932) C0.1 C0.2.1 dL_law_932 rfl (lv_at hl 2 rfl) ?_
  refine lv_aload_n (pc := 933) C0.1 C0.2.1 dL_law_933 rfl (lv_at hl 3 rfl) ?_
  refine lv_iload_n (pc := 934) C0.1 C0.2.1 dL_law_934 rfl (lv_at hl 0 rfl) ?_
  refine lv_iconst (pc := 935) (v := 1) C0.1 C0.2.1 dL_law_935 (by decide) ?_
  refine lv_iadd (pc := 936) C0.1 C0.2.1 dL_law_936 ?_
  refine va_sld (pc := 937) C0.1 C0.2.1 hX hbl hbA hS (i := k + 1) (vI (by omega) (by omega)) dL_law_937 ?_
  refine xcVIK (pc := 938) 0 [.int (xs (Int32.toNatClampNeg (k + 1)))] (g_X9_mended l D tA b iC FC GC (xs (Int32.toNatClampNeg (k + 1))) hLC.1) C0 hC hM (Or.inl (by decide)) hS clX9 rfl ⟨⟨Nat.le_of_ble_eq_true rfl, Nat.le_of_ble_eq_true rfl⟩, rfl, rfl⟩ cw_L_126 rfl ⟨Nat.le_of_ble_eq_true rfl, Nat.le_of_ble_eq_true rfl⟩ hl.1 rfl (Nat.le_of_ble_eq_true rfl) dL_law_938 ⟨Nat.le_of_ble_eq_true rfl, Nat.le_of_ble_eq_true rfl⟩ (fun r1 ur1 _ locs hp hC hM hS => ?_)
  have er1 := hp
  clear hp
  refine lv_pop (pc := 941) C0.1 C0.2.1 dL_law_941 rfl ?_
  refine lv_aload_n (pc := 942) C0.1 C0.2.1 dL_law_942 rfl (lv_at hl 1 rfl) ?_
  refine lv_aload_n (pc := 943) C0.1 C0.2.1 dL_law_943 rfl (lv_at hl 3 rfl) ?_
  refine lv_iload_n (pc := 944) C0.1 C0.2.1 dL_law_944 rfl (lv_at hl 0 rfl) ?_
  refine lv_iconst (pc := 945) (v := 1) C0.1 C0.2.1 dL_law_945 (by decide) ?_
  refine lv_iadd (pc := 946) C0.1 C0.2.1 dL_law_946 ?_
  refine va_sld (pc := 947) C0.1 C0.2.1 hX hbl hbA hS (i := k + 1) (vI (by omega) (by omega)) dL_law_947 ?_
  refine xcVIK (pc := 948) 78 [.int (xs (Int32.toNatClampNeg (k + 1)))] (m_mended l D tA b iM FM GM (xs (Int32.toNatClampNeg (k + 1))) hLM.1) C2 hM hC (Or.inr (by decide)) hS clX10 rfl ⟨⟨Nat.le_of_ble_eq_true rfl, Nat.le_of_ble_eq_true rfl⟩, rfl, rfl⟩ cw_L_129 rfl ⟨Nat.le_of_ble_eq_true rfl, Nat.le_of_ble_eq_true rfl⟩ hl.1 rfl (Nat.le_of_ble_eq_true rfl) dL_law_948 ⟨Nat.le_of_ble_eq_true rfl, Nat.le_of_ble_eq_true rfl⟩ (fun r2 ur2 _ locs hp hM hC hS => ?_)
  have er2 := hp
  clear hp
  refine lv_pop (pc := 951) C0.1 C0.2.1 dL_law_951 rfl ?_
  refine lv_goto (pc := 952) (tgt := 1014) C0.1 C0.2.1 dL_law_952 (by decide) ?_
  have hLI2 := LI.a hCE (LC.pu hLC er1) (LM.pu hLM er2)
  exact NX ur1 ur2 _ _ _ hLI2 hC hM hS (lv_sub hl [0, 1, 2, 3] rfl)
set_option maxHeartbeats 4000000 in
set_option maxRecDepth 100000 in
theorem law_27 {p : Program} {l : Launch} {e : Env} {s : State} {m : MethodId} {below : List Frame} {meth : Method} {c : Code} {H : Heap} {locs : List Loc} {D : va_G} {tA : Nat → ClassId} {b sb : Nat} {xs : Nat → Int32} {ls : Array Slot} {L : Nat} {k : Int32} {uC uM : XS} (C : LW p s m meth c D tA b sb L xs) (hk : 0 ≤ k.toInt ∧ k.toInt + 4 ≤ L) (hLI : LI uC uM) (hC : Hd D tA b 0 78 zz uC.1 uC.2.1 uC.2.2 H) (hM : Hd D tA b 78 52 zz uM.1 uM.2.1 uM.2.2 H) (hS : va_S (Sb b) s.heap H locs) (hl : lv_has ls 4 [(3, .int k), (2, .ref (b + 78)), (1, .ref (b + 0)), (0, .ref sb)]) (NX : ∀ (uC uM : XS) (H : Heap) (locs : List Loc) (ls : Array Slot), LI uC uM → Hd D tA b 0 78 zz uC.1 uC.2.1 uC.2.2 H → Hd D tA b 78 52 zz uM.1 uM.2.1 uM.2.2 H → va_S (Sb b) s.heap H locs → lv_has ls 4 [(3, .int k), (2, .ref (b + 78)), (1, .ref (b + 0)), (0, .ref sb)] → W p l e room_1 s m #[Value.ref sb] below meth c H locs 130 99576 (lw_Z below #[Value.ref sb] s) (F0 m 1014 ls [])) : W p l e room_1 s m #[Value.ref sb] below meth c H locs 130 99576 (lw_Z below #[Value.ref sb] s) (F0 m 955 ls []) := by
  obtain ⟨hL, C0, C2, hX, hbl, hb, hr, hlk⟩ := id C
  have hbA : ¬ Sb b sb := by unfold Sb; omega
  have hk1 : Int32.toInt (k + 1) = k.toInt + 1 := (fb_addI (by have : Int32.toInt 1 = 1 := rfl; omega) (by have : Int32.toInt 1 = 1 := rfl; omega)).trans rfl
  have hk2 : Int32.toInt (k + 2) = k.toInt + 2 := (fb_addI (by have : Int32.toInt 2 = 2 := rfl; omega) (by have : Int32.toInt 2 = 2 := rfl; omega)).trans rfl
  have hk3 : Int32.toInt (k + 3) = k.toInt + 3 := (fb_addI (by have : Int32.toInt 3 = 3 := rfl; omega) (by have : Int32.toInt 3 = 3 := rfl; omega)).trans rfl
  obtain ⟨iC, FC, GC⟩ := uC
  obtain ⟨iM, FM, GM⟩ := uM
  obtain ⟨S, hLC, hLM, hCE⟩ := hLI
  refine lv_aload_n (pc := 955) C0.1 C0.2.1 dL_law_955 rfl (lv_at hl 2 rfl) ?_
  refine lv_aload_n (pc := 956) C0.1 C0.2.1 dL_law_956 rfl (lv_at hl 3 rfl) ?_
  refine lv_iload_n (pc := 957) C0.1 C0.2.1 dL_law_957 rfl (lv_at hl 0 rfl) ?_
  refine lv_iconst (pc := 958) (v := 1) C0.1 C0.2.1 dL_law_958 (by decide) ?_
  refine lv_iadd (pc := 959) C0.1 C0.2.1 dL_law_959 ?_
  refine va_sld (pc := 960) C0.1 C0.2.1 hX hbl hbA hS (i := k + 1) (vI (by omega) (by omega)) dL_law_960 ?_
  refine xcVIK (pc := 961) 0 [.int (xs (Int32.toNatClampNeg (k + 1)))] (g_X9_marks l D tA b iC FC GC (xs (Int32.toNatClampNeg (k + 1))) hLC.1 hLC.td) C0 hC hM (Or.inl (by decide)) hS clX9 rfl ⟨⟨Nat.le_of_ble_eq_true rfl, Nat.le_of_ble_eq_true rfl⟩, rfl, rfl⟩ cw_L_130 rfl ⟨Nat.le_of_ble_eq_true rfl, Nat.le_of_ble_eq_true rfl⟩ hl.1 rfl (Nat.le_of_ble_eq_true rfl) dL_law_961 ⟨Nat.le_of_ble_eq_true rfl, Nat.le_of_ble_eq_true rfl⟩ (fun r1 ur1 _ locs hp hC hM hS => ?_)
  have er1 := hp
  clear hp
  refine lv_aload_n (pc := 964) C0.1 C0.2.1 dL_law_964 rfl (lv_at hl 1 rfl) ?_
  refine lv_aload_n (pc := 965) C0.1 C0.2.1 dL_law_965 rfl (lv_at hl 3 rfl) ?_
  refine lv_iload_n (pc := 966) C0.1 C0.2.1 dL_law_966 rfl (lv_at hl 0 rfl) ?_
  refine lv_iconst (pc := 967) (v := 1) C0.1 C0.2.1 dL_law_967 (by decide) ?_
  refine lv_iadd (pc := 968) C0.1 C0.2.1 dL_law_968 ?_
  refine va_sld (pc := 969) C0.1 C0.2.1 hX hbl hbA hS (i := k + 1) (vI (by omega) (by omega)) dL_law_969 ?_
  refine xcVIK (pc := 970) 78 [.int (xs (Int32.toNatClampNeg (k + 1)))] (m_marks l D tA b iM FM GM (xs (Int32.toNatClampNeg (k + 1))) hLM.1) C2 hM hC (Or.inr (by decide)) hS clX10 rfl ⟨⟨Nat.le_of_ble_eq_true rfl, Nat.le_of_ble_eq_true rfl⟩, rfl, rfl⟩ cw_L_133 rfl ⟨Nat.le_of_ble_eq_true rfl, Nat.le_of_ble_eq_true rfl⟩ hl.1 rfl (Nat.le_of_ble_eq_true rfl) dL_law_970 ⟨Nat.le_of_ble_eq_true rfl, Nat.le_of_ble_eq_true rfl⟩ (fun r2 ur2 _ locs hp hM hC hS => ?_)
  have er2 := hp
  clear hp
  have hEQ := mkseq er1.2 er2.2.2
  have hLI2 := LI.a hCE (LC.sb hLC er1.1) (LM.mp hLM (by decide) (by decide) er2.1 er2.2.1)
  refine lv_icmp_eq (pc := 973) (tgt := 1014) C0.1 C0.2.1 dL_law_973 (by decide) (fun _ => ?_) (fun c => absurd hEQ c)
  exact NX ur1 ur2 _ _ _ hLI2 hC hM hS (lv_sub hl [0, 1, 2, 3] rfl)
set_option maxHeartbeats 4000000 in
set_option maxRecDepth 100000 in
theorem law_28 {p : Program} {l : Launch} {e : Env} {s : State} {m : MethodId} {below : List Frame} {meth : Method} {c : Code} {H : Heap} {locs : List Loc} {D : va_G} {tA : Nat → ClassId} {b sb : Nat} {xs : Nat → Int32} {ls : Array Slot} {L : Nat} {k : Int32} {uC uM : XS} (C : LW p s m meth c D tA b sb L xs) (hk : 0 ≤ k.toInt ∧ k.toInt + 4 ≤ L) (hLI : LI uC uM) (hC : Hd D tA b 0 78 zz uC.1 uC.2.1 uC.2.2 H) (hM : Hd D tA b 78 52 zz uM.1 uM.2.1 uM.2.2 H) (hS : va_S (Sb b) s.heap H locs) (hl : lv_has ls 4 [(3, .int k), (2, .ref (b + 78)), (1, .ref (b + 0)), (0, .ref sb)]) (NX : ∀ (uC uM : XS) (H : Heap) (locs : List Loc) (ls : Array Slot), LI uC uM → Hd D tA b 0 78 zz uC.1 uC.2.1 uC.2.2 H → Hd D tA b 78 52 zz uM.1 uM.2.1 uM.2.2 H → va_S (Sb b) s.heap H locs → lv_has ls 4 [(3, .int k), (2, .ref (b + 78)), (1, .ref (b + 0)), (0, .ref sb)] → W p l e room_1 s m #[Value.ref sb] below meth c H locs 130 99576 (lw_Z below #[Value.ref sb] s) (F0 m 1014 ls [])) : W p l e room_1 s m #[Value.ref sb] below meth c H locs 130 99576 (lw_Z below #[Value.ref sb] s) (F0 m 978 ls []) := by
  obtain ⟨hL, C0, C2, hX, hbl, hb, hr, hlk⟩ := id C
  have hbA : ¬ Sb b sb := by unfold Sb; omega
  have hk1 : Int32.toInt (k + 1) = k.toInt + 1 := (fb_addI (by have : Int32.toInt 1 = 1 := rfl; omega) (by have : Int32.toInt 1 = 1 := rfl; omega)).trans rfl
  have hk2 : Int32.toInt (k + 2) = k.toInt + 2 := (fb_addI (by have : Int32.toInt 2 = 2 := rfl; omega) (by have : Int32.toInt 2 = 2 := rfl; omega)).trans rfl
  have hk3 : Int32.toInt (k + 3) = k.toInt + 3 := (fb_addI (by have : Int32.toInt 3 = 3 := rfl; omega) (by have : Int32.toInt 3 = 3 := rfl; omega)).trans rfl
  obtain ⟨iC, FC, GC⟩ := uC
  obtain ⟨iM, FM, GM⟩ := uM
  obtain ⟨S, hLC, hLM, hCE⟩ := hLI
  refine lv_aload_n (pc := 978) C0.1 C0.2.1 dL_law_978 rfl (lv_at hl 2 rfl) ?_
  refine xcVIK (pc := 979) 0 [] (g_X9_deepen l D tA b iC FC GC  hLC.1 hLC.td) C0 hC hM (Or.inl (by decide)) hS clX9 rfl ⟨⟨Nat.le_of_ble_eq_true rfl, Nat.le_of_ble_eq_true rfl⟩, rfl, rfl⟩ cw_L_134 rfl ⟨Nat.le_of_ble_eq_true rfl, Nat.le_of_ble_eq_true rfl⟩ hl.1 rfl (Nat.le_of_ble_eq_true rfl) dL_law_979 ⟨Nat.le_of_ble_eq_true rfl, Nat.le_of_ble_eq_true rfl⟩ (fun r1 ur1 _ locs hp hC hM hS => ?_)
  have er1 := hp
  clear hp
  refine lv_pop (pc := 982) C0.1 C0.2.1 dL_law_982 rfl ?_
  refine lv_aload_n (pc := 983) C0.1 C0.2.1 dL_law_983 rfl (lv_at hl 1 rfl) ?_
  refine xcVIK (pc := 984) 78 [] (m_deepen l D tA b iM FM GM  hLM.1) C2 hM hC (Or.inr (by decide)) hS clX10 rfl ⟨⟨Nat.le_of_ble_eq_true rfl, Nat.le_of_ble_eq_true rfl⟩, rfl, rfl⟩ cw_L_137 rfl ⟨Nat.le_of_ble_eq_true rfl, Nat.le_of_ble_eq_true rfl⟩ hl.1 rfl (Nat.le_of_ble_eq_true rfl) dL_law_984 ⟨Nat.le_of_ble_eq_true rfl, Nat.le_of_ble_eq_true rfl⟩ (fun r2 ur2 _ locs hp hM hC hS => ?_)
  have er2 := hp
  clear hp
  refine lv_pop (pc := 987) C0.1 C0.2.1 dL_law_987 rfl ?_
  refine lv_goto (pc := 988) (tgt := 1014) C0.1 C0.2.1 dL_law_988 (by decide) ?_
  have hLI2 := LI.a hCE (LC.sb hLC er1) (LM.mp hLM (by decide) (by decide) er2.1 er2.2)
  exact NX ur1 ur2 _ _ _ hLI2 hC hM hS (lv_sub hl [0, 1, 2, 3] rfl)
set_option maxHeartbeats 4000000 in
set_option maxRecDepth 100000 in
theorem law_29 {p : Program} {l : Launch} {e : Env} {s : State} {m : MethodId} {below : List Frame} {meth : Method} {c : Code} {H : Heap} {locs : List Loc} {D : va_G} {tA : Nat → ClassId} {b sb : Nat} {xs : Nat → Int32} {ls : Array Slot} {L : Nat} {k : Int32} {uC uM : XS} (C : LW p s m meth c D tA b sb L xs) (hk : 0 ≤ k.toInt ∧ k.toInt + 4 ≤ L) (hLI : LI uC uM) (hC : Hd D tA b 0 78 zz uC.1 uC.2.1 uC.2.2 H) (hM : Hd D tA b 78 52 zz uM.1 uM.2.1 uM.2.2 H) (hS : va_S (Sb b) s.heap H locs) (hl : lv_has ls 4 [(3, .int k), (2, .ref (b + 78)), (1, .ref (b + 0)), (0, .ref sb)]) (NX : ∀ (uC uM : XS) (H : Heap) (locs : List Loc) (ls : Array Slot), LI uC uM → Hd D tA b 0 78 zz uC.1 uC.2.1 uC.2.2 H → Hd D tA b 78 52 zz uM.1 uM.2.1 uM.2.2 H → va_S (Sb b) s.heap H locs → lv_has ls 4 [(3, .int k), (2, .ref (b + 78)), (1, .ref (b + 0)), (0, .ref sb)] → W p l e room_1 s m #[Value.ref sb] below meth c H locs 130 99576 (lw_Z below #[Value.ref sb] s) (F0 m 1014 ls [])) : W p l e room_1 s m #[Value.ref sb] below meth c H locs 130 99576 (lw_Z below #[Value.ref sb] s) (F0 m 991 ls []) := by
  obtain ⟨hL, C0, C2, hX, hbl, hb, hr, hlk⟩ := id C
  have hbA : ¬ Sb b sb := by unfold Sb; omega
  have hk1 : Int32.toInt (k + 1) = k.toInt + 1 := (fb_addI (by have : Int32.toInt 1 = 1 := rfl; omega) (by have : Int32.toInt 1 = 1 := rfl; omega)).trans rfl
  have hk2 : Int32.toInt (k + 2) = k.toInt + 2 := (fb_addI (by have : Int32.toInt 2 = 2 := rfl; omega) (by have : Int32.toInt 2 = 2 := rfl; omega)).trans rfl
  have hk3 : Int32.toInt (k + 3) = k.toInt + 3 := (fb_addI (by have : Int32.toInt 3 = 3 := rfl; omega) (by have : Int32.toInt 3 = 3 := rfl; omega)).trans rfl
  obtain ⟨iC, FC, GC⟩ := uC
  obtain ⟨iM, FM, GM⟩ := uM
  obtain ⟨S, hLC, hLM, hCE⟩ := hLI
  refine lv_aload_n (pc := 991) C0.1 C0.2.1 dL_law_991 rfl (lv_at hl 2 rfl) ?_
  refine lv_aload_n (pc := 992) C0.1 C0.2.1 dL_law_992 rfl (lv_at hl 3 rfl) ?_
  refine lv_iload_n (pc := 993) C0.1 C0.2.1 dL_law_993 rfl (lv_at hl 0 rfl) ?_
  refine lv_iconst (pc := 994) (v := 1) C0.1 C0.2.1 dL_law_994 (by decide) ?_
  refine lv_iadd (pc := 995) C0.1 C0.2.1 dL_law_995 ?_
  refine va_sld (pc := 996) C0.1 C0.2.1 hX hbl hbA hS (i := k + 1) (vI (by omega) (by omega)) dL_law_996 ?_
  refine xcVIK (pc := 997) 0 [.int (xs (Int32.toNatClampNeg (k + 1)))] (g_X9_markAt l D tA b iC FC GC (xs (Int32.toNatClampNeg (k + 1))) hLC.1) C0 hC hM (Or.inl (by decide)) hS clX9 rfl ⟨⟨Nat.le_of_ble_eq_true rfl, Nat.le_of_ble_eq_true rfl⟩, rfl, rfl⟩ cw_L_138 rfl ⟨Nat.le_of_ble_eq_true rfl, Nat.le_of_ble_eq_true rfl⟩ hl.1 rfl (Nat.le_of_ble_eq_true rfl) dL_law_997 ⟨Nat.le_of_ble_eq_true rfl, Nat.le_of_ble_eq_true rfl⟩ (fun r1 ur1 _ locs hp hC hM hS => ?_)
  have er1 := hp
  clear hp
  refine lv_pop (pc := 1000) C0.1 C0.2.1 dL_law_1000 rfl ?_
  refine lv_aload_n (pc := 1001) C0.1 C0.2.1 dL_law_1001 rfl (lv_at hl 1 rfl) ?_
  refine lv_aload_n (pc := 1002) C0.1 C0.2.1 dL_law_1002 rfl (lv_at hl 3 rfl) ?_
  refine lv_iload_n (pc := 1003) C0.1 C0.2.1 dL_law_1003 rfl (lv_at hl 0 rfl) ?_
  refine lv_iconst (pc := 1004) (v := 1) C0.1 C0.2.1 dL_law_1004 (by decide) ?_
  refine lv_iadd (pc := 1005) C0.1 C0.2.1 dL_law_1005 ?_
  refine va_sld (pc := 1006) C0.1 C0.2.1 hX hbl hbA hS (i := k + 1) (vI (by omega) (by omega)) dL_law_1006 ?_
  refine xcVIK (pc := 1007) 78 [.int (xs (Int32.toNatClampNeg (k + 1)))] (m_markAt l D tA b iM FM GM (xs (Int32.toNatClampNeg (k + 1))) hLM.1) C2 hM hC (Or.inr (by decide)) hS clX10 rfl ⟨⟨Nat.le_of_ble_eq_true rfl, Nat.le_of_ble_eq_true rfl⟩, rfl, rfl⟩ cw_L_141 rfl ⟨Nat.le_of_ble_eq_true rfl, Nat.le_of_ble_eq_true rfl⟩ hl.1 rfl (Nat.le_of_ble_eq_true rfl) dL_law_1007 ⟨Nat.le_of_ble_eq_true rfl, Nat.le_of_ble_eq_true rfl⟩ (fun r2 ur2 _ locs hp hM hC hS => ?_)
  have er2 := hp
  clear hp
  refine lv_pop (pc := 1010) C0.1 C0.2.1 dL_law_1010 rfl ?_
  refine lv_goto (pc := 1011) (tgt := 1014) C0.1 C0.2.1 dL_law_1011 (by decide) ?_
  have hLI2 := LI.a hCE (LC.pu hLC er1) (LM.pu hLM er2)
  exact NX ur1 ur2 _ _ _ hLI2 hC hM hS (lv_sub hl [0, 1, 2, 3] rfl)
