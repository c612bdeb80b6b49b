set_option maxRecDepth 20000 in
theorem cw_X9_108 : CwV RX9 108 yX4_make cX4_make 3 none 2 := ⟨wm 643 (by decide +kernel) rfl, wm 644 (by decide +kernel) rfl, wm 645 (by decide +kernel) rfl, wm 4 (by decide +kernel) rfl, wm 646 rfl rfl, by decide +kernel⟩
set_option maxRecDepth 20000 in
theorem cw_X4_38 : CwV RX4 38 yX7_scan cX7_scan 4 none 2 := ⟨wm 647 (by decide +kernel) rfl, wm 648 (by decide +kernel) rfl, wm 649 (by decide +kernel) rfl, wm 5 (by decide +kernel) rfl, wm 650 rfl rfl, by decide +kernel⟩
set_option maxRecDepth 20000 in
theorem fl_X7_34 : Cond.fieldLink RX7 34 (TX7 7).1 (TX7 7).2.1 (TX7 7).2.2.1 ∈ WALL := wm 112 (by decide +kernel) rfl
set_option maxRecDepth 20000 in
theorem fl_X7_38 : Cond.fieldLink RX7 38 (TX7 8).1 (TX7 8).2.1 (TX7 8).2.2.1 ∈ WALL := wm 115 (by decide +kernel) rfl
set_option maxRecDepth 20000 in
theorem fl_X7_41 : Cond.fieldLink RX7 41 (TX7 9).1 (TX7 9).2.1 (TX7 9).2.2.1 ∈ WALL := wm 117 (by decide +kernel) rfl
set_option maxRecDepth 20000 in
theorem fl_X7_44 : Cond.fieldLink RX7 44 (TX7 10).1 (TX7 10).2.1 (TX7 10).2.2.1 ∈ WALL := wm 119 (by decide +kernel) rfl
set_option maxRecDepth 20000 in
theorem fl_X7_47 : Cond.fieldLink RX7 47 (TX7 11).1 (TX7 11).2.1 (TX7 11).2.2.1 ∈ WALL := wm 120 (by decide +kernel) rfl
set_option maxRecDepth 20000 in
theorem fl_X7_50 : Cond.fieldLink RX7 50 (TX7 12).1 (TX7 12).2.1 (TX7 12).2.2.1 ∈ WALL := wm 121 (by decide +kernel) rfl
set_option maxRecDepth 20000 in
theorem fl_X7_53 : Cond.fieldLink RX7 53 (TX7 13).1 (TX7 13).2.1 (TX7 13).2.2.1 ∈ WALL := wm 122 (by decide +kernel) rfl
set_option maxRecDepth 20000 in
theorem fl_X7_57 : Cond.fieldLink RX7 57 (TX6 1).1 (TX6 1).2.1 (TX6 1).2.2.1 ∈ WALL := wm 73 (by decide +kernel) rfl
set_option maxRecDepth 20000 in
theorem fl_X7_66 : Cond.fieldLink RX7 66 (TX1 7).1 (TX1 7).2.1 (TX1 7).2.2.1 ∈ WALL := wm 41 (by decide +kernel) rfl
set_option maxRecDepth 20000 in
theorem cw_X7_71 : CwV RX7 71 yX6_firstPlaceOf cX6_firstPlaceOf 3 (some .int) 1 := ⟨wm 696 (by decide +kernel) rfl, wm 697 (by decide +kernel) rfl, wm 698 (by decide +kernel) rfl, wm 3 (by decide +kernel) rfl, wm 699 rfl rfl, by decide +kernel⟩
set_option maxRecDepth 20000 in
theorem fl_X6_15 : Cond.fieldLink RX6 15 (TX6 1).1 (TX6 1).2.1 (TX6 1).2.2.1 ∈ WALL := wm 71 (by decide +kernel) rfl
set_option maxRecDepth 20000 in
theorem fl_X4_42 : Cond.fieldLink RX4 42 (TX7 8).1 (TX7 8).2.1 (TX7 8).2.2.1 ∈ WALL := wm 116 (by decide +kernel) rfl
set_option maxRecDepth 20000 in
theorem fl_X4_43 : Cond.fieldLink RX4 43 (TX7 9).1 (TX7 9).2.1 (TX7 9).2.2.1 ∈ WALL := wm 118 (by decide +kernel) rfl
set_option maxRecDepth 20000 in
theorem fl_X4_44 : Cond.fieldLink RX4 44 (TX6 1).1 (TX6 1).2.1 (TX6 1).2.2.1 ∈ WALL := wm 72 (by decide +kernel) rfl
set_option maxRecDepth 20000 in
theorem cw_X4_49 : CwV RX4 49 yX8_grow cX8_grow 4 none 2 := ⟨wm 700 (by decide +kernel) rfl, wm 701 (by decide +kernel) rfl, wm 702 (by decide +kernel) rfl, wm 6 (by decide +kernel) rfl, wm 703 rfl rfl, by decide +kernel⟩
set_option maxRecDepth 20000 in
theorem fl_X8_36 : Cond.fieldLink RX8 36 (TX8 4).1 (TX8 4).2.1 (TX8 4).2.2.1 ∈ WALL := wm 279 (by decide +kernel) rfl
set_option maxRecDepth 20000 in
theorem fl_X8_40 : Cond.fieldLink RX8 40 (TX8 5).1 (TX8 5).2.1 (TX8 5).2.2.1 ∈ WALL := wm 282 (by decide +kernel) rfl
set_option maxRecDepth 20000 in
theorem fl_X8_43 : Cond.fieldLink RX8 43 (TX0 9).1 (TX0 9).2.1 (TX0 9).2.2.1 ∈ WALL := wm 194 (by decide +kernel) rfl
set_option maxRecDepth 20000 in
theorem fl_X8_46 : Cond.fieldLink RX8 46 (TX2 5).1 (TX2 5).2.1 (TX2 5).2.2.1 ∈ WALL := wm 240 (by decide +kernel) rfl
set_option maxRecDepth 20000 in
theorem fl_X8_47 : Cond.fieldLink RX8 47 (TX2 8).1 (TX2 8).2.1 (TX2 8).2.2.1 ∈ WALL := wm 247 (by decide +kernel) rfl
set_option maxRecDepth 20000 in
theorem fl_X8_50 : Cond.fieldLink RX8 50 (TX8 7).1 (TX8 7).2.1 (TX8 7).2.2.1 ∈ WALL := wm 285 (by decide +kernel) rfl
set_option maxRecDepth 20000 in
theorem fl_X8_53 : Cond.fieldLink RX8 53 (TX8 8).1 (TX8 8).2.1 (TX8 8).2.2.1 ∈ WALL := wm 286 (by decide +kernel) rfl
set_option maxRecDepth 20000 in
theorem fl_X8_56 : Cond.fieldLink RX8 56 (TX8 9).1 (TX8 9).2.1 (TX8 9).2.2.1 ∈ WALL := wm 287 (by decide +kernel) rfl
set_option maxRecDepth 20000 in
theorem cw_X8_59 : CwV RX8 59 yX0_add cX0_add 6 (some .int) 5 := ⟨wm 704 (by decide +kernel) rfl, wm 705 (by decide +kernel) rfl, wm 706 (by decide +kernel) rfl, wm 7 (by decide +kernel) rfl, wm 707 rfl rfl, by decide +kernel⟩
set_option maxRecDepth 20000 in
theorem fl_X0_39 : Cond.fieldLink RX0 39 (TX0 9).1 (TX0 9).2.1 (TX0 9).2.2.1 ∈ WALL := wm 193 (by decide +kernel) rfl
set_option maxRecDepth 20000 in
theorem cw_X8_63 : CwV RX8 63 yX8_pileUp cX8_pileUp 2 none 1 := ⟨wm 708 (by decide +kernel) rfl, wm 710 (by decide +kernel) rfl, wms 10 (by decide +kernel) rfl, wm 6 (by decide +kernel) rfl, wm 711 rfl rfl, by decide +kernel⟩
set_option maxRecDepth 20000 in
theorem cw_X8_87 : CwV RX8 87 yX0_has cX0_has 2 (some .boolean) 1 := ⟨wm 712 (by decide +kernel) rfl, wm 713 (by decide +kernel) rfl, wm 714 (by decide +kernel) rfl, wm 7 (by decide +kernel) rfl, wm 715 rfl rfl, by decide +kernel⟩
set_option maxRecDepth 20000 in
theorem fl_X8_67 : Cond.fieldLink RX8 67 (TX7 7).1 (TX7 7).2.1 (TX7 7).2.2.1 ∈ WALL := wm 113 (by decide +kernel) rfl
set_option maxRecDepth 20000 in
theorem cw_X8_74 : CwV RX8 74 yX8_finish cX8_finish 6 none 2 := ⟨wm 775 (by decide +kernel) rfl, wm 777 (by decide +kernel) rfl, wms 21 (by decide +kernel) rfl, wm 6 (by decide +kernel) rfl, wm 778 rfl rfl, by decide +kernel⟩
set_option maxRecDepth 20000 in
theorem cw_X8_77 : CwV RX8 77 yX8_spreadEnds cX8_spreadEnds 4 none 0 := ⟨wm 779 (by decide +kernel) rfl, wm 781 (by decide +kernel) rfl, wms 22 (by decide +kernel) rfl, wm 6 (by decide +kernel) rfl, wm 782 rfl rfl, by decide +kernel⟩
set_option maxRecDepth 20000 in
theorem fl_X4_53 : Cond.fieldLink RX4 53 (TX8 4).1 (TX8 4).2.1 (TX8 4).2.2.1 ∈ WALL := wm 280 (by decide +kernel) rfl
set_option maxRecDepth 20000 in
theorem fl_X4_54 : Cond.fieldLink RX4 54 (TX8 5).1 (TX8 5).2.1 (TX8 5).2.2.1 ∈ WALL := wm 283 (by decide +kernel) rfl
set_option maxRecDepth 20000 in
theorem fl_X9_112 : Cond.fieldLink RX9 112 (TX4 2).1 (TX4 2).2.1 (TX4 2).2.2.1 ∈ WALL := wm 316 (by decide +kernel) rfl
set_option maxRecDepth 20000 in
theorem fl_X9_118 : Cond.fieldLink RX9 118 (TX4 0).1 (TX4 0).2.1 (TX4 0).2.2.1 ∈ WALL := wm 311 (by decide +kernel) rfl
set_option maxRecDepth 20000 in
theorem fl_X9_122 : Cond.fieldLink RX9 122 (TX7 7).1 (TX7 7).2.1 (TX7 7).2.2.1 ∈ WALL := wm 114 (by decide +kernel) rfl
set_option maxRecDepth 20000 in
theorem fl_X9_133 : Cond.fieldLink RX9 133 (TX4 1).1 (TX4 1).2.1 (TX4 1).2.2.1 ∈ WALL := wm 314 (by decide +kernel) rfl
set_option maxRecDepth 20000 in
theorem fl_X9_137 : Cond.fieldLink RX9 137 (TX8 0).1 (TX8 0).2.1 (TX8 0).2.2.1 ∈ WALL := wm 270 (by decide +kernel) rfl
set_option maxRecDepth 20000 in
theorem fl_X9_146 : Cond.fieldLink RX9 146 (TX8 1).1 (TX8 1).2.1 (TX8 1).2.2.1 ∈ WALL := wm 273 (by decide +kernel) rfl
set_option maxRecDepth 20000 in
theorem fl_X10_219 : Cond.fieldLink RX10 219 (TX10 12).1 (TX10 12).2.1 (TX10 12).2.2.1 ∈ WALL := wm 1036 (by decide +kernel) rfl
set_option maxRecDepth 20000 in
theorem cw_X10_346 : CwV RX10 346 yX10_readAll cX10_readAll 6 (some .boolean) 2 := ⟨wm 1349 (by decide +kernel) rfl, wm 1351 (by decide +kernel) rfl, wms 41 (by decide +kernel) rfl, wm 11 (by decide +kernel) rfl, wm 1352 rfl rfl, by decide +kernel⟩
set_option maxRecDepth 20000 in
theorem fl_X10_251 : Cond.fieldLink RX10 251 (TX10 18).1 (TX10 18).2.1 (TX10 18).2.2.1 ∈ WALL := wm 1042 (by decide +kernel) rfl
set_option maxRecDepth 20000 in
theorem fl_X10_245 : Cond.fieldLink RX10 245 (TX10 30).1 (TX10 30).2.1 (TX10 30).2.2.1 ∈ WALL := wm 1054 (by decide +kernel) rfl
set_option maxRecDepth 20000 in
theorem fl_X10_248 : Cond.fieldLink RX10 248 (TX10 31).1 (TX10 31).2.1 (TX10 31).2.2.1 ∈ WALL := wm 1055 (by decide +kernel) rfl
set_option maxRecDepth 20000 in
theorem fl_X10_281 : Cond.fieldLink RX10 281 (TX10 32).1 (TX10 32).2.1 (TX10 32).2.2.1 ∈ WALL := wm 1056 (by decide +kernel) rfl
set_option maxRecDepth 20000 in
theorem fl_X10_287 : Cond.fieldLink RX10 287 (TX10 40).1 (TX10 40).2.1 (TX10 40).2.2.1 ∈ WALL := wm 1064 (by decide +kernel) rfl
set_option maxRecDepth 20000 in
theorem fl_X10_290 : Cond.fieldLink RX10 290 (TX10 47).1 (TX10 47).2.1 (TX10 47).2.2.1 ∈ WALL := wm 1071 (by decide +kernel) rfl
set_option maxRecDepth 20000 in
theorem cw_X10_330 : CwV RX10 330 yX10_measure cX10_measure 4 none 0 := ⟨wm 1353 (by decide +kernel) rfl, wm 1355 (by decide +kernel) rfl, wms 42 (by decide +kernel) rfl, wm 11 (by decide +kernel) rfl, wm 1356 rfl rfl, by decide +kernel⟩
set_option maxRecDepth 20000 in
theorem cw_X10_333 : CwV RX10 333 yX10_cutUp cX10_cutUp 5 (some .boolean) 0 := ⟨wm 1357 (by decide +kernel) rfl, wm 1359 (by decide +kernel) rfl, wms 43 (by decide +kernel) rfl, wm 11 (by decide +kernel) rfl, wm 1360 rfl rfl, by decide +kernel⟩
set_option maxRecDepth 20000 in
theorem fl_X10_258 : Cond.fieldLink RX10 258 (TX10 19).1 (TX10 19).2.1 (TX10 19).2.2.1 ∈ WALL := wm 1043 (by decide +kernel) rfl
set_option maxRecDepth 20000 in
theorem cw_X10_299 : CwV RX10 299 yX10_newBlock cX10_newBlock 6 (some .int) 4 := ⟨wm 1388 (by decide +kernel) rfl, wm 1390 (by decide +kernel) rfl, wms 50 (by decide +kernel) rfl, wm 11 (by decide +kernel) rfl, wm 1391 rfl rfl, by decide +kernel⟩
set_option maxRecDepth 20000 in
theorem fl_X10_293 : Cond.fieldLink RX10 293 (TX10 51).1 (TX10 51).2.1 (TX10 51).2.2.1 ∈ WALL := wm 1075 (by decide +kernel) rfl
set_option maxRecDepth 20000 in
theorem fl_X10_313 : Cond.fieldLink RX10 313 (TX10 52).1 (TX10 52).2.1 (TX10 52).2.2.1 ∈ WALL := wm 1076 (by decide +kernel) rfl
set_option maxRecDepth 20000 in
theorem fl_X10_211 : Cond.fieldLink RX10 211 (TX10 15).1 (TX10 15).2.1 (TX10 15).2.2.1 ∈ WALL := wm 1039 (by decide +kernel) rfl
theorem dX9_read_0 : decode cX9_read 0 = .ok (.aload_n 0, 1) := by decide +kernel
theorem dX9_read_1 : decode cX9_read 1 = .ok (.getfield 29, 3) := by decide +kernel
theorem dX9_read_4 : decode cX9_read 4 = .ok (.aload_n 0, 1) := by decide +kernel
theorem dX9_read_5 : decode cX9_read 5 = .ok (.getfield 19, 3) := by decide +kernel
theorem dX9_read_8 : decode cX9_read 8 = .ok (.aload_n 0, 1) := by decide +kernel
theorem dX9_read_9 : decode cX9_read 9 = .ok (.getfield 12, 3) := by decide +kernel
theorem dX9_read_12 : decode cX9_read 12 = .ok (.invokevirtual 108, 3) := by decide +kernel
theorem dX9_read_15 : decode cX9_read 15 = .ok (.aload_n 0, 1) := by decide +kernel
theorem dX9_read_16 : decode cX9_read 16 = .ok (.getfield 29, 3) := by decide +kernel
theorem dX9_read_19 : decode cX9_read 19 = .ok (.getfield 112, 3) := by decide +kernel
theorem dX9_read_22 : decode cX9_read 22 = .ok (.ifCond .eq 19, 3) := by decide +kernel
theorem dX9_read_41 : decode cX9_read 41 = .ok (.aload_n 0, 1) := by decide +kernel
theorem dX9_read_42 : decode cX9_read 42 = .ok (.iconst 1, 1) := by decide +kernel
theorem dX9_read_43 : decode cX9_read 43 = .ok (.putfield 53, 3) := by decide +kernel
theorem dX9_read_46 : decode cX9_read 46 = .ok (.aload_n 0, 1) := by decide +kernel
theorem dX9_read_47 : decode cX9_read 47 = .ok (.getfield 29, 3) := by decide +kernel
theorem dX9_read_50 : decode cX9_read 50 = .ok (.getfield 118, 3) := by decide +kernel
theorem dX9_read_53 : decode cX9_read 53 = .ok (.getfield 122, 3) := by decide +kernel
theorem dX9_read_56 : decode cX9_read 56 = .ok (.ireturn, 1) := by decide +kernel
theorem dX4_make_0 : decode cX4_make 0 = .ok (.aload_n 0, 1) := by decide +kernel
theorem dX4_make_1 : decode cX4_make 1 = .ok (.getfield 12, 3) := by decide +kernel
theorem dX4_make_4 : decode cX4_make 4 = .ok (.aload_n 1, 1) := by decide +kernel
theorem dX4_make_5 : decode cX4_make 5 = .ok (.aload_n 2, 1) := by decide +kernel
theorem dX4_make_6 : decode cX4_make 6 = .ok (.invokevirtual 38, 3) := by decide +kernel
theorem dX4_make_9 : decode cX4_make 9 = .ok (.aload_n 0, 1) := by decide +kernel
theorem dX4_make_10 : decode cX4_make 10 = .ok (.aload_n 0, 1) := by decide +kernel
theorem dX4_make_11 : decode cX4_make 11 = .ok (.getfield 12, 3) := by decide +kernel
theorem dX4_make_14 : decode cX4_make 14 = .ok (.getfield 42, 3) := by decide +kernel
theorem dX4_make_17 : decode cX4_make 17 = .ok (.putfield 25, 3) := by decide +kernel
theorem dX4_make_20 : decode cX4_make 20 = .ok (.aload_n 0, 1) := by decide +kernel
theorem dX4_make_21 : decode cX4_make 21 = .ok (.aload_n 0, 1) := by decide +kernel
theorem dX4_make_22 : decode cX4_make 22 = .ok (.getfield 12, 3) := by decide +kernel
theorem dX4_make_25 : decode cX4_make 25 = .ok (.getfield 43, 3) := by decide +kernel
theorem dX4_make_28 : decode cX4_make 28 = .ok (.putfield 29, 3) := by decide +kernel
theorem dX4_make_31 : decode cX4_make 31 = .ok (.aload_n 0, 1) := by decide +kernel
theorem dX4_make_32 : decode cX4_make 32 = .ok (.getfield 25, 3) := by decide +kernel
theorem dX4_make_35 : decode cX4_make 35 = .ok (.ifCond .ne 40, 3) := by decide +kernel
theorem dX4_make_38 : decode cX4_make 38 = .ok (.aload_n 0, 1) := by decide +kernel
theorem dX4_make_39 : decode cX4_make 39 = .ok (.getfield 21, 3) := by decide +kernel
theorem dX4_make_42 : decode cX4_make 42 = .ok (.aload_n 0, 1) := by decide +kernel
theorem dX4_make_43 : decode cX4_make 43 = .ok (.getfield 12, 3) := by decide +kernel
theorem dX4_make_46 : decode cX4_make 46 = .ok (.aload_n 1, 1) := by decide +kernel
theorem dX4_make_47 : decode cX4_make 47 = .ok (.getfield 44, 3) := by decide +kernel
theorem dX4_make_50 : decode cX4_make 50 = .ok (.invokevirtual 49, 3) := by decide +kernel
theorem dX4_make_53 : decode cX4_make 53 = .ok (.aload_n 0, 1) := by decide +kernel
theorem dX4_make_54 : decode cX4_make 54 = .ok (.aload_n 0, 1) := by decide +kernel
theorem dX4_make_55 : decode cX4_make 55 = .ok (.getfield 21, 3) := by decide +kernel
theorem dX4_make_58 : decode cX4_make 58 = .ok (.getfield 53, 3) := by decide +kernel
theorem dX4_make_61 : decode cX4_make 61 = .ok (.putfield 25, 3) := by decide +kernel
theorem dX4_make_64 : decode cX4_make 64 = .ok (.aload_n 0, 1) := by decide +kernel
theorem dX4_make_65 : decode cX4_make 65 = .ok (.aload_n 0, 1) := by decide +kernel
theorem dX4_make_66 : decode cX4_make 66 = .ok (.getfield 21, 3) := by decide +kernel
theorem dX4_make_69 : decode cX4_make 69 = .ok (.getfield 54, 3) := by decide +kernel
theorem dX4_make_72 : decode cX4_make 72 = .ok (.putfield 29, 3) := by decide +kernel
theorem dX4_make_75 : decode cX4_make 75 = .ok (.aload_n 0, 1) := by decide +kernel
theorem dX4_make_76 : decode cX4_make 76 = .ok (.aload_n 0, 1) := by decide +kernel
theorem dX4_make_77 : decode cX4_make 77 = .ok (.getfield 25, 3) := by decide +kernel
theorem dX4_make_80 : decode cX4_make 80 = .ok (.ifCond .ne 8, 3) := by decide +kernel
theorem dX4_make_83 : decode cX4_make 83 = .ok (.bipush (-9), 2) := by decide +kernel
theorem dX4_make_85 : decode cX4_make 85 = .ok (.goto 11, 3) := by decide +kernel
theorem dX4_make_96 : decode cX4_make 96 = .ok (.putfield 32, 3) := by decide +kernel
theorem dX4_make_99 : decode cX4_make 99 = .ok (.aload_n 0, 1) := by decide +kernel
theorem dX4_make_100 : decode cX4_make 100 = .ok (.aload_n 0, 1) := by decide +kernel
theorem dX4_make_101 : decode cX4_make 101 = .ok (.getfield 25, 3) := by decide +kernel
theorem dX4_make_104 : decode cX4_make 104 = .ok (.ifCond .ne 8, 3) := by decide +kernel
theorem dX4_make_107 : decode cX4_make 107 = .ok (.bipush (-9), 2) := by decide +kernel
theorem dX4_make_109 : decode cX4_make 109 = .ok (.goto 15, 3) := by decide +kernel
theorem dX4_make_124 : decode cX4_make 124 = .ok (.putfield 35, 3) := by decide +kernel
theorem dX4_make_127 : decode cX4_make 127 = .ok (.return_, 1) := by decide +kernel
theorem dX7_scan_0 : decode cX7_scan 0 = .ok (.aload_n 0, 1) := by decide +kernel
theorem dX7_scan_1 : decode cX7_scan 1 = .ok (.iconst 0, 1) := by decide +kernel
theorem dX7_scan_2 : decode cX7_scan 2 = .ok (.putfield 34, 3) := by decide +kernel
theorem dX7_scan_5 : decode cX7_scan 5 = .ok (.aload_n 0, 1) := by decide +kernel
theorem dX7_scan_6 : decode cX7_scan 6 = .ok (.iconst 0, 1) := by decide +kernel
theorem dX7_scan_7 : decode cX7_scan 7 = .ok (.putfield 38, 3) := by decide +kernel
theorem dX7_scan_10 : decode cX7_scan 10 = .ok (.aload_n 0, 1) := by decide +kernel
theorem dX7_scan_11 : decode cX7_scan 11 = .ok (.bipush (-9), 2) := by decide +kernel
theorem dX7_scan_13 : decode cX7_scan 13 = .ok (.putfield 41, 3) := by decide +kernel
theorem dX7_scan_16 : decode cX7_scan 16 = .ok (.aload_n 0, 1) := by decide +kernel
theorem dX7_scan_17 : decode cX7_scan 17 = .ok (.iconst 0, 1) := by decide +kernel
theorem dX7_scan_18 : decode cX7_scan 18 = .ok (.putfield 44, 3) := by decide +kernel
theorem dX7_scan_21 : decode cX7_scan 21 = .ok (.aload_n 0, 1) := by decide +kernel
theorem dX7_scan_22 : decode cX7_scan 22 = .ok (.iconst 0, 1) := by decide +kernel
theorem dX7_scan_23 : decode cX7_scan 23 = .ok (.putfield 47, 3) := by decide +kernel
theorem dX7_scan_26 : decode cX7_scan 26 = .ok (.aload_n 0, 1) := by decide +kernel
theorem dX7_scan_27 : decode cX7_scan 27 = .ok (.iconst 0, 1) := by decide +kernel
theorem dX7_scan_28 : decode cX7_scan 28 = .ok (.putfield 50, 3) := by decide +kernel
theorem dX7_scan_31 : decode cX7_scan 31 = .ok (.aload_n 0, 1) := by decide +kernel
theorem dX7_scan_32 : decode cX7_scan 32 = .ok (.iconst 1, 1) := by decide +kernel
theorem dX7_scan_33 : decode cX7_scan 33 = .ok (.putfield 53, 3) := by decide +kernel
theorem dX7_scan_36 : decode cX7_scan 36 = .ok (.iconst 0, 1) := by decide +kernel
theorem dX7_scan_37 : decode cX7_scan 37 = .ok (.istore_n 3, 1) := by decide +kernel
theorem dX7_scan_38 : decode cX7_scan 38 = .ok (.iload_n 3, 1) := by decide +kernel
theorem dX7_scan_39 : decode cX7_scan 39 = .ok (.sipush 600, 3) := by decide +kernel
theorem dX7_scan_42 : decode cX7_scan 42 = .ok (.if_icmp .ge 33, 3) := by decide +kernel
theorem dX7_scan_45 : decode cX7_scan 45 = .ok (.aload_n 0, 1) := by decide +kernel
theorem dX7_scan_46 : decode cX7_scan 46 = .ok (.getfield 44, 3) := by decide +kernel
theorem dX7_scan_49 : decode cX7_scan 49 = .ok (.aload_n 1, 1) := by decide +kernel
theorem dX7_scan_50 : decode cX7_scan 50 = .ok (.getfield 57, 3) := by decide +kernel
theorem dX7_scan_53 : decode cX7_scan 53 = .ok (.if_icmp .ge 22, 3) := by decide +kernel
theorem dX7_scan_75 : decode cX7_scan 75 = .ok (.aload_n 2, 1) := by decide +kernel
theorem dX7_scan_76 : decode cX7_scan 76 = .ok (.getfield 66, 3) := by decide +kernel
theorem dX7_scan_79 : decode cX7_scan 79 = .ok (.ifCond .ne 12, 3) := by decide +kernel
theorem dX7_scan_82 : decode cX7_scan 82 = .ok (.aload_n 1, 1) := by decide +kernel
theorem dX7_scan_83 : decode cX7_scan 83 = .ok (.bipush 9, 2) := by decide +kernel
theorem dX7_scan_85 : decode cX7_scan 85 = .ok (.invokevirtual 71, 3) := by decide +kernel
theorem dX7_scan_88 : decode cX7_scan 88 = .ok (.goto 5, 3) := by decide +kernel
theorem dX7_scan_93 : decode cX7_scan 93 = .ok (.istore_n 3, 1) := by decide +kernel
theorem dX7_scan_94 : decode cX7_scan 94 = .ok (.iload_n 3, 1) := by decide +kernel
theorem dX7_scan_95 : decode cX7_scan 95 = .ok (.bipush (-9), 2) := by decide +kernel
theorem dX7_scan_97 : decode cX7_scan 97 = .ok (.if_icmp .eq 28, 3) := by decide +kernel
theorem dX7_scan_125 : decode cX7_scan 125 = .ok (.return_, 1) := by decide +kernel
theorem dX6_firstPlaceOf_0 : decode cX6_firstPlaceOf 0 = .ok (.iconst 0, 1) := by decide +kernel
theorem dX6_firstPlaceOf_1 : decode cX6_firstPlaceOf 1 = .ok (.istore_n 2, 1) := by decide +kernel
theorem dX6_firstPlaceOf_2 : decode cX6_firstPlaceOf 2 = .ok (.iload_n 2, 1) := by decide +kernel
theorem dX6_firstPlaceOf_3 : decode cX6_firstPlaceOf 3 = .ok (.aload_n 0, 1) := by decide +kernel
theorem dX6_firstPlaceOf_4 : decode cX6_firstPlaceOf 4 = .ok (.getfield 15, 3) := by decide +kernel
theorem dX6_firstPlaceOf_7 : decode cX6_firstPlaceOf 7 = .ok (.if_icmp .ge 20, 3) := by decide +kernel
theorem dX6_firstPlaceOf_27 : decode cX6_firstPlaceOf 27 = .ok (.bipush (-9), 2) := by decide +kernel
theorem dX6_firstPlaceOf_29 : decode cX6_firstPlaceOf 29 = .ok (.ireturn, 1) := by decide +kernel
theorem dX8_grow_0 : decode cX8_grow 0 = .ok (.aload_n 0, 1) := by decide +kernel
theorem dX8_grow_1 : decode cX8_grow 1 = .ok (.iconst 0, 1) := by decide +kernel
theorem dX8_grow_2 : decode cX8_grow 2 = .ok (.putfield 36, 3) := by decide +kernel
theorem dX8_grow_5 : decode cX8_grow 5 = .ok (.aload_n 0, 1) := by decide +kernel
theorem dX8_grow_6 : decode cX8_grow 6 = .ok (.bipush (-9), 2) := by decide +kernel
theorem dX8_grow_8 : decode cX8_grow 8 = .ok (.putfield 40, 3) := by decide +kernel
theorem dX8_grow_11 : decode cX8_grow 11 = .ok (.aload_n 0, 1) := by decide +kernel
theorem dX8_grow_12 : decode cX8_grow 12 = .ok (.getfield 12, 3) := by decide +kernel
theorem dX8_grow_15 : decode cX8_grow 15 = .ok (.iconst 0, 1) := by decide +kernel
theorem dX8_grow_16 : decode cX8_grow 16 = .ok (.putfield 43, 3) := by decide +kernel
theorem dX8_grow_19 : decode cX8_grow 19 = .ok (.aload_n 0, 1) := by decide +kernel
theorem dX8_grow_20 : decode cX8_grow 20 = .ok (.getfield 21, 3) := by decide +kernel
theorem dX8_grow_23 : decode cX8_grow 23 = .ok (.iconst 0, 1) := by decide +kernel
theorem dX8_grow_24 : decode cX8_grow 24 = .ok (.putfield 46, 3) := by decide +kernel
theorem dX8_grow_27 : decode cX8_grow 27 = .ok (.aload_n 0, 1) := by decide +kernel
theorem dX8_grow_28 : decode cX8_grow 28 = .ok (.getfield 21, 3) := by decide +kernel
theorem dX8_grow_31 : decode cX8_grow 31 = .ok (.iconst 0, 1) := by decide +kernel
theorem dX8_grow_32 : decode cX8_grow 32 = .ok (.putfield 47, 3) := by decide +kernel
theorem dX8_grow_35 : decode cX8_grow 35 = .ok (.aload_n 0, 1) := by decide +kernel
theorem dX8_grow_36 : decode cX8_grow 36 = .ok (.iconst 0, 1) := by decide +kernel
theorem dX8_grow_37 : decode cX8_grow 37 = .ok (.putfield 50, 3) := by decide +kernel
theorem dX8_grow_40 : decode cX8_grow 40 = .ok (.aload_n 0, 1) := by decide +kernel
theorem dX8_grow_41 : decode cX8_grow 41 = .ok (.bipush (-9), 2) := by decide +kernel
theorem dX8_grow_43 : decode cX8_grow 43 = .ok (.putfield 53, 3) := by decide +kernel
theorem dX8_grow_46 : decode cX8_grow 46 = .ok (.aload_n 0, 1) := by decide +kernel
theorem dX8_grow_47 : decode cX8_grow 47 = .ok (.bipush (-9), 2) := by decide +kernel
theorem dX8_grow_49 : decode cX8_grow 49 = .ok (.putfield 56, 3) := by decide +kernel
theorem dX8_grow_52 : decode cX8_grow 52 = .ok (.aload_n 0, 1) := by decide +kernel
theorem dX8_grow_53 : decode cX8_grow 53 = .ok (.aload_n 0, 1) := by decide +kernel
theorem dX8_grow_54 : decode cX8_grow 54 = .ok (.getfield 12, 3) := by decide +kernel
theorem dX8_grow_57 : decode cX8_grow 57 = .ok (.iconst 0, 1) := by decide +kernel
theorem dX8_grow_58 : decode cX8_grow 58 = .ok (.iconst 0, 1) := by decide +kernel
theorem dX8_grow_59 : decode cX8_grow 59 = .ok (.bipush (-9), 2) := by decide +kernel
theorem dX8_grow_61 : decode cX8_grow 61 = .ok (.iconst 0, 1) := by decide +kernel
theorem dX8_grow_62 : decode cX8_grow 62 = .ok (.bipush (-9), 2) := by decide +kernel
theorem dX8_grow_64 : decode cX8_grow 64 = .ok (.invokevirtual 59, 3) := by decide +kernel
theorem dX8_grow_67 : decode cX8_grow 67 = .ok (.invokevirtual 63, 3) := by decide +kernel
theorem dX8_grow_70 : decode cX8_grow 70 = .ok (.iconst 0, 1) := by decide +kernel
theorem dX8_grow_71 : decode cX8_grow 71 = .ok (.istore_n 3, 1) := by decide +kernel
theorem dX8_grow_72 : decode cX8_grow 72 = .ok (.iload_n 3, 1) := by decide +kernel
theorem dX8_grow_73 : decode cX8_grow 73 = .ok (.aload_n 1, 1) := by decide +kernel
theorem dX8_grow_74 : decode cX8_grow 74 = .ok (.getfield 67, 3) := by decide +kernel
theorem dX8_grow_77 : decode cX8_grow 77 = .ok (.if_icmp .ge 22, 3) := by decide +kernel
theorem dX8_grow_99 : decode cX8_grow 99 = .ok (.aload_n 0, 1) := by decide +kernel
theorem dX8_grow_100 : decode cX8_grow 100 = .ok (.getfield 36, 3) := by decide +kernel
theorem dX8_grow_103 : decode cX8_grow 103 = .ok (.ifCond .ne 9, 3) := by decide +kernel
theorem dX8_grow_106 : decode cX8_grow 106 = .ok (.aload_n 0, 1) := by decide +kernel
theorem dX8_grow_107 : decode cX8_grow 107 = .ok (.aload_n 1, 1) := by decide +kernel
theorem dX8_grow_108 : decode cX8_grow 108 = .ok (.iload_n 2, 1) := by decide +kernel
theorem dX8_grow_109 : decode cX8_grow 109 = .ok (.invokevirtual 74, 3) := by decide +kernel
theorem dX8_grow_112 : decode cX8_grow 112 = .ok (.aload_n 0, 1) := by decide +kernel
theorem dX8_grow_113 : decode cX8_grow 113 = .ok (.getfield 36, 3) := by decide +kernel
theorem dX8_grow_116 : decode cX8_grow 116 = .ok (.ifCond .ne 7, 3) := by decide +kernel
theorem dX8_grow_119 : decode cX8_grow 119 = .ok (.aload_n 0, 1) := by decide +kernel
theorem dX8_grow_120 : decode cX8_grow 120 = .ok (.invokevirtual 77, 3) := by decide +kernel
theorem dX8_grow_123 : decode cX8_grow 123 = .ok (.return_, 1) := by decide +kernel
theorem dX0_add_0 : decode cX0_add 0 = .ok (.aload_n 0, 1) := by decide +kernel
theorem dX0_add_1 : decode cX0_add 1 = .ok (.getfield 39, 3) := by decide +kernel
theorem dX0_add_4 : decode cX0_add 4 = .ok (.aload_n 0, 1) := by decide +kernel
theorem dX0_add_5 : decode cX0_add 5 = .ok (.getfield 9, 3) := by decide +kernel
theorem dX0_add_8 : decode cX0_add 8 = .ok (.arraylength, 1) := by decide +kernel
theorem dX0_add_9 : decode cX0_add 9 = .ok (.if_icmp .lt 6, 3) := by decide +kernel
theorem dX0_add_15 : decode cX0_add 15 = .ok (.aload_n 0, 1) := by decide +kernel
theorem dX0_add_16 : decode cX0_add 16 = .ok (.getfield 9, 3) := by decide +kernel
theorem dX0_add_19 : decode cX0_add 19 = .ok (.aload_n 0, 1) := by decide +kernel
theorem dX0_add_20 : decode cX0_add 20 = .ok (.getfield 39, 3) := by decide +kernel
theorem dX0_add_23 : decode cX0_add 23 = .ok (.iload_n 1, 1) := by decide +kernel
theorem dX0_add_24 : decode cX0_add 24 = .ok (.iastore, 1) := by decide +kernel
theorem dX0_add_25 : decode cX0_add 25 = .ok (.aload_n 0, 1) := by decide +kernel
theorem dX0_add_26 : decode cX0_add 26 = .ok (.getfield 15, 3) := by decide +kernel
theorem dX0_add_29 : decode cX0_add 29 = .ok (.aload_n 0, 1) := by decide +kernel
theorem dX0_add_30 : decode cX0_add 30 = .ok (.getfield 39, 3) := by decide +kernel
theorem dX0_add_33 : decode cX0_add 33 = .ok (.iload_n 2, 1) := by decide +kernel
theorem dX0_add_34 : decode cX0_add 34 = .ok (.iastore, 1) := by decide +kernel
theorem dX0_add_35 : decode cX0_add 35 = .ok (.aload_n 0, 1) := by decide +kernel
theorem dX0_add_36 : decode cX0_add 36 = .ok (.getfield 18, 3) := by decide +kernel
theorem dX0_add_39 : decode cX0_add 39 = .ok (.aload_n 0, 1) := by decide +kernel
theorem dX0_add_40 : decode cX0_add 40 = .ok (.getfield 39, 3) := by decide +kernel
theorem dX0_add_43 : decode cX0_add 43 = .ok (.iload_n 3, 1) := by decide +kernel
theorem dX0_add_44 : decode cX0_add 44 = .ok (.iastore, 1) := by decide +kernel
theorem dX0_add_45 : decode cX0_add 45 = .ok (.aload_n 0, 1) := by decide +kernel
theorem dX0_add_46 : decode cX0_add 46 = .ok (.getfield 21, 3) := by decide +kernel
theorem dX0_add_49 : decode cX0_add 49 = .ok (.aload_n 0, 1) := by decide +kernel
theorem dX0_add_50 : decode cX0_add 50 = .ok (.getfield 39, 3) := by decide +kernel
theorem dX0_add_53 : decode cX0_add 53 = .ok (.iconst 0, 1) := by decide +kernel
theorem dX0_add_54 : decode cX0_add 54 = .ok (.iastore, 1) := by decide +kernel
theorem dX0_add_55 : decode cX0_add 55 = .ok (.aload_n 0, 1) := by decide +kernel
theorem dX0_add_56 : decode cX0_add 56 = .ok (.getfield 24, 3) := by decide +kernel
theorem dX0_add_59 : decode cX0_add 59 = .ok (.aload_n 0, 1) := by decide +kernel
theorem dX0_add_60 : decode cX0_add 60 = .ok (.getfield 39, 3) := by decide +kernel
theorem dX0_add_63 : decode cX0_add 63 = .ok (.bipush (-9), 2) := by decide +kernel
theorem dX0_add_65 : decode cX0_add 65 = .ok (.iastore, 1) := by decide +kernel
theorem dX0_add_66 : decode cX0_add 66 = .ok (.aload_n 0, 1) := by decide +kernel
theorem dX0_add_67 : decode cX0_add 67 = .ok (.getfield 27, 3) := by decide +kernel
theorem dX0_add_70 : decode cX0_add 70 = .ok (.aload_n 0, 1) := by decide +kernel
theorem dX0_add_71 : decode cX0_add 71 = .ok (.getfield 39, 3) := by decide +kernel
theorem dX0_add_74 : decode cX0_add 74 = .ok (.bipush (-9), 2) := by decide +kernel
theorem dX0_add_76 : decode cX0_add 76 = .ok (.iastore, 1) := by decide +kernel
theorem dX0_add_77 : decode cX0_add 77 = .ok (.aload_n 0, 1) := by decide +kernel
theorem dX0_add_78 : decode cX0_add 78 = .ok (.getfield 30, 3) := by decide +kernel
theorem dX0_add_81 : decode cX0_add 81 = .ok (.aload_n 0, 1) := by decide +kernel
theorem dX0_add_82 : decode cX0_add 82 = .ok (.getfield 39, 3) := by decide +kernel
theorem dX0_add_85 : decode cX0_add 85 = .ok (.iload 4, 2) := by decide +kernel
theorem dX0_add_87 : decode cX0_add 87 = .ok (.iastore, 1) := by decide +kernel
theorem dX0_add_88 : decode cX0_add 88 = .ok (.aload_n 0, 1) := by decide +kernel
theorem dX0_add_89 : decode cX0_add 89 = .ok (.getfield 33, 3) := by decide +kernel
theorem dX0_add_92 : decode cX0_add 92 = .ok (.aload_n 0, 1) := by decide +kernel
theorem dX0_add_93 : decode cX0_add 93 = .ok (.getfield 39, 3) := by decide +kernel
theorem dX0_add_96 : decode cX0_add 96 = .ok (.iload 5, 2) := by decide +kernel
theorem dX0_add_98 : decode cX0_add 98 = .ok (.iastore, 1) := by decide +kernel
theorem dX0_add_99 : decode cX0_add 99 = .ok (.aload_n 0, 1) := by decide +kernel
theorem dX0_add_100 : decode cX0_add 100 = .ok (.getfield 36, 3) := by decide +kernel
theorem dX0_add_103 : decode cX0_add 103 = .ok (.aload_n 0, 1) := by decide +kernel
theorem dX0_add_104 : decode cX0_add 104 = .ok (.getfield 39, 3) := by decide +kernel
theorem dX0_add_107 : decode cX0_add 107 = .ok (.bipush (-9), 2) := by decide +kernel
theorem dX0_add_109 : decode cX0_add 109 = .ok (.iastore, 1) := by decide +kernel
theorem dX0_add_110 : decode cX0_add 110 = .ok (.aload_n 0, 1) := by decide +kernel
theorem dX0_add_111 : decode cX0_add 111 = .ok (.dup, 1) := by decide +kernel
theorem dX0_add_112 : decode cX0_add 112 = .ok (.getfield 39, 3) := by decide +kernel
theorem dX0_add_115 : decode cX0_add 115 = .ok (.iconst 1, 1) := by decide +kernel
theorem dX0_add_116 : decode cX0_add 116 = .ok (.iadd, 1) := by decide +kernel
theorem dX0_add_117 : decode cX0_add 117 = .ok (.putfield 39, 3) := by decide +kernel
theorem dX0_add_120 : decode cX0_add 120 = .ok (.aload_n 0, 1) := by decide +kernel
theorem dX0_add_121 : decode cX0_add 121 = .ok (.getfield 39, 3) := by decide +kernel
theorem dX0_add_124 : decode cX0_add 124 = .ok (.iconst 1, 1) := by decide +kernel
theorem dX0_add_125 : decode cX0_add 125 = .ok (.isub, 1) := by decide +kernel
theorem dX0_add_126 : decode cX0_add 126 = .ok (.ireturn, 1) := by decide +kernel
theorem dX8_pileUp_0 : decode cX8_pileUp 0 = .ok (.aload_n 0, 1) := by decide +kernel
theorem dX8_pileUp_1 : decode cX8_pileUp 1 = .ok (.getfield 12, 3) := by decide +kernel
theorem dX8_pileUp_4 : decode cX8_pileUp 4 = .ok (.iload_n 1, 1) := by decide +kernel
theorem dX8_pileUp_5 : decode cX8_pileUp 5 = .ok (.invokevirtual 87, 3) := by decide +kernel
theorem dX8_pileUp_8 : decode cX8_pileUp 8 = .ok (.ifCond .eq 35, 3) := by decide +kernel
theorem dX8_pileUp_11 : decode cX8_pileUp 11 = .ok (.aload_n 0, 1) := by decide +kernel
theorem dX8_pileUp_12 : decode cX8_pileUp 12 = .ok (.getfield 50, 3) := by decide +kernel
theorem dX8_pileUp_15 : decode cX8_pileUp 15 = .ok (.aload_n 0, 1) := by decide +kernel
theorem dX8_pileUp_16 : decode cX8_pileUp 16 = .ok (.getfield 33, 3) := by decide +kernel
theorem dX8_pileUp_19 : decode cX8_pileUp 19 = .ok (.arraylength, 1) := by decide +kernel
theorem dX8_pileUp_20 : decode cX8_pileUp 20 = .ok (.if_icmp .ge 23, 3) := by decide +kernel
theorem dX8_pileUp_23 : decode cX8_pileUp 23 = .ok (.aload_n 0, 1) := by decide +kernel
theorem dX8_pileUp_24 : decode cX8_pileUp 24 = .ok (.getfield 33, 3) := by decide +kernel
theorem dX8_pileUp_27 : decode cX8_pileUp 27 = .ok (.aload_n 0, 1) := by decide +kernel
theorem dX8_pileUp_28 : decode cX8_pileUp 28 = .ok (.getfield 50, 3) := by decide +kernel
theorem dX8_pileUp_31 : decode cX8_pileUp 31 = .ok (.iload_n 1, 1) := by decide +kernel
theorem dX8_pileUp_32 : decode cX8_pileUp 32 = .ok (.iastore, 1) := by decide +kernel
theorem dX8_pileUp_33 : decode cX8_pileUp 33 = .ok (.aload_n 0, 1) := by decide +kernel
theorem dX8_pileUp_34 : decode cX8_pileUp 34 = .ok (.dup, 1) := by decide +kernel
theorem dX8_pileUp_35 : decode cX8_pileUp 35 = .ok (.getfield 50, 3) := by decide +kernel
theorem dX8_pileUp_38 : decode cX8_pileUp 38 = .ok (.iconst 1, 1) := by decide +kernel
theorem dX8_pileUp_39 : decode cX8_pileUp 39 = .ok (.iadd, 1) := by decide +kernel
theorem dX8_pileUp_40 : decode cX8_pileUp 40 = .ok (.putfield 50, 3) := by decide +kernel
theorem dX8_pileUp_43 : decode cX8_pileUp 43 = .ok (.return_, 1) := by decide +kernel
theorem dX0_has_0 : decode cX0_has 0 = .ok (.iload_n 1, 1) := by decide +kernel
theorem dX0_has_1 : decode cX0_has 1 = .ok (.ifCond .lt 15, 3) := by decide +kernel
theorem dX0_has_4 : decode cX0_has 4 = .ok (.iload_n 1, 1) := by decide +kernel
theorem dX0_has_5 : decode cX0_has 5 = .ok (.aload_n 0, 1) := by decide +kernel
theorem dX0_has_6 : decode cX0_has 6 = .ok (.getfield 39, 3) := by decide +kernel
theorem dX0_has_9 : decode cX0_has 9 = .ok (.if_icmp .ge 7, 3) := by decide +kernel
theorem dX0_has_12 : decode cX0_has 12 = .ok (.iconst 1, 1) := by decide +kernel
theorem dX0_has_13 : decode cX0_has 13 = .ok (.goto 4, 3) := by decide +kernel
theorem dX0_has_17 : decode cX0_has 17 = .ok (.ireturn, 1) := by decide +kernel
theorem dX8_finish_0 : decode cX8_finish 0 = .ok (.aload_n 0, 1) := by decide +kernel
theorem dX8_finish_1 : decode cX8_finish 1 = .ok (.getfield 53, 3) := by decide +kernel
theorem dX8_finish_4 : decode cX8_finish 4 = .ok (.ifCond .lt 60, 3) := by decide +kernel
theorem dX8_finish_64 : decode cX8_finish 64 = .ok (.iconst 1, 1) := by decide +kernel
theorem dX8_finish_65 : decode cX8_finish 65 = .ok (.istore_n 3, 1) := by decide +kernel
theorem dX8_finish_66 : decode cX8_finish 66 = .ok (.iload_n 3, 1) := by decide +kernel
theorem dX8_finish_67 : decode cX8_finish 67 = .ok (.aload_n 0, 1) := by decide +kernel
theorem dX8_finish_68 : decode cX8_finish 68 = .ok (.getfield 50, 3) := by decide +kernel
theorem dX8_finish_71 : decode cX8_finish 71 = .ok (.if_icmp .ge 71, 3) := by decide +kernel
theorem dX8_finish_142 : decode cX8_finish 142 = .ok (.return_, 1) := by decide +kernel
theorem dX8_spreadEnds_0 : decode cX8_spreadEnds 0 = .ok (.aload_n 0, 1) := by decide +kernel
theorem dX8_spreadEnds_1 : decode cX8_spreadEnds 1 = .ok (.getfield 21, 3) := by decide +kernel
theorem dX8_spreadEnds_4 : decode cX8_spreadEnds 4 = .ok (.getfield 46, 3) := by decide +kernel
theorem dX8_spreadEnds_7 : decode cX8_spreadEnds 7 = .ok (.iconst 1, 1) := by decide +kernel
theorem dX8_spreadEnds_8 : decode cX8_spreadEnds 8 = .ok (.isub, 1) := by decide +kernel
theorem dX8_spreadEnds_9 : decode cX8_spreadEnds 9 = .ok (.istore_n 1, 1) := by decide +kernel
theorem dX8_spreadEnds_10 : decode cX8_spreadEnds 10 = .ok (.iload_n 1, 1) := by decide +kernel
theorem dX8_spreadEnds_11 : decode cX8_spreadEnds 11 = .ok (.ifCond .lt 146, 3) := by decide +kernel
theorem dX8_spreadEnds_157 : decode cX8_spreadEnds 157 = .ok (.return_, 1) := by decide +kernel
theorem dX9_token_0 : decode cX9_token 0 = .ok (.aload_n 0, 1) := by decide +kernel
theorem dX9_token_1 : decode cX9_token 1 = .ok (.getfield 53, 3) := by decide +kernel
theorem dX9_token_4 : decode cX9_token 4 = .ok (.iconst 1, 1) := by decide +kernel
theorem dX9_token_5 : decode cX9_token 5 = .ok (.if_icmp .eq 6, 3) := by decide +kernel
theorem dX9_token_8 : decode cX9_token 8 = .ok (.bipush (-3), 2) := by decide +kernel
theorem dX9_token_10 : decode cX9_token 10 = .ok (.ireturn, 1) := by decide +kernel
theorem dX9_block_0 : decode cX9_block 0 = .ok (.aload_n 0, 1) := by decide +kernel
theorem dX9_block_1 : decode cX9_block 1 = .ok (.getfield 29, 3) := by decide +kernel
theorem dX9_block_4 : decode cX9_block 4 = .ok (.getfield 133, 3) := by decide +kernel
theorem dX9_block_7 : decode cX9_block 7 = .ok (.getfield 137, 3) := by decide +kernel
theorem dX9_block_10 : decode cX9_block 10 = .ok (.astore_n 3, 1) := by decide +kernel
theorem dX9_block_11 : decode cX9_block 11 = .ok (.aload_n 0, 1) := by decide +kernel
theorem dX9_block_12 : decode cX9_block 12 = .ok (.getfield 53, 3) := by decide +kernel
theorem dX9_block_15 : decode cX9_block 15 = .ok (.iconst 1, 1) := by decide +kernel
theorem dX9_block_16 : decode cX9_block 16 = .ok (.if_icmp .eq 6, 3) := by decide +kernel
theorem dX9_block_19 : decode cX9_block 19 = .ok (.bipush (-3), 2) := by decide +kernel
theorem dX9_block_21 : decode cX9_block 21 = .ok (.ireturn, 1) := by decide +kernel
theorem dX9_item_0 : decode cX9_item 0 = .ok (.aload_n 0, 1) := by decide +kernel
theorem dX9_item_1 : decode cX9_item 1 = .ok (.getfield 29, 3) := by decide +kernel
theorem dX9_item_4 : decode cX9_item 4 = .ok (.getfield 133, 3) := by decide +kernel
theorem dX9_item_7 : decode cX9_item 7 = .ok (.getfield 146, 3) := by decide +kernel
theorem dX9_item_10 : decode cX9_item 10 = .ok (.astore_n 3, 1) := by decide +kernel
theorem dX9_item_11 : decode cX9_item 11 = .ok (.aload_n 0, 1) := by decide +kernel
theorem dX9_item_12 : decode cX9_item 12 = .ok (.getfield 53, 3) := by decide +kernel
theorem dX9_item_15 : decode cX9_item 15 = .ok (.iconst 1, 1) := by decide +kernel
theorem dX9_item_16 : decode cX9_item 16 = .ok (.if_icmp .eq 6, 3) := by decide +kernel
theorem dX9_item_19 : decode cX9_item 19 = .ok (.bipush (-3), 2) := by decide +kernel
theorem dX9_item_21 : decode cX9_item 21 = .ok (.ireturn, 1) := by decide +kernel
theorem dX9_part_0 : decode cX9_part 0 = .ok (.aload_n 0, 1) := by decide +kernel
theorem dX9_part_1 : decode cX9_part 1 = .ok (.getfield 29, 3) := by decide +kernel
theorem dX9_part_4 : decode cX9_part 4 = .ok (.getfield 133, 3) := by decide +kernel
theorem dX9_part_7 : decode cX9_part 7 = .ok (.getfield 146, 3) := by decide +kernel
theorem dX9_part_10 : decode cX9_part 10 = .ok (.astore_n 3, 1) := by decide +kernel
theorem dX9_part_11 : decode cX9_part 11 = .ok (.aload_n 0, 1) := by decide +kernel
theorem dX9_part_12 : decode cX9_part 12 = .ok (.getfield 53, 3) := by decide +kernel
theorem dX9_part_15 : decode cX9_part 15 = .ok (.iconst 1, 1) := by decide +kernel
theorem dX9_part_16 : decode cX9_part 16 = .ok (.if_icmp .eq 6, 3) := by decide +kernel
theorem dX9_part_19 : decode cX9_part 19 = .ok (.bipush (-3), 2) := by decide +kernel
theorem dX9_part_21 : decode cX9_part 21 = .ok (.ireturn, 1) := by decide +kernel
theorem dX9_itemAs_0 : decode cX9_itemAs 0 = .ok (.aload_n 0, 1) := by decide +kernel
theorem dX9_itemAs_1 : decode cX9_itemAs 1 = .ok (.getfield 29, 3) := by decide +kernel
theorem dX9_itemAs_4 : decode cX9_itemAs 4 = .ok (.getfield 133, 3) := by decide +kernel
theorem dX9_itemAs_7 : decode cX9_itemAs 7 = .ok (.getfield 137, 3) := by decide +kernel
theorem dX9_itemAs_10 : decode cX9_itemAs 10 = .ok (.astore 4, 2) := by decide +kernel
theorem dX9_itemAs_12 : decode cX9_itemAs 12 = .ok (.aload_n 0, 1) := by decide +kernel
theorem dX9_itemAs_13 : decode cX9_itemAs 13 = .ok (.getfield 53, 3) := by decide +kernel
theorem dX9_itemAs_16 : decode cX9_itemAs 16 = .ok (.iconst 1, 1) := by decide +kernel
theorem dX9_itemAs_17 : decode cX9_itemAs 17 = .ok (.if_icmp .eq 6, 3) := by decide +kernel
theorem dX9_itemAs_20 : decode cX9_itemAs 20 = .ok (.bipush (-3), 2) := by decide +kernel
theorem dX9_itemAs_22 : decode cX9_itemAs 22 = .ok (.ireturn, 1) := by decide +kernel
theorem dX9_around_0 : decode cX9_around 0 = .ok (.aload_n 0, 1) := by decide +kernel
theorem dX9_around_1 : decode cX9_around 1 = .ok (.getfield 53, 3) := by decide +kernel
theorem dX9_around_4 : decode cX9_around 4 = .ok (.iconst 1, 1) := by decide +kernel
theorem dX9_around_5 : decode cX9_around 5 = .ok (.if_icmp .eq 6, 3) := by decide +kernel
theorem dX9_around_8 : decode cX9_around 8 = .ok (.bipush (-3), 2) := by decide +kernel
theorem dX9_around_10 : decode cX9_around 10 = .ok (.ireturn, 1) := by decide +kernel
theorem dX9_reach_0 : decode cX9_reach 0 = .ok (.aload_n 0, 1) := by decide +kernel
theorem dX9_reach_1 : decode cX9_reach 1 = .ok (.getfield 29, 3) := by decide +kernel
theorem dX9_reach_4 : decode cX9_reach 4 = .ok (.getfield 133, 3) := by decide +kernel
theorem dX9_reach_7 : decode cX9_reach 7 = .ok (.getfield 137, 3) := by decide +kernel
theorem dX9_reach_10 : decode cX9_reach 10 = .ok (.astore 4, 2) := by decide +kernel
theorem dX9_reach_12 : decode cX9_reach 12 = .ok (.aload_n 0, 1) := by decide +kernel
theorem dX9_reach_13 : decode cX9_reach 13 = .ok (.getfield 29, 3) := by decide +kernel
theorem dX9_reach_16 : decode cX9_reach 16 = .ok (.getfield 133, 3) := by decide +kernel
theorem dX9_reach_19 : decode cX9_reach 19 = .ok (.getfield 146, 3) := by decide +kernel
theorem dX9_reach_22 : decode cX9_reach 22 = .ok (.astore 5, 2) := by decide +kernel
theorem dX9_reach_24 : decode cX9_reach 24 = .ok (.aload_n 0, 1) := by decide +kernel
theorem dX9_reach_25 : decode cX9_reach 25 = .ok (.getfield 53, 3) := by decide +kernel
theorem dX9_reach_28 : decode cX9_reach 28 = .ok (.iconst 1, 1) := by decide +kernel
theorem dX9_reach_29 : decode cX9_reach 29 = .ok (.if_icmp .eq 6, 3) := by decide +kernel
theorem dX9_reach_32 : decode cX9_reach 32 = .ok (.bipush (-3), 2) := by decide +kernel
theorem dX9_reach_34 : decode cX9_reach 34 = .ok (.ireturn, 1) := by decide +kernel
theorem dX9_plain_0 : decode cX9_plain 0 = .ok (.aload_n 0, 1) := by decide +kernel
theorem dX9_plain_1 : decode cX9_plain 1 = .ok (.getfield 53, 3) := by decide +kernel
theorem dX9_plain_4 : decode cX9_plain 4 = .ok (.iconst 1, 1) := by decide +kernel
theorem dX9_plain_5 : decode cX9_plain 5 = .ok (.if_icmp .eq 6, 3) := by decide +kernel
theorem dX9_plain_8 : decode cX9_plain 8 = .ok (.bipush (-3), 2) := by decide +kernel
theorem dX9_plain_10 : decode cX9_plain 10 = .ok (.ireturn, 1) := by decide +kernel
theorem dX9_same_0 : decode cX9_same 0 = .ok (.aload_n 0, 1) := by decide +kernel
theorem dX9_same_1 : decode cX9_same 1 = .ok (.getfield 53, 3) := by decide +kernel
theorem dX9_same_4 : decode cX9_same 4 = .ok (.iconst 1, 1) := by decide +kernel
theorem dX9_same_5 : decode cX9_same 5 = .ok (.if_icmp .eq 6, 3) := by decide +kernel
theorem dX9_same_8 : decode cX9_same 8 = .ok (.bipush (-3), 2) := by decide +kernel
theorem dX9_same_10 : decode cX9_same 10 = .ok (.ireturn, 1) := by decide +kernel
theorem dX9_parts_0 : decode cX9_parts 0 = .ok (.aload_n 0, 1) := by decide +kernel
theorem dX9_parts_1 : decode cX9_parts 1 = .ok (.getfield 53, 3) := by decide +kernel
theorem dX9_parts_4 : decode cX9_parts 4 = .ok (.iconst 1, 1) := by decide +kernel
theorem dX9_parts_5 : decode cX9_parts 5 = .ok (.if_icmp .eq 6, 3) := by decide +kernel
theorem dX9_parts_8 : decode cX9_parts 8 = .ok (.bipush (-3), 2) := by decide +kernel
theorem dX9_parts_10 : decode cX9_parts 10 = .ok (.ireturn, 1) := by decide +kernel
theorem dX9_mend_0 : decode cX9_mend 0 = .ok (.aload_n 0, 1) := by decide +kernel
theorem dX9_mend_1 : decode cX9_mend 1 = .ok (.getfield 53, 3) := by decide +kernel
theorem dX9_mend_4 : decode cX9_mend 4 = .ok (.iconst 2, 1) := by decide +kernel
theorem dX9_mend_5 : decode cX9_mend 5 = .ok (.if_icmp .eq 6, 3) := by decide +kernel
theorem dX9_mend_8 : decode cX9_mend 8 = .ok (.bipush (-3), 2) := by decide +kernel
theorem dX9_mend_10 : decode cX9_mend 10 = .ok (.ireturn, 1) := by decide +kernel
theorem dX9_deepen_0 : decode cX9_deepen 0 = .ok (.aload_n 0, 1) := by decide +kernel
theorem dX9_deepen_1 : decode cX9_deepen 1 = .ok (.getfield 53, 3) := by decide +kernel
theorem dX9_deepen_4 : decode cX9_deepen 4 = .ok (.iconst 1, 1) := by decide +kernel
theorem dX9_deepen_5 : decode cX9_deepen 5 = .ok (.if_icmp .eq 6, 3) := by decide +kernel
theorem dX9_deepen_8 : decode cX9_deepen 8 = .ok (.bipush (-3), 2) := by decide +kernel
theorem dX9_deepen_10 : decode cX9_deepen 10 = .ok (.ireturn, 1) := by decide +kernel
theorem dX10_read_0 : decode cX10_read 0 = .ok (.aload_n 0, 1) := by decide +kernel
theorem dX10_read_1 : decode cX10_read 1 = .ok (.aload_n 0, 1) := by decide +kernel
theorem dX10_read_2 : decode cX10_read 2 = .ok (.getfield 29, 3) := by decide +kernel
theorem dX10_read_5 : decode cX10_read 5 = .ok (.aload_n 0, 1) := by decide +kernel
theorem dX10_read_6 : decode cX10_read 6 = .ok (.getfield 219, 3) := by decide +kernel
theorem dX10_read_9 : decode cX10_read 9 = .ok (.invokevirtual 346, 3) := by decide +kernel
theorem dX10_read_12 : decode cX10_read 12 = .ok (.istore_n 1, 1) := by decide +kernel
theorem dX10_read_13 : decode cX10_read 13 = .ok (.aload_n 0, 1) := by decide +kernel
theorem dX10_read_14 : decode cX10_read 14 = .ok (.iload_n 1, 1) := by decide +kernel
theorem dX10_read_15 : decode cX10_read 15 = .ok (.ifCond .eq 7, 3) := by decide +kernel
theorem dX10_read_18 : decode cX10_read 18 = .ok (.iconst 1, 1) := by decide +kernel
theorem dX10_read_19 : decode cX10_read 19 = .ok (.goto 4, 3) := by decide +kernel
theorem dX10_read_23 : decode cX10_read 23 = .ok (.putfield 211, 3) := by decide +kernel
theorem dX10_read_26 : decode cX10_read 26 = .ok (.aload_n 0, 1) := by decide +kernel
theorem dX10_read_27 : decode cX10_read 27 = .ok (.getfield 36, 3) := by decide +kernel
theorem dX10_read_30 : decode cX10_read 30 = .ok (.iconst 0, 1) := by decide +kernel
theorem dX10_read_31 : decode cX10_read 31 = .ok (.aload_n 0, 1) := by decide +kernel
theorem dX10_read_32 : decode cX10_read 32 = .ok (.getfield 245, 3) := by decide +kernel
theorem dX10_read_35 : decode cX10_read 35 = .ok (.iastore, 1) := by decide +kernel
theorem dX10_read_36 : decode cX10_read 36 = .ok (.aload_n 0, 1) := by decide +kernel
theorem dX10_read_37 : decode cX10_read 37 = .ok (.getfield 36, 3) := by decide +kernel
theorem dX10_read_40 : decode cX10_read 40 = .ok (.iconst 1, 1) := by decide +kernel
theorem dX10_read_41 : decode cX10_read 41 = .ok (.aload_n 0, 1) := by decide +kernel
theorem dX10_read_42 : decode cX10_read 42 = .ok (.getfield 248, 3) := by decide +kernel
theorem dX10_read_45 : decode cX10_read 45 = .ok (.iastore, 1) := by decide +kernel
theorem dX10_read_46 : decode cX10_read 46 = .ok (.aload_n 0, 1) := by decide +kernel
theorem dX10_read_47 : decode cX10_read 47 = .ok (.getfield 36, 3) := by decide +kernel
theorem dX10_read_50 : decode cX10_read 50 = .ok (.iconst 2, 1) := by decide +kernel
theorem dX10_read_51 : decode cX10_read 51 = .ok (.iload_n 1, 1) := by decide +kernel
theorem dX10_read_52 : decode cX10_read 52 = .ok (.ifCond .eq 8, 3) := by decide +kernel
theorem dX10_read_55 : decode cX10_read 55 = .ok (.bipush (-9), 2) := by decide +kernel
theorem dX10_read_57 : decode cX10_read 57 = .ok (.goto 12, 3) := by decide +kernel
theorem dX10_read_69 : decode cX10_read 69 = .ok (.iastore, 1) := by decide +kernel
theorem dX10_read_70 : decode cX10_read 70 = .ok (.aload_n 0, 1) := by decide +kernel
theorem dX10_read_71 : decode cX10_read 71 = .ok (.getfield 36, 3) := by decide +kernel
theorem dX10_read_74 : decode cX10_read 74 = .ok (.iconst 3, 1) := by decide +kernel
theorem dX10_read_75 : decode cX10_read 75 = .ok (.iload_n 1, 1) := by decide +kernel
theorem dX10_read_76 : decode cX10_read 76 = .ok (.ifCond .eq 8, 3) := by decide +kernel
theorem dX10_read_79 : decode cX10_read 79 = .ok (.bipush (-9), 2) := by decide +kernel
theorem dX10_read_81 : decode cX10_read 81 = .ok (.goto 12, 3) := by decide +kernel
theorem dX10_read_93 : decode cX10_read 93 = .ok (.iastore, 1) := by decide +kernel
theorem dX10_read_94 : decode cX10_read 94 = .ok (.iload_n 1, 1) := by decide +kernel
theorem dX10_read_95 : decode cX10_read 95 = .ok (.ifCond .eq 10, 3) := by decide +kernel
theorem dX10_read_98 : decode cX10_read 98 = .ok (.aload_n 0, 1) := by decide +kernel
theorem dX10_read_99 : decode cX10_read 99 = .ok (.getfield 258, 3) := by decide +kernel
theorem dX10_read_102 : decode cX10_read 102 = .ok (.goto 10, 3) := by decide +kernel
theorem dX10_read_112 : decode cX10_read 112 = .ok (.ireturn, 1) := by decide +kernel
theorem dX10_readAll_0 : decode cX10_readAll 0 = .ok (.aload_n 0, 1) := by decide +kernel
theorem dX10_readAll_1 : decode cX10_readAll 1 = .ok (.aload_n 1, 1) := by decide +kernel
theorem dX10_readAll_2 : decode cX10_readAll 2 = .ok (.putfield 39, 3) := by decide +kernel
theorem dX10_readAll_5 : decode cX10_readAll 5 = .ok (.aload_n 0, 1) := by decide +kernel
theorem dX10_readAll_6 : decode cX10_readAll 6 = .ok (.iload_n 2, 1) := by decide +kernel
theorem dX10_readAll_7 : decode cX10_readAll 7 = .ok (.putfield 251, 3) := by decide +kernel
theorem dX10_readAll_10 : decode cX10_readAll 10 = .ok (.aload_n 0, 1) := by decide +kernel
theorem dX10_readAll_11 : decode cX10_readAll 11 = .ok (.iconst 0, 1) := by decide +kernel
theorem dX10_readAll_12 : decode cX10_readAll 12 = .ok (.putfield 245, 3) := by decide +kernel
theorem dX10_readAll_15 : decode cX10_readAll 15 = .ok (.aload_n 0, 1) := by decide +kernel
theorem dX10_readAll_16 : decode cX10_readAll 16 = .ok (.bipush (-9), 2) := by decide +kernel
theorem dX10_readAll_18 : decode cX10_readAll 18 = .ok (.putfield 248, 3) := by decide +kernel
theorem dX10_readAll_21 : decode cX10_readAll 21 = .ok (.aload_n 0, 1) := by decide +kernel
theorem dX10_readAll_22 : decode cX10_readAll 22 = .ok (.iconst 0, 1) := by decide +kernel
theorem dX10_readAll_23 : decode cX10_readAll 23 = .ok (.putfield 281, 3) := by decide +kernel
theorem dX10_readAll_26 : decode cX10_readAll 26 = .ok (.aload_n 0, 1) := by decide +kernel
theorem dX10_readAll_27 : decode cX10_readAll 27 = .ok (.iconst 0, 1) := by decide +kernel
theorem dX10_readAll_28 : decode cX10_readAll 28 = .ok (.putfield 287, 3) := by decide +kernel
theorem dX10_readAll_31 : decode cX10_readAll 31 = .ok (.aload_n 0, 1) := by decide +kernel
theorem dX10_readAll_32 : decode cX10_readAll 32 = .ok (.iconst 0, 1) := by decide +kernel
theorem dX10_readAll_33 : decode cX10_readAll 33 = .ok (.putfield 290, 3) := by decide +kernel
theorem dX10_readAll_36 : decode cX10_readAll 36 = .ok (.aload_n 0, 1) := by decide +kernel
theorem dX10_readAll_37 : decode cX10_readAll 37 = .ok (.invokevirtual 330, 3) := by decide +kernel
theorem dX10_readAll_40 : decode cX10_readAll 40 = .ok (.aload_n 0, 1) := by decide +kernel
theorem dX10_readAll_41 : decode cX10_readAll 41 = .ok (.invokevirtual 333, 3) := by decide +kernel
theorem dX10_readAll_44 : decode cX10_readAll 44 = .ok (.ifCond .ne 5, 3) := by decide +kernel
theorem dX10_readAll_49 : decode cX10_readAll 49 = .ok (.aload_n 0, 1) := by decide +kernel
theorem dX10_readAll_50 : decode cX10_readAll 50 = .ok (.getfield 118, 3) := by decide +kernel
theorem dX10_readAll_53 : decode cX10_readAll 53 = .ok (.iconst 0, 1) := by decide +kernel
theorem dX10_readAll_54 : decode cX10_readAll 54 = .ok (.aload_n 0, 1) := by decide +kernel
theorem dX10_readAll_55 : decode cX10_readAll 55 = .ok (.iconst 0, 1) := by decide +kernel
theorem dX10_readAll_56 : decode cX10_readAll 56 = .ok (.iconst 0, 1) := by decide +kernel
theorem dX10_readAll_57 : decode cX10_readAll 57 = .ok (.bipush (-9), 2) := by decide +kernel
theorem dX10_readAll_59 : decode cX10_readAll 59 = .ok (.bipush (-9), 2) := by decide +kernel
theorem dX10_readAll_61 : decode cX10_readAll 61 = .ok (.invokevirtual 299, 3) := by decide +kernel
theorem dX10_readAll_64 : decode cX10_readAll 64 = .ok (.iastore, 1) := by decide +kernel
theorem dX10_readAll_65 : decode cX10_readAll 65 = .ok (.aload_n 0, 1) := by decide +kernel
theorem dX10_readAll_66 : decode cX10_readAll 66 = .ok (.iconst 1, 1) := by decide +kernel
theorem dX10_readAll_67 : decode cX10_readAll 67 = .ok (.putfield 293, 3) := by decide +kernel
theorem dX10_readAll_70 : decode cX10_readAll 70 = .ok (.aload_n 0, 1) := by decide +kernel
theorem dX10_readAll_71 : decode cX10_readAll 71 = .ok (.iconst (-1), 1) := by decide +kernel
theorem dX10_readAll_72 : decode cX10_readAll 72 = .ok (.putfield 313, 3) := by decide +kernel
theorem dX10_readAll_75 : decode cX10_readAll 75 = .ok (.iconst 0, 1) := by decide +kernel
theorem dX10_readAll_76 : decode cX10_readAll 76 = .ok (.istore_n 3, 1) := by decide +kernel
theorem dX10_readAll_77 : decode cX10_readAll 77 = .ok (.iconst 0, 1) := by decide +kernel
theorem dX10_readAll_78 : decode cX10_readAll 78 = .ok (.istore 4, 2) := by decide +kernel
theorem dX10_readAll_80 : decode cX10_readAll 80 = .ok (.iload 4, 2) := by decide +kernel
theorem dX10_readAll_82 : decode cX10_readAll 82 = .ok (.aload_n 0, 1) := by decide +kernel
theorem dX10_readAll_83 : decode cX10_readAll 83 = .ok (.getfield 258, 3) := by decide +kernel
theorem dX10_readAll_86 : decode cX10_readAll 86 = .ok (.if_icmp .ge 130, 3) := by decide +kernel
theorem dX10_readAll_216 : decode cX10_readAll 216 = .ok (.aload_n 0, 1) := by decide +kernel
theorem dX10_readAll_217 : decode cX10_readAll 217 = .ok (.getfield 245, 3) := by decide +kernel
theorem dX10_readAll_220 : decode cX10_readAll 220 = .ok (.ifCond .ne 18, 3) := by decide +kernel
theorem dX10_readAll_223 : decode cX10_readAll 223 = .ok (.iload_n 3, 1) := by decide +kernel
theorem dX10_readAll_224 : decode cX10_readAll 224 = .ok (.iconst 1, 1) := by decide +kernel
theorem dX10_readAll_225 : decode cX10_readAll 225 = .ok (.if_icmp .ne 13, 3) := by decide +kernel
theorem dX10_readAll_238 : decode cX10_readAll 238 = .ok (.aload_n 0, 1) := by decide +kernel
theorem dX10_readAll_239 : decode cX10_readAll 239 = .ok (.getfield 245, 3) := by decide +kernel
theorem dX10_readAll_242 : decode cX10_readAll 242 = .ok (.ifCond .ne 31, 3) := by decide +kernel
theorem dX10_readAll_245 : decode cX10_readAll 245 = .ok (.iload_n 3, 1) := by decide +kernel
theorem dX10_readAll_246 : decode cX10_readAll 246 = .ok (.ifCond .le 27, 3) := by decide +kernel
theorem dX10_readAll_273 : decode cX10_readAll 273 = .ok (.iconst 0, 1) := by decide +kernel
theorem dX10_readAll_274 : decode cX10_readAll 274 = .ok (.istore 4, 2) := by decide +kernel
theorem dX10_readAll_276 : decode cX10_readAll 276 = .ok (.iload 4, 2) := by decide +kernel
theorem dX10_readAll_278 : decode cX10_readAll 278 = .ok (.aload_n 0, 1) := by decide +kernel
theorem dX10_readAll_279 : decode cX10_readAll 279 = .ok (.getfield 293, 3) := by decide +kernel
theorem dX10_readAll_282 : decode cX10_readAll 282 = .ok (.if_icmp .ge 56, 3) := by decide +kernel
theorem dX10_readAll_285 : decode cX10_readAll 285 = .ok (.aload_n 0, 1) := by decide +kernel
theorem dX10_readAll_286 : decode cX10_readAll 286 = .ok (.getfield 245, 3) := by decide +kernel
theorem dX10_readAll_289 : decode cX10_readAll 289 = .ok (.ifCond .ne 49, 3) := by decide +kernel
theorem dX10_readAll_292 : decode cX10_readAll 292 = .ok (.aload_n 0, 1) := by decide +kernel
theorem dX10_readAll_293 : decode cX10_readAll 293 = .ok (.getfield 73, 3) := by decide +kernel
theorem dX10_readAll_296 : decode cX10_readAll 296 = .ok (.aload_n 0, 1) := by decide +kernel
theorem dX10_readAll_297 : decode cX10_readAll 297 = .ok (.getfield 118, 3) := by decide +kernel
theorem dX10_readAll_300 : decode cX10_readAll 300 = .ok (.iload 4, 2) := by decide +kernel
theorem dX10_readAll_302 : decode cX10_readAll 302 = .ok (.iaload, 1) := by decide +kernel
theorem dX10_readAll_303 : decode cX10_readAll 303 = .ok (.iaload, 1) := by decide +kernel
theorem dX10_readAll_304 : decode cX10_readAll 304 = .ok (.iconst 4, 1) := by decide +kernel
theorem dX10_readAll_305 : decode cX10_readAll 305 = .ok (.if_icmp .ne 27, 3) := by decide +kernel
theorem dX10_readAll_332 : decode cX10_readAll 332 = .ok (.iinc 4 1, 3) := by decide +kernel
theorem dX10_readAll_335 : decode cX10_readAll 335 = .ok (.goto (-59), 3) := by decide +kernel
theorem dX10_readAll_338 : decode cX10_readAll 338 = .ok (.aload_n 0, 1) := by decide +kernel
theorem dX10_readAll_339 : decode cX10_readAll 339 = .ok (.getfield 245, 3) := by decide +kernel
theorem dX10_readAll_342 : decode cX10_readAll 342 = .ok (.ifCond .ne 7, 3) := by decide +kernel
theorem dX10_readAll_345 : decode cX10_readAll 345 = .ok (.iconst 1, 1) := by decide +kernel
theorem dX10_readAll_346 : decode cX10_readAll 346 = .ok (.goto 4, 3) := by decide +kernel
theorem dX10_readAll_350 : decode cX10_readAll 350 = .ok (.ireturn, 1) := by decide +kernel
theorem dX10_measure_0 : decode cX10_measure 0 = .ok (.iconst 0, 1) := by decide +kernel
theorem dX10_measure_1 : decode cX10_measure 1 = .ok (.istore_n 1, 1) := by decide +kernel
theorem dX10_measure_2 : decode cX10_measure 2 = .ok (.iconst 0, 1) := by decide +kernel
theorem dX10_measure_3 : decode cX10_measure 3 = .ok (.istore_n 2, 1) := by decide +kernel
theorem dX10_measure_4 : decode cX10_measure 4 = .ok (.iconst 0, 1) := by decide +kernel
theorem dX10_measure_5 : decode cX10_measure 5 = .ok (.istore_n 3, 1) := by decide +kernel
theorem dX10_measure_6 : decode cX10_measure 6 = .ok (.iload_n 3, 1) := by decide +kernel
theorem dX10_measure_7 : decode cX10_measure 7 = .ok (.aload_n 0, 1) := by decide +kernel
theorem dX10_measure_8 : decode cX10_measure 8 = .ok (.getfield 251, 3) := by decide +kernel
theorem dX10_measure_11 : decode cX10_measure 11 = .ok (.if_icmp .gt 96, 3) := by decide +kernel
theorem dX10_measure_14 : decode cX10_measure 14 = .ok (.aload_n 0, 1) := by decide +kernel
theorem dX10_measure_15 : decode cX10_measure 15 = .ok (.getfield 67, 3) := by decide +kernel
theorem dX10_measure_18 : decode cX10_measure 18 = .ok (.iload_n 3, 1) := by decide +kernel
theorem dX10_measure_19 : decode cX10_measure 19 = .ok (.iload_n 1, 1) := by decide +kernel
theorem dX10_measure_20 : decode cX10_measure 20 = .ok (.iastore, 1) := by decide +kernel
theorem dX10_measure_21 : decode cX10_measure 21 = .ok (.aload_n 0, 1) := by decide +kernel
theorem dX10_measure_22 : decode cX10_measure 22 = .ok (.getfield 70, 3) := by decide +kernel
theorem dX10_measure_25 : decode cX10_measure 25 = .ok (.iload_n 3, 1) := by decide +kernel
theorem dX10_measure_26 : decode cX10_measure 26 = .ok (.iload_n 2, 1) := by decide +kernel
theorem dX10_measure_27 : decode cX10_measure 27 = .ok (.iastore, 1) := by decide +kernel
theorem dX10_measure_28 : decode cX10_measure 28 = .ok (.iload_n 3, 1) := by decide +kernel
theorem dX10_measure_29 : decode cX10_measure 29 = .ok (.aload_n 0, 1) := by decide +kernel
theorem dX10_measure_30 : decode cX10_measure 30 = .ok (.getfield 251, 3) := by decide +kernel
theorem dX10_measure_33 : decode cX10_measure 33 = .ok (.if_icmp .ge 22, 3) := by decide +kernel
theorem dX10_measure_55 : decode cX10_measure 55 = .ok (.iload_n 3, 1) := by decide +kernel
theorem dX10_measure_56 : decode cX10_measure 56 = .ok (.aload_n 0, 1) := by decide +kernel
theorem dX10_measure_57 : decode cX10_measure 57 = .ok (.getfield 251, 3) := by decide +kernel
theorem dX10_measure_60 : decode cX10_measure 60 = .ok (.if_icmp .ge 37, 3) := by decide +kernel
theorem dX10_measure_97 : decode cX10_measure 97 = .ok (.iload_n 2, 1) := by decide +kernel
theorem dX10_measure_98 : decode cX10_measure 98 = .ok (.iconst 1, 1) := by decide +kernel
theorem dX10_measure_99 : decode cX10_measure 99 = .ok (.iadd, 1) := by decide +kernel
theorem dX10_measure_100 : decode cX10_measure 100 = .ok (.istore_n 2, 1) := by decide +kernel
theorem dX10_measure_101 : decode cX10_measure 101 = .ok (.iinc 3 1, 3) := by decide +kernel
theorem dX10_measure_104 : decode cX10_measure 104 = .ok (.goto (-98), 3) := by decide +kernel
theorem dX10_measure_107 : decode cX10_measure 107 = .ok (.return_, 1) := by decide +kernel
theorem dX10_cutUp_0 : decode cX10_cutUp 0 = .ok (.aload_n 0, 1) := by decide +kernel
theorem dX10_cutUp_1 : decode cX10_cutUp 1 = .ok (.iconst 0, 1) := by decide +kernel
theorem dX10_cutUp_2 : decode cX10_cutUp 2 = .ok (.putfield 258, 3) := by decide +kernel
theorem dX10_cutUp_5 : decode cX10_cutUp 5 = .ok (.iconst 1, 1) := by decide +kernel
theorem dX10_cutUp_6 : decode cX10_cutUp 6 = .ok (.istore_n 1, 1) := by decide +kernel
theorem dX10_cutUp_7 : decode cX10_cutUp 7 = .ok (.iconst 0, 1) := by decide +kernel
theorem dX10_cutUp_8 : decode cX10_cutUp 8 = .ok (.istore_n 2, 1) := by decide +kernel
theorem dX10_cutUp_9 : decode cX10_cutUp 9 = .ok (.iload_n 2, 1) := by decide +kernel
theorem dX10_cutUp_10 : decode cX10_cutUp 10 = .ok (.aload_n 0, 1) := by decide +kernel
theorem dX10_cutUp_11 : decode cX10_cutUp 11 = .ok (.getfield 251, 3) := by decide +kernel
theorem dX10_cutUp_14 : decode cX10_cutUp 14 = .ok (.if_icmp .ge 108, 3) := by decide +kernel
theorem dX10_cutUp_122 : decode cX10_cutUp 122 = .ok (.iconst 1, 1) := by decide +kernel
theorem dX10_cutUp_123 : decode cX10_cutUp 123 = .ok (.ireturn, 1) := by decide +kernel
theorem dX10_newBlock_0 : decode cX10_newBlock 0 = .ok (.aload_n 0, 1) := by decide +kernel
theorem dX10_newBlock_1 : decode cX10_newBlock 1 = .ok (.getfield 281, 3) := by decide +kernel
theorem dX10_newBlock_4 : decode cX10_newBlock 4 = .ok (.istore 5, 2) := by decide +kernel
theorem dX10_newBlock_6 : decode cX10_newBlock 6 = .ok (.aload_n 0, 1) := by decide +kernel
theorem dX10_newBlock_7 : decode cX10_newBlock 7 = .ok (.dup, 1) := by decide +kernel
theorem dX10_newBlock_8 : decode cX10_newBlock 8 = .ok (.getfield 281, 3) := by decide +kernel
theorem dX10_newBlock_11 : decode cX10_newBlock 11 = .ok (.iconst 1, 1) := by decide +kernel
theorem dX10_newBlock_12 : decode cX10_newBlock 12 = .ok (.iadd, 1) := by decide +kernel
theorem dX10_newBlock_13 : decode cX10_newBlock 13 = .ok (.putfield 281, 3) := by decide +kernel
theorem dX10_newBlock_16 : decode cX10_newBlock 16 = .ok (.aload_n 0, 1) := by decide +kernel
theorem dX10_newBlock_17 : decode cX10_newBlock 17 = .ok (.getfield 73, 3) := by decide +kernel
theorem dX10_newBlock_20 : decode cX10_newBlock 20 = .ok (.iload 5, 2) := by decide +kernel
theorem dX10_newBlock_22 : decode cX10_newBlock 22 = .ok (.iload_n 1, 1) := by decide +kernel
theorem dX10_newBlock_23 : decode cX10_newBlock 23 = .ok (.iastore, 1) := by decide +kernel
theorem dX10_newBlock_24 : decode cX10_newBlock 24 = .ok (.aload_n 0, 1) := by decide +kernel
theorem dX10_newBlock_25 : decode cX10_newBlock 25 = .ok (.getfield 76, 3) := by decide +kernel
theorem dX10_newBlock_28 : decode cX10_newBlock 28 = .ok (.iload 5, 2) := by decide +kernel
theorem dX10_newBlock_30 : decode cX10_newBlock 30 = .ok (.iload_n 2, 1) := by decide +kernel
theorem dX10_newBlock_31 : decode cX10_newBlock 31 = .ok (.iastore, 1) := by decide +kernel
theorem dX10_newBlock_32 : decode cX10_newBlock 32 = .ok (.aload_n 0, 1) := by decide +kernel
theorem dX10_newBlock_33 : decode cX10_newBlock 33 = .ok (.getfield 79, 3) := by decide +kernel
theorem dX10_newBlock_36 : decode cX10_newBlock 36 = .ok (.iload 5, 2) := by decide +kernel
theorem dX10_newBlock_38 : decode cX10_newBlock 38 = .ok (.iload_n 3, 1) := by decide +kernel
theorem dX10_newBlock_39 : decode cX10_newBlock 39 = .ok (.iastore, 1) := by decide +kernel
theorem dX10_newBlock_40 : decode cX10_newBlock 40 = .ok (.aload_n 0, 1) := by decide +kernel
theorem dX10_newBlock_41 : decode cX10_newBlock 41 = .ok (.getfield 82, 3) := by decide +kernel
theorem dX10_newBlock_44 : decode cX10_newBlock 44 = .ok (.iload 5, 2) := by decide +kernel
theorem dX10_newBlock_46 : decode cX10_newBlock 46 = .ok (.iload 4, 2) := by decide +kernel
theorem dX10_newBlock_48 : decode cX10_newBlock 48 = .ok (.iastore, 1) := by decide +kernel
theorem dX10_newBlock_49 : decode cX10_newBlock 49 = .ok (.aload_n 0, 1) := by decide +kernel
theorem dX10_newBlock_50 : decode cX10_newBlock 50 = .ok (.getfield 85, 3) := by decide +kernel
theorem dX10_newBlock_53 : decode cX10_newBlock 53 = .ok (.iload 5, 2) := by decide +kernel
theorem dX10_newBlock_55 : decode cX10_newBlock 55 = .ok (.iconst 0, 1) := by decide +kernel
theorem dX10_newBlock_56 : decode cX10_newBlock 56 = .ok (.iastore, 1) := by decide +kernel
theorem dX10_newBlock_57 : decode cX10_newBlock 57 = .ok (.aload_n 0, 1) := by decide +kernel
theorem dX10_newBlock_58 : decode cX10_newBlock 58 = .ok (.getfield 88, 3) := by decide +kernel
theorem dX10_newBlock_61 : decode cX10_newBlock 61 = .ok (.iload 5, 2) := by decide +kernel
theorem dX10_newBlock_63 : decode cX10_newBlock 63 = .ok (.bipush (-9), 2) := by decide +kernel
theorem dX10_newBlock_65 : decode cX10_newBlock 65 = .ok (.iastore, 1) := by decide +kernel
theorem dX10_newBlock_66 : decode cX10_newBlock 66 = .ok (.aload_n 0, 1) := by decide +kernel
theorem dX10_newBlock_67 : decode cX10_newBlock 67 = .ok (.getfield 91, 3) := by decide +kernel
theorem dX10_newBlock_70 : decode cX10_newBlock 70 = .ok (.iload 5, 2) := by decide +kernel
theorem dX10_newBlock_72 : decode cX10_newBlock 72 = .ok (.bipush (-9), 2) := by decide +kernel
theorem dX10_newBlock_74 : decode cX10_newBlock 74 = .ok (.iastore, 1) := by decide +kernel
theorem dX10_newBlock_75 : decode cX10_newBlock 75 = .ok (.iload_n 3, 1) := by decide +kernel
theorem dX10_newBlock_76 : decode cX10_newBlock 76 = .ok (.bipush (-9), 2) := by decide +kernel
theorem dX10_newBlock_78 : decode cX10_newBlock 78 = .ok (.if_icmp .eq 13, 3) := by decide +kernel
theorem dX10_newBlock_91 : decode cX10_newBlock 91 = .ok (.iload 5, 2) := by decide +kernel
theorem dX10_newBlock_93 : decode cX10_newBlock 93 = .ok (.ireturn, 1) := by decide +kernel
theorem dX10_token_0 : decode cX10_token 0 = .ok (.aload_n 0, 1) := by decide +kernel
theorem dX10_token_1 : decode cX10_token 1 = .ok (.getfield 211, 3) := by decide +kernel
theorem dX10_token_4 : decode cX10_token 4 = .ok (.iconst 1, 1) := by decide +kernel
theorem dX10_token_5 : decode cX10_token 5 = .ok (.if_icmp .eq 6, 3) := by decide +kernel
theorem dX10_token_8 : decode cX10_token 8 = .ok (.bipush (-3), 2) := by decide +kernel
theorem dX10_token_10 : decode cX10_token 10 = .ok (.ireturn, 1) := by decide +kernel
theorem dX10_block_0 : decode cX10_block 0 = .ok (.aload_n 0, 1) := by decide +kernel
theorem dX10_block_1 : decode cX10_block 1 = .ok (.getfield 211, 3) := by decide +kernel
theorem dX10_block_4 : decode cX10_block 4 = .ok (.iconst 1, 1) := by decide +kernel
theorem dX10_block_5 : decode cX10_block 5 = .ok (.if_icmp .eq 6, 3) := by decide +kernel
theorem dX10_block_8 : decode cX10_block 8 = .ok (.bipush (-3), 2) := by decide +kernel
theorem dX10_block_10 : decode cX10_block 10 = .ok (.ireturn, 1) := by decide +kernel
theorem dX10_item_0 : decode cX10_item 0 = .ok (.aload_n 0, 1) := by decide +kernel
theorem dX10_item_1 : decode cX10_item 1 = .ok (.getfield 211, 3) := by decide +kernel
theorem dX10_item_4 : decode cX10_item 4 = .ok (.iconst 1, 1) := by decide +kernel
theorem dX10_item_5 : decode cX10_item 5 = .ok (.if_icmp .eq 6, 3) := by decide +kernel
theorem dX10_item_8 : decode cX10_item 8 = .ok (.bipush (-3), 2) := by decide +kernel
theorem dX10_item_10 : decode cX10_item 10 = .ok (.ireturn, 1) := by decide +kernel
theorem dX10_part_0 : decode cX10_part 0 = .ok (.aload_n 0, 1) := by decide +kernel
theorem dX10_part_1 : decode cX10_part 1 = .ok (.getfield 211, 3) := by decide +kernel
theorem dX10_part_4 : decode cX10_part 4 = .ok (.iconst 1, 1) := by decide +kernel
theorem dX10_part_5 : decode cX10_part 5 = .ok (.if_icmp .eq 6, 3) := by decide +kernel
theorem dX10_part_8 : decode cX10_part 8 = .ok (.bipush (-3), 2) := by decide +kernel
theorem dX10_part_10 : decode cX10_part 10 = .ok (.ireturn, 1) := by decide +kernel
theorem dX10_itemAs_0 : decode cX10_itemAs 0 = .ok (.aload_n 0, 1) := by decide +kernel
theorem dX10_itemAs_1 : decode cX10_itemAs 1 = .ok (.getfield 211, 3) := by decide +kernel
theorem dX10_itemAs_4 : decode cX10_itemAs 4 = .ok (.iconst 1, 1) := by decide +kernel
theorem dX10_itemAs_5 : decode cX10_itemAs 5 = .ok (.if_icmp .eq 6, 3) := by decide +kernel
theorem dX10_itemAs_8 : decode cX10_itemAs 8 = .ok (.bipush (-3), 2) := by decide +kernel
theorem dX10_itemAs_10 : decode cX10_itemAs 10 = .ok (.ireturn, 1) := by decide +kernel
theorem dX10_around_0 : decode cX10_around 0 = .ok (.aload_n 0, 1) := by decide +kernel
theorem dX10_around_1 : decode cX10_around 1 = .ok (.getfield 211, 3) := by decide +kernel
theorem dX10_around_4 : decode cX10_around 4 = .ok (.iconst 1, 1) := by decide +kernel
theorem dX10_around_5 : decode cX10_around 5 = .ok (.if_icmp .eq 6, 3) := by decide +kernel
theorem dX10_around_8 : decode cX10_around 8 = .ok (.bipush (-3), 2) := by decide +kernel
theorem dX10_around_10 : decode cX10_around 10 = .ok (.ireturn, 1) := by decide +kernel
theorem dX10_reach_0 : decode cX10_reach 0 = .ok (.aload_n 0, 1) := by decide +kernel
theorem dX10_reach_1 : decode cX10_reach 1 = .ok (.getfield 211, 3) := by decide +kernel
theorem dX10_reach_4 : decode cX10_reach 4 = .ok (.iconst 1, 1) := by decide +kernel
theorem dX10_reach_5 : decode cX10_reach 5 = .ok (.if_icmp .eq 6, 3) := by decide +kernel
theorem dX10_reach_8 : decode cX10_reach 8 = .ok (.bipush (-3), 2) := by decide +kernel
theorem dX10_reach_10 : decode cX10_reach 10 = .ok (.ireturn, 1) := by decide +kernel
theorem dX10_plain_0 : decode cX10_plain 0 = .ok (.aload_n 0, 1) := by decide +kernel
theorem dX10_plain_1 : decode cX10_plain 1 = .ok (.getfield 211, 3) := by decide +kernel
theorem dX10_plain_4 : decode cX10_plain 4 = .ok (.iconst 1, 1) := by decide +kernel
theorem dX10_plain_5 : decode cX10_plain 5 = .ok (.if_icmp .eq 6, 3) := by decide +kernel
theorem dX10_plain_8 : decode cX10_plain 8 = .ok (.bipush (-3), 2) := by decide +kernel
theorem dX10_plain_10 : decode cX10_plain 10 = .ok (.ireturn, 1) := by decide +kernel
theorem dX10_same_0 : decode cX10_same 0 = .ok (.aload_n 0, 1) := by decide +kernel
theorem dX10_same_1 : decode cX10_same 1 = .ok (.getfield 211, 3) := by decide +kernel
theorem dX10_same_4 : decode cX10_same 4 = .ok (.iconst 1, 1) := by decide +kernel
theorem dX10_same_5 : decode cX10_same 5 = .ok (.if_icmp .ne 10, 3) := by decide +kernel
theorem dX10_same_15 : decode cX10_same 15 = .ok (.bipush (-3), 2) := by decide +kernel
theorem dX10_same_17 : decode cX10_same 17 = .ok (.ireturn, 1) := by decide +kernel
theorem dX10_parts_0 : decode cX10_parts 0 = .ok (.aload_n 0, 1) := by decide +kernel
theorem dX10_parts_1 : decode cX10_parts 1 = .ok (.getfield 211, 3) := by decide +kernel
theorem dX10_parts_4 : decode cX10_parts 4 = .ok (.iconst 1, 1) := by decide +kernel
theorem dX10_parts_5 : decode cX10_parts 5 = .ok (.if_icmp .ne 10, 3) := by decide +kernel
theorem dX10_parts_15 : decode cX10_parts 15 = .ok (.bipush (-3), 2) := by decide +kernel
theorem dX10_parts_17 : decode cX10_parts 17 = .ok (.goto 7, 3) := by decide +kernel
theorem dX10_parts_24 : decode cX10_parts 24 = .ok (.ireturn, 1) := by decide +kernel
theorem dX10_mend_0 : decode cX10_mend 0 = .ok (.aload_n 0, 1) := by decide +kernel
theorem dX10_mend_1 : decode cX10_mend 1 = .ok (.getfield 211, 3) := by decide +kernel
theorem dX10_mend_4 : decode cX10_mend 4 = .ok (.iconst 2, 1) := by decide +kernel
theorem dX10_mend_5 : decode cX10_mend 5 = .ok (.if_icmp .eq 6, 3) := by decide +kernel
theorem dX10_mend_8 : decode cX10_mend 8 = .ok (.bipush (-3), 2) := by decide +kernel
theorem dX10_mend_10 : decode cX10_mend 10 = .ok (.ireturn, 1) := by decide +kernel
theorem dX10_deepen_0 : decode cX10_deepen 0 = .ok (.aload_n 0, 1) := by decide +kernel
theorem dX10_deepen_1 : decode cX10_deepen 1 = .ok (.getfield 211, 3) := by decide +kernel
theorem dX10_deepen_4 : decode cX10_deepen 4 = .ok (.iconst 1, 1) := by decide +kernel
theorem dX10_deepen_5 : decode cX10_deepen 5 = .ok (.if_icmp .eq 6, 3) := by decide +kernel
theorem dX10_deepen_8 : decode cX10_deepen 8 = .ok (.bipush (-3), 2) := by decide +kernel
theorem dX10_deepen_10 : decode cX10_deepen 10 = .ok (.ireturn, 1) := by decide +kernel
set_option maxHeartbeats 4000000 in
set_option maxRecDepth 100000 in
theorem a3_X6_firstPlaceOf (l : Launch) (D : va_G) (tA : Nat → ClassId) (b : Nat) (i F : Nat → Nat → Int32) (G : Nat → Nat → Int64)  (hi_4_1 : i 4 1 = 0) : xMI l yX6_firstPlaceOf cX6_firstPlaceOf 3 (some .int) 0 0 D tA b 0 78 i F G [.ref (b + 4), .int 9] (fun r u => u = (i, F, G) ∧ r = (-9)) := by
  refine xstart RX6 rfl (by decide) (Nat.le_of_ble_eq_true rfl) ?_
  intro p e s m below meth c ls C0 hr hH hS hl
  have hl : lv_has ls 3 [(0, .ref (b + 4)), (1, .int 9)] := hl
  refine lv_iconst (pc := 0) (v := 0) C0.1 C0.2.1 dX6_firstPlaceOf_0 (by decide) ?_
  refine lv_istore_n (pc := 1) (lv' := [(2, .int 0), (0, .ref (b + 4)), (1, .int 9)]) C0.1 C0.2.1 dX6_firstPlaceOf_1 rfl hl (by decide) rfl (fun ls hl => ?_)
  refine lv_iload_n (pc := 2) C0.1 C0.2.1 dX6_firstPlaceOf_2 rfl (lv_at hl 0 rfl) ?_
  refine lv_aload_n (pc := 3) C0.1 C0.2.1 dX6_firstPlaceOf_3 rfl (lv_at hl 1 rfl) ?_
  refine xget (pc := 4) C0 hH 4 1 clX6 ⟨Nat.le_of_ble_eq_true rfl, Nat.le_of_ble_eq_true rfl⟩ ⟨rfl, rfl⟩ (Nat.le_of_ble_eq_true rfl) fl_X6_15 (v := .int 0) (congrArg Value.int hi_4_1) dX6_firstPlaceOf_4 ?_
  refine lv_icmp_ge (pc := 7) (tgt := 27) C0.1 C0.2.1 dX6_firstPlaceOf_7 (by decide) (fun _ => ?_) (fun c => absurd (by decide) c)
  refine lv_bipush (pc := 27) (v := (-9)) C0.1 C0.2.1 dX6_firstPlaceOf_27 (by decide) ?_
  exact xiret (pc := 29) C0 hr hH hS dX6_firstPlaceOf_29 ⟨rfl, rfl⟩
set_option maxHeartbeats 4000000 in
set_option maxRecDepth 100000 in
theorem a2_X7_scan (l : Launch) (D : va_G) (tA : Nat → ClassId) (b : Nat) (i F : Nat → Nat → Int32) (G : Nat → Nat → Int64)  (hi_4_1 : i 4 1 = 0) (hi_1_7 : i 1 7 = 0) : xMV l yX7_scan cX7_scan 4 none 1 22 D tA b 0 78 i F G [.ref (b + 9), .ref (b + 4), .ref (b + 1)] (fun u => u = ((up2 (up2 (up2 (up2 (up2 (up2 (up2 i 9 7 0) 9 8 0) 9 9 (-9)) 9 10 0) 9 11 0) 9 12 0) 9 13 1), F, G)) := by
  refine xstart RX7 rfl (by decide) (Nat.le_of_ble_eq_true rfl) ?_
  intro p e s m below meth c ls C0 hr hH hS hl
  have hl : lv_has ls 4 [(0, .ref (b + 9)), (1, .ref (b + 4)), (2, .ref (b + 1))] := hl
  refine lv_aload_n (pc := 0) C0.1 C0.2.1 dX7_scan_0 rfl (lv_at hl 0 rfl) ?_
  refine lv_iconst (pc := 1) (v := 0) C0.1 C0.2.1 dX7_scan_1 (by decide) ?_
  refine xputI (pc := 2) C0 (Nat.le_of_ble_eq_true rfl) hH hS 9 7 clX7 ⟨Nat.le_of_ble_eq_true rfl, Nat.le_of_ble_eq_true rfl⟩ ⟨rfl, rfl⟩ ⟨Nat.le_of_ble_eq_true rfl, rfl, rfl⟩ fl_X7_34 (x := 0) ⟨rfl, rfl⟩ dX7_scan_2 (fun _ locs hH hS _ => ?_)
  have hH : Hd D tA b 0 78 zz (up2 i 9 7 0) F G _ := hH
  refine lv_aload_n (pc := 5) C0.1 C0.2.1 dX7_scan_5 rfl (lv_at hl 0 rfl) ?_
  refine lv_iconst (pc := 6) (v := 0) C0.1 C0.2.1 dX7_scan_6 (by decide) ?_
  refine xputI (pc := 7) C0 (Nat.le_of_ble_eq_true rfl) hH hS 9 8 clX7 ⟨Nat.le_of_ble_eq_true rfl, Nat.le_of_ble_eq_true rfl⟩ ⟨rfl, rfl⟩ ⟨Nat.le_of_ble_eq_true rfl, rfl, rfl⟩ fl_X7_38 (x := 0) ⟨rfl, rfl⟩ dX7_scan_7 (fun _ locs hH hS _ => ?_)
  have hH : Hd D tA b 0 78 zz (up2 (up2 i 9 7 0) 9 8 0) F G _ := hH
  refine lv_aload_n (pc := 10) C0.1 C0.2.1 dX7_scan_10 rfl (lv_at hl 0 rfl) ?_
  refine lv_bipush (pc := 11) (v := (-9)) C0.1 C0.2.1 dX7_scan_11 (by decide) ?_
  refine xputI (pc := 13) C0 (Nat.le_of_ble_eq_true rfl) hH hS 9 9 clX7 ⟨Nat.le_of_ble_eq_true rfl, Nat.le_of_ble_eq_true rfl⟩ ⟨rfl, rfl⟩ ⟨Nat.le_of_ble_eq_true rfl, rfl, rfl⟩ fl_X7_41 (x := (-9)) ⟨rfl, rfl⟩ dX7_scan_13 (fun _ locs hH hS _ => ?_)
  have hH : Hd D tA b 0 78 zz (up2 (up2 (up2 i 9 7 0) 9 8 0) 9 9 (-9)) F G _ := hH
  refine lv_aload_n (pc := 16) C0.1 C0.2.1 dX7_scan_16 rfl (lv_at hl 0 rfl) ?_
  refine lv_iconst (pc := 17) (v := 0) C0.1 C0.2.1 dX7_scan_17 (by decide) ?_
  refine xputI (pc := 18) C0 (Nat.le_of_ble_eq_true rfl) hH hS 9 10 clX7 ⟨Nat.le_of_ble_eq_true rfl, Nat.le_of_ble_eq_true rfl⟩ ⟨rfl, rfl⟩ ⟨Nat.le_of_ble_eq_true rfl, rfl, rfl⟩ fl_X7_44 (x := 0) ⟨rfl, rfl⟩ dX7_scan_18 (fun _ locs hH hS _ => ?_)
  have hH : Hd D tA b 0 78 zz (up2 (up2 (up2 (up2 i 9 7 0) 9 8 0) 9 9 (-9)) 9 10 0) F G _ := hH
  refine lv_aload_n (pc := 21) C0.1 C0.2.1 dX7_scan_21 rfl (lv_at hl 0 rfl) ?_
  refine lv_iconst (pc := 22) (v := 0) C0.1 C0.2.1 dX7_scan_22 (by decide) ?_
  refine xputI (pc := 23) C0 (Nat.le_of_ble_eq_true rfl) hH hS 9 11 clX7 ⟨Nat.le_of_ble_eq_true rfl, Nat.le_of_ble_eq_true rfl⟩ ⟨rfl, rfl⟩ ⟨Nat.le_of_ble_eq_true rfl, rfl, rfl⟩ fl_X7_47 (x := 0) ⟨rfl, rfl⟩ dX7_scan_23 (fun _ locs hH hS _ => ?_)
  have hH : Hd D tA b 0 78 zz (up2 (up2 (up2 (up2 (up2 i 9 7 0) 9 8 0) 9 9 (-9)) 9 10 0) 9 11 0) F G _ := hH
  refine lv_aload_n (pc := 26) C0.1 C0.2.1 dX7_scan_26 rfl (lv_at hl 0 rfl) ?_
  refine lv_iconst (pc := 27) (v := 0) C0.1 C0.2.1 dX7_scan_27 (by decide) ?_
  refine xputI (pc := 28) C0 (Nat.le_of_ble_eq_true rfl) hH hS 9 12 clX7 ⟨Nat.le_of_ble_eq_true rfl, Nat.le_of_ble_eq_true rfl⟩ ⟨rfl, rfl⟩ ⟨Nat.le_of_ble_eq_true rfl, rfl, rfl⟩ fl_X7_50 (x := 0) ⟨rfl, rfl⟩ dX7_scan_28 (fun _ locs hH hS _ => ?_)
  have hH : Hd D tA b 0 78 zz (up2 (up2 (up2 (up2 (up2 (up2 i 9 7 0) 9 8 0) 9 9 (-9)) 9 10 0) 9 11 0) 9 12 0) F G _ := hH
  refine lv_aload_n (pc := 31) C0.1 C0.2.1 dX7_scan_31 rfl (lv_at hl 0 rfl) ?_
  refine lv_iconst (pc := 32) (v := 1) C0.1 C0.2.1 dX7_scan_32 (by decide) ?_
  refine xputI (pc := 33) C0 (Nat.le_of_ble_eq_true rfl) hH hS 9 13 clX7 ⟨Nat.le_of_ble_eq_true rfl, Nat.le_of_ble_eq_true rfl⟩ ⟨rfl, rfl⟩ ⟨Nat.le_of_ble_eq_true rfl, rfl, rfl⟩ fl_X7_53 (x := 1) ⟨rfl, rfl⟩ dX7_scan_33 (fun _ locs hH hS _ => ?_)
  have hH : Hd D tA b 0 78 zz (up2 (up2 (up2 (up2 (up2 (up2 (up2 i 9 7 0) 9 8 0) 9 9 (-9)) 9 10 0) 9 11 0) 9 12 0) 9 13 1) F G _ := hH
  refine lv_iconst (pc := 36) (v := 0) C0.1 C0.2.1 dX7_scan_36 (by decide) ?_
  refine lv_istore_n (pc := 37) (lv' := [(3, .int 0), (0, .ref (b + 9)), (1, .ref (b + 4)), (2, .ref (b + 1))]) C0.1 C0.2.1 dX7_scan_37 rfl hl (by decide) rfl (fun ls hl => ?_)
  refine lv_iload_n (pc := 38) C0.1 C0.2.1 dX7_scan_38 rfl (lv_at hl 0 rfl) ?_
  refine lv_sipush (pc := 39) (v := 600) C0.1 C0.2.1 dX7_scan_39 (by decide) ?_
  refine lv_icmp_ge (pc := 42) (tgt := 75) C0.1 C0.2.1 dX7_scan_42 (by decide) (fun c => absurd c (by decide)) (fun _ => ?_)
  refine lv_aload_n (pc := 45) C0.1 C0.2.1 dX7_scan_45 rfl (lv_at hl 1 rfl) ?_
  refine xget (pc := 46) C0 hH 9 10 clX7 ⟨Nat.le_of_ble_eq_true rfl, Nat.le_of_ble_eq_true rfl⟩ ⟨rfl, rfl⟩ (Nat.le_of_ble_eq_true rfl) fl_X7_44 (v := .int 0) rfl dX7_scan_46 ?_
  refine lv_aload_n (pc := 49) C0.1 C0.2.1 dX7_scan_49 rfl (lv_at hl 2 rfl) ?_
  refine xget (pc := 50) C0 hH 4 1 clX6 ⟨Nat.le_of_ble_eq_true rfl, Nat.le_of_ble_eq_true rfl⟩ ⟨rfl, rfl⟩ (Nat.le_of_ble_eq_true rfl) fl_X7_57 (v := .int 0) (congrArg Value.int hi_4_1) dX7_scan_50 ?_
  refine lv_icmp_ge (pc := 53) (tgt := 75) C0.1 C0.2.1 dX7_scan_53 (by decide) (fun _ => ?_) (fun c => absurd (by decide) c)
  refine lv_aload_n (pc := 75) C0.1 C0.2.1 dX7_scan_75 rfl (lv_at hl 3 rfl) ?_
  refine xget (pc := 76) C0 hH 1 7 clX1 ⟨Nat.le_of_ble_eq_true rfl, Nat.le_of_ble_eq_true rfl⟩ ⟨rfl, rfl⟩ (Nat.le_of_ble_eq_true rfl) fl_X7_66 (v := .int 0) (congrArg Value.int hi_1_7) dX7_scan_76 ?_
  refine lv_if_ne (pc := 79) (tgt := 91) C0.1 C0.2.1 dX7_scan_79 (by decide) (fun c => absurd (by decide) c) (fun _ => ?_)
  refine lv_aload_n (pc := 82) C0.1 C0.2.1 dX7_scan_82 rfl (lv_at hl 2 rfl) ?_
  refine lv_bipush (pc := 83) (v := 9) C0.1 C0.2.1 dX7_scan_83 (by decide) ?_
  refine xcVI (pc := 85) 4 [.int 9] (a3_X6_firstPlaceOf l D tA b (up2 (up2 (up2 (up2 (up2 (up2 (up2 i 9 7 0) 9 8 0) 9 9 (-9)) 9 10 0) 9 11 0) 9 12 0) 9 13 1) F G  (by exact hi_4_1)) C0 hH hS clX6 rfl ⟨⟨Nat.le_of_ble_eq_true rfl, Nat.le_of_ble_eq_true rfl⟩, rfl, rfl⟩ cw_X7_71 rfl ⟨Nat.le_of_ble_eq_true rfl, Nat.le_of_ble_eq_true rfl⟩ hl.1 rfl (Nat.le_of_ble_eq_true rfl) dX7_scan_85 ⟨Nat.le_of_ble_eq_true rfl, Nat.le_of_ble_eq_true rfl⟩ (fun r1 ir1 Fr1 Gr1 _ locs hp hH hS => ?_)
  obtain ⟨hu, rfl⟩ := hp
  cases hu
  refine lv_goto (pc := 88) (tgt := 93) C0.1 C0.2.1 dX7_scan_88 (by decide) ?_
  refine lv_istore_n (pc := 93) (lv' := [(3, .int (-9)), (0, .ref (b + 9)), (1, .ref (b + 4)), (2, .ref (b + 1))]) C0.1 C0.2.1 dX7_scan_93 rfl hl (by decide) rfl (fun ls hl => ?_)
  refine lv_iload_n (pc := 94) C0.1 C0.2.1 dX7_scan_94 rfl (lv_at hl 0 rfl) ?_
  refine lv_bipush (pc := 95) (v := (-9)) C0.1 C0.2.1 dX7_scan_95 (by decide) ?_
  refine lv_icmp_eq (pc := 97) (tgt := 125) C0.1 C0.2.1 dX7_scan_97 (by decide) (fun _ => ?_) (fun c => absurd (by decide) c)
  exact xvret (pc := 125) C0 hr hH hS dX7_scan_125 rfl
set_option maxHeartbeats 4000000 in
set_option maxRecDepth 100000 in
theorem a5_X0_add (l : Launch) (D : va_G) (tA : Nat → ClassId) (b : Nat) (i F : Nat → Nat → Int32) (G : Nat → Nat → Int64)  (hi_18_9 : i 18 9 = 0) : xMI l yX0_add cX0_add 6 (some .int) 0 0 D tA b 0 78 i F G [.ref (b + 18), .int 0, .int 0, .int (-9), .int 0, .int (-9)] (fun r u => u = ((up2 i 18 9 1), (va_up (va_up (va_up (va_up (va_up (va_up (va_up (va_up (va_up F 19 (upd (F 19) (Int32.toNatClampNeg 0) 0)) 20 (upd (F 20) (Int32.toNatClampNeg 0) 0)) 21 (upd (F 21) (Int32.toNatClampNeg 0) (-9))) 22 (upd (F 22) (Int32.toNatClampNeg 0) 0)) 23 (upd (F 23) (Int32.toNatClampNeg 0) (-9))) 24 (upd (F 24) (Int32.toNatClampNeg 0) (-9))) 25 (upd (F 25) (Int32.toNatClampNeg 0) 0)) 26 (upd (F 26) (Int32.toNatClampNeg 0) (-9))) 27 (upd (F 27) (Int32.toNatClampNeg 0) (-9))), G) ∧ r = 0) := by
  refine xstart RX0 rfl (by decide) (Nat.le_of_ble_eq_true rfl) ?_
  intro p e s m below meth c ls C0 hr hH hS hl
  have hl : lv_has ls 6 [(0, .ref (b + 18)), (1, .int 0), (2, .int 0), (3, .int (-9)), (4, .int 0), (5, .int (-9))] := hl
  refine lv_aload_n (pc := 0) C0.1 C0.2.1 dX0_add_0 rfl (lv_at hl 0 rfl) ?_
  refine xget (pc := 1) C0 hH 18 9 clX0 ⟨Nat.le_of_ble_eq_true rfl, Nat.le_of_ble_eq_true rfl⟩ ⟨rfl, rfl⟩ (Nat.le_of_ble_eq_true rfl) fl_X0_39 (v := .int 0) (congrArg Value.int hi_18_9) dX0_add_1 ?_
  refine lv_aload_n (pc := 4) C0.1 C0.2.1 dX0_add_4 rfl (lv_at hl 0 rfl) ?_
  refine xget (pc := 5) C0 hH 18 0 clX0 ⟨Nat.le_of_ble_eq_true rfl, Nat.le_of_ble_eq_true rfl⟩ ⟨rfl, rfl⟩ (Nat.le_of_ble_eq_true rfl) fl_X0_9 (v := .ref (b + 19)) rfl dX0_add_5 ?_
  refine xalen (pc := 8) (t := 50) C0 hH 19 ⟨Nat.le_of_ble_eq_true rfl, Nat.le_of_ble_eq_true rfl⟩ ⟨rfl, rfl⟩ (by decide) dX0_add_8 ?_
  refine lv_icmp_lt (pc := 9) (tgt := 15) C0.1 C0.2.1 dX0_add_9 (by decide) (fun _ => ?_) (fun c => absurd (by decide) c)
  refine lv_aload_n (pc := 15) C0.1 C0.2.1 dX0_add_15 rfl (lv_at hl 0 rfl) ?_
  refine xget (pc := 16) C0 hH 18 0 clX0 ⟨Nat.le_of_ble_eq_true rfl, Nat.le_of_ble_eq_true rfl⟩ ⟨rfl, rfl⟩ (Nat.le_of_ble_eq_true rfl) fl_X0_9 (v := .ref (b + 19)) rfl dX0_add_16 ?_
  refine lv_aload_n (pc := 19) C0.1 C0.2.1 dX0_add_19 rfl (lv_at hl 0 rfl) ?_
  refine xget (pc := 20) C0 hH 18 9 clX0 ⟨Nat.le_of_ble_eq_true rfl, Nat.le_of_ble_eq_true rfl⟩ ⟨rfl, rfl⟩ (Nat.le_of_ble_eq_true rfl) fl_X0_39 (v := .int 0) (congrArg Value.int hi_18_9) dX0_add_20 ?_
  refine lv_iload_n (pc := 23) C0.1 C0.2.1 dX0_add_23 rfl (lv_at hl 1 rfl) ?_
  refine xiast (pc := 24) (N := 601) C0 (Nat.le_of_ble_eq_true rfl) hH hS 19 ⟨Nat.le_of_ble_eq_true rfl, Nat.le_of_ble_eq_true rfl⟩ ⟨rfl, rfl⟩ (vin (by decide)) dX0_add_24 (fun _ locs hH hS _ => ?_)
  have hH : Hd D tA b 0 78 zz i (va_up F 19 (upd (F 19) (Int32.toNatClampNeg 0) 0)) G _ := hH
  refine lv_aload_n (pc := 25) C0.1 C0.2.1 dX0_add_25 rfl (lv_at hl 0 rfl) ?_
  refine xget (pc := 26) C0 hH 18 1 clX0 ⟨Nat.le_of_ble_eq_true rfl, Nat.le_of_ble_eq_true rfl⟩ ⟨rfl, rfl⟩ (Nat.le_of_ble_eq_true rfl) fl_X0_15 (v := .ref (b + 20)) rfl dX0_add_26 ?_
  refine lv_aload_n (pc := 29) C0.1 C0.2.1 dX0_add_29 rfl (lv_at hl 0 rfl) ?_
  refine xget (pc := 30) C0 hH 18 9 clX0 ⟨Nat.le_of_ble_eq_true rfl, Nat.le_of_ble_eq_true rfl⟩ ⟨rfl, rfl⟩ (Nat.le_of_ble_eq_true rfl) fl_X0_39 (v := .int 0) (congrArg Value.int hi_18_9) dX0_add_30 ?_
  refine lv_iload_n (pc := 33) C0.1 C0.2.1 dX0_add_33 rfl (lv_at hl 2 rfl) ?_
  refine xiast (pc := 34) (N := 601) C0 (Nat.le_of_ble_eq_true rfl) hH hS 20 ⟨Nat.le_of_ble_eq_true rfl, Nat.le_of_ble_eq_true rfl⟩ ⟨rfl, rfl⟩ (vin (by decide)) dX0_add_34 (fun _ locs hH hS _ => ?_)
  have hH : Hd D tA b 0 78 zz i (va_up (va_up F 19 (upd (F 19) (Int32.toNatClampNeg 0) 0)) 20 (upd (F 20) (Int32.toNatClampNeg 0) 0)) G _ := hH
  refine lv_aload_n (pc := 35) C0.1 C0.2.1 dX0_add_35 rfl (lv_at hl 0 rfl) ?_
  refine xget (pc := 36) C0 hH 18 2 clX0 ⟨Nat.le_of_ble_eq_true rfl, Nat.le_of_ble_eq_true rfl⟩ ⟨rfl, rfl⟩ (Nat.le_of_ble_eq_true rfl) fl_X0_18 (v := .ref (b + 21)) rfl dX0_add_36 ?_
  refine lv_aload_n (pc := 39) C0.1 C0.2.1 dX0_add_39 rfl (lv_at hl 0 rfl) ?_
  refine xget (pc := 40) C0 hH 18 9 clX0 ⟨Nat.le_of_ble_eq_true rfl, Nat.le_of_ble_eq_true rfl⟩ ⟨rfl, rfl⟩ (Nat.le_of_ble_eq_true rfl) fl_X0_39 (v := .int 0) (congrArg Value.int hi_18_9) dX0_add_40 ?_
  refine lv_iload_n (pc := 43) C0.1 C0.2.1 dX0_add_43 rfl (lv_at hl 3 rfl) ?_
  refine xiast (pc := 44) (N := 601) C0 (Nat.le_of_ble_eq_true rfl) hH hS 21 ⟨Nat.le_of_ble_eq_true rfl, Nat.le_of_ble_eq_true rfl⟩ ⟨rfl, rfl⟩ (vin (by decide)) dX0_add_44 (fun _ locs hH hS _ => ?_)
  have hH : Hd D tA b 0 78 zz i (va_up (va_up (va_up F 19 (upd (F 19) (Int32.toNatClampNeg 0) 0)) 20 (upd (F 20) (Int32.toNatClampNeg 0) 0)) 21 (upd (F 21) (Int32.toNatClampNeg 0) (-9))) G _ := hH
  refine lv_aload_n (pc := 45) C0.1 C0.2.1 dX0_add_45 rfl (lv_at hl 0 rfl) ?_
  refine xget (pc := 46) C0 hH 18 3 clX0 ⟨Nat.le_of_ble_eq_true rfl, Nat.le_of_ble_eq_true rfl⟩ ⟨rfl, rfl⟩ (Nat.le_of_ble_eq_true rfl) fl_X0_21 (v := .ref (b + 22)) rfl dX0_add_46 ?_
  refine lv_aload_n (pc := 49) C0.1 C0.2.1 dX0_add_49 rfl (lv_at hl 0 rfl) ?_
  refine xget (pc := 50) C0 hH 18 9 clX0 ⟨Nat.le_of_ble_eq_true rfl, Nat.le_of_ble_eq_true rfl⟩ ⟨rfl, rfl⟩ (Nat.le_of_ble_eq_true rfl) fl_X0_39 (v := .int 0) (congrArg Value.int hi_18_9) dX0_add_50 ?_
  refine lv_iconst (pc := 53) (v := 0) C0.1 C0.2.1 dX0_add_53 (by decide) ?_
  refine xiast (pc := 54) (N := 601) C0 (Nat.le_of_ble_eq_true rfl) hH hS 22 ⟨Nat.le_of_ble_eq_true rfl, Nat.le_of_ble_eq_true rfl⟩ ⟨rfl, rfl⟩ (vin (by decide)) dX0_add_54 (fun _ locs hH hS _ => ?_)
  have hH : Hd D tA b 0 78 zz i (va_up (va_up (va_up (va_up F 19 (upd (F 19) (Int32.toNatClampNeg 0) 0)) 20 (upd (F 20) (Int32.toNatClampNeg 0) 0)) 21 (upd (F 21) (Int32.toNatClampNeg 0) (-9))) 22 (upd (F 22) (Int32.toNatClampNeg 0) 0)) G _ := hH
  refine lv_aload_n (pc := 55) C0.1 C0.2.1 dX0_add_55 rfl (lv_at hl 0 rfl) ?_
  refine xget (pc := 56) C0 hH 18 4 clX0 ⟨Nat.le_of_ble_eq_true rfl, Nat.le_of_ble_eq_true rfl⟩ ⟨rfl, rfl⟩ (Nat.le_of_ble_eq_true rfl) fl_X0_24 (v := .ref (b + 23)) rfl dX0_add_56 ?_
  refine lv_aload_n (pc := 59) C0.1 C0.2.1 dX0_add_59 rfl (lv_at hl 0 rfl) ?_
  refine xget (pc := 60) C0 hH 18 9 clX0 ⟨Nat.le_of_ble_eq_true rfl, Nat.le_of_ble_eq_true rfl⟩ ⟨rfl, rfl⟩ (Nat.le_of_ble_eq_true rfl) fl_X0_39 (v := .int 0) (congrArg Value.int hi_18_9) dX0_add_60 ?_
  refine lv_bipush (pc := 63) (v := (-9)) C0.1 C0.2.1 dX0_add_63 (by decide) ?_
  refine xiast (pc := 65) (N := 601) C0 (Nat.le_of_ble_eq_true rfl) hH hS 23 ⟨Nat.le_of_ble_eq_true rfl, Nat.le_of_ble_eq_true rfl⟩ ⟨rfl, rfl⟩ (vin (by decide)) dX0_add_65 (fun _ locs hH hS _ => ?_)
  have hH : Hd D tA b 0 78 zz i (va_up (va_up (va_up (va_up (va_up F 19 (upd (F 19) (Int32.toNatClampNeg 0) 0)) 20 (upd (F 20) (Int32.toNatClampNeg 0) 0)) 21 (upd (F 21) (Int32.toNatClampNeg 0) (-9))) 22 (upd (F 22) (Int32.toNatClampNeg 0) 0)) 23 (upd (F 23) (Int32.toNatClampNeg 0) (-9))) G _ := hH
  refine lv_aload_n (pc := 66) C0.1 C0.2.1 dX0_add_66 rfl (lv_at hl 0 rfl) ?_
  refine xget (pc := 67) C0 hH 18 5 clX0 ⟨Nat.le_of_ble_eq_true rfl, Nat.le_of_ble_eq_true rfl⟩ ⟨rfl, rfl⟩ (Nat.le_of_ble_eq_true rfl) fl_X0_27 (v := .ref (b + 24)) rfl dX0_add_67 ?_
  refine lv_aload_n (pc := 70) C0.1 C0.2.1 dX0_add_70 rfl (lv_at hl 0 rfl) ?_
  refine xget (pc := 71) C0 hH 18 9 clX0 ⟨Nat.le_of_ble_eq_true rfl, Nat.le_of_ble_eq_true rfl⟩ ⟨rfl, rfl⟩ (Nat.le_of_ble_eq_true rfl) fl_X0_39 (v := .int 0) (congrArg Value.int hi_18_9) dX0_add_71 ?_
  refine lv_bipush (pc := 74) (v := (-9)) C0.1 C0.2.1 dX0_add_74 (by decide) ?_
  refine xiast (pc := 76) (N := 601) C0 (Nat.le_of_ble_eq_true rfl) hH hS 24 ⟨Nat.le_of_ble_eq_true rfl, Nat.le_of_ble_eq_true rfl⟩ ⟨rfl, rfl⟩ (vin (by decide)) dX0_add_76 (fun _ locs hH hS _ => ?_)
  have hH : Hd D tA b 0 78 zz i (va_up (va_up (va_up (va_up (va_up (va_up F 19 (upd (F 19) (Int32.toNatClampNeg 0) 0)) 20 (upd (F 20) (Int32.toNatClampNeg 0) 0)) 21 (upd (F 21) (Int32.toNatClampNeg 0) (-9))) 22 (upd (F 22) (Int32.toNatClampNeg 0) 0)) 23 (upd (F 23) (Int32.toNatClampNeg 0) (-9))) 24 (upd (F 24) (Int32.toNatClampNeg 0) (-9))) G _ := hH
  refine lv_aload_n (pc := 77) C0.1 C0.2.1 dX0_add_77 rfl (lv_at hl 0 rfl) ?_
  refine xget (pc := 78) C0 hH 18 6 clX0 ⟨Nat.le_of_ble_eq_true rfl, Nat.le_of_ble_eq_true rfl⟩ ⟨rfl, rfl⟩ (Nat.le_of_ble_eq_true rfl) fl_X0_30 (v := .ref (b + 25)) rfl dX0_add_78 ?_
  refine lv_aload_n (pc := 81) C0.1 C0.2.1 dX0_add_81 rfl (lv_at hl 0 rfl) ?_
  refine xget (pc := 82) C0 hH 18 9 clX0 ⟨Nat.le_of_ble_eq_true rfl, Nat.le_of_ble_eq_true rfl⟩ ⟨rfl, rfl⟩ (Nat.le_of_ble_eq_true rfl) fl_X0_39 (v := .int 0) (congrArg Value.int hi_18_9) dX0_add_82 ?_
  refine lv_iload (pc := 85) C0.1 C0.2.1 dX0_add_85 (lv_at hl 4 rfl) ?_
  refine xiast (pc := 87) (N := 601) C0 (Nat.le_of_ble_eq_true rfl) hH hS 25 ⟨Nat.le_of_ble_eq_true rfl, Nat.le_of_ble_eq_true rfl⟩ ⟨rfl, rfl⟩ (vin (by decide)) dX0_add_87 (fun _ locs hH hS _ => ?_)
  have hH : Hd D tA b 0 78 zz i (va_up (va_up (va_up (va_up (va_up (va_up (va_up F 19 (upd (F 19) (Int32.toNatClampNeg 0) 0)) 20 (upd (F 20) (Int32.toNatClampNeg 0) 0)) 21 (upd (F 21) (Int32.toNatClampNeg 0) (-9))) 22 (upd (F 22) (Int32.toNatClampNeg 0) 0)) 23 (upd (F 23) (Int32.toNatClampNeg 0) (-9))) 24 (upd (F 24) (Int32.toNatClampNeg 0) (-9))) 25 (upd (F 25) (Int32.toNatClampNeg 0) 0)) G _ := hH
  refine lv_aload_n (pc := 88) C0.1 C0.2.1 dX0_add_88 rfl (lv_at hl 0 rfl) ?_
  refine xget (pc := 89) C0 hH 18 7 clX0 ⟨Nat.le_of_ble_eq_true rfl, Nat.le_of_ble_eq_true rfl⟩ ⟨rfl, rfl⟩ (Nat.le_of_ble_eq_true rfl) fl_X0_33 (v := .ref (b + 26)) rfl dX0_add_89 ?_
  refine lv_aload_n (pc := 92) C0.1 C0.2.1 dX0_add_92 rfl (lv_at hl 0 rfl) ?_
  refine xget (pc := 93) C0 hH 18 9 clX0 ⟨Nat.le_of_ble_eq_true rfl, Nat.le_of_ble_eq_true rfl⟩ ⟨rfl, rfl⟩ (Nat.le_of_ble_eq_true rfl) fl_X0_39 (v := .int 0) (congrArg Value.int hi_18_9) dX0_add_93 ?_
  refine lv_iload (pc := 96) C0.1 C0.2.1 dX0_add_96 (lv_at hl 5 rfl) ?_
  refine xiast (pc := 98) (N := 601) C0 (Nat.le_of_ble_eq_true rfl) hH hS 26 ⟨Nat.le_of_ble_eq_true rfl, Nat.le_of_ble_eq_true rfl⟩ ⟨rfl, rfl⟩ (vin (by decide)) dX0_add_98 (fun _ locs hH hS _ => ?_)
  have hH : Hd D tA b 0 78 zz i (va_up (va_up (va_up (va_up (va_up (va_up (va_up (va_up F 19 (upd (F 19) (Int32.toNatClampNeg 0) 0)) 20 (upd (F 20) (Int32.toNatClampNeg 0) 0)) 21 (upd (F 21) (Int32.toNatClampNeg 0) (-9))) 22 (upd (F 22) (Int32.toNatClampNeg 0) 0)) 23 (upd (F 23) (Int32.toNatClampNeg 0) (-9))) 24 (upd (F 24) (Int32.toNatClampNeg 0) (-9))) 25 (upd (F 25) (Int32.toNatClampNeg 0) 0)) 26 (upd (F 26) (Int32.toNatClampNeg 0) (-9))) G _ := hH
  refine lv_aload_n (pc := 99) C0.1 C0.2.1 dX0_add_99 rfl (lv_at hl 0 rfl) ?_
  refine xget (pc := 100) C0 hH 18 8 clX0 ⟨Nat.le_of_ble_eq_true rfl, Nat.le_of_ble_eq_true rfl⟩ ⟨rfl, rfl⟩ (Nat.le_of_ble_eq_true rfl) fl_X0_36 (v := .ref (b + 27)) rfl dX0_add_100 ?_
  refine lv_aload_n (pc := 103) C0.1 C0.2.1 dX0_add_103 rfl (lv_at hl 0 rfl) ?_
  refine xget (pc := 104) C0 hH 18 9 clX0 ⟨Nat.le_of_ble_eq_true rfl, Nat.le_of_ble_eq_true rfl⟩ ⟨rfl, rfl⟩ (Nat.le_of_ble_eq_true rfl) fl_X0_39 (v := .int 0) (congrArg Value.int hi_18_9) dX0_add_104 ?_
  refine lv_bipush (pc := 107) (v := (-9)) C0.1 C0.2.1 dX0_add_107 (by decide) ?_
  refine xiast (pc := 109) (N := 601) C0 (Nat.le_of_ble_eq_true rfl) hH hS 27 ⟨Nat.le_of_ble_eq_true rfl, Nat.le_of_ble_eq_true rfl⟩ ⟨rfl, rfl⟩ (vin (by decide)) dX0_add_109 (fun _ locs hH hS _ => ?_)
  have hH : Hd D tA b 0 78 zz i (va_up (va_up (va_up (va_up (va_up (va_up (va_up (va_up (va_up F 19 (upd (F 19) (Int32.toNatClampNeg 0) 0)) 20 (upd (F 20) (Int32.toNatClampNeg 0) 0)) 21 (upd (F 21) (Int32.toNatClampNeg 0) (-9))) 22 (upd (F 22) (Int32.toNatClampNeg 0) 0)) 23 (upd (F 23) (Int32.toNatClampNeg 0) (-9))) 24 (upd (F 24) (Int32.toNatClampNeg 0) (-9))) 25 (upd (F 25) (Int32.toNatClampNeg 0) 0)) 26 (upd (F 26) (Int32.toNatClampNeg 0) (-9))) 27 (upd (F 27) (Int32.toNatClampNeg 0) (-9))) G _ := hH
  refine lv_aload_n (pc := 110) C0.1 C0.2.1 dX0_add_110 rfl (lv_at hl 0 rfl) ?_
  refine lv_dup (pc := 111) C0.1 C0.2.1 dX0_add_111 rfl ?_
  refine xget (pc := 112) C0 hH 18 9 clX0 ⟨Nat.le_of_ble_eq_true rfl, Nat.le_of_ble_eq_true rfl⟩ ⟨rfl, rfl⟩ (Nat.le_of_ble_eq_true rfl) fl_X0_39 (v := .int 0) (congrArg Value.int hi_18_9) dX0_add_112 ?_
  refine lv_iconst (pc := 115) (v := 1) C0.1 C0.2.1 dX0_add_115 (by decide) ?_
  refine lv_iadd (pc := 116) C0.1 C0.2.1 dX0_add_116 ?_
  refine lv_topi (fun q1 eq1 => ?_)
  obtain rfl : q1 = 1 := eq1.trans (by decide)
  refine xputI (pc := 117) C0 (Nat.le_of_ble_eq_true rfl) hH hS 18 9 clX0 ⟨Nat.le_of_ble_eq_true rfl, Nat.le_of_ble_eq_true rfl⟩ ⟨rfl, rfl⟩ ⟨Nat.le_of_ble_eq_true rfl, rfl, rfl⟩ fl_X0_39 (x := 1) ⟨rfl, rfl⟩ dX0_add_117 (fun _ locs hH hS _ => ?_)
  have hH : Hd D tA b 0 78 zz (up2 i 18 9 1) (va_up (va_up (va_up (va_up (va_up (va_up (va_up (va_up (va_up F 19 (upd (F 19) (Int32.toNatClampNeg 0) 0)) 20 (upd (F 20) (Int32.toNatClampNeg 0) 0)) 21 (upd (F 21) (Int32.toNatClampNeg 0) (-9))) 22 (upd (F 22) (Int32.toNatClampNeg 0) 0)) 23 (upd (F 23) (Int32.toNatClampNeg 0) (-9))) 24 (upd (F 24) (Int32.toNatClampNeg 0) (-9))) 25 (upd (F 25) (Int32.toNatClampNeg 0) 0)) 26 (upd (F 26) (Int32.toNatClampNeg 0) (-9))) 27 (upd (F 27) (Int32.toNatClampNeg 0) (-9))) G _ := hH
  refine lv_aload_n (pc := 120) C0.1 C0.2.1 dX0_add_120 rfl (lv_at hl 0 rfl) ?_
  refine xget (pc := 121) C0 hH 18 9 clX0 ⟨Nat.le_of_ble_eq_true rfl, Nat.le_of_ble_eq_true rfl⟩ ⟨rfl, rfl⟩ (Nat.le_of_ble_eq_true rfl) fl_X0_39 (v := .int 1) rfl dX0_add_121 ?_
  refine lv_iconst (pc := 124) (v := 1) C0.1 C0.2.1 dX0_add_124 (by decide) ?_
  refine lv_isub (pc := 125) C0.1 C0.2.1 dX0_add_125 ?_
  refine lv_topi (fun q2 eq2 => ?_)
  obtain rfl : q2 = 0 := eq2.trans (by decide)
  exact xiret (pc := 126) C0 hr hH hS dX0_add_126 ⟨rfl, rfl⟩
set_option maxHeartbeats 4000000 in
set_option maxRecDepth 100000 in
theorem a7_X0_has (l : Launch) (D : va_G) (tA : Nat → ClassId) (b : Nat) (i F : Nat → Nat → Int32) (G : Nat → Nat → Int64)  (hi_18_9 : i 18 9 = 1) : xMI l yX0_has cX0_has 2 (some .boolean) 0 0 D tA b 0 78 i F G [.ref (b + 18), .int 0] (fun r u => u = (i, F, G) ∧ r = 1) := by
  refine xstart RX0 rfl (by decide) (Nat.le_of_ble_eq_true rfl) ?_
  intro p e s m below meth c ls C0 hr hH hS hl
  have hl : lv_has ls 2 [(0, .ref (b + 18)), (1, .int 0)] := hl
  refine lv_iload_n (pc := 0) C0.1 C0.2.1 dX0_has_0 rfl (lv_at hl 1 rfl) ?_
  refine lv_if_lt (pc := 1) (tgt := 16) C0.1 C0.2.1 dX0_has_1 (by decide) (fun c => absurd c (by decide)) (fun _ => ?_)
  refine lv_iload_n (pc := 4) C0.1 C0.2.1 dX0_has_4 rfl (lv_at hl 1 rfl) ?_
  refine lv_aload_n (pc := 5) C0.1 C0.2.1 dX0_has_5 rfl (lv_at hl 0 rfl) ?_
  refine xget (pc := 6) C0 hH 18 9 clX0 ⟨Nat.le_of_ble_eq_true rfl, Nat.le_of_ble_eq_true rfl⟩ ⟨rfl, rfl⟩ (Nat.le_of_ble_eq_true rfl) fl_X0_39 (v := .int 1) (congrArg Value.int hi_18_9) dX0_has_6 ?_
  refine lv_icmp_ge (pc := 9) (tgt := 16) C0.1 C0.2.1 dX0_has_9 (by decide) (fun c => absurd c (by decide)) (fun _ => ?_)
  refine lv_iconst (pc := 12) (v := 1) C0.1 C0.2.1 dX0_has_12 (by decide) ?_
  refine lv_goto (pc := 13) (tgt := 17) C0.1 C0.2.1 dX0_has_13 (by decide) ?_
  exact xzret (pc := 17) C0 hr hH hS dX0_has_17 (by decide) ⟨rfl, rfl⟩
set_option maxHeartbeats 4000000 in
set_option maxRecDepth 100000 in
theorem a6_X8_pileUp (l : Launch) (D : va_G) (tA : Nat → ClassId) (b : Nat) (i F : Nat → Nat → Int32) (G : Nat → Nat → Int64)  (hi_18_9 : i 18 9 = 1) (hi_17_7 : i 17 7 = 0) : xMV l yX8_pileUp cX8_pileUp 2 none 1 21 D tA b 0 78 i F G [.ref (b + 17), .int 0] (fun u => u = ((up2 i 17 7 1), (va_up F 38 (upd (F 38) (Int32.toNatClampNeg 0) 0)), G)) := by
  refine xstart RX8 rfl (by decide) (Nat.le_of_ble_eq_true rfl) ?_
  intro p e s m below meth c ls C0 hr hH hS hl
  have hl : lv_has ls 2 [(0, .ref (b + 17)), (1, .int 0)] := hl
  refine lv_aload_n (pc := 0) C0.1 C0.2.1 dX8_pileUp_0 rfl (lv_at hl 0 rfl) ?_
  refine xget (pc := 1) C0 hH 17 0 clX8 ⟨Nat.le_of_ble_eq_true rfl, Nat.le_of_ble_eq_true rfl⟩ ⟨rfl, rfl⟩ (Nat.le_of_ble_eq_true rfl) fl_X8_12 (v := .ref (b + 18)) rfl dX8_pileUp_1 ?_
  refine lv_iload_n (pc := 4) C0.1 C0.2.1 dX8_pileUp_4 rfl (lv_at hl 1 rfl) ?_
  refine xcVI (pc := 5) 18 [.int 0] (a7_X0_has l D tA b i F G  (by exact hi_18_9)) C0 hH hS clX0 rfl ⟨⟨Nat.le_of_ble_eq_true rfl, Nat.le_of_ble_eq_true rfl⟩, rfl, rfl⟩ cw_X8_87 rfl ⟨Nat.le_of_ble_eq_true rfl, Nat.le_of_ble_eq_true rfl⟩ hl.1 rfl (Nat.le_of_ble_eq_true rfl) dX8_pileUp_5 ⟨Nat.le_of_ble_eq_true rfl, Nat.le_of_ble_eq_true rfl⟩ (fun r1 ir1 Fr1 Gr1 _ locs hp hH hS => ?_)
  obtain ⟨hu, rfl⟩ := hp
  cases hu
  refine lv_if_eq (pc := 8) (tgt := 43) C0.1 C0.2.1 dX8_pileUp_8 (by decide) (fun c => absurd c (by decide)) (fun _ => ?_)
  refine lv_aload_n (pc := 11) C0.1 C0.2.1 dX8_pileUp_11 rfl (lv_at hl 0 rfl) ?_
  refine xget (pc := 12) C0 hH 17 7 clX8 ⟨Nat.le_of_ble_eq_true rfl, Nat.le_of_ble_eq_true rfl⟩ ⟨rfl, rfl⟩ (Nat.le_of_ble_eq_true rfl) fl_X8_50 (v := .int 0) (congrArg Value.int hi_17_7) dX8_pileUp_12 ?_
  refine lv_aload_n (pc := 15) C0.1 C0.2.1 dX8_pileUp_15 rfl (lv_at hl 0 rfl) ?_
  refine xget (pc := 16) C0 hH 17 6 clX8 ⟨Nat.le_of_ble_eq_true rfl, Nat.le_of_ble_eq_true rfl⟩ ⟨rfl, rfl⟩ (Nat.le_of_ble_eq_true rfl) fl_X8_33 (v := .ref (b + 38)) rfl dX8_pileUp_16 ?_
  refine xalen (pc := 19) (t := 50) C0 hH 38 ⟨Nat.le_of_ble_eq_true rfl, Nat.le_of_ble_eq_true rfl⟩ ⟨rfl, rfl⟩ (by decide) dX8_pileUp_19 ?_
  refine lv_icmp_ge (pc := 20) (tgt := 43) C0.1 C0.2.1 dX8_pileUp_20 (by decide) (fun c => absurd c (by decide)) (fun _ => ?_)
  refine lv_aload_n (pc := 23) C0.1 C0.2.1 dX8_pileUp_23 rfl (lv_at hl 0 rfl) ?_
  refine xget (pc := 24) C0 hH 17 6 clX8 ⟨Nat.le_of_ble_eq_true rfl, Nat.le_of_ble_eq_true rfl⟩ ⟨rfl, rfl⟩ (Nat.le_of_ble_eq_true rfl) fl_X8_33 (v := .ref (b + 38)) rfl dX8_pileUp_24 ?_
  refine lv_aload_n (pc := 27) C0.1 C0.2.1 dX8_pileUp_27 rfl (lv_at hl 0 rfl) ?_
  refine xget (pc := 28) C0 hH 17 7 clX8 ⟨Nat.le_of_ble_eq_true rfl, Nat.le_of_ble_eq_true rfl⟩ ⟨rfl, rfl⟩ (Nat.le_of_ble_eq_true rfl) fl_X8_50 (v := .int 0) (congrArg Value.int hi_17_7) dX8_pileUp_28 ?_
  refine lv_iload_n (pc := 31) C0.1 C0.2.1 dX8_pileUp_31 rfl (lv_at hl 1 rfl) ?_
  refine xiast (pc := 32) (N := 601) C0 (Nat.le_of_ble_eq_true rfl) hH hS 38 ⟨Nat.le_of_ble_eq_true rfl, Nat.le_of_ble_eq_true rfl⟩ ⟨rfl, rfl⟩ (vin (by decide)) dX8_pileUp_32 (fun _ locs hH hS _ => ?_)
  have hH : Hd D tA b 0 78 zz i (va_up F 38 (upd (F 38) (Int32.toNatClampNeg 0) 0)) G _ := hH
  refine lv_aload_n (pc := 33) C0.1 C0.2.1 dX8_pileUp_33 rfl (lv_at hl 0 rfl) ?_
  refine lv_dup (pc := 34) C0.1 C0.2.1 dX8_pileUp_34 rfl ?_
  refine xget (pc := 35) C0 hH 17 7 clX8 ⟨Nat.le_of_ble_eq_true rfl, Nat.le_of_ble_eq_true rfl⟩ ⟨rfl, rfl⟩ (Nat.le_of_ble_eq_true rfl) fl_X8_50 (v := .int 0) (congrArg Value.int hi_17_7) dX8_pileUp_35 ?_
  refine lv_iconst (pc := 38) (v := 1) C0.1 C0.2.1 dX8_pileUp_38 (by decide) ?_
  refine lv_iadd (pc := 39) C0.1 C0.2.1 dX8_pileUp_39 ?_
  refine lv_topi (fun q2 eq2 => ?_)
  obtain rfl : q2 = 1 := eq2.trans (by decide)
  refine xputI (pc := 40) C0 (Nat.le_of_ble_eq_true rfl) hH hS 17 7 clX8 ⟨Nat.le_of_ble_eq_true rfl, Nat.le_of_ble_eq_true rfl⟩ ⟨rfl, rfl⟩ ⟨Nat.le_of_ble_eq_true rfl, rfl, rfl⟩ fl_X8_50 (x := 1) ⟨rfl, rfl⟩ dX8_pileUp_40 (fun _ locs hH hS _ => ?_)
  have hH : Hd D tA b 0 78 zz (up2 i 17 7 1) (va_up F 38 (upd (F 38) (Int32.toNatClampNeg 0) 0)) G _ := hH
  exact xvret (pc := 43) C0 hr hH hS dX8_pileUp_43 rfl
set_option maxHeartbeats 4000000 in
set_option maxRecDepth 100000 in
theorem a8_X8_finish (l : Launch) (D : va_G) (tA : Nat → ClassId) (b : Nat) (i F : Nat → Nat → Int32) (G : Nat → Nat → Int64)  (hi_17_8 : i 17 8 = (-9)) (hi_17_7 : i 17 7 = 1) : xMV l yX8_finish cX8_finish 6 none 0 0 D tA b 0 78 i F G [.ref (b + 17), .ref (b + 9), .int 0] (fun u => u = (i, F, G)) := by
  refine xstart RX8 rfl (by decide) (Nat.le_of_ble_eq_true rfl) ?_
  intro p e s m below meth c ls C0 hr hH hS hl
  have hl : lv_has ls 6 [(0, .ref (b + 17)), (1, .ref (b + 9)), (2, .int 0)] := hl
  refine lv_aload_n (pc := 0) C0.1 C0.2.1 dX8_finish_0 rfl (lv_at hl 0 rfl) ?_
  refine xget (pc := 1) C0 hH 17 8 clX8 ⟨Nat.le_of_ble_eq_true rfl, Nat.le_of_ble_eq_true rfl⟩ ⟨rfl, rfl⟩ (Nat.le_of_ble_eq_true rfl) fl_X8_53 (v := .int (-9)) (congrArg Value.int hi_17_8) dX8_finish_1 ?_
  refine lv_if_lt (pc := 4) (tgt := 64) C0.1 C0.2.1 dX8_finish_4 (by decide) (fun _ => ?_) (fun c => absurd (by decide) c)
  refine lv_iconst (pc := 64) (v := 1) C0.1 C0.2.1 dX8_finish_64 (by decide) ?_
  refine lv_istore_n (pc := 65) (lv' := [(3, .int 1), (0, .ref (b + 17)), (1, .ref (b + 9)), (2, .int 0)]) C0.1 C0.2.1 dX8_finish_65 rfl hl (by decide) rfl (fun ls hl => ?_)
  refine lv_iload_n (pc := 66) C0.1 C0.2.1 dX8_finish_66 rfl (lv_at hl 0 rfl) ?_
  refine lv_aload_n (pc := 67) C0.1 C0.2.1 dX8_finish_67 rfl (lv_at hl 1 rfl) ?_
  refine xget (pc := 68) C0 hH 17 7 clX8 ⟨Nat.le_of_ble_eq_true rfl, Nat.le_of_ble_eq_true rfl⟩ ⟨rfl, rfl⟩ (Nat.le_of_ble_eq_true rfl) fl_X8_50 (v := .int 1) (congrArg Value.int hi_17_7) dX8_finish_68 ?_
  refine lv_icmp_ge (pc := 71) (tgt := 142) C0.1 C0.2.1 dX8_finish_71 (by decide) (fun _ => ?_) (fun c => absurd (by decide) c)
  exact xvret (pc := 142) C0 hr hH hS dX8_finish_142 rfl
set_option maxHeartbeats 4000000 in
set_option maxRecDepth 100000 in
theorem a9_X8_spreadEnds (l : Launch) (D : va_G) (tA : Nat → ClassId) (b : Nat) (i F : Nat → Nat → Int32) (G : Nat → Nat → Int64)  (hi_28_5 : i 28 5 = 0) : xMV l yX8_spreadEnds cX8_spreadEnds 4 none 0 0 D tA b 0 78 i F G [.ref (b + 17)] (fun u => u = (i, F, G)) := by
  refine xstart RX8 rfl (by decide) (Nat.le_of_ble_eq_true rfl) ?_
  intro p e s m below meth c ls C0 hr hH hS hl
  have hl : lv_has ls 4 [(0, .ref (b + 17))] := hl
  refine lv_aload_n (pc := 0) C0.1 C0.2.1 dX8_spreadEnds_0 rfl (lv_at hl 0 rfl) ?_
  refine xget (pc := 1) C0 hH 17 1 clX8 ⟨Nat.le_of_ble_eq_true rfl, Nat.le_of_ble_eq_true rfl⟩ ⟨rfl, rfl⟩ (Nat.le_of_ble_eq_true rfl) fl_X8_21 (v := .ref (b + 28)) rfl dX8_spreadEnds_1 ?_
  refine xget (pc := 4) C0 hH 28 5 clX2 ⟨Nat.le_of_ble_eq_true rfl, Nat.le_of_ble_eq_true rfl⟩ ⟨rfl, rfl⟩ (Nat.le_of_ble_eq_true rfl) fl_X8_46 (v := .int 0) (congrArg Value.int hi_28_5) dX8_spreadEnds_4 ?_
  refine lv_iconst (pc := 7) (v := 1) C0.1 C0.2.1 dX8_spreadEnds_7 (by decide) ?_
  refine lv_isub (pc := 8) C0.1 C0.2.1 dX8_spreadEnds_8 ?_
  refine lv_topi (fun q1 eq1 => ?_)
  obtain rfl : q1 = (-1) := eq1.trans (by decide)
  refine lv_istore_n (pc := 9) (lv' := [(1, .int (-1)), (0, .ref (b + 17))]) C0.1 C0.2.1 dX8_spreadEnds_9 rfl hl (by decide) rfl (fun ls hl => ?_)
  refine lv_iload_n (pc := 10) C0.1 C0.2.1 dX8_spreadEnds_10 rfl (lv_at hl 0 rfl) ?_
  refine lv_if_lt (pc := 11) (tgt := 157) C0.1 C0.2.1 dX8_spreadEnds_11 (by decide) (fun _ => ?_) (fun c => absurd (by decide) c)
  exact xvret (pc := 157) C0 hr hH hS dX8_spreadEnds_157 rfl
set_option maxHeartbeats 4000000 in
set_option maxRecDepth 100000 in
theorem a4_X8_grow (l : Launch) (D : va_G) (tA : Nat → ClassId) (b : Nat) (i F : Nat → Nat → Int32) (G : Nat → Nat → Int64)  (hi_9_7 : i 9 7 = 0) : xMV l yX8_grow cX8_grow 4 none 2 42 D tA b 0 78 i F G [.ref (b + 17), .ref (b + 9), .int 0] (fun u => u = ((up2 (up2 (up2 (up2 (up2 (up2 (up2 (up2 (up2 (up2 i 17 4 0) 17 5 (-9)) 18 9 0) 28 5 0) 28 8 0) 17 7 0) 17 8 (-9)) 17 9 (-9)) 18 9 1) 17 7 1), (va_up (va_up (va_up (va_up (va_up (va_up (va_up (va_up (va_up (va_up F 19 (upd (F 19) (Int32.toNatClampNeg 0) 0)) 20 (upd (F 20) (Int32.toNatClampNeg 0) 0)) 21 (upd (F 21) (Int32.toNatClampNeg 0) (-9))) 22 (upd (F 22) (Int32.toNatClampNeg 0) 0)) 23 (upd (F 23) (Int32.toNatClampNeg 0) (-9))) 24 (upd (F 24) (Int32.toNatClampNeg 0) (-9))) 25 (upd (F 25) (Int32.toNatClampNeg 0) 0)) 26 (upd (F 26) (Int32.toNatClampNeg 0) (-9))) 27 (upd (F 27) (Int32.toNatClampNeg 0) (-9))) 38 (upd (F 38) (Int32.toNatClampNeg 0) 0)), G)) := by
  refine xstart RX8 rfl (by decide) (Nat.le_of_ble_eq_true rfl) ?_
  intro p e s m below meth c ls C0 hr hH hS hl
  have hl : lv_has ls 4 [(0, .ref (b + 17)), (1, .ref (b + 9)), (2, .int 0)] := hl
  refine lv_aload_n (pc := 0) C0.1 C0.2.1 dX8_grow_0 rfl (lv_at hl 0 rfl) ?_
  refine lv_iconst (pc := 1) (v := 0) C0.1 C0.2.1 dX8_grow_1 (by decide) ?_
  refine xputI (pc := 2) C0 (Nat.le_of_ble_eq_true rfl) hH hS 17 4 clX8 ⟨Nat.le_of_ble_eq_true rfl, Nat.le_of_ble_eq_true rfl⟩ ⟨rfl, rfl⟩ ⟨Nat.le_of_ble_eq_true rfl, rfl, rfl⟩ fl_X8_36 (x := 0) ⟨rfl, rfl⟩ dX8_grow_2 (fun _ locs hH hS _ => ?_)
  have hH : Hd D tA b 0 78 zz (up2 i 17 4 0) F G _ := hH
  refine lv_aload_n (pc := 5) C0.1 C0.2.1 dX8_grow_5 rfl (lv_at hl 0 rfl) ?_
  refine lv_bipush (pc := 6) (v := (-9)) C0.1 C0.2.1 dX8_grow_6 (by decide) ?_
  refine xputI (pc := 8) C0 (Nat.le_of_ble_eq_true rfl) hH hS 17 5 clX8 ⟨Nat.le_of_ble_eq_true rfl, Nat.le_of_ble_eq_true rfl⟩ ⟨rfl, rfl⟩ ⟨Nat.le_of_ble_eq_true rfl, rfl, rfl⟩ fl_X8_40 (x := (-9)) ⟨rfl, rfl⟩ dX8_grow_8 (fun _ locs hH hS _ => ?_)
  have hH : Hd D tA b 0 78 zz (up2 (up2 i 17 4 0) 17 5 (-9)) F G _ := hH
  refine lv_aload_n (pc := 11) C0.1 C0.2.1 dX8_grow_11 rfl (lv_at hl 0 rfl) ?_
  refine xget (pc := 12) C0 hH 17 0 clX8 ⟨Nat.le_of_ble_eq_true rfl, Nat.le_of_ble_eq_true rfl⟩ ⟨rfl, rfl⟩ (Nat.le_of_ble_eq_true rfl) fl_X8_12 (v := .ref (b + 18)) rfl dX8_grow_12 ?_
  refine lv_iconst (pc := 15) (v := 0) C0.1 C0.2.1 dX8_grow_15 (by decide) ?_
  refine xputI (pc := 16) C0 (Nat.le_of_ble_eq_true rfl) hH hS 18 9 clX0 ⟨Nat.le_of_ble_eq_true rfl, Nat.le_of_ble_eq_true rfl⟩ ⟨rfl, rfl⟩ ⟨Nat.le_of_ble_eq_true rfl, rfl, rfl⟩ fl_X8_43 (x := 0) ⟨rfl, rfl⟩ dX8_grow_16 (fun _ locs hH hS _ => ?_)
  have hH : Hd D tA b 0 78 zz (up2 (up2 (up2 i 17 4 0) 17 5 (-9)) 18 9 0) F G _ := hH
  refine lv_aload_n (pc := 19) C0.1 C0.2.1 dX8_grow_19 rfl (lv_at hl 0 rfl) ?_
  refine xget (pc := 20) C0 hH 17 1 clX8 ⟨Nat.le_of_ble_eq_true rfl, Nat.le_of_ble_eq_true rfl⟩ ⟨rfl, rfl⟩ (Nat.le_of_ble_eq_true rfl) fl_X8_21 (v := .ref (b + 28)) rfl dX8_grow_20 ?_
  refine lv_iconst (pc := 23) (v := 0) C0.1 C0.2.1 dX8_grow_23 (by decide) ?_
  refine xputI (pc := 24) C0 (Nat.le_of_ble_eq_true rfl) hH hS 28 5 clX2 ⟨Nat.le_of_ble_eq_true rfl, Nat.le_of_ble_eq_true rfl⟩ ⟨rfl, rfl⟩ ⟨Nat.le_of_ble_eq_true rfl, rfl, rfl⟩ fl_X8_46 (x := 0) ⟨rfl, rfl⟩ dX8_grow_24 (fun _ locs hH hS _ => ?_)
  have hH : Hd D tA b 0 78 zz (up2 (up2 (up2 (up2 i 17 4 0) 17 5 (-9)) 18 9 0) 28 5 0) F G _ := hH
  refine lv_aload_n (pc := 27) C0.1 C0.2.1 dX8_grow_27 rfl (lv_at hl 0 rfl) ?_
  refine xget (pc := 28) C0 hH 17 1 clX8 ⟨Nat.le_of_ble_eq_true rfl, Nat.le_of_ble_eq_true rfl⟩ ⟨rfl, rfl⟩ (Nat.le_of_ble_eq_true rfl) fl_X8_21 (v := .ref (b + 28)) rfl dX8_grow_28 ?_
  refine lv_iconst (pc := 31) (v := 0) C0.1 C0.2.1 dX8_grow_31 (by decide) ?_
  refine xputI (pc := 32) C0 (Nat.le_of_ble_eq_true rfl) hH hS 28 8 clX2 ⟨Nat.le_of_ble_eq_true rfl, Nat.le_of_ble_eq_true rfl⟩ ⟨rfl, rfl⟩ ⟨Nat.le_of_ble_eq_true rfl, rfl, rfl⟩ fl_X8_47 (x := 0) ⟨rfl, rfl⟩ dX8_grow_32 (fun _ locs hH hS _ => ?_)
  have hH : Hd D tA b 0 78 zz (up2 (up2 (up2 (up2 (up2 i 17 4 0) 17 5 (-9)) 18 9 0) 28 5 0) 28 8 0) F G _ := hH
  refine lv_aload_n (pc := 35) C0.1 C0.2.1 dX8_grow_35 rfl (lv_at hl 0 rfl) ?_
  refine lv_iconst (pc := 36) (v := 0) C0.1 C0.2.1 dX8_grow_36 (by decide) ?_
  refine xputI (pc := 37) C0 (Nat.le_of_ble_eq_true rfl) hH hS 17 7 clX8 ⟨Nat.le_of_ble_eq_true rfl, Nat.le_of_ble_eq_true rfl⟩ ⟨rfl, rfl⟩ ⟨Nat.le_of_ble_eq_true rfl, rfl, rfl⟩ fl_X8_50 (x := 0) ⟨rfl, rfl⟩ dX8_grow_37 (fun _ locs hH hS _ => ?_)
  have hH : Hd D tA b 0 78 zz (up2 (up2 (up2 (up2 (up2 (up2 i 17 4 0) 17 5 (-9)) 18 9 0) 28 5 0) 28 8 0) 17 7 0) F G _ := hH
  refine lv_aload_n (pc := 40) C0.1 C0.2.1 dX8_grow_40 rfl (lv_at hl 0 rfl) ?_
  refine lv_bipush (pc := 41) (v := (-9)) C0.1 C0.2.1 dX8_grow_41 (by decide) ?_
  refine xputI (pc := 43) C0 (Nat.le_of_ble_eq_true rfl) hH hS 17 8 clX8 ⟨Nat.le_of_ble_eq_true rfl, Nat.le_of_ble_eq_true rfl⟩ ⟨rfl, rfl⟩ ⟨Nat.le_of_ble_eq_true rfl, rfl, rfl⟩ fl_X8_53 (x := (-9)) ⟨rfl, rfl⟩ dX8_grow_43 (fun _ locs hH hS _ => ?_)
  have hH : Hd D tA b 0 78 zz (up2 (up2 (up2 (up2 (up2 (up2 (up2 i 17 4 0) 17 5 (-9)) 18 9 0) 28 5 0) 28 8 0) 17 7 0) 17 8 (-9)) F G _ := hH
  refine lv_aload_n (pc := 46) C0.1 C0.2.1 dX8_grow_46 rfl (lv_at hl 0 rfl) ?_
  refine lv_bipush (pc := 47) (v := (-9)) C0.1 C0.2.1 dX8_grow_47 (by decide) ?_
  refine xputI (pc := 49) C0 (Nat.le_of_ble_eq_true rfl) hH hS 17 9 clX8 ⟨Nat.le_of_ble_eq_true rfl, Nat.le_of_ble_eq_true rfl⟩ ⟨rfl, rfl⟩ ⟨Nat.le_of_ble_eq_true rfl, rfl, rfl⟩ fl_X8_56 (x := (-9)) ⟨rfl, rfl⟩ dX8_grow_49 (fun _ locs hH hS _ => ?_)
  have hH : Hd D tA b 0 78 zz (up2 (up2 (up2 (up2 (up2 (up2 (up2 (up2 i 17 4 0) 17 5 (-9)) 18 9 0) 28 5 0) 28 8 0) 17 7 0) 17 8 (-9)) 17 9 (-9)) F G _ := hH
  refine lv_aload_n (pc := 52) C0.1 C0.2.1 dX8_grow_52 rfl (lv_at hl 0 rfl) ?_
  refine lv_aload_n (pc := 53) C0.1 C0.2.1 dX8_grow_53 rfl (lv_at hl 0 rfl) ?_
  refine xget (pc := 54) C0 hH 17 0 clX8 ⟨Nat.le_of_ble_eq_true rfl, Nat.le_of_ble_eq_true rfl⟩ ⟨rfl, rfl⟩ (Nat.le_of_ble_eq_true rfl) fl_X8_12 (v := .ref (b + 18)) rfl dX8_grow_54 ?_
  refine lv_iconst (pc := 57) (v := 0) C0.1 C0.2.1 dX8_grow_57 (by decide) ?_
  refine lv_iconst (pc := 58) (v := 0) C0.1 C0.2.1 dX8_grow_58 (by decide) ?_
  refine lv_bipush (pc := 59) (v := (-9)) C0.1 C0.2.1 dX8_grow_59 (by decide) ?_
  refine lv_iconst (pc := 61) (v := 0) C0.1 C0.2.1 dX8_grow_61 (by decide) ?_
  refine lv_bipush (pc := 62) (v := (-9)) C0.1 C0.2.1 dX8_grow_62 (by decide) ?_
  refine xcVI (pc := 64) 18 [.int 0, .int 0, .int (-9), .int 0, .int (-9)] (a5_X0_add l D tA b (up2 (up2 (up2 (up2 (up2 (up2 (up2 (up2 i 17 4 0) 17 5 (-9)) 18 9 0) 28 5 0) 28 8 0) 17 7 0) 17 8 (-9)) 17 9 (-9)) F G  (by exact rfl)) C0 hH hS clX0 rfl ⟨⟨Nat.le_of_ble_eq_true rfl, Nat.le_of_ble_eq_true rfl⟩, rfl, rfl⟩ cw_X8_59 rfl ⟨Nat.le_of_ble_eq_true rfl, Nat.le_of_ble_eq_true rfl⟩ hl.1 rfl (Nat.le_of_ble_eq_true rfl) dX8_grow_64 ⟨Nat.le_of_ble_eq_true rfl, Nat.le_of_ble_eq_true rfl⟩ (fun r1 ir1 Fr1 Gr1 _ locs hp hH hS => ?_)
  obtain ⟨hu, rfl⟩ := hp
  cases hu
  have hH : Hd D tA b 0 78 zz (up2 (up2 (up2 (up2 (up2 (up2 (up2 (up2 (up2 i 17 4 0) 17 5 (-9)) 18 9 0) 28 5 0) 28 8 0) 17 7 0) 17 8 (-9)) 17 9 (-9)) 18 9 1) (va_up (va_up (va_up (va_up (va_up (va_up (va_up (va_up (va_up F 19 (upd (F 19) (Int32.toNatClampNeg 0) 0)) 20 (upd (F 20) (Int32.toNatClampNeg 0) 0)) 21 (upd (F 21) (Int32.toNatClampNeg 0) (-9))) 22 (upd (F 22) (Int32.toNatClampNeg 0) 0)) 23 (upd (F 23) (Int32.toNatClampNeg 0) (-9))) 24 (upd (F 24) (Int32.toNatClampNeg 0) (-9))) 25 (upd (F 25) (Int32.toNatClampNeg 0) 0)) 26 (upd (F 26) (Int32.toNatClampNeg 0) (-9))) 27 (upd (F 27) (Int32.toNatClampNeg 0) (-9))) G _ := hH
  refine xcVV (pc := 67) 17 [.int 0] (a6_X8_pileUp l D tA b (up2 (up2 (up2 (up2 (up2 (up2 (up2 (up2 (up2 i 17 4 0) 17 5 (-9)) 18 9 0) 28 5 0) 28 8 0) 17 7 0) 17 8 (-9)) 17 9 (-9)) 18 9 1) (va_up (va_up (va_up (va_up (va_up (va_up (va_up (va_up (va_up F 19 (upd (F 19) (Int32.toNatClampNeg 0) 0)) 20 (upd (F 20) (Int32.toNatClampNeg 0) 0)) 21 (upd (F 21) (Int32.toNatClampNeg 0) (-9))) 22 (upd (F 22) (Int32.toNatClampNeg 0) 0)) 23 (upd (F 23) (Int32.toNatClampNeg 0) (-9))) 24 (upd (F 24) (Int32.toNatClampNeg 0) (-9))) 25 (upd (F 25) (Int32.toNatClampNeg 0) 0)) 26 (upd (F 26) (Int32.toNatClampNeg 0) (-9))) 27 (upd (F 27) (Int32.toNatClampNeg 0) (-9))) G  (by exact rfl) (by exact rfl)) C0 hH hS clX8 rfl ⟨⟨Nat.le_of_ble_eq_true rfl, Nat.le_of_ble_eq_true rfl⟩, rfl, rfl⟩ cw_X8_63 rfl ⟨Nat.le_of_ble_eq_true rfl, Nat.le_of_ble_eq_true rfl⟩ hl.1 rfl (Nat.le_of_ble_eq_true rfl) dX8_grow_67 ⟨Nat.le_of_ble_eq_true rfl, Nat.le_of_ble_eq_true rfl⟩ (fun ir2 Fr2 Gr2 _ locs hp hH hS => ?_)
  cases hp
  have hH : Hd D tA b 0 78 zz (up2 (up2 (up2 (up2 (up2 (up2 (up2 (up2 (up2 (up2 i 17 4 0) 17 5 (-9)) 18 9 0) 28 5 0) 28 8 0) 17 7 0) 17 8 (-9)) 17 9 (-9)) 18 9 1) 17 7 1) (va_up (va_up (va_up (va_up (va_up (va_up (va_up (va_up (va_up (va_up F 19 (upd (F 19) (Int32.toNatClampNeg 0) 0)) 20 (upd (F 20) (Int32.toNatClampNeg 0) 0)) 21 (upd (F 21) (Int32.toNatClampNeg 0) (-9))) 22 (upd (F 22) (Int32.toNatClampNeg 0) 0)) 23 (upd (F 23) (Int32.toNatClampNeg 0) (-9))) 24 (upd (F 24) (Int32.toNatClampNeg 0) (-9))) 25 (upd (F 25) (Int32.toNatClampNeg 0) 0)) 26 (upd (F 26) (Int32.toNatClampNeg 0) (-9))) 27 (upd (F 27) (Int32.toNatClampNeg 0) (-9))) 38 (upd (F 38) (Int32.toNatClampNeg 0) 0)) G _ := hH
  refine lv_iconst (pc := 70) (v := 0) C0.1 C0.2.1 dX8_grow_70 (by decide) ?_
  refine lv_istore_n (pc := 71) (lv' := [(3, .int 0), (0, .ref (b + 17)), (1, .ref (b + 9)), (2, .int 0)]) C0.1 C0.2.1 dX8_grow_71 rfl hl (by decide) rfl (fun ls hl => ?_)
  refine lv_iload_n (pc := 72) C0.1 C0.2.1 dX8_grow_72 rfl (lv_at hl 0 rfl) ?_
  refine lv_aload_n (pc := 73) C0.1 C0.2.1 dX8_grow_73 rfl (lv_at hl 2 rfl) ?_
  refine xget (pc := 74) C0 hH 9 7 clX7 ⟨Nat.le_of_ble_eq_true rfl, Nat.le_of_ble_eq_true rfl⟩ ⟨rfl, rfl⟩ (Nat.le_of_ble_eq_true rfl) fl_X8_67 (v := .int 0) (congrArg Value.int hi_9_7) dX8_grow_74 ?_
  refine lv_icmp_ge (pc := 77) (tgt := 99) C0.1 C0.2.1 dX8_grow_77 (by decide) (fun _ => ?_) (fun c => absurd (by decide) c)
  refine lv_aload_n (pc := 99) C0.1 C0.2.1 dX8_grow_99 rfl (lv_at hl 1 rfl) ?_
  refine xget (pc := 100) C0 hH 17 4 clX8 ⟨Nat.le_of_ble_eq_true rfl, Nat.le_of_ble_eq_true rfl⟩ ⟨rfl, rfl⟩ (Nat.le_of_ble_eq_true rfl) fl_X8_36 (v := .int 0) rfl dX8_grow_100 ?_
  refine lv_if_ne (pc := 103) (tgt := 112) C0.1 C0.2.1 dX8_grow_103 (by decide) (fun c => absurd (by decide) c) (fun _ => ?_)
  refine lv_aload_n (pc := 106) C0.1 C0.2.1 dX8_grow_106 rfl (lv_at hl 1 rfl) ?_
  refine lv_aload_n (pc := 107) C0.1 C0.2.1 dX8_grow_107 rfl (lv_at hl 2 rfl) ?_
  refine lv_iload_n (pc := 108) C0.1 C0.2.1 dX8_grow_108 rfl (lv_at hl 3 rfl) ?_
  refine xcVV (pc := 109) 17 [.ref (b + 9), .int 0] (a8_X8_finish l D tA b (up2 (up2 (up2 (up2 (up2 (up2 (up2 (up2 (up2 (up2 i 17 4 0) 17 5 (-9)) 18 9 0) 28 5 0) 28 8 0) 17 7 0) 17 8 (-9)) 17 9 (-9)) 18 9 1) 17 7 1) (va_up (va_up (va_up (va_up (va_up (va_up (va_up (va_up (va_up (va_up F 19 (upd (F 19) (Int32.toNatClampNeg 0) 0)) 20 (upd (F 20) (Int32.toNatClampNeg 0) 0)) 21 (upd (F 21) (Int32.toNatClampNeg 0) (-9))) 22 (upd (F 22) (Int32.toNatClampNeg 0) 0)) 23 (upd (F 23) (Int32.toNatClampNeg 0) (-9))) 24 (upd (F 24) (Int32.toNatClampNeg 0) (-9))) 25 (upd (F 25) (Int32.toNatClampNeg 0) 0)) 26 (upd (F 26) (Int32.toNatClampNeg 0) (-9))) 27 (upd (F 27) (Int32.toNatClampNeg 0) (-9))) 38 (upd (F 38) (Int32.toNatClampNeg 0) 0)) G  (by exact rfl) (by exact rfl)) C0 hH hS clX8 rfl ⟨⟨Nat.le_of_ble_eq_true rfl, Nat.le_of_ble_eq_true rfl⟩, rfl, rfl⟩ cw_X8_74 rfl ⟨Nat.le_of_ble_eq_true rfl, Nat.le_of_ble_eq_true rfl⟩ hl.1 rfl (Nat.le_of_ble_eq_true rfl) dX8_grow_109 ⟨Nat.le_of_ble_eq_true rfl, Nat.le_of_ble_eq_true rfl⟩ (fun ir3 Fr3 Gr3 _ locs hp hH hS => ?_)
  cases hp
  refine lv_aload_n (pc := 112) C0.1 C0.2.1 dX8_grow_112 rfl (lv_at hl 1 rfl) ?_
  refine xget (pc := 113) C0 hH 17 4 clX8 ⟨Nat.le_of_ble_eq_true rfl, Nat.le_of_ble_eq_true rfl⟩ ⟨rfl, rfl⟩ (Nat.le_of_ble_eq_true rfl) fl_X8_36 (v := .int 0) rfl dX8_grow_113 ?_
  refine lv_if_ne (pc := 116) (tgt := 123) C0.1 C0.2.1 dX8_grow_116 (by decide) (fun c => absurd (by decide) c) (fun _ => ?_)
  refine lv_aload_n (pc := 119) C0.1 C0.2.1 dX8_grow_119 rfl (lv_at hl 1 rfl) ?_
  refine xcVV (pc := 120) 17 [] (a9_X8_spreadEnds l D tA b (up2 (up2 (up2 (up2 (up2 (up2 (up2 (up2 (up2 (up2 i 17 4 0) 17 5 (-9)) 18 9 0) 28 5 0) 28 8 0) 17 7 0) 17 8 (-9)) 17 9 (-9)) 18 9 1) 17 7 1) (va_up (va_up (va_up (va_up (va_up (va_up (va_up (va_up (va_up (va_up F 19 (upd (F 19) (Int32.toNatClampNeg 0) 0)) 20 (upd (F 20) (Int32.toNatClampNeg 0) 0)) 21 (upd (F 21) (Int32.toNatClampNeg 0) (-9))) 22 (upd (F 22) (Int32.toNatClampNeg 0) 0)) 23 (upd (F 23) (Int32.toNatClampNeg 0) (-9))) 24 (upd (F 24) (Int32.toNatClampNeg 0) (-9))) 25 (upd (F 25) (Int32.toNatClampNeg 0) 0)) 26 (upd (F 26) (Int32.toNatClampNeg 0) (-9))) 27 (upd (F 27) (Int32.toNatClampNeg 0) (-9))) 38 (upd (F 38) (Int32.toNatClampNeg 0) 0)) G  (by exact rfl)) C0 hH hS clX8 rfl ⟨⟨Nat.le_of_ble_eq_true rfl, Nat.le_of_ble_eq_true rfl⟩, rfl, rfl⟩ cw_X8_77 rfl ⟨Nat.le_of_ble_eq_true rfl, Nat.le_of_ble_eq_true rfl⟩ hl.1 rfl (Nat.le_of_ble_eq_true rfl) dX8_grow_120 ⟨Nat.le_of_ble_eq_true rfl, Nat.le_of_ble_eq_true rfl⟩ (fun ir4 Fr4 Gr4 _ locs hp hH hS => ?_)
  cases hp
  exact xvret (pc := 123) C0 hr hH hS dX8_grow_123 rfl
set_option maxHeartbeats 4000000 in
set_option maxRecDepth 100000 in
theorem a1_X4_make (l : Launch) (D : va_G) (tA : Nat → ClassId) (b : Nat) (i F : Nat → Nat → Int32) (G : Nat → Nat → Int64)  (hi_4_1 : i 4 1 = 0) (hi_1_7 : i 1 7 = 0) : xMV l yX4_make cX4_make 3 none 3 65 D tA b 0 78 i F G [.ref (b + 8), .ref (b + 4), .ref (b + 1)] (fun u => u = ((up2 (up2 (up2 (up2 (up2 (up2 (up2 (up2 (up2 (up2 (up2 (up2 (up2 (up2 (up2 (up2 (up2 (up2 (up2 (up2 (up2 (up2 (up2 i 9 7 0) 9 8 0) 9 9 (-9)) 9 10 0) 9 11 0) 9 12 0) 9 13 1) 8 2 0) 8 3 (-9)) 17 4 0) 17 5 (-9)) 18 9 0) 28 5 0) 28 8 0) 17 7 0) 17 8 (-9)) 17 9 (-9)) 18 9 1) 17 7 1) 8 2 0) 8 3 (-9)) 8 4 (-9)) 8 5 (-9)), (va_up (va_up (va_up (va_up (va_up (va_up (va_up (va_up (va_up (va_up F 19 (upd (F 19) (Int32.toNatClampNeg 0) 0)) 20 (upd (F 20) (Int32.toNatClampNeg 0) 0)) 21 (upd (F 21) (Int32.toNatClampNeg 0) (-9))) 22 (upd (F 22) (Int32.toNatClampNeg 0) 0)) 23 (upd (F 23) (Int32.toNatClampNeg 0) (-9))) 24 (upd (F 24) (Int32.toNatClampNeg 0) (-9))) 25 (upd (F 25) (Int32.toNatClampNeg 0) 0)) 26 (upd (F 26) (Int32.toNatClampNeg 0) (-9))) 27 (upd (F 27) (Int32.toNatClampNeg 0) (-9))) 38 (upd (F 38) (Int32.toNatClampNeg 0) 0)), G)) := by
  refine xstart RX4 rfl (by decide) (Nat.le_of_ble_eq_true rfl) ?_
  intro p e s m below meth c ls C0 hr hH hS hl
  have hl : lv_has ls 3 [(0, .ref (b + 8)), (1, .ref (b + 4)), (2, .ref (b + 1))] := hl
  refine lv_aload_n (pc := 0) C0.1 C0.2.1 dX4_make_0 rfl (lv_at hl 0 rfl) ?_
  refine xget (pc := 1) C0 hH 8 0 clX4 ⟨Nat.le_of_ble_eq_true rfl, Nat.le_of_ble_eq_true rfl⟩ ⟨rfl, rfl⟩ (Nat.le_of_ble_eq_true rfl) fl_X4_12 (v := .ref (b + 9)) rfl dX4_make_1 ?_
  refine lv_aload_n (pc := 4) C0.1 C0.2.1 dX4_make_4 rfl (lv_at hl 1 rfl) ?_
  refine lv_aload_n (pc := 5) C0.1 C0.2.1 dX4_make_5 rfl (lv_at hl 2 rfl) ?_
  refine xcVV (pc := 6) 9 [.ref (b + 4), .ref (b + 1)] (a2_X7_scan l D tA b i F G  (by exact hi_4_1) (by exact hi_1_7)) C0 hH hS clX7 rfl ⟨⟨Nat.le_of_ble_eq_true rfl, Nat.le_of_ble_eq_true rfl⟩, rfl, rfl⟩ cw_X4_38 rfl ⟨Nat.le_of_ble_eq_true rfl, Nat.le_of_ble_eq_true rfl⟩ hl.1 rfl (Nat.le_of_ble_eq_true rfl) dX4_make_6 ⟨Nat.le_of_ble_eq_true rfl, Nat.le_of_ble_eq_true rfl⟩ (fun ir1 Fr1 Gr1 _ locs hp hH hS => ?_)
  cases hp
  have hH : Hd D tA b 0 78 zz (up2 (up2 (up2 (up2 (up2 (up2 (up2 i 9 7 0) 9 8 0) 9 9 (-9)) 9 10 0) 9 11 0) 9 12 0) 9 13 1) F G _ := hH
  refine lv_aload_n (pc := 9) C0.1 C0.2.1 dX4_make_9 rfl (lv_at hl 0 rfl) ?_
  refine lv_aload_n (pc := 10) C0.1 C0.2.1 dX4_make_10 rfl (lv_at hl 0 rfl) ?_
  refine xget (pc := 11) C0 hH 8 0 clX4 ⟨Nat.le_of_ble_eq_true rfl, Nat.le_of_ble_eq_true rfl⟩ ⟨rfl, rfl⟩ (Nat.le_of_ble_eq_true rfl) fl_X4_12 (v := .ref (b + 9)) rfl dX4_make_11 ?_
  refine xget (pc := 14) C0 hH 9 8 clX7 ⟨Nat.le_of_ble_eq_true rfl, Nat.le_of_ble_eq_true rfl⟩ ⟨rfl, rfl⟩ (Nat.le_of_ble_eq_true rfl) fl_X4_42 (v := .int 0) rfl dX4_make_14 ?_
  refine xputI (pc := 17) C0 (Nat.le_of_ble_eq_true rfl) hH hS 8 2 clX4 ⟨Nat.le_of_ble_eq_true rfl, Nat.le_of_ble_eq_true rfl⟩ ⟨rfl, rfl⟩ ⟨Nat.le_of_ble_eq_true rfl, rfl, rfl⟩ fl_X4_25 (x := 0) ⟨rfl, rfl⟩ dX4_make_17 (fun _ locs hH hS _ => ?_)
  have hH : Hd D tA b 0 78 zz (up2 (up2 (up2 (up2 (up2 (up2 (up2 (up2 i 9 7 0) 9 8 0) 9 9 (-9)) 9 10 0) 9 11 0) 9 12 0) 9 13 1) 8 2 0) F G _ := hH
  refine lv_aload_n (pc := 20) C0.1 C0.2.1 dX4_make_20 rfl (lv_at hl 0 rfl) ?_
  refine lv_aload_n (pc := 21) C0.1 C0.2.1 dX4_make_21 rfl (lv_at hl 0 rfl) ?_
  refine xget (pc := 22) C0 hH 8 0 clX4 ⟨Nat.le_of_ble_eq_true rfl, Nat.le_of_ble_eq_true rfl⟩ ⟨rfl, rfl⟩ (Nat.le_of_ble_eq_true rfl) fl_X4_12 (v := .ref (b + 9)) rfl dX4_make_22 ?_
  refine xget (pc := 25) C0 hH 9 9 clX7 ⟨Nat.le_of_ble_eq_true rfl, Nat.le_of_ble_eq_true rfl⟩ ⟨rfl, rfl⟩ (Nat.le_of_ble_eq_true rfl) fl_X4_43 (v := .int (-9)) rfl dX4_make_25 ?_
  refine xputI (pc := 28) C0 (Nat.le_of_ble_eq_true rfl) hH hS 8 3 clX4 ⟨Nat.le_of_ble_eq_true rfl, Nat.le_of_ble_eq_true rfl⟩ ⟨rfl, rfl⟩ ⟨Nat.le_of_ble_eq_true rfl, rfl, rfl⟩ fl_X4_29 (x := (-9)) ⟨rfl, rfl⟩ dX4_make_28 (fun _ locs hH hS _ => ?_)
  have hH : Hd D tA b 0 78 zz (up2 (up2 (up2 (up2 (up2 (up2 (up2 (up2 (up2 i 9 7 0) 9 8 0) 9 9 (-9)) 9 10 0) 9 11 0) 9 12 0) 9 13 1) 8 2 0) 8 3 (-9)) F G _ := hH
  refine lv_aload_n (pc := 31) C0.1 C0.2.1 dX4_make_31 rfl (lv_at hl 0 rfl) ?_
  refine xget (pc := 32) C0 hH 8 2 clX4 ⟨Nat.le_of_ble_eq_true rfl, Nat.le_of_ble_eq_true rfl⟩ ⟨rfl, rfl⟩ (Nat.le_of_ble_eq_true rfl) fl_X4_25 (v := .int 0) rfl dX4_make_32 ?_
  refine lv_if_ne (pc := 35) (tgt := 75) C0.1 C0.2.1 dX4_make_35 (by decide) (fun c => absurd (by decide) c) (fun _ => ?_)
  refine lv_aload_n (pc := 38) C0.1 C0.2.1 dX4_make_38 rfl (lv_at hl 0 rfl) ?_
  refine xget (pc := 39) C0 hH 8 1 clX4 ⟨Nat.le_of_ble_eq_true rfl, Nat.le_of_ble_eq_true rfl⟩ ⟨rfl, rfl⟩ (Nat.le_of_ble_eq_true rfl) fl_X4_21 (v := .ref (b + 17)) rfl dX4_make_39 ?_
  refine lv_aload_n (pc := 42) C0.1 C0.2.1 dX4_make_42 rfl (lv_at hl 0 rfl) ?_
  refine xget (pc := 43) C0 hH 8 0 clX4 ⟨Nat.le_of_ble_eq_true rfl, Nat.le_of_ble_eq_true rfl⟩ ⟨rfl, rfl⟩ (Nat.le_of_ble_eq_true rfl) fl_X4_12 (v := .ref (b + 9)) rfl dX4_make_43 ?_
  refine lv_aload_n (pc := 46) C0.1 C0.2.1 dX4_make_46 rfl (lv_at hl 1 rfl) ?_
  refine xget (pc := 47) C0 hH 4 1 clX6 ⟨Nat.le_of_ble_eq_true rfl, Nat.le_of_ble_eq_true rfl⟩ ⟨rfl, rfl⟩ (Nat.le_of_ble_eq_true rfl) fl_X4_44 (v := .int 0) (congrArg Value.int hi_4_1) dX4_make_47 ?_
  refine xcVV (pc := 50) 17 [.ref (b + 9), .int 0] (a4_X8_grow l D tA b (up2 (up2 (up2 (up2 (up2 (up2 (up2 (up2 (up2 i 9 7 0) 9 8 0) 9 9 (-9)) 9 10 0) 9 11 0) 9 12 0) 9 13 1) 8 2 0) 8 3 (-9)) F G  (by exact rfl)) C0 hH hS clX8 rfl ⟨⟨Nat.le_of_ble_eq_true rfl, Nat.le_of_ble_eq_true rfl⟩, rfl, rfl⟩ cw_X4_49 rfl ⟨Nat.le_of_ble_eq_true rfl, Nat.le_of_ble_eq_true rfl⟩ hl.1 rfl (Nat.le_of_ble_eq_true rfl) dX4_make_50 ⟨Nat.le_of_ble_eq_true rfl, Nat.le_of_ble_eq_true rfl⟩ (fun ir2 Fr2 Gr2 _ locs hp hH hS => ?_)
  cases hp
  have hH : Hd D tA b 0 78 zz (up2 (up2 (up2 (up2 (up2 (up2 (up2 (up2 (up2 (up2 (up2 (up2 (up2 (up2 (up2 (up2 (up2 (up2 (up2 i 9 7 0) 9 8 0) 9 9 (-9)) 9 10 0) 9 11 0) 9 12 0) 9 13 1) 8 2 0) 8 3 (-9)) 17 4 0) 17 5 (-9)) 18 9 0) 28 5 0) 28 8 0) 17 7 0) 17 8 (-9)) 17 9 (-9)) 18 9 1) 17 7 1) (va_up (va_up (va_up (va_up (va_up (va_up (va_up (va_up (va_up (va_up F 19 (upd (F 19) (Int32.toNatClampNeg 0) 0)) 20 (upd (F 20) (Int32.toNatClampNeg 0) 0)) 21 (upd (F 21) (Int32.toNatClampNeg 0) (-9))) 22 (upd (F 22) (Int32.toNatClampNeg 0) 0)) 23 (upd (F 23) (Int32.toNatClampNeg 0) (-9))) 24 (upd (F 24) (Int32.toNatClampNeg 0) (-9))) 25 (upd (F 25) (Int32.toNatClampNeg 0) 0)) 26 (upd (F 26) (Int32.toNatClampNeg 0) (-9))) 27 (upd (F 27) (Int32.toNatClampNeg 0) (-9))) 38 (upd (F 38) (Int32.toNatClampNeg 0) 0)) G _ := hH
  refine lv_aload_n (pc := 53) C0.1 C0.2.1 dX4_make_53 rfl (lv_at hl 0 rfl) ?_
  refine lv_aload_n (pc := 54) C0.1 C0.2.1 dX4_make_54 rfl (lv_at hl 0 rfl) ?_
  refine xget (pc := 55) C0 hH 8 1 clX4 ⟨Nat.le_of_ble_eq_true rfl, Nat.le_of_ble_eq_true rfl⟩ ⟨rfl, rfl⟩ (Nat.le_of_ble_eq_true rfl) fl_X4_21 (v := .ref (b + 17)) rfl dX4_make_55 ?_
  refine xget (pc := 58) C0 hH 17 4 clX8 ⟨Nat.le_of_ble_eq_true rfl, Nat.le_of_ble_eq_true rfl⟩ ⟨rfl, rfl⟩ (Nat.le_of_ble_eq_true rfl) fl_X4_53 (v := .int 0) rfl dX4_make_58 ?_
  refine xputI (pc := 61) C0 (Nat.le_of_ble_eq_true rfl) hH hS 8 2 clX4 ⟨Nat.le_of_ble_eq_true rfl, Nat.le_of_ble_eq_true rfl⟩ ⟨rfl, rfl⟩ ⟨Nat.le_of_ble_eq_true rfl, rfl, rfl⟩ fl_X4_25 (x := 0) ⟨rfl, rfl⟩ dX4_make_61 (fun _ locs hH hS _ => ?_)
  have hH : Hd D tA b 0 78 zz (up2 (up2 (up2 (up2 (up2 (up2 (up2 (up2 (up2 (up2 (up2 (up2 (up2 (up2 (up2 (up2 (up2 (up2 (up2 (up2 i 9 7 0) 9 8 0) 9 9 (-9)) 9 10 0) 9 11 0) 9 12 0) 9 13 1) 8 2 0) 8 3 (-9)) 17 4 0) 17 5 (-9)) 18 9 0) 28 5 0) 28 8 0) 17 7 0) 17 8 (-9)) 17 9 (-9)) 18 9 1) 17 7 1) 8 2 0) (va_up (va_up (va_up (va_up (va_up (va_up (va_up (va_up (va_up (va_up F 19 (upd (F 19) (Int32.toNatClampNeg 0) 0)) 20 (upd (F 20) (Int32.toNatClampNeg 0) 0)) 21 (upd (F 21) (Int32.toNatClampNeg 0) (-9))) 22 (upd (F 22) (Int32.toNatClampNeg 0) 0)) 23 (upd (F 23) (Int32.toNatClampNeg 0) (-9))) 24 (upd (F 24) (Int32.toNatClampNeg 0) (-9))) 25 (upd (F 25) (Int32.toNatClampNeg 0) 0)) 26 (upd (F 26) (Int32.toNatClampNeg 0) (-9))) 27 (upd (F 27) (Int32.toNatClampNeg 0) (-9))) 38 (upd (F 38) (Int32.toNatClampNeg 0) 0)) G _ := hH
  refine lv_aload_n (pc := 64) C0.1 C0.2.1 dX4_make_64 rfl (lv_at hl 0 rfl) ?_
  refine lv_aload_n (pc := 65) C0.1 C0.2.1 dX4_make_65 rfl (lv_at hl 0 rfl) ?_
  refine xget (pc := 66) C0 hH 8 1 clX4 ⟨Nat.le_of_ble_eq_true rfl, Nat.le_of_ble_eq_true rfl⟩ ⟨rfl, rfl⟩ (Nat.le_of_ble_eq_true rfl) fl_X4_21 (v := .ref (b + 17)) rfl dX4_make_66 ?_
  refine xget (pc := 69) C0 hH 17 5 clX8 ⟨Nat.le_of_ble_eq_true rfl, Nat.le_of_ble_eq_true rfl⟩ ⟨rfl, rfl⟩ (Nat.le_of_ble_eq_true rfl) fl_X4_54 (v := .int (-9)) rfl dX4_make_69 ?_
  refine xputI (pc := 72) C0 (Nat.le_of_ble_eq_true rfl) hH hS 8 3 clX4 ⟨Nat.le_of_ble_eq_true rfl, Nat.le_of_ble_eq_true rfl⟩ ⟨rfl, rfl⟩ ⟨Nat.le_of_ble_eq_true rfl, rfl, rfl⟩ fl_X4_29 (x := (-9)) ⟨rfl, rfl⟩ dX4_make_72 (fun _ locs hH hS _ => ?_)
  have hH : Hd D tA b 0 78 zz (up2 (up2 (up2 (up2 (up2 (up2 (up2 (up2 (up2 (up2 (up2 (up2 (up2 (up2 (up2 (up2 (up2 (up2 (up2 (up2 (up2 i 9 7 0) 9 8 0) 9 9 (-9)) 9 10 0) 9 11 0) 9 12 0) 9 13 1) 8 2 0) 8 3 (-9)) 17 4 0) 17 5 (-9)) 18 9 0) 28 5 0) 28 8 0) 17 7 0) 17 8 (-9)) 17 9 (-9)) 18 9 1) 17 7 1) 8 2 0) 8 3 (-9)) (va_up (va_up (va_up (va_up (va_up (va_up (va_up (va_up (va_up (va_up F 19 (upd (F 19) (Int32.toNatClampNeg 0) 0)) 20 (upd (F 20) (Int32.toNatClampNeg 0) 0)) 21 (upd (F 21) (Int32.toNatClampNeg 0) (-9))) 22 (upd (F 22) (Int32.toNatClampNeg 0) 0)) 23 (upd (F 23) (Int32.toNatClampNeg 0) (-9))) 24 (upd (F 24) (Int32.toNatClampNeg 0) (-9))) 25 (upd (F 25) (Int32.toNatClampNeg 0) 0)) 26 (upd (F 26) (Int32.toNatClampNeg 0) (-9))) 27 (upd (F 27) (Int32.toNatClampNeg 0) (-9))) 38 (upd (F 38) (Int32.toNatClampNeg 0) 0)) G _ := hH
  refine lv_aload_n (pc := 75) C0.1 C0.2.1 dX4_make_75 rfl (lv_at hl 0 rfl) ?_
  refine lv_aload_n (pc := 76) C0.1 C0.2.1 dX4_make_76 rfl (lv_at hl 0 rfl) ?_
  refine xget (pc := 77) C0 hH 8 2 clX4 ⟨Nat.le_of_ble_eq_true rfl, Nat.le_of_ble_eq_true rfl⟩ ⟨rfl, rfl⟩ (Nat.le_of_ble_eq_true rfl) fl_X4_25 (v := .int 0) rfl dX4_make_77 ?_
  refine lv_if_ne (pc := 80) (tgt := 88) C0.1 C0.2.1 dX4_make_80 (by decide) (fun c => absurd (by decide) c) (fun _ => ?_)
  refine lv_bipush (pc := 83) (v := (-9)) C0.1 C0.2.1 dX4_make_83 (by decide) ?_
  refine lv_goto (pc := 85) (tgt := 96) C0.1 C0.2.1 dX4_make_85 (by decide) ?_
  refine xputI (pc := 96) C0 (Nat.le_of_ble_eq_true rfl) hH hS 8 4 clX4 ⟨Nat.le_of_ble_eq_true rfl, Nat.le_of_ble_eq_true rfl⟩ ⟨rfl, rfl⟩ ⟨Nat.le_of_ble_eq_true rfl, rfl, rfl⟩ fl_X4_32 (x := (-9)) ⟨rfl, rfl⟩ dX4_make_96 (fun _ locs hH hS _ => ?_)
  have hH : Hd D tA b 0 78 zz (up2 (up2 (up2 (up2 (up2 (up2 (up2 (up2 (up2 (up2 (up2 (up2 (up2 (up2 (up2 (up2 (up2 (up2 (up2 (up2 (up2 (up2 i 9 7 0) 9 8 0) 9 9 (-9)) 9 10 0) 9 11 0) 9 12 0) 9 13 1) 8 2 0) 8 3 (-9)) 17 4 0) 17 5 (-9)) 18 9 0) 28 5 0) 28 8 0) 17 7 0) 17 8 (-9)) 17 9 (-9)) 18 9 1) 17 7 1) 8 2 0) 8 3 (-9)) 8 4 (-9)) (va_up (va_up (va_up (va_up (va_up (va_up (va_up (va_up (va_up (va_up F 19 (upd (F 19) (Int32.toNatClampNeg 0) 0)) 20 (upd (F 20) (Int32.toNatClampNeg 0) 0)) 21 (upd (F 21) (Int32.toNatClampNeg 0) (-9))) 22 (upd (F 22) (Int32.toNatClampNeg 0) 0)) 23 (upd (F 23) (Int32.toNatClampNeg 0) (-9))) 24 (upd (F 24) (Int32.toNatClampNeg 0) (-9))) 25 (upd (F 25) (Int32.toNatClampNeg 0) 0)) 26 (upd (F 26) (Int32.toNatClampNeg 0) (-9))) 27 (upd (F 27) (Int32.toNatClampNeg 0) (-9))) 38 (upd (F 38) (Int32.toNatClampNeg 0) 0)) G _ := hH
  refine lv_aload_n (pc := 99) C0.1 C0.2.1 dX4_make_99 rfl (lv_at hl 0 rfl) ?_
  refine lv_aload_n (pc := 100) C0.1 C0.2.1 dX4_make_100 rfl (lv_at hl 0 rfl) ?_
  refine xget (pc := 101) C0 hH 8 2 clX4 ⟨Nat.le_of_ble_eq_true rfl, Nat.le_of_ble_eq_true rfl⟩ ⟨rfl, rfl⟩ (Nat.le_of_ble_eq_true rfl) fl_X4_25 (v := .int 0) rfl dX4_make_101 ?_
  refine lv_if_ne (pc := 104) (tgt := 112) C0.1 C0.2.1 dX4_make_104 (by decide) (fun c => absurd (by decide) c) (fun _ => ?_)
  refine lv_bipush (pc := 107) (v := (-9)) C0.1 C0.2.1 dX4_make_107 (by decide) ?_
  refine lv_goto (pc := 109) (tgt := 124) C0.1 C0.2.1 dX4_make_109 (by decide) ?_
  refine xputI (pc := 124) C0 (Nat.le_of_ble_eq_true rfl) hH hS 8 5 clX4 ⟨Nat.le_of_ble_eq_true rfl, Nat.le_of_ble_eq_true rfl⟩ ⟨rfl, rfl⟩ ⟨Nat.le_of_ble_eq_true rfl, rfl, rfl⟩ fl_X4_35 (x := (-9)) ⟨rfl, rfl⟩ dX4_make_124 (fun _ locs hH hS _ => ?_)
  have hH : Hd D tA b 0 78 zz (up2 (up2 (up2 (up2 (up2 (up2 (up2 (up2 (up2 (up2 (up2 (up2 (up2 (up2 (up2 (up2 (up2 (up2 (up2 (up2 (up2 (up2 (up2 i 9 7 0) 9 8 0) 9 9 (-9)) 9 10 0) 9 11 0) 9 12 0) 9 13 1) 8 2 0) 8 3 (-9)) 17 4 0) 17 5 (-9)) 18 9 0) 28 5 0) 28 8 0) 17 7 0) 17 8 (-9)) 17 9 (-9)) 18 9 1) 17 7 1) 8 2 0) 8 3 (-9)) 8 4 (-9)) 8 5 (-9)) (va_up (va_up (va_up (va_up (va_up (va_up (va_up (va_up (va_up (va_up F 19 (upd (F 19) (Int32.toNatClampNeg 0) 0)) 20 (upd (F 20) (Int32.toNatClampNeg 0) 0)) 21 (upd (F 21) (Int32.toNatClampNeg 0) (-9))) 22 (upd (F 22) (Int32.toNatClampNeg 0) 0)) 23 (upd (F 23) (Int32.toNatClampNeg 0) (-9))) 24 (upd (F 24) (Int32.toNatClampNeg 0) (-9))) 25 (upd (F 25) (Int32.toNatClampNeg 0) 0)) 26 (upd (F 26) (Int32.toNatClampNeg 0) (-9))) 27 (upd (F 27) (Int32.toNatClampNeg 0) (-9))) 38 (upd (F 38) (Int32.toNatClampNeg 0) 0)) G _ := hH
  exact xvret (pc := 127) C0 hr hH hS dX4_make_127 rfl
set_option maxHeartbeats 4000000 in
set_option maxRecDepth 100000 in
theorem p_X9_read (l : Launch) (D : va_G) (tA : Nat → ClassId) (b : Nat) (i F : Nat → Nat → Int32) (G : Nat → Nat → Int64)  (hi_4_1 : i 4 1 = 0) (hi_1_7 : i 1 7 = 0) : xMI l yX9_read cX9_read 1 (some .int) 4 87 D tA b 0 78 i F G [.ref (b + 0)] (fun r _ => r = 0) := by
  refine xstart RX9 rfl (by decide) (Nat.le_of_ble_eq_true rfl) ?_
  intro p e s m below meth c ls C0 hr hH hS hl
  have hl : lv_has ls 1 [(0, .ref (b + 0))] := hl
  refine lv_aload_n (pc := 0) C0.1 C0.2.1 dX9_read_0 rfl (lv_at hl 0 rfl) ?_
  refine xget (pc := 1) C0 hH 0 3 clX9 ⟨Nat.le_of_ble_eq_true rfl, Nat.le_of_ble_eq_true rfl⟩ ⟨rfl, rfl⟩ (Nat.le_of_ble_eq_true rfl) fl_X9_29 (v := .ref (b + 8)) rfl dX9_read_1 ?_
  refine lv_aload_n (pc := 4) C0.1 C0.2.1 dX9_read_4 rfl (lv_at hl 0 rfl) ?_
  refine xget (pc := 5) C0 hH 0 1 clX9 ⟨Nat.le_of_ble_eq_true rfl, Nat.le_of_ble_eq_true rfl⟩ ⟨rfl, rfl⟩ (Nat.le_of_ble_eq_true rfl) fl_X9_19 (v := .ref (b + 4)) rfl dX9_read_5 ?_
  refine lv_aload_n (pc := 8) C0.1 C0.2.1 dX9_read_8 rfl (lv_at hl 0 rfl) ?_
  refine xget (pc := 9) C0 hH 0 0 clX9 ⟨Nat.le_of_ble_eq_true rfl, Nat.le_of_ble_eq_true rfl⟩ ⟨rfl, rfl⟩ (Nat.le_of_ble_eq_true rfl) fl_X9_12 (v := .ref (b + 1)) rfl dX9_read_9 ?_
  refine xcVV (pc := 12) 8 [.ref (b + 4), .ref (b + 1)] (a1_X4_make l D tA b i F G  (by exact hi_4_1) (by exact hi_1_7)) C0 hH hS clX4 rfl ⟨⟨Nat.le_of_ble_eq_true rfl, Nat.le_of_ble_eq_true rfl⟩, rfl, rfl⟩ cw_X9_108 rfl ⟨Nat.le_of_ble_eq_true rfl, Nat.le_of_ble_eq_true rfl⟩ hl.1 rfl (Nat.le_of_ble_eq_true rfl) dX9_read_12 ⟨Nat.le_of_ble_eq_true rfl, Nat.le_of_ble_eq_true rfl⟩ (fun ir1 Fr1 Gr1 _ locs hp hH hS => ?_)
  cases hp
  have hH : Hd D tA b 0 78 zz (up2 (up2 (up2 (up2 (up2 (up2 (up2 (up2 (up2 (up2 (up2 (up2 (up2 (up2 (up2 (up2 (up2 (up2 (up2 (up2 (up2 (up2 (up2 i 9 7 0) 9 8 0) 9 9 (-9)) 9 10 0) 9 11 0) 9 12 0) 9 13 1) 8 2 0) 8 3 (-9)) 17 4 0) 17 5 (-9)) 18 9 0) 28 5 0) 28 8 0) 17 7 0) 17 8 (-9)) 17 9 (-9)) 18 9 1) 17 7 1) 8 2 0) 8 3 (-9)) 8 4 (-9)) 8 5 (-9)) (va_up (va_up (va_up (va_up (va_up (va_up (va_up (va_up (va_up (va_up F 19 (upd (F 19) (Int32.toNatClampNeg 0) 0)) 20 (upd (F 20) (Int32.toNatClampNeg 0) 0)) 21 (upd (F 21) (Int32.toNatClampNeg 0) (-9))) 22 (upd (F 22) (Int32.toNatClampNeg 0) 0)) 23 (upd (F 23) (Int32.toNatClampNeg 0) (-9))) 24 (upd (F 24) (Int32.toNatClampNeg 0) (-9))) 25 (upd (F 25) (Int32.toNatClampNeg 0) 0)) 26 (upd (F 26) (Int32.toNatClampNeg 0) (-9))) 27 (upd (F 27) (Int32.toNatClampNeg 0) (-9))) 38 (upd (F 38) (Int32.toNatClampNeg 0) 0)) G _ := hH
  refine lv_aload_n (pc := 15) C0.1 C0.2.1 dX9_read_15 rfl (lv_at hl 0 rfl) ?_
  refine xget (pc := 16) C0 hH 0 3 clX9 ⟨Nat.le_of_ble_eq_true rfl, Nat.le_of_ble_eq_true rfl⟩ ⟨rfl, rfl⟩ (Nat.le_of_ble_eq_true rfl) fl_X9_29 (v := .ref (b + 8)) rfl dX9_read_16 ?_
  refine xget (pc := 19) C0 hH 8 2 clX4 ⟨Nat.le_of_ble_eq_true rfl, Nat.le_of_ble_eq_true rfl⟩ ⟨rfl, rfl⟩ (Nat.le_of_ble_eq_true rfl) fl_X9_112 (v := .int 0) rfl dX9_read_19 ?_
  refine lv_if_eq (pc := 22) (tgt := 41) C0.1 C0.2.1 dX9_read_22 (by decide) (fun _ => ?_) (fun c => absurd (by decide) c)
  refine lv_aload_n (pc := 41) C0.1 C0.2.1 dX9_read_41 rfl (lv_at hl 0 rfl) ?_
  refine lv_iconst (pc := 42) (v := 1) C0.1 C0.2.1 dX9_read_42 (by decide) ?_
  refine xputI (pc := 43) C0 (Nat.le_of_ble_eq_true rfl) hH hS 0 8 clX9 ⟨Nat.le_of_ble_eq_true rfl, Nat.le_of_ble_eq_true rfl⟩ ⟨rfl, rfl⟩ ⟨Nat.le_of_ble_eq_true rfl, rfl, rfl⟩ fl_X9_53 (x := 1) ⟨rfl, rfl⟩ dX9_read_43 (fun _ locs hH hS _ => ?_)
  have hH : Hd D tA b 0 78 zz (up2 (up2 (up2 (up2 (up2 (up2 (up2 (up2 (up2 (up2 (up2 (up2 (up2 (up2 (up2 (up2 (up2 (up2 (up2 (up2 (up2 (up2 (up2 (up2 i 9 7 0) 9 8 0) 9 9 (-9)) 9 10 0) 9 11 0) 9 12 0) 9 13 1) 8 2 0) 8 3 (-9)) 17 4 0) 17 5 (-9)) 18 9 0) 28 5 0) 28 8 0) 17 7 0) 17 8 (-9)) 17 9 (-9)) 18 9 1) 17 7 1) 8 2 0) 8 3 (-9)) 8 4 (-9)) 8 5 (-9)) 0 8 1) (va_up (va_up (va_up (va_up (va_up (va_up (va_up (va_up (va_up (va_up F 19 (upd (F 19) (Int32.toNatClampNeg 0) 0)) 20 (upd (F 20) (Int32.toNatClampNeg 0) 0)) 21 (upd (F 21) (Int32.toNatClampNeg 0) (-9))) 22 (upd (F 22) (Int32.toNatClampNeg 0) 0)) 23 (upd (F 23) (Int32.toNatClampNeg 0) (-9))) 24 (upd (F 24) (Int32.toNatClampNeg 0) (-9))) 25 (upd (F 25) (Int32.toNatClampNeg 0) 0)) 26 (upd (F 26) (Int32.toNatClampNeg 0) (-9))) 27 (upd (F 27) (Int32.toNatClampNeg 0) (-9))) 38 (upd (F 38) (Int32.toNatClampNeg 0) 0)) G _ := hH
  refine lv_aload_n (pc := 46) C0.1 C0.2.1 dX9_read_46 rfl (lv_at hl 0 rfl) ?_
  refine xget (pc := 47) C0 hH 0 3 clX9 ⟨Nat.le_of_ble_eq_true rfl, Nat.le_of_ble_eq_true rfl⟩ ⟨rfl, rfl⟩ (Nat.le_of_ble_eq_true rfl) fl_X9_29 (v := .ref (b + 8)) rfl dX9_read_47 ?_
  refine xget (pc := 50) C0 hH 8 0 clX4 ⟨Nat.le_of_ble_eq_true rfl, Nat.le_of_ble_eq_true rfl⟩ ⟨rfl, rfl⟩ (Nat.le_of_ble_eq_true rfl) fl_X9_118 (v := .ref (b + 9)) rfl dX9_read_50 ?_
  refine xget (pc := 53) C0 hH 9 7 clX7 ⟨Nat.le_of_ble_eq_true rfl, Nat.le_of_ble_eq_true rfl⟩ ⟨rfl, rfl⟩ (Nat.le_of_ble_eq_true rfl) fl_X9_122 (v := .int 0) rfl dX9_read_53 ?_
  exact xiret (pc := 56) C0 hr hH hS dX9_read_56 rfl
set_option maxHeartbeats 4000000 in
set_option maxRecDepth 100000 in
theorem p_X9_token (l : Launch) (D : va_G) (tA : Nat → ClassId) (b : Nat) (i F : Nat → Nat → Int32) (G : Nat → Nat → Int64) (k x : Int32) (hi_0_8 : i 0 8 = 0) : xMI l yX9_token cX9_token 3 (some .int) 0 0 D tA b 0 78 i F G [.ref (b + 0), .int k, .int x] (fun r _ => r = -3) := by
  refine xstart RX9 rfl (by decide) (Nat.le_of_ble_eq_true rfl) ?_
  intro p e s m below meth c ls C0 hr hH hS hl
  have hl : lv_has ls 3 [(0, .ref (b + 0)), (1, .int k), (2, .int x)] := hl
  refine lv_aload_n (pc := 0) C0.1 C0.2.1 dX9_token_0 rfl (lv_at hl 0 rfl) ?_
  refine xget (pc := 1) C0 hH 0 8 clX9 ⟨Nat.le_of_ble_eq_true rfl, Nat.le_of_ble_eq_true rfl⟩ ⟨rfl, rfl⟩ (Nat.le_of_ble_eq_true rfl) fl_X9_53 (v := .int 0) (congrArg Value.int hi_0_8) dX9_token_1 ?_
  refine lv_iconst (pc := 4) (v := 1) C0.1 C0.2.1 dX9_token_4 (by decide) ?_
  refine lv_icmp_eq (pc := 5) (tgt := 11) C0.1 C0.2.1 dX9_token_5 (by decide) (fun c => absurd c (by decide)) (fun _ => ?_)
  refine lv_bipush (pc := 8) (v := (-3)) C0.1 C0.2.1 dX9_token_8 (by decide) ?_
  exact xiret (pc := 10) C0 hr hH hS dX9_token_10 rfl
set_option maxHeartbeats 4000000 in
set_option maxRecDepth 100000 in
theorem p_X9_block (l : Launch) (D : va_G) (tA : Nat → ClassId) (b : Nat) (i F : Nat → Nat → Int32) (G : Nat → Nat → Int64) (k x : Int32) (hi_0_8 : i 0 8 = 0) : xMI l yX9_block cX9_block 4 (some .int) 0 0 D tA b 0 78 i F G [.ref (b + 0), .int k, .int x] (fun r _ => r = -3) := by
  refine xstart RX9 rfl (by decide) (Nat.le_of_ble_eq_true rfl) ?_
  intro p e s m below meth c ls C0 hr hH hS hl
  have hl : lv_has ls 4 [(0, .ref (b + 0)), (1, .int k), (2, .int x)] := hl
  refine lv_aload_n (pc := 0) C0.1 C0.2.1 dX9_block_0 rfl (lv_at hl 0 rfl) ?_
  refine xget (pc := 1) C0 hH 0 3 clX9 ⟨Nat.le_of_ble_eq_true rfl, Nat.le_of_ble_eq_true rfl⟩ ⟨rfl, rfl⟩ (Nat.le_of_ble_eq_true rfl) fl_X9_29 (v := .ref (b + 8)) rfl dX9_block_1 ?_
  refine xget (pc := 4) C0 hH 8 1 clX4 ⟨Nat.le_of_ble_eq_true rfl, Nat.le_of_ble_eq_true rfl⟩ ⟨rfl, rfl⟩ (Nat.le_of_ble_eq_true rfl) fl_X9_133 (v := .ref (b + 17)) rfl dX9_block_4 ?_
  refine xget (pc := 7) C0 hH 17 0 clX8 ⟨Nat.le_of_ble_eq_true rfl, Nat.le_of_ble_eq_true rfl⟩ ⟨rfl, rfl⟩ (Nat.le_of_ble_eq_true rfl) fl_X9_137 (v := .ref (b + 18)) rfl dX9_block_7 ?_
  refine lv_astore_n (pc := 10) (lv' := [(3, .ref (b + 18)), (0, .ref (b + 0)), (1, .int k), (2, .int x)]) C0.1 C0.2.1 dX9_block_10 rfl hl (by decide) rfl (fun ls hl => ?_)
  refine lv_aload_n (pc := 11) C0.1 C0.2.1 dX9_block_11 rfl (lv_at hl 1 rfl) ?_
  refine xget (pc := 12) C0 hH 0 8 clX9 ⟨Nat.le_of_ble_eq_true rfl, Nat.le_of_ble_eq_true rfl⟩ ⟨rfl, rfl⟩ (Nat.le_of_ble_eq_true rfl) fl_X9_53 (v := .int 0) (congrArg Value.int hi_0_8) dX9_block_12 ?_
  refine lv_iconst (pc := 15) (v := 1) C0.1 C0.2.1 dX9_block_15 (by decide) ?_
  refine lv_icmp_eq (pc := 16) (tgt := 22) C0.1 C0.2.1 dX9_block_16 (by decide) (fun c => absurd c (by decide)) (fun _ => ?_)
  refine lv_bipush (pc := 19) (v := (-3)) C0.1 C0.2.1 dX9_block_19 (by decide) ?_
  exact xiret (pc := 21) C0 hr hH hS dX9_block_21 rfl
set_option maxHeartbeats 4000000 in
set_option maxRecDepth 100000 in
theorem p_X9_item (l : Launch) (D : va_G) (tA : Nat → ClassId) (b : Nat) (i F : Nat → Nat → Int32) (G : Nat → Nat → Int64) (k x : Int32) (hi_0_8 : i 0 8 = 0) : xMI l yX9_item cX9_item 4 (some .int) 0 0 D tA b 0 78 i F G [.ref (b + 0), .int k, .int x] (fun r _ => r = -3) := by
  refine xstart RX9 rfl (by decide) (Nat.le_of_ble_eq_true rfl) ?_
  intro p e s m below meth c ls C0 hr hH hS hl
  have hl : lv_has ls 4 [(0, .ref (b + 0)), (1, .int k), (2, .int x)] := hl
  refine lv_aload_n (pc := 0) C0.1 C0.2.1 dX9_item_0 rfl (lv_at hl 0 rfl) ?_
  refine xget (pc := 1) C0 hH 0 3 clX9 ⟨Nat.le_of_ble_eq_true rfl, Nat.le_of_ble_eq_true rfl⟩ ⟨rfl, rfl⟩ (Nat.le_of_ble_eq_true rfl) fl_X9_29 (v := .ref (b + 8)) rfl dX9_item_1 ?_
  refine xget (pc := 4) C0 hH 8 1 clX4 ⟨Nat.le_of_ble_eq_true rfl, Nat.le_of_ble_eq_true rfl⟩ ⟨rfl, rfl⟩ (Nat.le_of_ble_eq_true rfl) fl_X9_133 (v := .ref (b + 17)) rfl dX9_item_4 ?_
  refine xget (pc := 7) C0 hH 17 1 clX8 ⟨Nat.le_of_ble_eq_true rfl, Nat.le_of_ble_eq_true rfl⟩ ⟨rfl, rfl⟩ (Nat.le_of_ble_eq_true rfl) fl_X9_146 (v := .ref (b + 28)) rfl dX9_item_7 ?_
  refine lv_astore_n (pc := 10) (lv' := [(3, .ref (b + 28)), (0, .ref (b + 0)), (1, .int k), (2, .int x)]) C0.1 C0.2.1 dX9_item_10 rfl hl (by decide) rfl (fun ls hl => ?_)
  refine lv_aload_n (pc := 11) C0.1 C0.2.1 dX9_item_11 rfl (lv_at hl 1 rfl) ?_
  refine xget (pc := 12) C0 hH 0 8 clX9 ⟨Nat.le_of_ble_eq_true rfl, Nat.le_of_ble_eq_true rfl⟩ ⟨rfl, rfl⟩ (Nat.le_of_ble_eq_true rfl) fl_X9_53 (v := .int 0) (congrArg Value.int hi_0_8) dX9_item_12 ?_
  refine lv_iconst (pc := 15) (v := 1) C0.1 C0.2.1 dX9_item_15 (by decide) ?_
  refine lv_icmp_eq (pc := 16) (tgt := 22) C0.1 C0.2.1 dX9_item_16 (by decide) (fun c => absurd c (by decide)) (fun _ => ?_)
  refine lv_bipush (pc := 19) (v := (-3)) C0.1 C0.2.1 dX9_item_19 (by decide) ?_
  exact xiret (pc := 21) C0 hr hH hS dX9_item_21 rfl
set_option maxHeartbeats 4000000 in
set_option maxRecDepth 100000 in
theorem p_X9_part (l : Launch) (D : va_G) (tA : Nat → ClassId) (b : Nat) (i F : Nat → Nat → Int32) (G : Nat → Nat → Int64) (k x : Int32) (hi_0_8 : i 0 8 = 0) : xMI l yX9_part cX9_part 4 (some .int) 0 0 D tA b 0 78 i F G [.ref (b + 0), .int k, .int x] (fun r _ => r = -3) := by
  refine xstart RX9 rfl (by decide) (Nat.le_of_ble_eq_true rfl) ?_
  intro p e s m below meth c ls C0 hr hH hS hl
  have hl : lv_has ls 4 [(0, .ref (b + 0)), (1, .int k), (2, .int x)] := hl
  refine lv_aload_n (pc := 0) C0.1 C0.2.1 dX9_part_0 rfl (lv_at hl 0 rfl) ?_
  refine xget (pc := 1) C0 hH 0 3 clX9 ⟨Nat.le_of_ble_eq_true rfl, Nat.le_of_ble_eq_true rfl⟩ ⟨rfl, rfl⟩ (Nat.le_of_ble_eq_true rfl) fl_X9_29 (v := .ref (b + 8)) rfl dX9_part_1 ?_
  refine xget (pc := 4) C0 hH 8 1 clX4 ⟨Nat.le_of_ble_eq_true rfl, Nat.le_of_ble_eq_true rfl⟩ ⟨rfl, rfl⟩ (Nat.le_of_ble_eq_true rfl) fl_X9_133 (v := .ref (b + 17)) rfl dX9_part_4 ?_
  refine xget (pc := 7) C0 hH 17 1 clX8 ⟨Nat.le_of_ble_eq_true rfl, Nat.le_of_ble_eq_true rfl⟩ ⟨rfl, rfl⟩ (Nat.le_of_ble_eq_true rfl) fl_X9_146 (v := .ref (b + 28)) rfl dX9_part_7 ?_
  refine lv_astore_n (pc := 10) (lv' := [(3, .ref (b + 28)), (0, .ref (b + 0)), (1, .int k), (2, .int x)]) C0.1 C0.2.1 dX9_part_10 rfl hl (by decide) rfl (fun ls hl => ?_)
  refine lv_aload_n (pc := 11) C0.1 C0.2.1 dX9_part_11 rfl (lv_at hl 1 rfl) ?_
  refine xget (pc := 12) C0 hH 0 8 clX9 ⟨Nat.le_of_ble_eq_true rfl, Nat.le_of_ble_eq_true rfl⟩ ⟨rfl, rfl⟩ (Nat.le_of_ble_eq_true rfl) fl_X9_53 (v := .int 0) (congrArg Value.int hi_0_8) dX9_part_12 ?_
  refine lv_iconst (pc := 15) (v := 1) C0.1 C0.2.1 dX9_part_15 (by decide) ?_
  refine lv_icmp_eq (pc := 16) (tgt := 22) C0.1 C0.2.1 dX9_part_16 (by decide) (fun c => absurd c (by decide)) (fun _ => ?_)
  refine lv_bipush (pc := 19) (v := (-3)) C0.1 C0.2.1 dX9_part_19 (by decide) ?_
  exact xiret (pc := 21) C0 hr hH hS dX9_part_21 rfl
set_option maxHeartbeats 4000000 in
set_option maxRecDepth 100000 in
theorem p_X9_itemAs (l : Launch) (D : va_G) (tA : Nat → ClassId) (b : Nat) (i F : Nat → Nat → Int32) (G : Nat → Nat → Int64) (k x y : Int32) (hi_0_8 : i 0 8 = 0) : xMI l yX9_itemAs cX9_itemAs 5 (some .int) 0 0 D tA b 0 78 i F G [.ref (b + 0), .int k, .int x, .int y] (fun r _ => r = -3) := by
  refine xstart RX9 rfl (by decide) (Nat.le_of_ble_eq_true rfl) ?_
  intro p e s m below meth c ls C0 hr hH hS hl
  have hl : lv_has ls 5 [(0, .ref (b + 0)), (1, .int k), (2, .int x), (3, .int y)] := hl
  refine lv_aload_n (pc := 0) C0.1 C0.2.1 dX9_itemAs_0 rfl (lv_at hl 0 rfl) ?_
  refine xget (pc := 1) C0 hH 0 3 clX9 ⟨Nat.le_of_ble_eq_true rfl, Nat.le_of_ble_eq_true rfl⟩ ⟨rfl, rfl⟩ (Nat.le_of_ble_eq_true rfl) fl_X9_29 (v := .ref (b + 8)) rfl dX9_itemAs_1 ?_
  refine xget (pc := 4) C0 hH 8 1 clX4 ⟨Nat.le_of_ble_eq_true rfl, Nat.le_of_ble_eq_true rfl⟩ ⟨rfl, rfl⟩ (Nat.le_of_ble_eq_true rfl) fl_X9_133 (v := .ref (b + 17)) rfl dX9_itemAs_4 ?_
  refine xget (pc := 7) C0 hH 17 0 clX8 ⟨Nat.le_of_ble_eq_true rfl, Nat.le_of_ble_eq_true rfl⟩ ⟨rfl, rfl⟩ (Nat.le_of_ble_eq_true rfl) fl_X9_137 (v := .ref (b + 18)) rfl dX9_itemAs_7 ?_
  refine lv_astore (pc := 10) (lv' := [(4, .ref (b + 18)), (0, .ref (b + 0)), (1, .int k), (2, .int x), (3, .int y)]) C0.1 C0.2.1 dX9_itemAs_10 hl (by decide) rfl (fun ls hl => ?_)
  refine lv_aload_n (pc := 12) C0.1 C0.2.1 dX9_itemAs_12 rfl (lv_at hl 1 rfl) ?_
  refine xget (pc := 13) C0 hH 0 8 clX9 ⟨Nat.le_of_ble_eq_true rfl, Nat.le_of_ble_eq_true rfl⟩ ⟨rfl, rfl⟩ (Nat.le_of_ble_eq_true rfl) fl_X9_53 (v := .int 0) (congrArg Value.int hi_0_8) dX9_itemAs_13 ?_
  refine lv_iconst (pc := 16) (v := 1) C0.1 C0.2.1 dX9_itemAs_16 (by decide) ?_
  refine lv_icmp_eq (pc := 17) (tgt := 23) C0.1 C0.2.1 dX9_itemAs_17 (by decide) (fun c => absurd c (by decide)) (fun _ => ?_)
  refine lv_bipush (pc := 20) (v := (-3)) C0.1 C0.2.1 dX9_itemAs_20 (by decide) ?_
  exact xiret (pc := 22) C0 hr hH hS dX9_itemAs_22 rfl
set_option maxHeartbeats 4000000 in
set_option maxRecDepth 100000 in
theorem p_X9_around (l : Launch) (D : va_G) (tA : Nat → ClassId) (b : Nat) (i F : Nat → Nat → Int32) (G : Nat → Nat → Int64) (k x : Int32) (hi_0_8 : i 0 8 = 0) : xMI l yX9_around cX9_around 5 (some .int) 0 0 D tA b 0 78 i F G [.ref (b + 0), .int k, .int x] (fun r _ => r = -3) := by
  refine xstart RX9 rfl (by decide) (Nat.le_of_ble_eq_true rfl) ?_
  intro p e s m below meth c ls C0 hr hH hS hl
  have hl : lv_has ls 5 [(0, .ref (b + 0)), (1, .int k), (2, .int x)] := hl
  refine lv_aload_n (pc := 0) C0.1 C0.2.1 dX9_around_0 rfl (lv_at hl 0 rfl) ?_
  refine xget (pc := 1) C0 hH 0 8 clX9 ⟨Nat.le_of_ble_eq_true rfl, Nat.le_of_ble_eq_true rfl⟩ ⟨rfl, rfl⟩ (Nat.le_of_ble_eq_true rfl) fl_X9_53 (v := .int 0) (congrArg Value.int hi_0_8) dX9_around_1 ?_
  refine lv_iconst (pc := 4) (v := 1) C0.1 C0.2.1 dX9_around_4 (by decide) ?_
  refine lv_icmp_eq (pc := 5) (tgt := 11) C0.1 C0.2.1 dX9_around_5 (by decide) (fun c => absurd c (by decide)) (fun _ => ?_)
  refine lv_bipush (pc := 8) (v := (-3)) C0.1 C0.2.1 dX9_around_8 (by decide) ?_
  exact xiret (pc := 10) C0 hr hH hS dX9_around_10 rfl
set_option maxHeartbeats 4000000 in
set_option maxRecDepth 100000 in
theorem p_X9_reach (l : Launch) (D : va_G) (tA : Nat → ClassId) (b : Nat) (i F : Nat → Nat → Int32) (G : Nat → Nat → Int64) (z k x : Int32) (hi_0_8 : i 0 8 = 0) : xMI l yX9_reach cX9_reach 6 (some .int) 0 0 D tA b 0 78 i F G [.ref (b + 0), .int z, .int k, .int x] (fun r _ => r = -3) := by
  refine xstart RX9 rfl (by decide) (Nat.le_of_ble_eq_true rfl) ?_
  intro p e s m below meth c ls C0 hr hH hS hl
  have hl : lv_has ls 6 [(0, .ref (b + 0)), (1, .int z), (2, .int k), (3, .int x)] := hl
  refine lv_aload_n (pc := 0) C0.1 C0.2.1 dX9_reach_0 rfl (lv_at hl 0 rfl) ?_
  refine xget (pc := 1) C0 hH 0 3 clX9 ⟨Nat.le_of_ble_eq_true rfl, Nat.le_of_ble_eq_true rfl⟩ ⟨rfl, rfl⟩ (Nat.le_of_ble_eq_true rfl) fl_X9_29 (v := .ref (b + 8)) rfl dX9_reach_1 ?_
  refine xget (pc := 4) C0 hH 8 1 clX4 ⟨Nat.le_of_ble_eq_true rfl, Nat.le_of_ble_eq_true rfl⟩ ⟨rfl, rfl⟩ (Nat.le_of_ble_eq_true rfl) fl_X9_133 (v := .ref (b + 17)) rfl dX9_reach_4 ?_
  refine xget (pc := 7) C0 hH 17 0 clX8 ⟨Nat.le_of_ble_eq_true rfl, Nat.le_of_ble_eq_true rfl⟩ ⟨rfl, rfl⟩ (Nat.le_of_ble_eq_true rfl) fl_X9_137 (v := .ref (b + 18)) rfl dX9_reach_7 ?_
  refine lv_astore (pc := 10) (lv' := [(4, .ref (b + 18)), (0, .ref (b + 0)), (1, .int z), (2, .int k), (3, .int x)]) C0.1 C0.2.1 dX9_reach_10 hl (by decide) rfl (fun ls hl => ?_)
  refine lv_aload_n (pc := 12) C0.1 C0.2.1 dX9_reach_12 rfl (lv_at hl 1 rfl) ?_
  refine xget (pc := 13) C0 hH 0 3 clX9 ⟨Nat.le_of_ble_eq_true rfl, Nat.le_of_ble_eq_true rfl⟩ ⟨rfl, rfl⟩ (Nat.le_of_ble_eq_true rfl) fl_X9_29 (v := .ref (b + 8)) rfl dX9_reach_13 ?_
  refine xget (pc := 16) C0 hH 8 1 clX4 ⟨Nat.le_of_ble_eq_true rfl, Nat.le_of_ble_eq_true rfl⟩ ⟨rfl, rfl⟩ (Nat.le_of_ble_eq_true rfl) fl_X9_133 (v := .ref (b + 17)) rfl dX9_reach_16 ?_
  refine xget (pc := 19) C0 hH 17 1 clX8 ⟨Nat.le_of_ble_eq_true rfl, Nat.le_of_ble_eq_true rfl⟩ ⟨rfl, rfl⟩ (Nat.le_of_ble_eq_true rfl) fl_X9_146 (v := .ref (b + 28)) rfl dX9_reach_19 ?_
  refine lv_astore (pc := 22) (lv' := [(5, .ref (b + 28)), (4, .ref (b + 18)), (0, .ref (b + 0)), (1, .int z), (2, .int k), (3, .int x)]) C0.1 C0.2.1 dX9_reach_22 hl (by decide) rfl (fun ls hl => ?_)
  refine lv_aload_n (pc := 24) C0.1 C0.2.1 dX9_reach_24 rfl (lv_at hl 2 rfl) ?_
  refine xget (pc := 25) C0 hH 0 8 clX9 ⟨Nat.le_of_ble_eq_true rfl, Nat.le_of_ble_eq_true rfl⟩ ⟨rfl, rfl⟩ (Nat.le_of_ble_eq_true rfl) fl_X9_53 (v := .int 0) (congrArg Value.int hi_0_8) dX9_reach_25 ?_
  refine lv_iconst (pc := 28) (v := 1) C0.1 C0.2.1 dX9_reach_28 (by decide) ?_
  refine lv_icmp_eq (pc := 29) (tgt := 35) C0.1 C0.2.1 dX9_reach_29 (by decide) (fun c => absurd c (by decide)) (fun _ => ?_)
  refine lv_bipush (pc := 32) (v := (-3)) C0.1 C0.2.1 dX9_reach_32 (by decide) ?_
  exact xiret (pc := 34) C0 hr hH hS dX9_reach_34 rfl
set_option maxHeartbeats 4000000 in
set_option maxRecDepth 100000 in
theorem p_X9_plain (l : Launch) (D : va_G) (tA : Nat → ClassId) (b : Nat) (i F : Nat → Nat → Int32) (G : Nat → Nat → Int64)  (hi_0_8 : i 0 8 = 0) : xMI l yX9_plain cX9_plain 1 (some .int) 0 0 D tA b 0 78 i F G [.ref (b + 0)] (fun r _ => r = -3) := by
  refine xstart RX9 rfl (by decide) (Nat.le_of_ble_eq_true rfl) ?_
  intro p e s m below meth c ls C0 hr hH hS hl
  have hl : lv_has ls 1 [(0, .ref (b + 0))] := hl
  refine lv_aload_n (pc := 0) C0.1 C0.2.1 dX9_plain_0 rfl (lv_at hl 0 rfl) ?_
  refine xget (pc := 1) C0 hH 0 8 clX9 ⟨Nat.le_of_ble_eq_true rfl, Nat.le_of_ble_eq_true rfl⟩ ⟨rfl, rfl⟩ (Nat.le_of_ble_eq_true rfl) fl_X9_53 (v := .int 0) (congrArg Value.int hi_0_8) dX9_plain_1 ?_
  refine lv_iconst (pc := 4) (v := 1) C0.1 C0.2.1 dX9_plain_4 (by decide) ?_
  refine lv_icmp_eq (pc := 5) (tgt := 11) C0.1 C0.2.1 dX9_plain_5 (by decide) (fun c => absurd c (by decide)) (fun _ => ?_)
  refine lv_bipush (pc := 8) (v := (-3)) C0.1 C0.2.1 dX9_plain_8 (by decide) ?_
  exact xiret (pc := 10) C0 hr hH hS dX9_plain_10 rfl
set_option maxHeartbeats 4000000 in
set_option maxRecDepth 100000 in
theorem p_X9_same (l : Launch) (D : va_G) (tA : Nat → ClassId) (b : Nat) (i F : Nat → Nat → Int32) (G : Nat → Nat → Int64)  (hi_0_8 : i 0 8 = 0) : xMI l yX9_same cX9_same 1 (some .int) 0 0 D tA b 0 78 i F G [.ref (b + 0)] (fun r _ => r = -3) := by
  refine xstart RX9 rfl (by decide) (Nat.le_of_ble_eq_true rfl) ?_
  intro p e s m below meth c ls C0 hr hH hS hl
  have hl : lv_has ls 1 [(0, .ref (b + 0))] := hl
  refine lv_aload_n (pc := 0) C0.1 C0.2.1 dX9_same_0 rfl (lv_at hl 0 rfl) ?_
  refine xget (pc := 1) C0 hH 0 8 clX9 ⟨Nat.le_of_ble_eq_true rfl, Nat.le_of_ble_eq_true rfl⟩ ⟨rfl, rfl⟩ (Nat.le_of_ble_eq_true rfl) fl_X9_53 (v := .int 0) (congrArg Value.int hi_0_8) dX9_same_1 ?_
  refine lv_iconst (pc := 4) (v := 1) C0.1 C0.2.1 dX9_same_4 (by decide) ?_
  refine lv_icmp_eq (pc := 5) (tgt := 11) C0.1 C0.2.1 dX9_same_5 (by decide) (fun c => absurd c (by decide)) (fun _ => ?_)
  refine lv_bipush (pc := 8) (v := (-3)) C0.1 C0.2.1 dX9_same_8 (by decide) ?_
  exact xiret (pc := 10) C0 hr hH hS dX9_same_10 rfl
set_option maxHeartbeats 4000000 in
set_option maxRecDepth 100000 in
theorem p_X9_parts (l : Launch) (D : va_G) (tA : Nat → ClassId) (b : Nat) (i F : Nat → Nat → Int32) (G : Nat → Nat → Int64)  (hi_0_8 : i 0 8 = 0) : xMI l yX9_parts cX9_parts 3 (some .int) 0 0 D tA b 0 78 i F G [.ref (b + 0)] (fun r _ => r = -3) := by
  refine xstart RX9 rfl (by decide) (Nat.le_of_ble_eq_true rfl) ?_
  intro p e s m below meth c ls C0 hr hH hS hl
  have hl : lv_has ls 3 [(0, .ref (b + 0))] := hl
  refine lv_aload_n (pc := 0) C0.1 C0.2.1 dX9_parts_0 rfl (lv_at hl 0 rfl) ?_
  refine xget (pc := 1) C0 hH 0 8 clX9 ⟨Nat.le_of_ble_eq_true rfl, Nat.le_of_ble_eq_true rfl⟩ ⟨rfl, rfl⟩ (Nat.le_of_ble_eq_true rfl) fl_X9_53 (v := .int 0) (congrArg Value.int hi_0_8) dX9_parts_1 ?_
  refine lv_iconst (pc := 4) (v := 1) C0.1 C0.2.1 dX9_parts_4 (by decide) ?_
  refine lv_icmp_eq (pc := 5) (tgt := 11) C0.1 C0.2.1 dX9_parts_5 (by decide) (fun c => absurd c (by decide)) (fun _ => ?_)
  refine lv_bipush (pc := 8) (v := (-3)) C0.1 C0.2.1 dX9_parts_8 (by decide) ?_
  exact xiret (pc := 10) C0 hr hH hS dX9_parts_10 rfl
set_option maxHeartbeats 4000000 in
set_option maxRecDepth 100000 in
theorem p_X9_mend (l : Launch) (D : va_G) (tA : Nat → ClassId) (b : Nat) (i F : Nat → Nat → Int32) (G : Nat → Nat → Int64)  (hi_0_8 : i 0 8 = 0) : xMI l yX9_mend cX9_mend 1 (some .int) 0 0 D tA b 0 78 i F G [.ref (b + 0)] (fun r _ => r = -3) := by
  refine xstart RX9 rfl (by decide) (Nat.le_of_ble_eq_true rfl) ?_
  intro p e s m below meth c ls C0 hr hH hS hl
  have hl : lv_has ls 1 [(0, .ref (b + 0))] := hl
  refine lv_aload_n (pc := 0) C0.1 C0.2.1 dX9_mend_0 rfl (lv_at hl 0 rfl) ?_
  refine xget (pc := 1) C0 hH 0 8 clX9 ⟨Nat.le_of_ble_eq_true rfl, Nat.le_of_ble_eq_true rfl⟩ ⟨rfl, rfl⟩ (Nat.le_of_ble_eq_true rfl) fl_X9_53 (v := .int 0) (congrArg Value.int hi_0_8) dX9_mend_1 ?_
  refine lv_iconst (pc := 4) (v := 2) C0.1 C0.2.1 dX9_mend_4 (by decide) ?_
  refine lv_icmp_eq (pc := 5) (tgt := 11) C0.1 C0.2.1 dX9_mend_5 (by decide) (fun c => absurd c (by decide)) (fun _ => ?_)
  refine lv_bipush (pc := 8) (v := (-3)) C0.1 C0.2.1 dX9_mend_8 (by decide) ?_
  exact xiret (pc := 10) C0 hr hH hS dX9_mend_10 rfl
set_option maxHeartbeats 4000000 in
set_option maxRecDepth 100000 in
theorem p_X9_deepen (l : Launch) (D : va_G) (tA : Nat → ClassId) (b : Nat) (i F : Nat → Nat → Int32) (G : Nat → Nat → Int64)  (hi_0_8 : i 0 8 = 0) : xMI l yX9_deepen cX9_deepen 3 (some .int) 0 0 D tA b 0 78 i F G [.ref (b + 0)] (fun r _ => r = -3) := by
  refine xstart RX9 rfl (by decide) (Nat.le_of_ble_eq_true rfl) ?_
  intro p e s m below meth c ls C0 hr hH hS hl
  have hl : lv_has ls 3 [(0, .ref (b + 0))] := hl
  refine lv_aload_n (pc := 0) C0.1 C0.2.1 dX9_deepen_0 rfl (lv_at hl 0 rfl) ?_
  refine xget (pc := 1) C0 hH 0 8 clX9 ⟨Nat.le_of_ble_eq_true rfl, Nat.le_of_ble_eq_true rfl⟩ ⟨rfl, rfl⟩ (Nat.le_of_ble_eq_true rfl) fl_X9_53 (v := .int 0) (congrArg Value.int hi_0_8) dX9_deepen_1 ?_
  refine lv_iconst (pc := 4) (v := 1) C0.1 C0.2.1 dX9_deepen_4 (by decide) ?_
  refine lv_icmp_eq (pc := 5) (tgt := 11) C0.1 C0.2.1 dX9_deepen_5 (by decide) (fun c => absurd c (by decide)) (fun _ => ?_)
  refine lv_bipush (pc := 8) (v := (-3)) C0.1 C0.2.1 dX9_deepen_8 (by decide) ?_
  exact xiret (pc := 10) C0 hr hH hS dX9_deepen_10 rfl
set_option maxHeartbeats 4000000 in
set_option maxRecDepth 100000 in
theorem a11_X10_measure (l : Launch) (D : va_G) (tA : Nat → ClassId) (b : Nat) (i F : Nat → Nat → Int32) (G : Nat → Nat → Int64)  (hi_78_18 : i 78 18 = 0) : xMV l yX10_measure cX10_measure 4 none 0 0 D tA b 78 52 i F G [.ref (b + 78)] (fun u => u = (i, (va_up (va_up F 96 (upd (F 96) (Int32.toNatClampNeg 0) 0)) 97 (upd (F 97) (Int32.toNatClampNeg 0) 0)), G)) := by
  refine xstart RX10 rfl (by decide) (Nat.le_of_ble_eq_true rfl) ?_
  intro p e s m below meth c ls C0 hr hH hS hl
  have hl : lv_has ls 4 [(0, .ref (b + 78))] := hl
  refine lv_iconst (pc := 0) (v := 0) C0.1 C0.2.1 dX10_measure_0 (by decide) ?_
  refine lv_istore_n (pc := 1) (lv' := [(1, .int 0), (0, .ref (b + 78))]) C0.1 C0.2.1 dX10_measure_1 rfl hl (by decide) rfl (fun ls hl => ?_)
  refine lv_iconst (pc := 2) (v := 0) C0.1 C0.2.1 dX10_measure_2 (by decide) ?_
  refine lv_istore_n (pc := 3) (lv' := [(2, .int 0), (1, .int 0), (0, .ref (b + 78))]) C0.1 C0.2.1 dX10_measure_3 rfl hl (by decide) rfl (fun ls hl => ?_)
  refine lv_iconst (pc := 4) (v := 0) C0.1 C0.2.1 dX10_measure_4 (by decide) ?_
  refine lv_istore_n (pc := 5) (lv' := [(3, .int 0), (2, .int 0), (1, .int 0), (0, .ref (b + 78))]) C0.1 C0.2.1 dX10_measure_5 rfl hl (by decide) rfl (fun ls hl => ?_)
  refine lv_iload_n (pc := 6) C0.1 C0.2.1 dX10_measure_6 rfl (lv_at hl 0 rfl) ?_
  refine lv_aload_n (pc := 7) C0.1 C0.2.1 dX10_measure_7 rfl (lv_at hl 3 rfl) ?_
  refine xget (pc := 8) C0 hH 78 18 clX10 ⟨Nat.le_of_ble_eq_true rfl, Nat.le_of_ble_eq_true rfl⟩ ⟨rfl, rfl⟩ (Nat.le_of_ble_eq_true rfl) fl_X10_251 (v := .int 0) (congrArg Value.int hi_78_18) dX10_measure_8 ?_
  refine lv_icmp_gt (pc := 11) (tgt := 107) C0.1 C0.2.1 dX10_measure_11 (by decide) (fun c => absurd c (by decide)) (fun _ => ?_)
  refine lv_aload_n (pc := 14) C0.1 C0.2.1 dX10_measure_14 rfl (lv_at hl 3 rfl) ?_
  refine xget (pc := 15) C0 hH 78 28 clX10 ⟨Nat.le_of_ble_eq_true rfl, Nat.le_of_ble_eq_true rfl⟩ ⟨rfl, rfl⟩ (Nat.le_of_ble_eq_true rfl) fl_X10_67 (v := .ref (b + 96)) rfl dX10_measure_15 ?_
  refine lv_iload_n (pc := 18) C0.1 C0.2.1 dX10_measure_18 rfl (lv_at hl 0 rfl) ?_
  refine lv_iload_n (pc := 19) C0.1 C0.2.1 dX10_measure_19 rfl (lv_at hl 2 rfl) ?_
  refine xiast (pc := 20) (N := 601) C0 (Nat.le_of_ble_eq_true rfl) hH hS 96 ⟨Nat.le_of_ble_eq_true rfl, Nat.le_of_ble_eq_true rfl⟩ ⟨rfl, rfl⟩ (vin (by decide)) dX10_measure_20 (fun _ locs hH hS _ => ?_)
  have hH : Hd D tA b 78 52 zz i (va_up F 96 (upd (F 96) (Int32.toNatClampNeg 0) 0)) G _ := hH
  refine lv_aload_n (pc := 21) C0.1 C0.2.1 dX10_measure_21 rfl (lv_at hl 3 rfl) ?_
  refine xget (pc := 22) C0 hH 78 29 clX10 ⟨Nat.le_of_ble_eq_true rfl, Nat.le_of_ble_eq_true rfl⟩ ⟨rfl, rfl⟩ (Nat.le_of_ble_eq_true rfl) fl_X10_70 (v := .ref (b + 97)) rfl dX10_measure_22 ?_
  refine lv_iload_n (pc := 25) C0.1 C0.2.1 dX10_measure_25 rfl (lv_at hl 0 rfl) ?_
  refine lv_iload_n (pc := 26) C0.1 C0.2.1 dX10_measure_26 rfl (lv_at hl 1 rfl) ?_
  refine xiast (pc := 27) (N := 601) C0 (Nat.le_of_ble_eq_true rfl) hH hS 97 ⟨Nat.le_of_ble_eq_true rfl, Nat.le_of_ble_eq_true rfl⟩ ⟨rfl, rfl⟩ (vin (by decide)) dX10_measure_27 (fun _ locs hH hS _ => ?_)
  have hH : Hd D tA b 78 52 zz i (va_up (va_up F 96 (upd (F 96) (Int32.toNatClampNeg 0) 0)) 97 (upd (F 97) (Int32.toNatClampNeg 0) 0)) G _ := hH
  refine lv_iload_n (pc := 28) C0.1 C0.2.1 dX10_measure_28 rfl (lv_at hl 0 rfl) ?_
  refine lv_aload_n (pc := 29) C0.1 C0.2.1 dX10_measure_29 rfl (lv_at hl 3 rfl) ?_
  refine xget (pc := 30) C0 hH 78 18 clX10 ⟨Nat.le_of_ble_eq_true rfl, Nat.le_of_ble_eq_true rfl⟩ ⟨rfl, rfl⟩ (Nat.le_of_ble_eq_true rfl) fl_X10_251 (v := .int 0) (congrArg Value.int hi_78_18) dX10_measure_30 ?_
  refine lv_icmp_ge (pc := 33) (tgt := 55) C0.1 C0.2.1 dX10_measure_33 (by decide) (fun _ => ?_) (fun c => absurd (by decide) c)
  refine lv_iload_n (pc := 55) C0.1 C0.2.1 dX10_measure_55 rfl (lv_at hl 0 rfl) ?_
  refine lv_aload_n (pc := 56) C0.1 C0.2.1 dX10_measure_56 rfl (lv_at hl 3 rfl) ?_
  refine xget (pc := 57) C0 hH 78 18 clX10 ⟨Nat.le_of_ble_eq_true rfl, Nat.le_of_ble_eq_true rfl⟩ ⟨rfl, rfl⟩ (Nat.le_of_ble_eq_true rfl) fl_X10_251 (v := .int 0) (congrArg Value.int hi_78_18) dX10_measure_57 ?_
  refine lv_icmp_ge (pc := 60) (tgt := 97) C0.1 C0.2.1 dX10_measure_60 (by decide) (fun _ => ?_) (fun c => absurd (by decide) c)
  refine lv_iload_n (pc := 97) C0.1 C0.2.1 dX10_measure_97 rfl (lv_at hl 1 rfl) ?_
  refine lv_iconst (pc := 98) (v := 1) C0.1 C0.2.1 dX10_measure_98 (by decide) ?_
  refine lv_iadd (pc := 99) C0.1 C0.2.1 dX10_measure_99 ?_
  refine lv_topi (fun q1 eq1 => ?_)
  obtain rfl : q1 = 1 := eq1.trans (by decide)
  refine lv_istore_n (pc := 100) (lv' := [(2, .int 1), (3, .int 0), (1, .int 0), (0, .ref (b + 78))]) C0.1 C0.2.1 dX10_measure_100 rfl hl (by decide) rfl (fun ls hl => ?_)
  refine lv_iinc (pc := 101) (v := 1) (lv' := [(3, .int 1), (2, .int 1), (1, .int 0), (0, .ref (b + 78))]) C0.1 C0.2.1 dX10_measure_101 hl (k := 1) rfl (by decide) (by decide) rfl (fun ls hl => ?_)
  refine lv_goto (pc := 104) (tgt := 6) C0.1 C0.2.1 dX10_measure_104 (by decide) ?_
  refine lv_iload_n (pc := 6) C0.1 C0.2.1 dX10_measure_6 rfl (lv_at hl 0 rfl) ?_
  refine lv_aload_n (pc := 7) C0.1 C0.2.1 dX10_measure_7 rfl (lv_at hl 3 rfl) ?_
  refine xget (pc := 8) C0 hH 78 18 clX10 ⟨Nat.le_of_ble_eq_true rfl, Nat.le_of_ble_eq_true rfl⟩ ⟨rfl, rfl⟩ (Nat.le_of_ble_eq_true rfl) fl_X10_251 (v := .int 0) (congrArg Value.int hi_78_18) dX10_measure_8 ?_
  refine lv_icmp_gt (pc := 11) (tgt := 107) C0.1 C0.2.1 dX10_measure_11 (by decide) (fun _ => ?_) (fun c => absurd (by decide) c)
  exact xvret (pc := 107) C0 hr hH hS dX10_measure_107 rfl
set_option maxHeartbeats 4000000 in
set_option maxRecDepth 100000 in
theorem a12_X10_cutUp (l : Launch) (D : va_G) (tA : Nat → ClassId) (b : Nat) (i F : Nat → Nat → Int32) (G : Nat → Nat → Int64)  (hi_78_18 : i 78 18 = 0) : xMI l yX10_cutUp cX10_cutUp 5 (some .boolean) 0 0 D tA b 78 52 i F G [.ref (b + 78)] (fun r u => u = ((up2 i 78 19 0), F, G) ∧ r = 1) := by
  refine xstart RX10 rfl (by decide) (Nat.le_of_ble_eq_true rfl) ?_
  intro p e s m below meth c ls C0 hr hH hS hl
  have hl : lv_has ls 5 [(0, .ref (b + 78))] := hl
  refine lv_aload_n (pc := 0) C0.1 C0.2.1 dX10_cutUp_0 rfl (lv_at hl 0 rfl) ?_
  refine lv_iconst (pc := 1) (v := 0) C0.1 C0.2.1 dX10_cutUp_1 (by decide) ?_
  refine xputI (pc := 2) C0 (Nat.le_of_ble_eq_true rfl) hH hS 78 19 clX10 ⟨Nat.le_of_ble_eq_true rfl, Nat.le_of_ble_eq_true rfl⟩ ⟨rfl, rfl⟩ ⟨Nat.le_of_ble_eq_true rfl, rfl, rfl⟩ fl_X10_258 (x := 0) ⟨rfl, rfl⟩ dX10_cutUp_2 (fun _ locs hH hS _ => ?_)
  have hH : Hd D tA b 78 52 zz (up2 i 78 19 0) F G _ := hH
  refine lv_iconst (pc := 5) (v := 1) C0.1 C0.2.1 dX10_cutUp_5 (by decide) ?_
  refine lv_istore_n (pc := 6) (lv' := [(1, .int 1), (0, .ref (b + 78))]) C0.1 C0.2.1 dX10_cutUp_6 rfl hl (by decide) rfl (fun ls hl => ?_)
  refine lv_iconst (pc := 7) (v := 0) C0.1 C0.2.1 dX10_cutUp_7 (by decide) ?_
  refine lv_istore_n (pc := 8) (lv' := [(2, .int 0), (1, .int 1), (0, .ref (b + 78))]) C0.1 C0.2.1 dX10_cutUp_8 rfl hl (by decide) rfl (fun ls hl => ?_)
  refine lv_iload_n (pc := 9) C0.1 C0.2.1 dX10_cutUp_9 rfl (lv_at hl 0 rfl) ?_
  refine lv_aload_n (pc := 10) C0.1 C0.2.1 dX10_cutUp_10 rfl (lv_at hl 2 rfl) ?_
  refine xget (pc := 11) C0 hH 78 18 clX10 ⟨Nat.le_of_ble_eq_true rfl, Nat.le_of_ble_eq_true rfl⟩ ⟨rfl, rfl⟩ (Nat.le_of_ble_eq_true rfl) fl_X10_251 (v := .int 0) (congrArg Value.int hi_78_18) dX10_cutUp_11 ?_
  refine lv_icmp_ge (pc := 14) (tgt := 122) C0.1 C0.2.1 dX10_cutUp_14 (by decide) (fun _ => ?_) (fun c => absurd (by decide) c)
  refine lv_iconst (pc := 122) (v := 1) C0.1 C0.2.1 dX10_cutUp_122 (by decide) ?_
  exact xzret (pc := 123) C0 hr hH hS dX10_cutUp_123 (by decide) ⟨rfl, rfl⟩
set_option maxHeartbeats 4000000 in
set_option maxRecDepth 100000 in
theorem a13_X10_newBlock (l : Launch) (D : va_G) (tA : Nat → ClassId) (b : Nat) (i F : Nat → Nat → Int32) (G : Nat → Nat → Int64)  (hi_78_32 : i 78 32 = 0) : xMI l yX10_newBlock cX10_newBlock 6 (some .int) 0 0 D tA b 78 52 i F G [.ref (b + 78), .int 0, .int 0, .int (-9), .int (-9)] (fun r u => u = ((up2 i 78 32 1), (va_up (va_up (va_up (va_up (va_up (va_up (va_up F 98 (upd (F 98) (Int32.toNatClampNeg 0) 0)) 99 (upd (F 99) (Int32.toNatClampNeg 0) 0)) 100 (upd (F 100) (Int32.toNatClampNeg 0) (-9))) 101 (upd (F 101) (Int32.toNatClampNeg 0) (-9))) 102 (upd (F 102) (Int32.toNatClampNeg 0) 0)) 103 (upd (F 103) (Int32.toNatClampNeg 0) (-9))) 104 (upd (F 104) (Int32.toNatClampNeg 0) (-9))), G) ∧ r = 0) := by
  refine xstart RX10 rfl (by decide) (Nat.le_of_ble_eq_true rfl) ?_
  intro p e s m below meth c ls C0 hr hH hS hl
  have hl : lv_has ls 6 [(0, .ref (b + 78)), (1, .int 0), (2, .int 0), (3, .int (-9)), (4, .int (-9))] := hl
  refine lv_aload_n (pc := 0) C0.1 C0.2.1 dX10_newBlock_0 rfl (lv_at hl 0 rfl) ?_
  refine xget (pc := 1) C0 hH 78 32 clX10 ⟨Nat.le_of_ble_eq_true rfl, Nat.le_of_ble_eq_true rfl⟩ ⟨rfl, rfl⟩ (Nat.le_of_ble_eq_true rfl) fl_X10_281 (v := .int 0) (congrArg Value.int hi_78_32) dX10_newBlock_1 ?_
  refine lv_istore (pc := 4) (lv' := [(5, .int 0), (0, .ref (b + 78)), (1, .int 0), (2, .int 0), (3, .int (-9)), (4, .int (-9))]) C0.1 C0.2.1 dX10_newBlock_4 hl (by decide) rfl (fun ls hl => ?_)
  refine lv_aload_n (pc := 6) C0.1 C0.2.1 dX10_newBlock_6 rfl (lv_at hl 1 rfl) ?_
  refine lv_dup (pc := 7) C0.1 C0.2.1 dX10_newBlock_7 rfl ?_
  refine xget (pc := 8) C0 hH 78 32 clX10 ⟨Nat.le_of_ble_eq_true rfl, Nat.le_of_ble_eq_true rfl⟩ ⟨rfl, rfl⟩ (Nat.le_of_ble_eq_true rfl) fl_X10_281 (v := .int 0) (congrArg Value.int hi_78_32) dX10_newBlock_8 ?_
  refine lv_iconst (pc := 11) (v := 1) C0.1 C0.2.1 dX10_newBlock_11 (by decide) ?_
  refine lv_iadd (pc := 12) C0.1 C0.2.1 dX10_newBlock_12 ?_
  refine lv_topi (fun q1 eq1 => ?_)
  obtain rfl : q1 = 1 := eq1.trans (by decide)
  refine xputI (pc := 13) C0 (Nat.le_of_ble_eq_true rfl) hH hS 78 32 clX10 ⟨Nat.le_of_ble_eq_true rfl, Nat.le_of_ble_eq_true rfl⟩ ⟨rfl, rfl⟩ ⟨Nat.le_of_ble_eq_true rfl, rfl, rfl⟩ fl_X10_281 (x := 1) ⟨rfl, rfl⟩ dX10_newBlock_13 (fun _ locs hH hS _ => ?_)
  have hH : Hd D tA b 78 52 zz (up2 i 78 32 1) F G _ := hH
  refine lv_aload_n (pc := 16) C0.1 C0.2.1 dX10_newBlock_16 rfl (lv_at hl 1 rfl) ?_
  refine xget (pc := 17) C0 hH 78 33 clX10 ⟨Nat.le_of_ble_eq_true rfl, Nat.le_of_ble_eq_true rfl⟩ ⟨rfl, rfl⟩ (Nat.le_of_ble_eq_true rfl) fl_X10_73 (v := .ref (b + 98)) rfl dX10_newBlock_17 ?_
  refine lv_iload (pc := 20) C0.1 C0.2.1 dX10_newBlock_20 (lv_at hl 0 rfl) ?_
  refine lv_iload_n (pc := 22) C0.1 C0.2.1 dX10_newBlock_22 rfl (lv_at hl 2 rfl) ?_
  refine xiast (pc := 23) (N := 1202) C0 (Nat.le_of_ble_eq_true rfl) hH hS 98 ⟨Nat.le_of_ble_eq_true rfl, Nat.le_of_ble_eq_true rfl⟩ ⟨rfl, rfl⟩ (vin (by decide)) dX10_newBlock_23 (fun _ locs hH hS _ => ?_)
  have hH : Hd D tA b 78 52 zz (up2 i 78 32 1) (va_up F 98 (upd (F 98) (Int32.toNatClampNeg 0) 0)) G _ := hH
  refine lv_aload_n (pc := 24) C0.1 C0.2.1 dX10_newBlock_24 rfl (lv_at hl 1 rfl) ?_
  refine xget (pc := 25) C0 hH 78 34 clX10 ⟨Nat.le_of_ble_eq_true rfl, Nat.le_of_ble_eq_true rfl⟩ ⟨rfl, rfl⟩ (Nat.le_of_ble_eq_true rfl) fl_X10_76 (v := .ref (b + 99)) rfl dX10_newBlock_25 ?_
  refine lv_iload (pc := 28) C0.1 C0.2.1 dX10_newBlock_28 (lv_at hl 0 rfl) ?_
  refine lv_iload_n (pc := 30) C0.1 C0.2.1 dX10_newBlock_30 rfl (lv_at hl 3 rfl) ?_
  refine xiast (pc := 31) (N := 1202) C0 (Nat.le_of_ble_eq_true rfl) hH hS 99 ⟨Nat.le_of_ble_eq_true rfl, Nat.le_of_ble_eq_true rfl⟩ ⟨rfl, rfl⟩ (vin (by decide)) dX10_newBlock_31 (fun _ locs hH hS _ => ?_)
  have hH : Hd D tA b 78 52 zz (up2 i 78 32 1) (va_up (va_up F 98 (upd (F 98) (Int32.toNatClampNeg 0) 0)) 99 (upd (F 99) (Int32.toNatClampNeg 0) 0)) G _ := hH
  refine lv_aload_n (pc := 32) C0.1 C0.2.1 dX10_newBlock_32 rfl (lv_at hl 1 rfl) ?_
  refine xget (pc := 33) C0 hH 78 35 clX10 ⟨Nat.le_of_ble_eq_true rfl, Nat.le_of_ble_eq_true rfl⟩ ⟨rfl, rfl⟩ (Nat.le_of_ble_eq_true rfl) fl_X10_79 (v := .ref (b + 100)) rfl dX10_newBlock_33 ?_
  refine lv_iload (pc := 36) C0.1 C0.2.1 dX10_newBlock_36 (lv_at hl 0 rfl) ?_
  refine lv_iload_n (pc := 38) C0.1 C0.2.1 dX10_newBlock_38 rfl (lv_at hl 4 rfl) ?_
  refine xiast (pc := 39) (N := 1202) C0 (Nat.le_of_ble_eq_true rfl) hH hS 100 ⟨Nat.le_of_ble_eq_true rfl, Nat.le_of_ble_eq_true rfl⟩ ⟨rfl, rfl⟩ (vin (by decide)) dX10_newBlock_39 (fun _ locs hH hS _ => ?_)
  have hH : Hd D tA b 78 52 zz (up2 i 78 32 1) (va_up (va_up (va_up F 98 (upd (F 98) (Int32.toNatClampNeg 0) 0)) 99 (upd (F 99) (Int32.toNatClampNeg 0) 0)) 100 (upd (F 100) (Int32.toNatClampNeg 0) (-9))) G _ := hH
  refine lv_aload_n (pc := 40) C0.1 C0.2.1 dX10_newBlock_40 rfl (lv_at hl 1 rfl) ?_
  refine xget (pc := 41) C0 hH 78 36 clX10 ⟨Nat.le_of_ble_eq_true rfl, Nat.le_of_ble_eq_true rfl⟩ ⟨rfl, rfl⟩ (Nat.le_of_ble_eq_true rfl) fl_X10_82 (v := .ref (b + 101)) rfl dX10_newBlock_41 ?_
  refine lv_iload (pc := 44) C0.1 C0.2.1 dX10_newBlock_44 (lv_at hl 0 rfl) ?_
  refine lv_iload (pc := 46) C0.1 C0.2.1 dX10_newBlock_46 (lv_at hl 5 rfl) ?_
  refine xiast (pc := 48) (N := 1202) C0 (Nat.le_of_ble_eq_true rfl) hH hS 101 ⟨Nat.le_of_ble_eq_true rfl, Nat.le_of_ble_eq_true rfl⟩ ⟨rfl, rfl⟩ (vin (by decide)) dX10_newBlock_48 (fun _ locs hH hS _ => ?_)
  have hH : Hd D tA b 78 52 zz (up2 i 78 32 1) (va_up (va_up (va_up (va_up F 98 (upd (F 98) (Int32.toNatClampNeg 0) 0)) 99 (upd (F 99) (Int32.toNatClampNeg 0) 0)) 100 (upd (F 100) (Int32.toNatClampNeg 0) (-9))) 101 (upd (F 101) (Int32.toNatClampNeg 0) (-9))) G _ := hH
  refine lv_aload_n (pc := 49) C0.1 C0.2.1 dX10_newBlock_49 rfl (lv_at hl 1 rfl) ?_
  refine xget (pc := 50) C0 hH 78 37 clX10 ⟨Nat.le_of_ble_eq_true rfl, Nat.le_of_ble_eq_true rfl⟩ ⟨rfl, rfl⟩ (Nat.le_of_ble_eq_true rfl) fl_X10_85 (v := .ref (b + 102)) rfl dX10_newBlock_50 ?_
  refine lv_iload (pc := 53) C0.1 C0.2.1 dX10_newBlock_53 (lv_at hl 0 rfl) ?_
  refine lv_iconst (pc := 55) (v := 0) C0.1 C0.2.1 dX10_newBlock_55 (by decide) ?_
  refine xiast (pc := 56) (N := 1202) C0 (Nat.le_of_ble_eq_true rfl) hH hS 102 ⟨Nat.le_of_ble_eq_true rfl, Nat.le_of_ble_eq_true rfl⟩ ⟨rfl, rfl⟩ (vin (by decide)) dX10_newBlock_56 (fun _ locs hH hS _ => ?_)
  have hH : Hd D tA b 78 52 zz (up2 i 78 32 1) (va_up (va_up (va_up (va_up (va_up F 98 (upd (F 98) (Int32.toNatClampNeg 0) 0)) 99 (upd (F 99) (Int32.toNatClampNeg 0) 0)) 100 (upd (F 100) (Int32.toNatClampNeg 0) (-9))) 101 (upd (F 101) (Int32.toNatClampNeg 0) (-9))) 102 (upd (F 102) (Int32.toNatClampNeg 0) 0)) G _ := hH
  refine lv_aload_n (pc := 57) C0.1 C0.2.1 dX10_newBlock_57 rfl (lv_at hl 1 rfl) ?_
  refine xget (pc := 58) C0 hH 78 38 clX10 ⟨Nat.le_of_ble_eq_true rfl, Nat.le_of_ble_eq_true rfl⟩ ⟨rfl, rfl⟩ (Nat.le_of_ble_eq_true rfl) fl_X10_88 (v := .ref (b + 103)) rfl dX10_newBlock_58 ?_
  refine lv_iload (pc := 61) C0.1 C0.2.1 dX10_newBlock_61 (lv_at hl 0 rfl) ?_
  refine lv_bipush (pc := 63) (v := (-9)) C0.1 C0.2.1 dX10_newBlock_63 (by decide) ?_
  refine xiast (pc := 65) (N := 1202) C0 (Nat.le_of_ble_eq_true rfl) hH hS 103 ⟨Nat.le_of_ble_eq_true rfl, Nat.le_of_ble_eq_true rfl⟩ ⟨rfl, rfl⟩ (vin (by decide)) dX10_newBlock_65 (fun _ locs hH hS _ => ?_)
  have hH : Hd D tA b 78 52 zz (up2 i 78 32 1) (va_up (va_up (va_up (va_up (va_up (va_up F 98 (upd (F 98) (Int32.toNatClampNeg 0) 0)) 99 (upd (F 99) (Int32.toNatClampNeg 0) 0)) 100 (upd (F 100) (Int32.toNatClampNeg 0) (-9))) 101 (upd (F 101) (Int32.toNatClampNeg 0) (-9))) 102 (upd (F 102) (Int32.toNatClampNeg 0) 0)) 103 (upd (F 103) (Int32.toNatClampNeg 0) (-9))) G _ := hH
  refine lv_aload_n (pc := 66) C0.1 C0.2.1 dX10_newBlock_66 rfl (lv_at hl 1 rfl) ?_
  refine xget (pc := 67) C0 hH 78 39 clX10 ⟨Nat.le_of_ble_eq_true rfl, Nat.le_of_ble_eq_true rfl⟩ ⟨rfl, rfl⟩ (Nat.le_of_ble_eq_true rfl) fl_X10_91 (v := .ref (b + 104)) rfl dX10_newBlock_67 ?_
  refine lv_iload (pc := 70) C0.1 C0.2.1 dX10_newBlock_70 (lv_at hl 0 rfl) ?_
  refine lv_bipush (pc := 72) (v := (-9)) C0.1 C0.2.1 dX10_newBlock_72 (by decide) ?_
  refine xiast (pc := 74) (N := 1202) C0 (Nat.le_of_ble_eq_true rfl) hH hS 104 ⟨Nat.le_of_ble_eq_true rfl, Nat.le_of_ble_eq_true rfl⟩ ⟨rfl, rfl⟩ (vin (by decide)) dX10_newBlock_74 (fun _ locs hH hS _ => ?_)
  have hH : Hd D tA b 78 52 zz (up2 i 78 32 1) (va_up (va_up (va_up (va_up (va_up (va_up (va_up F 98 (upd (F 98) (Int32.toNatClampNeg 0) 0)) 99 (upd (F 99) (Int32.toNatClampNeg 0) 0)) 100 (upd (F 100) (Int32.toNatClampNeg 0) (-9))) 101 (upd (F 101) (Int32.toNatClampNeg 0) (-9))) 102 (upd (F 102) (Int32.toNatClampNeg 0) 0)) 103 (upd (F 103) (Int32.toNatClampNeg 0) (-9))) 104 (upd (F 104) (Int32.toNatClampNeg 0) (-9))) G _ := hH
  refine lv_iload_n (pc := 75) C0.1 C0.2.1 dX10_newBlock_75 rfl (lv_at hl 4 rfl) ?_
  refine lv_bipush (pc := 76) (v := (-9)) C0.1 C0.2.1 dX10_newBlock_76 (by decide) ?_
  refine lv_icmp_eq (pc := 78) (tgt := 91) C0.1 C0.2.1 dX10_newBlock_78 (by decide) (fun _ => ?_) (fun c => absurd (by decide) c)
  refine lv_iload (pc := 91) C0.1 C0.2.1 dX10_newBlock_91 (lv_at hl 0 rfl) ?_
  exact xiret (pc := 93) C0 hr hH hS dX10_newBlock_93 ⟨rfl, rfl⟩
set_option maxHeartbeats 4000000 in
set_option maxRecDepth 100000 in
theorem a10_X10_readAll (l : Launch) (D : va_G) (tA : Nat → ClassId) (b : Nat) (i F : Nat → Nat → Int32) (G : Nat → Nat → Int64)   : xMI l yX10_readAll cX10_readAll 6 (some .boolean) 1 25 D tA b 78 52 i F G [.ref (b + 78), .ref (b + 85), .int 0] (fun r u => u = ((up2 (up2 (up2 (up2 (up2 (up2 (up2 (up2 (up2 (up2 (up2 i 78 17 (nI 85)) 78 18 0) 78 30 0) 78 31 (-9)) 78 32 0) 78 40 0) 78 47 0) 78 19 0) 78 32 1) 78 51 1) 78 52 (-1)), (va_up (va_up (va_up (va_up (va_up (va_up (va_up (va_up (va_up (va_up F 96 (upd (F 96) (Int32.toNatClampNeg 0) 0)) 97 (upd (F 97) (Int32.toNatClampNeg 0) 0)) 98 (upd (F 98) (Int32.toNatClampNeg 0) 0)) 99 (upd (F 99) (Int32.toNatClampNeg 0) 0)) 100 (upd (F 100) (Int32.toNatClampNeg 0) (-9))) 101 (upd (F 101) (Int32.toNatClampNeg 0) (-9))) 102 (upd (F 102) (Int32.toNatClampNeg 0) 0)) 103 (upd (F 103) (Int32.toNatClampNeg 0) (-9))) 104 (upd (F 104) (Int32.toNatClampNeg 0) (-9))) 113 (upd (F 113) (Int32.toNatClampNeg 0) 0)), G) ∧ r = 1) := by
  refine xstart RX10 rfl (by decide) (Nat.le_of_ble_eq_true rfl) ?_
  intro p e s m below meth c ls C0 hr hH hS hl
  have hl : lv_has ls 6 [(0, .ref (b + 78)), (1, .ref (b + 85)), (2, .int 0)] := hl
  refine lv_aload_n (pc := 0) C0.1 C0.2.1 dX10_readAll_0 rfl (lv_at hl 0 rfl) ?_
  refine lv_aload_n (pc := 1) C0.1 C0.2.1 dX10_readAll_1 rfl (lv_at hl 1 rfl) ?_
  refine xputR (pc := 2) C0 (Nat.le_of_ble_eq_true rfl) hH hS 78 17 85 clX10 ⟨Nat.le_of_ble_eq_true rfl, Nat.le_of_ble_eq_true rfl⟩ ⟨rfl, rfl⟩ ⟨Nat.le_of_ble_eq_true rfl, rfl, rfl⟩ (by decide) fl_X10_39 (fun q => ⟨rfl, rfl⟩) dX10_readAll_2 (fun _ locs hH hS _ => ?_)
  rw [upz_zz] at hH
  have hH : Hd D tA b 78 52 zz (up2 i 78 17 (nI 85)) F G _ := hH
  refine lv_aload_n (pc := 5) C0.1 C0.2.1 dX10_readAll_5 rfl (lv_at hl 0 rfl) ?_
  refine lv_iload_n (pc := 6) C0.1 C0.2.1 dX10_readAll_6 rfl (lv_at hl 2 rfl) ?_
  refine xputI (pc := 7) C0 (Nat.le_of_ble_eq_true rfl) hH hS 78 18 clX10 ⟨Nat.le_of_ble_eq_true rfl, Nat.le_of_ble_eq_true rfl⟩ ⟨rfl, rfl⟩ ⟨Nat.le_of_ble_eq_true rfl, rfl, rfl⟩ fl_X10_251 (x := 0) ⟨rfl, rfl⟩ dX10_readAll_7 (fun _ locs hH hS _ => ?_)
  have hH : Hd D tA b 78 52 zz (up2 (up2 i 78 17 (nI 85)) 78 18 0) F G _ := hH
  refine lv_aload_n (pc := 10) C0.1 C0.2.1 dX10_readAll_10 rfl (lv_at hl 0 rfl) ?_
  refine lv_iconst (pc := 11) (v := 0) C0.1 C0.2.1 dX10_readAll_11 (by decide) ?_
  refine xputI (pc := 12) C0 (Nat.le_of_ble_eq_true rfl) hH hS 78 30 clX10 ⟨Nat.le_of_ble_eq_true rfl, Nat.le_of_ble_eq_true rfl⟩ ⟨rfl, rfl⟩ ⟨Nat.le_of_ble_eq_true rfl, rfl, rfl⟩ fl_X10_245 (x := 0) ⟨rfl, rfl⟩ dX10_readAll_12 (fun _ locs hH hS _ => ?_)
  have hH : Hd D tA b 78 52 zz (up2 (up2 (up2 i 78 17 (nI 85)) 78 18 0) 78 30 0) F G _ := hH
  refine lv_aload_n (pc := 15) C0.1 C0.2.1 dX10_readAll_15 rfl (lv_at hl 0 rfl) ?_
  refine lv_bipush (pc := 16) (v := (-9)) C0.1 C0.2.1 dX10_readAll_16 (by decide) ?_
  refine xputI (pc := 18) C0 (Nat.le_of_ble_eq_true rfl) hH hS 78 31 clX10 ⟨Nat.le_of_ble_eq_true rfl, Nat.le_of_ble_eq_true rfl⟩ ⟨rfl, rfl⟩ ⟨Nat.le_of_ble_eq_true rfl, rfl, rfl⟩ fl_X10_248 (x := (-9)) ⟨rfl, rfl⟩ dX10_readAll_18 (fun _ locs hH hS _ => ?_)
  have hH : Hd D tA b 78 52 zz (up2 (up2 (up2 (up2 i 78 17 (nI 85)) 78 18 0) 78 30 0) 78 31 (-9)) F G _ := hH
  refine lv_aload_n (pc := 21) C0.1 C0.2.1 dX10_readAll_21 rfl (lv_at hl 0 rfl) ?_
  refine lv_iconst (pc := 22) (v := 0) C0.1 C0.2.1 dX10_readAll_22 (by decide) ?_
  refine xputI (pc := 23) C0 (Nat.le_of_ble_eq_true rfl) hH hS 78 32 clX10 ⟨Nat.le_of_ble_eq_true rfl, Nat.le_of_ble_eq_true rfl⟩ ⟨rfl, rfl⟩ ⟨Nat.le_of_ble_eq_true rfl, rfl, rfl⟩ fl_X10_281 (x := 0) ⟨rfl, rfl⟩ dX10_readAll_23 (fun _ locs hH hS _ => ?_)
  have hH : Hd D tA b 78 52 zz (up2 (up2 (up2 (up2 (up2 i 78 17 (nI 85)) 78 18 0) 78 30 0) 78 31 (-9)) 78 32 0) F G _ := hH
  refine lv_aload_n (pc := 26) C0.1 C0.2.1 dX10_readAll_26 rfl (lv_at hl 0 rfl) ?_
  refine lv_iconst (pc := 27) (v := 0) C0.1 C0.2.1 dX10_readAll_27 (by decide) ?_
  refine xputI (pc := 28) C0 (Nat.le_of_ble_eq_true rfl) hH hS 78 40 clX10 ⟨Nat.le_of_ble_eq_true rfl, Nat.le_of_ble_eq_true rfl⟩ ⟨rfl, rfl⟩ ⟨Nat.le_of_ble_eq_true rfl, rfl, rfl⟩ fl_X10_287 (x := 0) ⟨rfl, rfl⟩ dX10_readAll_28 (fun _ locs hH hS _ => ?_)
  have hH : Hd D tA b 78 52 zz (up2 (up2 (up2 (up2 (up2 (up2 i 78 17 (nI 85)) 78 18 0) 78 30 0) 78 31 (-9)) 78 32 0) 78 40 0) F G _ := hH
  refine lv_aload_n (pc := 31) C0.1 C0.2.1 dX10_readAll_31 rfl (lv_at hl 0 rfl) ?_
  refine lv_iconst (pc := 32) (v := 0) C0.1 C0.2.1 dX10_readAll_32 (by decide) ?_
  refine xputI (pc := 33) C0 (Nat.le_of_ble_eq_true rfl) hH hS 78 47 clX10 ⟨Nat.le_of_ble_eq_true rfl, Nat.le_of_ble_eq_true rfl⟩ ⟨rfl, rfl⟩ ⟨Nat.le_of_ble_eq_true rfl, rfl, rfl⟩ fl_X10_290 (x := 0) ⟨rfl, rfl⟩ dX10_readAll_33 (fun _ locs hH hS _ => ?_)
  have hH : Hd D tA b 78 52 zz (up2 (up2 (up2 (up2 (up2 (up2 (up2 i 78 17 (nI 85)) 78 18 0) 78 30 0) 78 31 (-9)) 78 32 0) 78 40 0) 78 47 0) F G _ := hH
  refine lv_aload_n (pc := 36) C0.1 C0.2.1 dX10_readAll_36 rfl (lv_at hl 0 rfl) ?_
  refine xcVV (pc := 37) 78 [] (a11_X10_measure l D tA b (up2 (up2 (up2 (up2 (up2 (up2 (up2 i 78 17 (nI 85)) 78 18 0) 78 30 0) 78 31 (-9)) 78 32 0) 78 40 0) 78 47 0) F G  (by exact rfl)) C0 hH hS clX10 rfl ⟨⟨Nat.le_of_ble_eq_true rfl, Nat.le_of_ble_eq_true rfl⟩, rfl, rfl⟩ cw_X10_330 rfl ⟨Nat.le_of_ble_eq_true rfl, Nat.le_of_ble_eq_true rfl⟩ hl.1 rfl (Nat.le_of_ble_eq_true rfl) dX10_readAll_37 ⟨Nat.le_of_ble_eq_true rfl, Nat.le_of_ble_eq_true rfl⟩ (fun ir1 Fr1 Gr1 _ locs hp hH hS => ?_)
  cases hp
  have hH : Hd D tA b 78 52 zz (up2 (up2 (up2 (up2 (up2 (up2 (up2 i 78 17 (nI 85)) 78 18 0) 78 30 0) 78 31 (-9)) 78 32 0) 78 40 0) 78 47 0) (va_up (va_up F 96 (upd (F 96) (Int32.toNatClampNeg 0) 0)) 97 (upd (F 97) (Int32.toNatClampNeg 0) 0)) G _ := hH
  refine lv_aload_n (pc := 40) C0.1 C0.2.1 dX10_readAll_40 rfl (lv_at hl 0 rfl) ?_
  refine xcVI (pc := 41) 78 [] (a12_X10_cutUp l D tA b (up2 (up2 (up2 (up2 (up2 (up2 (up2 i 78 17 (nI 85)) 78 18 0) 78 30 0) 78 31 (-9)) 78 32 0) 78 40 0) 78 47 0) (va_up (va_up F 96 (upd (F 96) (Int32.toNatClampNeg 0) 0)) 97 (upd (F 97) (Int32.toNatClampNeg 0) 0)) G  (by exact rfl)) C0 hH hS clX10 rfl ⟨⟨Nat.le_of_ble_eq_true rfl, Nat.le_of_ble_eq_true rfl⟩, rfl, rfl⟩ cw_X10_333 rfl ⟨Nat.le_of_ble_eq_true rfl, Nat.le_of_ble_eq_true rfl⟩ hl.1 rfl (Nat.le_of_ble_eq_true rfl) dX10_readAll_41 ⟨Nat.le_of_ble_eq_true rfl, Nat.le_of_ble_eq_true rfl⟩ (fun r2 ir2 Fr2 Gr2 _ locs hp hH hS => ?_)
  obtain ⟨hu, rfl⟩ := hp
  cases hu
  have hH : Hd D tA b 78 52 zz (up2 (up2 (up2 (up2 (up2 (up2 (up2 (up2 i 78 17 (nI 85)) 78 18 0) 78 30 0) 78 31 (-9)) 78 32 0) 78 40 0) 78 47 0) 78 19 0) (va_up (va_up F 96 (upd (F 96) (Int32.toNatClampNeg 0) 0)) 97 (upd (F 97) (Int32.toNatClampNeg 0) 0)) G _ := hH
  refine lv_if_ne (pc := 44) (tgt := 49) C0.1 C0.2.1 dX10_readAll_44 (by decide) (fun _ => ?_) (fun c => absurd c (by decide))
  refine lv_aload_n (pc := 49) C0.1 C0.2.1 dX10_readAll_49 rfl (lv_at hl 0 rfl) ?_
  refine xget (pc := 50) C0 hH 78 50 clX10 ⟨Nat.le_of_ble_eq_true rfl, Nat.le_of_ble_eq_true rfl⟩ ⟨rfl, rfl⟩ (Nat.le_of_ble_eq_true rfl) fl_X10_118 (v := .ref (b + 113)) rfl dX10_readAll_50 ?_
  refine lv_iconst (pc := 53) (v := 0) C0.1 C0.2.1 dX10_readAll_53 (by decide) ?_
  refine lv_aload_n (pc := 54) C0.1 C0.2.1 dX10_readAll_54 rfl (lv_at hl 0 rfl) ?_
  refine lv_iconst (pc := 55) (v := 0) C0.1 C0.2.1 dX10_readAll_55 (by decide) ?_
  refine lv_iconst (pc := 56) (v := 0) C0.1 C0.2.1 dX10_readAll_56 (by decide) ?_
  refine lv_bipush (pc := 57) (v := (-9)) C0.1 C0.2.1 dX10_readAll_57 (by decide) ?_
  refine lv_bipush (pc := 59) (v := (-9)) C0.1 C0.2.1 dX10_readAll_59 (by decide) ?_
  refine xcVI (pc := 61) 78 [.int 0, .int 0, .int (-9), .int (-9)] (a13_X10_newBlock l D tA b (up2 (up2 (up2 (up2 (up2 (up2 (up2 (up2 i 78 17 (nI 85)) 78 18 0) 78 30 0) 78 31 (-9)) 78 32 0) 78 40 0) 78 47 0) 78 19 0) (va_up (va_up F 96 (upd (F 96) (Int32.toNatClampNeg 0) 0)) 97 (upd (F 97) (Int32.toNatClampNeg 0) 0)) G  (by exact rfl)) C0 hH hS clX10 rfl ⟨⟨Nat.le_of_ble_eq_true rfl, Nat.le_of_ble_eq_true rfl⟩, rfl, rfl⟩ cw_X10_299 rfl ⟨Nat.le_of_ble_eq_true rfl, Nat.le_of_ble_eq_true rfl⟩ hl.1 rfl (Nat.le_of_ble_eq_true rfl) dX10_readAll_61 ⟨Nat.le_of_ble_eq_true rfl, Nat.le_of_ble_eq_true rfl⟩ (fun r3 ir3 Fr3 Gr3 _ locs hp hH hS => ?_)
  obtain ⟨hu, rfl⟩ := hp
  cases hu
  have hH : Hd D tA b 78 52 zz (up2 (up2 (up2 (up2 (up2 (up2 (up2 (up2 (up2 i 78 17 (nI 85)) 78 18 0) 78 30 0) 78 31 (-9)) 78 32 0) 78 40 0) 78 47 0) 78 19 0) 78 32 1) (va_up (va_up (va_up (va_up (va_up (va_up (va_up (va_up (va_up F 96 (upd (F 96) (Int32.toNatClampNeg 0) 0)) 97 (upd (F 97) (Int32.toNatClampNeg 0) 0)) 98 (upd (F 98) (Int32.toNatClampNeg 0) 0)) 99 (upd (F 99) (Int32.toNatClampNeg 0) 0)) 100 (upd (F 100) (Int32.toNatClampNeg 0) (-9))) 101 (upd (F 101) (Int32.toNatClampNeg 0) (-9))) 102 (upd (F 102) (Int32.toNatClampNeg 0) 0)) 103 (upd (F 103) (Int32.toNatClampNeg 0) (-9))) 104 (upd (F 104) (Int32.toNatClampNeg 0) (-9))) G _ := hH
  refine xiast (pc := 64) (N := 1202) C0 (Nat.le_of_ble_eq_true rfl) hH hS 113 ⟨Nat.le_of_ble_eq_true rfl, Nat.le_of_ble_eq_true rfl⟩ ⟨rfl, rfl⟩ (vin (by decide)) dX10_readAll_64 (fun _ locs hH hS _ => ?_)
  have hH : Hd D tA b 78 52 zz (up2 (up2 (up2 (up2 (up2 (up2 (up2 (up2 (up2 i 78 17 (nI 85)) 78 18 0) 78 30 0) 78 31 (-9)) 78 32 0) 78 40 0) 78 47 0) 78 19 0) 78 32 1) (va_up (va_up (va_up (va_up (va_up (va_up (va_up (va_up (va_up (va_up F 96 (upd (F 96) (Int32.toNatClampNeg 0) 0)) 97 (upd (F 97) (Int32.toNatClampNeg 0) 0)) 98 (upd (F 98) (Int32.toNatClampNeg 0) 0)) 99 (upd (F 99) (Int32.toNatClampNeg 0) 0)) 100 (upd (F 100) (Int32.toNatClampNeg 0) (-9))) 101 (upd (F 101) (Int32.toNatClampNeg 0) (-9))) 102 (upd (F 102) (Int32.toNatClampNeg 0) 0)) 103 (upd (F 103) (Int32.toNatClampNeg 0) (-9))) 104 (upd (F 104) (Int32.toNatClampNeg 0) (-9))) 113 (upd (F 113) (Int32.toNatClampNeg 0) 0)) G _ := hH
  refine lv_aload_n (pc := 65) C0.1 C0.2.1 dX10_readAll_65 rfl (lv_at hl 0 rfl) ?_
  refine lv_iconst (pc := 66) (v := 1) C0.1 C0.2.1 dX10_readAll_66 (by decide) ?_
  refine xputI (pc := 67) C0 (Nat.le_of_ble_eq_true rfl) hH hS 78 51 clX10 ⟨Nat.le_of_ble_eq_true rfl, Nat.le_of_ble_eq_true rfl⟩ ⟨rfl, rfl⟩ ⟨Nat.le_of_ble_eq_true rfl, rfl, rfl⟩ fl_X10_293 (x := 1) ⟨rfl, rfl⟩ dX10_readAll_67 (fun _ locs hH hS _ => ?_)
  have hH : Hd D tA b 78 52 zz (up2 (up2 (up2 (up2 (up2 (up2 (up2 (up2 (up2 (up2 i 78 17 (nI 85)) 78 18 0) 78 30 0) 78 31 (-9)) 78 32 0) 78 40 0) 78 47 0) 78 19 0) 78 32 1) 78 51 1) (va_up (va_up (va_up (va_up (va_up (va_up (va_up (va_up (va_up (va_up F 96 (upd (F 96) (Int32.toNatClampNeg 0) 0)) 97 (upd (F 97) (Int32.toNatClampNeg 0) 0)) 98 (upd (F 98) (Int32.toNatClampNeg 0) 0)) 99 (upd (F 99) (Int32.toNatClampNeg 0) 0)) 100 (upd (F 100) (Int32.toNatClampNeg 0) (-9))) 101 (upd (F 101) (Int32.toNatClampNeg 0) (-9))) 102 (upd (F 102) (Int32.toNatClampNeg 0) 0)) 103 (upd (F 103) (Int32.toNatClampNeg 0) (-9))) 104 (upd (F 104) (Int32.toNatClampNeg 0) (-9))) 113 (upd (F 113) (Int32.toNatClampNeg 0) 0)) G _ := hH
  refine lv_aload_n (pc := 70) C0.1 C0.2.1 dX10_readAll_70 rfl (lv_at hl 0 rfl) ?_
  refine lv_iconst (pc := 71) (v := (-1)) C0.1 C0.2.1 dX10_readAll_71 (by decide) ?_
  refine xputI (pc := 72) C0 (Nat.le_of_ble_eq_true rfl) hH hS 78 52 clX10 ⟨Nat.le_of_ble_eq_true rfl, Nat.le_of_ble_eq_true rfl⟩ ⟨rfl, rfl⟩ ⟨Nat.le_of_ble_eq_true rfl, rfl, rfl⟩ fl_X10_313 (x := (-1)) ⟨rfl, rfl⟩ dX10_readAll_72 (fun _ locs hH hS _ => ?_)
  have hH : Hd D tA b 78 52 zz (up2 (up2 (up2 (up2 (up2 (up2 (up2 (up2 (up2 (up2 (up2 i 78 17 (nI 85)) 78 18 0) 78 30 0) 78 31 (-9)) 78 32 0) 78 40 0) 78 47 0) 78 19 0) 78 32 1) 78 51 1) 78 52 (-1)) (va_up (va_up (va_up (va_up (va_up (va_up (va_up (va_up (va_up (va_up F 96 (upd (F 96) (Int32.toNatClampNeg 0) 0)) 97 (upd (F 97) (Int32.toNatClampNeg 0) 0)) 98 (upd (F 98) (Int32.toNatClampNeg 0) 0)) 99 (upd (F 99) (Int32.toNatClampNeg 0) 0)) 100 (upd (F 100) (Int32.toNatClampNeg 0) (-9))) 101 (upd (F 101) (Int32.toNatClampNeg 0) (-9))) 102 (upd (F 102) (Int32.toNatClampNeg 0) 0)) 103 (upd (F 103) (Int32.toNatClampNeg 0) (-9))) 104 (upd (F 104) (Int32.toNatClampNeg 0) (-9))) 113 (upd (F 113) (Int32.toNatClampNeg 0) 0)) G _ := hH
  refine lv_iconst (pc := 75) (v := 0) C0.1 C0.2.1 dX10_readAll_75 (by decide) ?_
  refine lv_istore_n (pc := 76) (lv' := [(3, .int 0), (0, .ref (b + 78)), (1, .ref (b + 85)), (2, .int 0)]) C0.1 C0.2.1 dX10_readAll_76 rfl hl (by decide) rfl (fun ls hl => ?_)
  refine lv_iconst (pc := 77) (v := 0) C0.1 C0.2.1 dX10_readAll_77 (by decide) ?_
  refine lv_istore (pc := 78) (lv' := [(4, .int 0), (3, .int 0), (0, .ref (b + 78)), (1, .ref (b + 85)), (2, .int 0)]) C0.1 C0.2.1 dX10_readAll_78 hl (by decide) rfl (fun ls hl => ?_)
  refine lv_iload (pc := 80) C0.1 C0.2.1 dX10_readAll_80 (lv_at hl 0 rfl) ?_
  refine lv_aload_n (pc := 82) C0.1 C0.2.1 dX10_readAll_82 rfl (lv_at hl 2 rfl) ?_
  refine xget (pc := 83) C0 hH 78 19 clX10 ⟨Nat.le_of_ble_eq_true rfl, Nat.le_of_ble_eq_true rfl⟩ ⟨rfl, rfl⟩ (Nat.le_of_ble_eq_true rfl) fl_X10_258 (v := .int 0) rfl dX10_readAll_83 ?_
  refine lv_icmp_ge (pc := 86) (tgt := 216) C0.1 C0.2.1 dX10_readAll_86 (by decide) (fun _ => ?_) (fun c => absurd (by decide) c)
  refine lv_aload_n (pc := 216) C0.1 C0.2.1 dX10_readAll_216 rfl (lv_at hl 2 rfl) ?_
  refine xget (pc := 217) C0 hH 78 30 clX10 ⟨Nat.le_of_ble_eq_true rfl, Nat.le_of_ble_eq_true rfl⟩ ⟨rfl, rfl⟩ (Nat.le_of_ble_eq_true rfl) fl_X10_245 (v := .int 0) rfl dX10_readAll_217 ?_
  refine lv_if_ne (pc := 220) (tgt := 238) C0.1 C0.2.1 dX10_readAll_220 (by decide) (fun c => absurd (by decide) c) (fun _ => ?_)
  refine lv_iload_n (pc := 223) C0.1 C0.2.1 dX10_readAll_223 rfl (lv_at hl 1 rfl) ?_
  refine lv_iconst (pc := 224) (v := 1) C0.1 C0.2.1 dX10_readAll_224 (by decide) ?_
  refine lv_icmp_ne (pc := 225) (tgt := 238) C0.1 C0.2.1 dX10_readAll_225 (by decide) (fun _ => ?_) (fun c => absurd c (by decide))
  refine lv_aload_n (pc := 238) C0.1 C0.2.1 dX10_readAll_238 rfl (lv_at hl 2 rfl) ?_
  refine xget (pc := 239) C0 hH 78 30 clX10 ⟨Nat.le_of_ble_eq_true rfl, Nat.le_of_ble_eq_true rfl⟩ ⟨rfl, rfl⟩ (Nat.le_of_ble_eq_true rfl) fl_X10_245 (v := .int 0) rfl dX10_readAll_239 ?_
  refine lv_if_ne (pc := 242) (tgt := 273) C0.1 C0.2.1 dX10_readAll_242 (by decide) (fun c => absurd (by decide) c) (fun _ => ?_)
  refine lv_iload_n (pc := 245) C0.1 C0.2.1 dX10_readAll_245 rfl (lv_at hl 1 rfl) ?_
  refine lv_if_le (pc := 246) (tgt := 273) C0.1 C0.2.1 dX10_readAll_246 (by decide) (fun _ => ?_) (fun c => absurd (by decide) c)
  refine lv_iconst (pc := 273) (v := 0) C0.1 C0.2.1 dX10_readAll_273 (by decide) ?_
  refine lv_istore (pc := 274) (lv' := [(4, .int 0), (3, .int 0), (0, .ref (b + 78)), (1, .ref (b + 85)), (2, .int 0)]) C0.1 C0.2.1 dX10_readAll_274 hl (by decide) rfl (fun ls hl => ?_)
  refine lv_iload (pc := 276) C0.1 C0.2.1 dX10_readAll_276 (lv_at hl 0 rfl) ?_
  refine lv_aload_n (pc := 278) C0.1 C0.2.1 dX10_readAll_278 rfl (lv_at hl 2 rfl) ?_
  refine xget (pc := 279) C0 hH 78 51 clX10 ⟨Nat.le_of_ble_eq_true rfl, Nat.le_of_ble_eq_true rfl⟩ ⟨rfl, rfl⟩ (Nat.le_of_ble_eq_true rfl) fl_X10_293 (v := .int 1) rfl dX10_readAll_279 ?_
  refine lv_icmp_ge (pc := 282) (tgt := 338) C0.1 C0.2.1 dX10_readAll_282 (by decide) (fun c => absurd c (by decide)) (fun _ => ?_)
  refine lv_aload_n (pc := 285) C0.1 C0.2.1 dX10_readAll_285 rfl (lv_at hl 2 rfl) ?_
  refine xget (pc := 286) C0 hH 78 30 clX10 ⟨Nat.le_of_ble_eq_true rfl, Nat.le_of_ble_eq_true rfl⟩ ⟨rfl, rfl⟩ (Nat.le_of_ble_eq_true rfl) fl_X10_245 (v := .int 0) rfl dX10_readAll_286 ?_
  refine lv_if_ne (pc := 289) (tgt := 338) C0.1 C0.2.1 dX10_readAll_289 (by decide) (fun c => absurd (by decide) c) (fun _ => ?_)
  refine lv_aload_n (pc := 292) C0.1 C0.2.1 dX10_readAll_292 rfl (lv_at hl 2 rfl) ?_
  refine xget (pc := 293) C0 hH 78 33 clX10 ⟨Nat.le_of_ble_eq_true rfl, Nat.le_of_ble_eq_true rfl⟩ ⟨rfl, rfl⟩ (Nat.le_of_ble_eq_true rfl) fl_X10_73 (v := .ref (b + 98)) rfl dX10_readAll_293 ?_
  refine lv_aload_n (pc := 296) C0.1 C0.2.1 dX10_readAll_296 rfl (lv_at hl 2 rfl) ?_
  refine xget (pc := 297) C0 hH 78 50 clX10 ⟨Nat.le_of_ble_eq_true rfl, Nat.le_of_ble_eq_true rfl⟩ ⟨rfl, rfl⟩ (Nat.le_of_ble_eq_true rfl) fl_X10_118 (v := .ref (b + 113)) rfl dX10_readAll_297 ?_
  refine lv_iload (pc := 300) C0.1 C0.2.1 dX10_readAll_300 (lv_at hl 0 rfl) ?_
  refine xiald (pc := 302) (N := 1202) C0 hH 113 ⟨Nat.le_of_ble_eq_true rfl, Nat.le_of_ble_eq_true rfl⟩ ⟨rfl, rfl⟩ (vin (by decide)) dX10_readAll_302 ?_
  refine lv_topi (fun q4 eq4 => ?_)
  obtain rfl : q4 = 0 := eq4.trans rfl
  refine xiald (pc := 303) (N := 1202) C0 hH 98 ⟨Nat.le_of_ble_eq_true rfl, Nat.le_of_ble_eq_true rfl⟩ ⟨rfl, rfl⟩ (vin (by decide)) dX10_readAll_303 ?_
  refine lv_topi (fun q5 eq5 => ?_)
  obtain rfl : q5 = 0 := eq5.trans rfl
  refine lv_iconst (pc := 304) (v := 4) C0.1 C0.2.1 dX10_readAll_304 (by decide) ?_
  refine lv_icmp_ne (pc := 305) (tgt := 332) C0.1 C0.2.1 dX10_readAll_305 (by decide) (fun _ => ?_) (fun c => absurd c (by decide))
  refine lv_iinc (pc := 332) (v := 1) (lv' := [(4, .int 1), (3, .int 0), (0, .ref (b + 78)), (1, .ref (b + 85)), (2, .int 0)]) C0.1 C0.2.1 dX10_readAll_332 hl (k := 0) rfl (by decide) (by decide) rfl (fun ls hl => ?_)
  refine lv_goto (pc := 335) (tgt := 276) C0.1 C0.2.1 dX10_readAll_335 (by decide) ?_
  refine lv_iload (pc := 276) C0.1 C0.2.1 dX10_readAll_276 (lv_at hl 0 rfl) ?_
  refine lv_aload_n (pc := 278) C0.1 C0.2.1 dX10_readAll_278 rfl (lv_at hl 2 rfl) ?_
  refine xget (pc := 279) C0 hH 78 51 clX10 ⟨Nat.le_of_ble_eq_true rfl, Nat.le_of_ble_eq_true rfl⟩ ⟨rfl, rfl⟩ (Nat.le_of_ble_eq_true rfl) fl_X10_293 (v := .int 1) rfl dX10_readAll_279 ?_
  refine lv_icmp_ge (pc := 282) (tgt := 338) C0.1 C0.2.1 dX10_readAll_282 (by decide) (fun _ => ?_) (fun c => absurd (by decide) c)
  refine lv_aload_n (pc := 338) C0.1 C0.2.1 dX10_readAll_338 rfl (lv_at hl 2 rfl) ?_
  refine xget (pc := 339) C0 hH 78 30 clX10 ⟨Nat.le_of_ble_eq_true rfl, Nat.le_of_ble_eq_true rfl⟩ ⟨rfl, rfl⟩ (Nat.le_of_ble_eq_true rfl) fl_X10_245 (v := .int 0) rfl dX10_readAll_339 ?_
  refine lv_if_ne (pc := 342) (tgt := 349) C0.1 C0.2.1 dX10_readAll_342 (by decide) (fun c => absurd (by decide) c) (fun _ => ?_)
  refine lv_iconst (pc := 345) (v := 1) C0.1 C0.2.1 dX10_readAll_345 (by decide) ?_
  refine lv_goto (pc := 346) (tgt := 350) C0.1 C0.2.1 dX10_readAll_346 (by decide) ?_
  exact xzret (pc := 350) C0 hr hH hS dX10_readAll_350 (by decide) ⟨rfl, rfl⟩
set_option maxHeartbeats 4000000 in
set_option maxRecDepth 100000 in
theorem p_X10_read (l : Launch) (D : va_G) (tA : Nat → ClassId) (b : Nat) (i F : Nat → Nat → Int32) (G : Nat → Nat → Int64)  (hi_78_12 : i 78 12 = 0) : xMI l yX10_read cX10_read 2 (some .int) 2 50 D tA b 78 52 i F G [.ref (b + 78)] (fun r _ => r = 0) := by
  refine xstart RX10 rfl (by decide) (Nat.le_of_ble_eq_true rfl) ?_
  intro p e s m below meth c ls C0 hr hH hS hl
  have hl : lv_has ls 2 [(0, .ref (b + 78))] := hl
  refine lv_aload_n (pc := 0) C0.1 C0.2.1 dX10_read_0 rfl (lv_at hl 0 rfl) ?_
  refine lv_aload_n (pc := 1) C0.1 C0.2.1 dX10_read_1 rfl (lv_at hl 0 rfl) ?_
  refine xget (pc := 2) C0 hH 78 11 clX10 ⟨Nat.le_of_ble_eq_true rfl, Nat.le_of_ble_eq_true rfl⟩ ⟨rfl, rfl⟩ (Nat.le_of_ble_eq_true rfl) fl_X10_29 (v := .ref (b + 85)) rfl dX10_read_2 ?_
  refine lv_aload_n (pc := 5) C0.1 C0.2.1 dX10_read_5 rfl (lv_at hl 0 rfl) ?_
  refine xget (pc := 6) C0 hH 78 12 clX10 ⟨Nat.le_of_ble_eq_true rfl, Nat.le_of_ble_eq_true rfl⟩ ⟨rfl, rfl⟩ (Nat.le_of_ble_eq_true rfl) fl_X10_219 (v := .int 0) (congrArg Value.int hi_78_12) dX10_read_6 ?_
  refine xcVI (pc := 9) 78 [.ref (b + 85), .int 0] (a10_X10_readAll l D tA b i F G  ) C0 hH hS clX10 rfl ⟨⟨Nat.le_of_ble_eq_true rfl, Nat.le_of_ble_eq_true rfl⟩, rfl, rfl⟩ cw_X10_346 rfl ⟨Nat.le_of_ble_eq_true rfl, Nat.le_of_ble_eq_true rfl⟩ hl.1 rfl (Nat.le_of_ble_eq_true rfl) dX10_read_9 ⟨Nat.le_of_ble_eq_true rfl, Nat.le_of_ble_eq_true rfl⟩ (fun r1 ir1 Fr1 Gr1 _ locs hp hH hS => ?_)
  obtain ⟨hu, rfl⟩ := hp
  cases hu
  have hH : Hd D tA b 78 52 zz (up2 (up2 (up2 (up2 (up2 (up2 (up2 (up2 (up2 (up2 (up2 i 78 17 (nI 85)) 78 18 0) 78 30 0) 78 31 (-9)) 78 32 0) 78 40 0) 78 47 0) 78 19 0) 78 32 1) 78 51 1) 78 52 (-1)) (va_up (va_up (va_up (va_up (va_up (va_up (va_up (va_up (va_up (va_up F 96 (upd (F 96) (Int32.toNatClampNeg 0) 0)) 97 (upd (F 97) (Int32.toNatClampNeg 0) 0)) 98 (upd (F 98) (Int32.toNatClampNeg 0) 0)) 99 (upd (F 99) (Int32.toNatClampNeg 0) 0)) 100 (upd (F 100) (Int32.toNatClampNeg 0) (-9))) 101 (upd (F 101) (Int32.toNatClampNeg 0) (-9))) 102 (upd (F 102) (Int32.toNatClampNeg 0) 0)) 103 (upd (F 103) (Int32.toNatClampNeg 0) (-9))) 104 (upd (F 104) (Int32.toNatClampNeg 0) (-9))) 113 (upd (F 113) (Int32.toNatClampNeg 0) 0)) G _ := hH
  refine lv_istore_n (pc := 12) (lv' := [(1, .int 1), (0, .ref (b + 78))]) C0.1 C0.2.1 dX10_read_12 rfl hl (by decide) rfl (fun ls hl => ?_)
  refine lv_aload_n (pc := 13) C0.1 C0.2.1 dX10_read_13 rfl (lv_at hl 1 rfl) ?_
  refine lv_iload_n (pc := 14) C0.1 C0.2.1 dX10_read_14 rfl (lv_at hl 0 rfl) ?_
  refine lv_if_eq (pc := 15) (tgt := 22) C0.1 C0.2.1 dX10_read_15 (by decide) (fun c => absurd c (by decide)) (fun _ => ?_)
  refine lv_iconst (pc := 18) (v := 1) C0.1 C0.2.1 dX10_read_18 (by decide) ?_
  refine lv_goto (pc := 19) (tgt := 23) C0.1 C0.2.1 dX10_read_19 (by decide) ?_
  refine xputI (pc := 23) C0 (Nat.le_of_ble_eq_true rfl) hH hS 78 15 clX10 ⟨Nat.le_of_ble_eq_true rfl, Nat.le_of_ble_eq_true rfl⟩ ⟨rfl, rfl⟩ ⟨Nat.le_of_ble_eq_true rfl, rfl, rfl⟩ fl_X10_211 (x := 1) ⟨rfl, rfl⟩ dX10_read_23 (fun _ locs hH hS _ => ?_)
  have hH : Hd D tA b 78 52 zz (up2 (up2 (up2 (up2 (up2 (up2 (up2 (up2 (up2 (up2 (up2 (up2 i 78 17 (nI 85)) 78 18 0) 78 30 0) 78 31 (-9)) 78 32 0) 78 40 0) 78 47 0) 78 19 0) 78 32 1) 78 51 1) 78 52 (-1)) 78 15 1) (va_up (va_up (va_up (va_up (va_up (va_up (va_up (va_up (va_up (va_up F 96 (upd (F 96) (Int32.toNatClampNeg 0) 0)) 97 (upd (F 97) (Int32.toNatClampNeg 0) 0)) 98 (upd (F 98) (Int32.toNatClampNeg 0) 0)) 99 (upd (F 99) (Int32.toNatClampNeg 0) 0)) 100 (upd (F 100) (Int32.toNatClampNeg 0) (-9))) 101 (upd (F 101) (Int32.toNatClampNeg 0) (-9))) 102 (upd (F 102) (Int32.toNatClampNeg 0) 0)) 103 (upd (F 103) (Int32.toNatClampNeg 0) (-9))) 104 (upd (F 104) (Int32.toNatClampNeg 0) (-9))) 113 (upd (F 113) (Int32.toNatClampNeg 0) 0)) G _ := hH
  refine lv_aload_n (pc := 26) C0.1 C0.2.1 dX10_read_26 rfl (lv_at hl 1 rfl) ?_
  refine xget (pc := 27) C0 hH 78 16 clX10 ⟨Nat.le_of_ble_eq_true rfl, Nat.le_of_ble_eq_true rfl⟩ ⟨rfl, rfl⟩ (Nat.le_of_ble_eq_true rfl) fl_X10_36 (v := .ref (b + 87)) rfl dX10_read_27 ?_
  refine lv_iconst (pc := 30) (v := 0) C0.1 C0.2.1 dX10_read_30 (by decide) ?_
  refine lv_aload_n (pc := 31) C0.1 C0.2.1 dX10_read_31 rfl (lv_at hl 1 rfl) ?_
  refine xget (pc := 32) C0 hH 78 30 clX10 ⟨Nat.le_of_ble_eq_true rfl, Nat.le_of_ble_eq_true rfl⟩ ⟨rfl, rfl⟩ (Nat.le_of_ble_eq_true rfl) fl_X10_245 (v := .int 0) rfl dX10_read_32 ?_
  refine xiast (pc := 35) (N := 4) C0 (Nat.le_of_ble_eq_true rfl) hH hS 87 ⟨Nat.le_of_ble_eq_true rfl, Nat.le_of_ble_eq_true rfl⟩ ⟨rfl, rfl⟩ (vin (by decide)) dX10_read_35 (fun _ locs hH hS _ => ?_)
  have hH : Hd D tA b 78 52 zz (up2 (up2 (up2 (up2 (up2 (up2 (up2 (up2 (up2 (up2 (up2 (up2 i 78 17 (nI 85)) 78 18 0) 78 30 0) 78 31 (-9)) 78 32 0) 78 40 0) 78 47 0) 78 19 0) 78 32 1) 78 51 1) 78 52 (-1)) 78 15 1) (va_up (va_up (va_up (va_up (va_up (va_up (va_up (va_up (va_up (va_up (va_up F 96 (upd (F 96) (Int32.toNatClampNeg 0) 0)) 97 (upd (F 97) (Int32.toNatClampNeg 0) 0)) 98 (upd (F 98) (Int32.toNatClampNeg 0) 0)) 99 (upd (F 99) (Int32.toNatClampNeg 0) 0)) 100 (upd (F 100) (Int32.toNatClampNeg 0) (-9))) 101 (upd (F 101) (Int32.toNatClampNeg 0) (-9))) 102 (upd (F 102) (Int32.toNatClampNeg 0) 0)) 103 (upd (F 103) (Int32.toNatClampNeg 0) (-9))) 104 (upd (F 104) (Int32.toNatClampNeg 0) (-9))) 113 (upd (F 113) (Int32.toNatClampNeg 0) 0)) 87 (upd (F 87) (Int32.toNatClampNeg 0) 0)) G _ := hH
  refine lv_aload_n (pc := 36) C0.1 C0.2.1 dX10_read_36 rfl (lv_at hl 1 rfl) ?_
  refine xget (pc := 37) C0 hH 78 16 clX10 ⟨Nat.le_of_ble_eq_true rfl, Nat.le_of_ble_eq_true rfl⟩ ⟨rfl, rfl⟩ (Nat.le_of_ble_eq_true rfl) fl_X10_36 (v := .ref (b + 87)) rfl dX10_read_37 ?_
  refine lv_iconst (pc := 40) (v := 1) C0.1 C0.2.1 dX10_read_40 (by decide) ?_
  refine lv_aload_n (pc := 41) C0.1 C0.2.1 dX10_read_41 rfl (lv_at hl 1 rfl) ?_
  refine xget (pc := 42) C0 hH 78 31 clX10 ⟨Nat.le_of_ble_eq_true rfl, Nat.le_of_ble_eq_true rfl⟩ ⟨rfl, rfl⟩ (Nat.le_of_ble_eq_true rfl) fl_X10_248 (v := .int (-9)) rfl dX10_read_42 ?_
  refine xiast (pc := 45) (N := 4) C0 (Nat.le_of_ble_eq_true rfl) hH hS 87 ⟨Nat.le_of_ble_eq_true rfl, Nat.le_of_ble_eq_true rfl⟩ ⟨rfl, rfl⟩ (vin (by decide)) dX10_read_45 (fun _ locs hH hS _ => ?_)
  have hH : Hd D tA b 78 52 zz (up2 (up2 (up2 (up2 (up2 (up2 (up2 (up2 (up2 (up2 (up2 (up2 i 78 17 (nI 85)) 78 18 0) 78 30 0) 78 31 (-9)) 78 32 0) 78 40 0) 78 47 0) 78 19 0) 78 32 1) 78 51 1) 78 52 (-1)) 78 15 1) (va_up (va_up (va_up (va_up (va_up (va_up (va_up (va_up (va_up (va_up (va_up (va_up F 96 (upd (F 96) (Int32.toNatClampNeg 0) 0)) 97 (upd (F 97) (Int32.toNatClampNeg 0) 0)) 98 (upd (F 98) (Int32.toNatClampNeg 0) 0)) 99 (upd (F 99) (Int32.toNatClampNeg 0) 0)) 100 (upd (F 100) (Int32.toNatClampNeg 0) (-9))) 101 (upd (F 101) (Int32.toNatClampNeg 0) (-9))) 102 (upd (F 102) (Int32.toNatClampNeg 0) 0)) 103 (upd (F 103) (Int32.toNatClampNeg 0) (-9))) 104 (upd (F 104) (Int32.toNatClampNeg 0) (-9))) 113 (upd (F 113) (Int32.toNatClampNeg 0) 0)) 87 (upd (F 87) (Int32.toNatClampNeg 0) 0)) 87 (upd (upd (F 87) (Int32.toNatClampNeg 0) 0) (Int32.toNatClampNeg 1) (-9))) G _ := hH
  refine lv_aload_n (pc := 46) C0.1 C0.2.1 dX10_read_46 rfl (lv_at hl 1 rfl) ?_
  refine xget (pc := 47) C0 hH 78 16 clX10 ⟨Nat.le_of_ble_eq_true rfl, Nat.le_of_ble_eq_true rfl⟩ ⟨rfl, rfl⟩ (Nat.le_of_ble_eq_true rfl) fl_X10_36 (v := .ref (b + 87)) rfl dX10_read_47 ?_
  refine lv_iconst (pc := 50) (v := 2) C0.1 C0.2.1 dX10_read_50 (by decide) ?_
  refine lv_iload_n (pc := 51) C0.1 C0.2.1 dX10_read_51 rfl (lv_at hl 0 rfl) ?_
  refine lv_if_eq (pc := 52) (tgt := 60) C0.1 C0.2.1 dX10_read_52 (by decide) (fun c => absurd c (by decide)) (fun _ => ?_)
  refine lv_bipush (pc := 55) (v := (-9)) C0.1 C0.2.1 dX10_read_55 (by decide) ?_
  refine lv_goto (pc := 57) (tgt := 69) C0.1 C0.2.1 dX10_read_57 (by decide) ?_
  refine xiast (pc := 69) (N := 4) C0 (Nat.le_of_ble_eq_true rfl) hH hS 87 ⟨Nat.le_of_ble_eq_true rfl, Nat.le_of_ble_eq_true rfl⟩ ⟨rfl, rfl⟩ (vin (by decide)) dX10_read_69 (fun _ locs hH hS _ => ?_)
  have hH : Hd D tA b 78 52 zz (up2 (up2 (up2 (up2 (up2 (up2 (up2 (up2 (up2 (up2 (up2 (up2 i 78 17 (nI 85)) 78 18 0) 78 30 0) 78 31 (-9)) 78 32 0) 78 40 0) 78 47 0) 78 19 0) 78 32 1) 78 51 1) 78 52 (-1)) 78 15 1) (va_up (va_up (va_up (va_up (va_up (va_up (va_up (va_up (va_up (va_up (va_up (va_up (va_up F 96 (upd (F 96) (Int32.toNatClampNeg 0) 0)) 97 (upd (F 97) (Int32.toNatClampNeg 0) 0)) 98 (upd (F 98) (Int32.toNatClampNeg 0) 0)) 99 (upd (F 99) (Int32.toNatClampNeg 0) 0)) 100 (upd (F 100) (Int32.toNatClampNeg 0) (-9))) 101 (upd (F 101) (Int32.toNatClampNeg 0) (-9))) 102 (upd (F 102) (Int32.toNatClampNeg 0) 0)) 103 (upd (F 103) (Int32.toNatClampNeg 0) (-9))) 104 (upd (F 104) (Int32.toNatClampNeg 0) (-9))) 113 (upd (F 113) (Int32.toNatClampNeg 0) 0)) 87 (upd (F 87) (Int32.toNatClampNeg 0) 0)) 87 (upd (upd (F 87) (Int32.toNatClampNeg 0) 0) (Int32.toNatClampNeg 1) (-9))) 87 (upd (upd (upd (F 87) (Int32.toNatClampNeg 0) 0) (Int32.toNatClampNeg 1) (-9)) (Int32.toNatClampNeg 2) (-9))) G _ := hH
  refine lv_aload_n (pc := 70) C0.1 C0.2.1 dX10_read_70 rfl (lv_at hl 1 rfl) ?_
  refine xget (pc := 71) C0 hH 78 16 clX10 ⟨Nat.le_of_ble_eq_true rfl, Nat.le_of_ble_eq_true rfl⟩ ⟨rfl, rfl⟩ (Nat.le_of_ble_eq_true rfl) fl_X10_36 (v := .ref (b + 87)) rfl dX10_read_71 ?_
  refine lv_iconst (pc := 74) (v := 3) C0.1 C0.2.1 dX10_read_74 (by decide) ?_
  refine lv_iload_n (pc := 75) C0.1 C0.2.1 dX10_read_75 rfl (lv_at hl 0 rfl) ?_
  refine lv_if_eq (pc := 76) (tgt := 84) C0.1 C0.2.1 dX10_read_76 (by decide) (fun c => absurd c (by decide)) (fun _ => ?_)
  refine lv_bipush (pc := 79) (v := (-9)) C0.1 C0.2.1 dX10_read_79 (by decide) ?_
  refine lv_goto (pc := 81) (tgt := 93) C0.1 C0.2.1 dX10_read_81 (by decide) ?_
  refine xiast (pc := 93) (N := 4) C0 (Nat.le_of_ble_eq_true rfl) hH hS 87 ⟨Nat.le_of_ble_eq_true rfl, Nat.le_of_ble_eq_true rfl⟩ ⟨rfl, rfl⟩ (vin (by decide)) dX10_read_93 (fun _ locs hH hS _ => ?_)
  have hH : Hd D tA b 78 52 zz (up2 (up2 (up2 (up2 (up2 (up2 (up2 (up2 (up2 (up2 (up2 (up2 i 78 17 (nI 85)) 78 18 0) 78 30 0) 78 31 (-9)) 78 32 0) 78 40 0) 78 47 0) 78 19 0) 78 32 1) 78 51 1) 78 52 (-1)) 78 15 1) (va_up (va_up (va_up (va_up (va_up (va_up (va_up (va_up (va_up (va_up (va_up (va_up (va_up (va_up F 96 (upd (F 96) (Int32.toNatClampNeg 0) 0)) 97 (upd (F 97) (Int32.toNatClampNeg 0) 0)) 98 (upd (F 98) (Int32.toNatClampNeg 0) 0)) 99 (upd (F 99) (Int32.toNatClampNeg 0) 0)) 100 (upd (F 100) (Int32.toNatClampNeg 0) (-9))) 101 (upd (F 101) (Int32.toNatClampNeg 0) (-9))) 102 (upd (F 102) (Int32.toNatClampNeg 0) 0)) 103 (upd (F 103) (Int32.toNatClampNeg 0) (-9))) 104 (upd (F 104) (Int32.toNatClampNeg 0) (-9))) 113 (upd (F 113) (Int32.toNatClampNeg 0) 0)) 87 (upd (F 87) (Int32.toNatClampNeg 0) 0)) 87 (upd (upd (F 87) (Int32.toNatClampNeg 0) 0) (Int32.toNatClampNeg 1) (-9))) 87 (upd (upd (upd (F 87) (Int32.toNatClampNeg 0) 0) (Int32.toNatClampNeg 1) (-9)) (Int32.toNatClampNeg 2) (-9))) 87 (upd (upd (upd (upd (F 87) (Int32.toNatClampNeg 0) 0) (Int32.toNatClampNeg 1) (-9)) (Int32.toNatClampNeg 2) (-9)) (Int32.toNatClampNeg 3) (-9))) G _ := hH
  refine lv_iload_n (pc := 94) C0.1 C0.2.1 dX10_read_94 rfl (lv_at hl 0 rfl) ?_
  refine lv_if_eq (pc := 95) (tgt := 105) C0.1 C0.2.1 dX10_read_95 (by decide) (fun c => absurd c (by decide)) (fun _ => ?_)
  refine lv_aload_n (pc := 98) C0.1 C0.2.1 dX10_read_98 rfl (lv_at hl 1 rfl) ?_
  refine xget (pc := 99) C0 hH 78 19 clX10 ⟨Nat.le_of_ble_eq_true rfl, Nat.le_of_ble_eq_true rfl⟩ ⟨rfl, rfl⟩ (Nat.le_of_ble_eq_true rfl) fl_X10_258 (v := .int 0) rfl dX10_read_99 ?_
  refine lv_goto (pc := 102) (tgt := 112) C0.1 C0.2.1 dX10_read_102 (by decide) ?_
  exact xiret (pc := 112) C0 hr hH hS dX10_read_112 rfl
set_option maxHeartbeats 4000000 in
set_option maxRecDepth 100000 in
theorem p_X10_token (l : Launch) (D : va_G) (tA : Nat → ClassId) (b : Nat) (i F : Nat → Nat → Int32) (G : Nat → Nat → Int64) (k x : Int32) (hi_78_15 : i 78 15 = 0) : xMI l yX10_token cX10_token 3 (some .int) 0 0 D tA b 78 52 i F G [.ref (b + 78), .int k, .int x] (fun r _ => r = -3) := by
  refine xstart RX10 rfl (by decide) (Nat.le_of_ble_eq_true rfl) ?_
  intro p e s m below meth c ls C0 hr hH hS hl
  have hl : lv_has ls 3 [(0, .ref (b + 78)), (1, .int k), (2, .int x)] := hl
  refine lv_aload_n (pc := 0) C0.1 C0.2.1 dX10_token_0 rfl (lv_at hl 0 rfl) ?_
  refine xget (pc := 1) C0 hH 78 15 clX10 ⟨Nat.le_of_ble_eq_true rfl, Nat.le_of_ble_eq_true rfl⟩ ⟨rfl, rfl⟩ (Nat.le_of_ble_eq_true rfl) fl_X10_211 (v := .int 0) (congrArg Value.int hi_78_15) dX10_token_1 ?_
  refine lv_iconst (pc := 4) (v := 1) C0.1 C0.2.1 dX10_token_4 (by decide) ?_
  refine lv_icmp_eq (pc := 5) (tgt := 11) C0.1 C0.2.1 dX10_token_5 (by decide) (fun c => absurd c (by decide)) (fun _ => ?_)
  refine lv_bipush (pc := 8) (v := (-3)) C0.1 C0.2.1 dX10_token_8 (by decide) ?_
  exact xiret (pc := 10) C0 hr hH hS dX10_token_10 rfl
set_option maxHeartbeats 4000000 in
set_option maxRecDepth 100000 in
theorem p_X10_block (l : Launch) (D : va_G) (tA : Nat → ClassId) (b : Nat) (i F : Nat → Nat → Int32) (G : Nat → Nat → Int64) (k x : Int32) (hi_78_15 : i 78 15 = 0) : xMI l yX10_block cX10_block 3 (some .int) 0 0 D tA b 78 52 i F G [.ref (b + 78), .int k, .int x] (fun r _ => r = -3) := by
  refine xstart RX10 rfl (by decide) (Nat.le_of_ble_eq_true rfl) ?_
  intro p e s m below meth c ls C0 hr hH hS hl
  have hl : lv_has ls 3 [(0, .ref (b + 78)), (1, .int k), (2, .int x)] := hl
  refine lv_aload_n (pc := 0) C0.1 C0.2.1 dX10_block_0 rfl (lv_at hl 0 rfl) ?_
  refine xget (pc := 1) C0 hH 78 15 clX10 ⟨Nat.le_of_ble_eq_true rfl, Nat.le_of_ble_eq_true rfl⟩ ⟨rfl, rfl⟩ (Nat.le_of_ble_eq_true rfl) fl_X10_211 (v := .int 0) (congrArg Value.int hi_78_15) dX10_block_1 ?_
  refine lv_iconst (pc := 4) (v := 1) C0.1 C0.2.1 dX10_block_4 (by decide) ?_
  refine lv_icmp_eq (pc := 5) (tgt := 11) C0.1 C0.2.1 dX10_block_5 (by decide) (fun c => absurd c (by decide)) (fun _ => ?_)
  refine lv_bipush (pc := 8) (v := (-3)) C0.1 C0.2.1 dX10_block_8 (by decide) ?_
  exact xiret (pc := 10) C0 hr hH hS dX10_block_10 rfl
set_option maxHeartbeats 4000000 in
set_option maxRecDepth 100000 in
theorem p_X10_item (l : Launch) (D : va_G) (tA : Nat → ClassId) (b : Nat) (i F : Nat → Nat → Int32) (G : Nat → Nat → Int64) (k x : Int32) (hi_78_15 : i 78 15 = 0) : xMI l yX10_item cX10_item 3 (some .int) 0 0 D tA b 78 52 i F G [.ref (b + 78), .int k, .int x] (fun r _ => r = -3) := by
  refine xstart RX10 rfl (by decide) (Nat.le_of_ble_eq_true rfl) ?_
  intro p e s m below meth c ls C0 hr hH hS hl
  have hl : lv_has ls 3 [(0, .ref (b + 78)), (1, .int k), (2, .int x)] := hl
  refine lv_aload_n (pc := 0) C0.1 C0.2.1 dX10_item_0 rfl (lv_at hl 0 rfl) ?_
  refine xget (pc := 1) C0 hH 78 15 clX10 ⟨Nat.le_of_ble_eq_true rfl, Nat.le_of_ble_eq_true rfl⟩ ⟨rfl, rfl⟩ (Nat.le_of_ble_eq_true rfl) fl_X10_211 (v := .int 0) (congrArg Value.int hi_78_15) dX10_item_1 ?_
  refine lv_iconst (pc := 4) (v := 1) C0.1 C0.2.1 dX10_item_4 (by decide) ?_
  refine lv_icmp_eq (pc := 5) (tgt := 11) C0.1 C0.2.1 dX10_item_5 (by decide) (fun c => absurd c (by decide)) (fun _ => ?_)
  refine lv_bipush (pc := 8) (v := (-3)) C0.1 C0.2.1 dX10_item_8 (by decide) ?_
  exact xiret (pc := 10) C0 hr hH hS dX10_item_10 rfl
set_option maxHeartbeats 4000000 in
set_option maxRecDepth 100000 in
theorem p_X10_part (l : Launch) (D : va_G) (tA : Nat → ClassId) (b : Nat) (i F : Nat → Nat → Int32) (G : Nat → Nat → Int64) (k x : Int32) (hi_78_15 : i 78 15 = 0) : xMI l yX10_part cX10_part 5 (some .int) 0 0 D tA b 78 52 i F G [.ref (b + 78), .int k, .int x] (fun r _ => r = -3) := by
  refine xstart RX10 rfl (by decide) (Nat.le_of_ble_eq_true rfl) ?_
  intro p e s m below meth c ls C0 hr hH hS hl
  have hl : lv_has ls 5 [(0, .ref (b + 78)), (1, .int k), (2, .int x)] := hl
  refine lv_aload_n (pc := 0) C0.1 C0.2.1 dX10_part_0 rfl (lv_at hl 0 rfl) ?_
  refine xget (pc := 1) C0 hH 78 15 clX10 ⟨Nat.le_of_ble_eq_true rfl, Nat.le_of_ble_eq_true rfl⟩ ⟨rfl, rfl⟩ (Nat.le_of_ble_eq_true rfl) fl_X10_211 (v := .int 0) (congrArg Value.int hi_78_15) dX10_part_1 ?_
  refine lv_iconst (pc := 4) (v := 1) C0.1 C0.2.1 dX10_part_4 (by decide) ?_
  refine lv_icmp_eq (pc := 5) (tgt := 11) C0.1 C0.2.1 dX10_part_5 (by decide) (fun c => absurd c (by decide)) (fun _ => ?_)
  refine lv_bipush (pc := 8) (v := (-3)) C0.1 C0.2.1 dX10_part_8 (by decide) ?_
  exact xiret (pc := 10) C0 hr hH hS dX10_part_10 rfl
set_option maxHeartbeats 4000000 in
set_option maxRecDepth 100000 in
theorem p_X10_itemAs (l : Launch) (D : va_G) (tA : Nat → ClassId) (b : Nat) (i F : Nat → Nat → Int32) (G : Nat → Nat → Int64) (k x y : Int32) (hi_78_15 : i 78 15 = 0) : xMI l yX10_itemAs cX10_itemAs 9 (some .int) 0 0 D tA b 78 52 i F G [.ref (b + 78), .int k, .int x, .int y] (fun r _ => r = -3) := by
  refine xstart RX10 rfl (by decide) (Nat.le_of_ble_eq_true rfl) ?_
  intro p e s m below meth c ls C0 hr hH hS hl
  have hl : lv_has ls 9 [(0, .ref (b + 78)), (1, .int k), (2, .int x), (3, .int y)] := hl
  refine lv_aload_n (pc := 0) C0.1 C0.2.1 dX10_itemAs_0 rfl (lv_at hl 0 rfl) ?_
  refine xget (pc := 1) C0 hH 78 15 clX10 ⟨Nat.le_of_ble_eq_true rfl, Nat.le_of_ble_eq_true rfl⟩ ⟨rfl, rfl⟩ (Nat.le_of_ble_eq_true rfl) fl_X10_211 (v := .int 0) (congrArg Value.int hi_78_15) dX10_itemAs_1 ?_
  refine lv_iconst (pc := 4) (v := 1) C0.1 C0.2.1 dX10_itemAs_4 (by decide) ?_
  refine lv_icmp_eq (pc := 5) (tgt := 11) C0.1 C0.2.1 dX10_itemAs_5 (by decide) (fun c => absurd c (by decide)) (fun _ => ?_)
  refine lv_bipush (pc := 8) (v := (-3)) C0.1 C0.2.1 dX10_itemAs_8 (by decide) ?_
  exact xiret (pc := 10) C0 hr hH hS dX10_itemAs_10 rfl
set_option maxHeartbeats 4000000 in
set_option maxRecDepth 100000 in
theorem p_X10_around (l : Launch) (D : va_G) (tA : Nat → ClassId) (b : Nat) (i F : Nat → Nat → Int32) (G : Nat → Nat → Int64) (k x : Int32) (hi_78_15 : i 78 15 = 0) : xMI l yX10_around cX10_around 3 (some .int) 0 0 D tA b 78 52 i F G [.ref (b + 78), .int k, .int x] (fun r _ => r = -3) := by
  refine xstart RX10 rfl (by decide) (Nat.le_of_ble_eq_true rfl) ?_
  intro p e s m below meth c ls C0 hr hH hS hl
  have hl : lv_has ls 3 [(0, .ref (b + 78)), (1, .int k), (2, .int x)] := hl
  refine lv_aload_n (pc := 0) C0.1 C0.2.1 dX10_around_0 rfl (lv_at hl 0 rfl) ?_
  refine xget (pc := 1) C0 hH 78 15 clX10 ⟨Nat.le_of_ble_eq_true rfl, Nat.le_of_ble_eq_true rfl⟩ ⟨rfl, rfl⟩ (Nat.le_of_ble_eq_true rfl) fl_X10_211 (v := .int 0) (congrArg Value.int hi_78_15) dX10_around_1 ?_
  refine lv_iconst (pc := 4) (v := 1) C0.1 C0.2.1 dX10_around_4 (by decide) ?_
  refine lv_icmp_eq (pc := 5) (tgt := 11) C0.1 C0.2.1 dX10_around_5 (by decide) (fun c => absurd c (by decide)) (fun _ => ?_)
  refine lv_bipush (pc := 8) (v := (-3)) C0.1 C0.2.1 dX10_around_8 (by decide) ?_
  exact xiret (pc := 10) C0 hr hH hS dX10_around_10 rfl
set_option maxHeartbeats 4000000 in
set_option maxRecDepth 100000 in
theorem p_X10_reach (l : Launch) (D : va_G) (tA : Nat → ClassId) (b : Nat) (i F : Nat → Nat → Int32) (G : Nat → Nat → Int64) (z k x : Int32) (hi_78_15 : i 78 15 = 0) : xMI l yX10_reach cX10_reach 6 (some .int) 0 0 D tA b 78 52 i F G [.ref (b + 78), .int z, .int k, .int x] (fun r _ => r = -3) := by
  refine xstart RX10 rfl (by decide) (Nat.le_of_ble_eq_true rfl) ?_
  intro p e s m below meth c ls C0 hr hH hS hl
  have hl : lv_has ls 6 [(0, .ref (b + 78)), (1, .int z), (2, .int k), (3, .int x)] := hl
  refine lv_aload_n (pc := 0) C0.1 C0.2.1 dX10_reach_0 rfl (lv_at hl 0 rfl) ?_
  refine xget (pc := 1) C0 hH 78 15 clX10 ⟨Nat.le_of_ble_eq_true rfl, Nat.le_of_ble_eq_true rfl⟩ ⟨rfl, rfl⟩ (Nat.le_of_ble_eq_true rfl) fl_X10_211 (v := .int 0) (congrArg Value.int hi_78_15) dX10_reach_1 ?_
  refine lv_iconst (pc := 4) (v := 1) C0.1 C0.2.1 dX10_reach_4 (by decide) ?_
  refine lv_icmp_eq (pc := 5) (tgt := 11) C0.1 C0.2.1 dX10_reach_5 (by decide) (fun c => absurd c (by decide)) (fun _ => ?_)
  refine lv_bipush (pc := 8) (v := (-3)) C0.1 C0.2.1 dX10_reach_8 (by decide) ?_
  exact xiret (pc := 10) C0 hr hH hS dX10_reach_10 rfl
set_option maxHeartbeats 4000000 in
set_option maxRecDepth 100000 in
theorem p_X10_plain (l : Launch) (D : va_G) (tA : Nat → ClassId) (b : Nat) (i F : Nat → Nat → Int32) (G : Nat → Nat → Int64)  (hi_78_15 : i 78 15 = 0) : xMI l yX10_plain cX10_plain 5 (some .int) 0 0 D tA b 78 52 i F G [.ref (b + 78)] (fun r _ => r = -3) := by
  refine xstart RX10 rfl (by decide) (Nat.le_of_ble_eq_true rfl) ?_
  intro p e s m below meth c ls C0 hr hH hS hl
  have hl : lv_has ls 5 [(0, .ref (b + 78))] := hl
  refine lv_aload_n (pc := 0) C0.1 C0.2.1 dX10_plain_0 rfl (lv_at hl 0 rfl) ?_
  refine xget (pc := 1) C0 hH 78 15 clX10 ⟨Nat.le_of_ble_eq_true rfl, Nat.le_of_ble_eq_true rfl⟩ ⟨rfl, rfl⟩ (Nat.le_of_ble_eq_true rfl) fl_X10_211 (v := .int 0) (congrArg Value.int hi_78_15) dX10_plain_1 ?_
  refine lv_iconst (pc := 4) (v := 1) C0.1 C0.2.1 dX10_plain_4 (by decide) ?_
  refine lv_icmp_eq (pc := 5) (tgt := 11) C0.1 C0.2.1 dX10_plain_5 (by decide) (fun c => absurd c (by decide)) (fun _ => ?_)
  refine lv_bipush (pc := 8) (v := (-3)) C0.1 C0.2.1 dX10_plain_8 (by decide) ?_
  exact xiret (pc := 10) C0 hr hH hS dX10_plain_10 rfl
set_option maxHeartbeats 4000000 in
set_option maxRecDepth 100000 in
theorem p_X10_same (l : Launch) (D : va_G) (tA : Nat → ClassId) (b : Nat) (i F : Nat → Nat → Int32) (G : Nat → Nat → Int64)  (hi_78_15 : i 78 15 = 0) : xMI l yX10_same cX10_same 3 (some .int) 0 0 D tA b 78 52 i F G [.ref (b + 78)] (fun r _ => r = -3) := by
  refine xstart RX10 rfl (by decide) (Nat.le_of_ble_eq_true rfl) ?_
  intro p e s m below meth c ls C0 hr hH hS hl
  have hl : lv_has ls 3 [(0, .ref (b + 78))] := hl
  refine lv_aload_n (pc := 0) C0.1 C0.2.1 dX10_same_0 rfl (lv_at hl 0 rfl) ?_
  refine xget (pc := 1) C0 hH 78 15 clX10 ⟨Nat.le_of_ble_eq_true rfl, Nat.le_of_ble_eq_true rfl⟩ ⟨rfl, rfl⟩ (Nat.le_of_ble_eq_true rfl) fl_X10_211 (v := .int 0) (congrArg Value.int hi_78_15) dX10_same_1 ?_
  refine lv_iconst (pc := 4) (v := 1) C0.1 C0.2.1 dX10_same_4 (by decide) ?_
  refine lv_icmp_ne (pc := 5) (tgt := 15) C0.1 C0.2.1 dX10_same_5 (by decide) (fun _ => ?_) (fun c => absurd c (by decide))
  refine lv_bipush (pc := 15) (v := (-3)) C0.1 C0.2.1 dX10_same_15 (by decide) ?_
  exact xiret (pc := 17) C0 hr hH hS dX10_same_17 rfl
set_option maxHeartbeats 4000000 in
set_option maxRecDepth 100000 in
theorem p_X10_parts (l : Launch) (D : va_G) (tA : Nat → ClassId) (b : Nat) (i F : Nat → Nat → Int32) (G : Nat → Nat → Int64)  (hi_78_15 : i 78 15 = 0) : xMI l yX10_parts cX10_parts 1 (some .int) 0 0 D tA b 78 52 i F G [.ref (b + 78)] (fun r _ => r = -3) := by
  refine xstart RX10 rfl (by decide) (Nat.le_of_ble_eq_true rfl) ?_
  intro p e s m below meth c ls C0 hr hH hS hl
  have hl : lv_has ls 1 [(0, .ref (b + 78))] := hl
  refine lv_aload_n (pc := 0) C0.1 C0.2.1 dX10_parts_0 rfl (lv_at hl 0 rfl) ?_
  refine xget (pc := 1) C0 hH 78 15 clX10 ⟨Nat.le_of_ble_eq_true rfl, Nat.le_of_ble_eq_true rfl⟩ ⟨rfl, rfl⟩ (Nat.le_of_ble_eq_true rfl) fl_X10_211 (v := .int 0) (congrArg Value.int hi_78_15) dX10_parts_1 ?_
  refine lv_iconst (pc := 4) (v := 1) C0.1 C0.2.1 dX10_parts_4 (by decide) ?_
  refine lv_icmp_ne (pc := 5) (tgt := 15) C0.1 C0.2.1 dX10_parts_5 (by decide) (fun _ => ?_) (fun c => absurd c (by decide))
  refine lv_bipush (pc := 15) (v := (-3)) C0.1 C0.2.1 dX10_parts_15 (by decide) ?_
  refine lv_goto (pc := 17) (tgt := 24) C0.1 C0.2.1 dX10_parts_17 (by decide) ?_
  exact xiret (pc := 24) C0 hr hH hS dX10_parts_24 rfl
set_option maxHeartbeats 4000000 in
set_option maxRecDepth 100000 in
theorem p_X10_mend (l : Launch) (D : va_G) (tA : Nat → ClassId) (b : Nat) (i F : Nat → Nat → Int32) (G : Nat → Nat → Int64)  (hi_78_15 : i 78 15 = 0) : xMI l yX10_mend cX10_mend 5 (some .int) 0 0 D tA b 78 52 i F G [.ref (b + 78)] (fun r _ => r = -3) := by
  refine xstart RX10 rfl (by decide) (Nat.le_of_ble_eq_true rfl) ?_
  intro p e s m below meth c ls C0 hr hH hS hl
  have hl : lv_has ls 5 [(0, .ref (b + 78))] := hl
  refine lv_aload_n (pc := 0) C0.1 C0.2.1 dX10_mend_0 rfl (lv_at hl 0 rfl) ?_
  refine xget (pc := 1) C0 hH 78 15 clX10 ⟨Nat.le_of_ble_eq_true rfl, Nat.le_of_ble_eq_true rfl⟩ ⟨rfl, rfl⟩ (Nat.le_of_ble_eq_true rfl) fl_X10_211 (v := .int 0) (congrArg Value.int hi_78_15) dX10_mend_1 ?_
  refine lv_iconst (pc := 4) (v := 2) C0.1 C0.2.1 dX10_mend_4 (by decide) ?_
  refine lv_icmp_eq (pc := 5) (tgt := 11) C0.1 C0.2.1 dX10_mend_5 (by decide) (fun c => absurd c (by decide)) (fun _ => ?_)
  refine lv_bipush (pc := 8) (v := (-3)) C0.1 C0.2.1 dX10_mend_8 (by decide) ?_
  exact xiret (pc := 10) C0 hr hH hS dX10_mend_10 rfl
set_option maxHeartbeats 4000000 in
set_option maxRecDepth 100000 in
theorem p_X10_deepen (l : Launch) (D : va_G) (tA : Nat → ClassId) (b : Nat) (i F : Nat → Nat → Int32) (G : Nat → Nat → Int64)  (hi_78_15 : i 78 15 = 0) : xMI l yX10_deepen cX10_deepen 2 (some .int) 0 0 D tA b 78 52 i F G [.ref (b + 78)] (fun r _ => r = -3) := by
  refine xstart RX10 rfl (by decide) (Nat.le_of_ble_eq_true rfl) ?_
  intro p e s m below meth c ls C0 hr hH hS hl
  have hl : lv_has ls 2 [(0, .ref (b + 78))] := hl
  refine lv_aload_n (pc := 0) C0.1 C0.2.1 dX10_deepen_0 rfl (lv_at hl 0 rfl) ?_
  refine xget (pc := 1) C0 hH 78 15 clX10 ⟨Nat.le_of_ble_eq_true rfl, Nat.le_of_ble_eq_true rfl⟩ ⟨rfl, rfl⟩ (Nat.le_of_ble_eq_true rfl) fl_X10_211 (v := .int 0) (congrArg Value.int hi_78_15) dX10_deepen_1 ?_
  refine lv_iconst (pc := 4) (v := 1) C0.1 C0.2.1 dX10_deepen_4 (by decide) ?_
  refine lv_icmp_eq (pc := 5) (tgt := 11) C0.1 C0.2.1 dX10_deepen_5 (by decide) (fun c => absurd c (by decide)) (fun _ => ?_)
  refine lv_bipush (pc := 8) (v := (-3)) C0.1 C0.2.1 dX10_deepen_8 (by decide) ?_
  exact xiret (pc := 10) C0 hr hH hS dX10_deepen_10 rfl
