set_option maxRecDepth 20000 in
theorem cw_X9_67 : CwV RX9 67 yX1_tellOpener cX1_tellOpener 6 (some .int) 2 := ⟨wm 421 (by decide +kernel) rfl, wm 422 (by decide +kernel) rfl, wm 423 (by decide +kernel) rfl, wm 2 (by decide +kernel) rfl, wm 424 rfl rfl, by decide +kernel⟩
set_option maxRecDepth 20000 in
theorem cw_X9_71 : CwV RX9 71 yX9_unreadUnlessRefused cX9_unreadUnlessRefused 2 (some .int) 1 := ⟨wm 543 (by decide +kernel) rfl, wm 545 (by decide +kernel) rfl, wms 1 (by decide +kernel) rfl, wm 1 (by decide +kernel) rfl, wm 546 rfl rfl, by decide +kernel⟩
set_option maxRecDepth 20000 in
theorem cw_X9_75 : CwV RX9 75 yX1_tellPair cX1_tellPair 3 (some .int) 2 := ⟨wm 551 (by decide +kernel) rfl, wm 552 (by decide +kernel) rfl, wm 553 (by decide +kernel) rfl, wm 2 (by decide +kernel) rfl, wm 554 rfl rfl, by decide +kernel⟩
set_option maxRecDepth 20000 in
theorem cw_X9_79 : CwV RX9 79 yX1_tellCloser cX1_tellCloser 5 (some .int) 1 := ⟨wm 559 (by decide +kernel) rfl, wm 560 (by decide +kernel) rfl, wm 561 (by decide +kernel) rfl, wm 2 (by decide +kernel) rfl, wm 562 rfl rfl, by decide +kernel⟩
set_option maxRecDepth 20000 in
theorem cw_X9_83 : CwV RX9 83 yX1_tellGoer cX1_tellGoer 2 (some .int) 1 := ⟨wm 567 (by decide +kernel) rfl, wm 568 (by decide +kernel) rfl, wm 569 (by decide +kernel) rfl, wm 2 (by decide +kernel) rfl, wm 570 rfl rfl, by decide +kernel⟩
set_option maxRecDepth 20000 in
theorem cw_X9_86 : CwV RX9 86 yX1_tellTab cX1_tellTab 3 (some .int) 1 := ⟨wm 575 (by decide +kernel) rfl, wm 576 (by decide +kernel) rfl, wm 577 (by decide +kernel) rfl, wm 2 (by decide +kernel) rfl, wm 578 rfl rfl, by decide +kernel⟩
set_option maxRecDepth 20000 in
theorem cw_X9_92 : CwV RX9 92 yX6_keepFirst cX6_keepFirst 3 (some .int) 1 := ⟨wm 593 (by decide +kernel) rfl, wm 594 (by decide +kernel) rfl, wm 595 (by decide +kernel) rfl, wm 3 (by decide +kernel) rfl, wm 596 rfl rfl, by decide +kernel⟩
set_option maxRecDepth 20000 in
theorem cw_X9_95 : CwV RX9 95 yX6_slide cX6_slide 5 (some .int) 2 := ⟨wm 601 (by decide +kernel) rfl, wm 602 (by decide +kernel) rfl, wm 603 (by decide +kernel) rfl, wm 3 (by decide +kernel) rfl, wm 604 rfl rfl, by decide +kernel⟩
set_option maxRecDepth 20000 in
theorem cw_X6_48 : CwV RX6 48 yX6_refusalOfSlide cX6_refusalOfSlide 5 (some .int) 2 := ⟨wm 605 (by decide +kernel) rfl, wm 606 (by decide +kernel) rfl, wm 607 (by decide +kernel) rfl, wm 3 (by decide +kernel) rfl, wm 608 rfl rfl, by decide +kernel⟩
set_option maxRecDepth 20000 in
theorem cw_X6_52 : CwV RX6 52 yX6_startOf cX6_startOf 4 (some .int) 1 := ⟨wm 609 (by decide +kernel) rfl, wm 610 (by decide +kernel) rfl, wm 611 (by decide +kernel) rfl, wm 3 (by decide +kernel) rfl, wm 612 rfl rfl, by decide +kernel⟩
set_option maxRecDepth 20000 in
theorem fl_X9_102 : Cond.fieldLink RX9 102 (TX6 1).1 (TX6 1).2.1 (TX6 1).2.2.1 ∈ WALL := wm 74 (by decide +kernel) rfl
set_option maxRecDepth 20000 in
theorem fl_X9_280 : Cond.fieldLink RX9 280 (TX9 13).1 (TX9 13).2.1 (TX9 13).2.2.1 ∈ WALL := wm 387 (by decide +kernel) rfl
set_option maxRecDepth 20000 in
theorem fl_X9_115 : Cond.fieldLink RX9 115 (TX4 3).1 (TX4 3).2.1 (TX4 3).2.2.1 ∈ WALL := wm 318 (by decide +kernel) rfl
set_option maxRecDepth 20000 in
theorem fl_X9_127 : Cond.fieldLink RX9 127 (TX4 4).1 (TX4 4).2.1 (TX4 4).2.2.1 ∈ WALL := wm 320 (by decide +kernel) rfl
set_option maxRecDepth 20000 in
theorem fl_X9_130 : Cond.fieldLink RX9 130 (TX4 5).1 (TX4 5).2.1 (TX4 5).2.2.1 ∈ WALL := wm 322 (by decide +kernel) rfl
set_option maxRecDepth 20000 in
theorem fl_X9_143 : Cond.fieldLink RX9 143 (TX0 9).1 (TX0 9).2.1 (TX0 9).2.2.1 ∈ WALL := wm 195 (by decide +kernel) rfl
set_option maxRecDepth 20000 in
theorem fl_X9_150 : Cond.fieldLink RX9 150 (TX2 5).1 (TX2 5).2.1 (TX2 5).2.2.1 ∈ WALL := wm 241 (by decide +kernel) rfl
set_option maxRecDepth 20000 in
theorem cw_X9_153 : CwV RX9 153 yX6_lineCount cX6_lineCount 1 (some .int) 0 := ⟨wm 806 (by decide +kernel) rfl, wm 807 (by decide +kernel) rfl, wm 808 (by decide +kernel) rfl, wm 3 (by decide +kernel) rfl, wm 809 rfl rfl, by decide +kernel⟩
set_option maxRecDepth 20000 in
theorem cw_X9_251 : CwV RX9 251 yX3_at cX3_at 2 (some .int) 1 := ⟨wm 948 (by decide +kernel) rfl, wm 949 (by decide +kernel) rfl, wm 950 (by decide +kernel) rfl, wm 10 (by decide +kernel) rfl, wm 951 rfl rfl, by decide +kernel⟩
theorem dX9_opener_0 : decode cX9_opener 0 = .ok (.aload_n 0, 1) := by decide +kernel
theorem dX9_opener_1 : decode cX9_opener 1 = .ok (.aload_n 0, 1) := by decide +kernel
theorem dX9_opener_2 : decode cX9_opener 2 = .ok (.getfield 12, 3) := by decide +kernel
theorem dX9_opener_5 : decode cX9_opener 5 = .ok (.lload_n 1, 1) := by decide +kernel
theorem dX9_opener_6 : decode cX9_opener 6 = .ok (.iload_n 3, 1) := by decide +kernel
theorem dX9_opener_7 : decode cX9_opener 7 = .ok (.invokevirtual 67, 3) := by decide +kernel
theorem dX9_opener_10 : decode cX9_opener 10 = .ok (.invokevirtual 71, 3) := by decide +kernel
theorem dX9_opener_13 : decode cX9_opener 13 = .ok (.ireturn, 1) := by decide +kernel
theorem dX9_pair_0 : decode cX9_pair 0 = .ok (.aload_n 0, 1) := by decide +kernel
theorem dX9_pair_1 : decode cX9_pair 1 = .ok (.aload_n 0, 1) := by decide +kernel
theorem dX9_pair_2 : decode cX9_pair 2 = .ok (.getfield 12, 3) := by decide +kernel
theorem dX9_pair_5 : decode cX9_pair 5 = .ok (.iload_n 1, 1) := by decide +kernel
theorem dX9_pair_6 : decode cX9_pair 6 = .ok (.iload_n 2, 1) := by decide +kernel
theorem dX9_pair_7 : decode cX9_pair 7 = .ok (.invokevirtual 75, 3) := by decide +kernel
theorem dX9_pair_10 : decode cX9_pair 10 = .ok (.invokevirtual 71, 3) := by decide +kernel
theorem dX9_pair_13 : decode cX9_pair 13 = .ok (.ireturn, 1) := by decide +kernel
theorem dX9_closer_0 : decode cX9_closer 0 = .ok (.aload_n 0, 1) := by decide +kernel
theorem dX9_closer_1 : decode cX9_closer 1 = .ok (.aload_n 0, 1) := by decide +kernel
theorem dX9_closer_2 : decode cX9_closer 2 = .ok (.getfield 12, 3) := by decide +kernel
theorem dX9_closer_5 : decode cX9_closer 5 = .ok (.lload_n 1, 1) := by decide +kernel
theorem dX9_closer_6 : decode cX9_closer 6 = .ok (.invokevirtual 79, 3) := by decide +kernel
theorem dX9_closer_9 : decode cX9_closer 9 = .ok (.invokevirtual 71, 3) := by decide +kernel
theorem dX9_closer_12 : decode cX9_closer 12 = .ok (.ireturn, 1) := by decide +kernel
theorem dX9_goer_0 : decode cX9_goer 0 = .ok (.aload_n 0, 1) := by decide +kernel
theorem dX9_goer_1 : decode cX9_goer 1 = .ok (.aload_n 0, 1) := by decide +kernel
theorem dX9_goer_2 : decode cX9_goer 2 = .ok (.getfield 12, 3) := by decide +kernel
theorem dX9_goer_5 : decode cX9_goer 5 = .ok (.iload_n 1, 1) := by decide +kernel
theorem dX9_goer_6 : decode cX9_goer 6 = .ok (.invokevirtual 83, 3) := by decide +kernel
theorem dX9_goer_9 : decode cX9_goer 9 = .ok (.invokevirtual 71, 3) := by decide +kernel
theorem dX9_goer_12 : decode cX9_goer 12 = .ok (.ireturn, 1) := by decide +kernel
theorem dX9_tab_0 : decode cX9_tab 0 = .ok (.aload_n 0, 1) := by decide +kernel
theorem dX9_tab_1 : decode cX9_tab 1 = .ok (.aload_n 0, 1) := by decide +kernel
theorem dX9_tab_2 : decode cX9_tab 2 = .ok (.getfield 12, 3) := by decide +kernel
theorem dX9_tab_5 : decode cX9_tab 5 = .ok (.iload_n 1, 1) := by decide +kernel
theorem dX9_tab_6 : decode cX9_tab 6 = .ok (.invokevirtual 86, 3) := by decide +kernel
theorem dX9_tab_9 : decode cX9_tab 9 = .ok (.invokevirtual 71, 3) := by decide +kernel
theorem dX9_tab_12 : decode cX9_tab 12 = .ok (.ireturn, 1) := by decide +kernel
theorem dX9_cut_0 : decode cX9_cut 0 = .ok (.aload_n 0, 1) := by decide +kernel
theorem dX9_cut_1 : decode cX9_cut 1 = .ok (.aload_n 0, 1) := by decide +kernel
theorem dX9_cut_2 : decode cX9_cut 2 = .ok (.getfield 19, 3) := by decide +kernel
theorem dX9_cut_5 : decode cX9_cut 5 = .ok (.iload_n 1, 1) := by decide +kernel
theorem dX9_cut_6 : decode cX9_cut 6 = .ok (.invokevirtual 92, 3) := by decide +kernel
theorem dX9_cut_9 : decode cX9_cut 9 = .ok (.invokevirtual 71, 3) := by decide +kernel
theorem dX9_cut_12 : decode cX9_cut 12 = .ok (.ireturn, 1) := by decide +kernel
theorem dX9_shift_0 : decode cX9_shift 0 = .ok (.aload_n 0, 1) := by decide +kernel
theorem dX9_shift_1 : decode cX9_shift 1 = .ok (.aload_n 0, 1) := by decide +kernel
theorem dX9_shift_2 : decode cX9_shift 2 = .ok (.getfield 19, 3) := by decide +kernel
theorem dX9_shift_5 : decode cX9_shift 5 = .ok (.iload_n 1, 1) := by decide +kernel
theorem dX9_shift_6 : decode cX9_shift 6 = .ok (.iload_n 2, 1) := by decide +kernel
theorem dX9_shift_7 : decode cX9_shift 7 = .ok (.invokevirtual 95, 3) := by decide +kernel
theorem dX9_shift_10 : decode cX9_shift 10 = .ok (.invokevirtual 71, 3) := by decide +kernel
theorem dX9_shift_13 : decode cX9_shift 13 = .ok (.ireturn, 1) := by decide +kernel
theorem dX6_slide_0 : decode cX6_slide 0 = .ok (.aload_n 0, 1) := by decide +kernel
theorem dX6_slide_1 : decode cX6_slide 1 = .ok (.iload_n 1, 1) := by decide +kernel
theorem dX6_slide_2 : decode cX6_slide 2 = .ok (.iload_n 2, 1) := by decide +kernel
theorem dX6_slide_3 : decode cX6_slide 3 = .ok (.invokevirtual 48, 3) := by decide +kernel
theorem dX6_slide_6 : decode cX6_slide 6 = .ok (.istore_n 3, 1) := by decide +kernel
theorem dX6_slide_7 : decode cX6_slide 7 = .ok (.iload_n 3, 1) := by decide +kernel
theorem dX6_slide_8 : decode cX6_slide 8 = .ok (.ifCond .eq 5, 3) := by decide +kernel
theorem dX6_slide_11 : decode cX6_slide 11 = .ok (.iload_n 3, 1) := by decide +kernel
theorem dX6_slide_12 : decode cX6_slide 12 = .ok (.ireturn, 1) := by decide +kernel
theorem dX6_refusalOfSlide_0 : decode cX6_refusalOfSlide 0 = .ok (.aload_n 0, 1) := by decide +kernel
theorem dX6_refusalOfSlide_1 : decode cX6_refusalOfSlide 1 = .ok (.iload_n 1, 1) := by decide +kernel
theorem dX6_refusalOfSlide_2 : decode cX6_refusalOfSlide 2 = .ok (.invokevirtual 52, 3) := by decide +kernel
theorem dX6_refusalOfSlide_5 : decode cX6_refusalOfSlide 5 = .ok (.istore_n 3, 1) := by decide +kernel
theorem dX6_refusalOfSlide_6 : decode cX6_refusalOfSlide 6 = .ok (.iload_n 3, 1) := by decide +kernel
theorem dX6_refusalOfSlide_7 : decode cX6_refusalOfSlide 7 = .ok (.bipush (-9), 2) := by decide +kernel
theorem dX6_refusalOfSlide_9 : decode cX6_refusalOfSlide 9 = .ok (.if_icmp .ne 5, 3) := by decide +kernel
theorem dX6_refusalOfSlide_12 : decode cX6_refusalOfSlide 12 = .ok (.iconst (-1), 1) := by decide +kernel
theorem dX6_refusalOfSlide_13 : decode cX6_refusalOfSlide 13 = .ok (.ireturn, 1) := by decide +kernel
theorem dX9_byteAt_0 : decode cX9_byteAt 0 = .ok (.iload_n 1, 1) := by decide +kernel
theorem dX9_byteAt_1 : decode cX9_byteAt 1 = .ok (.ifCond .lt 14, 3) := by decide +kernel
theorem dX9_byteAt_15 : decode cX9_byteAt 15 = .ok (.bipush (-12), 2) := by decide +kernel
theorem dX9_byteAt_17 : decode cX9_byteAt 17 = .ok (.goto 11, 3) := by decide +kernel
theorem dX9_byteAt_28 : decode cX9_byteAt 28 = .ok (.ireturn, 1) := by decide +kernel
theorem dX9_byteAt_4 : decode cX9_byteAt 4 = .ok (.iload_n 1, 1) := by decide +kernel
theorem dX9_byteAt_5 : decode cX9_byteAt 5 = .ok (.aload_n 0, 1) := by decide +kernel
theorem dX9_byteAt_6 : decode cX9_byteAt 6 = .ok (.getfield 19, 3) := by decide +kernel
theorem dX9_byteAt_9 : decode cX9_byteAt 9 = .ok (.getfield 102, 3) := by decide +kernel
theorem dX9_byteAt_12 : decode cX9_byteAt 12 = .ok (.if_icmp .lt 8, 3) := by decide +kernel
theorem dX9_markAt_0 : decode cX9_markAt 0 = .ok (.iload_n 1, 1) := by decide +kernel
theorem dX9_markAt_1 : decode cX9_markAt 1 = .ok (.ifCond .lt 11, 3) := by decide +kernel
theorem dX9_markAt_12 : decode cX9_markAt 12 = .ok (.bipush (-12), 2) := by decide +kernel
theorem dX9_markAt_14 : decode cX9_markAt 14 = .ok (.goto 9, 3) := by decide +kernel
theorem dX9_markAt_23 : decode cX9_markAt 23 = .ok (.ireturn, 1) := by decide +kernel
theorem dX9_markAt_4 : decode cX9_markAt 4 = .ok (.iload_n 1, 1) := by decide +kernel
theorem dX9_markAt_5 : decode cX9_markAt 5 = .ok (.aload_n 0, 1) := by decide +kernel
theorem dX9_markAt_6 : decode cX9_markAt 6 = .ok (.getfield 280, 3) := by decide +kernel
theorem dX9_markAt_9 : decode cX9_markAt 9 = .ok (.if_icmp .lt 8, 3) := by decide +kernel
theorem dX9_fault_0 : decode cX9_fault 0 = .ok (.iload_n 1, 1) := by decide +kernel
theorem dX9_fault_1 : decode cX9_fault 1 = .ok (.tableswitch 63 0 3 #[31, 39, 47, 55], 31) := by decide +kernel
theorem dX9_fault_32 : decode cX9_fault 32 = .ok (.aload_n 0, 1) := by decide +kernel
theorem dX9_fault_33 : decode cX9_fault 33 = .ok (.getfield 29, 3) := by decide +kernel
theorem dX9_fault_36 : decode cX9_fault 36 = .ok (.getfield 112, 3) := by decide +kernel
theorem dX9_fault_39 : decode cX9_fault 39 = .ok (.ireturn, 1) := by decide +kernel
theorem dX9_fault_40 : decode cX9_fault 40 = .ok (.aload_n 0, 1) := by decide +kernel
theorem dX9_fault_41 : decode cX9_fault 41 = .ok (.getfield 29, 3) := by decide +kernel
theorem dX9_fault_44 : decode cX9_fault 44 = .ok (.getfield 115, 3) := by decide +kernel
theorem dX9_fault_47 : decode cX9_fault 47 = .ok (.ireturn, 1) := by decide +kernel
theorem dX9_fault_48 : decode cX9_fault 48 = .ok (.aload_n 0, 1) := by decide +kernel
theorem dX9_fault_49 : decode cX9_fault 49 = .ok (.getfield 29, 3) := by decide +kernel
theorem dX9_fault_52 : decode cX9_fault 52 = .ok (.getfield 127, 3) := by decide +kernel
theorem dX9_fault_55 : decode cX9_fault 55 = .ok (.ireturn, 1) := by decide +kernel
theorem dX9_fault_56 : decode cX9_fault 56 = .ok (.aload_n 0, 1) := by decide +kernel
theorem dX9_fault_57 : decode cX9_fault 57 = .ok (.getfield 29, 3) := by decide +kernel
theorem dX9_fault_60 : decode cX9_fault 60 = .ok (.getfield 130, 3) := by decide +kernel
theorem dX9_fault_63 : decode cX9_fault 63 = .ok (.ireturn, 1) := by decide +kernel
theorem dX9_fault_64 : decode cX9_fault 64 = .ok (.bipush (-2), 2) := by decide +kernel
theorem dX9_fault_66 : decode cX9_fault 66 = .ok (.ireturn, 1) := by decide +kernel
theorem dX9_count_0 : decode cX9_count 0 = .ok (.iload_n 1, 1) := by decide +kernel
theorem dX9_count_1 : decode cX9_count 1 = .ok (.ifCond .lt 19, 3) := by decide +kernel
theorem dX9_count_20 : decode cX9_count 20 = .ok (.iload_n 1, 1) := by decide +kernel
theorem dX9_count_21 : decode cX9_count 21 = .ok (.tableswitch 90 0 4 #[35, 46, 60, 74, 82], 35) := by decide +kernel
theorem dX9_count_56 : decode cX9_count 56 = .ok (.aload_n 0, 1) := by decide +kernel
theorem dX9_count_57 : decode cX9_count 57 = .ok (.getfield 29, 3) := by decide +kernel
theorem dX9_count_60 : decode cX9_count 60 = .ok (.getfield 118, 3) := by decide +kernel
theorem dX9_count_63 : decode cX9_count 63 = .ok (.getfield 122, 3) := by decide +kernel
theorem dX9_count_66 : decode cX9_count 66 = .ok (.ireturn, 1) := by decide +kernel
theorem dX9_count_67 : decode cX9_count 67 = .ok (.aload_n 0, 1) := by decide +kernel
theorem dX9_count_68 : decode cX9_count 68 = .ok (.getfield 29, 3) := by decide +kernel
theorem dX9_count_71 : decode cX9_count 71 = .ok (.getfield 133, 3) := by decide +kernel
theorem dX9_count_74 : decode cX9_count 74 = .ok (.getfield 137, 3) := by decide +kernel
theorem dX9_count_77 : decode cX9_count 77 = .ok (.getfield 143, 3) := by decide +kernel
theorem dX9_count_80 : decode cX9_count 80 = .ok (.ireturn, 1) := by decide +kernel
theorem dX9_count_81 : decode cX9_count 81 = .ok (.aload_n 0, 1) := by decide +kernel
theorem dX9_count_82 : decode cX9_count 82 = .ok (.getfield 29, 3) := by decide +kernel
theorem dX9_count_85 : decode cX9_count 85 = .ok (.getfield 133, 3) := by decide +kernel
theorem dX9_count_88 : decode cX9_count 88 = .ok (.getfield 146, 3) := by decide +kernel
theorem dX9_count_91 : decode cX9_count 91 = .ok (.getfield 150, 3) := by decide +kernel
theorem dX9_count_94 : decode cX9_count 94 = .ok (.ireturn, 1) := by decide +kernel
theorem dX9_count_95 : decode cX9_count 95 = .ok (.aload_n 0, 1) := by decide +kernel
theorem dX9_count_96 : decode cX9_count 96 = .ok (.getfield 19, 3) := by decide +kernel
theorem dX9_count_99 : decode cX9_count 99 = .ok (.invokevirtual 153, 3) := by decide +kernel
theorem dX9_count_102 : decode cX9_count 102 = .ok (.ireturn, 1) := by decide +kernel
theorem dX9_count_103 : decode cX9_count 103 = .ok (.aload_n 0, 1) := by decide +kernel
theorem dX9_count_104 : decode cX9_count 104 = .ok (.getfield 19, 3) := by decide +kernel
theorem dX9_count_107 : decode cX9_count 107 = .ok (.getfield 102, 3) := by decide +kernel
theorem dX9_count_110 : decode cX9_count 110 = .ok (.ireturn, 1) := by decide +kernel
theorem dX9_count_111 : decode cX9_count 111 = .ok (.bipush (-2), 2) := by decide +kernel
theorem dX9_count_113 : decode cX9_count 113 = .ok (.ireturn, 1) := by decide +kernel
theorem dX9_count_4 : decode cX9_count 4 = .ok (.iload_n 1, 1) := by decide +kernel
theorem dX9_count_5 : decode cX9_count 5 = .ok (.iconst 2, 1) := by decide +kernel
theorem dX9_count_6 : decode cX9_count 6 = .ok (.if_icmp .gt 14, 3) := by decide +kernel
theorem dX9_count_9 : decode cX9_count 9 = .ok (.aload_n 0, 1) := by decide +kernel
theorem dX9_count_10 : decode cX9_count 10 = .ok (.getfield 53, 3) := by decide +kernel
theorem dX9_count_13 : decode cX9_count 13 = .ok (.iconst 1, 1) := by decide +kernel
theorem dX9_count_14 : decode cX9_count 14 = .ok (.if_icmp .eq 6, 3) := by decide +kernel
theorem dX9_count_17 : decode cX9_count 17 = .ok (.bipush (-3), 2) := by decide +kernel
theorem dX9_count_19 : decode cX9_count 19 = .ok (.ireturn, 1) := by decide +kernel
theorem dX6_lineCount_0 : decode cX6_lineCount 0 = .ok (.aload_n 0, 1) := by decide +kernel
theorem dX6_lineCount_1 : decode cX6_lineCount 1 = .ok (.getfield 15, 3) := by decide +kernel
theorem dX6_lineCount_4 : decode cX6_lineCount 4 = .ok (.ifCond .ne 7, 3) := by decide +kernel
theorem dX6_lineCount_7 : decode cX6_lineCount 7 = .ok (.iconst 0, 1) := by decide +kernel
theorem dX6_lineCount_8 : decode cX6_lineCount 8 = .ok (.goto 15, 3) := by decide +kernel
theorem dX6_lineCount_23 : decode cX6_lineCount 23 = .ok (.ireturn, 1) := by decide +kernel
theorem dX9_mended_0 : decode cX9_mended 0 = .ok (.iload_n 1, 1) := by decide +kernel
theorem dX9_mended_1 : decode cX9_mended 1 = .ok (.lookupswitch 37 #[(0, 27), (1, 32)], 27) := by decide +kernel
theorem dX9_mended_28 : decode cX9_mended 28 = .ok (.aload_n 0, 1) := by decide +kernel
theorem dX9_mended_29 : decode cX9_mended 29 = .ok (.getfield 57, 3) := by decide +kernel
theorem dX9_mended_32 : decode cX9_mended 32 = .ok (.ireturn, 1) := by decide +kernel
theorem dX9_mended_33 : decode cX9_mended 33 = .ok (.aload_n 0, 1) := by decide +kernel
theorem dX9_mended_34 : decode cX9_mended 34 = .ok (.getfield 60, 3) := by decide +kernel
theorem dX9_mended_37 : decode cX9_mended 37 = .ok (.ireturn, 1) := by decide +kernel
theorem dX9_mended_38 : decode cX9_mended 38 = .ok (.bipush (-2), 2) := by decide +kernel
theorem dX9_mended_40 : decode cX9_mended 40 = .ok (.ireturn, 1) := by decide +kernel
theorem dX9_write_0 : decode cX9_write 0 = .ok (.iload_n 1, 1) := by decide +kernel
theorem dX9_write_1 : decode cX9_write 1 = .ok (.iconst 1, 1) := by decide +kernel
theorem dX9_write_2 : decode cX9_write 2 = .ok (.if_icmp .lt 9, 3) := by decide +kernel
theorem dX9_write_11 : decode cX9_write 11 = .ok (.bipush (-2), 2) := by decide +kernel
theorem dX9_write_13 : decode cX9_write 13 = .ok (.ireturn, 1) := by decide +kernel
theorem dX9_write_5 : decode cX9_write 5 = .ok (.iload_n 1, 1) := by decide +kernel
theorem dX9_write_6 : decode cX9_write 6 = .ok (.bipush 8, 2) := by decide +kernel
theorem dX9_write_8 : decode cX9_write 8 = .ok (.if_icmp .le 6, 3) := by decide +kernel
theorem dX9_write_14 : decode cX9_write 14 = .ok (.aload_n 0, 1) := by decide +kernel
theorem dX9_write_15 : decode cX9_write 15 = .ok (.getfield 53, 3) := by decide +kernel
theorem dX9_write_18 : decode cX9_write 18 = .ok (.iconst 1, 1) := by decide +kernel
theorem dX9_write_19 : decode cX9_write 19 = .ok (.if_icmp .ne 26, 3) := by decide +kernel
theorem dX9_write_45 : decode cX9_write 45 = .ok (.bipush (-3), 2) := by decide +kernel
theorem dX9_write_47 : decode cX9_write 47 = .ok (.ireturn, 1) := by decide +kernel
theorem dX9_written_0 : decode cX9_written 0 = .ok (.aload_n 0, 1) := by decide +kernel
theorem dX9_written_1 : decode cX9_written 1 = .ok (.getfield 46, 3) := by decide +kernel
theorem dX9_written_4 : decode cX9_written 4 = .ok (.iload_n 1, 1) := by decide +kernel
theorem dX9_written_5 : decode cX9_written 5 = .ok (.invokevirtual 251, 3) := by decide +kernel
theorem dX9_written_8 : decode cX9_written 8 = .ok (.ireturn, 1) := by decide +kernel
set_option maxHeartbeats 4000000 in
set_option maxRecDepth 100000 in
theorem p_X9_opener (l : Launch) (D : va_G) (tA : Nat → ClassId) (b : Nat) (i F : Nat → Nat → Int32) (G : Nat → Nat → Int64) (w : Int64) (x : Int32) (hi_1_2 : i 1 2 = 0) (hi_1_3 : i 1 3 = 0) : xMI l yX9_opener cX9_opener 4 (some .int) 6 137 D tA b 0 78 i F G [.ref (b + 0), .long w, .int x] (fun r _ => r = opS w x) := by
  refine xstart RX9 rfl (by decide) (Nat.le_of_ble_eq_true rfl) ?_
  intro p e s m below meth c ls C0 hr hH hS hl
  have hl : lv_has ls 4 [(0, .ref (b + 0)), (1, .long w), (3, .int x)] := hl
  refine lv_aload_n (pc := 0) C0.1 C0.2.1 dX9_opener_0 rfl (lv_at hl 0 rfl) ?_
  refine lv_aload_n (pc := 1) C0.1 C0.2.1 dX9_opener_1 rfl (lv_at hl 0 rfl) ?_
  refine xget (pc := 2) C0 hH 0 0 clX9 ⟨Nat.le_of_ble_eq_true rfl, Nat.le_of_ble_eq_true rfl⟩ ⟨rfl, rfl⟩ (Nat.le_of_ble_eq_true rfl) fl_X9_12 (v := .ref (b + 1)) rfl dX9_opener_2 ?_
  refine lv_lload_n (pc := 5) C0.1 C0.2.1 dX9_opener_5 rfl (lv_at hl 1 rfl) ?_
  refine lv_iload_n (pc := 6) C0.1 C0.2.1 dX9_opener_6 rfl (lv_at hl 2 rfl) ?_
  refine xcVI (pc := 7) 1 [.long w, .int x] (m19_X1_tellOpener l D tA b i F G w x (by exact hi_1_2) (by exact hi_1_3)) C0 hH hS clX1 rfl ⟨⟨Nat.le_of_ble_eq_true rfl, Nat.le_of_ble_eq_true rfl⟩, rfl, rfl⟩ cw_X9_67 rfl ⟨Nat.le_of_ble_eq_true rfl, Nat.le_of_ble_eq_true rfl⟩ hl.1 rfl (Nat.le_of_ble_eq_true rfl) dX9_opener_7 ⟨Nat.le_of_ble_eq_true rfl, Nat.le_of_ble_eq_true rfl⟩ (fun r1 ir1 Fr1 Gr1 _ locs hp hH hS => ?_)
  obtain rfl := hp
  refine xcVI (pc := 10) 0 [.int (opS w x)] (m14_X9_unreadUnlessRefused l D tA b ir1 Fr1 Gr1 (opS w x) ) C0 hH hS clX9 rfl ⟨⟨Nat.le_of_ble_eq_true rfl, Nat.le_of_ble_eq_true rfl⟩, rfl, rfl⟩ cw_X9_71 rfl ⟨Nat.le_of_ble_eq_true rfl, Nat.le_of_ble_eq_true rfl⟩ hl.1 rfl (Nat.le_of_ble_eq_true rfl) dX9_opener_10 ⟨Nat.le_of_ble_eq_true rfl, Nat.le_of_ble_eq_true rfl⟩ (fun r2 ir2 Fr2 Gr2 _ locs hp hH hS => ?_)
  obtain rfl := hp
  exact xiret (pc := 13) C0 hr hH hS dX9_opener_13 rfl
set_option maxHeartbeats 4000000 in
set_option maxRecDepth 100000 in
theorem p_X9_pair (l : Launch) (D : va_G) (tA : Nat → ClassId) (b : Nat) (i F : Nat → Nat → Int32) (G : Nat → Nat → Int64) (x y : Int32) (hi_1_2 : i 1 2 = 0) (hi_1_4 : i 1 4 = 0) : xMI l yX9_pair cX9_pair 3 (some .int) 6 134 D tA b 0 78 i F G [.ref (b + 0), .int x, .int y] (fun r _ => r = prS x y) := by
  refine xstart RX9 rfl (by decide) (Nat.le_of_ble_eq_true rfl) ?_
  intro p e s m below meth c ls C0 hr hH hS hl
  have hl : lv_has ls 3 [(0, .ref (b + 0)), (1, .int x), (2, .int y)] := hl
  refine lv_aload_n (pc := 0) C0.1 C0.2.1 dX9_pair_0 rfl (lv_at hl 0 rfl) ?_
  refine lv_aload_n (pc := 1) C0.1 C0.2.1 dX9_pair_1 rfl (lv_at hl 0 rfl) ?_
  refine xget (pc := 2) C0 hH 0 0 clX9 ⟨Nat.le_of_ble_eq_true rfl, Nat.le_of_ble_eq_true rfl⟩ ⟨rfl, rfl⟩ (Nat.le_of_ble_eq_true rfl) fl_X9_12 (v := .ref (b + 1)) rfl dX9_pair_2 ?_
  refine lv_iload_n (pc := 5) C0.1 C0.2.1 dX9_pair_5 rfl (lv_at hl 1 rfl) ?_
  refine lv_iload_n (pc := 6) C0.1 C0.2.1 dX9_pair_6 rfl (lv_at hl 2 rfl) ?_
  refine xcVI (pc := 7) 1 [.int x, .int y] (m27_X1_tellPair l D tA b i F G x y (by exact hi_1_2) (by exact hi_1_4)) C0 hH hS clX1 rfl ⟨⟨Nat.le_of_ble_eq_true rfl, Nat.le_of_ble_eq_true rfl⟩, rfl, rfl⟩ cw_X9_75 rfl ⟨Nat.le_of_ble_eq_true rfl, Nat.le_of_ble_eq_true rfl⟩ hl.1 rfl (Nat.le_of_ble_eq_true rfl) dX9_pair_7 ⟨Nat.le_of_ble_eq_true rfl, Nat.le_of_ble_eq_true rfl⟩ (fun r1 ir1 Fr1 Gr1 _ locs hp hH hS => ?_)
  obtain rfl := hp
  refine xcVI (pc := 10) 0 [.int (prS x y)] (m14_X9_unreadUnlessRefused l D tA b ir1 Fr1 Gr1 (prS x y) ) C0 hH hS clX9 rfl ⟨⟨Nat.le_of_ble_eq_true rfl, Nat.le_of_ble_eq_true rfl⟩, rfl, rfl⟩ cw_X9_71 rfl ⟨Nat.le_of_ble_eq_true rfl, Nat.le_of_ble_eq_true rfl⟩ hl.1 rfl (Nat.le_of_ble_eq_true rfl) dX9_pair_10 ⟨Nat.le_of_ble_eq_true rfl, Nat.le_of_ble_eq_true rfl⟩ (fun r2 ir2 Fr2 Gr2 _ locs hp hH hS => ?_)
  obtain rfl := hp
  exact xiret (pc := 13) C0 hr hH hS dX9_pair_13 rfl
set_option maxHeartbeats 4000000 in
set_option maxRecDepth 100000 in
theorem p_X9_closer (l : Launch) (D : va_G) (tA : Nat → ClassId) (b : Nat) (i F : Nat → Nat → Int32) (G : Nat → Nat → Int64) (w : Int64) (hi_1_2 : i 1 2 = 0) (hi_1_5 : i 1 5 = 0) : xMI l yX9_closer cX9_closer 3 (some .int) 4 91 D tA b 0 78 i F G [.ref (b + 0), .long w] (fun r _ => r = clS w) := by
  refine xstart RX9 rfl (by decide) (Nat.le_of_ble_eq_true rfl) ?_
  intro p e s m below meth c ls C0 hr hH hS hl
  have hl : lv_has ls 3 [(0, .ref (b + 0)), (1, .long w)] := hl
  refine lv_aload_n (pc := 0) C0.1 C0.2.1 dX9_closer_0 rfl (lv_at hl 0 rfl) ?_
  refine lv_aload_n (pc := 1) C0.1 C0.2.1 dX9_closer_1 rfl (lv_at hl 0 rfl) ?_
  refine xget (pc := 2) C0 hH 0 0 clX9 ⟨Nat.le_of_ble_eq_true rfl, Nat.le_of_ble_eq_true rfl⟩ ⟨rfl, rfl⟩ (Nat.le_of_ble_eq_true rfl) fl_X9_12 (v := .ref (b + 1)) rfl dX9_closer_2 ?_
  refine lv_lload_n (pc := 5) C0.1 C0.2.1 dX9_closer_5 rfl (lv_at hl 1 rfl) ?_
  refine xcVI (pc := 6) 1 [.long w] (m24_X1_tellCloser l D tA b i F G w (by exact hi_1_2) (by exact hi_1_5)) C0 hH hS clX1 rfl ⟨⟨Nat.le_of_ble_eq_true rfl, Nat.le_of_ble_eq_true rfl⟩, rfl, rfl⟩ cw_X9_79 rfl ⟨Nat.le_of_ble_eq_true rfl, Nat.le_of_ble_eq_true rfl⟩ hl.1 rfl (Nat.le_of_ble_eq_true rfl) dX9_closer_6 ⟨Nat.le_of_ble_eq_true rfl, Nat.le_of_ble_eq_true rfl⟩ (fun r1 ir1 Fr1 Gr1 _ locs hp hH hS => ?_)
  obtain rfl := hp
  refine xcVI (pc := 9) 0 [.int (clS w)] (m14_X9_unreadUnlessRefused l D tA b ir1 Fr1 Gr1 (clS w) ) C0 hH hS clX9 rfl ⟨⟨Nat.le_of_ble_eq_true rfl, Nat.le_of_ble_eq_true rfl⟩, rfl, rfl⟩ cw_X9_71 rfl ⟨Nat.le_of_ble_eq_true rfl, Nat.le_of_ble_eq_true rfl⟩ hl.1 rfl (Nat.le_of_ble_eq_true rfl) dX9_closer_9 ⟨Nat.le_of_ble_eq_true rfl, Nat.le_of_ble_eq_true rfl⟩ (fun r2 ir2 Fr2 Gr2 _ locs hp hH hS => ?_)
  obtain rfl := hp
  exact xiret (pc := 12) C0 hr hH hS dX9_closer_12 rfl
set_option maxHeartbeats 4000000 in
set_option maxRecDepth 100000 in
theorem p_X9_goer (l : Launch) (D : va_G) (tA : Nat → ClassId) (b : Nat) (i F : Nat → Nat → Int32) (G : Nat → Nat → Int64) (x : Int32) (hi_1_2 : i 1 2 = 0) (hi_1_6 : i 1 6 = 0) : xMI l yX9_goer cX9_goer 2 (some .int) 6 133 D tA b 0 78 i F G [.ref (b + 0), .int x] (fun r _ => r = goS x) := by
  refine xstart RX9 rfl (by decide) (Nat.le_of_ble_eq_true rfl) ?_
  intro p e s m below meth c ls C0 hr hH hS hl
  have hl : lv_has ls 2 [(0, .ref (b + 0)), (1, .int x)] := hl
  refine lv_aload_n (pc := 0) C0.1 C0.2.1 dX9_goer_0 rfl (lv_at hl 0 rfl) ?_
  refine lv_aload_n (pc := 1) C0.1 C0.2.1 dX9_goer_1 rfl (lv_at hl 0 rfl) ?_
  refine xget (pc := 2) C0 hH 0 0 clX9 ⟨Nat.le_of_ble_eq_true rfl, Nat.le_of_ble_eq_true rfl⟩ ⟨rfl, rfl⟩ (Nat.le_of_ble_eq_true rfl) fl_X9_12 (v := .ref (b + 1)) rfl dX9_goer_2 ?_
  refine lv_iload_n (pc := 5) C0.1 C0.2.1 dX9_goer_5 rfl (lv_at hl 1 rfl) ?_
  refine xcVI (pc := 6) 1 [.int x] (m32_X1_tellGoer l D tA b i F G x (by exact hi_1_2) (by exact hi_1_6)) C0 hH hS clX1 rfl ⟨⟨Nat.le_of_ble_eq_true rfl, Nat.le_of_ble_eq_true rfl⟩, rfl, rfl⟩ cw_X9_83 rfl ⟨Nat.le_of_ble_eq_true rfl, Nat.le_of_ble_eq_true rfl⟩ hl.1 rfl (Nat.le_of_ble_eq_true rfl) dX9_goer_6 ⟨Nat.le_of_ble_eq_true rfl, Nat.le_of_ble_eq_true rfl⟩ (fun r1 ir1 Fr1 Gr1 _ locs hp hH hS => ?_)
  obtain rfl := hp
  refine xcVI (pc := 9) 0 [.int (goS x)] (m14_X9_unreadUnlessRefused l D tA b ir1 Fr1 Gr1 (goS x) ) C0 hH hS clX9 rfl ⟨⟨Nat.le_of_ble_eq_true rfl, Nat.le_of_ble_eq_true rfl⟩, rfl, rfl⟩ cw_X9_71 rfl ⟨Nat.le_of_ble_eq_true rfl, Nat.le_of_ble_eq_true rfl⟩ hl.1 rfl (Nat.le_of_ble_eq_true rfl) dX9_goer_9 ⟨Nat.le_of_ble_eq_true rfl, Nat.le_of_ble_eq_true rfl⟩ (fun r2 ir2 Fr2 Gr2 _ locs hp hH hS => ?_)
  obtain rfl := hp
  exact xiret (pc := 12) C0 hr hH hS dX9_goer_12 rfl
set_option maxHeartbeats 4000000 in
set_option maxRecDepth 100000 in
theorem p_X9_tab (l : Launch) (D : va_G) (tA : Nat → ClassId) (b : Nat) (i F : Nat → Nat → Int32) (G : Nat → Nat → Int64) (x : Int32) (hi_1_7 : i 1 7 = 0) : xMI l yX9_tab cX9_tab 2 (some .int) 1 22 D tA b 0 78 i F G [.ref (b + 0), .int x] (fun r _ => r = tbS x) := by
  refine xstart RX9 rfl (by decide) (Nat.le_of_ble_eq_true rfl) ?_
  intro p e s m below meth c ls C0 hr hH hS hl
  have hl : lv_has ls 2 [(0, .ref (b + 0)), (1, .int x)] := hl
  refine lv_aload_n (pc := 0) C0.1 C0.2.1 dX9_tab_0 rfl (lv_at hl 0 rfl) ?_
  refine lv_aload_n (pc := 1) C0.1 C0.2.1 dX9_tab_1 rfl (lv_at hl 0 rfl) ?_
  refine xget (pc := 2) C0 hH 0 0 clX9 ⟨Nat.le_of_ble_eq_true rfl, Nat.le_of_ble_eq_true rfl⟩ ⟨rfl, rfl⟩ (Nat.le_of_ble_eq_true rfl) fl_X9_12 (v := .ref (b + 1)) rfl dX9_tab_2 ?_
  refine lv_iload_n (pc := 5) C0.1 C0.2.1 dX9_tab_5 rfl (lv_at hl 1 rfl) ?_
  refine xcVI (pc := 6) 1 [.int x] (m15_X1_tellTab l D tA b i F G x (by exact hi_1_7)) C0 hH hS clX1 rfl ⟨⟨Nat.le_of_ble_eq_true rfl, Nat.le_of_ble_eq_true rfl⟩, rfl, rfl⟩ cw_X9_86 rfl ⟨Nat.le_of_ble_eq_true rfl, Nat.le_of_ble_eq_true rfl⟩ hl.1 rfl (Nat.le_of_ble_eq_true rfl) dX9_tab_6 ⟨Nat.le_of_ble_eq_true rfl, Nat.le_of_ble_eq_true rfl⟩ (fun r1 ir1 Fr1 Gr1 _ locs hp hH hS => ?_)
  obtain rfl := hp
  refine xcVI (pc := 9) 0 [.int (tbS x)] (m14_X9_unreadUnlessRefused l D tA b ir1 Fr1 Gr1 (tbS x) ) C0 hH hS clX9 rfl ⟨⟨Nat.le_of_ble_eq_true rfl, Nat.le_of_ble_eq_true rfl⟩, rfl, rfl⟩ cw_X9_71 rfl ⟨Nat.le_of_ble_eq_true rfl, Nat.le_of_ble_eq_true rfl⟩ hl.1 rfl (Nat.le_of_ble_eq_true rfl) dX9_tab_9 ⟨Nat.le_of_ble_eq_true rfl, Nat.le_of_ble_eq_true rfl⟩ (fun r2 ir2 Fr2 Gr2 _ locs hp hH hS => ?_)
  obtain rfl := hp
  exact xiret (pc := 12) C0 hr hH hS dX9_tab_12 rfl
set_option maxHeartbeats 4000000 in
set_option maxRecDepth 100000 in
theorem p_X9_cut (l : Launch) (D : va_G) (tA : Nat → ClassId) (b : Nat) (i F : Nat → Nat → Int32) (G : Nat → Nat → Int64) (x : Int32) (hi_4_1 : i 4 1 = 0) : xMI l yX9_cut cX9_cut 2 (some .int) 1 22 D tA b 0 78 i F G [.ref (b + 0), .int x] (fun r _ => r = ctS x) := by
  refine xstart RX9 rfl (by decide) (Nat.le_of_ble_eq_true rfl) ?_
  intro p e s m below meth c ls C0 hr hH hS hl
  have hl : lv_has ls 2 [(0, .ref (b + 0)), (1, .int x)] := hl
  refine lv_aload_n (pc := 0) C0.1 C0.2.1 dX9_cut_0 rfl (lv_at hl 0 rfl) ?_
  refine lv_aload_n (pc := 1) C0.1 C0.2.1 dX9_cut_1 rfl (lv_at hl 0 rfl) ?_
  refine xget (pc := 2) C0 hH 0 1 clX9 ⟨Nat.le_of_ble_eq_true rfl, Nat.le_of_ble_eq_true rfl⟩ ⟨rfl, rfl⟩ (Nat.le_of_ble_eq_true rfl) fl_X9_19 (v := .ref (b + 4)) rfl dX9_cut_2 ?_
  refine lv_iload_n (pc := 5) C0.1 C0.2.1 dX9_cut_5 rfl (lv_at hl 1 rfl) ?_
  refine xcVI (pc := 6) 4 [.int x] (m16_X6_keepFirst l D tA b i F G x (by exact hi_4_1)) C0 hH hS clX6 rfl ⟨⟨Nat.le_of_ble_eq_true rfl, Nat.le_of_ble_eq_true rfl⟩, rfl, rfl⟩ cw_X9_92 rfl ⟨Nat.le_of_ble_eq_true rfl, Nat.le_of_ble_eq_true rfl⟩ hl.1 rfl (Nat.le_of_ble_eq_true rfl) dX9_cut_6 ⟨Nat.le_of_ble_eq_true rfl, Nat.le_of_ble_eq_true rfl⟩ (fun r1 ir1 Fr1 Gr1 _ locs hp hH hS => ?_)
  obtain rfl := hp
  refine xcVI (pc := 9) 0 [.int (ctS x)] (m14_X9_unreadUnlessRefused l D tA b ir1 Fr1 Gr1 (ctS x) ) C0 hH hS clX9 rfl ⟨⟨Nat.le_of_ble_eq_true rfl, Nat.le_of_ble_eq_true rfl⟩, rfl, rfl⟩ cw_X9_71 rfl ⟨Nat.le_of_ble_eq_true rfl, Nat.le_of_ble_eq_true rfl⟩ hl.1 rfl (Nat.le_of_ble_eq_true rfl) dX9_cut_9 ⟨Nat.le_of_ble_eq_true rfl, Nat.le_of_ble_eq_true rfl⟩ (fun r2 ir2 Fr2 Gr2 _ locs hp hH hS => ?_)
  obtain rfl := hp
  exact xiret (pc := 12) C0 hr hH hS dX9_cut_12 rfl
set_option maxHeartbeats 4000000 in
set_option maxRecDepth 100000 in
theorem a36_X6_refusalOfSlide (l : Launch) (D : va_G) (tA : Nat → ClassId) (b : Nat) (i F : Nat → Nat → Int32) (G : Nat → Nat → Int64) (a0_ : Int32) (a1_ : Int32) (hi_4_1 : i 4 1 = 0) : xMI l yX6_refusalOfSlide cX6_refusalOfSlide 5 (some .int) 1 23 D tA b 0 78 i F G [.ref (b + 4), .int a0_, .int a1_] (fun r u => u = (i, F, G) ∧ r = (-1)) := by
  refine xstart RX6 rfl (by decide) (Nat.le_of_ble_eq_true rfl) ?_
  intro p e s m below meth c ls C0 hr hH hS hl
  have hl : lv_has ls 5 [(0, .ref (b + 4)), (1, .int a0_), (2, .int a1_)] := hl
  refine lv_aload_n (pc := 0) C0.1 C0.2.1 dX6_refusalOfSlide_0 rfl (lv_at hl 0 rfl) ?_
  refine lv_iload_n (pc := 1) C0.1 C0.2.1 dX6_refusalOfSlide_1 rfl (lv_at hl 1 rfl) ?_
  refine xcVI (pc := 2) 4 [.int a0_] (m17_X6_startOf l D tA b i F G a0_ (by exact hi_4_1)) C0 hH hS clX6 rfl ⟨⟨Nat.le_of_ble_eq_true rfl, Nat.le_of_ble_eq_true rfl⟩, rfl, rfl⟩ cw_X6_52 rfl ⟨Nat.le_of_ble_eq_true rfl, Nat.le_of_ble_eq_true rfl⟩ hl.1 rfl (Nat.le_of_ble_eq_true rfl) dX6_refusalOfSlide_2 ⟨Nat.le_of_ble_eq_true rfl, Nat.le_of_ble_eq_true rfl⟩ (fun r1 ir1 Fr1 Gr1 _ locs hp hH hS => ?_)
  obtain ⟨hu, rfl⟩ := hp
  cases hu
  refine lv_istore_n (pc := 5) (lv' := [(3, .int (-9)), (0, .ref (b + 4)), (1, .int a0_), (2, .int a1_)]) C0.1 C0.2.1 dX6_refusalOfSlide_5 rfl hl (by decide) rfl (fun ls hl => ?_)
  refine lv_iload_n (pc := 6) C0.1 C0.2.1 dX6_refusalOfSlide_6 rfl (lv_at hl 0 rfl) ?_
  refine lv_bipush (pc := 7) (v := (-9)) C0.1 C0.2.1 dX6_refusalOfSlide_7 (by decide) ?_
  refine lv_icmp_ne (pc := 9) (tgt := 14) C0.1 C0.2.1 dX6_refusalOfSlide_9 (by decide) (fun c => absurd (by decide) c) (fun _ => ?_)
  refine lv_iconst (pc := 12) (v := (-1)) C0.1 C0.2.1 dX6_refusalOfSlide_12 (by decide) ?_
  exact xiret (pc := 13) C0 hr hH hS dX6_refusalOfSlide_13 ⟨rfl, rfl⟩
set_option maxHeartbeats 4000000 in
set_option maxRecDepth 100000 in
theorem a35_X6_slide (l : Launch) (D : va_G) (tA : Nat → ClassId) (b : Nat) (i F : Nat → Nat → Int32) (G : Nat → Nat → Int64) (a0_ : Int32) (a1_ : Int32) (hi_4_1 : i 4 1 = 0) : xMI l yX6_slide cX6_slide 5 (some .int) 2 47 D tA b 0 78 i F G [.ref (b + 4), .int a0_, .int a1_] (fun r u => u = (i, F, G) ∧ r = (-1)) := by
  refine xstart RX6 rfl (by decide) (Nat.le_of_ble_eq_true rfl) ?_
  intro p e s m below meth c ls C0 hr hH hS hl
  have hl : lv_has ls 5 [(0, .ref (b + 4)), (1, .int a0_), (2, .int a1_)] := hl
  refine lv_aload_n (pc := 0) C0.1 C0.2.1 dX6_slide_0 rfl (lv_at hl 0 rfl) ?_
  refine lv_iload_n (pc := 1) C0.1 C0.2.1 dX6_slide_1 rfl (lv_at hl 1 rfl) ?_
  refine lv_iload_n (pc := 2) C0.1 C0.2.1 dX6_slide_2 rfl (lv_at hl 2 rfl) ?_
  refine xcVI (pc := 3) 4 [.int a0_, .int a1_] (a36_X6_refusalOfSlide l D tA b i F G a0_ a1_ (by exact hi_4_1)) C0 hH hS clX6 rfl ⟨⟨Nat.le_of_ble_eq_true rfl, Nat.le_of_ble_eq_true rfl⟩, rfl, rfl⟩ cw_X6_48 rfl ⟨Nat.le_of_ble_eq_true rfl, Nat.le_of_ble_eq_true rfl⟩ hl.1 rfl (Nat.le_of_ble_eq_true rfl) dX6_slide_3 ⟨Nat.le_of_ble_eq_true rfl, Nat.le_of_ble_eq_true rfl⟩ (fun r1 ir1 Fr1 Gr1 _ locs hp hH hS => ?_)
  obtain ⟨hu, rfl⟩ := hp
  cases hu
  refine lv_istore_n (pc := 6) (lv' := [(3, .int (-1)), (0, .ref (b + 4)), (1, .int a0_), (2, .int a1_)]) C0.1 C0.2.1 dX6_slide_6 rfl hl (by decide) rfl (fun ls hl => ?_)
  refine lv_iload_n (pc := 7) C0.1 C0.2.1 dX6_slide_7 rfl (lv_at hl 0 rfl) ?_
  refine lv_if_eq (pc := 8) (tgt := 13) C0.1 C0.2.1 dX6_slide_8 (by decide) (fun c => absurd c (by decide)) (fun _ => ?_)
  refine lv_iload_n (pc := 11) C0.1 C0.2.1 dX6_slide_11 rfl (lv_at hl 0 rfl) ?_
  exact xiret (pc := 12) C0 hr hH hS dX6_slide_12 ⟨rfl, rfl⟩
set_option maxHeartbeats 4000000 in
set_option maxRecDepth 100000 in
theorem p_X9_shift (l : Launch) (D : va_G) (tA : Nat → ClassId) (b : Nat) (i F : Nat → Nat → Int32) (G : Nat → Nat → Int64) (x y : Int32) (hi_4_1 : i 4 1 = 0) : xMI l yX9_shift cX9_shift 3 (some .int) 3 71 D tA b 0 78 i F G [.ref (b + 0), .int x, .int y] (fun r _ => r = -1) := by
  refine xstart RX9 rfl (by decide) (Nat.le_of_ble_eq_true rfl) ?_
  intro p e s m below meth c ls C0 hr hH hS hl
  have hl : lv_has ls 3 [(0, .ref (b + 0)), (1, .int x), (2, .int y)] := hl
  refine lv_aload_n (pc := 0) C0.1 C0.2.1 dX9_shift_0 rfl (lv_at hl 0 rfl) ?_
  refine lv_aload_n (pc := 1) C0.1 C0.2.1 dX9_shift_1 rfl (lv_at hl 0 rfl) ?_
  refine xget (pc := 2) C0 hH 0 1 clX9 ⟨Nat.le_of_ble_eq_true rfl, Nat.le_of_ble_eq_true rfl⟩ ⟨rfl, rfl⟩ (Nat.le_of_ble_eq_true rfl) fl_X9_19 (v := .ref (b + 4)) rfl dX9_shift_2 ?_
  refine lv_iload_n (pc := 5) C0.1 C0.2.1 dX9_shift_5 rfl (lv_at hl 1 rfl) ?_
  refine lv_iload_n (pc := 6) C0.1 C0.2.1 dX9_shift_6 rfl (lv_at hl 2 rfl) ?_
  refine xcVI (pc := 7) 4 [.int x, .int y] (a35_X6_slide l D tA b i F G x y (by exact hi_4_1)) C0 hH hS clX6 rfl ⟨⟨Nat.le_of_ble_eq_true rfl, Nat.le_of_ble_eq_true rfl⟩, rfl, rfl⟩ cw_X9_95 rfl ⟨Nat.le_of_ble_eq_true rfl, Nat.le_of_ble_eq_true rfl⟩ hl.1 rfl (Nat.le_of_ble_eq_true rfl) dX9_shift_7 ⟨Nat.le_of_ble_eq_true rfl, Nat.le_of_ble_eq_true rfl⟩ (fun r1 ir1 Fr1 Gr1 _ locs hp hH hS => ?_)
  obtain ⟨hu, rfl⟩ := hp
  cases hu
  refine xcVI (pc := 10) 0 [.int (-1)] (m14_X9_unreadUnlessRefused l D tA b i F G (-1) ) C0 hH hS clX9 rfl ⟨⟨Nat.le_of_ble_eq_true rfl, Nat.le_of_ble_eq_true rfl⟩, rfl, rfl⟩ cw_X9_71 rfl ⟨Nat.le_of_ble_eq_true rfl, Nat.le_of_ble_eq_true rfl⟩ hl.1 rfl (Nat.le_of_ble_eq_true rfl) dX9_shift_10 ⟨Nat.le_of_ble_eq_true rfl, Nat.le_of_ble_eq_true rfl⟩ (fun r2 ir2 Fr2 Gr2 _ locs hp hH hS => ?_)
  obtain rfl := hp
  exact xiret (pc := 13) C0 hr hH hS dX9_shift_13 rfl
set_option maxHeartbeats 4000000 in
set_option maxRecDepth 100000 in
theorem p_X9_byteAt (l : Launch) (D : va_G) (tA : Nat → ClassId) (b : Nat) (i F : Nat → Nat → Int32) (G : Nat → Nat → Int64) (x : Int32) (hi_4_1 : i 4 1 = 0) : xMI l yX9_byteAt cX9_byteAt 2 (some .int) 0 0 D tA b 0 78 i F G [.ref (b + 0), .int x] (fun r _ => r = -12) := by
  refine xstart RX9 rfl (by decide) (Nat.le_of_ble_eq_true rfl) ?_
  intro p e s m below meth c ls C0 hr hH hS hl
  have hl : lv_has ls 2 [(0, .ref (b + 0)), (1, .int x)] := hl
  refine lv_iload_n (pc := 0) C0.1 C0.2.1 dX9_byteAt_0 rfl (lv_at hl 1 rfl) ?_
  refine lv_if_lt (pc := 1) (tgt := 15) C0.1 C0.2.1 dX9_byteAt_1 (by decide) (fun c1 => ?_) (fun c1 => ?_)
  · have : Int32.toInt 0 = 0 := rfl
    have c1 := Int32.lt_iff_toInt_lt.mp c1
    refine lv_bipush (pc := 15) (v := (-12)) C0.1 C0.2.1 dX9_byteAt_15 (by decide) ?_
    refine lv_goto (pc := 17) (tgt := 28) C0.1 C0.2.1 dX9_byteAt_17 (by decide) ?_
    exact xiret (pc := 28) C0 hr hH hS dX9_byteAt_28 rfl
  · have : Int32.toInt 0 = 0 := rfl
    have c1 : ¬ _ := fun q => c1 (Int32.lt_iff_toInt_lt.mpr q)
    refine lv_iload_n (pc := 4) C0.1 C0.2.1 dX9_byteAt_4 rfl (lv_at hl 1 rfl) ?_
    refine lv_aload_n (pc := 5) C0.1 C0.2.1 dX9_byteAt_5 rfl (lv_at hl 0 rfl) ?_
    refine xget (pc := 6) C0 hH 0 1 clX9 ⟨Nat.le_of_ble_eq_true rfl, Nat.le_of_ble_eq_true rfl⟩ ⟨rfl, rfl⟩ (Nat.le_of_ble_eq_true rfl) fl_X9_19 (v := .ref (b + 4)) rfl dX9_byteAt_6 ?_
    refine xget (pc := 9) C0 hH 4 1 clX6 ⟨Nat.le_of_ble_eq_true rfl, Nat.le_of_ble_eq_true rfl⟩ ⟨rfl, rfl⟩ (Nat.le_of_ble_eq_true rfl) fl_X9_102 (v := .int 0) (congrArg Value.int hi_4_1) dX9_byteAt_9 ?_
    refine lv_icmp_lt (pc := 12) (tgt := 20) C0.1 C0.2.1 dX9_byteAt_12 (by decide) (fun c => absurd c (fun q => absurd (Int32.lt_iff_toInt_lt.mp q) (by have : Int32.toInt 0 = 0 := rfl; omega))) (fun _ => ?_)
    refine lv_bipush (pc := 15) (v := (-12)) C0.1 C0.2.1 dX9_byteAt_15 (by decide) ?_
    refine lv_goto (pc := 17) (tgt := 28) C0.1 C0.2.1 dX9_byteAt_17 (by decide) ?_
    exact xiret (pc := 28) C0 hr hH hS dX9_byteAt_28 rfl
set_option maxHeartbeats 4000000 in
set_option maxRecDepth 100000 in
theorem p_X9_markAt (l : Launch) (D : va_G) (tA : Nat → ClassId) (b : Nat) (i F : Nat → Nat → Int32) (G : Nat → Nat → Int64) (x : Int32) (hi_0_13 : i 0 13 = 0) : xMI l yX9_markAt cX9_markAt 2 (some .int) 0 0 D tA b 0 78 i F G [.ref (b + 0), .int x] (fun r _ => r = -12) := by
  refine xstart RX9 rfl (by decide) (Nat.le_of_ble_eq_true rfl) ?_
  intro p e s m below meth c ls C0 hr hH hS hl
  have hl : lv_has ls 2 [(0, .ref (b + 0)), (1, .int x)] := hl
  refine lv_iload_n (pc := 0) C0.1 C0.2.1 dX9_markAt_0 rfl (lv_at hl 1 rfl) ?_
  refine lv_if_lt (pc := 1) (tgt := 12) C0.1 C0.2.1 dX9_markAt_1 (by decide) (fun c1 => ?_) (fun c1 => ?_)
  · have : Int32.toInt 0 = 0 := rfl
    have c1 := Int32.lt_iff_toInt_lt.mp c1
    refine lv_bipush (pc := 12) (v := (-12)) C0.1 C0.2.1 dX9_markAt_12 (by decide) ?_
    refine lv_goto (pc := 14) (tgt := 23) C0.1 C0.2.1 dX9_markAt_14 (by decide) ?_
    exact xiret (pc := 23) C0 hr hH hS dX9_markAt_23 rfl
  · have : Int32.toInt 0 = 0 := rfl
    have c1 : ¬ _ := fun q => c1 (Int32.lt_iff_toInt_lt.mpr q)
    refine lv_iload_n (pc := 4) C0.1 C0.2.1 dX9_markAt_4 rfl (lv_at hl 1 rfl) ?_
    refine lv_aload_n (pc := 5) C0.1 C0.2.1 dX9_markAt_5 rfl (lv_at hl 0 rfl) ?_
    refine xget (pc := 6) C0 hH 0 13 clX9 ⟨Nat.le_of_ble_eq_true rfl, Nat.le_of_ble_eq_true rfl⟩ ⟨rfl, rfl⟩ (Nat.le_of_ble_eq_true rfl) fl_X9_280 (v := .int 0) (congrArg Value.int hi_0_13) dX9_markAt_6 ?_
    refine lv_icmp_lt (pc := 9) (tgt := 17) C0.1 C0.2.1 dX9_markAt_9 (by decide) (fun c => absurd c (fun q => absurd (Int32.lt_iff_toInt_lt.mp q) (by have : Int32.toInt 0 = 0 := rfl; omega))) (fun _ => ?_)
    refine lv_bipush (pc := 12) (v := (-12)) C0.1 C0.2.1 dX9_markAt_12 (by decide) ?_
    refine lv_goto (pc := 14) (tgt := 23) C0.1 C0.2.1 dX9_markAt_14 (by decide) ?_
    exact xiret (pc := 23) C0 hr hH hS dX9_markAt_23 rfl
set_option maxHeartbeats 4000000 in
set_option maxRecDepth 100000 in
theorem p_X9_fault (l : Launch) (D : va_G) (tA : Nat → ClassId) (b : Nat) (i F : Nat → Nat → Int32) (G : Nat → Nat → Int64) (x : Int32) (hi_8_2 : i 8 2 = 0) (hi_8_3 : i 8 3 = (-9)) (hi_8_4 : i 8 4 = (-9)) (hi_8_5 : i 8 5 = (-9)) : xMI l yX9_fault cX9_fault 2 (some .int) 0 0 D tA b 0 78 i F G [.ref (b + 0), .int x] (fun r _ => r = ftS x) := by
  refine xstart RX9 rfl (by decide) (Nat.le_of_ble_eq_true rfl) ?_
  intro p e s m below meth c ls C0 hr hH hS hl
  have hl : lv_has ls 2 [(0, .ref (b + 0)), (1, .int x)] := hl
  refine lv_iload_n (pc := 0) C0.1 C0.2.1 dX9_fault_0 rfl (lv_at hl 1 rfl) ?_
  by_cases t1 : (x : Int32).toInt = 0
  · refine lv_tableIn (pc := 1) (off := 31) (tgt := 32) C0.1 C0.2.1 dX9_fault_1 (by omega) (by omega) (by rw [t1]; rfl) (by decide) ?_
    refine lv_aload_n (pc := 32) C0.1 C0.2.1 dX9_fault_32 rfl (lv_at hl 0 rfl) ?_
    refine xget (pc := 33) C0 hH 0 3 clX9 ⟨Nat.le_of_ble_eq_true rfl, Nat.le_of_ble_eq_true rfl⟩ ⟨rfl, rfl⟩ (Nat.le_of_ble_eq_true rfl) fl_X9_29 (v := .ref (b + 8)) rfl dX9_fault_33 ?_
    refine xget (pc := 36) C0 hH 8 2 clX4 ⟨Nat.le_of_ble_eq_true rfl, Nat.le_of_ble_eq_true rfl⟩ ⟨rfl, rfl⟩ (Nat.le_of_ble_eq_true rfl) fl_X9_112 (v := .int 0) (congrArg Value.int hi_8_2) dX9_fault_36 ?_
    exact xiret (pc := 39) C0 hr hH hS dX9_fault_39 (by unfold ftS; (repeat' split) <;> first | rfl | omega | (exfalso; omega))
  by_cases t2 : (x : Int32).toInt = 1
  · refine lv_tableIn (pc := 1) (off := 39) (tgt := 40) C0.1 C0.2.1 dX9_fault_1 (by omega) (by omega) (by rw [t2]; rfl) (by decide) ?_
    refine lv_aload_n (pc := 40) C0.1 C0.2.1 dX9_fault_40 rfl (lv_at hl 0 rfl) ?_
    refine xget (pc := 41) C0 hH 0 3 clX9 ⟨Nat.le_of_ble_eq_true rfl, Nat.le_of_ble_eq_true rfl⟩ ⟨rfl, rfl⟩ (Nat.le_of_ble_eq_true rfl) fl_X9_29 (v := .ref (b + 8)) rfl dX9_fault_41 ?_
    refine xget (pc := 44) C0 hH 8 3 clX4 ⟨Nat.le_of_ble_eq_true rfl, Nat.le_of_ble_eq_true rfl⟩ ⟨rfl, rfl⟩ (Nat.le_of_ble_eq_true rfl) fl_X9_115 (v := .int (-9)) (congrArg Value.int hi_8_3) dX9_fault_44 ?_
    exact xiret (pc := 47) C0 hr hH hS dX9_fault_47 (by unfold ftS; (repeat' split) <;> first | rfl | omega | (exfalso; omega))
  by_cases t3 : (x : Int32).toInt = 2
  · refine lv_tableIn (pc := 1) (off := 47) (tgt := 48) C0.1 C0.2.1 dX9_fault_1 (by omega) (by omega) (by rw [t3]; rfl) (by decide) ?_
    refine lv_aload_n (pc := 48) C0.1 C0.2.1 dX9_fault_48 rfl (lv_at hl 0 rfl) ?_
    refine xget (pc := 49) C0 hH 0 3 clX9 ⟨Nat.le_of_ble_eq_true rfl, Nat.le_of_ble_eq_true rfl⟩ ⟨rfl, rfl⟩ (Nat.le_of_ble_eq_true rfl) fl_X9_29 (v := .ref (b + 8)) rfl dX9_fault_49 ?_
    refine xget (pc := 52) C0 hH 8 4 clX4 ⟨Nat.le_of_ble_eq_true rfl, Nat.le_of_ble_eq_true rfl⟩ ⟨rfl, rfl⟩ (Nat.le_of_ble_eq_true rfl) fl_X9_127 (v := .int (-9)) (congrArg Value.int hi_8_4) dX9_fault_52 ?_
    exact xiret (pc := 55) C0 hr hH hS dX9_fault_55 (by unfold ftS; (repeat' split) <;> first | rfl | omega | (exfalso; omega))
  by_cases t4 : (x : Int32).toInt = 3
  · refine lv_tableIn (pc := 1) (off := 55) (tgt := 56) C0.1 C0.2.1 dX9_fault_1 (by omega) (by omega) (by rw [t4]; rfl) (by decide) ?_
    refine lv_aload_n (pc := 56) C0.1 C0.2.1 dX9_fault_56 rfl (lv_at hl 0 rfl) ?_
    refine xget (pc := 57) C0 hH 0 3 clX9 ⟨Nat.le_of_ble_eq_true rfl, Nat.le_of_ble_eq_true rfl⟩ ⟨rfl, rfl⟩ (Nat.le_of_ble_eq_true rfl) fl_X9_29 (v := .ref (b + 8)) rfl dX9_fault_57 ?_
    refine xget (pc := 60) C0 hH 8 5 clX4 ⟨Nat.le_of_ble_eq_true rfl, Nat.le_of_ble_eq_true rfl⟩ ⟨rfl, rfl⟩ (Nat.le_of_ble_eq_true rfl) fl_X9_130 (v := .int (-9)) (congrArg Value.int hi_8_5) dX9_fault_60 ?_
    exact xiret (pc := 63) C0 hr hH hS dX9_fault_63 (by unfold ftS; (repeat' split) <;> first | rfl | omega | (exfalso; omega))
  refine lv_tableOut (pc := 1) (tgt := 64) C0.1 C0.2.1 dX9_fault_1 (by omega) (by decide) ?_
  refine lv_bipush (pc := 64) (v := (-2)) C0.1 C0.2.1 dX9_fault_64 (by decide) ?_
  exact xiret (pc := 66) C0 hr hH hS dX9_fault_66 (by unfold ftS; (repeat' split) <;> first | rfl | omega | (exfalso; omega))
set_option maxHeartbeats 4000000 in
set_option maxRecDepth 100000 in
theorem a37_X6_lineCount (l : Launch) (D : va_G) (tA : Nat → ClassId) (b : Nat) (i F : Nat → Nat → Int32) (G : Nat → Nat → Int64)  (hi_4_1 : i 4 1 = 0) : xMI l yX6_lineCount cX6_lineCount 1 (some .int) 0 0 D tA b 0 78 i F G [.ref (b + 4)] (fun r u => u = (i, F, G) ∧ r = 0) := by
  refine xstart RX6 rfl (by decide) (Nat.le_of_ble_eq_true rfl) ?_
  intro p e s m below meth c ls C0 hr hH hS hl
  have hl : lv_has ls 1 [(0, .ref (b + 4))] := hl
  refine lv_aload_n (pc := 0) C0.1 C0.2.1 dX6_lineCount_0 rfl (lv_at hl 0 rfl) ?_
  refine xget (pc := 1) C0 hH 4 1 clX6 ⟨Nat.le_of_ble_eq_true rfl, Nat.le_of_ble_eq_true rfl⟩ ⟨rfl, rfl⟩ (Nat.le_of_ble_eq_true rfl) fl_X6_15 (v := .int 0) (congrArg Value.int hi_4_1) dX6_lineCount_1 ?_
  refine lv_if_ne (pc := 4) (tgt := 11) C0.1 C0.2.1 dX6_lineCount_4 (by decide) (fun c => absurd (by decide) c) (fun _ => ?_)
  refine lv_iconst (pc := 7) (v := 0) C0.1 C0.2.1 dX6_lineCount_7 (by decide) ?_
  refine lv_goto (pc := 8) (tgt := 23) C0.1 C0.2.1 dX6_lineCount_8 (by decide) ?_
  exact xiret (pc := 23) C0 hr hH hS dX6_lineCount_23 ⟨rfl, rfl⟩
set_option maxHeartbeats 4000000 in
set_option maxRecDepth 100000 in
theorem a38_X6_lineCount (l : Launch) (D : va_G) (tA : Nat → ClassId) (b : Nat) (i F : Nat → Nat → Int32) (G : Nat → Nat → Int64)  (hi_4_1 : i 4 1 = 0) : xMI l yX6_lineCount cX6_lineCount 1 (some .int) 0 0 D tA b 0 78 i F G [.ref (b + 4)] (fun r u => u = (i, F, G) ∧ r = 0) := by
  refine xstart RX6 rfl (by decide) (Nat.le_of_ble_eq_true rfl) ?_
  intro p e s m below meth c ls C0 hr hH hS hl
  have hl : lv_has ls 1 [(0, .ref (b + 4))] := hl
  refine lv_aload_n (pc := 0) C0.1 C0.2.1 dX6_lineCount_0 rfl (lv_at hl 0 rfl) ?_
  refine xget (pc := 1) C0 hH 4 1 clX6 ⟨Nat.le_of_ble_eq_true rfl, Nat.le_of_ble_eq_true rfl⟩ ⟨rfl, rfl⟩ (Nat.le_of_ble_eq_true rfl) fl_X6_15 (v := .int 0) (congrArg Value.int hi_4_1) dX6_lineCount_1 ?_
  refine lv_if_ne (pc := 4) (tgt := 11) C0.1 C0.2.1 dX6_lineCount_4 (by decide) (fun c => absurd (by decide) c) (fun _ => ?_)
  refine lv_iconst (pc := 7) (v := 0) C0.1 C0.2.1 dX6_lineCount_7 (by decide) ?_
  refine lv_goto (pc := 8) (tgt := 23) C0.1 C0.2.1 dX6_lineCount_8 (by decide) ?_
  exact xiret (pc := 23) C0 hr hH hS dX6_lineCount_23 ⟨rfl, rfl⟩
set_option maxHeartbeats 4000000 in
set_option maxRecDepth 100000 in
theorem p_X9_count (l : Launch) (D : va_G) (tA : Nat → ClassId) (b : Nat) (i F : Nat → Nat → Int32) (G : Nat → Nat → Int64) (x : Int32) (hi_9_7 : i 9 7 = 0) (hi_18_9 : i 18 9 = 0) (hi_28_5 : i 28 5 = 0) (hi_4_1 : i 4 1 = 0) (hi_0_8 : i 0 8 = 0) : xMI l yX9_count cX9_count 2 (some .int) 1 20 D tA b 0 78 i F G [.ref (b + 0), .int x] (fun r _ => r = coS x) := by
  refine xstart RX9 rfl (by decide) (Nat.le_of_ble_eq_true rfl) ?_
  intro p e s m below meth c ls C0 hr hH hS hl
  have hl : lv_has ls 2 [(0, .ref (b + 0)), (1, .int x)] := hl
  refine lv_iload_n (pc := 0) C0.1 C0.2.1 dX9_count_0 rfl (lv_at hl 1 rfl) ?_
  refine lv_if_lt (pc := 1) (tgt := 20) C0.1 C0.2.1 dX9_count_1 (by decide) (fun c1 => ?_) (fun c1 => ?_)
  · have : Int32.toInt 0 = 0 := rfl
    have c1 := Int32.lt_iff_toInt_lt.mp c1
    refine lv_iload_n (pc := 20) C0.1 C0.2.1 dX9_count_20 rfl (lv_at hl 1 rfl) ?_
    by_cases t2 : (x : Int32).toInt = 0
    · refine lv_tableIn (pc := 21) (off := 35) (tgt := 56) C0.1 C0.2.1 dX9_count_21 (by omega) (by omega) (by rw [t2]; rfl) (by decide) ?_
      refine lv_aload_n (pc := 56) C0.1 C0.2.1 dX9_count_56 rfl (lv_at hl 0 rfl) ?_
      refine xget (pc := 57) C0 hH 0 3 clX9 ⟨Nat.le_of_ble_eq_true rfl, Nat.le_of_ble_eq_true rfl⟩ ⟨rfl, rfl⟩ (Nat.le_of_ble_eq_true rfl) fl_X9_29 (v := .ref (b + 8)) rfl dX9_count_57 ?_
      refine xget (pc := 60) C0 hH 8 0 clX4 ⟨Nat.le_of_ble_eq_true rfl, Nat.le_of_ble_eq_true rfl⟩ ⟨rfl, rfl⟩ (Nat.le_of_ble_eq_true rfl) fl_X9_118 (v := .ref (b + 9)) rfl dX9_count_60 ?_
      refine xget (pc := 63) C0 hH 9 7 clX7 ⟨Nat.le_of_ble_eq_true rfl, Nat.le_of_ble_eq_true rfl⟩ ⟨rfl, rfl⟩ (Nat.le_of_ble_eq_true rfl) fl_X9_122 (v := .int 0) (congrArg Value.int hi_9_7) dX9_count_63 ?_
      exact xiret (pc := 66) C0 hr hH hS dX9_count_66 (by unfold coS; (repeat' split) <;> first | rfl | omega | (exfalso; omega))
    by_cases t3 : (x : Int32).toInt = 1
    · refine lv_tableIn (pc := 21) (off := 46) (tgt := 67) C0.1 C0.2.1 dX9_count_21 (by omega) (by omega) (by rw [t3]; rfl) (by decide) ?_
      refine lv_aload_n (pc := 67) C0.1 C0.2.1 dX9_count_67 rfl (lv_at hl 0 rfl) ?_
      refine xget (pc := 68) C0 hH 0 3 clX9 ⟨Nat.le_of_ble_eq_true rfl, Nat.le_of_ble_eq_true rfl⟩ ⟨rfl, rfl⟩ (Nat.le_of_ble_eq_true rfl) fl_X9_29 (v := .ref (b + 8)) rfl dX9_count_68 ?_
      refine xget (pc := 71) C0 hH 8 1 clX4 ⟨Nat.le_of_ble_eq_true rfl, Nat.le_of_ble_eq_true rfl⟩ ⟨rfl, rfl⟩ (Nat.le_of_ble_eq_true rfl) fl_X9_133 (v := .ref (b + 17)) rfl dX9_count_71 ?_
      refine xget (pc := 74) C0 hH 17 0 clX8 ⟨Nat.le_of_ble_eq_true rfl, Nat.le_of_ble_eq_true rfl⟩ ⟨rfl, rfl⟩ (Nat.le_of_ble_eq_true rfl) fl_X9_137 (v := .ref (b + 18)) rfl dX9_count_74 ?_
      refine xget (pc := 77) C0 hH 18 9 clX0 ⟨Nat.le_of_ble_eq_true rfl, Nat.le_of_ble_eq_true rfl⟩ ⟨rfl, rfl⟩ (Nat.le_of_ble_eq_true rfl) fl_X9_143 (v := .int 0) (congrArg Value.int hi_18_9) dX9_count_77 ?_
      exact xiret (pc := 80) C0 hr hH hS dX9_count_80 (by unfold coS; (repeat' split) <;> first | rfl | omega | (exfalso; omega))
    by_cases t4 : (x : Int32).toInt = 2
    · refine lv_tableIn (pc := 21) (off := 60) (tgt := 81) C0.1 C0.2.1 dX9_count_21 (by omega) (by omega) (by rw [t4]; rfl) (by decide) ?_
      refine lv_aload_n (pc := 81) C0.1 C0.2.1 dX9_count_81 rfl (lv_at hl 0 rfl) ?_
      refine xget (pc := 82) C0 hH 0 3 clX9 ⟨Nat.le_of_ble_eq_true rfl, Nat.le_of_ble_eq_true rfl⟩ ⟨rfl, rfl⟩ (Nat.le_of_ble_eq_true rfl) fl_X9_29 (v := .ref (b + 8)) rfl dX9_count_82 ?_
      refine xget (pc := 85) C0 hH 8 1 clX4 ⟨Nat.le_of_ble_eq_true rfl, Nat.le_of_ble_eq_true rfl⟩ ⟨rfl, rfl⟩ (Nat.le_of_ble_eq_true rfl) fl_X9_133 (v := .ref (b + 17)) rfl dX9_count_85 ?_
      refine xget (pc := 88) C0 hH 17 1 clX8 ⟨Nat.le_of_ble_eq_true rfl, Nat.le_of_ble_eq_true rfl⟩ ⟨rfl, rfl⟩ (Nat.le_of_ble_eq_true rfl) fl_X9_146 (v := .ref (b + 28)) rfl dX9_count_88 ?_
      refine xget (pc := 91) C0 hH 28 5 clX2 ⟨Nat.le_of_ble_eq_true rfl, Nat.le_of_ble_eq_true rfl⟩ ⟨rfl, rfl⟩ (Nat.le_of_ble_eq_true rfl) fl_X9_150 (v := .int 0) (congrArg Value.int hi_28_5) dX9_count_91 ?_
      exact xiret (pc := 94) C0 hr hH hS dX9_count_94 (by unfold coS; (repeat' split) <;> first | rfl | omega | (exfalso; omega))
    by_cases t5 : (x : Int32).toInt = 3
    · refine lv_tableIn (pc := 21) (off := 74) (tgt := 95) C0.1 C0.2.1 dX9_count_21 (by omega) (by omega) (by rw [t5]; rfl) (by decide) ?_
      refine lv_aload_n (pc := 95) C0.1 C0.2.1 dX9_count_95 rfl (lv_at hl 0 rfl) ?_
      refine xget (pc := 96) C0 hH 0 1 clX9 ⟨Nat.le_of_ble_eq_true rfl, Nat.le_of_ble_eq_true rfl⟩ ⟨rfl, rfl⟩ (Nat.le_of_ble_eq_true rfl) fl_X9_19 (v := .ref (b + 4)) rfl dX9_count_96 ?_
      refine xcVI (pc := 99) 4 [] (a37_X6_lineCount l D tA b i F G  (by exact hi_4_1)) C0 hH hS clX6 rfl ⟨⟨Nat.le_of_ble_eq_true rfl, Nat.le_of_ble_eq_true rfl⟩, rfl, rfl⟩ cw_X9_153 rfl ⟨Nat.le_of_ble_eq_true rfl, Nat.le_of_ble_eq_true rfl⟩ hl.1 rfl (Nat.le_of_ble_eq_true rfl) dX9_count_99 ⟨Nat.le_of_ble_eq_true rfl, Nat.le_of_ble_eq_true rfl⟩ (fun r6 ir6 Fr6 Gr6 _ locs hp hH hS => ?_)
      obtain ⟨hu, rfl⟩ := hp
      cases hu
      exact xiret (pc := 102) C0 hr hH hS dX9_count_102 (by unfold coS; (repeat' split) <;> first | rfl | omega | (exfalso; omega))
    by_cases t7 : (x : Int32).toInt = 4
    · refine lv_tableIn (pc := 21) (off := 82) (tgt := 103) C0.1 C0.2.1 dX9_count_21 (by omega) (by omega) (by rw [t7]; rfl) (by decide) ?_
      refine lv_aload_n (pc := 103) C0.1 C0.2.1 dX9_count_103 rfl (lv_at hl 0 rfl) ?_
      refine xget (pc := 104) C0 hH 0 1 clX9 ⟨Nat.le_of_ble_eq_true rfl, Nat.le_of_ble_eq_true rfl⟩ ⟨rfl, rfl⟩ (Nat.le_of_ble_eq_true rfl) fl_X9_19 (v := .ref (b + 4)) rfl dX9_count_104 ?_
      refine xget (pc := 107) C0 hH 4 1 clX6 ⟨Nat.le_of_ble_eq_true rfl, Nat.le_of_ble_eq_true rfl⟩ ⟨rfl, rfl⟩ (Nat.le_of_ble_eq_true rfl) fl_X9_102 (v := .int 0) (congrArg Value.int hi_4_1) dX9_count_107 ?_
      exact xiret (pc := 110) C0 hr hH hS dX9_count_110 (by unfold coS; (repeat' split) <;> first | rfl | omega | (exfalso; omega))
    refine lv_tableOut (pc := 21) (tgt := 111) C0.1 C0.2.1 dX9_count_21 (by omega) (by decide) ?_
    refine lv_bipush (pc := 111) (v := (-2)) C0.1 C0.2.1 dX9_count_111 (by decide) ?_
    exact xiret (pc := 113) C0 hr hH hS dX9_count_113 (by unfold coS; (repeat' split) <;> first | rfl | omega | (exfalso; omega))
  · have : Int32.toInt 0 = 0 := rfl
    have c1 : ¬ _ := fun q => c1 (Int32.lt_iff_toInt_lt.mpr q)
    refine lv_iload_n (pc := 4) C0.1 C0.2.1 dX9_count_4 rfl (lv_at hl 1 rfl) ?_
    refine lv_iconst (pc := 5) (v := 2) C0.1 C0.2.1 dX9_count_5 (by decide) ?_
    refine lv_icmp_gt (pc := 6) (tgt := 20) C0.1 C0.2.1 dX9_count_6 (by decide) (fun c8 => ?_) (fun c8 => ?_)
    · have : Int32.toInt 2 = 2 := rfl
      have c8 := Int32.lt_iff_toInt_lt.mp c8
      refine lv_iload_n (pc := 20) C0.1 C0.2.1 dX9_count_20 rfl (lv_at hl 1 rfl) ?_
      by_cases t9 : (x : Int32).toInt = 0
      · refine lv_tableIn (pc := 21) (off := 35) (tgt := 56) C0.1 C0.2.1 dX9_count_21 (by omega) (by omega) (by rw [t9]; rfl) (by decide) ?_
        refine lv_aload_n (pc := 56) C0.1 C0.2.1 dX9_count_56 rfl (lv_at hl 0 rfl) ?_
        refine xget (pc := 57) C0 hH 0 3 clX9 ⟨Nat.le_of_ble_eq_true rfl, Nat.le_of_ble_eq_true rfl⟩ ⟨rfl, rfl⟩ (Nat.le_of_ble_eq_true rfl) fl_X9_29 (v := .ref (b + 8)) rfl dX9_count_57 ?_
        refine xget (pc := 60) C0 hH 8 0 clX4 ⟨Nat.le_of_ble_eq_true rfl, Nat.le_of_ble_eq_true rfl⟩ ⟨rfl, rfl⟩ (Nat.le_of_ble_eq_true rfl) fl_X9_118 (v := .ref (b + 9)) rfl dX9_count_60 ?_
        refine xget (pc := 63) C0 hH 9 7 clX7 ⟨Nat.le_of_ble_eq_true rfl, Nat.le_of_ble_eq_true rfl⟩ ⟨rfl, rfl⟩ (Nat.le_of_ble_eq_true rfl) fl_X9_122 (v := .int 0) (congrArg Value.int hi_9_7) dX9_count_63 ?_
        exact xiret (pc := 66) C0 hr hH hS dX9_count_66 (by unfold coS; (repeat' split) <;> first | rfl | omega | (exfalso; omega))
      by_cases t10 : (x : Int32).toInt = 1
      · refine lv_tableIn (pc := 21) (off := 46) (tgt := 67) C0.1 C0.2.1 dX9_count_21 (by omega) (by omega) (by rw [t10]; rfl) (by decide) ?_
        refine lv_aload_n (pc := 67) C0.1 C0.2.1 dX9_count_67 rfl (lv_at hl 0 rfl) ?_
        refine xget (pc := 68) C0 hH 0 3 clX9 ⟨Nat.le_of_ble_eq_true rfl, Nat.le_of_ble_eq_true rfl⟩ ⟨rfl, rfl⟩ (Nat.le_of_ble_eq_true rfl) fl_X9_29 (v := .ref (b + 8)) rfl dX9_count_68 ?_
        refine xget (pc := 71) C0 hH 8 1 clX4 ⟨Nat.le_of_ble_eq_true rfl, Nat.le_of_ble_eq_true rfl⟩ ⟨rfl, rfl⟩ (Nat.le_of_ble_eq_true rfl) fl_X9_133 (v := .ref (b + 17)) rfl dX9_count_71 ?_
        refine xget (pc := 74) C0 hH 17 0 clX8 ⟨Nat.le_of_ble_eq_true rfl, Nat.le_of_ble_eq_true rfl⟩ ⟨rfl, rfl⟩ (Nat.le_of_ble_eq_true rfl) fl_X9_137 (v := .ref (b + 18)) rfl dX9_count_74 ?_
        refine xget (pc := 77) C0 hH 18 9 clX0 ⟨Nat.le_of_ble_eq_true rfl, Nat.le_of_ble_eq_true rfl⟩ ⟨rfl, rfl⟩ (Nat.le_of_ble_eq_true rfl) fl_X9_143 (v := .int 0) (congrArg Value.int hi_18_9) dX9_count_77 ?_
        exact xiret (pc := 80) C0 hr hH hS dX9_count_80 (by unfold coS; (repeat' split) <;> first | rfl | omega | (exfalso; omega))
      by_cases t11 : (x : Int32).toInt = 2
      · refine lv_tableIn (pc := 21) (off := 60) (tgt := 81) C0.1 C0.2.1 dX9_count_21 (by omega) (by omega) (by rw [t11]; rfl) (by decide) ?_
        refine lv_aload_n (pc := 81) C0.1 C0.2.1 dX9_count_81 rfl (lv_at hl 0 rfl) ?_
        refine xget (pc := 82) C0 hH 0 3 clX9 ⟨Nat.le_of_ble_eq_true rfl, Nat.le_of_ble_eq_true rfl⟩ ⟨rfl, rfl⟩ (Nat.le_of_ble_eq_true rfl) fl_X9_29 (v := .ref (b + 8)) rfl dX9_count_82 ?_
        refine xget (pc := 85) C0 hH 8 1 clX4 ⟨Nat.le_of_ble_eq_true rfl, Nat.le_of_ble_eq_true rfl⟩ ⟨rfl, rfl⟩ (Nat.le_of_ble_eq_true rfl) fl_X9_133 (v := .ref (b + 17)) rfl dX9_count_85 ?_
        refine xget (pc := 88) C0 hH 17 1 clX8 ⟨Nat.le_of_ble_eq_true rfl, Nat.le_of_ble_eq_true rfl⟩ ⟨rfl, rfl⟩ (Nat.le_of_ble_eq_true rfl) fl_X9_146 (v := .ref (b + 28)) rfl dX9_count_88 ?_
        refine xget (pc := 91) C0 hH 28 5 clX2 ⟨Nat.le_of_ble_eq_true rfl, Nat.le_of_ble_eq_true rfl⟩ ⟨rfl, rfl⟩ (Nat.le_of_ble_eq_true rfl) fl_X9_150 (v := .int 0) (congrArg Value.int hi_28_5) dX9_count_91 ?_
        exact xiret (pc := 94) C0 hr hH hS dX9_count_94 (by unfold coS; (repeat' split) <;> first | rfl | omega | (exfalso; omega))
      by_cases t12 : (x : Int32).toInt = 3
      · refine lv_tableIn (pc := 21) (off := 74) (tgt := 95) C0.1 C0.2.1 dX9_count_21 (by omega) (by omega) (by rw [t12]; rfl) (by decide) ?_
        refine lv_aload_n (pc := 95) C0.1 C0.2.1 dX9_count_95 rfl (lv_at hl 0 rfl) ?_
        refine xget (pc := 96) C0 hH 0 1 clX9 ⟨Nat.le_of_ble_eq_true rfl, Nat.le_of_ble_eq_true rfl⟩ ⟨rfl, rfl⟩ (Nat.le_of_ble_eq_true rfl) fl_X9_19 (v := .ref (b + 4)) rfl dX9_count_96 ?_
        refine xcVI (pc := 99) 4 [] (a38_X6_lineCount l D tA b i F G  (by exact hi_4_1)) C0 hH hS clX6 rfl ⟨⟨Nat.le_of_ble_eq_true rfl, Nat.le_of_ble_eq_true rfl⟩, rfl, rfl⟩ cw_X9_153 rfl ⟨Nat.le_of_ble_eq_true rfl, Nat.le_of_ble_eq_true rfl⟩ hl.1 rfl (Nat.le_of_ble_eq_true rfl) dX9_count_99 ⟨Nat.le_of_ble_eq_true rfl, Nat.le_of_ble_eq_true rfl⟩ (fun r13 ir13 Fr13 Gr13 _ locs hp hH hS => ?_)
        obtain ⟨hu, rfl⟩ := hp
        cases hu
        exact xiret (pc := 102) C0 hr hH hS dX9_count_102 (by unfold coS; (repeat' split) <;> first | rfl | omega | (exfalso; omega))
      by_cases t14 : (x : Int32).toInt = 4
      · refine lv_tableIn (pc := 21) (off := 82) (tgt := 103) C0.1 C0.2.1 dX9_count_21 (by omega) (by omega) (by rw [t14]; rfl) (by decide) ?_
        refine lv_aload_n (pc := 103) C0.1 C0.2.1 dX9_count_103 rfl (lv_at hl 0 rfl) ?_
        refine xget (pc := 104) C0 hH 0 1 clX9 ⟨Nat.le_of_ble_eq_true rfl, Nat.le_of_ble_eq_true rfl⟩ ⟨rfl, rfl⟩ (Nat.le_of_ble_eq_true rfl) fl_X9_19 (v := .ref (b + 4)) rfl dX9_count_104 ?_
        refine xget (pc := 107) C0 hH 4 1 clX6 ⟨Nat.le_of_ble_eq_true rfl, Nat.le_of_ble_eq_true rfl⟩ ⟨rfl, rfl⟩ (Nat.le_of_ble_eq_true rfl) fl_X9_102 (v := .int 0) (congrArg Value.int hi_4_1) dX9_count_107 ?_
        exact xiret (pc := 110) C0 hr hH hS dX9_count_110 (by unfold coS; (repeat' split) <;> first | rfl | omega | (exfalso; omega))
      refine lv_tableOut (pc := 21) (tgt := 111) C0.1 C0.2.1 dX9_count_21 (by omega) (by decide) ?_
      refine lv_bipush (pc := 111) (v := (-2)) C0.1 C0.2.1 dX9_count_111 (by decide) ?_
      exact xiret (pc := 113) C0 hr hH hS dX9_count_113 (by unfold coS; (repeat' split) <;> first | rfl | omega | (exfalso; omega))
    · have : Int32.toInt 2 = 2 := rfl
      have c8 : ¬ _ := fun q => c8 (Int32.lt_iff_toInt_lt.mpr q)
      refine lv_aload_n (pc := 9) C0.1 C0.2.1 dX9_count_9 rfl (lv_at hl 0 rfl) ?_
      refine xget (pc := 10) C0 hH 0 8 clX9 ⟨Nat.le_of_ble_eq_true rfl, Nat.le_of_ble_eq_true rfl⟩ ⟨rfl, rfl⟩ (Nat.le_of_ble_eq_true rfl) fl_X9_53 (v := .int 0) (congrArg Value.int hi_0_8) dX9_count_10 ?_
      refine lv_iconst (pc := 13) (v := 1) C0.1 C0.2.1 dX9_count_13 (by decide) ?_
      refine lv_icmp_eq (pc := 14) (tgt := 20) C0.1 C0.2.1 dX9_count_14 (by decide) (fun c => absurd c (by decide)) (fun _ => ?_)
      refine lv_bipush (pc := 17) (v := (-3)) C0.1 C0.2.1 dX9_count_17 (by decide) ?_
      exact xiret (pc := 19) C0 hr hH hS dX9_count_19 (by unfold coS; (repeat' split) <;> first | rfl | omega | (exfalso; omega))
set_option maxHeartbeats 4000000 in
set_option maxRecDepth 100000 in
theorem p_X9_mended (l : Launch) (D : va_G) (tA : Nat → ClassId) (b : Nat) (i F : Nat → Nat → Int32) (G : Nat → Nat → Int64) (x : Int32) (hi_0_10 : i 0 10 = (-9)) (hi_0_11 : i 0 11 = (-9)) : xMI l yX9_mended cX9_mended 2 (some .int) 0 0 D tA b 0 78 i F G [.ref (b + 0), .int x] (fun r _ => r = mdS x) := by
  refine xstart RX9 rfl (by decide) (Nat.le_of_ble_eq_true rfl) ?_
  intro p e s m below meth c ls C0 hr hH hS hl
  have hl : lv_has ls 2 [(0, .ref (b + 0)), (1, .int x)] := hl
  refine lv_iload_n (pc := 0) C0.1 C0.2.1 dX9_mended_0 rfl (lv_at hl 1 rfl) ?_
  by_cases t1 : (x : Int32).toInt = 0
  · refine lv_lookup (pc := 1) (off := 27) (tgt := 28) C0.1 C0.2.1 dX9_mended_1 (by decide) (by rw [t1]; rfl) (by decide) ?_
    refine lv_aload_n (pc := 28) C0.1 C0.2.1 dX9_mended_28 rfl (lv_at hl 0 rfl) ?_
    refine xget (pc := 29) C0 hH 0 10 clX9 ⟨Nat.le_of_ble_eq_true rfl, Nat.le_of_ble_eq_true rfl⟩ ⟨rfl, rfl⟩ (Nat.le_of_ble_eq_true rfl) fl_X9_57 (v := .int (-9)) (congrArg Value.int hi_0_10) dX9_mended_29 ?_
    exact xiret (pc := 32) C0 hr hH hS dX9_mended_32 (by unfold mdS; (repeat' split) <;> first | rfl | omega | (exfalso; omega))
  by_cases t2 : (x : Int32).toInt = 1
  · refine lv_lookup (pc := 1) (off := 32) (tgt := 33) C0.1 C0.2.1 dX9_mended_1 (by decide) (by rw [t2]; rfl) (by decide) ?_
    refine lv_aload_n (pc := 33) C0.1 C0.2.1 dX9_mended_33 rfl (lv_at hl 0 rfl) ?_
    refine xget (pc := 34) C0 hH 0 11 clX9 ⟨Nat.le_of_ble_eq_true rfl, Nat.le_of_ble_eq_true rfl⟩ ⟨rfl, rfl⟩ (Nat.le_of_ble_eq_true rfl) fl_X9_60 (v := .int (-9)) (congrArg Value.int hi_0_11) dX9_mended_34 ?_
    exact xiret (pc := 37) C0 hr hH hS dX9_mended_37 (by unfold mdS; (repeat' split) <;> first | rfl | omega | (exfalso; omega))
  refine lv_lookup (pc := 1) (off := 37) (tgt := 38) C0.1 C0.2.1 dX9_mended_1 (by decide) (by have ut1 : ¬ (0 : Int) = Int32.toInt x := fun q => t1 q.symm; have ut2 : ¬ (1 : Int) = Int32.toInt x := fun q => t2 q.symm; simp [Op.lookupswitch.offset, ut1, ut2]) (by decide) ?_
  refine lv_bipush (pc := 38) (v := (-2)) C0.1 C0.2.1 dX9_mended_38 (by decide) ?_
  exact xiret (pc := 40) C0 hr hH hS dX9_mended_40 (by unfold mdS; (repeat' split) <;> first | rfl | omega | (exfalso; omega))
set_option maxHeartbeats 4000000 in
set_option maxRecDepth 100000 in
theorem p_X9_write (l : Launch) (D : va_G) (tA : Nat → ClassId) (b : Nat) (i F : Nat → Nat → Int32) (G : Nat → Nat → Int64) (x : Int32) (hi_0_8 : i 0 8 = 0) : xMI l yX9_write cX9_write 2 (some .int) 0 0 D tA b 0 78 i F G [.ref (b + 0), .int x] (fun r _ => r = wrS x) := by
  refine xstart RX9 rfl (by decide) (Nat.le_of_ble_eq_true rfl) ?_
  intro p e s m below meth c ls C0 hr hH hS hl
  have hl : lv_has ls 2 [(0, .ref (b + 0)), (1, .int x)] := hl
  refine lv_iload_n (pc := 0) C0.1 C0.2.1 dX9_write_0 rfl (lv_at hl 1 rfl) ?_
  refine lv_iconst (pc := 1) (v := 1) C0.1 C0.2.1 dX9_write_1 (by decide) ?_
  refine lv_icmp_lt (pc := 2) (tgt := 11) C0.1 C0.2.1 dX9_write_2 (by decide) (fun c1 => ?_) (fun c1 => ?_)
  · have : Int32.toInt 1 = 1 := rfl
    have c1 := Int32.lt_iff_toInt_lt.mp c1
    refine lv_bipush (pc := 11) (v := (-2)) C0.1 C0.2.1 dX9_write_11 (by decide) ?_
    exact xiret (pc := 13) C0 hr hH hS dX9_write_13 (by unfold wrS; (repeat' split) <;> first | rfl | omega | (exfalso; omega))
  · have : Int32.toInt 1 = 1 := rfl
    have c1 : ¬ _ := fun q => c1 (Int32.lt_iff_toInt_lt.mpr q)
    refine lv_iload_n (pc := 5) C0.1 C0.2.1 dX9_write_5 rfl (lv_at hl 1 rfl) ?_
    refine lv_bipush (pc := 6) (v := 8) C0.1 C0.2.1 dX9_write_6 (by decide) ?_
    refine lv_icmp_le (pc := 8) (tgt := 14) C0.1 C0.2.1 dX9_write_8 (by decide) (fun c2 => ?_) (fun c2 => ?_)
    · have : Int32.toInt 8 = 8 := rfl
      have c2 := Int32.le_iff_toInt_le.mp c2
      refine lv_aload_n (pc := 14) C0.1 C0.2.1 dX9_write_14 rfl (lv_at hl 0 rfl) ?_
      refine xget (pc := 15) C0 hH 0 8 clX9 ⟨Nat.le_of_ble_eq_true rfl, Nat.le_of_ble_eq_true rfl⟩ ⟨rfl, rfl⟩ (Nat.le_of_ble_eq_true rfl) fl_X9_53 (v := .int 0) (congrArg Value.int hi_0_8) dX9_write_15 ?_
      refine lv_iconst (pc := 18) (v := 1) C0.1 C0.2.1 dX9_write_18 (by decide) ?_
      refine lv_icmp_ne (pc := 19) (tgt := 45) C0.1 C0.2.1 dX9_write_19 (by decide) (fun _ => ?_) (fun c => absurd c (by decide))
      refine lv_bipush (pc := 45) (v := (-3)) C0.1 C0.2.1 dX9_write_45 (by decide) ?_
      exact xiret (pc := 47) C0 hr hH hS dX9_write_47 (by unfold wrS; (repeat' split) <;> first | rfl | omega | (exfalso; omega))
    · have : Int32.toInt 8 = 8 := rfl
      have c2 : ¬ _ := fun q => c2 (Int32.le_iff_toInt_le.mpr q)
      refine lv_bipush (pc := 11) (v := (-2)) C0.1 C0.2.1 dX9_write_11 (by decide) ?_
      exact xiret (pc := 13) C0 hr hH hS dX9_write_13 (by unfold wrS; (repeat' split) <;> first | rfl | omega | (exfalso; omega))
set_option maxHeartbeats 4000000 in
set_option maxRecDepth 100000 in
theorem p_X9_written (l : Launch) (D : va_G) (tA : Nat → ClassId) (b : Nat) (i F : Nat → Nat → Int32) (G : Nat → Nat → Int64) (x : Int32) (hi_0_6 : i 0 6 = 73) (hi_73_1 : i 73 1 = 0) : xMI l yX9_written cX9_written 2 (some .int) 1 21 D tA b 0 78 i F G [.ref (b + 0), .int x] (fun r _ => r = -9) := by
  refine xstart RX9 rfl (by decide) (Nat.le_of_ble_eq_true rfl) ?_
  intro p e s m below meth c ls C0 hr hH hS hl
  have hl : lv_has ls 2 [(0, .ref (b + 0)), (1, .int x)] := hl
  refine lv_aload_n (pc := 0) C0.1 C0.2.1 dX9_written_0 rfl (lv_at hl 0 rfl) ?_
  refine xget (pc := 1) C0 hH 0 6 clX9 ⟨Nat.le_of_ble_eq_true rfl, Nat.le_of_ble_eq_true rfl⟩ ⟨rfl, rfl⟩ (Nat.le_of_ble_eq_true rfl) fl_X9_46 (v := .ref (b + 73)) (by show Value.ref (b + (i 0 6).toNatClampNeg) = _; rw [hi_0_6]; rfl) dX9_written_1 ?_
  refine lv_iload_n (pc := 4) C0.1 C0.2.1 dX9_written_4 rfl (lv_at hl 1 rfl) ?_
  refine xcVI (pc := 5) 73 [.int x] (m18_X3_at l D tA b i F G x (by exact hi_73_1)) C0 hH hS clX3 rfl ⟨⟨Nat.le_of_ble_eq_true rfl, Nat.le_of_ble_eq_true rfl⟩, rfl, rfl⟩ cw_X9_251 rfl ⟨Nat.le_of_ble_eq_true rfl, Nat.le_of_ble_eq_true rfl⟩ hl.1 rfl (Nat.le_of_ble_eq_true rfl) dX9_written_5 ⟨Nat.le_of_ble_eq_true rfl, Nat.le_of_ble_eq_true rfl⟩ (fun r1 ir1 Fr1 Gr1 _ locs hp hH hS => ?_)
  obtain rfl := hp
  exact xiret (pc := 8) C0 hr hH hS dX9_written_8 rfl
