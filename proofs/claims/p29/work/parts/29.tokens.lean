set_option maxRecDepth 20000 in
theorem cw_X7_103 : CwN RX7 "IndentReader" 103 yX9_isLetter cX9_isLetter 1 (some .boolean) 1 := ⟨nm_ 674 (by decide +kernel) rfl, wm 1 (by decide +kernel) rfl, wm 440 rfl rfl, by decide +kernel⟩
set_option maxRecDepth 20000 in
theorem st_X9_isLetter : Cond.static yX9_isLetter ∈ WALL := wm 439 (by decide +kernel) rfl
set_option maxRecDepth 20000 in
theorem cw_X7_107 : CwN RX7 "IndentReader" 107 yX9_isDigit cX9_isDigit 1 (some .boolean) 1 := ⟨nm_ 675 (by decide +kernel) rfl, wm 1 (by decide +kernel) rfl, wm 677 rfl rfl, by decide +kernel⟩
set_option maxRecDepth 20000 in
theorem st_X9_isDigit : Cond.static yX9_isDigit ∈ WALL := wm 676 (by decide +kernel) rfl
set_option maxRecDepth 20000 in
theorem cw_X7_110 : CwN RX7 "IndentReader" 110 yX9_isMark cX9_isMark 2 (some .boolean) 1 := ⟨nm_ 678 (by decide +kernel) rfl, wm 1 (by decide +kernel) rfl, wm 443 rfl rfl, by decide +kernel⟩
set_option maxRecDepth 20000 in
theorem st_X9_isMark : Cond.static yX9_isMark ∈ WALL := wm 442 (by decide +kernel) rfl
set_option maxRecDepth 20000 in
theorem fl_X7_44 : Cond.fieldLink RX7 44 (TX7 10).1 (TX7 10).2.1 (TX7 10).2.2.1 ∈ WALL := wm 119 (by decide +kernel) rfl
set_option maxRecDepth 20000 in
theorem cw_X7_75 : CwV RX7 75 yX6_at cX6_at 2 (some .int) 1 := ⟨wm 655 (by decide +kernel) rfl, wm 614 (by decide +kernel) rfl, wm 615 (by decide +kernel) rfl, wm 3 (by decide +kernel) rfl, wm 616 rfl rfl, by decide +kernel⟩
set_option maxRecDepth 20000 in
theorem fl_X7_57 : Cond.fieldLink RX7 57 (TX6 1).1 (TX6 1).2.1 (TX6 1).2.2.1 ∈ WALL := wm 73 (by decide +kernel) rfl
set_option maxRecDepth 20000 in
theorem cw_X7_114 : CwV RX7 114 yX7_rowLength cX7_rowLength 7 (some .int) 4 := ⟨wm 683 (by decide +kernel) rfl, wm 685 (by decide +kernel) rfl, wms 7 (by decide +kernel) rfl, wm 5 (by decide +kernel) rfl, wm 686 rfl rfl, by decide +kernel⟩
set_option maxRecDepth 20000 in
theorem cw_X7_118 : CwV RX7 118 yX7_quoteLength cX7_quoteLength 3 (some .int) 1 := ⟨wm 687 (by decide +kernel) rfl, wm 689 (by decide +kernel) rfl, wms 8 (by decide +kernel) rfl, wm 5 (by decide +kernel) rfl, wm 690 rfl rfl, by decide +kernel⟩
set_option maxRecDepth 20000 in
theorem fl_X7_50 : Cond.fieldLink RX7 50 (TX7 12).1 (TX7 12).2.1 (TX7 12).2.2.1 ∈ WALL := wm 121 (by decide +kernel) rfl
set_option maxRecDepth 20000 in
theorem cw_X7_121 : CwN RX7 "IndentReader" 121 yX9_columnBehind cX9_columnBehind 3 (some .int) 3 := ⟨nm_ 660 (by decide +kernel) rfl, wm 1 (by decide +kernel) rfl, wm 662 rfl rfl, by decide +kernel⟩
set_option maxRecDepth 20000 in
theorem fl_X7_47 : Cond.fieldLink RX7 47 (TX7 11).1 (TX7 11).2.1 (TX7 11).2.2.1 ∈ WALL := wm 120 (by decide +kernel) rfl
set_option maxRecDepth 20000 in
theorem cw_X7_88 : CwS RX7 88 yX7_sortOf cX7_sortOf 1 (some .int) 1 := ⟨wm 671 (by decide +kernel) rfl, wm 672 (by decide +kernel) rfl, wm 5 (by decide +kernel) rfl, wm 673 rfl rfl, by decide +kernel⟩
set_option maxRecDepth 20000 in
theorem cw_X7_91 : CwV RX7 91 yX7_tokenLength cX7_tokenLength 3 (some .int) 2 := ⟨wm 679 (by decide +kernel) rfl, wm 681 (by decide +kernel) rfl, wms 6 (by decide +kernel) rfl, wm 5 (by decide +kernel) rfl, wm 682 rfl rfl, by decide +kernel⟩
set_option maxRecDepth 20000 in
theorem fl_X7_38 : Cond.fieldLink RX7 38 (TX7 8).1 (TX7 8).2.1 (TX7 8).2.2.1 ∈ WALL := wm 115 (by decide +kernel) rfl
set_option maxRecDepth 20000 in
theorem fl_X7_41 : Cond.fieldLink RX7 41 (TX7 9).1 (TX7 9).2.1 (TX7 9).2.2.1 ∈ WALL := wm 117 (by decide +kernel) rfl
set_option maxRecDepth 20000 in
theorem fl_X7_34 : Cond.fieldLink RX7 34 (TX7 7).1 (TX7 7).2.1 (TX7 7).2.2.1 ∈ WALL := wm 112 (by decide +kernel) rfl
set_option maxRecDepth 20000 in
theorem cw_X7_95 : CwV RX7 95 yX7_packed cX7_packed 6 (some .long) 2 := ⟨wm 691 (by decide +kernel) rfl, wm 693 (by decide +kernel) rfl, wms 9 (by decide +kernel) rfl, wm 5 (by decide +kernel) rfl, wm 694 rfl rfl, by decide +kernel⟩
set_option maxRecDepth 20000 in
theorem cw_X7_99 : CwV RX7 99 yX1_roleOf cX1_roleOf 4 (some .int) 1 := ⟨wm 695 (by decide +kernel) rfl, wm 536 (by decide +kernel) rfl, wm 537 (by decide +kernel) rfl, wm 2 (by decide +kernel) rfl, wm 538 rfl rfl, by decide +kernel⟩
set_option maxRecDepth 20000 in
theorem fl_X7_53 : Cond.fieldLink RX7 53 (TX7 13).1 (TX7 13).2.1 (TX7 13).2.2.1 ∈ WALL := wm 122 (by decide +kernel) rfl
set_option maxRecDepth 20000 in
theorem fl_X7_66 : Cond.fieldLink RX7 66 (TX1 7).1 (TX1 7).2.1 (TX1 7).2.2.1 ∈ WALL := wm 41 (by decide +kernel) rfl
set_option maxRecDepth 20000 in
theorem cw_X7_77 : CwV RX7 77 yX7_pass cX7_pass 6 none 3 := ⟨wm 656 (by decide +kernel) rfl, wm 658 (by decide +kernel) rfl, wms 3 (by decide +kernel) rfl, wm 5 (by decide +kernel) rfl, wm 659 rfl rfl, by decide +kernel⟩
set_option maxRecDepth 20000 in
theorem cw_X7_85 : CwV RX7 85 yX7_scanToken cX7_scanToken 5 none 2 := ⟨wm 667 (by decide +kernel) rfl, wm 669 (by decide +kernel) rfl, wms 5 (by decide +kernel) rfl, wm 5 (by decide +kernel) rfl, wm 670 rfl rfl, by decide +kernel⟩
set_option maxRecDepth 20000 in
theorem cw_X7_81 : CwV RX7 81 yX7_noteLength cX7_noteLength 3 (some .int) 1 := ⟨wm 663 (by decide +kernel) rfl, wm 665 (by decide +kernel) rfl, wms 4 (by decide +kernel) rfl, wm 5 (by decide +kernel) rfl, wm 666 rfl rfl, by decide +kernel⟩
set_option maxRecDepth 20000 in
theorem cw_X7_71 : CwV RX7 71 yX6_firstPlaceOf cX6_firstPlaceOf 3 (some .int) 1 := ⟨wm 696 (by decide +kernel) rfl, wm 697 (by decide +kernel) rfl, wm 698 (by decide +kernel) rfl, wm 3 (by decide +kernel) rfl, wm 699 rfl rfl, by decide +kernel⟩
set_option maxRecDepth 20000 in
theorem cw_X7_62 : CwV RX7 62 yX7_scanNext cX7_scanNext 4 none 2 := ⟨wm 651 (by decide +kernel) rfl, wm 653 (by decide +kernel) rfl, wms 2 (by decide +kernel) rfl, wm 5 (by decide +kernel) rfl, wm 654 rfl rfl, by decide +kernel⟩
set_option maxRecDepth 20000 in
theorem cw_X7_125 : CwV RX7 125 yX6_startOf cX6_startOf 4 (some .int) 1 := ⟨wm 990 (by decide +kernel) rfl, wm 610 (by decide +kernel) rfl, wm 611 (by decide +kernel) rfl, wm 3 (by decide +kernel) rfl, wm 612 rfl rfl, by decide +kernel⟩
set_option maxRecDepth 20000 in
theorem mm_X7_128 : Cond.methodLink RX7 128 Lib.Math.max.name ∈ WALL ∧ Cond.static Lib.Math.max.name ∈ WALL ∧ Cond.initialized "java/lang/Math" ∈ WALL ∧ Cond.code Lib.Math.max.name Lib.Math.max.code 2 (some .int) ∈ WALL := ⟨wm 991 (by decide +kernel) rfl, wm 475 (by decide +kernel) rfl, wm 14 (by decide +kernel) rfl, wm 476 rfl rfl⟩
set_option maxRecDepth 20000 in
theorem cw_X7_134 : CwV RX7 134 yX6_columnFrom cX6_columnFrom 7 (some .int) 4 := ⟨wm 992 (by decide +kernel) rfl, wm 794 (by decide +kernel) rfl, wm 795 (by decide +kernel) rfl, wm 3 (by decide +kernel) rfl, wm 796 rfl rfl, by decide +kernel⟩
theorem dX7_sortOf_0 : decode cX7_sortOf 0 = .ok (.iload_n 0, 1) := by decide +kernel
theorem dX7_sortOf_1 : decode cX7_sortOf 1 = .ok (.invokestatic 103, 3) := by decide +kernel
theorem dX7_sortOf_4 : decode cX7_sortOf 4 = .ok (.ifCond .eq 5, 3) := by decide +kernel
theorem dX7_sortOf_9 : decode cX7_sortOf 9 = .ok (.iload_n 0, 1) := by decide +kernel
theorem dX7_sortOf_10 : decode cX7_sortOf 10 = .ok (.invokestatic 107, 3) := by decide +kernel
theorem dX7_sortOf_13 : decode cX7_sortOf 13 = .ok (.ifCond .eq 5, 3) := by decide +kernel
theorem dX7_sortOf_18 : decode cX7_sortOf 18 = .ok (.iload_n 0, 1) := by decide +kernel
theorem dX7_sortOf_19 : decode cX7_sortOf 19 = .ok (.i2l, 1) := by decide +kernel
theorem dX7_sortOf_20 : decode cX7_sortOf 20 = .ok (.invokestatic 110, 3) := by decide +kernel
theorem dX7_sortOf_23 : decode cX7_sortOf 23 = .ok (.ifCond .eq 5, 3) := by decide +kernel
theorem dX7_sortOf_28 : decode cX7_sortOf 28 = .ok (.iload_n 0, 1) := by decide +kernel
theorem dX7_sortOf_29 : decode cX7_sortOf 29 = .ok (.bipush 39, 2) := by decide +kernel
theorem dX7_sortOf_31 : decode cX7_sortOf 31 = .ok (.if_icmp .ne 7, 3) := by decide +kernel
theorem dX7_sortOf_38 : decode cX7_sortOf 38 = .ok (.bipush (-9), 2) := by decide +kernel
theorem dX7_sortOf_40 : decode cX7_sortOf 40 = .ok (.ireturn, 1) := by decide +kernel
theorem dX7_sortOf_34 : decode cX7_sortOf 34 = .ok (.iconst 3, 1) := by decide +kernel
theorem dX7_sortOf_35 : decode cX7_sortOf 35 = .ok (.goto 5, 3) := by decide +kernel
theorem dX7_sortOf_26 : decode cX7_sortOf 26 = .ok (.iconst 2, 1) := by decide +kernel
theorem dX7_sortOf_27 : decode cX7_sortOf 27 = .ok (.ireturn, 1) := by decide +kernel
theorem dX7_sortOf_16 : decode cX7_sortOf 16 = .ok (.iconst 1, 1) := by decide +kernel
theorem dX7_sortOf_17 : decode cX7_sortOf 17 = .ok (.ireturn, 1) := by decide +kernel
theorem dX7_sortOf_7 : decode cX7_sortOf 7 = .ok (.iconst 0, 1) := by decide +kernel
theorem dX7_sortOf_8 : decode cX7_sortOf 8 = .ok (.ireturn, 1) := by decide +kernel
theorem dX7_rowLength_0 : decode cX7_rowLength 0 = .ok (.iconst 0, 1) := by decide +kernel
theorem dX7_rowLength_1 : decode cX7_rowLength 1 = .ok (.istore 5, 2) := by decide +kernel
theorem dX7_rowLength_3 : decode cX7_rowLength 3 = .ok (.iload 5, 2) := by decide +kernel
theorem dX7_rowLength_5 : decode cX7_rowLength 5 = .ok (.iload 4, 2) := by decide +kernel
theorem dX7_rowLength_7 : decode cX7_rowLength 7 = .ok (.if_icmp .gt 37, 3) := by decide +kernel
theorem dX7_rowLength_44 : decode cX7_rowLength 44 = .ok (.iconst 0, 1) := by decide +kernel
theorem dX7_rowLength_45 : decode cX7_rowLength 45 = .ok (.ireturn, 1) := by decide +kernel
theorem dX7_rowLength_10 : decode cX7_rowLength 10 = .ok (.aload_n 1, 1) := by decide +kernel
theorem dX7_rowLength_11 : decode cX7_rowLength 11 = .ok (.aload_n 0, 1) := by decide +kernel
theorem dX7_rowLength_12 : decode cX7_rowLength 12 = .ok (.getfield 44, 3) := by decide +kernel
theorem dX7_rowLength_15 : decode cX7_rowLength 15 = .ok (.iload 5, 2) := by decide +kernel
theorem dX7_rowLength_17 : decode cX7_rowLength 17 = .ok (.iadd, 1) := by decide +kernel
theorem dX7_rowLength_18 : decode cX7_rowLength 18 = .ok (.invokevirtual 75, 3) := by decide +kernel
theorem dX7_rowLength_21 : decode cX7_rowLength 21 = .ok (.istore 6, 2) := by decide +kernel
theorem dX7_rowLength_23 : decode cX7_rowLength 23 = .ok (.iload 6, 2) := by decide +kernel
theorem dX7_rowLength_25 : decode cX7_rowLength 25 = .ok (.iload_n 2, 1) := by decide +kernel
theorem dX7_rowLength_26 : decode cX7_rowLength 26 = .ok (.if_icmp .lt 9, 3) := by decide +kernel
theorem dX7_rowLength_35 : decode cX7_rowLength 35 = .ok (.iload 5, 2) := by decide +kernel
theorem dX7_rowLength_37 : decode cX7_rowLength 37 = .ok (.ireturn, 1) := by decide +kernel
theorem dX7_rowLength_29 : decode cX7_rowLength 29 = .ok (.iload 6, 2) := by decide +kernel
theorem dX7_rowLength_31 : decode cX7_rowLength 31 = .ok (.iload_n 3, 1) := by decide +kernel
theorem dX7_rowLength_32 : decode cX7_rowLength 32 = .ok (.if_icmp .le 6, 3) := by decide +kernel
theorem dX7_rowLength_38 : decode cX7_rowLength 38 = .ok (.iinc 5 1, 3) := by decide +kernel
theorem dX7_rowLength_41 : decode cX7_rowLength 41 = .ok (.goto (-38), 3) := by decide +kernel
theorem dX7_quoteLength_0 : decode cX7_quoteLength 0 = .ok (.aload_n 0, 1) := by decide +kernel
theorem dX7_quoteLength_1 : decode cX7_quoteLength 1 = .ok (.getfield 44, 3) := by decide +kernel
theorem dX7_quoteLength_4 : decode cX7_quoteLength 4 = .ok (.iconst 1, 1) := by decide +kernel
theorem dX7_quoteLength_5 : decode cX7_quoteLength 5 = .ok (.iadd, 1) := by decide +kernel
theorem dX7_quoteLength_6 : decode cX7_quoteLength 6 = .ok (.istore_n 2, 1) := by decide +kernel
theorem dX7_quoteLength_7 : decode cX7_quoteLength 7 = .ok (.iload_n 2, 1) := by decide +kernel
theorem dX7_quoteLength_8 : decode cX7_quoteLength 8 = .ok (.aload_n 1, 1) := by decide +kernel
theorem dX7_quoteLength_9 : decode cX7_quoteLength 9 = .ok (.getfield 57, 3) := by decide +kernel
theorem dX7_quoteLength_12 : decode cX7_quoteLength 12 = .ok (.if_icmp .ge 28, 3) := by decide +kernel
theorem dX7_quoteLength_40 : decode cX7_quoteLength 40 = .ok (.iconst 0, 1) := by decide +kernel
theorem dX7_quoteLength_41 : decode cX7_quoteLength 41 = .ok (.ireturn, 1) := by decide +kernel
theorem dX7_quoteLength_15 : decode cX7_quoteLength 15 = .ok (.aload_n 1, 1) := by decide +kernel
theorem dX7_quoteLength_16 : decode cX7_quoteLength 16 = .ok (.iload_n 2, 1) := by decide +kernel
theorem dX7_quoteLength_17 : decode cX7_quoteLength 17 = .ok (.invokevirtual 75, 3) := by decide +kernel
theorem dX7_quoteLength_20 : decode cX7_quoteLength 20 = .ok (.bipush 39, 2) := by decide +kernel
theorem dX7_quoteLength_22 : decode cX7_quoteLength 22 = .ok (.if_icmp .ne 12, 3) := by decide +kernel
theorem dX7_quoteLength_34 : decode cX7_quoteLength 34 = .ok (.iinc 2 1, 3) := by decide +kernel
theorem dX7_quoteLength_37 : decode cX7_quoteLength 37 = .ok (.goto (-30), 3) := by decide +kernel
theorem dX7_quoteLength_25 : decode cX7_quoteLength 25 = .ok (.iload_n 2, 1) := by decide +kernel
theorem dX7_quoteLength_26 : decode cX7_quoteLength 26 = .ok (.iconst 1, 1) := by decide +kernel
theorem dX7_quoteLength_27 : decode cX7_quoteLength 27 = .ok (.iadd, 1) := by decide +kernel
theorem dX7_quoteLength_28 : decode cX7_quoteLength 28 = .ok (.aload_n 0, 1) := by decide +kernel
theorem dX7_quoteLength_29 : decode cX7_quoteLength 29 = .ok (.getfield 44, 3) := by decide +kernel
theorem dX7_quoteLength_32 : decode cX7_quoteLength 32 = .ok (.isub, 1) := by decide +kernel
theorem dX7_quoteLength_33 : decode cX7_quoteLength 33 = .ok (.ireturn, 1) := by decide +kernel
theorem dX7_noteLength_0 : decode cX7_noteLength 0 = .ok (.aload_n 0, 1) := by decide +kernel
theorem dX7_noteLength_1 : decode cX7_noteLength 1 = .ok (.getfield 44, 3) := by decide +kernel
theorem dX7_noteLength_4 : decode cX7_noteLength 4 = .ok (.istore_n 2, 1) := by decide +kernel
theorem dX7_noteLength_5 : decode cX7_noteLength 5 = .ok (.iload_n 2, 1) := by decide +kernel
theorem dX7_noteLength_6 : decode cX7_noteLength 6 = .ok (.aload_n 1, 1) := by decide +kernel
theorem dX7_noteLength_7 : decode cX7_noteLength 7 = .ok (.getfield 57, 3) := by decide +kernel
theorem dX7_noteLength_10 : decode cX7_noteLength 10 = .ok (.if_icmp .ge 26, 3) := by decide +kernel
theorem dX7_noteLength_36 : decode cX7_noteLength 36 = .ok (.aload_n 1, 1) := by decide +kernel
theorem dX7_noteLength_37 : decode cX7_noteLength 37 = .ok (.getfield 57, 3) := by decide +kernel
theorem dX7_noteLength_40 : decode cX7_noteLength 40 = .ok (.aload_n 0, 1) := by decide +kernel
theorem dX7_noteLength_41 : decode cX7_noteLength 41 = .ok (.getfield 44, 3) := by decide +kernel
theorem dX7_noteLength_44 : decode cX7_noteLength 44 = .ok (.isub, 1) := by decide +kernel
theorem dX7_noteLength_45 : decode cX7_noteLength 45 = .ok (.ireturn, 1) := by decide +kernel
theorem dX7_noteLength_13 : decode cX7_noteLength 13 = .ok (.aload_n 1, 1) := by decide +kernel
theorem dX7_noteLength_14 : decode cX7_noteLength 14 = .ok (.iload_n 2, 1) := by decide +kernel
theorem dX7_noteLength_15 : decode cX7_noteLength 15 = .ok (.invokevirtual 75, 3) := by decide +kernel
theorem dX7_noteLength_18 : decode cX7_noteLength 18 = .ok (.bipush 10, 2) := by decide +kernel
theorem dX7_noteLength_20 : decode cX7_noteLength 20 = .ok (.if_icmp .ne 10, 3) := by decide +kernel
theorem dX7_noteLength_30 : decode cX7_noteLength 30 = .ok (.iinc 2 1, 3) := by decide +kernel
theorem dX7_noteLength_33 : decode cX7_noteLength 33 = .ok (.goto (-28), 3) := by decide +kernel
theorem dX7_noteLength_23 : decode cX7_noteLength 23 = .ok (.iload_n 2, 1) := by decide +kernel
theorem dX7_noteLength_24 : decode cX7_noteLength 24 = .ok (.aload_n 0, 1) := by decide +kernel
theorem dX7_noteLength_25 : decode cX7_noteLength 25 = .ok (.getfield 44, 3) := by decide +kernel
theorem dX7_noteLength_28 : decode cX7_noteLength 28 = .ok (.isub, 1) := by decide +kernel
theorem dX7_noteLength_29 : decode cX7_noteLength 29 = .ok (.ireturn, 1) := by decide +kernel
theorem dX7_packed_0 : decode cX7_packed 0 = .ok (.lconst 0, 1) := by decide +kernel
theorem dX7_packed_1 : decode cX7_packed 1 = .ok (.lstore_n 3, 1) := by decide +kernel
theorem dX7_packed_2 : decode cX7_packed 2 = .ok (.iconst 0, 1) := by decide +kernel
theorem dX7_packed_3 : decode cX7_packed 3 = .ok (.istore 5, 2) := by decide +kernel
theorem dX7_packed_5 : decode cX7_packed 5 = .ok (.iload 5, 2) := by decide +kernel
theorem dX7_packed_7 : decode cX7_packed 7 = .ok (.iload_n 2, 1) := by decide +kernel
theorem dX7_packed_8 : decode cX7_packed 8 = .ok (.if_icmp .ge 37, 3) := by decide +kernel
theorem dX7_packed_45 : decode cX7_packed 45 = .ok (.lload_n 3, 1) := by decide +kernel
theorem dX7_packed_46 : decode cX7_packed 46 = .ok (.lreturn, 1) := by decide +kernel
theorem dX7_packed_11 : decode cX7_packed 11 = .ok (.iload 5, 2) := by decide +kernel
theorem dX7_packed_13 : decode cX7_packed 13 = .ok (.bipush 8, 2) := by decide +kernel
theorem dX7_packed_15 : decode cX7_packed 15 = .ok (.if_icmp .ge 30, 3) := by decide +kernel
theorem dX7_packed_18 : decode cX7_packed 18 = .ok (.lload_n 3, 1) := by decide +kernel
theorem dX7_packed_19 : decode cX7_packed 19 = .ok (.aload_n 1, 1) := by decide +kernel
theorem dX7_packed_20 : decode cX7_packed 20 = .ok (.aload_n 0, 1) := by decide +kernel
theorem dX7_packed_21 : decode cX7_packed 21 = .ok (.getfield 44, 3) := by decide +kernel
theorem dX7_packed_24 : decode cX7_packed 24 = .ok (.iload 5, 2) := by decide +kernel
theorem dX7_packed_26 : decode cX7_packed 26 = .ok (.iadd, 1) := by decide +kernel
theorem dX7_packed_27 : decode cX7_packed 27 = .ok (.invokevirtual 75, 3) := by decide +kernel
theorem dX7_packed_30 : decode cX7_packed 30 = .ok (.i2l, 1) := by decide +kernel
theorem dX7_packed_31 : decode cX7_packed 31 = .ok (.bipush 8, 2) := by decide +kernel
theorem dX7_packed_33 : decode cX7_packed 33 = .ok (.iload 5, 2) := by decide +kernel
theorem dX7_packed_35 : decode cX7_packed 35 = .ok (.imul, 1) := by decide +kernel
theorem dX7_packed_36 : decode cX7_packed 36 = .ok (.lshl, 1) := by decide +kernel
theorem dX7_packed_37 : decode cX7_packed 37 = .ok (.lor, 1) := by decide +kernel
theorem dX7_packed_38 : decode cX7_packed 38 = .ok (.lstore_n 3, 1) := by decide +kernel
theorem dX7_packed_39 : decode cX7_packed 39 = .ok (.iinc 5 1, 3) := by decide +kernel
theorem dX7_packed_42 : decode cX7_packed 42 = .ok (.goto (-37), 3) := by decide +kernel
theorem dX7_tokenLength_0 : decode cX7_tokenLength 0 = .ok (.iload_n 2, 1) := by decide +kernel
theorem dX7_tokenLength_1 : decode cX7_tokenLength 1 = .ok (.tableswitch 63 0 3 #[31, 43, 55, 57], 31) := by decide +kernel
theorem dX7_tokenLength_32 : decode cX7_tokenLength 32 = .ok (.aload_n 0, 1) := by decide +kernel
theorem dX7_tokenLength_33 : decode cX7_tokenLength 33 = .ok (.aload_n 1, 1) := by decide +kernel
theorem dX7_tokenLength_34 : decode cX7_tokenLength 34 = .ok (.bipush 97, 2) := by decide +kernel
theorem dX7_tokenLength_36 : decode cX7_tokenLength 36 = .ok (.bipush 122, 2) := by decide +kernel
theorem dX7_tokenLength_38 : decode cX7_tokenLength 38 = .ok (.bipush 8, 2) := by decide +kernel
theorem dX7_tokenLength_40 : decode cX7_tokenLength 40 = .ok (.invokevirtual 114, 3) := by decide +kernel
theorem dX7_tokenLength_43 : decode cX7_tokenLength 43 = .ok (.ireturn, 1) := by decide +kernel
theorem dX7_tokenLength_44 : decode cX7_tokenLength 44 = .ok (.aload_n 0, 1) := by decide +kernel
theorem dX7_tokenLength_45 : decode cX7_tokenLength 45 = .ok (.aload_n 1, 1) := by decide +kernel
theorem dX7_tokenLength_46 : decode cX7_tokenLength 46 = .ok (.bipush 48, 2) := by decide +kernel
theorem dX7_tokenLength_48 : decode cX7_tokenLength 48 = .ok (.bipush 57, 2) := by decide +kernel
theorem dX7_tokenLength_50 : decode cX7_tokenLength 50 = .ok (.bipush 9, 2) := by decide +kernel
theorem dX7_tokenLength_52 : decode cX7_tokenLength 52 = .ok (.invokevirtual 114, 3) := by decide +kernel
theorem dX7_tokenLength_55 : decode cX7_tokenLength 55 = .ok (.ireturn, 1) := by decide +kernel
theorem dX7_tokenLength_56 : decode cX7_tokenLength 56 = .ok (.iconst 1, 1) := by decide +kernel
theorem dX7_tokenLength_57 : decode cX7_tokenLength 57 = .ok (.ireturn, 1) := by decide +kernel
theorem dX7_tokenLength_58 : decode cX7_tokenLength 58 = .ok (.aload_n 0, 1) := by decide +kernel
theorem dX7_tokenLength_59 : decode cX7_tokenLength 59 = .ok (.aload_n 1, 1) := by decide +kernel
theorem dX7_tokenLength_60 : decode cX7_tokenLength 60 = .ok (.invokevirtual 118, 3) := by decide +kernel
theorem dX7_tokenLength_63 : decode cX7_tokenLength 63 = .ok (.ireturn, 1) := by decide +kernel
theorem dX7_tokenLength_64 : decode cX7_tokenLength 64 = .ok (.iconst 0, 1) := by decide +kernel
theorem dX7_tokenLength_65 : decode cX7_tokenLength 65 = .ok (.ireturn, 1) := by decide +kernel
theorem dX7_pass_0 : decode cX7_pass 0 = .ok (.iconst 0, 1) := by decide +kernel
theorem dX7_pass_1 : decode cX7_pass 1 = .ok (.istore 4, 2) := by decide +kernel
theorem dX7_pass_3 : decode cX7_pass 3 = .ok (.iload 4, 2) := by decide +kernel
theorem dX7_pass_5 : decode cX7_pass 5 = .ok (.iload_n 2, 1) := by decide +kernel
theorem dX7_pass_6 : decode cX7_pass 6 = .ok (.if_icmp .ge 68, 3) := by decide +kernel
theorem dX7_pass_74 : decode cX7_pass 74 = .ok (.return_, 1) := by decide +kernel
theorem dX7_pass_9 : decode cX7_pass 9 = .ok (.aload_n 1, 1) := by decide +kernel
theorem dX7_pass_10 : decode cX7_pass 10 = .ok (.aload_n 0, 1) := by decide +kernel
theorem dX7_pass_11 : decode cX7_pass 11 = .ok (.getfield 44, 3) := by decide +kernel
theorem dX7_pass_14 : decode cX7_pass 14 = .ok (.invokevirtual 75, 3) := by decide +kernel
theorem dX7_pass_17 : decode cX7_pass 17 = .ok (.istore 5, 2) := by decide +kernel
theorem dX7_pass_19 : decode cX7_pass 19 = .ok (.iload 5, 2) := by decide +kernel
theorem dX7_pass_21 : decode cX7_pass 21 = .ok (.bipush 10, 2) := by decide +kernel
theorem dX7_pass_23 : decode cX7_pass 23 = .ok (.if_icmp .ne 21, 3) := by decide +kernel
theorem dX7_pass_44 : decode cX7_pass 44 = .ok (.aload_n 0, 1) := by decide +kernel
theorem dX7_pass_45 : decode cX7_pass 45 = .ok (.aload_n 0, 1) := by decide +kernel
theorem dX7_pass_46 : decode cX7_pass 46 = .ok (.getfield 50, 3) := by decide +kernel
theorem dX7_pass_49 : decode cX7_pass 49 = .ok (.iload 5, 2) := by decide +kernel
theorem dX7_pass_51 : decode cX7_pass 51 = .ok (.iload_n 3, 1) := by decide +kernel
theorem dX7_pass_52 : decode cX7_pass 52 = .ok (.invokestatic 121, 3) := by decide +kernel
theorem dX7_pass_55 : decode cX7_pass 55 = .ok (.putfield 50, 3) := by decide +kernel
theorem dX7_pass_58 : decode cX7_pass 58 = .ok (.aload_n 0, 1) := by decide +kernel
theorem dX7_pass_59 : decode cX7_pass 59 = .ok (.dup, 1) := by decide +kernel
theorem dX7_pass_60 : decode cX7_pass 60 = .ok (.getfield 44, 3) := by decide +kernel
theorem dX7_pass_63 : decode cX7_pass 63 = .ok (.iconst 1, 1) := by decide +kernel
theorem dX7_pass_64 : decode cX7_pass 64 = .ok (.iadd, 1) := by decide +kernel
theorem dX7_pass_65 : decode cX7_pass 65 = .ok (.putfield 44, 3) := by decide +kernel
theorem dX7_pass_68 : decode cX7_pass 68 = .ok (.iinc 4 1, 3) := by decide +kernel
theorem dX7_pass_71 : decode cX7_pass 71 = .ok (.goto (-68), 3) := by decide +kernel
theorem dX7_pass_26 : decode cX7_pass 26 = .ok (.aload_n 0, 1) := by decide +kernel
theorem dX7_pass_27 : decode cX7_pass 27 = .ok (.dup, 1) := by decide +kernel
theorem dX7_pass_28 : decode cX7_pass 28 = .ok (.getfield 47, 3) := by decide +kernel
theorem dX7_pass_31 : decode cX7_pass 31 = .ok (.iconst 1, 1) := by decide +kernel
theorem dX7_pass_32 : decode cX7_pass 32 = .ok (.iadd, 1) := by decide +kernel
theorem dX7_pass_33 : decode cX7_pass 33 = .ok (.putfield 47, 3) := by decide +kernel
theorem dX7_pass_36 : decode cX7_pass 36 = .ok (.aload_n 0, 1) := by decide +kernel
theorem dX7_pass_37 : decode cX7_pass 37 = .ok (.iconst 0, 1) := by decide +kernel
theorem dX7_pass_38 : decode cX7_pass 38 = .ok (.putfield 50, 3) := by decide +kernel
theorem dX7_pass_41 : decode cX7_pass 41 = .ok (.goto 17, 3) := by decide +kernel
theorem dX7_scanToken_0 : decode cX7_scanToken 0 = .ok (.aload_n 1, 1) := by decide +kernel
theorem dX7_scanToken_1 : decode cX7_scanToken 1 = .ok (.aload_n 0, 1) := by decide +kernel
theorem dX7_scanToken_2 : decode cX7_scanToken 2 = .ok (.getfield 44, 3) := by decide +kernel
theorem dX7_scanToken_5 : decode cX7_scanToken 5 = .ok (.invokevirtual 75, 3) := by decide +kernel
theorem dX7_scanToken_8 : decode cX7_scanToken 8 = .ok (.invokestatic 88, 3) := by decide +kernel
theorem dX7_scanToken_11 : decode cX7_scanToken 11 = .ok (.istore_n 3, 1) := by decide +kernel
theorem dX7_scanToken_12 : decode cX7_scanToken 12 = .ok (.aload_n 0, 1) := by decide +kernel
theorem dX7_scanToken_13 : decode cX7_scanToken 13 = .ok (.aload_n 1, 1) := by decide +kernel
theorem dX7_scanToken_14 : decode cX7_scanToken 14 = .ok (.iload_n 3, 1) := by decide +kernel
theorem dX7_scanToken_15 : decode cX7_scanToken 15 = .ok (.invokevirtual 91, 3) := by decide +kernel
theorem dX7_scanToken_18 : decode cX7_scanToken 18 = .ok (.istore 4, 2) := by decide +kernel
theorem dX7_scanToken_20 : decode cX7_scanToken 20 = .ok (.iload 4, 2) := by decide +kernel
theorem dX7_scanToken_22 : decode cX7_scanToken 22 = .ok (.ifCond .le 13, 3) := by decide +kernel
theorem dX7_scanToken_35 : decode cX7_scanToken 35 = .ok (.aload_n 0, 1) := by decide +kernel
theorem dX7_scanToken_36 : decode cX7_scanToken 36 = .ok (.iconst 1, 1) := by decide +kernel
theorem dX7_scanToken_37 : decode cX7_scanToken 37 = .ok (.putfield 38, 3) := by decide +kernel
theorem dX7_scanToken_40 : decode cX7_scanToken 40 = .ok (.aload_n 0, 1) := by decide +kernel
theorem dX7_scanToken_41 : decode cX7_scanToken 41 = .ok (.aload_n 0, 1) := by decide +kernel
theorem dX7_scanToken_42 : decode cX7_scanToken 42 = .ok (.getfield 44, 3) := by decide +kernel
theorem dX7_scanToken_45 : decode cX7_scanToken 45 = .ok (.putfield 41, 3) := by decide +kernel
theorem dX7_scanToken_48 : decode cX7_scanToken 48 = .ok (.return_, 1) := by decide +kernel
theorem dX7_scanToken_25 : decode cX7_scanToken 25 = .ok (.aload_n 0, 1) := by decide +kernel
theorem dX7_scanToken_26 : decode cX7_scanToken 26 = .ok (.getfield 34, 3) := by decide +kernel
theorem dX7_scanToken_29 : decode cX7_scanToken 29 = .ok (.sipush 600, 3) := by decide +kernel
theorem dX7_scanToken_32 : decode cX7_scanToken 32 = .ok (.if_icmp .lt 17, 3) := by decide +kernel
theorem dX7_scanToken_49 : decode cX7_scanToken 49 = .ok (.aload_n 0, 1) := by decide +kernel
theorem dX7_scanToken_50 : decode cX7_scanToken 50 = .ok (.getfield 9, 3) := by decide +kernel
theorem dX7_scanToken_53 : decode cX7_scanToken 53 = .ok (.aload_n 0, 1) := by decide +kernel
theorem dX7_scanToken_54 : decode cX7_scanToken 54 = .ok (.getfield 34, 3) := by decide +kernel
theorem dX7_scanToken_57 : decode cX7_scanToken 57 = .ok (.iload_n 3, 1) := by decide +kernel
theorem dX7_scanToken_58 : decode cX7_scanToken 58 = .ok (.iastore, 1) := by decide +kernel
theorem dX7_scanToken_59 : decode cX7_scanToken 59 = .ok (.aload_n 0, 1) := by decide +kernel
theorem dX7_scanToken_60 : decode cX7_scanToken 60 = .ok (.getfield 15, 3) := by decide +kernel
theorem dX7_scanToken_63 : decode cX7_scanToken 63 = .ok (.aload_n 0, 1) := by decide +kernel
theorem dX7_scanToken_64 : decode cX7_scanToken 64 = .ok (.getfield 34, 3) := by decide +kernel
theorem dX7_scanToken_67 : decode cX7_scanToken 67 = .ok (.aload_n 0, 1) := by decide +kernel
theorem dX7_scanToken_68 : decode cX7_scanToken 68 = .ok (.getfield 44, 3) := by decide +kernel
theorem dX7_scanToken_71 : decode cX7_scanToken 71 = .ok (.iastore, 1) := by decide +kernel
theorem dX7_scanToken_72 : decode cX7_scanToken 72 = .ok (.aload_n 0, 1) := by decide +kernel
theorem dX7_scanToken_73 : decode cX7_scanToken 73 = .ok (.getfield 18, 3) := by decide +kernel
theorem dX7_scanToken_76 : decode cX7_scanToken 76 = .ok (.aload_n 0, 1) := by decide +kernel
theorem dX7_scanToken_77 : decode cX7_scanToken 77 = .ok (.getfield 34, 3) := by decide +kernel
theorem dX7_scanToken_80 : decode cX7_scanToken 80 = .ok (.iload 4, 2) := by decide +kernel
theorem dX7_scanToken_82 : decode cX7_scanToken 82 = .ok (.iastore, 1) := by decide +kernel
theorem dX7_scanToken_83 : decode cX7_scanToken 83 = .ok (.aload_n 0, 1) := by decide +kernel
theorem dX7_scanToken_84 : decode cX7_scanToken 84 = .ok (.getfield 21, 3) := by decide +kernel
theorem dX7_scanToken_87 : decode cX7_scanToken 87 = .ok (.aload_n 0, 1) := by decide +kernel
theorem dX7_scanToken_88 : decode cX7_scanToken 88 = .ok (.getfield 34, 3) := by decide +kernel
theorem dX7_scanToken_91 : decode cX7_scanToken 91 = .ok (.aload_n 0, 1) := by decide +kernel
theorem dX7_scanToken_92 : decode cX7_scanToken 92 = .ok (.getfield 47, 3) := by decide +kernel
theorem dX7_scanToken_95 : decode cX7_scanToken 95 = .ok (.iastore, 1) := by decide +kernel
theorem dX7_scanToken_96 : decode cX7_scanToken 96 = .ok (.aload_n 0, 1) := by decide +kernel
theorem dX7_scanToken_97 : decode cX7_scanToken 97 = .ok (.getfield 24, 3) := by decide +kernel
theorem dX7_scanToken_100 : decode cX7_scanToken 100 = .ok (.aload_n 0, 1) := by decide +kernel
theorem dX7_scanToken_101 : decode cX7_scanToken 101 = .ok (.getfield 34, 3) := by decide +kernel
theorem dX7_scanToken_104 : decode cX7_scanToken 104 = .ok (.aload_n 0, 1) := by decide +kernel
theorem dX7_scanToken_105 : decode cX7_scanToken 105 = .ok (.getfield 50, 3) := by decide +kernel
theorem dX7_scanToken_108 : decode cX7_scanToken 108 = .ok (.iastore, 1) := by decide +kernel
theorem dX7_scanToken_109 : decode cX7_scanToken 109 = .ok (.aload_n 0, 1) := by decide +kernel
theorem dX7_scanToken_110 : decode cX7_scanToken 110 = .ok (.getfield 27, 3) := by decide +kernel
theorem dX7_scanToken_113 : decode cX7_scanToken 113 = .ok (.aload_n 0, 1) := by decide +kernel
theorem dX7_scanToken_114 : decode cX7_scanToken 114 = .ok (.getfield 34, 3) := by decide +kernel
theorem dX7_scanToken_117 : decode cX7_scanToken 117 = .ok (.iload_n 3, 1) := by decide +kernel
theorem dX7_scanToken_118 : decode cX7_scanToken 118 = .ok (.ifCond .eq 8, 3) := by decide +kernel
theorem dX7_scanToken_126 : decode cX7_scanToken 126 = .ok (.aload_n 2, 1) := by decide +kernel
theorem dX7_scanToken_127 : decode cX7_scanToken 127 = .ok (.aload_n 0, 1) := by decide +kernel
theorem dX7_scanToken_128 : decode cX7_scanToken 128 = .ok (.aload_n 1, 1) := by decide +kernel
theorem dX7_scanToken_129 : decode cX7_scanToken 129 = .ok (.iload 4, 2) := by decide +kernel
theorem dX7_scanToken_131 : decode cX7_scanToken 131 = .ok (.invokevirtual 95, 3) := by decide +kernel
theorem dX7_scanToken_134 : decode cX7_scanToken 134 = .ok (.invokevirtual 99, 3) := by decide +kernel
theorem dX7_scanToken_137 : decode cX7_scanToken 137 = .ok (.goto 4, 3) := by decide +kernel
theorem dX7_scanToken_141 : decode cX7_scanToken 141 = .ok (.iastore, 1) := by decide +kernel
theorem dX7_scanToken_142 : decode cX7_scanToken 142 = .ok (.aload_n 0, 1) := by decide +kernel
theorem dX7_scanToken_143 : decode cX7_scanToken 143 = .ok (.getfield 30, 3) := by decide +kernel
theorem dX7_scanToken_146 : decode cX7_scanToken 146 = .ok (.aload_n 0, 1) := by decide +kernel
theorem dX7_scanToken_147 : decode cX7_scanToken 147 = .ok (.getfield 34, 3) := by decide +kernel
theorem dX7_scanToken_150 : decode cX7_scanToken 150 = .ok (.aload_n 0, 1) := by decide +kernel
theorem dX7_scanToken_151 : decode cX7_scanToken 151 = .ok (.getfield 53, 3) := by decide +kernel
theorem dX7_scanToken_154 : decode cX7_scanToken 154 = .ok (.bastore, 1) := by decide +kernel
theorem dX7_scanToken_155 : decode cX7_scanToken 155 = .ok (.aload_n 0, 1) := by decide +kernel
theorem dX7_scanToken_156 : decode cX7_scanToken 156 = .ok (.dup, 1) := by decide +kernel
theorem dX7_scanToken_157 : decode cX7_scanToken 157 = .ok (.getfield 34, 3) := by decide +kernel
theorem dX7_scanToken_160 : decode cX7_scanToken 160 = .ok (.iconst 1, 1) := by decide +kernel
theorem dX7_scanToken_161 : decode cX7_scanToken 161 = .ok (.iadd, 1) := by decide +kernel
theorem dX7_scanToken_162 : decode cX7_scanToken 162 = .ok (.putfield 34, 3) := by decide +kernel
theorem dX7_scanToken_165 : decode cX7_scanToken 165 = .ok (.aload_n 0, 1) := by decide +kernel
theorem dX7_scanToken_166 : decode cX7_scanToken 166 = .ok (.iconst 0, 1) := by decide +kernel
theorem dX7_scanToken_167 : decode cX7_scanToken 167 = .ok (.putfield 53, 3) := by decide +kernel
theorem dX7_scanToken_170 : decode cX7_scanToken 170 = .ok (.aload_n 0, 1) := by decide +kernel
theorem dX7_scanToken_171 : decode cX7_scanToken 171 = .ok (.aload_n 1, 1) := by decide +kernel
theorem dX7_scanToken_172 : decode cX7_scanToken 172 = .ok (.iload 4, 2) := by decide +kernel
theorem dX7_scanToken_174 : decode cX7_scanToken 174 = .ok (.aload_n 2, 1) := by decide +kernel
theorem dX7_scanToken_175 : decode cX7_scanToken 175 = .ok (.getfield 66, 3) := by decide +kernel
theorem dX7_scanToken_178 : decode cX7_scanToken 178 = .ok (.invokevirtual 77, 3) := by decide +kernel
theorem dX7_scanToken_181 : decode cX7_scanToken 181 = .ok (.return_, 1) := by decide +kernel
theorem dX7_scanToken_121 : decode cX7_scanToken 121 = .ok (.iload_n 3, 1) := by decide +kernel
theorem dX7_scanToken_122 : decode cX7_scanToken 122 = .ok (.iconst 2, 1) := by decide +kernel
theorem dX7_scanToken_123 : decode cX7_scanToken 123 = .ok (.if_icmp .ne 17, 3) := by decide +kernel
theorem dX7_scanToken_140 : decode cX7_scanToken 140 = .ok (.iconst 0, 1) := by decide +kernel
theorem dX7_scanNext_0 : decode cX7_scanNext 0 = .ok (.aload_n 1, 1) := by decide +kernel
theorem dX7_scanNext_1 : decode cX7_scanNext 1 = .ok (.aload_n 0, 1) := by decide +kernel
theorem dX7_scanNext_2 : decode cX7_scanNext 2 = .ok (.getfield 44, 3) := by decide +kernel
theorem dX7_scanNext_5 : decode cX7_scanNext 5 = .ok (.invokevirtual 75, 3) := by decide +kernel
theorem dX7_scanNext_8 : decode cX7_scanNext 8 = .ok (.istore_n 3, 1) := by decide +kernel
theorem dX7_scanNext_9 : decode cX7_scanNext 9 = .ok (.iload_n 3, 1) := by decide +kernel
theorem dX7_scanNext_10 : decode cX7_scanNext 10 = .ok (.bipush 32, 2) := by decide +kernel
theorem dX7_scanNext_12 : decode cX7_scanNext 12 = .ok (.if_icmp .eq 15, 3) := by decide +kernel
theorem dX7_scanNext_27 : decode cX7_scanNext 27 = .ok (.aload_n 0, 1) := by decide +kernel
theorem dX7_scanNext_28 : decode cX7_scanNext 28 = .ok (.aload_n 0, 1) := by decide +kernel
theorem dX7_scanNext_29 : decode cX7_scanNext 29 = .ok (.getfield 53, 3) := by decide +kernel
theorem dX7_scanNext_32 : decode cX7_scanNext 32 = .ok (.ifCond .ne 9, 3) := by decide +kernel
theorem dX7_scanNext_41 : decode cX7_scanNext 41 = .ok (.iconst 1, 1) := by decide +kernel
theorem dX7_scanNext_42 : decode cX7_scanNext 42 = .ok (.goto 4, 3) := by decide +kernel
theorem dX7_scanNext_46 : decode cX7_scanNext 46 = .ok (.putfield 53, 3) := by decide +kernel
theorem dX7_scanNext_49 : decode cX7_scanNext 49 = .ok (.aload_n 0, 1) := by decide +kernel
theorem dX7_scanNext_50 : decode cX7_scanNext 50 = .ok (.aload_n 1, 1) := by decide +kernel
theorem dX7_scanNext_51 : decode cX7_scanNext 51 = .ok (.iconst 1, 1) := by decide +kernel
theorem dX7_scanNext_52 : decode cX7_scanNext 52 = .ok (.aload_n 2, 1) := by decide +kernel
theorem dX7_scanNext_53 : decode cX7_scanNext 53 = .ok (.getfield 66, 3) := by decide +kernel
theorem dX7_scanNext_56 : decode cX7_scanNext 56 = .ok (.invokevirtual 77, 3) := by decide +kernel
theorem dX7_scanNext_59 : decode cX7_scanNext 59 = .ok (.goto 32, 3) := by decide +kernel
theorem dX7_scanNext_91 : decode cX7_scanNext 91 = .ok (.return_, 1) := by decide +kernel
theorem dX7_scanNext_35 : decode cX7_scanNext 35 = .ok (.iload_n 3, 1) := by decide +kernel
theorem dX7_scanNext_36 : decode cX7_scanNext 36 = .ok (.bipush 10, 2) := by decide +kernel
theorem dX7_scanNext_38 : decode cX7_scanNext 38 = .ok (.if_icmp .ne 7, 3) := by decide +kernel
theorem dX7_scanNext_45 : decode cX7_scanNext 45 = .ok (.iconst 0, 1) := by decide +kernel
theorem dX7_scanNext_15 : decode cX7_scanNext 15 = .ok (.iload_n 3, 1) := by decide +kernel
theorem dX7_scanNext_16 : decode cX7_scanNext 16 = .ok (.bipush 9, 2) := by decide +kernel
theorem dX7_scanNext_18 : decode cX7_scanNext 18 = .ok (.if_icmp .eq 9, 3) := by decide +kernel
theorem dX7_scanNext_21 : decode cX7_scanNext 21 = .ok (.iload_n 3, 1) := by decide +kernel
theorem dX7_scanNext_22 : decode cX7_scanNext 22 = .ok (.bipush 10, 2) := by decide +kernel
theorem dX7_scanNext_24 : decode cX7_scanNext 24 = .ok (.if_icmp .ne 38, 3) := by decide +kernel
theorem dX7_scanNext_62 : decode cX7_scanNext 62 = .ok (.iload_n 3, 1) := by decide +kernel
theorem dX7_scanNext_63 : decode cX7_scanNext 63 = .ok (.bipush 35, 2) := by decide +kernel
theorem dX7_scanNext_65 : decode cX7_scanNext 65 = .ok (.if_icmp .ne 20, 3) := by decide +kernel
theorem dX7_scanNext_85 : decode cX7_scanNext 85 = .ok (.aload_n 0, 1) := by decide +kernel
theorem dX7_scanNext_86 : decode cX7_scanNext 86 = .ok (.aload_n 1, 1) := by decide +kernel
theorem dX7_scanNext_87 : decode cX7_scanNext 87 = .ok (.aload_n 2, 1) := by decide +kernel
theorem dX7_scanNext_88 : decode cX7_scanNext 88 = .ok (.invokevirtual 85, 3) := by decide +kernel
theorem dX7_scanNext_68 : decode cX7_scanNext 68 = .ok (.aload_n 0, 1) := by decide +kernel
theorem dX7_scanNext_69 : decode cX7_scanNext 69 = .ok (.aload_n 1, 1) := by decide +kernel
theorem dX7_scanNext_70 : decode cX7_scanNext 70 = .ok (.aload_n 0, 1) := by decide +kernel
theorem dX7_scanNext_71 : decode cX7_scanNext 71 = .ok (.aload_n 1, 1) := by decide +kernel
theorem dX7_scanNext_72 : decode cX7_scanNext 72 = .ok (.invokevirtual 81, 3) := by decide +kernel
theorem dX7_scanNext_75 : decode cX7_scanNext 75 = .ok (.aload_n 2, 1) := by decide +kernel
theorem dX7_scanNext_76 : decode cX7_scanNext 76 = .ok (.getfield 66, 3) := by decide +kernel
theorem dX7_scanNext_79 : decode cX7_scanNext 79 = .ok (.invokevirtual 77, 3) := by decide +kernel
theorem dX7_scanNext_82 : decode cX7_scanNext 82 = .ok (.goto 9, 3) := by decide +kernel
theorem dX7_scan_0 : decode cX7_scan 0 = .ok (.aload_n 0, 1) := by decide +kernel
theorem dX7_scan_1 : decode cX7_scan 1 = .ok (.iconst 0, 1) := by decide +kernel
theorem dX7_scan_2 : decode cX7_scan 2 = .ok (.putfield 34, 3) := by decide +kernel
theorem dX7_scan_5 : decode cX7_scan 5 = .ok (.aload_n 0, 1) := by decide +kernel
theorem dX7_scan_6 : decode cX7_scan 6 = .ok (.iconst 0, 1) := by decide +kernel
theorem dX7_scan_7 : decode cX7_scan 7 = .ok (.putfield 38, 3) := by decide +kernel
theorem dX7_scan_10 : decode cX7_scan 10 = .ok (.aload_n 0, 1) := by decide +kernel
theorem dX7_scan_11 : decode cX7_scan 11 = .ok (.bipush (-9), 2) := by decide +kernel
theorem dX7_scan_13 : decode cX7_scan 13 = .ok (.putfield 41, 3) := by decide +kernel
theorem dX7_scan_16 : decode cX7_scan 16 = .ok (.aload_n 0, 1) := by decide +kernel
theorem dX7_scan_17 : decode cX7_scan 17 = .ok (.iconst 0, 1) := by decide +kernel
theorem dX7_scan_18 : decode cX7_scan 18 = .ok (.putfield 44, 3) := by decide +kernel
theorem dX7_scan_21 : decode cX7_scan 21 = .ok (.aload_n 0, 1) := by decide +kernel
theorem dX7_scan_22 : decode cX7_scan 22 = .ok (.iconst 0, 1) := by decide +kernel
theorem dX7_scan_23 : decode cX7_scan 23 = .ok (.putfield 47, 3) := by decide +kernel
theorem dX7_scan_26 : decode cX7_scan 26 = .ok (.aload_n 0, 1) := by decide +kernel
theorem dX7_scan_27 : decode cX7_scan 27 = .ok (.iconst 0, 1) := by decide +kernel
theorem dX7_scan_28 : decode cX7_scan 28 = .ok (.putfield 50, 3) := by decide +kernel
theorem dX7_scan_31 : decode cX7_scan 31 = .ok (.aload_n 0, 1) := by decide +kernel
theorem dX7_scan_32 : decode cX7_scan 32 = .ok (.iconst 1, 1) := by decide +kernel
theorem dX7_scan_33 : decode cX7_scan 33 = .ok (.putfield 53, 3) := by decide +kernel
theorem dX7_scan_36 : decode cX7_scan 36 = .ok (.iconst 0, 1) := by decide +kernel
theorem dX7_scan_37 : decode cX7_scan 37 = .ok (.istore_n 3, 1) := by decide +kernel
theorem dX7_scan_38 : decode cX7_scan 38 = .ok (.iload_n 3, 1) := by decide +kernel
theorem dX7_scan_39 : decode cX7_scan 39 = .ok (.sipush 600, 3) := by decide +kernel
theorem dX7_scan_42 : decode cX7_scan 42 = .ok (.if_icmp .ge 33, 3) := by decide +kernel
theorem dX7_scan_75 : decode cX7_scan 75 = .ok (.aload_n 2, 1) := by decide +kernel
theorem dX7_scan_76 : decode cX7_scan 76 = .ok (.getfield 66, 3) := by decide +kernel
theorem dX7_scan_79 : decode cX7_scan 79 = .ok (.ifCond .ne 12, 3) := by decide +kernel
theorem dX7_scan_91 : decode cX7_scan 91 = .ok (.bipush (-9), 2) := by decide +kernel
theorem dX7_scan_93 : decode cX7_scan 93 = .ok (.istore_n 3, 1) := by decide +kernel
theorem dX7_scan_94 : decode cX7_scan 94 = .ok (.iload_n 3, 1) := by decide +kernel
theorem dX7_scan_95 : decode cX7_scan 95 = .ok (.bipush (-9), 2) := by decide +kernel
theorem dX7_scan_97 : decode cX7_scan 97 = .ok (.if_icmp .eq 28, 3) := by decide +kernel
theorem dX7_scan_125 : decode cX7_scan 125 = .ok (.return_, 1) := by decide +kernel
theorem dX7_scan_82 : decode cX7_scan 82 = .ok (.aload_n 1, 1) := by decide +kernel
theorem dX7_scan_83 : decode cX7_scan 83 = .ok (.bipush 9, 2) := by decide +kernel
theorem dX7_scan_85 : decode cX7_scan 85 = .ok (.invokevirtual 71, 3) := by decide +kernel
theorem dX7_scan_88 : decode cX7_scan 88 = .ok (.goto 5, 3) := by decide +kernel
theorem dX7_scan_100 : decode cX7_scan 100 = .ok (.aload_n 0, 1) := by decide +kernel
theorem dX7_scan_101 : decode cX7_scan 101 = .ok (.getfield 38, 3) := by decide +kernel
theorem dX7_scan_104 : decode cX7_scan 104 = .ok (.ifCond .eq 11, 3) := by decide +kernel
theorem dX7_scan_115 : decode cX7_scan 115 = .ok (.aload_n 0, 1) := by decide +kernel
theorem dX7_scan_116 : decode cX7_scan 116 = .ok (.iconst 2, 1) := by decide +kernel
theorem dX7_scan_117 : decode cX7_scan 117 = .ok (.putfield 38, 3) := by decide +kernel
theorem dX7_scan_120 : decode cX7_scan 120 = .ok (.aload_n 0, 1) := by decide +kernel
theorem dX7_scan_121 : decode cX7_scan 121 = .ok (.iload_n 3, 1) := by decide +kernel
theorem dX7_scan_122 : decode cX7_scan 122 = .ok (.putfield 41, 3) := by decide +kernel
theorem dX7_scan_107 : decode cX7_scan 107 = .ok (.iload_n 3, 1) := by decide +kernel
theorem dX7_scan_108 : decode cX7_scan 108 = .ok (.aload_n 0, 1) := by decide +kernel
theorem dX7_scan_109 : decode cX7_scan 109 = .ok (.getfield 41, 3) := by decide +kernel
theorem dX7_scan_112 : decode cX7_scan 112 = .ok (.if_icmp .ge 13, 3) := by decide +kernel
theorem dX7_scan_45 : decode cX7_scan 45 = .ok (.aload_n 0, 1) := by decide +kernel
theorem dX7_scan_46 : decode cX7_scan 46 = .ok (.getfield 44, 3) := by decide +kernel
theorem dX7_scan_49 : decode cX7_scan 49 = .ok (.aload_n 1, 1) := by decide +kernel
theorem dX7_scan_50 : decode cX7_scan 50 = .ok (.getfield 57, 3) := by decide +kernel
theorem dX7_scan_53 : decode cX7_scan 53 = .ok (.if_icmp .ge 22, 3) := by decide +kernel
theorem dX7_scan_56 : decode cX7_scan 56 = .ok (.aload_n 0, 1) := by decide +kernel
theorem dX7_scan_57 : decode cX7_scan 57 = .ok (.getfield 38, 3) := by decide +kernel
theorem dX7_scan_60 : decode cX7_scan 60 = .ok (.ifCond .ne 15, 3) := by decide +kernel
theorem dX7_scan_63 : decode cX7_scan 63 = .ok (.aload_n 0, 1) := by decide +kernel
theorem dX7_scan_64 : decode cX7_scan 64 = .ok (.aload_n 1, 1) := by decide +kernel
theorem dX7_scan_65 : decode cX7_scan 65 = .ok (.aload_n 2, 1) := by decide +kernel
theorem dX7_scan_66 : decode cX7_scan 66 = .ok (.invokevirtual 62, 3) := by decide +kernel
theorem dX7_scan_69 : decode cX7_scan 69 = .ok (.iinc 3 1, 3) := by decide +kernel
theorem dX7_scan_72 : decode cX7_scan 72 = .ok (.goto (-34), 3) := by decide +kernel
theorem dX7_anyOn_0 : decode cX7_anyOn 0 = .ok (.iconst 0, 1) := by decide +kernel
theorem dX7_anyOn_1 : decode cX7_anyOn 1 = .ok (.istore_n 2, 1) := by decide +kernel
theorem dX7_anyOn_2 : decode cX7_anyOn 2 = .ok (.iload_n 2, 1) := by decide +kernel
theorem dX7_anyOn_3 : decode cX7_anyOn 3 = .ok (.aload_n 0, 1) := by decide +kernel
theorem dX7_anyOn_4 : decode cX7_anyOn 4 = .ok (.getfield 34, 3) := by decide +kernel
theorem dX7_anyOn_7 : decode cX7_anyOn 7 = .ok (.if_icmp .ge 21, 3) := by decide +kernel
theorem dX7_anyOn_28 : decode cX7_anyOn 28 = .ok (.iconst 0, 1) := by decide +kernel
theorem dX7_anyOn_29 : decode cX7_anyOn 29 = .ok (.ireturn, 1) := by decide +kernel
theorem dX7_anyOn_10 : decode cX7_anyOn 10 = .ok (.aload_n 0, 1) := by decide +kernel
theorem dX7_anyOn_11 : decode cX7_anyOn 11 = .ok (.getfield 21, 3) := by decide +kernel
theorem dX7_anyOn_14 : decode cX7_anyOn 14 = .ok (.iload_n 2, 1) := by decide +kernel
theorem dX7_anyOn_15 : decode cX7_anyOn 15 = .ok (.iaload, 1) := by decide +kernel
theorem dX7_anyOn_16 : decode cX7_anyOn 16 = .ok (.iload_n 1, 1) := by decide +kernel
theorem dX7_anyOn_17 : decode cX7_anyOn 17 = .ok (.if_icmp .ne 5, 3) := by decide +kernel
theorem dX7_anyOn_22 : decode cX7_anyOn 22 = .ok (.iinc 2 1, 3) := by decide +kernel
theorem dX7_anyOn_25 : decode cX7_anyOn 25 = .ok (.goto (-23), 3) := by decide +kernel
theorem dX7_anyOn_20 : decode cX7_anyOn 20 = .ok (.iconst 1, 1) := by decide +kernel
theorem dX7_anyOn_21 : decode cX7_anyOn 21 = .ok (.ireturn, 1) := by decide +kernel
theorem dX7_slideColumns_0 : decode cX7_slideColumns 0 = .ok (.aload_n 1, 1) := by decide +kernel
theorem dX7_slideColumns_1 : decode cX7_slideColumns 1 = .ok (.iload_n 2, 1) := by decide +kernel
theorem dX7_slideColumns_2 : decode cX7_slideColumns 2 = .ok (.invokevirtual 125, 3) := by decide +kernel
theorem dX7_slideColumns_5 : decode cX7_slideColumns 5 = .ok (.iconst 0, 1) := by decide +kernel
theorem dX7_slideColumns_6 : decode cX7_slideColumns 6 = .ok (.iload_n 3, 1) := by decide +kernel
theorem dX7_slideColumns_7 : decode cX7_slideColumns 7 = .ok (.ineg, 1) := by decide +kernel
theorem dX7_slideColumns_8 : decode cX7_slideColumns 8 = .ok (.invokestatic 128, 3) := by decide +kernel
theorem dX7_slideColumns_11 : decode cX7_slideColumns 11 = .ok (.iadd, 1) := by decide +kernel
theorem dX7_slideColumns_12 : decode cX7_slideColumns 12 = .ok (.istore 5, 2) := by decide +kernel
theorem dX7_slideColumns_14 : decode cX7_slideColumns 14 = .ok (.iconst 0, 1) := by decide +kernel
theorem dX7_slideColumns_15 : decode cX7_slideColumns 15 = .ok (.iload_n 3, 1) := by decide +kernel
theorem dX7_slideColumns_16 : decode cX7_slideColumns 16 = .ok (.invokestatic 128, 3) := by decide +kernel
theorem dX7_slideColumns_19 : decode cX7_slideColumns 19 = .ok (.istore 6, 2) := by decide +kernel
theorem dX7_slideColumns_21 : decode cX7_slideColumns 21 = .ok (.iconst 0, 1) := by decide +kernel
theorem dX7_slideColumns_22 : decode cX7_slideColumns 22 = .ok (.istore 7, 2) := by decide +kernel
theorem dX7_slideColumns_24 : decode cX7_slideColumns 24 = .ok (.iload 7, 2) := by decide +kernel
theorem dX7_slideColumns_26 : decode cX7_slideColumns 26 = .ok (.aload_n 0, 1) := by decide +kernel
theorem dX7_slideColumns_27 : decode cX7_slideColumns 27 = .ok (.getfield 34, 3) := by decide +kernel
theorem dX7_slideColumns_30 : decode cX7_slideColumns 30 = .ok (.if_icmp .ge 57, 3) := by decide +kernel
theorem dX7_slideColumns_87 : decode cX7_slideColumns 87 = .ok (.return_, 1) := by decide +kernel
theorem dX7_slideColumns_33 : decode cX7_slideColumns 33 = .ok (.aload_n 0, 1) := by decide +kernel
theorem dX7_slideColumns_34 : decode cX7_slideColumns 34 = .ok (.getfield 21, 3) := by decide +kernel
theorem dX7_slideColumns_37 : decode cX7_slideColumns 37 = .ok (.iload 7, 2) := by decide +kernel
theorem dX7_slideColumns_39 : decode cX7_slideColumns 39 = .ok (.iaload, 1) := by decide +kernel
theorem dX7_slideColumns_40 : decode cX7_slideColumns 40 = .ok (.iload_n 2, 1) := by decide +kernel
theorem dX7_slideColumns_41 : decode cX7_slideColumns 41 = .ok (.if_icmp .ne 40, 3) := by decide +kernel
theorem dX7_slideColumns_81 : decode cX7_slideColumns 81 = .ok (.iinc 7 1, 3) := by decide +kernel
theorem dX7_slideColumns_84 : decode cX7_slideColumns 84 = .ok (.goto (-60), 3) := by decide +kernel
theorem dX7_slideColumns_44 : decode cX7_slideColumns 44 = .ok (.aload_n 1, 1) := by decide +kernel
theorem dX7_slideColumns_45 : decode cX7_slideColumns 45 = .ok (.iload 5, 2) := by decide +kernel
theorem dX7_slideColumns_47 : decode cX7_slideColumns 47 = .ok (.iload 6, 2) := by decide +kernel
theorem dX7_slideColumns_49 : decode cX7_slideColumns 49 = .ok (.aload_n 0, 1) := by decide +kernel
theorem dX7_slideColumns_50 : decode cX7_slideColumns 50 = .ok (.getfield 15, 3) := by decide +kernel
theorem dX7_slideColumns_53 : decode cX7_slideColumns 53 = .ok (.iload 7, 2) := by decide +kernel
theorem dX7_slideColumns_55 : decode cX7_slideColumns 55 = .ok (.iaload, 1) := by decide +kernel
theorem dX7_slideColumns_56 : decode cX7_slideColumns 56 = .ok (.iload 4, 2) := by decide +kernel
theorem dX7_slideColumns_58 : decode cX7_slideColumns 58 = .ok (.invokevirtual 134, 3) := by decide +kernel
theorem dX7_slideColumns_61 : decode cX7_slideColumns 61 = .ok (.istore 6, 2) := by decide +kernel
theorem dX7_slideColumns_63 : decode cX7_slideColumns 63 = .ok (.aload_n 0, 1) := by decide +kernel
theorem dX7_slideColumns_64 : decode cX7_slideColumns 64 = .ok (.getfield 15, 3) := by decide +kernel
theorem dX7_slideColumns_67 : decode cX7_slideColumns 67 = .ok (.iload 7, 2) := by decide +kernel
theorem dX7_slideColumns_69 : decode cX7_slideColumns 69 = .ok (.iaload, 1) := by decide +kernel
theorem dX7_slideColumns_70 : decode cX7_slideColumns 70 = .ok (.istore 5, 2) := by decide +kernel
theorem dX7_slideColumns_72 : decode cX7_slideColumns 72 = .ok (.aload_n 0, 1) := by decide +kernel
theorem dX7_slideColumns_73 : decode cX7_slideColumns 73 = .ok (.getfield 24, 3) := by decide +kernel
theorem dX7_slideColumns_76 : decode cX7_slideColumns 76 = .ok (.iload 7, 2) := by decide +kernel
theorem dX7_slideColumns_78 : decode cX7_slideColumns 78 = .ok (.iload 6, 2) := by decide +kernel
theorem dX7_slideColumns_80 : decode cX7_slideColumns 80 = .ok (.iastore, 1) := by decide +kernel
set_option maxHeartbeats 4000000 in
set_option maxRecDepth 100000 in
theorem gw_X1_roleOf (l : Launch) (D : va_G) (tA : Nat → ClassId) (b : Nat) (i F : Nat → Nat → Int32) (G : Nat → Nat → Int64) (w : Int64) (htd : 0 ≤ (i 1 2).toInt ∧ (i 1 2).toInt ≤ 24) : xMI l yX1_roleOf cX1_roleOf 4 (some .int) 0 0 D tA b 0 78 i F G [.ref (b + 1), .long w] (fun r u => u = (i, F, G) ∧ True) := by
  refine xstart RX1 rfl (by decide) (Nat.le_of_ble_eq_true rfl) ?_
  intro p e s m below meth c ls C0 hr hH hS hl
  have hl : lv_has ls 4 [(0, .ref (b + 1)), (1, .long w)] := hl
  have LOOP : ∀ (d : Nat) (k : Int32) (H : Heap) (locs : List Loc) (ls : Array Slot), (0 ≤ k.toInt) → ((i 1 2).toInt - k.toInt ≤ d) → Hd D tA b 0 78 zz i F G H → va_S (xA b 0 78) s.heap H locs → lv_has ls 4 [(3, .int k), (0, .ref (b + 1)), (1, .long w)] → W p l e (xR 0 0) s m ([.ref (b + 1), .long w] : List Value).toArray below meth c H locs 0 0 (MQ below (va_Qi (fun r u => u = (i, F, G) ∧ True) (xB D tA b 0 78 zz) (xA b 0 78)) ([.ref (b + 1), .long w] : List Value).toArray s 0 0 (xA b 0 78)) (F0 m 2 ls []) := by
    intro d
    induction d with
    | zero =>
      intro k H locs ls h1 h2 hH hS hl
      have rg_k := fb_rng k
      refine lv_iload_n (pc := 2) C0.1 C0.2.1 dX1_roleOf_2 rfl (lv_at hl 0 rfl) ?_
      refine lv_aload_n (pc := 3) C0.1 C0.2.1 dX1_roleOf_3 rfl (lv_at hl 1 rfl) ?_
      refine xget (pc := 4) C0 hH 1 2 clX1 ⟨Nat.le_of_ble_eq_true rfl, Nat.le_of_ble_eq_true rfl⟩ ⟨rfl, rfl⟩ (Nat.le_of_ble_eq_true rfl) fl_X1_19 (v := .int (i 1 2)) rfl dX1_roleOf_4 ?_
      refine lv_icmp_ge (pc := 7) (tgt := 34) C0.1 C0.2.1 dX1_roleOf_7 (by decide) (fun _ => ?_) (fun c => absurd (Int32.le_iff_toInt_le.mpr (by omega)) c)
      refine lv_iconst (pc := 34) (v := 0) C0.1 C0.2.1 dX1_roleOf_34 (by decide) ?_
      exact xiret (pc := 35) C0 hr hH hS dX1_roleOf_35 ⟨rfl, trivial⟩
    | succ d ih =>
      intro k H locs ls h1 h2 hH hS hl
      have rg_k := fb_rng k
      refine lv_iload_n (pc := 2) C0.1 C0.2.1 dX1_roleOf_2 rfl (lv_at hl 0 rfl) ?_
      refine lv_aload_n (pc := 3) C0.1 C0.2.1 dX1_roleOf_3 rfl (lv_at hl 1 rfl) ?_
      refine xget (pc := 4) C0 hH 1 2 clX1 ⟨Nat.le_of_ble_eq_true rfl, Nat.le_of_ble_eq_true rfl⟩ ⟨rfl, rfl⟩ (Nat.le_of_ble_eq_true rfl) fl_X1_19 (v := .int (i 1 2)) rfl dX1_roleOf_4 ?_
      refine lv_icmp_ge (pc := 7) (tgt := 34) C0.1 C0.2.1 dX1_roleOf_7 (by decide) (fun c101 => ?_) (fun c101 => ?_)
      · have c101 := Int32.le_iff_toInt_le.mp c101
        refine lv_iconst (pc := 34) (v := 0) C0.1 C0.2.1 dX1_roleOf_34 (by decide) ?_
        exact xiret (pc := 35) C0 hr hH hS dX1_roleOf_35 ⟨rfl, trivial⟩
      · have c101 : ¬ _ := fun q => c101 (Int32.le_iff_toInt_le.mpr q)
        refine lv_aload_n (pc := 10) C0.1 C0.2.1 dX1_roleOf_10 rfl (lv_at hl 1 rfl) ?_
        refine xget (pc := 11) C0 hH 1 0 clX1 ⟨Nat.le_of_ble_eq_true rfl, Nat.le_of_ble_eq_true rfl⟩ ⟨rfl, rfl⟩ (Nat.le_of_ble_eq_true rfl) fl_X1_9 (v := .ref (b + 2)) rfl dX1_roleOf_11 ?_
        refine lv_iload_n (pc := 14) C0.1 C0.2.1 dX1_roleOf_14 rfl (lv_at hl 0 rfl) ?_
        refine xlald (pc := 15) (N := 24) C0 hH 2 ⟨Nat.le_of_ble_eq_true rfl, Nat.le_of_ble_eq_true rfl⟩ ⟨rfl, rfl⟩ (vI (by omega) (by omega)) dX1_roleOf_15 ?_
        refine lv_lload_n (pc := 16) C0.1 C0.2.1 dX1_roleOf_16 rfl (lv_at hl 2 rfl) ?_
        refine W.lcmp (pc := 17) C0.1 C0.2.1 dX1_roleOf_17 ?_
        refine lv_if_ne (pc := 18) (tgt := 28) C0.1 C0.2.1 dX1_roleOf_18 (by decide) (fun c9 => ?_) (fun c9 => ?_)
        · obtain ⟨x102, ex102⟩ : ∃ y_ : Int32, y_ = k + 1 := ⟨_, rfl⟩
          have : Int32.toInt 1 = 1 := rfl
          have hx102 : Int32.toInt x102 = Int32.toInt k + Int32.toInt 1 := by rw [ex102]; exact fb_addI (by omega) (by omega)
          refine lv_iinc (pc := 28) (v := x102) (lv' := [(3, .int x102), (0, .ref (b + 1)), (1, .long w)]) C0.1 C0.2.1 dX1_roleOf_28 hl (k := 0) rfl (by rw [ex102]; rfl) (by decide) rfl (fun ls hl => ?_)
          refine lv_goto (pc := 31) (tgt := 2) C0.1 C0.2.1 dX1_roleOf_31 (by decide) ?_
          exact ih x102 _ _ _ (by omega) (by omega) hH hS (lv_sub hl [0, 1, 2] rfl)
        · refine lv_aload_n (pc := 21) C0.1 C0.2.1 dX1_roleOf_21 rfl (lv_at hl 1 rfl) ?_
          refine xget (pc := 22) C0 hH 1 1 clX1 ⟨Nat.le_of_ble_eq_true rfl, Nat.le_of_ble_eq_true rfl⟩ ⟨rfl, rfl⟩ (Nat.le_of_ble_eq_true rfl) fl_X1_15 (v := .ref (b + 3)) rfl dX1_roleOf_22 ?_
          refine lv_iload_n (pc := 25) C0.1 C0.2.1 dX1_roleOf_25 rfl (lv_at hl 0 rfl) ?_
          refine xiald (pc := 26) (N := 24) C0 hH 3 ⟨Nat.le_of_ble_eq_true rfl, Nat.le_of_ble_eq_true rfl⟩ ⟨rfl, rfl⟩ (vI (by omega) (by omega)) dX1_roleOf_26 ?_
          exact xiret (pc := 27) C0 hr hH hS dX1_roleOf_27 ⟨rfl, trivial⟩
  refine lv_iconst (pc := 0) (v := 0) C0.1 C0.2.1 dX1_roleOf_0 (by decide) ?_
  refine lv_istore_n (pc := 1) (lv' := [(3, .int 0), (0, .ref (b + 1)), (1, .long w)]) C0.1 C0.2.1 dX1_roleOf_1 rfl hl (by decide) rfl (fun ls hl => ?_)
  exact LOOP 24 0 _ _ _ (by have : Int32.toInt 0 = 0 := rfl; omega) (by have : Int32.toInt 0 = 0 := rfl; omega) hH hS (lv_sub hl [0, 1, 2] rfl)
set_option maxHeartbeats 4000000 in
set_option maxRecDepth 100000 in
theorem g_X7_sortOf (l : Launch) (D : va_G) (tA : Nat → ClassId) (b : Nat) (i F : Nat → Nat → Int32) (G : Nat → Nat → Int64) (x : Int32)  : xMI l yX7_sortOf cX7_sortOf 1 (some .int) 5 112 D tA b 0 78 i F G [.int x] (fun r u => u = (i, F, G) ∧ True) := by
  refine xstart RX7 rfl (by decide) (Nat.le_of_ble_eq_true rfl) ?_
  intro p e s m below meth c ls C0 hr hH hS hl
  have hl : lv_has ls 1 [(0, .int x)] := hl
  have rg_x := fb_rng x
  refine lv_iload_n (pc := 0) C0.1 C0.2.1 dX7_sortOf_0 rfl (lv_at hl 0 rfl) ?_
  refine xcNI (pc := 1) [.int x] (c_X9_isLetter l D tA b 0 78 i F G x) C0 hH hS cw_X7_103 st_X9_isLetter rfl ⟨Nat.le_of_ble_eq_true rfl, Nat.le_of_ble_eq_true rfl⟩ hl.1 rfl (Nat.le_of_ble_eq_true rfl) dX7_sortOf_1 ⟨Nat.le_of_ble_eq_true rfl, Nat.le_of_ble_eq_true rfl⟩ (fun r1 ir1 Fr1 Gr1 _ locs hp hH hS => ?_)
  obtain ⟨hu, rfl⟩ := hp
  cases hu
  refine lv_if_eq (pc := 4) (tgt := 9) C0.1 C0.2.1 dX7_sortOf_4 (by decide) (fun c2 => ?_) (fun c2 => ?_)
  · have : Int32.toInt 0 = 0 := rfl
    have c2 := congrArg Int32.toInt c2
    refine lv_iload_n (pc := 9) C0.1 C0.2.1 dX7_sortOf_9 rfl (lv_at hl 0 rfl) ?_
    refine xcNI (pc := 10) [.int x] (g_X9_isDigit l D tA b i F G x ) C0 hH hS cw_X7_107 st_X9_isDigit rfl ⟨Nat.le_of_ble_eq_true rfl, Nat.le_of_ble_eq_true rfl⟩ hl.1 rfl (Nat.le_of_ble_eq_true rfl) dX7_sortOf_10 ⟨Nat.le_of_ble_eq_true rfl, Nat.le_of_ble_eq_true rfl⟩ (fun r3 ir3 Fr3 Gr3 _ locs hp hH hS => ?_)
    obtain ⟨hu, hpr3⟩ := hp
    cases hu
    refine lv_if_eq (pc := 13) (tgt := 18) C0.1 C0.2.1 dX7_sortOf_13 (by decide) (fun c4 => ?_) (fun c4 => ?_)
    · have : Int32.toInt 0 = 0 := rfl
      have c4 := congrArg Int32.toInt c4
      refine lv_iload_n (pc := 18) C0.1 C0.2.1 dX7_sortOf_18 rfl (lv_at hl 0 rfl) ?_
      refine lv_i2l (pc := 19) (v := x.toInt64) C0.1 C0.2.1 dX7_sortOf_19 rfl ?_
      refine xcNI (pc := 20) [.long x.toInt64] (c_X9_isMark l D tA b 0 78 i F G x.toInt64) C0 hH hS cw_X7_110 st_X9_isMark rfl ⟨Nat.le_of_ble_eq_true rfl, Nat.le_of_ble_eq_true rfl⟩ hl.1 rfl (Nat.le_of_ble_eq_true rfl) dX7_sortOf_20 ⟨Nat.le_of_ble_eq_true rfl, Nat.le_of_ble_eq_true rfl⟩ (fun r5 ir5 Fr5 Gr5 _ locs hp hH hS => ?_)
      obtain ⟨hu, rfl⟩ := hp
      cases hu
      refine lv_if_eq (pc := 23) (tgt := 28) C0.1 C0.2.1 dX7_sortOf_23 (by decide) (fun c6 => ?_) (fun c6 => ?_)
      · refine lv_iload_n (pc := 28) C0.1 C0.2.1 dX7_sortOf_28 rfl (lv_at hl 0 rfl) ?_
        refine lv_bipush (pc := 29) (v := 39) C0.1 C0.2.1 dX7_sortOf_29 (by decide) ?_
        refine lv_icmp_ne (pc := 31) (tgt := 38) C0.1 C0.2.1 dX7_sortOf_31 (by decide) (fun c7 => ?_) (fun c7 => ?_)
        · have : Int32.toInt 39 = 39 := rfl
          have c7 : ¬ _ := fun q => c7 (Int32.toInt_inj.mp q)
          refine lv_bipush (pc := 38) (v := (-9)) C0.1 C0.2.1 dX7_sortOf_38 (by decide) ?_
          exact xiret (pc := 40) C0 hr hH hS dX7_sortOf_40 ⟨rfl, trivial⟩
        · have : Int32.toInt 39 = 39 := rfl
          have c7 := congrArg Int32.toInt c7
          refine lv_iconst (pc := 34) (v := 3) C0.1 C0.2.1 dX7_sortOf_34 (by decide) ?_
          refine lv_goto (pc := 35) (tgt := 40) C0.1 C0.2.1 dX7_sortOf_35 (by decide) ?_
          exact xiret (pc := 40) C0 hr hH hS dX7_sortOf_40 ⟨rfl, trivial⟩
      · refine lv_iconst (pc := 26) (v := 2) C0.1 C0.2.1 dX7_sortOf_26 (by decide) ?_
        exact xiret (pc := 27) C0 hr hH hS dX7_sortOf_27 ⟨rfl, trivial⟩
    · have : Int32.toInt 0 = 0 := rfl
      have c4 : ¬ _ := fun q => c4 (Int32.toInt_inj.mp q)
      refine lv_iconst (pc := 16) (v := 1) C0.1 C0.2.1 dX7_sortOf_16 (by decide) ?_
      exact xiret (pc := 17) C0 hr hH hS dX7_sortOf_17 ⟨rfl, trivial⟩
  · have : Int32.toInt 0 = 0 := rfl
    have c2 : ¬ _ := fun q => c2 (Int32.toInt_inj.mp q)
    refine lv_iconst (pc := 7) (v := 0) C0.1 C0.2.1 dX7_sortOf_7 (by decide) ?_
    exact xiret (pc := 8) C0 hr hH hS dX7_sortOf_8 ⟨rfl, trivial⟩
set_option maxHeartbeats 4000000 in
set_option maxRecDepth 100000 in
theorem g_X7_rowLength_9 (l : Launch) (D : va_G) (tA : Nat → ClassId) (b : Nat) (i F : Nat → Nat → Int32) (G : Nat → Nat → Int64) (x y z : Int32) (hsz : 0 ≤ (i 4 1).toInt ∧ (i 4 1).toInt ≤ 600) (hz : z.toInt ≤ 9) : xMI l yX7_rowLength cX7_rowLength 7 (some .int) 1 21 D tA b 0 78 i F G [.ref (b + 9), .ref (b + 4), .int x, .int y, .int z] (fun r u => u = (i, F, G) ∧ True) := by
  refine xstart RX7 rfl (by decide) (Nat.le_of_ble_eq_true rfl) ?_
  intro p e s m below meth c ls C0 hr hH hS hl
  have hl : lv_has ls 7 [(0, .ref (b + 9)), (1, .ref (b + 4)), (2, .int x), (3, .int y), (4, .int z)] := hl
  have rg_x := fb_rng x
  have rg_y := fb_rng y
  have rg_z := fb_rng z
  have LOOP : ∀ (d : Nat) (k : Int32) (H : Heap) (locs : List Loc) (ls : Array Slot), (0 ≤ k.toInt) → (z.toInt + 1 - k.toInt ≤ d) → Hd D tA b 0 78 zz i F G H → va_S (xA b 0 78) s.heap H locs → lv_has ls 7 [(5, .int k), (0, .ref (b + 9)), (1, .ref (b + 4)), (2, .int x), (3, .int y), (4, .int z)] → W p l e (xR 1 21) s m ([.ref (b + 9), .ref (b + 4), .int x, .int y, .int z] : List Value).toArray below meth c H locs 0 0 (MQ below (va_Qi (fun r u => u = (i, F, G) ∧ True) (xB D tA b 0 78 zz) (xA b 0 78)) ([.ref (b + 9), .ref (b + 4), .int x, .int y, .int z] : List Value).toArray s 0 0 (xA b 0 78)) (F0 m 3 ls []) := by
    intro d
    induction d with
    | zero =>
      intro k H locs ls h1 h2 hH hS hl
      have rg_k := fb_rng k
      refine lv_iload (pc := 3) C0.1 C0.2.1 dX7_rowLength_3 (lv_at hl 0 rfl) ?_
      refine lv_iload (pc := 5) C0.1 C0.2.1 dX7_rowLength_5 (lv_at hl 5 rfl) ?_
      refine lv_icmp_gt (pc := 7) (tgt := 44) C0.1 C0.2.1 dX7_rowLength_7 (by decide) (fun _ => ?_) (fun c => absurd (Int32.lt_iff_toInt_lt.mpr (by omega)) c)
      refine lv_iconst (pc := 44) (v := 0) C0.1 C0.2.1 dX7_rowLength_44 (by decide) ?_
      exact xiret (pc := 45) C0 hr hH hS dX7_rowLength_45 ⟨rfl, trivial⟩
    | succ d ih =>
      intro k H locs ls h1 h2 hH hS hl
      have rg_k := fb_rng k
      refine lv_iload (pc := 3) C0.1 C0.2.1 dX7_rowLength_3 (lv_at hl 0 rfl) ?_
      refine lv_iload (pc := 5) C0.1 C0.2.1 dX7_rowLength_5 (lv_at hl 5 rfl) ?_
      refine lv_icmp_gt (pc := 7) (tgt := 44) C0.1 C0.2.1 dX7_rowLength_7 (by decide) (fun c101 => ?_) (fun c101 => ?_)
      · have c101 := Int32.lt_iff_toInt_lt.mp c101
        refine lv_iconst (pc := 44) (v := 0) C0.1 C0.2.1 dX7_rowLength_44 (by decide) ?_
        exact xiret (pc := 45) C0 hr hH hS dX7_rowLength_45 ⟨rfl, trivial⟩
      · have c101 : ¬ _ := fun q => c101 (Int32.lt_iff_toInt_lt.mpr q)
        refine lv_aload_n (pc := 10) C0.1 C0.2.1 dX7_rowLength_10 rfl (lv_at hl 2 rfl) ?_
        refine lv_aload_n (pc := 11) C0.1 C0.2.1 dX7_rowLength_11 rfl (lv_at hl 1 rfl) ?_
        refine xget (pc := 12) C0 hH 9 10 clX7 ⟨Nat.le_of_ble_eq_true rfl, Nat.le_of_ble_eq_true rfl⟩ ⟨rfl, rfl⟩ (Nat.le_of_ble_eq_true rfl) fl_X7_44 (v := .int (i 9 10)) rfl dX7_rowLength_12 ?_
        refine lv_iload (pc := 15) C0.1 C0.2.1 dX7_rowLength_15 (lv_at hl 0 rfl) ?_
        refine lv_iadd (pc := 17) C0.1 C0.2.1 dX7_rowLength_17 ?_
        refine xcVI (pc := 18) 4 [.int ((i 9 10) + k)] (g_X6_at_4 l D tA b i F G ((i 9 10) + k) (show 0 ≤ Int32.toInt (i 4 1) ∧ Int32.toInt (i 4 1) ≤ 600 from by omega)) C0 hH hS clX6 rfl ⟨⟨Nat.le_of_ble_eq_true rfl, Nat.le_of_ble_eq_true rfl⟩, rfl, rfl⟩ cw_X7_75 rfl ⟨Nat.le_of_ble_eq_true rfl, Nat.le_of_ble_eq_true rfl⟩ hl.1 rfl (Nat.le_of_ble_eq_true rfl) dX7_rowLength_18 ⟨Nat.le_of_ble_eq_true rfl, Nat.le_of_ble_eq_true rfl⟩ (fun r102 ir102 Fr102 Gr102 _ locs hp hH hS => ?_)
        obtain ⟨hu, hpr102⟩ := hp
        cases hu
        refine lv_istore (pc := 21) (lv' := [(6, .int r102), (5, .int k), (0, .ref (b + 9)), (1, .ref (b + 4)), (2, .int x), (3, .int y), (4, .int z)]) C0.1 C0.2.1 dX7_rowLength_21 hl (by decide) rfl (fun ls hl => ?_)
        refine lv_iload (pc := 23) C0.1 C0.2.1 dX7_rowLength_23 (lv_at hl 0 rfl) ?_
        refine lv_iload_n (pc := 25) C0.1 C0.2.1 dX7_rowLength_25 rfl (lv_at hl 4 rfl) ?_
        refine lv_icmp_lt (pc := 26) (tgt := 35) C0.1 C0.2.1 dX7_rowLength_26 (by decide) (fun c103 => ?_) (fun c103 => ?_)
        · have c103 := Int32.lt_iff_toInt_lt.mp c103
          refine lv_iload (pc := 35) C0.1 C0.2.1 dX7_rowLength_35 (lv_at hl 1 rfl) ?_
          exact xiret (pc := 37) C0 hr hH hS dX7_rowLength_37 ⟨rfl, trivial⟩
        · have c103 : ¬ _ := fun q => c103 (Int32.lt_iff_toInt_lt.mpr q)
          refine lv_iload (pc := 29) C0.1 C0.2.1 dX7_rowLength_29 (lv_at hl 0 rfl) ?_
          refine lv_iload_n (pc := 31) C0.1 C0.2.1 dX7_rowLength_31 rfl (lv_at hl 5 rfl) ?_
          refine lv_icmp_le (pc := 32) (tgt := 38) C0.1 C0.2.1 dX7_rowLength_32 (by decide) (fun c104 => ?_) (fun c104 => ?_)
          · have c104 := Int32.le_iff_toInt_le.mp c104
            obtain ⟨x105, ex105⟩ : ∃ y_ : Int32, y_ = k + 1 := ⟨_, rfl⟩
            have : Int32.toInt 1 = 1 := rfl
            have hx105 : Int32.toInt x105 = Int32.toInt k + Int32.toInt 1 := by rw [ex105]; exact fb_addI (by omega) (by omega)
            refine lv_iinc (pc := 38) (v := x105) (lv' := [(5, .int x105), (6, .int r102), (0, .ref (b + 9)), (1, .ref (b + 4)), (2, .int x), (3, .int y), (4, .int z)]) C0.1 C0.2.1 dX7_rowLength_38 hl (k := 1) rfl (by rw [ex105]; rfl) (by decide) rfl (fun ls hl => ?_)
            refine lv_goto (pc := 41) (tgt := 3) C0.1 C0.2.1 dX7_rowLength_41 (by decide) ?_
            exact ih x105 _ _ _ (by omega) (by omega) hH hS (lv_sub hl [0, 2, 3, 4, 5, 6] rfl)
          · have c104 : ¬ _ := fun q => c104 (Int32.le_iff_toInt_le.mpr q)
            refine lv_iload (pc := 35) C0.1 C0.2.1 dX7_rowLength_35 (lv_at hl 1 rfl) ?_
            exact xiret (pc := 37) C0 hr hH hS dX7_rowLength_37 ⟨rfl, trivial⟩
  refine lv_iconst (pc := 0) (v := 0) C0.1 C0.2.1 dX7_rowLength_0 (by decide) ?_
  refine lv_istore (pc := 1) (lv' := [(5, .int 0), (0, .ref (b + 9)), (1, .ref (b + 4)), (2, .int x), (3, .int y), (4, .int z)]) C0.1 C0.2.1 dX7_rowLength_1 hl (by decide) rfl (fun ls hl => ?_)
  exact LOOP 10 0 _ _ _ (by have : Int32.toInt 0 = 0 := rfl; omega) (by have : Int32.toInt 0 = 0 := rfl; omega) hH hS (lv_sub hl [0, 1, 2, 3, 4, 5] rfl)
set_option maxHeartbeats 4000000 in
set_option maxRecDepth 100000 in
theorem g_X7_quoteLength_9 (l : Launch) (D : va_G) (tA : Nat → ClassId) (b : Nat) (i F : Nat → Nat → Int32) (G : Nat → Nat → Int64)  (hsz : 0 ≤ (i 4 1).toInt ∧ (i 4 1).toInt ≤ 600) : xMI l yX7_quoteLength cX7_quoteLength 3 (some .int) 1 21 D tA b 0 78 i F G [.ref (b + 9), .ref (b + 4)] (fun r u => u = (i, F, G) ∧ True) := by
  refine xstart RX7 rfl (by decide) (Nat.le_of_ble_eq_true rfl) ?_
  intro p e s m below meth c ls C0 hr hH hS hl
  have hl : lv_has ls 3 [(0, .ref (b + 9)), (1, .ref (b + 4))] := hl
  have LOOP : ∀ (d : Nat) (k : Int32) (H : Heap) (locs : List Loc) (ls : Array Slot), ((i 4 1).toInt - k.toInt ≤ d) → Hd D tA b 0 78 zz i F G H → va_S (xA b 0 78) s.heap H locs → lv_has ls 3 [(2, .int k), (0, .ref (b + 9)), (1, .ref (b + 4))] → W p l e (xR 1 21) s m ([.ref (b + 9), .ref (b + 4)] : List Value).toArray below meth c H locs 0 0 (MQ below (va_Qi (fun r u => u = (i, F, G) ∧ True) (xB D tA b 0 78 zz) (xA b 0 78)) ([.ref (b + 9), .ref (b + 4)] : List Value).toArray s 0 0 (xA b 0 78)) (F0 m 7 ls []) := by
    intro d
    induction d with
    | zero =>
      intro k H locs ls h1 hH hS hl
      have rg_k := fb_rng k
      refine lv_iload_n (pc := 7) C0.1 C0.2.1 dX7_quoteLength_7 rfl (lv_at hl 0 rfl) ?_
      refine lv_aload_n (pc := 8) C0.1 C0.2.1 dX7_quoteLength_8 rfl (lv_at hl 2 rfl) ?_
      refine xget (pc := 9) C0 hH 4 1 clX6 ⟨Nat.le_of_ble_eq_true rfl, Nat.le_of_ble_eq_true rfl⟩ ⟨rfl, rfl⟩ (Nat.le_of_ble_eq_true rfl) fl_X7_57 (v := .int (i 4 1)) rfl dX7_quoteLength_9 ?_
      refine lv_icmp_ge (pc := 12) (tgt := 40) C0.1 C0.2.1 dX7_quoteLength_12 (by decide) (fun _ => ?_) (fun c => absurd (Int32.le_iff_toInt_le.mpr (by omega)) c)
      refine lv_iconst (pc := 40) (v := 0) C0.1 C0.2.1 dX7_quoteLength_40 (by decide) ?_
      exact xiret (pc := 41) C0 hr hH hS dX7_quoteLength_41 ⟨rfl, trivial⟩
    | succ d ih =>
      intro k H locs ls h1 hH hS hl
      have rg_k := fb_rng k
      refine lv_iload_n (pc := 7) C0.1 C0.2.1 dX7_quoteLength_7 rfl (lv_at hl 0 rfl) ?_
      refine lv_aload_n (pc := 8) C0.1 C0.2.1 dX7_quoteLength_8 rfl (lv_at hl 2 rfl) ?_
      refine xget (pc := 9) C0 hH 4 1 clX6 ⟨Nat.le_of_ble_eq_true rfl, Nat.le_of_ble_eq_true rfl⟩ ⟨rfl, rfl⟩ (Nat.le_of_ble_eq_true rfl) fl_X7_57 (v := .int (i 4 1)) rfl dX7_quoteLength_9 ?_
      refine lv_icmp_ge (pc := 12) (tgt := 40) C0.1 C0.2.1 dX7_quoteLength_12 (by decide) (fun c101 => ?_) (fun c101 => ?_)
      · have c101 := Int32.le_iff_toInt_le.mp c101
        refine lv_iconst (pc := 40) (v := 0) C0.1 C0.2.1 dX7_quoteLength_40 (by decide) ?_
        exact xiret (pc := 41) C0 hr hH hS dX7_quoteLength_41 ⟨rfl, trivial⟩
      · have c101 : ¬ _ := fun q => c101 (Int32.le_iff_toInt_le.mpr q)
        refine lv_aload_n (pc := 15) C0.1 C0.2.1 dX7_quoteLength_15 rfl (lv_at hl 2 rfl) ?_
        refine lv_iload_n (pc := 16) C0.1 C0.2.1 dX7_quoteLength_16 rfl (lv_at hl 0 rfl) ?_
        refine xcVI (pc := 17) 4 [.int k] (g_X6_at_4 l D tA b i F G k (show 0 ≤ Int32.toInt (i 4 1) ∧ Int32.toInt (i 4 1) ≤ 600 from by omega)) C0 hH hS clX6 rfl ⟨⟨Nat.le_of_ble_eq_true rfl, Nat.le_of_ble_eq_true rfl⟩, rfl, rfl⟩ cw_X7_75 rfl ⟨Nat.le_of_ble_eq_true rfl, Nat.le_of_ble_eq_true rfl⟩ hl.1 rfl (Nat.le_of_ble_eq_true rfl) dX7_quoteLength_17 ⟨Nat.le_of_ble_eq_true rfl, Nat.le_of_ble_eq_true rfl⟩ (fun r102 ir102 Fr102 Gr102 _ locs hp hH hS => ?_)
        obtain ⟨hu, hpr102⟩ := hp
        cases hu
        refine lv_bipush (pc := 20) (v := 39) C0.1 C0.2.1 dX7_quoteLength_20 (by decide) ?_
        refine lv_icmp_ne (pc := 22) (tgt := 34) C0.1 C0.2.1 dX7_quoteLength_22 (by decide) (fun c103 => ?_) (fun c103 => ?_)
        · have : Int32.toInt 39 = 39 := rfl
          have c103 : ¬ _ := fun q => c103 (Int32.toInt_inj.mp q)
          obtain ⟨x104, ex104⟩ : ∃ y_ : Int32, y_ = k + 1 := ⟨_, rfl⟩
          have : Int32.toInt 1 = 1 := rfl
          have hx104 : Int32.toInt x104 = Int32.toInt k + Int32.toInt 1 := by rw [ex104]; exact fb_addI (by omega) (by omega)
          refine lv_iinc (pc := 34) (v := x104) (lv' := [(2, .int x104), (0, .ref (b + 9)), (1, .ref (b + 4))]) C0.1 C0.2.1 dX7_quoteLength_34 hl (k := 0) rfl (by rw [ex104]; rfl) (by decide) rfl (fun ls hl => ?_)
          refine lv_goto (pc := 37) (tgt := 7) C0.1 C0.2.1 dX7_quoteLength_37 (by decide) ?_
          exact ih x104 _ _ _ (by omega) hH hS (lv_sub hl [0, 1, 2] rfl)
        · have : Int32.toInt 39 = 39 := rfl
          have c103 := congrArg Int32.toInt c103
          refine lv_iload_n (pc := 25) C0.1 C0.2.1 dX7_quoteLength_25 rfl (lv_at hl 0 rfl) ?_
          refine lv_iconst (pc := 26) (v := 1) C0.1 C0.2.1 dX7_quoteLength_26 (by decide) ?_
          refine lv_iadd (pc := 27) C0.1 C0.2.1 dX7_quoteLength_27 ?_
          refine lv_aload_n (pc := 28) C0.1 C0.2.1 dX7_quoteLength_28 rfl (lv_at hl 1 rfl) ?_
          refine xget (pc := 29) C0 hH 9 10 clX7 ⟨Nat.le_of_ble_eq_true rfl, Nat.le_of_ble_eq_true rfl⟩ ⟨rfl, rfl⟩ (Nat.le_of_ble_eq_true rfl) fl_X7_44 (v := .int (i 9 10)) rfl dX7_quoteLength_29 ?_
          refine lv_isub (pc := 32) C0.1 C0.2.1 dX7_quoteLength_32 ?_
          exact xiret (pc := 33) C0 hr hH hS dX7_quoteLength_33 ⟨rfl, trivial⟩
  refine lv_aload_n (pc := 0) C0.1 C0.2.1 dX7_quoteLength_0 rfl (lv_at hl 0 rfl) ?_
  refine xget (pc := 1) C0 hH 9 10 clX7 ⟨Nat.le_of_ble_eq_true rfl, Nat.le_of_ble_eq_true rfl⟩ ⟨rfl, rfl⟩ (Nat.le_of_ble_eq_true rfl) fl_X7_44 (v := .int (i 9 10)) rfl dX7_quoteLength_1 ?_
  refine lv_iconst (pc := 4) (v := 1) C0.1 C0.2.1 dX7_quoteLength_4 (by decide) ?_
  refine lv_iadd (pc := 5) C0.1 C0.2.1 dX7_quoteLength_5 ?_
  refine lv_topi (fun x1 ex1 => ?_)
  refine lv_istore_n (pc := 6) (lv' := [(2, .int x1), (0, .ref (b + 9)), (1, .ref (b + 4))]) C0.1 C0.2.1 dX7_quoteLength_6 rfl hl (by decide) rfl (fun ls hl => ?_)
  exact LOOP ((i 4 1).toInt - Int32.toInt x1).toNat x1 _ _ _ (by omega) hH hS (lv_sub hl [0, 1, 2] rfl)
set_option maxHeartbeats 4000000 in
set_option maxRecDepth 100000 in
theorem g_X7_noteLength_9 (l : Launch) (D : va_G) (tA : Nat → ClassId) (b : Nat) (i F : Nat → Nat → Int32) (G : Nat → Nat → Int64)  (hsz : 0 ≤ (i 4 1).toInt ∧ (i 4 1).toInt ≤ 600) : xMI l yX7_noteLength cX7_noteLength 3 (some .int) 1 21 D tA b 0 78 i F G [.ref (b + 9), .ref (b + 4)] (fun r u => u = (i, F, G) ∧ True) := by
  refine xstart RX7 rfl (by decide) (Nat.le_of_ble_eq_true rfl) ?_
  intro p e s m below meth c ls C0 hr hH hS hl
  have hl : lv_has ls 3 [(0, .ref (b + 9)), (1, .ref (b + 4))] := hl
  have LOOP : ∀ (d : Nat) (k : Int32) (H : Heap) (locs : List Loc) (ls : Array Slot), ((i 4 1).toInt - k.toInt ≤ d) → Hd D tA b 0 78 zz i F G H → va_S (xA b 0 78) s.heap H locs → lv_has ls 3 [(2, .int k), (0, .ref (b + 9)), (1, .ref (b + 4))] → W p l e (xR 1 21) s m ([.ref (b + 9), .ref (b + 4)] : List Value).toArray below meth c H locs 0 0 (MQ below (va_Qi (fun r u => u = (i, F, G) ∧ True) (xB D tA b 0 78 zz) (xA b 0 78)) ([.ref (b + 9), .ref (b + 4)] : List Value).toArray s 0 0 (xA b 0 78)) (F0 m 5 ls []) := by
    intro d
    induction d with
    | zero =>
      intro k H locs ls h1 hH hS hl
      have rg_k := fb_rng k
      refine lv_iload_n (pc := 5) C0.1 C0.2.1 dX7_noteLength_5 rfl (lv_at hl 0 rfl) ?_
      refine lv_aload_n (pc := 6) C0.1 C0.2.1 dX7_noteLength_6 rfl (lv_at hl 2 rfl) ?_
      refine xget (pc := 7) C0 hH 4 1 clX6 ⟨Nat.le_of_ble_eq_true rfl, Nat.le_of_ble_eq_true rfl⟩ ⟨rfl, rfl⟩ (Nat.le_of_ble_eq_true rfl) fl_X7_57 (v := .int (i 4 1)) rfl dX7_noteLength_7 ?_
      refine lv_icmp_ge (pc := 10) (tgt := 36) C0.1 C0.2.1 dX7_noteLength_10 (by decide) (fun _ => ?_) (fun c => absurd (Int32.le_iff_toInt_le.mpr (by omega)) c)
      refine lv_aload_n (pc := 36) C0.1 C0.2.1 dX7_noteLength_36 rfl (lv_at hl 2 rfl) ?_
      refine xget (pc := 37) C0 hH 4 1 clX6 ⟨Nat.le_of_ble_eq_true rfl, Nat.le_of_ble_eq_true rfl⟩ ⟨rfl, rfl⟩ (Nat.le_of_ble_eq_true rfl) fl_X7_57 (v := .int (i 4 1)) rfl dX7_noteLength_37 ?_
      refine lv_aload_n (pc := 40) C0.1 C0.2.1 dX7_noteLength_40 rfl (lv_at hl 1 rfl) ?_
      refine xget (pc := 41) C0 hH 9 10 clX7 ⟨Nat.le_of_ble_eq_true rfl, Nat.le_of_ble_eq_true rfl⟩ ⟨rfl, rfl⟩ (Nat.le_of_ble_eq_true rfl) fl_X7_44 (v := .int (i 9 10)) rfl dX7_noteLength_41 ?_
      refine lv_isub (pc := 44) C0.1 C0.2.1 dX7_noteLength_44 ?_
      exact xiret (pc := 45) C0 hr hH hS dX7_noteLength_45 ⟨rfl, trivial⟩
    | succ d ih =>
      intro k H locs ls h1 hH hS hl
      have rg_k := fb_rng k
      refine lv_iload_n (pc := 5) C0.1 C0.2.1 dX7_noteLength_5 rfl (lv_at hl 0 rfl) ?_
      refine lv_aload_n (pc := 6) C0.1 C0.2.1 dX7_noteLength_6 rfl (lv_at hl 2 rfl) ?_
      refine xget (pc := 7) C0 hH 4 1 clX6 ⟨Nat.le_of_ble_eq_true rfl, Nat.le_of_ble_eq_true rfl⟩ ⟨rfl, rfl⟩ (Nat.le_of_ble_eq_true rfl) fl_X7_57 (v := .int (i 4 1)) rfl dX7_noteLength_7 ?_
      refine lv_icmp_ge (pc := 10) (tgt := 36) C0.1 C0.2.1 dX7_noteLength_10 (by decide) (fun c101 => ?_) (fun c101 => ?_)
      · have c101 := Int32.le_iff_toInt_le.mp c101
        refine lv_aload_n (pc := 36) C0.1 C0.2.1 dX7_noteLength_36 rfl (lv_at hl 2 rfl) ?_
        refine xget (pc := 37) C0 hH 4 1 clX6 ⟨Nat.le_of_ble_eq_true rfl, Nat.le_of_ble_eq_true rfl⟩ ⟨rfl, rfl⟩ (Nat.le_of_ble_eq_true rfl) fl_X7_57 (v := .int (i 4 1)) rfl dX7_noteLength_37 ?_
        refine lv_aload_n (pc := 40) C0.1 C0.2.1 dX7_noteLength_40 rfl (lv_at hl 1 rfl) ?_
        refine xget (pc := 41) C0 hH 9 10 clX7 ⟨Nat.le_of_ble_eq_true rfl, Nat.le_of_ble_eq_true rfl⟩ ⟨rfl, rfl⟩ (Nat.le_of_ble_eq_true rfl) fl_X7_44 (v := .int (i 9 10)) rfl dX7_noteLength_41 ?_
        refine lv_isub (pc := 44) C0.1 C0.2.1 dX7_noteLength_44 ?_
        exact xiret (pc := 45) C0 hr hH hS dX7_noteLength_45 ⟨rfl, trivial⟩
      · have c101 : ¬ _ := fun q => c101 (Int32.le_iff_toInt_le.mpr q)
        refine lv_aload_n (pc := 13) C0.1 C0.2.1 dX7_noteLength_13 rfl (lv_at hl 2 rfl) ?_
        refine lv_iload_n (pc := 14) C0.1 C0.2.1 dX7_noteLength_14 rfl (lv_at hl 0 rfl) ?_
        refine xcVI (pc := 15) 4 [.int k] (g_X6_at_4 l D tA b i F G k (show 0 ≤ Int32.toInt (i 4 1) ∧ Int32.toInt (i 4 1) ≤ 600 from by omega)) C0 hH hS clX6 rfl ⟨⟨Nat.le_of_ble_eq_true rfl, Nat.le_of_ble_eq_true rfl⟩, rfl, rfl⟩ cw_X7_75 rfl ⟨Nat.le_of_ble_eq_true rfl, Nat.le_of_ble_eq_true rfl⟩ hl.1 rfl (Nat.le_of_ble_eq_true rfl) dX7_noteLength_15 ⟨Nat.le_of_ble_eq_true rfl, Nat.le_of_ble_eq_true rfl⟩ (fun r102 ir102 Fr102 Gr102 _ locs hp hH hS => ?_)
        obtain ⟨hu, hpr102⟩ := hp
        cases hu
        refine lv_bipush (pc := 18) (v := 10) C0.1 C0.2.1 dX7_noteLength_18 (by decide) ?_
        refine lv_icmp_ne (pc := 20) (tgt := 30) C0.1 C0.2.1 dX7_noteLength_20 (by decide) (fun c103 => ?_) (fun c103 => ?_)
        · have : Int32.toInt 10 = 10 := rfl
          have c103 : ¬ _ := fun q => c103 (Int32.toInt_inj.mp q)
          obtain ⟨x104, ex104⟩ : ∃ y_ : Int32, y_ = k + 1 := ⟨_, rfl⟩
          have : Int32.toInt 1 = 1 := rfl
          have hx104 : Int32.toInt x104 = Int32.toInt k + Int32.toInt 1 := by rw [ex104]; exact fb_addI (by omega) (by omega)
          refine lv_iinc (pc := 30) (v := x104) (lv' := [(2, .int x104), (0, .ref (b + 9)), (1, .ref (b + 4))]) C0.1 C0.2.1 dX7_noteLength_30 hl (k := 0) rfl (by rw [ex104]; rfl) (by decide) rfl (fun ls hl => ?_)
          refine lv_goto (pc := 33) (tgt := 5) C0.1 C0.2.1 dX7_noteLength_33 (by decide) ?_
          exact ih x104 _ _ _ (by omega) hH hS (lv_sub hl [0, 1, 2] rfl)
        · have : Int32.toInt 10 = 10 := rfl
          have c103 := congrArg Int32.toInt c103
          refine lv_iload_n (pc := 23) C0.1 C0.2.1 dX7_noteLength_23 rfl (lv_at hl 0 rfl) ?_
          refine lv_aload_n (pc := 24) C0.1 C0.2.1 dX7_noteLength_24 rfl (lv_at hl 1 rfl) ?_
          refine xget (pc := 25) C0 hH 9 10 clX7 ⟨Nat.le_of_ble_eq_true rfl, Nat.le_of_ble_eq_true rfl⟩ ⟨rfl, rfl⟩ (Nat.le_of_ble_eq_true rfl) fl_X7_44 (v := .int (i 9 10)) rfl dX7_noteLength_25 ?_
          refine lv_isub (pc := 28) C0.1 C0.2.1 dX7_noteLength_28 ?_
          exact xiret (pc := 29) C0 hr hH hS dX7_noteLength_29 ⟨rfl, trivial⟩
  refine lv_aload_n (pc := 0) C0.1 C0.2.1 dX7_noteLength_0 rfl (lv_at hl 0 rfl) ?_
  refine xget (pc := 1) C0 hH 9 10 clX7 ⟨Nat.le_of_ble_eq_true rfl, Nat.le_of_ble_eq_true rfl⟩ ⟨rfl, rfl⟩ (Nat.le_of_ble_eq_true rfl) fl_X7_44 (v := .int (i 9 10)) rfl dX7_noteLength_1 ?_
  refine lv_topi (fun x1 ex1 => ?_)
  refine lv_istore_n (pc := 4) (lv' := [(2, .int x1), (0, .ref (b + 9)), (1, .ref (b + 4))]) C0.1 C0.2.1 dX7_noteLength_4 rfl hl (by decide) rfl (fun ls hl => ?_)
  exact LOOP ((i 4 1).toInt - Int32.toInt x1).toNat x1 _ _ _ (by omega) hH hS (lv_sub hl [0, 1, 2] rfl)
set_option maxHeartbeats 4000000 in
set_option maxRecDepth 100000 in
theorem g_X7_packed_9 (l : Launch) (D : va_G) (tA : Nat → ClassId) (b : Nat) (i F : Nat → Nat → Int32) (G : Nat → Nat → Int64) (x : Int32) (hsz : 0 ≤ (i 4 1).toInt ∧ (i 4 1).toInt ≤ 600) : xML l yX7_packed cX7_packed 6 (some .long) 1 21 D tA b 0 78 i F G [.ref (b + 9), .ref (b + 4), .int x] (fun r u => u = (i, F, G) ∧ True) := by
  refine xstart RX7 rfl (by decide) (Nat.le_of_ble_eq_true rfl) ?_
  intro p e s m below meth c ls C0 hr hH hS hl
  have hl : lv_has ls 6 [(0, .ref (b + 9)), (1, .ref (b + 4)), (2, .int x)] := hl
  have rg_x := fb_rng x
  have LOOP : ∀ (d : Nat) (k : Int32) (w : Int64) (H : Heap) (locs : List Loc) (ls : Array Slot), (0 ≤ k.toInt) → (8 - k.toInt ≤ d) → Hd D tA b 0 78 zz i F G H → va_S (xA b 0 78) s.heap H locs → lv_has ls 6 [(5, .int k), (3, .long w), (0, .ref (b + 9)), (1, .ref (b + 4)), (2, .int x)] → W p l e (xR 1 21) s m ([.ref (b + 9), .ref (b + 4), .int x] : List Value).toArray below meth c H locs 0 0 (MQ below (va_Ql (fun r u => u = (i, F, G) ∧ True) (xB D tA b 0 78 zz) (xA b 0 78)) ([.ref (b + 9), .ref (b + 4), .int x] : List Value).toArray s 0 0 (xA b 0 78)) (F0 m 5 ls []) := by
    intro d
    induction d with
    | zero =>
      intro k w H locs ls h1 h2 hH hS hl
      have rg_k := fb_rng k
      refine lv_iload (pc := 5) C0.1 C0.2.1 dX7_packed_5 (lv_at hl 0 rfl) ?_
      refine lv_iload_n (pc := 7) C0.1 C0.2.1 dX7_packed_7 rfl (lv_at hl 4 rfl) ?_
      refine lv_icmp_ge (pc := 8) (tgt := 45) C0.1 C0.2.1 dX7_packed_8 (by decide) (fun c101 => ?_) (fun c101 => ?_)
      · have c101 := Int32.le_iff_toInt_le.mp c101
        refine lv_lload_n (pc := 45) C0.1 C0.2.1 dX7_packed_45 rfl (lv_at hl 1 rfl) ?_
        exact xlret (pc := 46) C0 hr hH hS dX7_packed_46 ⟨rfl, trivial⟩
      · have c101 : ¬ _ := fun q => c101 (Int32.le_iff_toInt_le.mpr q)
        refine lv_iload (pc := 11) C0.1 C0.2.1 dX7_packed_11 (lv_at hl 0 rfl) ?_
        refine lv_bipush (pc := 13) (v := 8) C0.1 C0.2.1 dX7_packed_13 (by decide) ?_
        have : Int32.toInt 8 = 8 := rfl
        refine lv_icmp_ge (pc := 15) (tgt := 45) C0.1 C0.2.1 dX7_packed_15 (by decide) (fun _ => ?_) (fun c => absurd (Int32.le_iff_toInt_le.mpr (by omega)) c)
        refine lv_lload_n (pc := 45) C0.1 C0.2.1 dX7_packed_45 rfl (lv_at hl 1 rfl) ?_
        exact xlret (pc := 46) C0 hr hH hS dX7_packed_46 ⟨rfl, trivial⟩
    | succ d ih =>
      intro k w H locs ls h1 h2 hH hS hl
      have rg_k := fb_rng k
      refine lv_iload (pc := 5) C0.1 C0.2.1 dX7_packed_5 (lv_at hl 0 rfl) ?_
      refine lv_iload_n (pc := 7) C0.1 C0.2.1 dX7_packed_7 rfl (lv_at hl 4 rfl) ?_
      refine lv_icmp_ge (pc := 8) (tgt := 45) C0.1 C0.2.1 dX7_packed_8 (by decide) (fun c101 => ?_) (fun c101 => ?_)
      · have c101 := Int32.le_iff_toInt_le.mp c101
        refine lv_lload_n (pc := 45) C0.1 C0.2.1 dX7_packed_45 rfl (lv_at hl 1 rfl) ?_
        exact xlret (pc := 46) C0 hr hH hS dX7_packed_46 ⟨rfl, trivial⟩
      · have c101 : ¬ _ := fun q => c101 (Int32.le_iff_toInt_le.mpr q)
        refine lv_iload (pc := 11) C0.1 C0.2.1 dX7_packed_11 (lv_at hl 0 rfl) ?_
        refine lv_bipush (pc := 13) (v := 8) C0.1 C0.2.1 dX7_packed_13 (by decide) ?_
        refine lv_icmp_ge (pc := 15) (tgt := 45) C0.1 C0.2.1 dX7_packed_15 (by decide) (fun c102 => ?_) (fun c102 => ?_)
        · have : Int32.toInt 8 = 8 := rfl
          have c102 := Int32.le_iff_toInt_le.mp c102
          refine lv_lload_n (pc := 45) C0.1 C0.2.1 dX7_packed_45 rfl (lv_at hl 1 rfl) ?_
          exact xlret (pc := 46) C0 hr hH hS dX7_packed_46 ⟨rfl, trivial⟩
        · have : Int32.toInt 8 = 8 := rfl
          have c102 : ¬ _ := fun q => c102 (Int32.le_iff_toInt_le.mpr q)
          refine lv_lload_n (pc := 18) C0.1 C0.2.1 dX7_packed_18 rfl (lv_at hl 1 rfl) ?_
          refine lv_aload_n (pc := 19) C0.1 C0.2.1 dX7_packed_19 rfl (lv_at hl 3 rfl) ?_
          refine lv_aload_n (pc := 20) C0.1 C0.2.1 dX7_packed_20 rfl (lv_at hl 2 rfl) ?_
          refine xget (pc := 21) C0 hH 9 10 clX7 ⟨Nat.le_of_ble_eq_true rfl, Nat.le_of_ble_eq_true rfl⟩ ⟨rfl, rfl⟩ (Nat.le_of_ble_eq_true rfl) fl_X7_44 (v := .int (i 9 10)) rfl dX7_packed_21 ?_
          refine lv_iload (pc := 24) C0.1 C0.2.1 dX7_packed_24 (lv_at hl 0 rfl) ?_
          refine lv_iadd (pc := 26) C0.1 C0.2.1 dX7_packed_26 ?_
          refine xcVI (pc := 27) 4 [.int ((i 9 10) + k)] (g_X6_at_4 l D tA b i F G ((i 9 10) + k) (show 0 ≤ Int32.toInt (i 4 1) ∧ Int32.toInt (i 4 1) ≤ 600 from by omega)) C0 hH hS clX6 rfl ⟨⟨Nat.le_of_ble_eq_true rfl, Nat.le_of_ble_eq_true rfl⟩, rfl, rfl⟩ cw_X7_75 rfl ⟨Nat.le_of_ble_eq_true rfl, Nat.le_of_ble_eq_true rfl⟩ hl.1 rfl (Nat.le_of_ble_eq_true rfl) dX7_packed_27 ⟨Nat.le_of_ble_eq_true rfl, Nat.le_of_ble_eq_true rfl⟩ (fun r103 ir103 Fr103 Gr103 _ locs hp hH hS => ?_)
          obtain ⟨hu, hpr103⟩ := hp
          cases hu
          refine lv_i2l (pc := 30) (v := r103.toInt64) C0.1 C0.2.1 dX7_packed_30 rfl ?_
          refine lv_bipush (pc := 31) (v := 8) C0.1 C0.2.1 dX7_packed_31 (by decide) ?_
          refine lv_iload (pc := 33) C0.1 C0.2.1 dX7_packed_33 (lv_at hl 0 rfl) ?_
          refine lv_imul (pc := 35) C0.1 C0.2.1 dX7_packed_35 ?_
          obtain ⟨x104, ex104⟩ : ∃ y : Int64, y = r103.toInt64 <<< ((8 * k).toInt64 &&& 63) := ⟨_, rfl⟩
          refine lv_lshl (pc := 36) (v := x104) C0.1 C0.2.1 dX7_packed_36 (by rw [ex104]) ?_
          refine lv_lor (pc := 37) C0.1 C0.2.1 dX7_packed_37 ?_
          refine lv_topl (fun x105 ex105 => ?_)
          refine lv_lstore_n (pc := 38) (lv' := [(3, .long x105), (5, .int k), (0, .ref (b + 9)), (1, .ref (b + 4)), (2, .int x)]) C0.1 C0.2.1 dX7_packed_38 rfl hl (by decide) rfl (fun ls hl => ?_)
          obtain ⟨x106, ex106⟩ : ∃ y_ : Int32, y_ = k + 1 := ⟨_, rfl⟩
          have : Int32.toInt 1 = 1 := rfl
          have hx106 : Int32.toInt x106 = Int32.toInt k + Int32.toInt 1 := by rw [ex106]; exact fb_addI (by omega) (by omega)
          refine lv_iinc (pc := 39) (v := x106) (lv' := [(5, .int x106), (3, .long x105), (0, .ref (b + 9)), (1, .ref (b + 4)), (2, .int x)]) C0.1 C0.2.1 dX7_packed_39 hl (k := 1) rfl (by rw [ex106]; rfl) (by decide) rfl (fun ls hl => ?_)
          refine lv_goto (pc := 42) (tgt := 5) C0.1 C0.2.1 dX7_packed_42 (by decide) ?_
          exact ih x106 x105 _ _ _ (by omega) (by omega) hH hS (lv_sub hl [0, 1, 2, 3, 4] rfl)
  refine lv_lconst (pc := 0) (v := 0) C0.1 C0.2.1 dX7_packed_0 (by decide) ?_
  refine lv_lstore_n (pc := 1) (lv' := [(3, .long 0), (0, .ref (b + 9)), (1, .ref (b + 4)), (2, .int x)]) C0.1 C0.2.1 dX7_packed_1 rfl hl (by decide) rfl (fun ls hl => ?_)
  refine lv_iconst (pc := 2) (v := 0) C0.1 C0.2.1 dX7_packed_2 (by decide) ?_
  refine lv_istore (pc := 3) (lv' := [(5, .int 0), (3, .long 0), (0, .ref (b + 9)), (1, .ref (b + 4)), (2, .int x)]) C0.1 C0.2.1 dX7_packed_3 hl (by decide) rfl (fun ls hl => ?_)
  exact LOOP 8 0 0 _ _ _ (by have : Int32.toInt 0 = 0 := rfl; omega) (by have : Int32.toInt 0 = 0 := rfl; omega) hH hS (lv_sub hl [0, 1, 2, 3, 4] rfl)
set_option maxHeartbeats 4000000 in
set_option maxRecDepth 100000 in
theorem g_X7_tokenLength_9 (l : Launch) (D : va_G) (tA : Nat → ClassId) (b : Nat) (i F : Nat → Nat → Int32) (G : Nat → Nat → Int64) (x : Int32) (hsz : 0 ≤ (i 4 1).toInt ∧ (i 4 1).toInt ≤ 600) : xMI l yX7_tokenLength cX7_tokenLength 3 (some .int) 2 47 D tA b 0 78 i F G [.ref (b + 9), .ref (b + 4), .int x] (fun r u => u = (i, F, G) ∧ True) := by
  refine xstart RX7 rfl (by decide) (Nat.le_of_ble_eq_true rfl) ?_
  intro p e s m below meth c ls C0 hr hH hS hl
  have hl : lv_has ls 3 [(0, .ref (b + 9)), (1, .ref (b + 4)), (2, .int x)] := hl
  have rg_x := fb_rng x
  refine lv_iload_n (pc := 0) C0.1 C0.2.1 dX7_tokenLength_0 rfl (lv_at hl 2 rfl) ?_
  by_cases t1 : (x : Int32).toInt = 0
  · refine lv_tableIn (pc := 1) (off := 31) (tgt := 32) C0.1 C0.2.1 dX7_tokenLength_1 (by omega) (by omega) (by rw [t1]; rfl) (by decide) ?_
    refine lv_aload_n (pc := 32) C0.1 C0.2.1 dX7_tokenLength_32 rfl (lv_at hl 0 rfl) ?_
    refine lv_aload_n (pc := 33) C0.1 C0.2.1 dX7_tokenLength_33 rfl (lv_at hl 1 rfl) ?_
    refine lv_bipush (pc := 34) (v := 97) C0.1 C0.2.1 dX7_tokenLength_34 (by decide) ?_
    refine lv_bipush (pc := 36) (v := 122) C0.1 C0.2.1 dX7_tokenLength_36 (by decide) ?_
    refine lv_bipush (pc := 38) (v := 8) C0.1 C0.2.1 dX7_tokenLength_38 (by decide) ?_
    refine xcVI (pc := 40) 9 [.ref (b + 4), .int 97, .int 122, .int 8] (g_X7_rowLength_9 l D tA b i F G 97 122 8 (show 0 ≤ Int32.toInt (i 4 1) ∧ Int32.toInt (i 4 1) ≤ 600 from by omega) (by decide)) C0 hH hS clX7 rfl ⟨⟨Nat.le_of_ble_eq_true rfl, Nat.le_of_ble_eq_true rfl⟩, rfl, rfl⟩ cw_X7_114 rfl ⟨Nat.le_of_ble_eq_true rfl, Nat.le_of_ble_eq_true rfl⟩ hl.1 rfl (Nat.le_of_ble_eq_true rfl) dX7_tokenLength_40 ⟨Nat.le_of_ble_eq_true rfl, Nat.le_of_ble_eq_true rfl⟩ (fun r2 ir2 Fr2 Gr2 _ locs hp hH hS => ?_)
    obtain ⟨hu, hpr2⟩ := hp
    cases hu
    exact xiret (pc := 43) C0 hr hH hS dX7_tokenLength_43 ⟨rfl, trivial⟩
  by_cases t3 : (x : Int32).toInt = 1
  · refine lv_tableIn (pc := 1) (off := 43) (tgt := 44) C0.1 C0.2.1 dX7_tokenLength_1 (by omega) (by omega) (by rw [t3]; rfl) (by decide) ?_
    refine lv_aload_n (pc := 44) C0.1 C0.2.1 dX7_tokenLength_44 rfl (lv_at hl 0 rfl) ?_
    refine lv_aload_n (pc := 45) C0.1 C0.2.1 dX7_tokenLength_45 rfl (lv_at hl 1 rfl) ?_
    refine lv_bipush (pc := 46) (v := 48) C0.1 C0.2.1 dX7_tokenLength_46 (by decide) ?_
    refine lv_bipush (pc := 48) (v := 57) C0.1 C0.2.1 dX7_tokenLength_48 (by decide) ?_
    refine lv_bipush (pc := 50) (v := 9) C0.1 C0.2.1 dX7_tokenLength_50 (by decide) ?_
    refine xcVI (pc := 52) 9 [.ref (b + 4), .int 48, .int 57, .int 9] (g_X7_rowLength_9 l D tA b i F G 48 57 9 (show 0 ≤ Int32.toInt (i 4 1) ∧ Int32.toInt (i 4 1) ≤ 600 from by omega) (by decide)) C0 hH hS clX7 rfl ⟨⟨Nat.le_of_ble_eq_true rfl, Nat.le_of_ble_eq_true rfl⟩, rfl, rfl⟩ cw_X7_114 rfl ⟨Nat.le_of_ble_eq_true rfl, Nat.le_of_ble_eq_true rfl⟩ hl.1 rfl (Nat.le_of_ble_eq_true rfl) dX7_tokenLength_52 ⟨Nat.le_of_ble_eq_true rfl, Nat.le_of_ble_eq_true rfl⟩ (fun r4 ir4 Fr4 Gr4 _ locs hp hH hS => ?_)
    obtain ⟨hu, hpr4⟩ := hp
    cases hu
    exact xiret (pc := 55) C0 hr hH hS dX7_tokenLength_55 ⟨rfl, trivial⟩
  by_cases t5 : (x : Int32).toInt = 2
  · refine lv_tableIn (pc := 1) (off := 55) (tgt := 56) C0.1 C0.2.1 dX7_tokenLength_1 (by omega) (by omega) (by rw [t5]; rfl) (by decide) ?_
    refine lv_iconst (pc := 56) (v := 1) C0.1 C0.2.1 dX7_tokenLength_56 (by decide) ?_
    exact xiret (pc := 57) C0 hr hH hS dX7_tokenLength_57 ⟨rfl, trivial⟩
  by_cases t6 : (x : Int32).toInt = 3
  · refine lv_tableIn (pc := 1) (off := 57) (tgt := 58) C0.1 C0.2.1 dX7_tokenLength_1 (by omega) (by omega) (by rw [t6]; rfl) (by decide) ?_
    refine lv_aload_n (pc := 58) C0.1 C0.2.1 dX7_tokenLength_58 rfl (lv_at hl 0 rfl) ?_
    refine lv_aload_n (pc := 59) C0.1 C0.2.1 dX7_tokenLength_59 rfl (lv_at hl 1 rfl) ?_
    refine xcVI (pc := 60) 9 [.ref (b + 4)] (g_X7_quoteLength_9 l D tA b i F G  (show 0 ≤ Int32.toInt (i 4 1) ∧ Int32.toInt (i 4 1) ≤ 600 from by omega)) C0 hH hS clX7 rfl ⟨⟨Nat.le_of_ble_eq_true rfl, Nat.le_of_ble_eq_true rfl⟩, rfl, rfl⟩ cw_X7_118 rfl ⟨Nat.le_of_ble_eq_true rfl, Nat.le_of_ble_eq_true rfl⟩ hl.1 rfl (Nat.le_of_ble_eq_true rfl) dX7_tokenLength_60 ⟨Nat.le_of_ble_eq_true rfl, Nat.le_of_ble_eq_true rfl⟩ (fun r7 ir7 Fr7 Gr7 _ locs hp hH hS => ?_)
    obtain ⟨hu, hpr7⟩ := hp
    cases hu
    exact xiret (pc := 63) C0 hr hH hS dX7_tokenLength_63 ⟨rfl, trivial⟩
  refine lv_tableOut (pc := 1) (tgt := 64) C0.1 C0.2.1 dX7_tokenLength_1 (by omega) (by decide) ?_
  refine lv_iconst (pc := 64) (v := 0) C0.1 C0.2.1 dX7_tokenLength_64 (by decide) ?_
  exact xiret (pc := 65) C0 hr hH hS dX7_tokenLength_65 ⟨rfl, trivial⟩
set_option maxHeartbeats 4000000 in
set_option maxRecDepth 100000 in
theorem g_X7_pass_9 (l : Launch) (D : va_G) (tA : Nat → ClassId) (b : Nat) (i F : Nat → Nat → Int32) (G : Nat → Nat → Int64) (x y : Int32) (hsz : 0 ≤ (i 4 1).toInt ∧ (i 4 1).toInt ≤ 600) : xMV l yX7_pass cX7_pass 6 none 1 22 D tA b 0 78 i F G [.ref (b + 9), .ref (b + 4), .int x, .int y] (fun u => On 9 10 i F G u ∧ u.1 9 7 = i 9 7 ∧ u.1 9 13 = i 9 13) := by
  refine xstart RX7 rfl (by decide) (Nat.le_of_ble_eq_true rfl) ?_
  intro p e s m below meth c ls C0 hr hH hS hl
  have hl : lv_has ls 6 [(0, .ref (b + 9)), (1, .ref (b + 4)), (2, .int x), (3, .int y)] := hl
  have rg_x := fb_rng x
  have rg_y := fb_rng y
  have LOOP : ∀ (d : Nat) (k : Int32) (iv Fv : Nat → Nat → Int32) (Gv : Nat → Nat → Int64) (H : Heap) (locs : List Loc) (ls : Array Slot), (0 ≤ k.toInt) → (x.toInt - k.toInt ≤ d) → (On 9 10 i F G (iv, Fv, Gv)) → (iv 9 7 = i 9 7 ∧ iv 9 13 = i 9 13) → Hd D tA b 0 78 zz iv Fv Gv H → va_S (xA b 0 78) s.heap H locs → lv_has ls 6 [(4, .int k), (0, .ref (b + 9)), (1, .ref (b + 4)), (2, .int x), (3, .int y)] → W p l e (xR 1 22) s m ([.ref (b + 9), .ref (b + 4), .int x, .int y] : List Value).toArray below meth c H locs 0 0 (MQ below (va_Qv (fun u => On 9 10 i F G u ∧ u.1 9 7 = i 9 7 ∧ u.1 9 13 = i 9 13) (xB D tA b 0 78 zz) (xA b 0 78)) ([.ref (b + 9), .ref (b + 4), .int x, .int y] : List Value).toArray s 0 0 (xA b 0 78)) (F0 m 3 ls []) := by
    intro d
    induction d with
    | zero =>
      intro k iv Fv Gv H locs ls h1 h2 h3 h4 hH hS hl
      have rg_k := fb_rng k
      have ek : Int32.toInt (iv 4 1) = Int32.toInt (i 4 1) := congrArg Int32.toInt (congrFun (h3.1 4 (by decide)).1 1)
      refine lv_iload (pc := 3) C0.1 C0.2.1 dX7_pass_3 (lv_at hl 0 rfl) ?_
      refine lv_iload_n (pc := 5) C0.1 C0.2.1 dX7_pass_5 rfl (lv_at hl 3 rfl) ?_
      refine lv_icmp_ge (pc := 6) (tgt := 74) C0.1 C0.2.1 dX7_pass_6 (by decide) (fun _ => ?_) (fun c => absurd (Int32.le_iff_toInt_le.mpr (by omega)) c)
      exact xvret (pc := 74) C0 hr hH hS dX7_pass_74 ⟨h3, h4.1, h4.2⟩
    | succ d ih =>
      intro k iv Fv Gv H locs ls h1 h2 h3 h4 hH hS hl
      have rg_k := fb_rng k
      have ek : Int32.toInt (iv 4 1) = Int32.toInt (i 4 1) := congrArg Int32.toInt (congrFun (h3.1 4 (by decide)).1 1)
      refine lv_iload (pc := 3) C0.1 C0.2.1 dX7_pass_3 (lv_at hl 0 rfl) ?_
      refine lv_iload_n (pc := 5) C0.1 C0.2.1 dX7_pass_5 rfl (lv_at hl 3 rfl) ?_
      refine lv_icmp_ge (pc := 6) (tgt := 74) C0.1 C0.2.1 dX7_pass_6 (by decide) (fun c101 => ?_) (fun c101 => ?_)
      · have c101 := Int32.le_iff_toInt_le.mp c101
        exact xvret (pc := 74) C0 hr hH hS dX7_pass_74 ⟨h3, h4.1, h4.2⟩
      · have c101 : ¬ _ := fun q => c101 (Int32.le_iff_toInt_le.mpr q)
        refine lv_aload_n (pc := 9) C0.1 C0.2.1 dX7_pass_9 rfl (lv_at hl 2 rfl) ?_
        refine lv_aload_n (pc := 10) C0.1 C0.2.1 dX7_pass_10 rfl (lv_at hl 1 rfl) ?_
        refine xget (pc := 11) C0 hH 9 10 clX7 ⟨Nat.le_of_ble_eq_true rfl, Nat.le_of_ble_eq_true rfl⟩ ⟨rfl, rfl⟩ (Nat.le_of_ble_eq_true rfl) fl_X7_44 (v := .int (iv 9 10)) rfl dX7_pass_11 ?_
        refine xcVI (pc := 14) 4 [.int (iv 9 10)] (g_X6_at_4 l D tA b iv Fv Gv (iv 9 10) (show 0 ≤ Int32.toInt (iv 4 1) ∧ Int32.toInt (iv 4 1) ≤ 600 from by omega)) C0 hH hS clX6 rfl ⟨⟨Nat.le_of_ble_eq_true rfl, Nat.le_of_ble_eq_true rfl⟩, rfl, rfl⟩ cw_X7_75 rfl ⟨Nat.le_of_ble_eq_true rfl, Nat.le_of_ble_eq_true rfl⟩ hl.1 rfl (Nat.le_of_ble_eq_true rfl) dX7_pass_14 ⟨Nat.le_of_ble_eq_true rfl, Nat.le_of_ble_eq_true rfl⟩ (fun r102 ir102 Fr102 Gr102 _ locs hp hH hS => ?_)
        obtain ⟨hu, hpr102⟩ := hp
        cases hu
        refine lv_istore (pc := 17) (lv' := [(5, .int r102), (4, .int k), (0, .ref (b + 9)), (1, .ref (b + 4)), (2, .int x), (3, .int y)]) C0.1 C0.2.1 dX7_pass_17 hl (by decide) rfl (fun ls hl => ?_)
        refine lv_iload (pc := 19) C0.1 C0.2.1 dX7_pass_19 (lv_at hl 0 rfl) ?_
        refine lv_bipush (pc := 21) (v := 10) C0.1 C0.2.1 dX7_pass_21 (by decide) ?_
        refine lv_icmp_ne (pc := 23) (tgt := 44) C0.1 C0.2.1 dX7_pass_23 (by decide) (fun c103 => ?_) (fun c103 => ?_)
        · have : Int32.toInt 10 = 10 := rfl
          have c103 : ¬ _ := fun q => c103 (Int32.toInt_inj.mp q)
          refine lv_aload_n (pc := 44) C0.1 C0.2.1 dX7_pass_44 rfl (lv_at hl 2 rfl) ?_
          refine lv_aload_n (pc := 45) C0.1 C0.2.1 dX7_pass_45 rfl (lv_at hl 2 rfl) ?_
          refine xget (pc := 46) C0 hH 9 12 clX7 ⟨Nat.le_of_ble_eq_true rfl, Nat.le_of_ble_eq_true rfl⟩ ⟨rfl, rfl⟩ (Nat.le_of_ble_eq_true rfl) fl_X7_50 (v := .int (iv 9 12)) rfl dX7_pass_46 ?_
          refine lv_iload (pc := 49) C0.1 C0.2.1 dX7_pass_49 (lv_at hl 0 rfl) ?_
          refine lv_iload_n (pc := 51) C0.1 C0.2.1 dX7_pass_51 rfl (lv_at hl 5 rfl) ?_
          refine xcNI (pc := 52) [.int (iv 9 12), .int r102, .int y] (g_X9_columnBehind l D tA b iv Fv Gv (iv 9 12) r102 y ) C0 hH hS cw_X7_121 st_X9_columnBehind rfl ⟨Nat.le_of_ble_eq_true rfl, Nat.le_of_ble_eq_true rfl⟩ hl.1 rfl (Nat.le_of_ble_eq_true rfl) dX7_pass_52 ⟨Nat.le_of_ble_eq_true rfl, Nat.le_of_ble_eq_true rfl⟩ (fun r104 ir104 Fr104 Gr104 _ locs hp hH hS => ?_)
          obtain ⟨hu, hpr104⟩ := hp
          cases hu
          refine xputI (pc := 55) C0 (Nat.le_of_ble_eq_true rfl) hH hS 9 12 clX7 ⟨Nat.le_of_ble_eq_true rfl, Nat.le_of_ble_eq_true rfl⟩ ⟨rfl, rfl⟩ ⟨Nat.le_of_ble_eq_true rfl, rfl, rfl⟩ fl_X7_50 (x := r104) ⟨rfl, rfl⟩ dX7_pass_55 (fun _ locs hH hS _ => ?_)
          have hH : Hd D tA b 0 78 zz (up2 iv 9 12 r104) Fv Gv _ := hH
          refine lv_aload_n (pc := 58) C0.1 C0.2.1 dX7_pass_58 rfl (lv_at hl 2 rfl) ?_
          refine lv_dup (pc := 59) C0.1 C0.2.1 dX7_pass_59 rfl ?_
          refine xget (pc := 60) C0 hH 9 10 clX7 ⟨Nat.le_of_ble_eq_true rfl, Nat.le_of_ble_eq_true rfl⟩ ⟨rfl, rfl⟩ (Nat.le_of_ble_eq_true rfl) fl_X7_44 (v := .int (iv 9 10)) rfl dX7_pass_60 ?_
          refine lv_iconst (pc := 63) (v := 1) C0.1 C0.2.1 dX7_pass_63 (by decide) ?_
          refine lv_iadd (pc := 64) C0.1 C0.2.1 dX7_pass_64 ?_
          refine lv_topi (fun x105 ex105 => ?_)
          refine xputI (pc := 65) C0 (Nat.le_of_ble_eq_true rfl) hH hS 9 10 clX7 ⟨Nat.le_of_ble_eq_true rfl, Nat.le_of_ble_eq_true rfl⟩ ⟨rfl, rfl⟩ ⟨Nat.le_of_ble_eq_true rfl, rfl, rfl⟩ fl_X7_44 (x := x105) ⟨rfl, rfl⟩ dX7_pass_65 (fun _ locs hH hS _ => ?_)
          have hH : Hd D tA b 0 78 zz (up2 (up2 iv 9 12 r104) 9 10 x105) Fv Gv _ := hH
          obtain ⟨x106, ex106⟩ : ∃ y_ : Int32, y_ = k + 1 := ⟨_, rfl⟩
          have : Int32.toInt 1 = 1 := rfl
          have hx106 : Int32.toInt x106 = Int32.toInt k + Int32.toInt 1 := by rw [ex106]; exact fb_addI (by omega) (by omega)
          refine lv_iinc (pc := 68) (v := x106) (lv' := [(4, .int x106), (5, .int r102), (0, .ref (b + 9)), (1, .ref (b + 4)), (2, .int x), (3, .int y)]) C0.1 C0.2.1 dX7_pass_68 hl (k := 1) rfl (by rw [ex106]; rfl) (by decide) rfl (fun ls hl => ?_)
          refine lv_goto (pc := 71) (tgt := 3) C0.1 C0.2.1 dX7_pass_71 (by decide) ?_
          exact ih x106 (up2 (up2 iv 9 12 r104) 9 10 x105) Fv Gv _ _ _ (by omega) (by omega) (On.i (On.i h3 (by decide)) (by decide)) h4 hH hS (lv_sub hl [0, 2, 3, 4, 5] rfl)
        · have : Int32.toInt 10 = 10 := rfl
          have c103 := congrArg Int32.toInt c103
          refine lv_aload_n (pc := 26) C0.1 C0.2.1 dX7_pass_26 rfl (lv_at hl 2 rfl) ?_
          refine lv_dup (pc := 27) C0.1 C0.2.1 dX7_pass_27 rfl ?_
          refine xget (pc := 28) C0 hH 9 11 clX7 ⟨Nat.le_of_ble_eq_true rfl, Nat.le_of_ble_eq_true rfl⟩ ⟨rfl, rfl⟩ (Nat.le_of_ble_eq_true rfl) fl_X7_47 (v := .int (iv 9 11)) rfl dX7_pass_28 ?_
          refine lv_iconst (pc := 31) (v := 1) C0.1 C0.2.1 dX7_pass_31 (by decide) ?_
          refine lv_iadd (pc := 32) C0.1 C0.2.1 dX7_pass_32 ?_
          refine lv_topi (fun x107 ex107 => ?_)
          refine xputI (pc := 33) C0 (Nat.le_of_ble_eq_true rfl) hH hS 9 11 clX7 ⟨Nat.le_of_ble_eq_true rfl, Nat.le_of_ble_eq_true rfl⟩ ⟨rfl, rfl⟩ ⟨Nat.le_of_ble_eq_true rfl, rfl, rfl⟩ fl_X7_47 (x := x107) ⟨rfl, rfl⟩ dX7_pass_33 (fun _ locs hH hS _ => ?_)
          have hH : Hd D tA b 0 78 zz (up2 iv 9 11 x107) Fv Gv _ := hH
          refine lv_aload_n (pc := 36) C0.1 C0.2.1 dX7_pass_36 rfl (lv_at hl 2 rfl) ?_
          refine lv_iconst (pc := 37) (v := 0) C0.1 C0.2.1 dX7_pass_37 (by decide) ?_
          refine xputI (pc := 38) C0 (Nat.le_of_ble_eq_true rfl) hH hS 9 12 clX7 ⟨Nat.le_of_ble_eq_true rfl, Nat.le_of_ble_eq_true rfl⟩ ⟨rfl, rfl⟩ ⟨Nat.le_of_ble_eq_true rfl, rfl, rfl⟩ fl_X7_50 (x := 0) ⟨rfl, rfl⟩ dX7_pass_38 (fun _ locs hH hS _ => ?_)
          have hH : Hd D tA b 0 78 zz (up2 (up2 iv 9 11 x107) 9 12 0) Fv Gv _ := hH
          refine lv_goto (pc := 41) (tgt := 58) C0.1 C0.2.1 dX7_pass_41 (by decide) ?_
          refine lv_aload_n (pc := 58) C0.1 C0.2.1 dX7_pass_58 rfl (lv_at hl 2 rfl) ?_
          refine lv_dup (pc := 59) C0.1 C0.2.1 dX7_pass_59 rfl ?_
          refine xget (pc := 60) C0 hH 9 10 clX7 ⟨Nat.le_of_ble_eq_true rfl, Nat.le_of_ble_eq_true rfl⟩ ⟨rfl, rfl⟩ (Nat.le_of_ble_eq_true rfl) fl_X7_44 (v := .int (iv 9 10)) rfl dX7_pass_60 ?_
          refine lv_iconst (pc := 63) (v := 1) C0.1 C0.2.1 dX7_pass_63 (by decide) ?_
          refine lv_iadd (pc := 64) C0.1 C0.2.1 dX7_pass_64 ?_
          refine lv_topi (fun x108 ex108 => ?_)
          refine xputI (pc := 65) C0 (Nat.le_of_ble_eq_true rfl) hH hS 9 10 clX7 ⟨Nat.le_of_ble_eq_true rfl, Nat.le_of_ble_eq_true rfl⟩ ⟨rfl, rfl⟩ ⟨Nat.le_of_ble_eq_true rfl, rfl, rfl⟩ fl_X7_44 (x := x108) ⟨rfl, rfl⟩ dX7_pass_65 (fun _ locs hH hS _ => ?_)
          have hH : Hd D tA b 0 78 zz (up2 (up2 (up2 iv 9 11 x107) 9 12 0) 9 10 x108) Fv Gv _ := hH
          obtain ⟨x109, ex109⟩ : ∃ y_ : Int32, y_ = k + 1 := ⟨_, rfl⟩
          have : Int32.toInt 1 = 1 := rfl
          have hx109 : Int32.toInt x109 = Int32.toInt k + Int32.toInt 1 := by rw [ex109]; exact fb_addI (by omega) (by omega)
          refine lv_iinc (pc := 68) (v := x109) (lv' := [(4, .int x109), (5, .int r102), (0, .ref (b + 9)), (1, .ref (b + 4)), (2, .int x), (3, .int y)]) C0.1 C0.2.1 dX7_pass_68 hl (k := 1) rfl (by rw [ex109]; rfl) (by decide) rfl (fun ls hl => ?_)
          refine lv_goto (pc := 71) (tgt := 3) C0.1 C0.2.1 dX7_pass_71 (by decide) ?_
          exact ih x109 (up2 (up2 (up2 iv 9 11 x107) 9 12 0) 9 10 x108) Fv Gv _ _ _ (by omega) (by omega) (On.i (On.i (On.i h3 (by decide)) (by decide)) (by decide)) h4 hH hS (lv_sub hl [0, 2, 3, 4, 5] rfl)
  refine lv_iconst (pc := 0) (v := 0) C0.1 C0.2.1 dX7_pass_0 (by decide) ?_
  refine lv_istore (pc := 1) (lv' := [(4, .int 0), (0, .ref (b + 9)), (1, .ref (b + 4)), (2, .int x), (3, .int y)]) C0.1 C0.2.1 dX7_pass_1 hl (by decide) rfl (fun ls hl => ?_)
  exact LOOP (x.toInt).toNat 0 i F G _ _ _ (by have : Int32.toInt 0 = 0 := rfl; omega) (by have : Int32.toInt 0 = 0 := rfl; omega) On.rf ⟨rfl, rfl⟩ hH hS (lv_sub hl [0, 1, 2, 3, 4] rfl)
set_option maxHeartbeats 4000000 in
set_option maxRecDepth 100000 in
theorem g_X7_scanToken_9 (l : Launch) (D : va_G) (tA : Nat → ClassId) (b : Nat) (i F : Nat → Nat → Int32) (G : Nat → Nat → Int64)  (hsz : 0 ≤ (i 4 1).toInt ∧ (i 4 1).toInt ≤ 600) (htk : 0 ≤ (i 9 7).toInt ∧ (i 9 7).toInt ≤ 600) (hfr : (i 9 13 = 0 ∨ i 9 13 = 1)) (htd : 0 ≤ (i 1 2).toInt ∧ (i 1 2).toInt ≤ 24) : xMV l yX7_scanToken cX7_scanToken 5 none 6 132 D tA b 0 78 i F G [.ref (b + 9), .ref (b + 4), .ref (b + 1)] (fun u => On 9 17 i F G u ∧ 0 ≤ (u.1 9 7).toInt ∧ (u.1 9 7).toInt ≤ 600 ∧ (u.1 9 13 = 0 ∨ u.1 9 13 = 1)) := by
  refine xstart RX7 rfl (by decide) (Nat.le_of_ble_eq_true rfl) ?_
  intro p e s m below meth c ls C0 hr hH hS hl
  have hl : lv_has ls 5 [(0, .ref (b + 9)), (1, .ref (b + 4)), (2, .ref (b + 1))] := hl
  refine lv_aload_n (pc := 0) C0.1 C0.2.1 dX7_scanToken_0 rfl (lv_at hl 1 rfl) ?_
  refine lv_aload_n (pc := 1) C0.1 C0.2.1 dX7_scanToken_1 rfl (lv_at hl 0 rfl) ?_
  refine xget (pc := 2) C0 hH 9 10 clX7 ⟨Nat.le_of_ble_eq_true rfl, Nat.le_of_ble_eq_true rfl⟩ ⟨rfl, rfl⟩ (Nat.le_of_ble_eq_true rfl) fl_X7_44 (v := .int (i 9 10)) rfl dX7_scanToken_2 ?_
  refine xcVI (pc := 5) 4 [.int (i 9 10)] (g_X6_at_4 l D tA b i F G (i 9 10) (show 0 ≤ Int32.toInt (i 4 1) ∧ Int32.toInt (i 4 1) ≤ 600 from by omega)) C0 hH hS clX6 rfl ⟨⟨Nat.le_of_ble_eq_true rfl, Nat.le_of_ble_eq_true rfl⟩, rfl, rfl⟩ cw_X7_75 rfl ⟨Nat.le_of_ble_eq_true rfl, Nat.le_of_ble_eq_true rfl⟩ hl.1 rfl (Nat.le_of_ble_eq_true rfl) dX7_scanToken_5 ⟨Nat.le_of_ble_eq_true rfl, Nat.le_of_ble_eq_true rfl⟩ (fun r1 ir1 Fr1 Gr1 _ locs hp hH hS => ?_)
  obtain ⟨hu, hpr1⟩ := hp
  cases hu
  refine xcSI (pc := 8) [.int r1] (g_X7_sortOf l D tA b i F G r1 ) C0 hH hS cw_X7_88 rfl ⟨Nat.le_of_ble_eq_true rfl, Nat.le_of_ble_eq_true rfl⟩ hl.1 rfl (Nat.le_of_ble_eq_true rfl) dX7_scanToken_8 ⟨Nat.le_of_ble_eq_true rfl, Nat.le_of_ble_eq_true rfl⟩ (fun r2 ir2 Fr2 Gr2 _ locs hp hH hS => ?_)
  obtain ⟨hu, hpr2⟩ := hp
  cases hu
  refine lv_istore_n (pc := 11) (lv' := [(3, .int r2), (0, .ref (b + 9)), (1, .ref (b + 4)), (2, .ref (b + 1))]) C0.1 C0.2.1 dX7_scanToken_11 rfl hl (by decide) rfl (fun ls hl => ?_)
  refine lv_aload_n (pc := 12) C0.1 C0.2.1 dX7_scanToken_12 rfl (lv_at hl 1 rfl) ?_
  refine lv_aload_n (pc := 13) C0.1 C0.2.1 dX7_scanToken_13 rfl (lv_at hl 2 rfl) ?_
  refine lv_iload_n (pc := 14) C0.1 C0.2.1 dX7_scanToken_14 rfl (lv_at hl 0 rfl) ?_
  refine xcVI (pc := 15) 9 [.ref (b + 4), .int r2] (g_X7_tokenLength_9 l D tA b i F G r2 (show 0 ≤ Int32.toInt (i 4 1) ∧ Int32.toInt (i 4 1) ≤ 600 from by omega)) C0 hH hS clX7 rfl ⟨⟨Nat.le_of_ble_eq_true rfl, Nat.le_of_ble_eq_true rfl⟩, rfl, rfl⟩ cw_X7_91 rfl ⟨Nat.le_of_ble_eq_true rfl, Nat.le_of_ble_eq_true rfl⟩ hl.1 rfl (Nat.le_of_ble_eq_true rfl) dX7_scanToken_15 ⟨Nat.le_of_ble_eq_true rfl, Nat.le_of_ble_eq_true rfl⟩ (fun r3 ir3 Fr3 Gr3 _ locs hp hH hS => ?_)
  obtain ⟨hu, hpr3⟩ := hp
  cases hu
  refine lv_istore (pc := 18) (lv' := [(4, .int r3), (3, .int r2), (0, .ref (b + 9)), (1, .ref (b + 4)), (2, .ref (b + 1))]) C0.1 C0.2.1 dX7_scanToken_18 hl (by decide) rfl (fun ls hl => ?_)
  refine lv_iload (pc := 20) C0.1 C0.2.1 dX7_scanToken_20 (lv_at hl 0 rfl) ?_
  refine lv_if_le (pc := 22) (tgt := 35) C0.1 C0.2.1 dX7_scanToken_22 (by decide) (fun c4 => ?_) (fun c4 => ?_)
  · have : Int32.toInt 0 = 0 := rfl
    have c4 := Int32.le_iff_toInt_le.mp c4
    refine lv_aload_n (pc := 35) C0.1 C0.2.1 dX7_scanToken_35 rfl (lv_at hl 2 rfl) ?_
    refine lv_iconst (pc := 36) (v := 1) C0.1 C0.2.1 dX7_scanToken_36 (by decide) ?_
    refine xputI (pc := 37) C0 (Nat.le_of_ble_eq_true rfl) hH hS 9 8 clX7 ⟨Nat.le_of_ble_eq_true rfl, Nat.le_of_ble_eq_true rfl⟩ ⟨rfl, rfl⟩ ⟨Nat.le_of_ble_eq_true rfl, rfl, rfl⟩ fl_X7_38 (x := 1) ⟨rfl, rfl⟩ dX7_scanToken_37 (fun _ locs hH hS _ => ?_)
    have hH : Hd D tA b 0 78 zz (up2 i 9 8 1) F G _ := hH
    refine lv_aload_n (pc := 40) C0.1 C0.2.1 dX7_scanToken_40 rfl (lv_at hl 2 rfl) ?_
    refine lv_aload_n (pc := 41) C0.1 C0.2.1 dX7_scanToken_41 rfl (lv_at hl 2 rfl) ?_
    refine xget (pc := 42) C0 hH 9 10 clX7 ⟨Nat.le_of_ble_eq_true rfl, Nat.le_of_ble_eq_true rfl⟩ ⟨rfl, rfl⟩ (Nat.le_of_ble_eq_true rfl) fl_X7_44 (v := .int (i 9 10)) rfl dX7_scanToken_42 ?_
    refine lv_topi (fun x5 ex5 => ?_)
    refine xputI (pc := 45) C0 (Nat.le_of_ble_eq_true rfl) hH hS 9 9 clX7 ⟨Nat.le_of_ble_eq_true rfl, Nat.le_of_ble_eq_true rfl⟩ ⟨rfl, rfl⟩ ⟨Nat.le_of_ble_eq_true rfl, rfl, rfl⟩ fl_X7_41 (x := x5) ⟨rfl, rfl⟩ dX7_scanToken_45 (fun _ locs hH hS _ => ?_)
    have hH : Hd D tA b 0 78 zz (up2 (up2 i 9 8 1) 9 9 x5) F G _ := hH
    exact xvret (pc := 48) C0 hr hH hS dX7_scanToken_48 ⟨(On.i (On.i On.rf (by decide)) (by decide)), htk.1, htk.2, hfr⟩
  · have : Int32.toInt 0 = 0 := rfl
    have c4 : ¬ _ := fun q => c4 (Int32.le_iff_toInt_le.mpr q)
    refine lv_aload_n (pc := 25) C0.1 C0.2.1 dX7_scanToken_25 rfl (lv_at hl 2 rfl) ?_
    refine xget (pc := 26) C0 hH 9 7 clX7 ⟨Nat.le_of_ble_eq_true rfl, Nat.le_of_ble_eq_true rfl⟩ ⟨rfl, rfl⟩ (Nat.le_of_ble_eq_true rfl) fl_X7_34 (v := .int (i 9 7)) rfl dX7_scanToken_26 ?_
    refine lv_sipush (pc := 29) (v := 600) C0.1 C0.2.1 dX7_scanToken_29 (by decide) ?_
    refine lv_icmp_lt (pc := 32) (tgt := 49) C0.1 C0.2.1 dX7_scanToken_32 (by decide) (fun c6 => ?_) (fun c6 => ?_)
    · have : Int32.toInt 600 = 600 := rfl
      have c6 := Int32.lt_iff_toInt_lt.mp c6
      refine lv_aload_n (pc := 49) C0.1 C0.2.1 dX7_scanToken_49 rfl (lv_at hl 2 rfl) ?_
      refine xget (pc := 50) C0 hH 9 0 clX7 ⟨Nat.le_of_ble_eq_true rfl, Nat.le_of_ble_eq_true rfl⟩ ⟨rfl, rfl⟩ (Nat.le_of_ble_eq_true rfl) fl_X7_9 (v := .ref (b + 10)) rfl dX7_scanToken_50 ?_
      refine lv_aload_n (pc := 53) C0.1 C0.2.1 dX7_scanToken_53 rfl (lv_at hl 2 rfl) ?_
      refine xget (pc := 54) C0 hH 9 7 clX7 ⟨Nat.le_of_ble_eq_true rfl, Nat.le_of_ble_eq_true rfl⟩ ⟨rfl, rfl⟩ (Nat.le_of_ble_eq_true rfl) fl_X7_34 (v := .int (i 9 7)) rfl dX7_scanToken_54 ?_
      refine lv_iload_n (pc := 57) C0.1 C0.2.1 dX7_scanToken_57 rfl (lv_at hl 1 rfl) ?_
      refine xiast (pc := 58) (N := 600) C0 (Nat.le_of_ble_eq_true rfl) hH hS 10 ⟨Nat.le_of_ble_eq_true rfl, Nat.le_of_ble_eq_true rfl⟩ ⟨rfl, rfl⟩ (vI (by omega) (by omega)) dX7_scanToken_58 (fun _ locs hH hS _ => ?_)
      have hH : Hd D tA b 0 78 zz i (va_up F 10 (upd (F 10) (Int32.toNatClampNeg (i 9 7)) r2)) G _ := hH
      refine lv_aload_n (pc := 59) C0.1 C0.2.1 dX7_scanToken_59 rfl (lv_at hl 2 rfl) ?_
      refine xget (pc := 60) C0 hH 9 1 clX7 ⟨Nat.le_of_ble_eq_true rfl, Nat.le_of_ble_eq_true rfl⟩ ⟨rfl, rfl⟩ (Nat.le_of_ble_eq_true rfl) fl_X7_15 (v := .ref (b + 11)) rfl dX7_scanToken_60 ?_
      refine lv_aload_n (pc := 63) C0.1 C0.2.1 dX7_scanToken_63 rfl (lv_at hl 2 rfl) ?_
      refine xget (pc := 64) C0 hH 9 7 clX7 ⟨Nat.le_of_ble_eq_true rfl, Nat.le_of_ble_eq_true rfl⟩ ⟨rfl, rfl⟩ (Nat.le_of_ble_eq_true rfl) fl_X7_34 (v := .int (i 9 7)) rfl dX7_scanToken_64 ?_
      refine lv_aload_n (pc := 67) C0.1 C0.2.1 dX7_scanToken_67 rfl (lv_at hl 2 rfl) ?_
      refine xget (pc := 68) C0 hH 9 10 clX7 ⟨Nat.le_of_ble_eq_true rfl, Nat.le_of_ble_eq_true rfl⟩ ⟨rfl, rfl⟩ (Nat.le_of_ble_eq_true rfl) fl_X7_44 (v := .int (i 9 10)) rfl dX7_scanToken_68 ?_
      refine xiast (pc := 71) (N := 600) C0 (Nat.le_of_ble_eq_true rfl) hH hS 11 ⟨Nat.le_of_ble_eq_true rfl, Nat.le_of_ble_eq_true rfl⟩ ⟨rfl, rfl⟩ (vI (by omega) (by omega)) dX7_scanToken_71 (fun _ locs hH hS _ => ?_)
      have hH : Hd D tA b 0 78 zz i (va_up (va_up F 10 (upd (F 10) (Int32.toNatClampNeg (i 9 7)) r2)) 11 (upd (F 11) (Int32.toNatClampNeg (i 9 7)) (i 9 10))) G _ := hH
      refine lv_aload_n (pc := 72) C0.1 C0.2.1 dX7_scanToken_72 rfl (lv_at hl 2 rfl) ?_
      refine xget (pc := 73) C0 hH 9 2 clX7 ⟨Nat.le_of_ble_eq_true rfl, Nat.le_of_ble_eq_true rfl⟩ ⟨rfl, rfl⟩ (Nat.le_of_ble_eq_true rfl) fl_X7_18 (v := .ref (b + 12)) rfl dX7_scanToken_73 ?_
      refine lv_aload_n (pc := 76) C0.1 C0.2.1 dX7_scanToken_76 rfl (lv_at hl 2 rfl) ?_
      refine xget (pc := 77) C0 hH 9 7 clX7 ⟨Nat.le_of_ble_eq_true rfl, Nat.le_of_ble_eq_true rfl⟩ ⟨rfl, rfl⟩ (Nat.le_of_ble_eq_true rfl) fl_X7_34 (v := .int (i 9 7)) rfl dX7_scanToken_77 ?_
      refine lv_iload (pc := 80) C0.1 C0.2.1 dX7_scanToken_80 (lv_at hl 0 rfl) ?_
      refine xiast (pc := 82) (N := 600) C0 (Nat.le_of_ble_eq_true rfl) hH hS 12 ⟨Nat.le_of_ble_eq_true rfl, Nat.le_of_ble_eq_true rfl⟩ ⟨rfl, rfl⟩ (vI (by omega) (by omega)) dX7_scanToken_82 (fun _ locs hH hS _ => ?_)
      have hH : Hd D tA b 0 78 zz i (va_up (va_up (va_up F 10 (upd (F 10) (Int32.toNatClampNeg (i 9 7)) r2)) 11 (upd (F 11) (Int32.toNatClampNeg (i 9 7)) (i 9 10))) 12 (upd (F 12) (Int32.toNatClampNeg (i 9 7)) r3)) G _ := hH
      refine lv_aload_n (pc := 83) C0.1 C0.2.1 dX7_scanToken_83 rfl (lv_at hl 2 rfl) ?_
      refine xget (pc := 84) C0 hH 9 3 clX7 ⟨Nat.le_of_ble_eq_true rfl, Nat.le_of_ble_eq_true rfl⟩ ⟨rfl, rfl⟩ (Nat.le_of_ble_eq_true rfl) fl_X7_21 (v := .ref (b + 13)) rfl dX7_scanToken_84 ?_
      refine lv_aload_n (pc := 87) C0.1 C0.2.1 dX7_scanToken_87 rfl (lv_at hl 2 rfl) ?_
      refine xget (pc := 88) C0 hH 9 7 clX7 ⟨Nat.le_of_ble_eq_true rfl, Nat.le_of_ble_eq_true rfl⟩ ⟨rfl, rfl⟩ (Nat.le_of_ble_eq_true rfl) fl_X7_34 (v := .int (i 9 7)) rfl dX7_scanToken_88 ?_
      refine lv_aload_n (pc := 91) C0.1 C0.2.1 dX7_scanToken_91 rfl (lv_at hl 2 rfl) ?_
      refine xget (pc := 92) C0 hH 9 11 clX7 ⟨Nat.le_of_ble_eq_true rfl, Nat.le_of_ble_eq_true rfl⟩ ⟨rfl, rfl⟩ (Nat.le_of_ble_eq_true rfl) fl_X7_47 (v := .int (i 9 11)) rfl dX7_scanToken_92 ?_
      refine xiast (pc := 95) (N := 600) C0 (Nat.le_of_ble_eq_true rfl) hH hS 13 ⟨Nat.le_of_ble_eq_true rfl, Nat.le_of_ble_eq_true rfl⟩ ⟨rfl, rfl⟩ (vI (by omega) (by omega)) dX7_scanToken_95 (fun _ locs hH hS _ => ?_)
      have hH : Hd D tA b 0 78 zz i (va_up (va_up (va_up (va_up F 10 (upd (F 10) (Int32.toNatClampNeg (i 9 7)) r2)) 11 (upd (F 11) (Int32.toNatClampNeg (i 9 7)) (i 9 10))) 12 (upd (F 12) (Int32.toNatClampNeg (i 9 7)) r3)) 13 (upd (F 13) (Int32.toNatClampNeg (i 9 7)) (i 9 11))) G _ := hH
      refine lv_aload_n (pc := 96) C0.1 C0.2.1 dX7_scanToken_96 rfl (lv_at hl 2 rfl) ?_
      refine xget (pc := 97) C0 hH 9 4 clX7 ⟨Nat.le_of_ble_eq_true rfl, Nat.le_of_ble_eq_true rfl⟩ ⟨rfl, rfl⟩ (Nat.le_of_ble_eq_true rfl) fl_X7_24 (v := .ref (b + 14)) rfl dX7_scanToken_97 ?_
      refine lv_aload_n (pc := 100) C0.1 C0.2.1 dX7_scanToken_100 rfl (lv_at hl 2 rfl) ?_
      refine xget (pc := 101) C0 hH 9 7 clX7 ⟨Nat.le_of_ble_eq_true rfl, Nat.le_of_ble_eq_true rfl⟩ ⟨rfl, rfl⟩ (Nat.le_of_ble_eq_true rfl) fl_X7_34 (v := .int (i 9 7)) rfl dX7_scanToken_101 ?_
      refine lv_aload_n (pc := 104) C0.1 C0.2.1 dX7_scanToken_104 rfl (lv_at hl 2 rfl) ?_
      refine xget (pc := 105) C0 hH 9 12 clX7 ⟨Nat.le_of_ble_eq_true rfl, Nat.le_of_ble_eq_true rfl⟩ ⟨rfl, rfl⟩ (Nat.le_of_ble_eq_true rfl) fl_X7_50 (v := .int (i 9 12)) rfl dX7_scanToken_105 ?_
      refine xiast (pc := 108) (N := 600) C0 (Nat.le_of_ble_eq_true rfl) hH hS 14 ⟨Nat.le_of_ble_eq_true rfl, Nat.le_of_ble_eq_true rfl⟩ ⟨rfl, rfl⟩ (vI (by omega) (by omega)) dX7_scanToken_108 (fun _ locs hH hS _ => ?_)
      have hH : Hd D tA b 0 78 zz i (va_up (va_up (va_up (va_up (va_up F 10 (upd (F 10) (Int32.toNatClampNeg (i 9 7)) r2)) 11 (upd (F 11) (Int32.toNatClampNeg (i 9 7)) (i 9 10))) 12 (upd (F 12) (Int32.toNatClampNeg (i 9 7)) r3)) 13 (upd (F 13) (Int32.toNatClampNeg (i 9 7)) (i 9 11))) 14 (upd (F 14) (Int32.toNatClampNeg (i 9 7)) (i 9 12))) G _ := hH
      refine lv_aload_n (pc := 109) C0.1 C0.2.1 dX7_scanToken_109 rfl (lv_at hl 2 rfl) ?_
      refine xget (pc := 110) C0 hH 9 5 clX7 ⟨Nat.le_of_ble_eq_true rfl, Nat.le_of_ble_eq_true rfl⟩ ⟨rfl, rfl⟩ (Nat.le_of_ble_eq_true rfl) fl_X7_27 (v := .ref (b + 15)) rfl dX7_scanToken_110 ?_
      refine lv_aload_n (pc := 113) C0.1 C0.2.1 dX7_scanToken_113 rfl (lv_at hl 2 rfl) ?_
      refine xget (pc := 114) C0 hH 9 7 clX7 ⟨Nat.le_of_ble_eq_true rfl, Nat.le_of_ble_eq_true rfl⟩ ⟨rfl, rfl⟩ (Nat.le_of_ble_eq_true rfl) fl_X7_34 (v := .int (i 9 7)) rfl dX7_scanToken_114 ?_
      refine lv_iload_n (pc := 117) C0.1 C0.2.1 dX7_scanToken_117 rfl (lv_at hl 1 rfl) ?_
      refine lv_if_eq (pc := 118) (tgt := 126) C0.1 C0.2.1 dX7_scanToken_118 (by decide) (fun c7 => ?_) (fun c7 => ?_)
      · have : Int32.toInt 0 = 0 := rfl
        have c7 := congrArg Int32.toInt c7
        refine lv_aload_n (pc := 126) C0.1 C0.2.1 dX7_scanToken_126 rfl (lv_at hl 4 rfl) ?_
        refine lv_aload_n (pc := 127) C0.1 C0.2.1 dX7_scanToken_127 rfl (lv_at hl 2 rfl) ?_
        refine lv_aload_n (pc := 128) C0.1 C0.2.1 dX7_scanToken_128 rfl (lv_at hl 3 rfl) ?_
        refine lv_iload (pc := 129) C0.1 C0.2.1 dX7_scanToken_129 (lv_at hl 0 rfl) ?_
        refine xcVL (pc := 131) 9 [.ref (b + 4), .int r3] (g_X7_packed_9 l D tA b i (va_up (va_up (va_up (va_up (va_up F 10 (upd (F 10) (Int32.toNatClampNeg (i 9 7)) r2)) 11 (upd (F 11) (Int32.toNatClampNeg (i 9 7)) (i 9 10))) 12 (upd (F 12) (Int32.toNatClampNeg (i 9 7)) r3)) 13 (upd (F 13) (Int32.toNatClampNeg (i 9 7)) (i 9 11))) 14 (upd (F 14) (Int32.toNatClampNeg (i 9 7)) (i 9 12))) G r3 (show 0 ≤ Int32.toInt (i 4 1) ∧ Int32.toInt (i 4 1) ≤ 600 from by omega)) C0 hH hS clX7 rfl ⟨⟨Nat.le_of_ble_eq_true rfl, Nat.le_of_ble_eq_true rfl⟩, rfl, rfl⟩ cw_X7_95 rfl ⟨Nat.le_of_ble_eq_true rfl, Nat.le_of_ble_eq_true rfl⟩ hl.1 rfl (Nat.le_of_ble_eq_true rfl) dX7_scanToken_131 ⟨Nat.le_of_ble_eq_true rfl, Nat.le_of_ble_eq_true rfl⟩ (fun r8 ir8 Fr8 Gr8 _ locs hp hH hS => ?_)
        obtain ⟨hu, hpr8⟩ := hp
        cases hu
        refine xcVI (pc := 134) 1 [.long r8] (gw_X1_roleOf l D tA b i (va_up (va_up (va_up (va_up (va_up F 10 (upd (F 10) (Int32.toNatClampNeg (i 9 7)) r2)) 11 (upd (F 11) (Int32.toNatClampNeg (i 9 7)) (i 9 10))) 12 (upd (F 12) (Int32.toNatClampNeg (i 9 7)) r3)) 13 (upd (F 13) (Int32.toNatClampNeg (i 9 7)) (i 9 11))) 14 (upd (F 14) (Int32.toNatClampNeg (i 9 7)) (i 9 12))) G r8 (show 0 ≤ Int32.toInt (i 1 2) ∧ Int32.toInt (i 1 2) ≤ 24 from by omega)) C0 hH hS clX1 rfl ⟨⟨Nat.le_of_ble_eq_true rfl, Nat.le_of_ble_eq_true rfl⟩, rfl, rfl⟩ cw_X7_99 rfl ⟨Nat.le_of_ble_eq_true rfl, Nat.le_of_ble_eq_true rfl⟩ hl.1 rfl (Nat.le_of_ble_eq_true rfl) dX7_scanToken_134 ⟨Nat.le_of_ble_eq_true rfl, Nat.le_of_ble_eq_true rfl⟩ (fun r9 ir9 Fr9 Gr9 _ locs hp hH hS => ?_)
        obtain ⟨hu, hpr9⟩ := hp
        cases hu
        refine lv_goto (pc := 137) (tgt := 141) C0.1 C0.2.1 dX7_scanToken_137 (by decide) ?_
        refine xiast (pc := 141) (N := 600) C0 (Nat.le_of_ble_eq_true rfl) hH hS 15 ⟨Nat.le_of_ble_eq_true rfl, Nat.le_of_ble_eq_true rfl⟩ ⟨rfl, rfl⟩ (vI (by omega) (by omega)) dX7_scanToken_141 (fun _ locs hH hS _ => ?_)
        have hH : Hd D tA b 0 78 zz i (va_up (va_up (va_up (va_up (va_up (va_up F 10 (upd (F 10) (Int32.toNatClampNeg (i 9 7)) r2)) 11 (upd (F 11) (Int32.toNatClampNeg (i 9 7)) (i 9 10))) 12 (upd (F 12) (Int32.toNatClampNeg (i 9 7)) r3)) 13 (upd (F 13) (Int32.toNatClampNeg (i 9 7)) (i 9 11))) 14 (upd (F 14) (Int32.toNatClampNeg (i 9 7)) (i 9 12))) 15 (upd (F 15) (Int32.toNatClampNeg (i 9 7)) r9)) G _ := hH
        refine lv_aload_n (pc := 142) C0.1 C0.2.1 dX7_scanToken_142 rfl (lv_at hl 2 rfl) ?_
        refine xget (pc := 143) C0 hH 9 6 clX7 ⟨Nat.le_of_ble_eq_true rfl, Nat.le_of_ble_eq_true rfl⟩ ⟨rfl, rfl⟩ (Nat.le_of_ble_eq_true rfl) fl_X7_30 (v := .ref (b + 16)) rfl dX7_scanToken_143 ?_
        refine lv_aload_n (pc := 146) C0.1 C0.2.1 dX7_scanToken_146 rfl (lv_at hl 2 rfl) ?_
        refine xget (pc := 147) C0 hH 9 7 clX7 ⟨Nat.le_of_ble_eq_true rfl, Nat.le_of_ble_eq_true rfl⟩ ⟨rfl, rfl⟩ (Nat.le_of_ble_eq_true rfl) fl_X7_34 (v := .int (i 9 7)) rfl dX7_scanToken_147 ?_
        refine lv_aload_n (pc := 150) C0.1 C0.2.1 dX7_scanToken_150 rfl (lv_at hl 2 rfl) ?_
        refine xget (pc := 151) C0 hH 9 13 clX7 ⟨Nat.le_of_ble_eq_true rfl, Nat.le_of_ble_eq_true rfl⟩ ⟨rfl, rfl⟩ (Nat.le_of_ble_eq_true rfl) fl_X7_53 (v := .int (i 9 13)) rfl dX7_scanToken_151 ?_
        refine xzast (pc := 154) (N := 600) C0 (Nat.le_of_ble_eq_true rfl) hH hS 16 ⟨Nat.le_of_ble_eq_true rfl, Nat.le_of_ble_eq_true rfl⟩ ⟨rfl, rfl⟩ hfr (vI (by omega) (by omega)) dX7_scanToken_154 (fun _ locs hH hS => ?_)
        have hH : Hd D tA b 0 78 zz i (va_up (va_up (va_up (va_up (va_up (va_up (va_up F 10 (upd (F 10) (Int32.toNatClampNeg (i 9 7)) r2)) 11 (upd (F 11) (Int32.toNatClampNeg (i 9 7)) (i 9 10))) 12 (upd (F 12) (Int32.toNatClampNeg (i 9 7)) r3)) 13 (upd (F 13) (Int32.toNatClampNeg (i 9 7)) (i 9 11))) 14 (upd (F 14) (Int32.toNatClampNeg (i 9 7)) (i 9 12))) 15 (upd (F 15) (Int32.toNatClampNeg (i 9 7)) r9)) 16 (upd (F 16) (Int32.toNatClampNeg (i 9 7)) (i 9 13))) G _ := hH
        refine lv_aload_n (pc := 155) C0.1 C0.2.1 dX7_scanToken_155 rfl (lv_at hl 2 rfl) ?_
        refine lv_dup (pc := 156) C0.1 C0.2.1 dX7_scanToken_156 rfl ?_
        refine xget (pc := 157) C0 hH 9 7 clX7 ⟨Nat.le_of_ble_eq_true rfl, Nat.le_of_ble_eq_true rfl⟩ ⟨rfl, rfl⟩ (Nat.le_of_ble_eq_true rfl) fl_X7_34 (v := .int (i 9 7)) rfl dX7_scanToken_157 ?_
        refine lv_iconst (pc := 160) (v := 1) C0.1 C0.2.1 dX7_scanToken_160 (by decide) ?_
        have : Int32.toInt 1 = 1 := rfl
        refine lv_iadd (pc := 161) C0.1 C0.2.1 dX7_scanToken_161 ?_
        refine lv_topi (fun x10 ex10 => ?_)
        have hx10 : Int32.toInt x10 = Int32.toInt (i 9 7) + Int32.toInt 1 := by rw [ex10]; exact fb_addI (by omega) (by omega)
        refine xputI (pc := 162) C0 (Nat.le_of_ble_eq_true rfl) hH hS 9 7 clX7 ⟨Nat.le_of_ble_eq_true rfl, Nat.le_of_ble_eq_true rfl⟩ ⟨rfl, rfl⟩ ⟨Nat.le_of_ble_eq_true rfl, rfl, rfl⟩ fl_X7_34 (x := x10) ⟨rfl, rfl⟩ dX7_scanToken_162 (fun _ locs hH hS _ => ?_)
        have hH : Hd D tA b 0 78 zz (up2 i 9 7 x10) (va_up (va_up (va_up (va_up (va_up (va_up (va_up F 10 (upd (F 10) (Int32.toNatClampNeg (i 9 7)) r2)) 11 (upd (F 11) (Int32.toNatClampNeg (i 9 7)) (i 9 10))) 12 (upd (F 12) (Int32.toNatClampNeg (i 9 7)) r3)) 13 (upd (F 13) (Int32.toNatClampNeg (i 9 7)) (i 9 11))) 14 (upd (F 14) (Int32.toNatClampNeg (i 9 7)) (i 9 12))) 15 (upd (F 15) (Int32.toNatClampNeg (i 9 7)) r9)) 16 (upd (F 16) (Int32.toNatClampNeg (i 9 7)) (i 9 13))) G _ := hH
        refine lv_aload_n (pc := 165) C0.1 C0.2.1 dX7_scanToken_165 rfl (lv_at hl 2 rfl) ?_
        refine lv_iconst (pc := 166) (v := 0) C0.1 C0.2.1 dX7_scanToken_166 (by decide) ?_
        refine xputI (pc := 167) C0 (Nat.le_of_ble_eq_true rfl) hH hS 9 13 clX7 ⟨Nat.le_of_ble_eq_true rfl, Nat.le_of_ble_eq_true rfl⟩ ⟨rfl, rfl⟩ ⟨Nat.le_of_ble_eq_true rfl, rfl, rfl⟩ fl_X7_53 (x := 0) ⟨rfl, rfl⟩ dX7_scanToken_167 (fun _ locs hH hS _ => ?_)
        have hH : Hd D tA b 0 78 zz (up2 (up2 i 9 7 x10) 9 13 0) (va_up (va_up (va_up (va_up (va_up (va_up (va_up F 10 (upd (F 10) (Int32.toNatClampNeg (i 9 7)) r2)) 11 (upd (F 11) (Int32.toNatClampNeg (i 9 7)) (i 9 10))) 12 (upd (F 12) (Int32.toNatClampNeg (i 9 7)) r3)) 13 (upd (F 13) (Int32.toNatClampNeg (i 9 7)) (i 9 11))) 14 (upd (F 14) (Int32.toNatClampNeg (i 9 7)) (i 9 12))) 15 (upd (F 15) (Int32.toNatClampNeg (i 9 7)) r9)) 16 (upd (F 16) (Int32.toNatClampNeg (i 9 7)) (i 9 13))) G _ := hH
        refine lv_aload_n (pc := 170) C0.1 C0.2.1 dX7_scanToken_170 rfl (lv_at hl 2 rfl) ?_
        refine lv_aload_n (pc := 171) C0.1 C0.2.1 dX7_scanToken_171 rfl (lv_at hl 3 rfl) ?_
        refine lv_iload (pc := 172) C0.1 C0.2.1 dX7_scanToken_172 (lv_at hl 0 rfl) ?_
        refine lv_aload_n (pc := 174) C0.1 C0.2.1 dX7_scanToken_174 rfl (lv_at hl 4 rfl) ?_
        refine xget (pc := 175) C0 hH 1 7 clX1 ⟨Nat.le_of_ble_eq_true rfl, Nat.le_of_ble_eq_true rfl⟩ ⟨rfl, rfl⟩ (Nat.le_of_ble_eq_true rfl) fl_X7_66 (v := .int (i 1 7)) rfl dX7_scanToken_175 ?_
        refine xcVV (pc := 178) 9 [.ref (b + 4), .int r3, .int (i 1 7)] (g_X7_pass_9 l D tA b (up2 (up2 i 9 7 x10) 9 13 0) (va_up (va_up (va_up (va_up (va_up (va_up (va_up F 10 (upd (F 10) (Int32.toNatClampNeg (i 9 7)) r2)) 11 (upd (F 11) (Int32.toNatClampNeg (i 9 7)) (i 9 10))) 12 (upd (F 12) (Int32.toNatClampNeg (i 9 7)) r3)) 13 (upd (F 13) (Int32.toNatClampNeg (i 9 7)) (i 9 11))) 14 (upd (F 14) (Int32.toNatClampNeg (i 9 7)) (i 9 12))) 15 (upd (F 15) (Int32.toNatClampNeg (i 9 7)) r9)) 16 (upd (F 16) (Int32.toNatClampNeg (i 9 7)) (i 9 13))) G r3 (i 1 7) (show 0 ≤ Int32.toInt (i 4 1) ∧ Int32.toInt (i 4 1) ≤ 600 from by omega)) C0 hH hS clX7 rfl ⟨⟨Nat.le_of_ble_eq_true rfl, Nat.le_of_ble_eq_true rfl⟩, rfl, rfl⟩ cw_X7_77 rfl ⟨Nat.le_of_ble_eq_true rfl, Nat.le_of_ble_eq_true rfl⟩ hl.1 rfl (Nat.le_of_ble_eq_true rfl) dX7_scanToken_178 ⟨Nat.le_of_ble_eq_true rfl, Nat.le_of_ble_eq_true rfl⟩ (fun ir11 Fr11 Gr11 _ locs hp hH hS => ?_)
        obtain ⟨honr11, ht7r11, ht13r11⟩ := hp
        try dsimp only at ht7r11 ht13r11
        have ht7r11I : Int32.toInt (ir11 9 7) = Int32.toInt x10 := congrArg Int32.toInt ht7r11
        exact xvret (pc := 181) C0 hr hH hS dX7_scanToken_181 ⟨(On.tr (On.f (On.f (On.f (On.f (On.f (On.f (On.f (On.i (On.i On.rf (by decide)) (by decide)) (by decide)) (by decide)) (by decide)) (by decide)) (by decide)) (by decide)) (by decide)) honr11 (by decide) (by decide)), by show 0 ≤ Int32.toInt (ir11 9 7); omega, by show Int32.toInt (ir11 9 7) ≤ 600; omega, by show ir11 9 13 = 0 ∨ ir11 9 13 = 1; rw [ht13r11]; exact Or.inl rfl⟩
      · have : Int32.toInt 0 = 0 := rfl
        have c7 : ¬ _ := fun q => c7 (Int32.toInt_inj.mp q)
        refine lv_iload_n (pc := 121) C0.1 C0.2.1 dX7_scanToken_121 rfl (lv_at hl 1 rfl) ?_
        refine lv_iconst (pc := 122) (v := 2) C0.1 C0.2.1 dX7_scanToken_122 (by decide) ?_
        refine lv_icmp_ne (pc := 123) (tgt := 140) C0.1 C0.2.1 dX7_scanToken_123 (by decide) (fun c12 => ?_) (fun c12 => ?_)
        · have : Int32.toInt 2 = 2 := rfl
          have c12 : ¬ _ := fun q => c12 (Int32.toInt_inj.mp q)
          refine lv_iconst (pc := 140) (v := 0) C0.1 C0.2.1 dX7_scanToken_140 (by decide) ?_
          refine xiast (pc := 141) (N := 600) C0 (Nat.le_of_ble_eq_true rfl) hH hS 15 ⟨Nat.le_of_ble_eq_true rfl, Nat.le_of_ble_eq_true rfl⟩ ⟨rfl, rfl⟩ (vI (by omega) (by omega)) dX7_scanToken_141 (fun _ locs hH hS _ => ?_)
          have hH : Hd D tA b 0 78 zz i (va_up (va_up (va_up (va_up (va_up (va_up F 10 (upd (F 10) (Int32.toNatClampNeg (i 9 7)) r2)) 11 (upd (F 11) (Int32.toNatClampNeg (i 9 7)) (i 9 10))) 12 (upd (F 12) (Int32.toNatClampNeg (i 9 7)) r3)) 13 (upd (F 13) (Int32.toNatClampNeg (i 9 7)) (i 9 11))) 14 (upd (F 14) (Int32.toNatClampNeg (i 9 7)) (i 9 12))) 15 (upd (F 15) (Int32.toNatClampNeg (i 9 7)) 0)) G _ := hH
          refine lv_aload_n (pc := 142) C0.1 C0.2.1 dX7_scanToken_142 rfl (lv_at hl 2 rfl) ?_
          refine xget (pc := 143) C0 hH 9 6 clX7 ⟨Nat.le_of_ble_eq_true rfl, Nat.le_of_ble_eq_true rfl⟩ ⟨rfl, rfl⟩ (Nat.le_of_ble_eq_true rfl) fl_X7_30 (v := .ref (b + 16)) rfl dX7_scanToken_143 ?_
          refine lv_aload_n (pc := 146) C0.1 C0.2.1 dX7_scanToken_146 rfl (lv_at hl 2 rfl) ?_
          refine xget (pc := 147) C0 hH 9 7 clX7 ⟨Nat.le_of_ble_eq_true rfl, Nat.le_of_ble_eq_true rfl⟩ ⟨rfl, rfl⟩ (Nat.le_of_ble_eq_true rfl) fl_X7_34 (v := .int (i 9 7)) rfl dX7_scanToken_147 ?_
          refine lv_aload_n (pc := 150) C0.1 C0.2.1 dX7_scanToken_150 rfl (lv_at hl 2 rfl) ?_
          refine xget (pc := 151) C0 hH 9 13 clX7 ⟨Nat.le_of_ble_eq_true rfl, Nat.le_of_ble_eq_true rfl⟩ ⟨rfl, rfl⟩ (Nat.le_of_ble_eq_true rfl) fl_X7_53 (v := .int (i 9 13)) rfl dX7_scanToken_151 ?_
          refine xzast (pc := 154) (N := 600) C0 (Nat.le_of_ble_eq_true rfl) hH hS 16 ⟨Nat.le_of_ble_eq_true rfl, Nat.le_of_ble_eq_true rfl⟩ ⟨rfl, rfl⟩ hfr (vI (by omega) (by omega)) dX7_scanToken_154 (fun _ locs hH hS => ?_)
          have hH : Hd D tA b 0 78 zz i (va_up (va_up (va_up (va_up (va_up (va_up (va_up F 10 (upd (F 10) (Int32.toNatClampNeg (i 9 7)) r2)) 11 (upd (F 11) (Int32.toNatClampNeg (i 9 7)) (i 9 10))) 12 (upd (F 12) (Int32.toNatClampNeg (i 9 7)) r3)) 13 (upd (F 13) (Int32.toNatClampNeg (i 9 7)) (i 9 11))) 14 (upd (F 14) (Int32.toNatClampNeg (i 9 7)) (i 9 12))) 15 (upd (F 15) (Int32.toNatClampNeg (i 9 7)) 0)) 16 (upd (F 16) (Int32.toNatClampNeg (i 9 7)) (i 9 13))) G _ := hH
          refine lv_aload_n (pc := 155) C0.1 C0.2.1 dX7_scanToken_155 rfl (lv_at hl 2 rfl) ?_
          refine lv_dup (pc := 156) C0.1 C0.2.1 dX7_scanToken_156 rfl ?_
          refine xget (pc := 157) C0 hH 9 7 clX7 ⟨Nat.le_of_ble_eq_true rfl, Nat.le_of_ble_eq_true rfl⟩ ⟨rfl, rfl⟩ (Nat.le_of_ble_eq_true rfl) fl_X7_34 (v := .int (i 9 7)) rfl dX7_scanToken_157 ?_
          refine lv_iconst (pc := 160) (v := 1) C0.1 C0.2.1 dX7_scanToken_160 (by decide) ?_
          have : Int32.toInt 1 = 1 := rfl
          refine lv_iadd (pc := 161) C0.1 C0.2.1 dX7_scanToken_161 ?_
          refine lv_topi (fun x13 ex13 => ?_)
          have hx13 : Int32.toInt x13 = Int32.toInt (i 9 7) + Int32.toInt 1 := by rw [ex13]; exact fb_addI (by omega) (by omega)
          refine xputI (pc := 162) C0 (Nat.le_of_ble_eq_true rfl) hH hS 9 7 clX7 ⟨Nat.le_of_ble_eq_true rfl, Nat.le_of_ble_eq_true rfl⟩ ⟨rfl, rfl⟩ ⟨Nat.le_of_ble_eq_true rfl, rfl, rfl⟩ fl_X7_34 (x := x13) ⟨rfl, rfl⟩ dX7_scanToken_162 (fun _ locs hH hS _ => ?_)
          have hH : Hd D tA b 0 78 zz (up2 i 9 7 x13) (va_up (va_up (va_up (va_up (va_up (va_up (va_up F 10 (upd (F 10) (Int32.toNatClampNeg (i 9 7)) r2)) 11 (upd (F 11) (Int32.toNatClampNeg (i 9 7)) (i 9 10))) 12 (upd (F 12) (Int32.toNatClampNeg (i 9 7)) r3)) 13 (upd (F 13) (Int32.toNatClampNeg (i 9 7)) (i 9 11))) 14 (upd (F 14) (Int32.toNatClampNeg (i 9 7)) (i 9 12))) 15 (upd (F 15) (Int32.toNatClampNeg (i 9 7)) 0)) 16 (upd (F 16) (Int32.toNatClampNeg (i 9 7)) (i 9 13))) G _ := hH
          refine lv_aload_n (pc := 165) C0.1 C0.2.1 dX7_scanToken_165 rfl (lv_at hl 2 rfl) ?_
          refine lv_iconst (pc := 166) (v := 0) C0.1 C0.2.1 dX7_scanToken_166 (by decide) ?_
          refine xputI (pc := 167) C0 (Nat.le_of_ble_eq_true rfl) hH hS 9 13 clX7 ⟨Nat.le_of_ble_eq_true rfl, Nat.le_of_ble_eq_true rfl⟩ ⟨rfl, rfl⟩ ⟨Nat.le_of_ble_eq_true rfl, rfl, rfl⟩ fl_X7_53 (x := 0) ⟨rfl, rfl⟩ dX7_scanToken_167 (fun _ locs hH hS _ => ?_)
          have hH : Hd D tA b 0 78 zz (up2 (up2 i 9 7 x13) 9 13 0) (va_up (va_up (va_up (va_up (va_up (va_up (va_up F 10 (upd (F 10) (Int32.toNatClampNeg (i 9 7)) r2)) 11 (upd (F 11) (Int32.toNatClampNeg (i 9 7)) (i 9 10))) 12 (upd (F 12) (Int32.toNatClampNeg (i 9 7)) r3)) 13 (upd (F 13) (Int32.toNatClampNeg (i 9 7)) (i 9 11))) 14 (upd (F 14) (Int32.toNatClampNeg (i 9 7)) (i 9 12))) 15 (upd (F 15) (Int32.toNatClampNeg (i 9 7)) 0)) 16 (upd (F 16) (Int32.toNatClampNeg (i 9 7)) (i 9 13))) G _ := hH
          refine lv_aload_n (pc := 170) C0.1 C0.2.1 dX7_scanToken_170 rfl (lv_at hl 2 rfl) ?_
          refine lv_aload_n (pc := 171) C0.1 C0.2.1 dX7_scanToken_171 rfl (lv_at hl 3 rfl) ?_
          refine lv_iload (pc := 172) C0.1 C0.2.1 dX7_scanToken_172 (lv_at hl 0 rfl) ?_
          refine lv_aload_n (pc := 174) C0.1 C0.2.1 dX7_scanToken_174 rfl (lv_at hl 4 rfl) ?_
          refine xget (pc := 175) C0 hH 1 7 clX1 ⟨Nat.le_of_ble_eq_true rfl, Nat.le_of_ble_eq_true rfl⟩ ⟨rfl, rfl⟩ (Nat.le_of_ble_eq_true rfl) fl_X7_66 (v := .int (i 1 7)) rfl dX7_scanToken_175 ?_
          refine xcVV (pc := 178) 9 [.ref (b + 4), .int r3, .int (i 1 7)] (g_X7_pass_9 l D tA b (up2 (up2 i 9 7 x13) 9 13 0) (va_up (va_up (va_up (va_up (va_up (va_up (va_up F 10 (upd (F 10) (Int32.toNatClampNeg (i 9 7)) r2)) 11 (upd (F 11) (Int32.toNatClampNeg (i 9 7)) (i 9 10))) 12 (upd (F 12) (Int32.toNatClampNeg (i 9 7)) r3)) 13 (upd (F 13) (Int32.toNatClampNeg (i 9 7)) (i 9 11))) 14 (upd (F 14) (Int32.toNatClampNeg (i 9 7)) (i 9 12))) 15 (upd (F 15) (Int32.toNatClampNeg (i 9 7)) 0)) 16 (upd (F 16) (Int32.toNatClampNeg (i 9 7)) (i 9 13))) G r3 (i 1 7) (show 0 ≤ Int32.toInt (i 4 1) ∧ Int32.toInt (i 4 1) ≤ 600 from by omega)) C0 hH hS clX7 rfl ⟨⟨Nat.le_of_ble_eq_true rfl, Nat.le_of_ble_eq_true rfl⟩, rfl, rfl⟩ cw_X7_77 rfl ⟨Nat.le_of_ble_eq_true rfl, Nat.le_of_ble_eq_true rfl⟩ hl.1 rfl (Nat.le_of_ble_eq_true rfl) dX7_scanToken_178 ⟨Nat.le_of_ble_eq_true rfl, Nat.le_of_ble_eq_true rfl⟩ (fun ir14 Fr14 Gr14 _ locs hp hH hS => ?_)
          obtain ⟨honr14, ht7r14, ht13r14⟩ := hp
          try dsimp only at ht7r14 ht13r14
          have ht7r14I : Int32.toInt (ir14 9 7) = Int32.toInt x13 := congrArg Int32.toInt ht7r14
          exact xvret (pc := 181) C0 hr hH hS dX7_scanToken_181 ⟨(On.tr (On.f (On.f (On.f (On.f (On.f (On.f (On.f (On.i (On.i On.rf (by decide)) (by decide)) (by decide)) (by decide)) (by decide)) (by decide)) (by decide)) (by decide)) (by decide)) honr14 (by decide) (by decide)), by show 0 ≤ Int32.toInt (ir14 9 7); omega, by show Int32.toInt (ir14 9 7) ≤ 600; omega, by show ir14 9 13 = 0 ∨ ir14 9 13 = 1; rw [ht13r14]; exact Or.inl rfl⟩
        · have : Int32.toInt 2 = 2 := rfl
          have c12 := congrArg Int32.toInt c12
          refine lv_aload_n (pc := 126) C0.1 C0.2.1 dX7_scanToken_126 rfl (lv_at hl 4 rfl) ?_
          refine lv_aload_n (pc := 127) C0.1 C0.2.1 dX7_scanToken_127 rfl (lv_at hl 2 rfl) ?_
          refine lv_aload_n (pc := 128) C0.1 C0.2.1 dX7_scanToken_128 rfl (lv_at hl 3 rfl) ?_
          refine lv_iload (pc := 129) C0.1 C0.2.1 dX7_scanToken_129 (lv_at hl 0 rfl) ?_
          refine xcVL (pc := 131) 9 [.ref (b + 4), .int r3] (g_X7_packed_9 l D tA b i (va_up (va_up (va_up (va_up (va_up F 10 (upd (F 10) (Int32.toNatClampNeg (i 9 7)) r2)) 11 (upd (F 11) (Int32.toNatClampNeg (i 9 7)) (i 9 10))) 12 (upd (F 12) (Int32.toNatClampNeg (i 9 7)) r3)) 13 (upd (F 13) (Int32.toNatClampNeg (i 9 7)) (i 9 11))) 14 (upd (F 14) (Int32.toNatClampNeg (i 9 7)) (i 9 12))) G r3 (show 0 ≤ Int32.toInt (i 4 1) ∧ Int32.toInt (i 4 1) ≤ 600 from by omega)) C0 hH hS clX7 rfl ⟨⟨Nat.le_of_ble_eq_true rfl, Nat.le_of_ble_eq_true rfl⟩, rfl, rfl⟩ cw_X7_95 rfl ⟨Nat.le_of_ble_eq_true rfl, Nat.le_of_ble_eq_true rfl⟩ hl.1 rfl (Nat.le_of_ble_eq_true rfl) dX7_scanToken_131 ⟨Nat.le_of_ble_eq_true rfl, Nat.le_of_ble_eq_true rfl⟩ (fun r15 ir15 Fr15 Gr15 _ locs hp hH hS => ?_)
          obtain ⟨hu, hpr15⟩ := hp
          cases hu
          refine xcVI (pc := 134) 1 [.long r15] (gw_X1_roleOf l D tA b i (va_up (va_up (va_up (va_up (va_up F 10 (upd (F 10) (Int32.toNatClampNeg (i 9 7)) r2)) 11 (upd (F 11) (Int32.toNatClampNeg (i 9 7)) (i 9 10))) 12 (upd (F 12) (Int32.toNatClampNeg (i 9 7)) r3)) 13 (upd (F 13) (Int32.toNatClampNeg (i 9 7)) (i 9 11))) 14 (upd (F 14) (Int32.toNatClampNeg (i 9 7)) (i 9 12))) G r15 (show 0 ≤ Int32.toInt (i 1 2) ∧ Int32.toInt (i 1 2) ≤ 24 from by omega)) C0 hH hS clX1 rfl ⟨⟨Nat.le_of_ble_eq_true rfl, Nat.le_of_ble_eq_true rfl⟩, rfl, rfl⟩ cw_X7_99 rfl ⟨Nat.le_of_ble_eq_true rfl, Nat.le_of_ble_eq_true rfl⟩ hl.1 rfl (Nat.le_of_ble_eq_true rfl) dX7_scanToken_134 ⟨Nat.le_of_ble_eq_true rfl, Nat.le_of_ble_eq_true rfl⟩ (fun r16 ir16 Fr16 Gr16 _ locs hp hH hS => ?_)
          obtain ⟨hu, hpr16⟩ := hp
          cases hu
          refine lv_goto (pc := 137) (tgt := 141) C0.1 C0.2.1 dX7_scanToken_137 (by decide) ?_
          refine xiast (pc := 141) (N := 600) C0 (Nat.le_of_ble_eq_true rfl) hH hS 15 ⟨Nat.le_of_ble_eq_true rfl, Nat.le_of_ble_eq_true rfl⟩ ⟨rfl, rfl⟩ (vI (by omega) (by omega)) dX7_scanToken_141 (fun _ locs hH hS _ => ?_)
          have hH : Hd D tA b 0 78 zz i (va_up (va_up (va_up (va_up (va_up (va_up F 10 (upd (F 10) (Int32.toNatClampNeg (i 9 7)) r2)) 11 (upd (F 11) (Int32.toNatClampNeg (i 9 7)) (i 9 10))) 12 (upd (F 12) (Int32.toNatClampNeg (i 9 7)) r3)) 13 (upd (F 13) (Int32.toNatClampNeg (i 9 7)) (i 9 11))) 14 (upd (F 14) (Int32.toNatClampNeg (i 9 7)) (i 9 12))) 15 (upd (F 15) (Int32.toNatClampNeg (i 9 7)) r16)) G _ := hH
          refine lv_aload_n (pc := 142) C0.1 C0.2.1 dX7_scanToken_142 rfl (lv_at hl 2 rfl) ?_
          refine xget (pc := 143) C0 hH 9 6 clX7 ⟨Nat.le_of_ble_eq_true rfl, Nat.le_of_ble_eq_true rfl⟩ ⟨rfl, rfl⟩ (Nat.le_of_ble_eq_true rfl) fl_X7_30 (v := .ref (b + 16)) rfl dX7_scanToken_143 ?_
          refine lv_aload_n (pc := 146) C0.1 C0.2.1 dX7_scanToken_146 rfl (lv_at hl 2 rfl) ?_
          refine xget (pc := 147) C0 hH 9 7 clX7 ⟨Nat.le_of_ble_eq_true rfl, Nat.le_of_ble_eq_true rfl⟩ ⟨rfl, rfl⟩ (Nat.le_of_ble_eq_true rfl) fl_X7_34 (v := .int (i 9 7)) rfl dX7_scanToken_147 ?_
          refine lv_aload_n (pc := 150) C0.1 C0.2.1 dX7_scanToken_150 rfl (lv_at hl 2 rfl) ?_
          refine xget (pc := 151) C0 hH 9 13 clX7 ⟨Nat.le_of_ble_eq_true rfl, Nat.le_of_ble_eq_true rfl⟩ ⟨rfl, rfl⟩ (Nat.le_of_ble_eq_true rfl) fl_X7_53 (v := .int (i 9 13)) rfl dX7_scanToken_151 ?_
          refine xzast (pc := 154) (N := 600) C0 (Nat.le_of_ble_eq_true rfl) hH hS 16 ⟨Nat.le_of_ble_eq_true rfl, Nat.le_of_ble_eq_true rfl⟩ ⟨rfl, rfl⟩ hfr (vI (by omega) (by omega)) dX7_scanToken_154 (fun _ locs hH hS => ?_)
          have hH : Hd D tA b 0 78 zz i (va_up (va_up (va_up (va_up (va_up (va_up (va_up F 10 (upd (F 10) (Int32.toNatClampNeg (i 9 7)) r2)) 11 (upd (F 11) (Int32.toNatClampNeg (i 9 7)) (i 9 10))) 12 (upd (F 12) (Int32.toNatClampNeg (i 9 7)) r3)) 13 (upd (F 13) (Int32.toNatClampNeg (i 9 7)) (i 9 11))) 14 (upd (F 14) (Int32.toNatClampNeg (i 9 7)) (i 9 12))) 15 (upd (F 15) (Int32.toNatClampNeg (i 9 7)) r16)) 16 (upd (F 16) (Int32.toNatClampNeg (i 9 7)) (i 9 13))) G _ := hH
          refine lv_aload_n (pc := 155) C0.1 C0.2.1 dX7_scanToken_155 rfl (lv_at hl 2 rfl) ?_
          refine lv_dup (pc := 156) C0.1 C0.2.1 dX7_scanToken_156 rfl ?_
          refine xget (pc := 157) C0 hH 9 7 clX7 ⟨Nat.le_of_ble_eq_true rfl, Nat.le_of_ble_eq_true rfl⟩ ⟨rfl, rfl⟩ (Nat.le_of_ble_eq_true rfl) fl_X7_34 (v := .int (i 9 7)) rfl dX7_scanToken_157 ?_
          refine lv_iconst (pc := 160) (v := 1) C0.1 C0.2.1 dX7_scanToken_160 (by decide) ?_
          have : Int32.toInt 1 = 1 := rfl
          refine lv_iadd (pc := 161) C0.1 C0.2.1 dX7_scanToken_161 ?_
          refine lv_topi (fun x17 ex17 => ?_)
          have hx17 : Int32.toInt x17 = Int32.toInt (i 9 7) + Int32.toInt 1 := by rw [ex17]; exact fb_addI (by omega) (by omega)
          refine xputI (pc := 162) C0 (Nat.le_of_ble_eq_true rfl) hH hS 9 7 clX7 ⟨Nat.le_of_ble_eq_true rfl, Nat.le_of_ble_eq_true rfl⟩ ⟨rfl, rfl⟩ ⟨Nat.le_of_ble_eq_true rfl, rfl, rfl⟩ fl_X7_34 (x := x17) ⟨rfl, rfl⟩ dX7_scanToken_162 (fun _ locs hH hS _ => ?_)
          have hH : Hd D tA b 0 78 zz (up2 i 9 7 x17) (va_up (va_up (va_up (va_up (va_up (va_up (va_up F 10 (upd (F 10) (Int32.toNatClampNeg (i 9 7)) r2)) 11 (upd (F 11) (Int32.toNatClampNeg (i 9 7)) (i 9 10))) 12 (upd (F 12) (Int32.toNatClampNeg (i 9 7)) r3)) 13 (upd (F 13) (Int32.toNatClampNeg (i 9 7)) (i 9 11))) 14 (upd (F 14) (Int32.toNatClampNeg (i 9 7)) (i 9 12))) 15 (upd (F 15) (Int32.toNatClampNeg (i 9 7)) r16)) 16 (upd (F 16) (Int32.toNatClampNeg (i 9 7)) (i 9 13))) G _ := hH
          refine lv_aload_n (pc := 165) C0.1 C0.2.1 dX7_scanToken_165 rfl (lv_at hl 2 rfl) ?_
          refine lv_iconst (pc := 166) (v := 0) C0.1 C0.2.1 dX7_scanToken_166 (by decide) ?_
          refine xputI (pc := 167) C0 (Nat.le_of_ble_eq_true rfl) hH hS 9 13 clX7 ⟨Nat.le_of_ble_eq_true rfl, Nat.le_of_ble_eq_true rfl⟩ ⟨rfl, rfl⟩ ⟨Nat.le_of_ble_eq_true rfl, rfl, rfl⟩ fl_X7_53 (x := 0) ⟨rfl, rfl⟩ dX7_scanToken_167 (fun _ locs hH hS _ => ?_)
          have hH : Hd D tA b 0 78 zz (up2 (up2 i 9 7 x17) 9 13 0) (va_up (va_up (va_up (va_up (va_up (va_up (va_up F 10 (upd (F 10) (Int32.toNatClampNeg (i 9 7)) r2)) 11 (upd (F 11) (Int32.toNatClampNeg (i 9 7)) (i 9 10))) 12 (upd (F 12) (Int32.toNatClampNeg (i 9 7)) r3)) 13 (upd (F 13) (Int32.toNatClampNeg (i 9 7)) (i 9 11))) 14 (upd (F 14) (Int32.toNatClampNeg (i 9 7)) (i 9 12))) 15 (upd (F 15) (Int32.toNatClampNeg (i 9 7)) r16)) 16 (upd (F 16) (Int32.toNatClampNeg (i 9 7)) (i 9 13))) G _ := hH
          refine lv_aload_n (pc := 170) C0.1 C0.2.1 dX7_scanToken_170 rfl (lv_at hl 2 rfl) ?_
          refine lv_aload_n (pc := 171) C0.1 C0.2.1 dX7_scanToken_171 rfl (lv_at hl 3 rfl) ?_
          refine lv_iload (pc := 172) C0.1 C0.2.1 dX7_scanToken_172 (lv_at hl 0 rfl) ?_
          refine lv_aload_n (pc := 174) C0.1 C0.2.1 dX7_scanToken_174 rfl (lv_at hl 4 rfl) ?_
          refine xget (pc := 175) C0 hH 1 7 clX1 ⟨Nat.le_of_ble_eq_true rfl, Nat.le_of_ble_eq_true rfl⟩ ⟨rfl, rfl⟩ (Nat.le_of_ble_eq_true rfl) fl_X7_66 (v := .int (i 1 7)) rfl dX7_scanToken_175 ?_
          refine xcVV (pc := 178) 9 [.ref (b + 4), .int r3, .int (i 1 7)] (g_X7_pass_9 l D tA b (up2 (up2 i 9 7 x17) 9 13 0) (va_up (va_up (va_up (va_up (va_up (va_up (va_up F 10 (upd (F 10) (Int32.toNatClampNeg (i 9 7)) r2)) 11 (upd (F 11) (Int32.toNatClampNeg (i 9 7)) (i 9 10))) 12 (upd (F 12) (Int32.toNatClampNeg (i 9 7)) r3)) 13 (upd (F 13) (Int32.toNatClampNeg (i 9 7)) (i 9 11))) 14 (upd (F 14) (Int32.toNatClampNeg (i 9 7)) (i 9 12))) 15 (upd (F 15) (Int32.toNatClampNeg (i 9 7)) r16)) 16 (upd (F 16) (Int32.toNatClampNeg (i 9 7)) (i 9 13))) G r3 (i 1 7) (show 0 ≤ Int32.toInt (i 4 1) ∧ Int32.toInt (i 4 1) ≤ 600 from by omega)) C0 hH hS clX7 rfl ⟨⟨Nat.le_of_ble_eq_true rfl, Nat.le_of_ble_eq_true rfl⟩, rfl, rfl⟩ cw_X7_77 rfl ⟨Nat.le_of_ble_eq_true rfl, Nat.le_of_ble_eq_true rfl⟩ hl.1 rfl (Nat.le_of_ble_eq_true rfl) dX7_scanToken_178 ⟨Nat.le_of_ble_eq_true rfl, Nat.le_of_ble_eq_true rfl⟩ (fun ir18 Fr18 Gr18 _ locs hp hH hS => ?_)
          obtain ⟨honr18, ht7r18, ht13r18⟩ := hp
          try dsimp only at ht7r18 ht13r18
          have ht7r18I : Int32.toInt (ir18 9 7) = Int32.toInt x17 := congrArg Int32.toInt ht7r18
          exact xvret (pc := 181) C0 hr hH hS dX7_scanToken_181 ⟨(On.tr (On.f (On.f (On.f (On.f (On.f (On.f (On.f (On.i (On.i On.rf (by decide)) (by decide)) (by decide)) (by decide)) (by decide)) (by decide)) (by decide)) (by decide)) (by decide)) honr18 (by decide) (by decide)), by show 0 ≤ Int32.toInt (ir18 9 7); omega, by show Int32.toInt (ir18 9 7) ≤ 600; omega, by show ir18 9 13 = 0 ∨ ir18 9 13 = 1; rw [ht13r18]; exact Or.inl rfl⟩
    · have : Int32.toInt 600 = 600 := rfl
      have c6 : ¬ _ := fun q => c6 (Int32.lt_iff_toInt_lt.mpr q)
      refine lv_aload_n (pc := 35) C0.1 C0.2.1 dX7_scanToken_35 rfl (lv_at hl 2 rfl) ?_
      refine lv_iconst (pc := 36) (v := 1) C0.1 C0.2.1 dX7_scanToken_36 (by decide) ?_
      refine xputI (pc := 37) C0 (Nat.le_of_ble_eq_true rfl) hH hS 9 8 clX7 ⟨Nat.le_of_ble_eq_true rfl, Nat.le_of_ble_eq_true rfl⟩ ⟨rfl, rfl⟩ ⟨Nat.le_of_ble_eq_true rfl, rfl, rfl⟩ fl_X7_38 (x := 1) ⟨rfl, rfl⟩ dX7_scanToken_37 (fun _ locs hH hS _ => ?_)
      have hH : Hd D tA b 0 78 zz (up2 i 9 8 1) F G _ := hH
      refine lv_aload_n (pc := 40) C0.1 C0.2.1 dX7_scanToken_40 rfl (lv_at hl 2 rfl) ?_
      refine lv_aload_n (pc := 41) C0.1 C0.2.1 dX7_scanToken_41 rfl (lv_at hl 2 rfl) ?_
      refine xget (pc := 42) C0 hH 9 10 clX7 ⟨Nat.le_of_ble_eq_true rfl, Nat.le_of_ble_eq_true rfl⟩ ⟨rfl, rfl⟩ (Nat.le_of_ble_eq_true rfl) fl_X7_44 (v := .int (i 9 10)) rfl dX7_scanToken_42 ?_
      refine lv_topi (fun x19 ex19 => ?_)
      refine xputI (pc := 45) C0 (Nat.le_of_ble_eq_true rfl) hH hS 9 9 clX7 ⟨Nat.le_of_ble_eq_true rfl, Nat.le_of_ble_eq_true rfl⟩ ⟨rfl, rfl⟩ ⟨Nat.le_of_ble_eq_true rfl, rfl, rfl⟩ fl_X7_41 (x := x19) ⟨rfl, rfl⟩ dX7_scanToken_45 (fun _ locs hH hS _ => ?_)
      have hH : Hd D tA b 0 78 zz (up2 (up2 i 9 8 1) 9 9 x19) F G _ := hH
      exact xvret (pc := 48) C0 hr hH hS dX7_scanToken_48 ⟨(On.i (On.i On.rf (by decide)) (by decide)), htk.1, htk.2, hfr⟩
set_option maxHeartbeats 4000000 in
set_option maxRecDepth 100000 in
theorem g_X7_scanNext_9 (l : Launch) (D : va_G) (tA : Nat → ClassId) (b : Nat) (i F : Nat → Nat → Int32) (G : Nat → Nat → Int64)  (hsz : 0 ≤ (i 4 1).toInt ∧ (i 4 1).toInt ≤ 600) (htk : 0 ≤ (i 9 7).toInt ∧ (i 9 7).toInt ≤ 600) (hfr : (i 9 13 = 0 ∨ i 9 13 = 1)) (htd : 0 ≤ (i 1 2).toInt ∧ (i 1 2).toInt ≤ 24) : xMV l yX7_scanNext cX7_scanNext 4 none 7 156 D tA b 0 78 i F G [.ref (b + 9), .ref (b + 4), .ref (b + 1)] (fun u => On 9 17 i F G u ∧ 0 ≤ (u.1 9 7).toInt ∧ (u.1 9 7).toInt ≤ 600 ∧ (u.1 9 13 = 0 ∨ u.1 9 13 = 1)) := by
  refine xstart RX7 rfl (by decide) (Nat.le_of_ble_eq_true rfl) ?_
  intro p e s m below meth c ls C0 hr hH hS hl
  have hl : lv_has ls 4 [(0, .ref (b + 9)), (1, .ref (b + 4)), (2, .ref (b + 1))] := hl
  refine lv_aload_n (pc := 0) C0.1 C0.2.1 dX7_scanNext_0 rfl (lv_at hl 1 rfl) ?_
  refine lv_aload_n (pc := 1) C0.1 C0.2.1 dX7_scanNext_1 rfl (lv_at hl 0 rfl) ?_
  refine xget (pc := 2) C0 hH 9 10 clX7 ⟨Nat.le_of_ble_eq_true rfl, Nat.le_of_ble_eq_true rfl⟩ ⟨rfl, rfl⟩ (Nat.le_of_ble_eq_true rfl) fl_X7_44 (v := .int (i 9 10)) rfl dX7_scanNext_2 ?_
  refine xcVI (pc := 5) 4 [.int (i 9 10)] (g_X6_at_4 l D tA b i F G (i 9 10) (show 0 ≤ Int32.toInt (i 4 1) ∧ Int32.toInt (i 4 1) ≤ 600 from by omega)) C0 hH hS clX6 rfl ⟨⟨Nat.le_of_ble_eq_true rfl, Nat.le_of_ble_eq_true rfl⟩, rfl, rfl⟩ cw_X7_75 rfl ⟨Nat.le_of_ble_eq_true rfl, Nat.le_of_ble_eq_true rfl⟩ hl.1 rfl (Nat.le_of_ble_eq_true rfl) dX7_scanNext_5 ⟨Nat.le_of_ble_eq_true rfl, Nat.le_of_ble_eq_true rfl⟩ (fun r1 ir1 Fr1 Gr1 _ locs hp hH hS => ?_)
  obtain ⟨hu, hpr1⟩ := hp
  cases hu
  refine lv_istore_n (pc := 8) (lv' := [(3, .int r1), (0, .ref (b + 9)), (1, .ref (b + 4)), (2, .ref (b + 1))]) C0.1 C0.2.1 dX7_scanNext_8 rfl hl (by decide) rfl (fun ls hl => ?_)
  refine lv_iload_n (pc := 9) C0.1 C0.2.1 dX7_scanNext_9 rfl (lv_at hl 0 rfl) ?_
  refine lv_bipush (pc := 10) (v := 32) C0.1 C0.2.1 dX7_scanNext_10 (by decide) ?_
  refine lv_icmp_eq (pc := 12) (tgt := 27) C0.1 C0.2.1 dX7_scanNext_12 (by decide) (fun c2 => ?_) (fun c2 => ?_)
  · have : Int32.toInt 32 = 32 := rfl
    have c2 := congrArg Int32.toInt c2
    refine lv_aload_n (pc := 27) C0.1 C0.2.1 dX7_scanNext_27 rfl (lv_at hl 1 rfl) ?_
    refine lv_aload_n (pc := 28) C0.1 C0.2.1 dX7_scanNext_28 rfl (lv_at hl 1 rfl) ?_
    refine xget (pc := 29) C0 hH 9 13 clX7 ⟨Nat.le_of_ble_eq_true rfl, Nat.le_of_ble_eq_true rfl⟩ ⟨rfl, rfl⟩ (Nat.le_of_ble_eq_true rfl) fl_X7_53 (v := .int (i 9 13)) rfl dX7_scanNext_29 ?_
    refine lv_if_ne (pc := 32) (tgt := 41) C0.1 C0.2.1 dX7_scanNext_32 (by decide) (fun c3 => ?_) (fun c3 => ?_)
    · have : Int32.toInt 0 = 0 := rfl
      have c3 : ¬ _ := fun q => c3 (Int32.toInt_inj.mp q)
      refine lv_iconst (pc := 41) (v := 1) C0.1 C0.2.1 dX7_scanNext_41 (by decide) ?_
      refine lv_goto (pc := 42) (tgt := 46) C0.1 C0.2.1 dX7_scanNext_42 (by decide) ?_
      refine xputI (pc := 46) C0 (Nat.le_of_ble_eq_true rfl) hH hS 9 13 clX7 ⟨Nat.le_of_ble_eq_true rfl, Nat.le_of_ble_eq_true rfl⟩ ⟨rfl, rfl⟩ ⟨Nat.le_of_ble_eq_true rfl, rfl, rfl⟩ fl_X7_53 (x := 1) ⟨rfl, rfl⟩ dX7_scanNext_46 (fun _ locs hH hS _ => ?_)
      have hH : Hd D tA b 0 78 zz (up2 i 9 13 1) F G _ := hH
      refine lv_aload_n (pc := 49) C0.1 C0.2.1 dX7_scanNext_49 rfl (lv_at hl 1 rfl) ?_
      refine lv_aload_n (pc := 50) C0.1 C0.2.1 dX7_scanNext_50 rfl (lv_at hl 2 rfl) ?_
      refine lv_iconst (pc := 51) (v := 1) C0.1 C0.2.1 dX7_scanNext_51 (by decide) ?_
      refine lv_aload_n (pc := 52) C0.1 C0.2.1 dX7_scanNext_52 rfl (lv_at hl 3 rfl) ?_
      refine xget (pc := 53) C0 hH 1 7 clX1 ⟨Nat.le_of_ble_eq_true rfl, Nat.le_of_ble_eq_true rfl⟩ ⟨rfl, rfl⟩ (Nat.le_of_ble_eq_true rfl) fl_X7_66 (v := .int (i 1 7)) rfl dX7_scanNext_53 ?_
      refine xcVV (pc := 56) 9 [.ref (b + 4), .int 1, .int (i 1 7)] (g_X7_pass_9 l D tA b (up2 i 9 13 1) F G 1 (i 1 7) (show 0 ≤ Int32.toInt (i 4 1) ∧ Int32.toInt (i 4 1) ≤ 600 from by omega)) C0 hH hS clX7 rfl ⟨⟨Nat.le_of_ble_eq_true rfl, Nat.le_of_ble_eq_true rfl⟩, rfl, rfl⟩ cw_X7_77 rfl ⟨Nat.le_of_ble_eq_true rfl, Nat.le_of_ble_eq_true rfl⟩ hl.1 rfl (Nat.le_of_ble_eq_true rfl) dX7_scanNext_56 ⟨Nat.le_of_ble_eq_true rfl, Nat.le_of_ble_eq_true rfl⟩ (fun ir4 Fr4 Gr4 _ locs hp hH hS => ?_)
      obtain ⟨honr4, ht7r4, ht13r4⟩ := hp
      try dsimp only at ht7r4 ht13r4
      have ht7r4I : Int32.toInt (ir4 9 7) = Int32.toInt (i 9 7) := congrArg Int32.toInt ht7r4
      refine lv_goto (pc := 59) (tgt := 91) C0.1 C0.2.1 dX7_scanNext_59 (by decide) ?_
      exact xvret (pc := 91) C0 hr hH hS dX7_scanNext_91 ⟨(On.tr (On.i On.rf (by decide)) honr4 (by decide) (by decide)), by show 0 ≤ Int32.toInt (ir4 9 7); omega, by show Int32.toInt (ir4 9 7) ≤ 600; omega, by show ir4 9 13 = 0 ∨ ir4 9 13 = 1; rw [ht13r4]; first | exact hfr | exact Or.inr rfl | exact Or.inl rfl⟩
    · have : Int32.toInt 0 = 0 := rfl
      have c3 := congrArg Int32.toInt c3
      refine lv_iload_n (pc := 35) C0.1 C0.2.1 dX7_scanNext_35 rfl (lv_at hl 0 rfl) ?_
      refine lv_bipush (pc := 36) (v := 10) C0.1 C0.2.1 dX7_scanNext_36 (by decide) ?_
      refine lv_icmp_ne (pc := 38) (tgt := 45) C0.1 C0.2.1 dX7_scanNext_38 (by decide) (fun c5 => ?_) (fun c5 => ?_)
      · have : Int32.toInt 10 = 10 := rfl
        have c5 : ¬ _ := fun q => c5 (Int32.toInt_inj.mp q)
        refine lv_iconst (pc := 45) (v := 0) C0.1 C0.2.1 dX7_scanNext_45 (by decide) ?_
        refine xputI (pc := 46) C0 (Nat.le_of_ble_eq_true rfl) hH hS 9 13 clX7 ⟨Nat.le_of_ble_eq_true rfl, Nat.le_of_ble_eq_true rfl⟩ ⟨rfl, rfl⟩ ⟨Nat.le_of_ble_eq_true rfl, rfl, rfl⟩ fl_X7_53 (x := 0) ⟨rfl, rfl⟩ dX7_scanNext_46 (fun _ locs hH hS _ => ?_)
        have hH : Hd D tA b 0 78 zz (up2 i 9 13 0) F G _ := hH
        refine lv_aload_n (pc := 49) C0.1 C0.2.1 dX7_scanNext_49 rfl (lv_at hl 1 rfl) ?_
        refine lv_aload_n (pc := 50) C0.1 C0.2.1 dX7_scanNext_50 rfl (lv_at hl 2 rfl) ?_
        refine lv_iconst (pc := 51) (v := 1) C0.1 C0.2.1 dX7_scanNext_51 (by decide) ?_
        refine lv_aload_n (pc := 52) C0.1 C0.2.1 dX7_scanNext_52 rfl (lv_at hl 3 rfl) ?_
        refine xget (pc := 53) C0 hH 1 7 clX1 ⟨Nat.le_of_ble_eq_true rfl, Nat.le_of_ble_eq_true rfl⟩ ⟨rfl, rfl⟩ (Nat.le_of_ble_eq_true rfl) fl_X7_66 (v := .int (i 1 7)) rfl dX7_scanNext_53 ?_
        refine xcVV (pc := 56) 9 [.ref (b + 4), .int 1, .int (i 1 7)] (g_X7_pass_9 l D tA b (up2 i 9 13 0) F G 1 (i 1 7) (show 0 ≤ Int32.toInt (i 4 1) ∧ Int32.toInt (i 4 1) ≤ 600 from by omega)) C0 hH hS clX7 rfl ⟨⟨Nat.le_of_ble_eq_true rfl, Nat.le_of_ble_eq_true rfl⟩, rfl, rfl⟩ cw_X7_77 rfl ⟨Nat.le_of_ble_eq_true rfl, Nat.le_of_ble_eq_true rfl⟩ hl.1 rfl (Nat.le_of_ble_eq_true rfl) dX7_scanNext_56 ⟨Nat.le_of_ble_eq_true rfl, Nat.le_of_ble_eq_true rfl⟩ (fun ir6 Fr6 Gr6 _ locs hp hH hS => ?_)
        obtain ⟨honr6, ht7r6, ht13r6⟩ := hp
        try dsimp only at ht7r6 ht13r6
        have ht7r6I : Int32.toInt (ir6 9 7) = Int32.toInt (i 9 7) := congrArg Int32.toInt ht7r6
        refine lv_goto (pc := 59) (tgt := 91) C0.1 C0.2.1 dX7_scanNext_59 (by decide) ?_
        exact xvret (pc := 91) C0 hr hH hS dX7_scanNext_91 ⟨(On.tr (On.i On.rf (by decide)) honr6 (by decide) (by decide)), by show 0 ≤ Int32.toInt (ir6 9 7); omega, by show Int32.toInt (ir6 9 7) ≤ 600; omega, by show ir6 9 13 = 0 ∨ ir6 9 13 = 1; rw [ht13r6]; first | exact hfr | exact Or.inr rfl | exact Or.inl rfl⟩
      · have : Int32.toInt 10 = 10 := rfl
        have c5 := congrArg Int32.toInt c5
        refine lv_iconst (pc := 41) (v := 1) C0.1 C0.2.1 dX7_scanNext_41 (by decide) ?_
        refine lv_goto (pc := 42) (tgt := 46) C0.1 C0.2.1 dX7_scanNext_42 (by decide) ?_
        refine xputI (pc := 46) C0 (Nat.le_of_ble_eq_true rfl) hH hS 9 13 clX7 ⟨Nat.le_of_ble_eq_true rfl, Nat.le_of_ble_eq_true rfl⟩ ⟨rfl, rfl⟩ ⟨Nat.le_of_ble_eq_true rfl, rfl, rfl⟩ fl_X7_53 (x := 1) ⟨rfl, rfl⟩ dX7_scanNext_46 (fun _ locs hH hS _ => ?_)
        have hH : Hd D tA b 0 78 zz (up2 i 9 13 1) F G _ := hH
        refine lv_aload_n (pc := 49) C0.1 C0.2.1 dX7_scanNext_49 rfl (lv_at hl 1 rfl) ?_
        refine lv_aload_n (pc := 50) C0.1 C0.2.1 dX7_scanNext_50 rfl (lv_at hl 2 rfl) ?_
        refine lv_iconst (pc := 51) (v := 1) C0.1 C0.2.1 dX7_scanNext_51 (by decide) ?_
        refine lv_aload_n (pc := 52) C0.1 C0.2.1 dX7_scanNext_52 rfl (lv_at hl 3 rfl) ?_
        refine xget (pc := 53) C0 hH 1 7 clX1 ⟨Nat.le_of_ble_eq_true rfl, Nat.le_of_ble_eq_true rfl⟩ ⟨rfl, rfl⟩ (Nat.le_of_ble_eq_true rfl) fl_X7_66 (v := .int (i 1 7)) rfl dX7_scanNext_53 ?_
        refine xcVV (pc := 56) 9 [.ref (b + 4), .int 1, .int (i 1 7)] (g_X7_pass_9 l D tA b (up2 i 9 13 1) F G 1 (i 1 7) (show 0 ≤ Int32.toInt (i 4 1) ∧ Int32.toInt (i 4 1) ≤ 600 from by omega)) C0 hH hS clX7 rfl ⟨⟨Nat.le_of_ble_eq_true rfl, Nat.le_of_ble_eq_true rfl⟩, rfl, rfl⟩ cw_X7_77 rfl ⟨Nat.le_of_ble_eq_true rfl, Nat.le_of_ble_eq_true rfl⟩ hl.1 rfl (Nat.le_of_ble_eq_true rfl) dX7_scanNext_56 ⟨Nat.le_of_ble_eq_true rfl, Nat.le_of_ble_eq_true rfl⟩ (fun ir7 Fr7 Gr7 _ locs hp hH hS => ?_)
        obtain ⟨honr7, ht7r7, ht13r7⟩ := hp
        try dsimp only at ht7r7 ht13r7
        have ht7r7I : Int32.toInt (ir7 9 7) = Int32.toInt (i 9 7) := congrArg Int32.toInt ht7r7
        refine lv_goto (pc := 59) (tgt := 91) C0.1 C0.2.1 dX7_scanNext_59 (by decide) ?_
        exact xvret (pc := 91) C0 hr hH hS dX7_scanNext_91 ⟨(On.tr (On.i On.rf (by decide)) honr7 (by decide) (by decide)), by show 0 ≤ Int32.toInt (ir7 9 7); omega, by show Int32.toInt (ir7 9 7) ≤ 600; omega, by show ir7 9 13 = 0 ∨ ir7 9 13 = 1; rw [ht13r7]; first | exact hfr | exact Or.inr rfl | exact Or.inl rfl⟩
  · have : Int32.toInt 32 = 32 := rfl
    have c2 : ¬ _ := fun q => c2 (Int32.toInt_inj.mp q)
    refine lv_iload_n (pc := 15) C0.1 C0.2.1 dX7_scanNext_15 rfl (lv_at hl 0 rfl) ?_
    refine lv_bipush (pc := 16) (v := 9) C0.1 C0.2.1 dX7_scanNext_16 (by decide) ?_
    refine lv_icmp_eq (pc := 18) (tgt := 27) C0.1 C0.2.1 dX7_scanNext_18 (by decide) (fun c8 => ?_) (fun c8 => ?_)
    · have : Int32.toInt 9 = 9 := rfl
      have c8 := congrArg Int32.toInt c8
      refine lv_aload_n (pc := 27) C0.1 C0.2.1 dX7_scanNext_27 rfl (lv_at hl 1 rfl) ?_
      refine lv_aload_n (pc := 28) C0.1 C0.2.1 dX7_scanNext_28 rfl (lv_at hl 1 rfl) ?_
      refine xget (pc := 29) C0 hH 9 13 clX7 ⟨Nat.le_of_ble_eq_true rfl, Nat.le_of_ble_eq_true rfl⟩ ⟨rfl, rfl⟩ (Nat.le_of_ble_eq_true rfl) fl_X7_53 (v := .int (i 9 13)) rfl dX7_scanNext_29 ?_
      refine lv_if_ne (pc := 32) (tgt := 41) C0.1 C0.2.1 dX7_scanNext_32 (by decide) (fun c9 => ?_) (fun c9 => ?_)
      · have : Int32.toInt 0 = 0 := rfl
        have c9 : ¬ _ := fun q => c9 (Int32.toInt_inj.mp q)
        refine lv_iconst (pc := 41) (v := 1) C0.1 C0.2.1 dX7_scanNext_41 (by decide) ?_
        refine lv_goto (pc := 42) (tgt := 46) C0.1 C0.2.1 dX7_scanNext_42 (by decide) ?_
        refine xputI (pc := 46) C0 (Nat.le_of_ble_eq_true rfl) hH hS 9 13 clX7 ⟨Nat.le_of_ble_eq_true rfl, Nat.le_of_ble_eq_true rfl⟩ ⟨rfl, rfl⟩ ⟨Nat.le_of_ble_eq_true rfl, rfl, rfl⟩ fl_X7_53 (x := 1) ⟨rfl, rfl⟩ dX7_scanNext_46 (fun _ locs hH hS _ => ?_)
        have hH : Hd D tA b 0 78 zz (up2 i 9 13 1) F G _ := hH
        refine lv_aload_n (pc := 49) C0.1 C0.2.1 dX7_scanNext_49 rfl (lv_at hl 1 rfl) ?_
        refine lv_aload_n (pc := 50) C0.1 C0.2.1 dX7_scanNext_50 rfl (lv_at hl 2 rfl) ?_
        refine lv_iconst (pc := 51) (v := 1) C0.1 C0.2.1 dX7_scanNext_51 (by decide) ?_
        refine lv_aload_n (pc := 52) C0.1 C0.2.1 dX7_scanNext_52 rfl (lv_at hl 3 rfl) ?_
        refine xget (pc := 53) C0 hH 1 7 clX1 ⟨Nat.le_of_ble_eq_true rfl, Nat.le_of_ble_eq_true rfl⟩ ⟨rfl, rfl⟩ (Nat.le_of_ble_eq_true rfl) fl_X7_66 (v := .int (i 1 7)) rfl dX7_scanNext_53 ?_
        refine xcVV (pc := 56) 9 [.ref (b + 4), .int 1, .int (i 1 7)] (g_X7_pass_9 l D tA b (up2 i 9 13 1) F G 1 (i 1 7) (show 0 ≤ Int32.toInt (i 4 1) ∧ Int32.toInt (i 4 1) ≤ 600 from by omega)) C0 hH hS clX7 rfl ⟨⟨Nat.le_of_ble_eq_true rfl, Nat.le_of_ble_eq_true rfl⟩, rfl, rfl⟩ cw_X7_77 rfl ⟨Nat.le_of_ble_eq_true rfl, Nat.le_of_ble_eq_true rfl⟩ hl.1 rfl (Nat.le_of_ble_eq_true rfl) dX7_scanNext_56 ⟨Nat.le_of_ble_eq_true rfl, Nat.le_of_ble_eq_true rfl⟩ (fun ir10 Fr10 Gr10 _ locs hp hH hS => ?_)
        obtain ⟨honr10, ht7r10, ht13r10⟩ := hp
        try dsimp only at ht7r10 ht13r10
        have ht7r10I : Int32.toInt (ir10 9 7) = Int32.toInt (i 9 7) := congrArg Int32.toInt ht7r10
        refine lv_goto (pc := 59) (tgt := 91) C0.1 C0.2.1 dX7_scanNext_59 (by decide) ?_
        exact xvret (pc := 91) C0 hr hH hS dX7_scanNext_91 ⟨(On.tr (On.i On.rf (by decide)) honr10 (by decide) (by decide)), by show 0 ≤ Int32.toInt (ir10 9 7); omega, by show Int32.toInt (ir10 9 7) ≤ 600; omega, by show ir10 9 13 = 0 ∨ ir10 9 13 = 1; rw [ht13r10]; first | exact hfr | exact Or.inr rfl | exact Or.inl rfl⟩
      · have : Int32.toInt 0 = 0 := rfl
        have c9 := congrArg Int32.toInt c9
        refine lv_iload_n (pc := 35) C0.1 C0.2.1 dX7_scanNext_35 rfl (lv_at hl 0 rfl) ?_
        refine lv_bipush (pc := 36) (v := 10) C0.1 C0.2.1 dX7_scanNext_36 (by decide) ?_
        refine lv_icmp_ne (pc := 38) (tgt := 45) C0.1 C0.2.1 dX7_scanNext_38 (by decide) (fun c11 => ?_) (fun c11 => ?_)
        · have : Int32.toInt 10 = 10 := rfl
          have c11 : ¬ _ := fun q => c11 (Int32.toInt_inj.mp q)
          refine lv_iconst (pc := 45) (v := 0) C0.1 C0.2.1 dX7_scanNext_45 (by decide) ?_
          refine xputI (pc := 46) C0 (Nat.le_of_ble_eq_true rfl) hH hS 9 13 clX7 ⟨Nat.le_of_ble_eq_true rfl, Nat.le_of_ble_eq_true rfl⟩ ⟨rfl, rfl⟩ ⟨Nat.le_of_ble_eq_true rfl, rfl, rfl⟩ fl_X7_53 (x := 0) ⟨rfl, rfl⟩ dX7_scanNext_46 (fun _ locs hH hS _ => ?_)
          have hH : Hd D tA b 0 78 zz (up2 i 9 13 0) F G _ := hH
          refine lv_aload_n (pc := 49) C0.1 C0.2.1 dX7_scanNext_49 rfl (lv_at hl 1 rfl) ?_
          refine lv_aload_n (pc := 50) C0.1 C0.2.1 dX7_scanNext_50 rfl (lv_at hl 2 rfl) ?_
          refine lv_iconst (pc := 51) (v := 1) C0.1 C0.2.1 dX7_scanNext_51 (by decide) ?_
          refine lv_aload_n (pc := 52) C0.1 C0.2.1 dX7_scanNext_52 rfl (lv_at hl 3 rfl) ?_
          refine xget (pc := 53) C0 hH 1 7 clX1 ⟨Nat.le_of_ble_eq_true rfl, Nat.le_of_ble_eq_true rfl⟩ ⟨rfl, rfl⟩ (Nat.le_of_ble_eq_true rfl) fl_X7_66 (v := .int (i 1 7)) rfl dX7_scanNext_53 ?_
          refine xcVV (pc := 56) 9 [.ref (b + 4), .int 1, .int (i 1 7)] (g_X7_pass_9 l D tA b (up2 i 9 13 0) F G 1 (i 1 7) (show 0 ≤ Int32.toInt (i 4 1) ∧ Int32.toInt (i 4 1) ≤ 600 from by omega)) C0 hH hS clX7 rfl ⟨⟨Nat.le_of_ble_eq_true rfl, Nat.le_of_ble_eq_true rfl⟩, rfl, rfl⟩ cw_X7_77 rfl ⟨Nat.le_of_ble_eq_true rfl, Nat.le_of_ble_eq_true rfl⟩ hl.1 rfl (Nat.le_of_ble_eq_true rfl) dX7_scanNext_56 ⟨Nat.le_of_ble_eq_true rfl, Nat.le_of_ble_eq_true rfl⟩ (fun ir12 Fr12 Gr12 _ locs hp hH hS => ?_)
          obtain ⟨honr12, ht7r12, ht13r12⟩ := hp
          try dsimp only at ht7r12 ht13r12
          have ht7r12I : Int32.toInt (ir12 9 7) = Int32.toInt (i 9 7) := congrArg Int32.toInt ht7r12
          refine lv_goto (pc := 59) (tgt := 91) C0.1 C0.2.1 dX7_scanNext_59 (by decide) ?_
          exact xvret (pc := 91) C0 hr hH hS dX7_scanNext_91 ⟨(On.tr (On.i On.rf (by decide)) honr12 (by decide) (by decide)), by show 0 ≤ Int32.toInt (ir12 9 7); omega, by show Int32.toInt (ir12 9 7) ≤ 600; omega, by show ir12 9 13 = 0 ∨ ir12 9 13 = 1; rw [ht13r12]; first | exact hfr | exact Or.inr rfl | exact Or.inl rfl⟩
        · have : Int32.toInt 10 = 10 := rfl
          have c11 := congrArg Int32.toInt c11
          refine lv_iconst (pc := 41) (v := 1) C0.1 C0.2.1 dX7_scanNext_41 (by decide) ?_
          refine lv_goto (pc := 42) (tgt := 46) C0.1 C0.2.1 dX7_scanNext_42 (by decide) ?_
          refine xputI (pc := 46) C0 (Nat.le_of_ble_eq_true rfl) hH hS 9 13 clX7 ⟨Nat.le_of_ble_eq_true rfl, Nat.le_of_ble_eq_true rfl⟩ ⟨rfl, rfl⟩ ⟨Nat.le_of_ble_eq_true rfl, rfl, rfl⟩ fl_X7_53 (x := 1) ⟨rfl, rfl⟩ dX7_scanNext_46 (fun _ locs hH hS _ => ?_)
          have hH : Hd D tA b 0 78 zz (up2 i 9 13 1) F G _ := hH
          refine lv_aload_n (pc := 49) C0.1 C0.2.1 dX7_scanNext_49 rfl (lv_at hl 1 rfl) ?_
          refine lv_aload_n (pc := 50) C0.1 C0.2.1 dX7_scanNext_50 rfl (lv_at hl 2 rfl) ?_
          refine lv_iconst (pc := 51) (v := 1) C0.1 C0.2.1 dX7_scanNext_51 (by decide) ?_
          refine lv_aload_n (pc := 52) C0.1 C0.2.1 dX7_scanNext_52 rfl (lv_at hl 3 rfl) ?_
          refine xget (pc := 53) C0 hH 1 7 clX1 ⟨Nat.le_of_ble_eq_true rfl, Nat.le_of_ble_eq_true rfl⟩ ⟨rfl, rfl⟩ (Nat.le_of_ble_eq_true rfl) fl_X7_66 (v := .int (i 1 7)) rfl dX7_scanNext_53 ?_
          refine xcVV (pc := 56) 9 [.ref (b + 4), .int 1, .int (i 1 7)] (g_X7_pass_9 l D tA b (up2 i 9 13 1) F G 1 (i 1 7) (show 0 ≤ Int32.toInt (i 4 1) ∧ Int32.toInt (i 4 1) ≤ 600 from by omega)) C0 hH hS clX7 rfl ⟨⟨Nat.le_of_ble_eq_true rfl, Nat.le_of_ble_eq_true rfl⟩, rfl, rfl⟩ cw_X7_77 rfl ⟨Nat.le_of_ble_eq_true rfl, Nat.le_of_ble_eq_true rfl⟩ hl.1 rfl (Nat.le_of_ble_eq_true rfl) dX7_scanNext_56 ⟨Nat.le_of_ble_eq_true rfl, Nat.le_of_ble_eq_true rfl⟩ (fun ir13 Fr13 Gr13 _ locs hp hH hS => ?_)
          obtain ⟨honr13, ht7r13, ht13r13⟩ := hp
          try dsimp only at ht7r13 ht13r13
          have ht7r13I : Int32.toInt (ir13 9 7) = Int32.toInt (i 9 7) := congrArg Int32.toInt ht7r13
          refine lv_goto (pc := 59) (tgt := 91) C0.1 C0.2.1 dX7_scanNext_59 (by decide) ?_
          exact xvret (pc := 91) C0 hr hH hS dX7_scanNext_91 ⟨(On.tr (On.i On.rf (by decide)) honr13 (by decide) (by decide)), by show 0 ≤ Int32.toInt (ir13 9 7); omega, by show Int32.toInt (ir13 9 7) ≤ 600; omega, by show ir13 9 13 = 0 ∨ ir13 9 13 = 1; rw [ht13r13]; first | exact hfr | exact Or.inr rfl | exact Or.inl rfl⟩
    · have : Int32.toInt 9 = 9 := rfl
      have c8 : ¬ _ := fun q => c8 (Int32.toInt_inj.mp q)
      refine lv_iload_n (pc := 21) C0.1 C0.2.1 dX7_scanNext_21 rfl (lv_at hl 0 rfl) ?_
      refine lv_bipush (pc := 22) (v := 10) C0.1 C0.2.1 dX7_scanNext_22 (by decide) ?_
      refine lv_icmp_ne (pc := 24) (tgt := 62) C0.1 C0.2.1 dX7_scanNext_24 (by decide) (fun c14 => ?_) (fun c14 => ?_)
      · have : Int32.toInt 10 = 10 := rfl
        have c14 : ¬ _ := fun q => c14 (Int32.toInt_inj.mp q)
        refine lv_iload_n (pc := 62) C0.1 C0.2.1 dX7_scanNext_62 rfl (lv_at hl 0 rfl) ?_
        refine lv_bipush (pc := 63) (v := 35) C0.1 C0.2.1 dX7_scanNext_63 (by decide) ?_
        refine lv_icmp_ne (pc := 65) (tgt := 85) C0.1 C0.2.1 dX7_scanNext_65 (by decide) (fun c15 => ?_) (fun c15 => ?_)
        · have : Int32.toInt 35 = 35 := rfl
          have c15 : ¬ _ := fun q => c15 (Int32.toInt_inj.mp q)
          refine lv_aload_n (pc := 85) C0.1 C0.2.1 dX7_scanNext_85 rfl (lv_at hl 1 rfl) ?_
          refine lv_aload_n (pc := 86) C0.1 C0.2.1 dX7_scanNext_86 rfl (lv_at hl 2 rfl) ?_
          refine lv_aload_n (pc := 87) C0.1 C0.2.1 dX7_scanNext_87 rfl (lv_at hl 3 rfl) ?_
          refine xcVV (pc := 88) 9 [.ref (b + 4), .ref (b + 1)] (g_X7_scanToken_9 l D tA b i F G  (show 0 ≤ Int32.toInt (i 4 1) ∧ Int32.toInt (i 4 1) ≤ 600 from by omega) (show 0 ≤ Int32.toInt (i 9 7) ∧ Int32.toInt (i 9 7) ≤ 600 from by omega) hfr (show 0 ≤ Int32.toInt (i 1 2) ∧ Int32.toInt (i 1 2) ≤ 24 from by omega)) C0 hH hS clX7 rfl ⟨⟨Nat.le_of_ble_eq_true rfl, Nat.le_of_ble_eq_true rfl⟩, rfl, rfl⟩ cw_X7_85 rfl ⟨Nat.le_of_ble_eq_true rfl, Nat.le_of_ble_eq_true rfl⟩ hl.1 rfl (Nat.le_of_ble_eq_true rfl) dX7_scanNext_88 ⟨Nat.le_of_ble_eq_true rfl, Nat.le_of_ble_eq_true rfl⟩ (fun ir16 Fr16 Gr16 _ locs hp hH hS => ?_)
          obtain ⟨honr16, ht1r16, ht2r16, htfr16⟩ := hp
          try dsimp only at ht1r16 ht2r16 htfr16
          exact xvret (pc := 91) C0 hr hH hS dX7_scanNext_91 ⟨(On.tr On.rf honr16 (by decide) (by decide)), ht1r16, ht2r16, htfr16⟩
        · have : Int32.toInt 35 = 35 := rfl
          have c15 := congrArg Int32.toInt c15
          refine lv_aload_n (pc := 68) C0.1 C0.2.1 dX7_scanNext_68 rfl (lv_at hl 1 rfl) ?_
          refine lv_aload_n (pc := 69) C0.1 C0.2.1 dX7_scanNext_69 rfl (lv_at hl 2 rfl) ?_
          refine lv_aload_n (pc := 70) C0.1 C0.2.1 dX7_scanNext_70 rfl (lv_at hl 1 rfl) ?_
          refine lv_aload_n (pc := 71) C0.1 C0.2.1 dX7_scanNext_71 rfl (lv_at hl 2 rfl) ?_
          refine xcVI (pc := 72) 9 [.ref (b + 4)] (g_X7_noteLength_9 l D tA b i F G  (show 0 ≤ Int32.toInt (i 4 1) ∧ Int32.toInt (i 4 1) ≤ 600 from by omega)) C0 hH hS clX7 rfl ⟨⟨Nat.le_of_ble_eq_true rfl, Nat.le_of_ble_eq_true rfl⟩, rfl, rfl⟩ cw_X7_81 rfl ⟨Nat.le_of_ble_eq_true rfl, Nat.le_of_ble_eq_true rfl⟩ hl.1 rfl (Nat.le_of_ble_eq_true rfl) dX7_scanNext_72 ⟨Nat.le_of_ble_eq_true rfl, Nat.le_of_ble_eq_true rfl⟩ (fun r17 ir17 Fr17 Gr17 _ locs hp hH hS => ?_)
          obtain ⟨hu, hpr17⟩ := hp
          cases hu
          refine lv_aload_n (pc := 75) C0.1 C0.2.1 dX7_scanNext_75 rfl (lv_at hl 3 rfl) ?_
          refine xget (pc := 76) C0 hH 1 7 clX1 ⟨Nat.le_of_ble_eq_true rfl, Nat.le_of_ble_eq_true rfl⟩ ⟨rfl, rfl⟩ (Nat.le_of_ble_eq_true rfl) fl_X7_66 (v := .int (i 1 7)) rfl dX7_scanNext_76 ?_
          refine xcVV (pc := 79) 9 [.ref (b + 4), .int r17, .int (i 1 7)] (g_X7_pass_9 l D tA b i F G r17 (i 1 7) (show 0 ≤ Int32.toInt (i 4 1) ∧ Int32.toInt (i 4 1) ≤ 600 from by omega)) C0 hH hS clX7 rfl ⟨⟨Nat.le_of_ble_eq_true rfl, Nat.le_of_ble_eq_true rfl⟩, rfl, rfl⟩ cw_X7_77 rfl ⟨Nat.le_of_ble_eq_true rfl, Nat.le_of_ble_eq_true rfl⟩ hl.1 rfl (Nat.le_of_ble_eq_true rfl) dX7_scanNext_79 ⟨Nat.le_of_ble_eq_true rfl, Nat.le_of_ble_eq_true rfl⟩ (fun ir18 Fr18 Gr18 _ locs hp hH hS => ?_)
          obtain ⟨honr18, ht7r18, ht13r18⟩ := hp
          try dsimp only at ht7r18 ht13r18
          have ht7r18I : Int32.toInt (ir18 9 7) = Int32.toInt (i 9 7) := congrArg Int32.toInt ht7r18
          refine lv_goto (pc := 82) (tgt := 91) C0.1 C0.2.1 dX7_scanNext_82 (by decide) ?_
          exact xvret (pc := 91) C0 hr hH hS dX7_scanNext_91 ⟨(On.tr On.rf honr18 (by decide) (by decide)), by show 0 ≤ Int32.toInt (ir18 9 7); omega, by show Int32.toInt (ir18 9 7) ≤ 600; omega, by show ir18 9 13 = 0 ∨ ir18 9 13 = 1; rw [ht13r18]; first | exact hfr | exact Or.inr rfl | exact Or.inl rfl⟩
      · have : Int32.toInt 10 = 10 := rfl
        have c14 := congrArg Int32.toInt c14
        refine lv_aload_n (pc := 27) C0.1 C0.2.1 dX7_scanNext_27 rfl (lv_at hl 1 rfl) ?_
        refine lv_aload_n (pc := 28) C0.1 C0.2.1 dX7_scanNext_28 rfl (lv_at hl 1 rfl) ?_
        refine xget (pc := 29) C0 hH 9 13 clX7 ⟨Nat.le_of_ble_eq_true rfl, Nat.le_of_ble_eq_true rfl⟩ ⟨rfl, rfl⟩ (Nat.le_of_ble_eq_true rfl) fl_X7_53 (v := .int (i 9 13)) rfl dX7_scanNext_29 ?_
        refine lv_if_ne (pc := 32) (tgt := 41) C0.1 C0.2.1 dX7_scanNext_32 (by decide) (fun c19 => ?_) (fun c19 => ?_)
        · have : Int32.toInt 0 = 0 := rfl
          have c19 : ¬ _ := fun q => c19 (Int32.toInt_inj.mp q)
          refine lv_iconst (pc := 41) (v := 1) C0.1 C0.2.1 dX7_scanNext_41 (by decide) ?_
          refine lv_goto (pc := 42) (tgt := 46) C0.1 C0.2.1 dX7_scanNext_42 (by decide) ?_
          refine xputI (pc := 46) C0 (Nat.le_of_ble_eq_true rfl) hH hS 9 13 clX7 ⟨Nat.le_of_ble_eq_true rfl, Nat.le_of_ble_eq_true rfl⟩ ⟨rfl, rfl⟩ ⟨Nat.le_of_ble_eq_true rfl, rfl, rfl⟩ fl_X7_53 (x := 1) ⟨rfl, rfl⟩ dX7_scanNext_46 (fun _ locs hH hS _ => ?_)
          have hH : Hd D tA b 0 78 zz (up2 i 9 13 1) F G _ := hH
          refine lv_aload_n (pc := 49) C0.1 C0.2.1 dX7_scanNext_49 rfl (lv_at hl 1 rfl) ?_
          refine lv_aload_n (pc := 50) C0.1 C0.2.1 dX7_scanNext_50 rfl (lv_at hl 2 rfl) ?_
          refine lv_iconst (pc := 51) (v := 1) C0.1 C0.2.1 dX7_scanNext_51 (by decide) ?_
          refine lv_aload_n (pc := 52) C0.1 C0.2.1 dX7_scanNext_52 rfl (lv_at hl 3 rfl) ?_
          refine xget (pc := 53) C0 hH 1 7 clX1 ⟨Nat.le_of_ble_eq_true rfl, Nat.le_of_ble_eq_true rfl⟩ ⟨rfl, rfl⟩ (Nat.le_of_ble_eq_true rfl) fl_X7_66 (v := .int (i 1 7)) rfl dX7_scanNext_53 ?_
          refine xcVV (pc := 56) 9 [.ref (b + 4), .int 1, .int (i 1 7)] (g_X7_pass_9 l D tA b (up2 i 9 13 1) F G 1 (i 1 7) (show 0 ≤ Int32.toInt (i 4 1) ∧ Int32.toInt (i 4 1) ≤ 600 from by omega)) C0 hH hS clX7 rfl ⟨⟨Nat.le_of_ble_eq_true rfl, Nat.le_of_ble_eq_true rfl⟩, rfl, rfl⟩ cw_X7_77 rfl ⟨Nat.le_of_ble_eq_true rfl, Nat.le_of_ble_eq_true rfl⟩ hl.1 rfl (Nat.le_of_ble_eq_true rfl) dX7_scanNext_56 ⟨Nat.le_of_ble_eq_true rfl, Nat.le_of_ble_eq_true rfl⟩ (fun ir20 Fr20 Gr20 _ locs hp hH hS => ?_)
          obtain ⟨honr20, ht7r20, ht13r20⟩ := hp
          try dsimp only at ht7r20 ht13r20
          have ht7r20I : Int32.toInt (ir20 9 7) = Int32.toInt (i 9 7) := congrArg Int32.toInt ht7r20
          refine lv_goto (pc := 59) (tgt := 91) C0.1 C0.2.1 dX7_scanNext_59 (by decide) ?_
          exact xvret (pc := 91) C0 hr hH hS dX7_scanNext_91 ⟨(On.tr (On.i On.rf (by decide)) honr20 (by decide) (by decide)), by show 0 ≤ Int32.toInt (ir20 9 7); omega, by show Int32.toInt (ir20 9 7) ≤ 600; omega, by show ir20 9 13 = 0 ∨ ir20 9 13 = 1; rw [ht13r20]; first | exact hfr | exact Or.inr rfl | exact Or.inl rfl⟩
        · have : Int32.toInt 0 = 0 := rfl
          have c19 := congrArg Int32.toInt c19
          refine lv_iload_n (pc := 35) C0.1 C0.2.1 dX7_scanNext_35 rfl (lv_at hl 0 rfl) ?_
          refine lv_bipush (pc := 36) (v := 10) C0.1 C0.2.1 dX7_scanNext_36 (by decide) ?_
          refine lv_icmp_ne (pc := 38) (tgt := 45) C0.1 C0.2.1 dX7_scanNext_38 (by decide) (fun c21 => ?_) (fun c21 => ?_)
          · have : Int32.toInt 10 = 10 := rfl
            have c21 : ¬ _ := fun q => c21 (Int32.toInt_inj.mp q)
            refine lv_iconst (pc := 45) (v := 0) C0.1 C0.2.1 dX7_scanNext_45 (by decide) ?_
            refine xputI (pc := 46) C0 (Nat.le_of_ble_eq_true rfl) hH hS 9 13 clX7 ⟨Nat.le_of_ble_eq_true rfl, Nat.le_of_ble_eq_true rfl⟩ ⟨rfl, rfl⟩ ⟨Nat.le_of_ble_eq_true rfl, rfl, rfl⟩ fl_X7_53 (x := 0) ⟨rfl, rfl⟩ dX7_scanNext_46 (fun _ locs hH hS _ => ?_)
            have hH : Hd D tA b 0 78 zz (up2 i 9 13 0) F G _ := hH
            refine lv_aload_n (pc := 49) C0.1 C0.2.1 dX7_scanNext_49 rfl (lv_at hl 1 rfl) ?_
            refine lv_aload_n (pc := 50) C0.1 C0.2.1 dX7_scanNext_50 rfl (lv_at hl 2 rfl) ?_
            refine lv_iconst (pc := 51) (v := 1) C0.1 C0.2.1 dX7_scanNext_51 (by decide) ?_
            refine lv_aload_n (pc := 52) C0.1 C0.2.1 dX7_scanNext_52 rfl (lv_at hl 3 rfl) ?_
            refine xget (pc := 53) C0 hH 1 7 clX1 ⟨Nat.le_of_ble_eq_true rfl, Nat.le_of_ble_eq_true rfl⟩ ⟨rfl, rfl⟩ (Nat.le_of_ble_eq_true rfl) fl_X7_66 (v := .int (i 1 7)) rfl dX7_scanNext_53 ?_
            refine xcVV (pc := 56) 9 [.ref (b + 4), .int 1, .int (i 1 7)] (g_X7_pass_9 l D tA b (up2 i 9 13 0) F G 1 (i 1 7) (show 0 ≤ Int32.toInt (i 4 1) ∧ Int32.toInt (i 4 1) ≤ 600 from by omega)) C0 hH hS clX7 rfl ⟨⟨Nat.le_of_ble_eq_true rfl, Nat.le_of_ble_eq_true rfl⟩, rfl, rfl⟩ cw_X7_77 rfl ⟨Nat.le_of_ble_eq_true rfl, Nat.le_of_ble_eq_true rfl⟩ hl.1 rfl (Nat.le_of_ble_eq_true rfl) dX7_scanNext_56 ⟨Nat.le_of_ble_eq_true rfl, Nat.le_of_ble_eq_true rfl⟩ (fun ir22 Fr22 Gr22 _ locs hp hH hS => ?_)
            obtain ⟨honr22, ht7r22, ht13r22⟩ := hp
            try dsimp only at ht7r22 ht13r22
            have ht7r22I : Int32.toInt (ir22 9 7) = Int32.toInt (i 9 7) := congrArg Int32.toInt ht7r22
            refine lv_goto (pc := 59) (tgt := 91) C0.1 C0.2.1 dX7_scanNext_59 (by decide) ?_
            exact xvret (pc := 91) C0 hr hH hS dX7_scanNext_91 ⟨(On.tr (On.i On.rf (by decide)) honr22 (by decide) (by decide)), by show 0 ≤ Int32.toInt (ir22 9 7); omega, by show Int32.toInt (ir22 9 7) ≤ 600; omega, by show ir22 9 13 = 0 ∨ ir22 9 13 = 1; rw [ht13r22]; first | exact hfr | exact Or.inr rfl | exact Or.inl rfl⟩
          · have : Int32.toInt 10 = 10 := rfl
            have c21 := congrArg Int32.toInt c21
            refine lv_iconst (pc := 41) (v := 1) C0.1 C0.2.1 dX7_scanNext_41 (by decide) ?_
            refine lv_goto (pc := 42) (tgt := 46) C0.1 C0.2.1 dX7_scanNext_42 (by decide) ?_
            refine xputI (pc := 46) C0 (Nat.le_of_ble_eq_true rfl) hH hS 9 13 clX7 ⟨Nat.le_of_ble_eq_true rfl, Nat.le_of_ble_eq_true rfl⟩ ⟨rfl, rfl⟩ ⟨Nat.le_of_ble_eq_true rfl, rfl, rfl⟩ fl_X7_53 (x := 1) ⟨rfl, rfl⟩ dX7_scanNext_46 (fun _ locs hH hS _ => ?_)
            have hH : Hd D tA b 0 78 zz (up2 i 9 13 1) F G _ := hH
            refine lv_aload_n (pc := 49) C0.1 C0.2.1 dX7_scanNext_49 rfl (lv_at hl 1 rfl) ?_
            refine lv_aload_n (pc := 50) C0.1 C0.2.1 dX7_scanNext_50 rfl (lv_at hl 2 rfl) ?_
            refine lv_iconst (pc := 51) (v := 1) C0.1 C0.2.1 dX7_scanNext_51 (by decide) ?_
            refine lv_aload_n (pc := 52) C0.1 C0.2.1 dX7_scanNext_52 rfl (lv_at hl 3 rfl) ?_
            refine xget (pc := 53) C0 hH 1 7 clX1 ⟨Nat.le_of_ble_eq_true rfl, Nat.le_of_ble_eq_true rfl⟩ ⟨rfl, rfl⟩ (Nat.le_of_ble_eq_true rfl) fl_X7_66 (v := .int (i 1 7)) rfl dX7_scanNext_53 ?_
            refine xcVV (pc := 56) 9 [.ref (b + 4), .int 1, .int (i 1 7)] (g_X7_pass_9 l D tA b (up2 i 9 13 1) F G 1 (i 1 7) (show 0 ≤ Int32.toInt (i 4 1) ∧ Int32.toInt (i 4 1) ≤ 600 from by omega)) C0 hH hS clX7 rfl ⟨⟨Nat.le_of_ble_eq_true rfl, Nat.le_of_ble_eq_true rfl⟩, rfl, rfl⟩ cw_X7_77 rfl ⟨Nat.le_of_ble_eq_true rfl, Nat.le_of_ble_eq_true rfl⟩ hl.1 rfl (Nat.le_of_ble_eq_true rfl) dX7_scanNext_56 ⟨Nat.le_of_ble_eq_true rfl, Nat.le_of_ble_eq_true rfl⟩ (fun ir23 Fr23 Gr23 _ locs hp hH hS => ?_)
            obtain ⟨honr23, ht7r23, ht13r23⟩ := hp
            try dsimp only at ht7r23 ht13r23
            have ht7r23I : Int32.toInt (ir23 9 7) = Int32.toInt (i 9 7) := congrArg Int32.toInt ht7r23
            refine lv_goto (pc := 59) (tgt := 91) C0.1 C0.2.1 dX7_scanNext_59 (by decide) ?_
            exact xvret (pc := 91) C0 hr hH hS dX7_scanNext_91 ⟨(On.tr (On.i On.rf (by decide)) honr23 (by decide) (by decide)), by show 0 ≤ Int32.toInt (ir23 9 7); omega, by show Int32.toInt (ir23 9 7) ≤ 600; omega, by show ir23 9 13 = 0 ∨ ir23 9 13 = 1; rw [ht13r23]; first | exact hfr | exact Or.inr rfl | exact Or.inl rfl⟩
set_option maxHeartbeats 4000000 in
set_option maxRecDepth 100000 in
theorem g_X7_scan_9 (l : Launch) (D : va_G) (tA : Nat → ClassId) (b : Nat) (i F : Nat → Nat → Int32) (G : Nat → Nat → Int64)  (hsz : 0 ≤ (i 4 1).toInt ∧ (i 4 1).toInt ≤ 600) (htd : 0 ≤ (i 1 2).toInt ∧ (i 1 2).toInt ≤ 24) : xMV l yX7_scan cX7_scan 4 none 8 179 D tA b 0 78 i F G [.ref (b + 9), .ref (b + 4), .ref (b + 1)] (fun u => On 9 17 i F G u ∧ 0 ≤ (u.1 9 7).toInt ∧ (u.1 9 7).toInt ≤ 600 ∧ (u.1 9 13 = 0 ∨ u.1 9 13 = 1)) := by
  refine xstart RX7 rfl (by decide) (Nat.le_of_ble_eq_true rfl) ?_
  intro p e s m below meth c ls C0 hr hH hS hl
  have hl : lv_has ls 4 [(0, .ref (b + 9)), (1, .ref (b + 4)), (2, .ref (b + 1))] := hl
  have LOOP : ∀ (d : Nat) (k : Int32) (iv Fv : Nat → Nat → Int32) (Gv : Nat → Nat → Int64) (H : Heap) (locs : List Loc) (ls : Array Slot), (0 ≤ k.toInt) → (600 - k.toInt ≤ d) → (On 9 17 i F G (iv, Fv, Gv)) → (0 ≤ (iv 9 7).toInt ∧ (iv 9 7).toInt ≤ 600) → ((iv 9 13 = 0 ∨ iv 9 13 = 1)) → Hd D tA b 0 78 zz iv Fv Gv H → va_S (xA b 0 78) s.heap H locs → lv_has ls 4 [(3, .int k), (0, .ref (b + 9)), (1, .ref (b + 4)), (2, .ref (b + 1))] → W p l e (xR 8 179) s m ([.ref (b + 9), .ref (b + 4), .ref (b + 1)] : List Value).toArray below meth c H locs 0 0 (MQ below (va_Qv (fun u => On 9 17 i F G u ∧ 0 ≤ (u.1 9 7).toInt ∧ (u.1 9 7).toInt ≤ 600 ∧ (u.1 9 13 = 0 ∨ u.1 9 13 = 1)) (xB D tA b 0 78 zz) (xA b 0 78)) ([.ref (b + 9), .ref (b + 4), .ref (b + 1)] : List Value).toArray s 0 0 (xA b 0 78)) (F0 m 38 ls []) := by
    intro d
    induction d with
    | zero =>
      intro k iv Fv Gv H locs ls h1 h2 h3 h4 h5 hH hS hl
      have rg_k := fb_rng k
      have ek4 : Int32.toInt (iv 4 1) = Int32.toInt (i 4 1) := congrArg Int32.toInt (congrFun (h3.1 4 (by decide)).1 1)
      have ek1 : Int32.toInt (iv 1 2) = Int32.toInt (i 1 2) := congrArg Int32.toInt (congrFun (h3.1 1 (by decide)).1 2)
      refine lv_iload_n (pc := 38) C0.1 C0.2.1 dX7_scan_38 rfl (lv_at hl 0 rfl) ?_
      refine lv_sipush (pc := 39) (v := 600) C0.1 C0.2.1 dX7_scan_39 (by decide) ?_
      have : Int32.toInt 600 = 600 := rfl
      refine lv_icmp_ge (pc := 42) (tgt := 75) C0.1 C0.2.1 dX7_scan_42 (by decide) (fun _ => ?_) (fun c => absurd (Int32.le_iff_toInt_le.mpr (by omega)) c)
      refine lv_aload_n (pc := 75) C0.1 C0.2.1 dX7_scan_75 rfl (lv_at hl 3 rfl) ?_
      refine xget (pc := 76) C0 hH 1 7 clX1 ⟨Nat.le_of_ble_eq_true rfl, Nat.le_of_ble_eq_true rfl⟩ ⟨rfl, rfl⟩ (Nat.le_of_ble_eq_true rfl) fl_X7_66 (v := .int (iv 1 7)) rfl dX7_scan_76 ?_
      refine lv_if_ne (pc := 79) (tgt := 91) C0.1 C0.2.1 dX7_scan_79 (by decide) (fun c101 => ?_) (fun c101 => ?_)
      · have : Int32.toInt 0 = 0 := rfl
        have c101 : ¬ _ := fun q => c101 (Int32.toInt_inj.mp q)
        refine lv_bipush (pc := 91) (v := (-9)) C0.1 C0.2.1 dX7_scan_91 (by decide) ?_
        refine lv_istore_n (pc := 93) (lv' := [(3, .int (-9)), (0, .ref (b + 9)), (1, .ref (b + 4)), (2, .ref (b + 1))]) C0.1 C0.2.1 dX7_scan_93 rfl hl (by decide) rfl (fun ls hl => ?_)
        refine lv_iload_n (pc := 94) C0.1 C0.2.1 dX7_scan_94 rfl (lv_at hl 0 rfl) ?_
        refine lv_bipush (pc := 95) (v := (-9)) C0.1 C0.2.1 dX7_scan_95 (by decide) ?_
        refine lv_icmp_eq (pc := 97) (tgt := 125) C0.1 C0.2.1 dX7_scan_97 (by decide) (fun _ => ?_) (fun c => absurd (by decide) c)
        exact xvret (pc := 125) C0 hr hH hS dX7_scan_125 ⟨h3, h4.1, h4.2, h5⟩
      · have : Int32.toInt 0 = 0 := rfl
        have c101 := congrArg Int32.toInt c101
        refine lv_aload_n (pc := 82) C0.1 C0.2.1 dX7_scan_82 rfl (lv_at hl 2 rfl) ?_
        refine lv_bipush (pc := 83) (v := 9) C0.1 C0.2.1 dX7_scan_83 (by decide) ?_
        refine xcVI (pc := 85) 4 [.int 9] (g_X6_firstPlaceOf_4 l D tA b iv Fv Gv 9 (show 0 ≤ Int32.toInt (iv 4 1) ∧ Int32.toInt (iv 4 1) ≤ 600 from by omega)) C0 hH hS clX6 rfl ⟨⟨Nat.le_of_ble_eq_true rfl, Nat.le_of_ble_eq_true rfl⟩, rfl, rfl⟩ cw_X7_71 rfl ⟨Nat.le_of_ble_eq_true rfl, Nat.le_of_ble_eq_true rfl⟩ hl.1 rfl (Nat.le_of_ble_eq_true rfl) dX7_scan_85 ⟨Nat.le_of_ble_eq_true rfl, Nat.le_of_ble_eq_true rfl⟩ (fun r102 ir102 Fr102 Gr102 _ locs hp hH hS => ?_)
        obtain ⟨hu, hpr102⟩ := hp
        cases hu
        refine lv_goto (pc := 88) (tgt := 93) C0.1 C0.2.1 dX7_scan_88 (by decide) ?_
        refine lv_istore_n (pc := 93) (lv' := [(3, .int r102), (0, .ref (b + 9)), (1, .ref (b + 4)), (2, .ref (b + 1))]) C0.1 C0.2.1 dX7_scan_93 rfl hl (by decide) rfl (fun ls hl => ?_)
        refine lv_iload_n (pc := 94) C0.1 C0.2.1 dX7_scan_94 rfl (lv_at hl 0 rfl) ?_
        refine lv_bipush (pc := 95) (v := (-9)) C0.1 C0.2.1 dX7_scan_95 (by decide) ?_
        refine lv_icmp_eq (pc := 97) (tgt := 125) C0.1 C0.2.1 dX7_scan_97 (by decide) (fun c103 => ?_) (fun c103 => ?_)
        · have : Int32.toInt (-9) = (-9) := rfl
          have c103 := congrArg Int32.toInt c103
          exact xvret (pc := 125) C0 hr hH hS dX7_scan_125 ⟨h3, h4.1, h4.2, h5⟩
        · have : Int32.toInt (-9) = (-9) := rfl
          have c103 : ¬ _ := fun q => c103 (Int32.toInt_inj.mp q)
          refine lv_aload_n (pc := 100) C0.1 C0.2.1 dX7_scan_100 rfl (lv_at hl 1 rfl) ?_
          refine xget (pc := 101) C0 hH 9 8 clX7 ⟨Nat.le_of_ble_eq_true rfl, Nat.le_of_ble_eq_true rfl⟩ ⟨rfl, rfl⟩ (Nat.le_of_ble_eq_true rfl) fl_X7_38 (v := .int (iv 9 8)) rfl dX7_scan_101 ?_
          refine lv_if_eq (pc := 104) (tgt := 115) C0.1 C0.2.1 dX7_scan_104 (by decide) (fun c104 => ?_) (fun c104 => ?_)
          · have : Int32.toInt 0 = 0 := rfl
            have c104 := congrArg Int32.toInt c104
            refine lv_aload_n (pc := 115) C0.1 C0.2.1 dX7_scan_115 rfl (lv_at hl 1 rfl) ?_
            refine lv_iconst (pc := 116) (v := 2) C0.1 C0.2.1 dX7_scan_116 (by decide) ?_
            refine xputI (pc := 117) C0 (Nat.le_of_ble_eq_true rfl) hH hS 9 8 clX7 ⟨Nat.le_of_ble_eq_true rfl, Nat.le_of_ble_eq_true rfl⟩ ⟨rfl, rfl⟩ ⟨Nat.le_of_ble_eq_true rfl, rfl, rfl⟩ fl_X7_38 (x := 2) ⟨rfl, rfl⟩ dX7_scan_117 (fun _ locs hH hS _ => ?_)
            have hH : Hd D tA b 0 78 zz (up2 iv 9 8 2) Fv Gv _ := hH
            refine lv_aload_n (pc := 120) C0.1 C0.2.1 dX7_scan_120 rfl (lv_at hl 1 rfl) ?_
            refine lv_iload_n (pc := 121) C0.1 C0.2.1 dX7_scan_121 rfl (lv_at hl 0 rfl) ?_
            refine xputI (pc := 122) C0 (Nat.le_of_ble_eq_true rfl) hH hS 9 9 clX7 ⟨Nat.le_of_ble_eq_true rfl, Nat.le_of_ble_eq_true rfl⟩ ⟨rfl, rfl⟩ ⟨Nat.le_of_ble_eq_true rfl, rfl, rfl⟩ fl_X7_41 (x := r102) ⟨rfl, rfl⟩ dX7_scan_122 (fun _ locs hH hS _ => ?_)
            have hH : Hd D tA b 0 78 zz (up2 (up2 iv 9 8 2) 9 9 r102) Fv Gv _ := hH
            exact xvret (pc := 125) C0 hr hH hS dX7_scan_125 ⟨(On.i (On.i h3 (by decide)) (by decide)), h4.1, h4.2, h5⟩
          · have : Int32.toInt 0 = 0 := rfl
            have c104 : ¬ _ := fun q => c104 (Int32.toInt_inj.mp q)
            refine lv_iload_n (pc := 107) C0.1 C0.2.1 dX7_scan_107 rfl (lv_at hl 0 rfl) ?_
            refine lv_aload_n (pc := 108) C0.1 C0.2.1 dX7_scan_108 rfl (lv_at hl 1 rfl) ?_
            refine xget (pc := 109) C0 hH 9 9 clX7 ⟨Nat.le_of_ble_eq_true rfl, Nat.le_of_ble_eq_true rfl⟩ ⟨rfl, rfl⟩ (Nat.le_of_ble_eq_true rfl) fl_X7_41 (v := .int (iv 9 9)) rfl dX7_scan_109 ?_
            refine lv_icmp_ge (pc := 112) (tgt := 125) C0.1 C0.2.1 dX7_scan_112 (by decide) (fun c105 => ?_) (fun c105 => ?_)
            · have c105 := Int32.le_iff_toInt_le.mp c105
              exact xvret (pc := 125) C0 hr hH hS dX7_scan_125 ⟨h3, h4.1, h4.2, h5⟩
            · have c105 : ¬ _ := fun q => c105 (Int32.le_iff_toInt_le.mpr q)
              refine lv_aload_n (pc := 115) C0.1 C0.2.1 dX7_scan_115 rfl (lv_at hl 1 rfl) ?_
              refine lv_iconst (pc := 116) (v := 2) C0.1 C0.2.1 dX7_scan_116 (by decide) ?_
              refine xputI (pc := 117) C0 (Nat.le_of_ble_eq_true rfl) hH hS 9 8 clX7 ⟨Nat.le_of_ble_eq_true rfl, Nat.le_of_ble_eq_true rfl⟩ ⟨rfl, rfl⟩ ⟨Nat.le_of_ble_eq_true rfl, rfl, rfl⟩ fl_X7_38 (x := 2) ⟨rfl, rfl⟩ dX7_scan_117 (fun _ locs hH hS _ => ?_)
              have hH : Hd D tA b 0 78 zz (up2 iv 9 8 2) Fv Gv _ := hH
              refine lv_aload_n (pc := 120) C0.1 C0.2.1 dX7_scan_120 rfl (lv_at hl 1 rfl) ?_
              refine lv_iload_n (pc := 121) C0.1 C0.2.1 dX7_scan_121 rfl (lv_at hl 0 rfl) ?_
              refine xputI (pc := 122) C0 (Nat.le_of_ble_eq_true rfl) hH hS 9 9 clX7 ⟨Nat.le_of_ble_eq_true rfl, Nat.le_of_ble_eq_true rfl⟩ ⟨rfl, rfl⟩ ⟨Nat.le_of_ble_eq_true rfl, rfl, rfl⟩ fl_X7_41 (x := r102) ⟨rfl, rfl⟩ dX7_scan_122 (fun _ locs hH hS _ => ?_)
              have hH : Hd D tA b 0 78 zz (up2 (up2 iv 9 8 2) 9 9 r102) Fv Gv _ := hH
              exact xvret (pc := 125) C0 hr hH hS dX7_scan_125 ⟨(On.i (On.i h3 (by decide)) (by decide)), h4.1, h4.2, h5⟩
    | succ d ih =>
      intro k iv Fv Gv H locs ls h1 h2 h3 h4 h5 hH hS hl
      have rg_k := fb_rng k
      have ek4 : Int32.toInt (iv 4 1) = Int32.toInt (i 4 1) := congrArg Int32.toInt (congrFun (h3.1 4 (by decide)).1 1)
      have ek1 : Int32.toInt (iv 1 2) = Int32.toInt (i 1 2) := congrArg Int32.toInt (congrFun (h3.1 1 (by decide)).1 2)
      refine lv_iload_n (pc := 38) C0.1 C0.2.1 dX7_scan_38 rfl (lv_at hl 0 rfl) ?_
      refine lv_sipush (pc := 39) (v := 600) C0.1 C0.2.1 dX7_scan_39 (by decide) ?_
      refine lv_icmp_ge (pc := 42) (tgt := 75) C0.1 C0.2.1 dX7_scan_42 (by decide) (fun c101 => ?_) (fun c101 => ?_)
      · have : Int32.toInt 600 = 600 := rfl
        have c101 := Int32.le_iff_toInt_le.mp c101
        refine lv_aload_n (pc := 75) C0.1 C0.2.1 dX7_scan_75 rfl (lv_at hl 3 rfl) ?_
        refine xget (pc := 76) C0 hH 1 7 clX1 ⟨Nat.le_of_ble_eq_true rfl, Nat.le_of_ble_eq_true rfl⟩ ⟨rfl, rfl⟩ (Nat.le_of_ble_eq_true rfl) fl_X7_66 (v := .int (iv 1 7)) rfl dX7_scan_76 ?_
        refine lv_if_ne (pc := 79) (tgt := 91) C0.1 C0.2.1 dX7_scan_79 (by decide) (fun c102 => ?_) (fun c102 => ?_)
        · have : Int32.toInt 0 = 0 := rfl
          have c102 : ¬ _ := fun q => c102 (Int32.toInt_inj.mp q)
          refine lv_bipush (pc := 91) (v := (-9)) C0.1 C0.2.1 dX7_scan_91 (by decide) ?_
          refine lv_istore_n (pc := 93) (lv' := [(3, .int (-9)), (0, .ref (b + 9)), (1, .ref (b + 4)), (2, .ref (b + 1))]) C0.1 C0.2.1 dX7_scan_93 rfl hl (by decide) rfl (fun ls hl => ?_)
          refine lv_iload_n (pc := 94) C0.1 C0.2.1 dX7_scan_94 rfl (lv_at hl 0 rfl) ?_
          refine lv_bipush (pc := 95) (v := (-9)) C0.1 C0.2.1 dX7_scan_95 (by decide) ?_
          refine lv_icmp_eq (pc := 97) (tgt := 125) C0.1 C0.2.1 dX7_scan_97 (by decide) (fun _ => ?_) (fun c => absurd (by decide) c)
          exact xvret (pc := 125) C0 hr hH hS dX7_scan_125 ⟨h3, h4.1, h4.2, h5⟩
        · have : Int32.toInt 0 = 0 := rfl
          have c102 := congrArg Int32.toInt c102
          refine lv_aload_n (pc := 82) C0.1 C0.2.1 dX7_scan_82 rfl (lv_at hl 2 rfl) ?_
          refine lv_bipush (pc := 83) (v := 9) C0.1 C0.2.1 dX7_scan_83 (by decide) ?_
          refine xcVI (pc := 85) 4 [.int 9] (g_X6_firstPlaceOf_4 l D tA b iv Fv Gv 9 (show 0 ≤ Int32.toInt (iv 4 1) ∧ Int32.toInt (iv 4 1) ≤ 600 from by omega)) C0 hH hS clX6 rfl ⟨⟨Nat.le_of_ble_eq_true rfl, Nat.le_of_ble_eq_true rfl⟩, rfl, rfl⟩ cw_X7_71 rfl ⟨Nat.le_of_ble_eq_true rfl, Nat.le_of_ble_eq_true rfl⟩ hl.1 rfl (Nat.le_of_ble_eq_true rfl) dX7_scan_85 ⟨Nat.le_of_ble_eq_true rfl, Nat.le_of_ble_eq_true rfl⟩ (fun r103 ir103 Fr103 Gr103 _ locs hp hH hS => ?_)
          obtain ⟨hu, hpr103⟩ := hp
          cases hu
          refine lv_goto (pc := 88) (tgt := 93) C0.1 C0.2.1 dX7_scan_88 (by decide) ?_
          refine lv_istore_n (pc := 93) (lv' := [(3, .int r103), (0, .ref (b + 9)), (1, .ref (b + 4)), (2, .ref (b + 1))]) C0.1 C0.2.1 dX7_scan_93 rfl hl (by decide) rfl (fun ls hl => ?_)
          refine lv_iload_n (pc := 94) C0.1 C0.2.1 dX7_scan_94 rfl (lv_at hl 0 rfl) ?_
          refine lv_bipush (pc := 95) (v := (-9)) C0.1 C0.2.1 dX7_scan_95 (by decide) ?_
          refine lv_icmp_eq (pc := 97) (tgt := 125) C0.1 C0.2.1 dX7_scan_97 (by decide) (fun c104 => ?_) (fun c104 => ?_)
          · have : Int32.toInt (-9) = (-9) := rfl
            have c104 := congrArg Int32.toInt c104
            exact xvret (pc := 125) C0 hr hH hS dX7_scan_125 ⟨h3, h4.1, h4.2, h5⟩
          · have : Int32.toInt (-9) = (-9) := rfl
            have c104 : ¬ _ := fun q => c104 (Int32.toInt_inj.mp q)
            refine lv_aload_n (pc := 100) C0.1 C0.2.1 dX7_scan_100 rfl (lv_at hl 1 rfl) ?_
            refine xget (pc := 101) C0 hH 9 8 clX7 ⟨Nat.le_of_ble_eq_true rfl, Nat.le_of_ble_eq_true rfl⟩ ⟨rfl, rfl⟩ (Nat.le_of_ble_eq_true rfl) fl_X7_38 (v := .int (iv 9 8)) rfl dX7_scan_101 ?_
            refine lv_if_eq (pc := 104) (tgt := 115) C0.1 C0.2.1 dX7_scan_104 (by decide) (fun c105 => ?_) (fun c105 => ?_)
            · have : Int32.toInt 0 = 0 := rfl
              have c105 := congrArg Int32.toInt c105
              refine lv_aload_n (pc := 115) C0.1 C0.2.1 dX7_scan_115 rfl (lv_at hl 1 rfl) ?_
              refine lv_iconst (pc := 116) (v := 2) C0.1 C0.2.1 dX7_scan_116 (by decide) ?_
              refine xputI (pc := 117) C0 (Nat.le_of_ble_eq_true rfl) hH hS 9 8 clX7 ⟨Nat.le_of_ble_eq_true rfl, Nat.le_of_ble_eq_true rfl⟩ ⟨rfl, rfl⟩ ⟨Nat.le_of_ble_eq_true rfl, rfl, rfl⟩ fl_X7_38 (x := 2) ⟨rfl, rfl⟩ dX7_scan_117 (fun _ locs hH hS _ => ?_)
              have hH : Hd D tA b 0 78 zz (up2 iv 9 8 2) Fv Gv _ := hH
              refine lv_aload_n (pc := 120) C0.1 C0.2.1 dX7_scan_120 rfl (lv_at hl 1 rfl) ?_
              refine lv_iload_n (pc := 121) C0.1 C0.2.1 dX7_scan_121 rfl (lv_at hl 0 rfl) ?_
              refine xputI (pc := 122) C0 (Nat.le_of_ble_eq_true rfl) hH hS 9 9 clX7 ⟨Nat.le_of_ble_eq_true rfl, Nat.le_of_ble_eq_true rfl⟩ ⟨rfl, rfl⟩ ⟨Nat.le_of_ble_eq_true rfl, rfl, rfl⟩ fl_X7_41 (x := r103) ⟨rfl, rfl⟩ dX7_scan_122 (fun _ locs hH hS _ => ?_)
              have hH : Hd D tA b 0 78 zz (up2 (up2 iv 9 8 2) 9 9 r103) Fv Gv _ := hH
              exact xvret (pc := 125) C0 hr hH hS dX7_scan_125 ⟨(On.i (On.i h3 (by decide)) (by decide)), h4.1, h4.2, h5⟩
            · have : Int32.toInt 0 = 0 := rfl
              have c105 : ¬ _ := fun q => c105 (Int32.toInt_inj.mp q)
              refine lv_iload_n (pc := 107) C0.1 C0.2.1 dX7_scan_107 rfl (lv_at hl 0 rfl) ?_
              refine lv_aload_n (pc := 108) C0.1 C0.2.1 dX7_scan_108 rfl (lv_at hl 1 rfl) ?_
              refine xget (pc := 109) C0 hH 9 9 clX7 ⟨Nat.le_of_ble_eq_true rfl, Nat.le_of_ble_eq_true rfl⟩ ⟨rfl, rfl⟩ (Nat.le_of_ble_eq_true rfl) fl_X7_41 (v := .int (iv 9 9)) rfl dX7_scan_109 ?_
              refine lv_icmp_ge (pc := 112) (tgt := 125) C0.1 C0.2.1 dX7_scan_112 (by decide) (fun c106 => ?_) (fun c106 => ?_)
              · have c106 := Int32.le_iff_toInt_le.mp c106
                exact xvret (pc := 125) C0 hr hH hS dX7_scan_125 ⟨h3, h4.1, h4.2, h5⟩
              · have c106 : ¬ _ := fun q => c106 (Int32.le_iff_toInt_le.mpr q)
                refine lv_aload_n (pc := 115) C0.1 C0.2.1 dX7_scan_115 rfl (lv_at hl 1 rfl) ?_
                refine lv_iconst (pc := 116) (v := 2) C0.1 C0.2.1 dX7_scan_116 (by decide) ?_
                refine xputI (pc := 117) C0 (Nat.le_of_ble_eq_true rfl) hH hS 9 8 clX7 ⟨Nat.le_of_ble_eq_true rfl, Nat.le_of_ble_eq_true rfl⟩ ⟨rfl, rfl⟩ ⟨Nat.le_of_ble_eq_true rfl, rfl, rfl⟩ fl_X7_38 (x := 2) ⟨rfl, rfl⟩ dX7_scan_117 (fun _ locs hH hS _ => ?_)
                have hH : Hd D tA b 0 78 zz (up2 iv 9 8 2) Fv Gv _ := hH
                refine lv_aload_n (pc := 120) C0.1 C0.2.1 dX7_scan_120 rfl (lv_at hl 1 rfl) ?_
                refine lv_iload_n (pc := 121) C0.1 C0.2.1 dX7_scan_121 rfl (lv_at hl 0 rfl) ?_
                refine xputI (pc := 122) C0 (Nat.le_of_ble_eq_true rfl) hH hS 9 9 clX7 ⟨Nat.le_of_ble_eq_true rfl, Nat.le_of_ble_eq_true rfl⟩ ⟨rfl, rfl⟩ ⟨Nat.le_of_ble_eq_true rfl, rfl, rfl⟩ fl_X7_41 (x := r103) ⟨rfl, rfl⟩ dX7_scan_122 (fun _ locs hH hS _ => ?_)
                have hH : Hd D tA b 0 78 zz (up2 (up2 iv 9 8 2) 9 9 r103) Fv Gv _ := hH
                exact xvret (pc := 125) C0 hr hH hS dX7_scan_125 ⟨(On.i (On.i h3 (by decide)) (by decide)), h4.1, h4.2, h5⟩
      · have : Int32.toInt 600 = 600 := rfl
        have c101 : ¬ _ := fun q => c101 (Int32.le_iff_toInt_le.mpr q)
        refine lv_aload_n (pc := 45) C0.1 C0.2.1 dX7_scan_45 rfl (lv_at hl 1 rfl) ?_
        refine xget (pc := 46) C0 hH 9 10 clX7 ⟨Nat.le_of_ble_eq_true rfl, Nat.le_of_ble_eq_true rfl⟩ ⟨rfl, rfl⟩ (Nat.le_of_ble_eq_true rfl) fl_X7_44 (v := .int (iv 9 10)) rfl dX7_scan_46 ?_
        refine lv_aload_n (pc := 49) C0.1 C0.2.1 dX7_scan_49 rfl (lv_at hl 2 rfl) ?_
        refine xget (pc := 50) C0 hH 4 1 clX6 ⟨Nat.le_of_ble_eq_true rfl, Nat.le_of_ble_eq_true rfl⟩ ⟨rfl, rfl⟩ (Nat.le_of_ble_eq_true rfl) fl_X7_57 (v := .int (iv 4 1)) rfl dX7_scan_50 ?_
        refine lv_icmp_ge (pc := 53) (tgt := 75) C0.1 C0.2.1 dX7_scan_53 (by decide) (fun c107 => ?_) (fun c107 => ?_)
        · have c107 := Int32.le_iff_toInt_le.mp c107
          refine lv_aload_n (pc := 75) C0.1 C0.2.1 dX7_scan_75 rfl (lv_at hl 3 rfl) ?_
          refine xget (pc := 76) C0 hH 1 7 clX1 ⟨Nat.le_of_ble_eq_true rfl, Nat.le_of_ble_eq_true rfl⟩ ⟨rfl, rfl⟩ (Nat.le_of_ble_eq_true rfl) fl_X7_66 (v := .int (iv 1 7)) rfl dX7_scan_76 ?_
          refine lv_if_ne (pc := 79) (tgt := 91) C0.1 C0.2.1 dX7_scan_79 (by decide) (fun c108 => ?_) (fun c108 => ?_)
          · have : Int32.toInt 0 = 0 := rfl
            have c108 : ¬ _ := fun q => c108 (Int32.toInt_inj.mp q)
            refine lv_bipush (pc := 91) (v := (-9)) C0.1 C0.2.1 dX7_scan_91 (by decide) ?_
            refine lv_istore_n (pc := 93) (lv' := [(3, .int (-9)), (0, .ref (b + 9)), (1, .ref (b + 4)), (2, .ref (b + 1))]) C0.1 C0.2.1 dX7_scan_93 rfl hl (by decide) rfl (fun ls hl => ?_)
            refine lv_iload_n (pc := 94) C0.1 C0.2.1 dX7_scan_94 rfl (lv_at hl 0 rfl) ?_
            refine lv_bipush (pc := 95) (v := (-9)) C0.1 C0.2.1 dX7_scan_95 (by decide) ?_
            refine lv_icmp_eq (pc := 97) (tgt := 125) C0.1 C0.2.1 dX7_scan_97 (by decide) (fun _ => ?_) (fun c => absurd (by decide) c)
            exact xvret (pc := 125) C0 hr hH hS dX7_scan_125 ⟨h3, h4.1, h4.2, h5⟩
          · have : Int32.toInt 0 = 0 := rfl
            have c108 := congrArg Int32.toInt c108
            refine lv_aload_n (pc := 82) C0.1 C0.2.1 dX7_scan_82 rfl (lv_at hl 2 rfl) ?_
            refine lv_bipush (pc := 83) (v := 9) C0.1 C0.2.1 dX7_scan_83 (by decide) ?_
            refine xcVI (pc := 85) 4 [.int 9] (g_X6_firstPlaceOf_4 l D tA b iv Fv Gv 9 (show 0 ≤ Int32.toInt (iv 4 1) ∧ Int32.toInt (iv 4 1) ≤ 600 from by omega)) C0 hH hS clX6 rfl ⟨⟨Nat.le_of_ble_eq_true rfl, Nat.le_of_ble_eq_true rfl⟩, rfl, rfl⟩ cw_X7_71 rfl ⟨Nat.le_of_ble_eq_true rfl, Nat.le_of_ble_eq_true rfl⟩ hl.1 rfl (Nat.le_of_ble_eq_true rfl) dX7_scan_85 ⟨Nat.le_of_ble_eq_true rfl, Nat.le_of_ble_eq_true rfl⟩ (fun r109 ir109 Fr109 Gr109 _ locs hp hH hS => ?_)
            obtain ⟨hu, hpr109⟩ := hp
            cases hu
            refine lv_goto (pc := 88) (tgt := 93) C0.1 C0.2.1 dX7_scan_88 (by decide) ?_
            refine lv_istore_n (pc := 93) (lv' := [(3, .int r109), (0, .ref (b + 9)), (1, .ref (b + 4)), (2, .ref (b + 1))]) C0.1 C0.2.1 dX7_scan_93 rfl hl (by decide) rfl (fun ls hl => ?_)
            refine lv_iload_n (pc := 94) C0.1 C0.2.1 dX7_scan_94 rfl (lv_at hl 0 rfl) ?_
            refine lv_bipush (pc := 95) (v := (-9)) C0.1 C0.2.1 dX7_scan_95 (by decide) ?_
            refine lv_icmp_eq (pc := 97) (tgt := 125) C0.1 C0.2.1 dX7_scan_97 (by decide) (fun c110 => ?_) (fun c110 => ?_)
            · have : Int32.toInt (-9) = (-9) := rfl
              have c110 := congrArg Int32.toInt c110
              exact xvret (pc := 125) C0 hr hH hS dX7_scan_125 ⟨h3, h4.1, h4.2, h5⟩
            · have : Int32.toInt (-9) = (-9) := rfl
              have c110 : ¬ _ := fun q => c110 (Int32.toInt_inj.mp q)
              refine lv_aload_n (pc := 100) C0.1 C0.2.1 dX7_scan_100 rfl (lv_at hl 1 rfl) ?_
              refine xget (pc := 101) C0 hH 9 8 clX7 ⟨Nat.le_of_ble_eq_true rfl, Nat.le_of_ble_eq_true rfl⟩ ⟨rfl, rfl⟩ (Nat.le_of_ble_eq_true rfl) fl_X7_38 (v := .int (iv 9 8)) rfl dX7_scan_101 ?_
              refine lv_if_eq (pc := 104) (tgt := 115) C0.1 C0.2.1 dX7_scan_104 (by decide) (fun c111 => ?_) (fun c111 => ?_)
              · have : Int32.toInt 0 = 0 := rfl
                have c111 := congrArg Int32.toInt c111
                refine lv_aload_n (pc := 115) C0.1 C0.2.1 dX7_scan_115 rfl (lv_at hl 1 rfl) ?_
                refine lv_iconst (pc := 116) (v := 2) C0.1 C0.2.1 dX7_scan_116 (by decide) ?_
                refine xputI (pc := 117) C0 (Nat.le_of_ble_eq_true rfl) hH hS 9 8 clX7 ⟨Nat.le_of_ble_eq_true rfl, Nat.le_of_ble_eq_true rfl⟩ ⟨rfl, rfl⟩ ⟨Nat.le_of_ble_eq_true rfl, rfl, rfl⟩ fl_X7_38 (x := 2) ⟨rfl, rfl⟩ dX7_scan_117 (fun _ locs hH hS _ => ?_)
                have hH : Hd D tA b 0 78 zz (up2 iv 9 8 2) Fv Gv _ := hH
                refine lv_aload_n (pc := 120) C0.1 C0.2.1 dX7_scan_120 rfl (lv_at hl 1 rfl) ?_
                refine lv_iload_n (pc := 121) C0.1 C0.2.1 dX7_scan_121 rfl (lv_at hl 0 rfl) ?_
                refine xputI (pc := 122) C0 (Nat.le_of_ble_eq_true rfl) hH hS 9 9 clX7 ⟨Nat.le_of_ble_eq_true rfl, Nat.le_of_ble_eq_true rfl⟩ ⟨rfl, rfl⟩ ⟨Nat.le_of_ble_eq_true rfl, rfl, rfl⟩ fl_X7_41 (x := r109) ⟨rfl, rfl⟩ dX7_scan_122 (fun _ locs hH hS _ => ?_)
                have hH : Hd D tA b 0 78 zz (up2 (up2 iv 9 8 2) 9 9 r109) Fv Gv _ := hH
                exact xvret (pc := 125) C0 hr hH hS dX7_scan_125 ⟨(On.i (On.i h3 (by decide)) (by decide)), h4.1, h4.2, h5⟩
              · have : Int32.toInt 0 = 0 := rfl
                have c111 : ¬ _ := fun q => c111 (Int32.toInt_inj.mp q)
                refine lv_iload_n (pc := 107) C0.1 C0.2.1 dX7_scan_107 rfl (lv_at hl 0 rfl) ?_
                refine lv_aload_n (pc := 108) C0.1 C0.2.1 dX7_scan_108 rfl (lv_at hl 1 rfl) ?_
                refine xget (pc := 109) C0 hH 9 9 clX7 ⟨Nat.le_of_ble_eq_true rfl, Nat.le_of_ble_eq_true rfl⟩ ⟨rfl, rfl⟩ (Nat.le_of_ble_eq_true rfl) fl_X7_41 (v := .int (iv 9 9)) rfl dX7_scan_109 ?_
                refine lv_icmp_ge (pc := 112) (tgt := 125) C0.1 C0.2.1 dX7_scan_112 (by decide) (fun c112 => ?_) (fun c112 => ?_)
                · have c112 := Int32.le_iff_toInt_le.mp c112
                  exact xvret (pc := 125) C0 hr hH hS dX7_scan_125 ⟨h3, h4.1, h4.2, h5⟩
                · have c112 : ¬ _ := fun q => c112 (Int32.le_iff_toInt_le.mpr q)
                  refine lv_aload_n (pc := 115) C0.1 C0.2.1 dX7_scan_115 rfl (lv_at hl 1 rfl) ?_
                  refine lv_iconst (pc := 116) (v := 2) C0.1 C0.2.1 dX7_scan_116 (by decide) ?_
                  refine xputI (pc := 117) C0 (Nat.le_of_ble_eq_true rfl) hH hS 9 8 clX7 ⟨Nat.le_of_ble_eq_true rfl, Nat.le_of_ble_eq_true rfl⟩ ⟨rfl, rfl⟩ ⟨Nat.le_of_ble_eq_true rfl, rfl, rfl⟩ fl_X7_38 (x := 2) ⟨rfl, rfl⟩ dX7_scan_117 (fun _ locs hH hS _ => ?_)
                  have hH : Hd D tA b 0 78 zz (up2 iv 9 8 2) Fv Gv _ := hH
                  refine lv_aload_n (pc := 120) C0.1 C0.2.1 dX7_scan_120 rfl (lv_at hl 1 rfl) ?_
                  refine lv_iload_n (pc := 121) C0.1 C0.2.1 dX7_scan_121 rfl (lv_at hl 0 rfl) ?_
                  refine xputI (pc := 122) C0 (Nat.le_of_ble_eq_true rfl) hH hS 9 9 clX7 ⟨Nat.le_of_ble_eq_true rfl, Nat.le_of_ble_eq_true rfl⟩ ⟨rfl, rfl⟩ ⟨Nat.le_of_ble_eq_true rfl, rfl, rfl⟩ fl_X7_41 (x := r109) ⟨rfl, rfl⟩ dX7_scan_122 (fun _ locs hH hS _ => ?_)
                  have hH : Hd D tA b 0 78 zz (up2 (up2 iv 9 8 2) 9 9 r109) Fv Gv _ := hH
                  exact xvret (pc := 125) C0 hr hH hS dX7_scan_125 ⟨(On.i (On.i h3 (by decide)) (by decide)), h4.1, h4.2, h5⟩
        · have c107 : ¬ _ := fun q => c107 (Int32.le_iff_toInt_le.mpr q)
          refine lv_aload_n (pc := 56) C0.1 C0.2.1 dX7_scan_56 rfl (lv_at hl 1 rfl) ?_
          refine xget (pc := 57) C0 hH 9 8 clX7 ⟨Nat.le_of_ble_eq_true rfl, Nat.le_of_ble_eq_true rfl⟩ ⟨rfl, rfl⟩ (Nat.le_of_ble_eq_true rfl) fl_X7_38 (v := .int (iv 9 8)) rfl dX7_scan_57 ?_
          refine lv_if_ne (pc := 60) (tgt := 75) C0.1 C0.2.1 dX7_scan_60 (by decide) (fun c113 => ?_) (fun c113 => ?_)
          · have : Int32.toInt 0 = 0 := rfl
            have c113 : ¬ _ := fun q => c113 (Int32.toInt_inj.mp q)
            refine lv_aload_n (pc := 75) C0.1 C0.2.1 dX7_scan_75 rfl (lv_at hl 3 rfl) ?_
            refine xget (pc := 76) C0 hH 1 7 clX1 ⟨Nat.le_of_ble_eq_true rfl, Nat.le_of_ble_eq_true rfl⟩ ⟨rfl, rfl⟩ (Nat.le_of_ble_eq_true rfl) fl_X7_66 (v := .int (iv 1 7)) rfl dX7_scan_76 ?_
            refine lv_if_ne (pc := 79) (tgt := 91) C0.1 C0.2.1 dX7_scan_79 (by decide) (fun c114 => ?_) (fun c114 => ?_)
            · have : Int32.toInt 0 = 0 := rfl
              have c114 : ¬ _ := fun q => c114 (Int32.toInt_inj.mp q)
              refine lv_bipush (pc := 91) (v := (-9)) C0.1 C0.2.1 dX7_scan_91 (by decide) ?_
              refine lv_istore_n (pc := 93) (lv' := [(3, .int (-9)), (0, .ref (b + 9)), (1, .ref (b + 4)), (2, .ref (b + 1))]) C0.1 C0.2.1 dX7_scan_93 rfl hl (by decide) rfl (fun ls hl => ?_)
              refine lv_iload_n (pc := 94) C0.1 C0.2.1 dX7_scan_94 rfl (lv_at hl 0 rfl) ?_
              refine lv_bipush (pc := 95) (v := (-9)) C0.1 C0.2.1 dX7_scan_95 (by decide) ?_
              refine lv_icmp_eq (pc := 97) (tgt := 125) C0.1 C0.2.1 dX7_scan_97 (by decide) (fun _ => ?_) (fun c => absurd (by decide) c)
              exact xvret (pc := 125) C0 hr hH hS dX7_scan_125 ⟨h3, h4.1, h4.2, h5⟩
            · have : Int32.toInt 0 = 0 := rfl
              have c114 := congrArg Int32.toInt c114
              refine lv_aload_n (pc := 82) C0.1 C0.2.1 dX7_scan_82 rfl (lv_at hl 2 rfl) ?_
              refine lv_bipush (pc := 83) (v := 9) C0.1 C0.2.1 dX7_scan_83 (by decide) ?_
              refine xcVI (pc := 85) 4 [.int 9] (g_X6_firstPlaceOf_4 l D tA b iv Fv Gv 9 (show 0 ≤ Int32.toInt (iv 4 1) ∧ Int32.toInt (iv 4 1) ≤ 600 from by omega)) C0 hH hS clX6 rfl ⟨⟨Nat.le_of_ble_eq_true rfl, Nat.le_of_ble_eq_true rfl⟩, rfl, rfl⟩ cw_X7_71 rfl ⟨Nat.le_of_ble_eq_true rfl, Nat.le_of_ble_eq_true rfl⟩ hl.1 rfl (Nat.le_of_ble_eq_true rfl) dX7_scan_85 ⟨Nat.le_of_ble_eq_true rfl, Nat.le_of_ble_eq_true rfl⟩ (fun r115 ir115 Fr115 Gr115 _ locs hp hH hS => ?_)
              obtain ⟨hu, hpr115⟩ := hp
              cases hu
              refine lv_goto (pc := 88) (tgt := 93) C0.1 C0.2.1 dX7_scan_88 (by decide) ?_
              refine lv_istore_n (pc := 93) (lv' := [(3, .int r115), (0, .ref (b + 9)), (1, .ref (b + 4)), (2, .ref (b + 1))]) C0.1 C0.2.1 dX7_scan_93 rfl hl (by decide) rfl (fun ls hl => ?_)
              refine lv_iload_n (pc := 94) C0.1 C0.2.1 dX7_scan_94 rfl (lv_at hl 0 rfl) ?_
              refine lv_bipush (pc := 95) (v := (-9)) C0.1 C0.2.1 dX7_scan_95 (by decide) ?_
              refine lv_icmp_eq (pc := 97) (tgt := 125) C0.1 C0.2.1 dX7_scan_97 (by decide) (fun c116 => ?_) (fun c116 => ?_)
              · have : Int32.toInt (-9) = (-9) := rfl
                have c116 := congrArg Int32.toInt c116
                exact xvret (pc := 125) C0 hr hH hS dX7_scan_125 ⟨h3, h4.1, h4.2, h5⟩
              · have : Int32.toInt (-9) = (-9) := rfl
                have c116 : ¬ _ := fun q => c116 (Int32.toInt_inj.mp q)
                refine lv_aload_n (pc := 100) C0.1 C0.2.1 dX7_scan_100 rfl (lv_at hl 1 rfl) ?_
                refine xget (pc := 101) C0 hH 9 8 clX7 ⟨Nat.le_of_ble_eq_true rfl, Nat.le_of_ble_eq_true rfl⟩ ⟨rfl, rfl⟩ (Nat.le_of_ble_eq_true rfl) fl_X7_38 (v := .int (iv 9 8)) rfl dX7_scan_101 ?_
                refine lv_if_eq (pc := 104) (tgt := 115) C0.1 C0.2.1 dX7_scan_104 (by decide) (fun c117 => ?_) (fun c117 => ?_)
                · have : Int32.toInt 0 = 0 := rfl
                  have c117 := congrArg Int32.toInt c117
                  refine lv_aload_n (pc := 115) C0.1 C0.2.1 dX7_scan_115 rfl (lv_at hl 1 rfl) ?_
                  refine lv_iconst (pc := 116) (v := 2) C0.1 C0.2.1 dX7_scan_116 (by decide) ?_
                  refine xputI (pc := 117) C0 (Nat.le_of_ble_eq_true rfl) hH hS 9 8 clX7 ⟨Nat.le_of_ble_eq_true rfl, Nat.le_of_ble_eq_true rfl⟩ ⟨rfl, rfl⟩ ⟨Nat.le_of_ble_eq_true rfl, rfl, rfl⟩ fl_X7_38 (x := 2) ⟨rfl, rfl⟩ dX7_scan_117 (fun _ locs hH hS _ => ?_)
                  have hH : Hd D tA b 0 78 zz (up2 iv 9 8 2) Fv Gv _ := hH
                  refine lv_aload_n (pc := 120) C0.1 C0.2.1 dX7_scan_120 rfl (lv_at hl 1 rfl) ?_
                  refine lv_iload_n (pc := 121) C0.1 C0.2.1 dX7_scan_121 rfl (lv_at hl 0 rfl) ?_
                  refine xputI (pc := 122) C0 (Nat.le_of_ble_eq_true rfl) hH hS 9 9 clX7 ⟨Nat.le_of_ble_eq_true rfl, Nat.le_of_ble_eq_true rfl⟩ ⟨rfl, rfl⟩ ⟨Nat.le_of_ble_eq_true rfl, rfl, rfl⟩ fl_X7_41 (x := r115) ⟨rfl, rfl⟩ dX7_scan_122 (fun _ locs hH hS _ => ?_)
                  have hH : Hd D tA b 0 78 zz (up2 (up2 iv 9 8 2) 9 9 r115) Fv Gv _ := hH
                  exact xvret (pc := 125) C0 hr hH hS dX7_scan_125 ⟨(On.i (On.i h3 (by decide)) (by decide)), h4.1, h4.2, h5⟩
                · have : Int32.toInt 0 = 0 := rfl
                  have c117 : ¬ _ := fun q => c117 (Int32.toInt_inj.mp q)
                  refine lv_iload_n (pc := 107) C0.1 C0.2.1 dX7_scan_107 rfl (lv_at hl 0 rfl) ?_
                  refine lv_aload_n (pc := 108) C0.1 C0.2.1 dX7_scan_108 rfl (lv_at hl 1 rfl) ?_
                  refine xget (pc := 109) C0 hH 9 9 clX7 ⟨Nat.le_of_ble_eq_true rfl, Nat.le_of_ble_eq_true rfl⟩ ⟨rfl, rfl⟩ (Nat.le_of_ble_eq_true rfl) fl_X7_41 (v := .int (iv 9 9)) rfl dX7_scan_109 ?_
                  refine lv_icmp_ge (pc := 112) (tgt := 125) C0.1 C0.2.1 dX7_scan_112 (by decide) (fun c118 => ?_) (fun c118 => ?_)
                  · have c118 := Int32.le_iff_toInt_le.mp c118
                    exact xvret (pc := 125) C0 hr hH hS dX7_scan_125 ⟨h3, h4.1, h4.2, h5⟩
                  · have c118 : ¬ _ := fun q => c118 (Int32.le_iff_toInt_le.mpr q)
                    refine lv_aload_n (pc := 115) C0.1 C0.2.1 dX7_scan_115 rfl (lv_at hl 1 rfl) ?_
                    refine lv_iconst (pc := 116) (v := 2) C0.1 C0.2.1 dX7_scan_116 (by decide) ?_
                    refine xputI (pc := 117) C0 (Nat.le_of_ble_eq_true rfl) hH hS 9 8 clX7 ⟨Nat.le_of_ble_eq_true rfl, Nat.le_of_ble_eq_true rfl⟩ ⟨rfl, rfl⟩ ⟨Nat.le_of_ble_eq_true rfl, rfl, rfl⟩ fl_X7_38 (x := 2) ⟨rfl, rfl⟩ dX7_scan_117 (fun _ locs hH hS _ => ?_)
                    have hH : Hd D tA b 0 78 zz (up2 iv 9 8 2) Fv Gv _ := hH
                    refine lv_aload_n (pc := 120) C0.1 C0.2.1 dX7_scan_120 rfl (lv_at hl 1 rfl) ?_
                    refine lv_iload_n (pc := 121) C0.1 C0.2.1 dX7_scan_121 rfl (lv_at hl 0 rfl) ?_
                    refine xputI (pc := 122) C0 (Nat.le_of_ble_eq_true rfl) hH hS 9 9 clX7 ⟨Nat.le_of_ble_eq_true rfl, Nat.le_of_ble_eq_true rfl⟩ ⟨rfl, rfl⟩ ⟨Nat.le_of_ble_eq_true rfl, rfl, rfl⟩ fl_X7_41 (x := r115) ⟨rfl, rfl⟩ dX7_scan_122 (fun _ locs hH hS _ => ?_)
                    have hH : Hd D tA b 0 78 zz (up2 (up2 iv 9 8 2) 9 9 r115) Fv Gv _ := hH
                    exact xvret (pc := 125) C0 hr hH hS dX7_scan_125 ⟨(On.i (On.i h3 (by decide)) (by decide)), h4.1, h4.2, h5⟩
          · have : Int32.toInt 0 = 0 := rfl
            have c113 := congrArg Int32.toInt c113
            refine lv_aload_n (pc := 63) C0.1 C0.2.1 dX7_scan_63 rfl (lv_at hl 1 rfl) ?_
            refine lv_aload_n (pc := 64) C0.1 C0.2.1 dX7_scan_64 rfl (lv_at hl 2 rfl) ?_
            refine lv_aload_n (pc := 65) C0.1 C0.2.1 dX7_scan_65 rfl (lv_at hl 3 rfl) ?_
            refine xcVV (pc := 66) 9 [.ref (b + 4), .ref (b + 1)] (g_X7_scanNext_9 l D tA b iv Fv Gv  (show 0 ≤ Int32.toInt (iv 4 1) ∧ Int32.toInt (iv 4 1) ≤ 600 from by omega) (show 0 ≤ Int32.toInt (iv 9 7) ∧ Int32.toInt (iv 9 7) ≤ 600 from by omega) h5 (show 0 ≤ Int32.toInt (iv 1 2) ∧ Int32.toInt (iv 1 2) ≤ 24 from by omega)) C0 hH hS clX7 rfl ⟨⟨Nat.le_of_ble_eq_true rfl, Nat.le_of_ble_eq_true rfl⟩, rfl, rfl⟩ cw_X7_62 rfl ⟨Nat.le_of_ble_eq_true rfl, Nat.le_of_ble_eq_true rfl⟩ hl.1 rfl (Nat.le_of_ble_eq_true rfl) dX7_scan_66 ⟨Nat.le_of_ble_eq_true rfl, Nat.le_of_ble_eq_true rfl⟩ (fun ir119 Fr119 Gr119 _ locs hp hH hS => ?_)
            obtain ⟨honr119, ht1r119, ht2r119, htfr119⟩ := hp
            try dsimp only at ht1r119 ht2r119 htfr119
            have ek_4_1r119 : Int32.toInt (ir119 4 1) = Int32.toInt (iv 4 1) := congrArg Int32.toInt (congrFun (honr119.1 4 (by decide)).1 1)
            have ek_1_2r119 : Int32.toInt (ir119 1 2) = Int32.toInt (iv 1 2) := congrArg Int32.toInt (congrFun (honr119.1 1 (by decide)).1 2)
            obtain ⟨x120, ex120⟩ : ∃ y_ : Int32, y_ = k + 1 := ⟨_, rfl⟩
            have : Int32.toInt 1 = 1 := rfl
            have hx120 : Int32.toInt x120 = Int32.toInt k + Int32.toInt 1 := by rw [ex120]; exact fb_addI (by omega) (by omega)
            refine lv_iinc (pc := 69) (v := x120) (lv' := [(3, .int x120), (0, .ref (b + 9)), (1, .ref (b + 4)), (2, .ref (b + 1))]) C0.1 C0.2.1 dX7_scan_69 hl (k := 0) rfl (by rw [ex120]; rfl) (by decide) rfl (fun ls hl => ?_)
            refine lv_goto (pc := 72) (tgt := 38) C0.1 C0.2.1 dX7_scan_72 (by decide) ?_
            exact ih x120 ir119 Fr119 Gr119 _ _ _ (by omega) (by omega) (On.tr h3 honr119 (by decide) (by decide)) ⟨by omega, by omega⟩ htfr119 hH hS (lv_sub hl [0, 1, 2, 3] rfl)
  refine lv_aload_n (pc := 0) C0.1 C0.2.1 dX7_scan_0 rfl (lv_at hl 0 rfl) ?_
  refine lv_iconst (pc := 1) (v := 0) C0.1 C0.2.1 dX7_scan_1 (by decide) ?_
  refine xputI (pc := 2) C0 (Nat.le_of_ble_eq_true rfl) hH hS 9 7 clX7 ⟨Nat.le_of_ble_eq_true rfl, Nat.le_of_ble_eq_true rfl⟩ ⟨rfl, rfl⟩ ⟨Nat.le_of_ble_eq_true rfl, rfl, rfl⟩ fl_X7_34 (x := 0) ⟨rfl, rfl⟩ dX7_scan_2 (fun _ locs hH hS _ => ?_)
  have hH : Hd D tA b 0 78 zz (up2 i 9 7 0) F G _ := hH
  refine lv_aload_n (pc := 5) C0.1 C0.2.1 dX7_scan_5 rfl (lv_at hl 0 rfl) ?_
  refine lv_iconst (pc := 6) (v := 0) C0.1 C0.2.1 dX7_scan_6 (by decide) ?_
  refine xputI (pc := 7) C0 (Nat.le_of_ble_eq_true rfl) hH hS 9 8 clX7 ⟨Nat.le_of_ble_eq_true rfl, Nat.le_of_ble_eq_true rfl⟩ ⟨rfl, rfl⟩ ⟨Nat.le_of_ble_eq_true rfl, rfl, rfl⟩ fl_X7_38 (x := 0) ⟨rfl, rfl⟩ dX7_scan_7 (fun _ locs hH hS _ => ?_)
  have hH : Hd D tA b 0 78 zz (up2 (up2 i 9 7 0) 9 8 0) F G _ := hH
  refine lv_aload_n (pc := 10) C0.1 C0.2.1 dX7_scan_10 rfl (lv_at hl 0 rfl) ?_
  refine lv_bipush (pc := 11) (v := (-9)) C0.1 C0.2.1 dX7_scan_11 (by decide) ?_
  refine xputI (pc := 13) C0 (Nat.le_of_ble_eq_true rfl) hH hS 9 9 clX7 ⟨Nat.le_of_ble_eq_true rfl, Nat.le_of_ble_eq_true rfl⟩ ⟨rfl, rfl⟩ ⟨Nat.le_of_ble_eq_true rfl, rfl, rfl⟩ fl_X7_41 (x := (-9)) ⟨rfl, rfl⟩ dX7_scan_13 (fun _ locs hH hS _ => ?_)
  have hH : Hd D tA b 0 78 zz (up2 (up2 (up2 i 9 7 0) 9 8 0) 9 9 (-9)) F G _ := hH
  refine lv_aload_n (pc := 16) C0.1 C0.2.1 dX7_scan_16 rfl (lv_at hl 0 rfl) ?_
  refine lv_iconst (pc := 17) (v := 0) C0.1 C0.2.1 dX7_scan_17 (by decide) ?_
  refine xputI (pc := 18) C0 (Nat.le_of_ble_eq_true rfl) hH hS 9 10 clX7 ⟨Nat.le_of_ble_eq_true rfl, Nat.le_of_ble_eq_true rfl⟩ ⟨rfl, rfl⟩ ⟨Nat.le_of_ble_eq_true rfl, rfl, rfl⟩ fl_X7_44 (x := 0) ⟨rfl, rfl⟩ dX7_scan_18 (fun _ locs hH hS _ => ?_)
  have hH : Hd D tA b 0 78 zz (up2 (up2 (up2 (up2 i 9 7 0) 9 8 0) 9 9 (-9)) 9 10 0) F G _ := hH
  refine lv_aload_n (pc := 21) C0.1 C0.2.1 dX7_scan_21 rfl (lv_at hl 0 rfl) ?_
  refine lv_iconst (pc := 22) (v := 0) C0.1 C0.2.1 dX7_scan_22 (by decide) ?_
  refine xputI (pc := 23) C0 (Nat.le_of_ble_eq_true rfl) hH hS 9 11 clX7 ⟨Nat.le_of_ble_eq_true rfl, Nat.le_of_ble_eq_true rfl⟩ ⟨rfl, rfl⟩ ⟨Nat.le_of_ble_eq_true rfl, rfl, rfl⟩ fl_X7_47 (x := 0) ⟨rfl, rfl⟩ dX7_scan_23 (fun _ locs hH hS _ => ?_)
  have hH : Hd D tA b 0 78 zz (up2 (up2 (up2 (up2 (up2 i 9 7 0) 9 8 0) 9 9 (-9)) 9 10 0) 9 11 0) F G _ := hH
  refine lv_aload_n (pc := 26) C0.1 C0.2.1 dX7_scan_26 rfl (lv_at hl 0 rfl) ?_
  refine lv_iconst (pc := 27) (v := 0) C0.1 C0.2.1 dX7_scan_27 (by decide) ?_
  refine xputI (pc := 28) C0 (Nat.le_of_ble_eq_true rfl) hH hS 9 12 clX7 ⟨Nat.le_of_ble_eq_true rfl, Nat.le_of_ble_eq_true rfl⟩ ⟨rfl, rfl⟩ ⟨Nat.le_of_ble_eq_true rfl, rfl, rfl⟩ fl_X7_50 (x := 0) ⟨rfl, rfl⟩ dX7_scan_28 (fun _ locs hH hS _ => ?_)
  have hH : Hd D tA b 0 78 zz (up2 (up2 (up2 (up2 (up2 (up2 i 9 7 0) 9 8 0) 9 9 (-9)) 9 10 0) 9 11 0) 9 12 0) F G _ := hH
  refine lv_aload_n (pc := 31) C0.1 C0.2.1 dX7_scan_31 rfl (lv_at hl 0 rfl) ?_
  refine lv_iconst (pc := 32) (v := 1) C0.1 C0.2.1 dX7_scan_32 (by decide) ?_
  refine xputI (pc := 33) C0 (Nat.le_of_ble_eq_true rfl) hH hS 9 13 clX7 ⟨Nat.le_of_ble_eq_true rfl, Nat.le_of_ble_eq_true rfl⟩ ⟨rfl, rfl⟩ ⟨Nat.le_of_ble_eq_true rfl, rfl, rfl⟩ fl_X7_53 (x := 1) ⟨rfl, rfl⟩ dX7_scan_33 (fun _ locs hH hS _ => ?_)
  have hH : Hd D tA b 0 78 zz (up2 (up2 (up2 (up2 (up2 (up2 (up2 i 9 7 0) 9 8 0) 9 9 (-9)) 9 10 0) 9 11 0) 9 12 0) 9 13 1) F G _ := hH
  refine lv_iconst (pc := 36) (v := 0) C0.1 C0.2.1 dX7_scan_36 (by decide) ?_
  refine lv_istore_n (pc := 37) (lv' := [(3, .int 0), (0, .ref (b + 9)), (1, .ref (b + 4)), (2, .ref (b + 1))]) C0.1 C0.2.1 dX7_scan_37 rfl hl (by decide) rfl (fun ls hl => ?_)
  exact LOOP 600 0 (up2 (up2 (up2 (up2 (up2 (up2 (up2 i 9 7 0) 9 8 0) 9 9 (-9)) 9 10 0) 9 11 0) 9 12 0) 9 13 1) F G _ _ _ (by have : Int32.toInt 0 = 0 := rfl; omega) (by have : Int32.toInt 0 = 0 := rfl; omega) (On.i (On.i (On.i (On.i (On.i (On.i (On.i On.rf (by decide)) (by decide)) (by decide)) (by decide)) (by decide)) (by decide)) (by decide)) ⟨by show 0 ≤ Int32.toInt 0; decide, by show Int32.toInt 0 ≤ 600; decide⟩ (Or.inr rfl) hH hS (lv_sub hl [0, 1, 2, 3] rfl)
set_option maxHeartbeats 4000000 in
set_option maxRecDepth 100000 in
theorem g_X7_anyOn_9 (l : Launch) (D : va_G) (tA : Nat → ClassId) (b : Nat) (i F : Nat → Nat → Int32) (G : Nat → Nat → Int64) (x : Int32) (htk : 0 ≤ (i 9 7).toInt ∧ (i 9 7).toInt ≤ 600) : xMI l yX7_anyOn cX7_anyOn 3 (some .boolean) 0 0 D tA b 0 78 i F G [.ref (b + 9), .int x] (fun r u => u = (i, F, G) ∧ True) := by
  refine xstart RX7 rfl (by decide) (Nat.le_of_ble_eq_true rfl) ?_
  intro p e s m below meth c ls C0 hr hH hS hl
  have hl : lv_has ls 3 [(0, .ref (b + 9)), (1, .int x)] := hl
  have rg_x := fb_rng x
  have LOOP : ∀ (d : Nat) (k : Int32) (H : Heap) (locs : List Loc) (ls : Array Slot), (0 ≤ k.toInt) → ((i 9 7).toInt - k.toInt ≤ d) → Hd D tA b 0 78 zz i F G H → va_S (xA b 0 78) s.heap H locs → lv_has ls 3 [(2, .int k), (0, .ref (b + 9)), (1, .int x)] → W p l e (xR 0 0) s m ([.ref (b + 9), .int x] : List Value).toArray below meth c H locs 0 0 (MQ below (va_Qi (fun r u => u = (i, F, G) ∧ True) (xB D tA b 0 78 zz) (xA b 0 78)) ([.ref (b + 9), .int x] : List Value).toArray s 0 0 (xA b 0 78)) (F0 m 2 ls []) := by
    intro d
    induction d with
    | zero =>
      intro k H locs ls h1 h2 hH hS hl
      have rg_k := fb_rng k
      refine lv_iload_n (pc := 2) C0.1 C0.2.1 dX7_anyOn_2 rfl (lv_at hl 0 rfl) ?_
      refine lv_aload_n (pc := 3) C0.1 C0.2.1 dX7_anyOn_3 rfl (lv_at hl 1 rfl) ?_
      refine xget (pc := 4) C0 hH 9 7 clX7 ⟨Nat.le_of_ble_eq_true rfl, Nat.le_of_ble_eq_true rfl⟩ ⟨rfl, rfl⟩ (Nat.le_of_ble_eq_true rfl) fl_X7_34 (v := .int (i 9 7)) rfl dX7_anyOn_4 ?_
      refine lv_icmp_ge (pc := 7) (tgt := 28) C0.1 C0.2.1 dX7_anyOn_7 (by decide) (fun _ => ?_) (fun c => absurd (Int32.le_iff_toInt_le.mpr (by omega)) c)
      refine lv_iconst (pc := 28) (v := 0) C0.1 C0.2.1 dX7_anyOn_28 (by decide) ?_
      exact xzret (pc := 29) C0 hr hH hS dX7_anyOn_29 (by decide) ⟨rfl, trivial⟩
    | succ d ih =>
      intro k H locs ls h1 h2 hH hS hl
      have rg_k := fb_rng k
      refine lv_iload_n (pc := 2) C0.1 C0.2.1 dX7_anyOn_2 rfl (lv_at hl 0 rfl) ?_
      refine lv_aload_n (pc := 3) C0.1 C0.2.1 dX7_anyOn_3 rfl (lv_at hl 1 rfl) ?_
      refine xget (pc := 4) C0 hH 9 7 clX7 ⟨Nat.le_of_ble_eq_true rfl, Nat.le_of_ble_eq_true rfl⟩ ⟨rfl, rfl⟩ (Nat.le_of_ble_eq_true rfl) fl_X7_34 (v := .int (i 9 7)) rfl dX7_anyOn_4 ?_
      refine lv_icmp_ge (pc := 7) (tgt := 28) C0.1 C0.2.1 dX7_anyOn_7 (by decide) (fun c101 => ?_) (fun c101 => ?_)
      · have c101 := Int32.le_iff_toInt_le.mp c101
        refine lv_iconst (pc := 28) (v := 0) C0.1 C0.2.1 dX7_anyOn_28 (by decide) ?_
        exact xzret (pc := 29) C0 hr hH hS dX7_anyOn_29 (by decide) ⟨rfl, trivial⟩
      · have c101 : ¬ _ := fun q => c101 (Int32.le_iff_toInt_le.mpr q)
        refine lv_aload_n (pc := 10) C0.1 C0.2.1 dX7_anyOn_10 rfl (lv_at hl 1 rfl) ?_
        refine xget (pc := 11) C0 hH 9 3 clX7 ⟨Nat.le_of_ble_eq_true rfl, Nat.le_of_ble_eq_true rfl⟩ ⟨rfl, rfl⟩ (Nat.le_of_ble_eq_true rfl) fl_X7_21 (v := .ref (b + 13)) rfl dX7_anyOn_11 ?_
        refine lv_iload_n (pc := 14) C0.1 C0.2.1 dX7_anyOn_14 rfl (lv_at hl 0 rfl) ?_
        refine xiald (pc := 15) (N := 600) C0 hH 13 ⟨Nat.le_of_ble_eq_true rfl, Nat.le_of_ble_eq_true rfl⟩ ⟨rfl, rfl⟩ (vI (by omega) (by omega)) dX7_anyOn_15 ?_
        refine lv_iload_n (pc := 16) C0.1 C0.2.1 dX7_anyOn_16 rfl (lv_at hl 2 rfl) ?_
        refine lv_icmp_ne (pc := 17) (tgt := 22) C0.1 C0.2.1 dX7_anyOn_17 (by decide) (fun c102 => ?_) (fun c102 => ?_)
        · have c102 : ¬ _ := fun q => c102 (Int32.toInt_inj.mp q)
          obtain ⟨x103, ex103⟩ : ∃ y_ : Int32, y_ = k + 1 := ⟨_, rfl⟩
          have : Int32.toInt 1 = 1 := rfl
          have hx103 : Int32.toInt x103 = Int32.toInt k + Int32.toInt 1 := by rw [ex103]; exact fb_addI (by omega) (by omega)
          refine lv_iinc (pc := 22) (v := x103) (lv' := [(2, .int x103), (0, .ref (b + 9)), (1, .int x)]) C0.1 C0.2.1 dX7_anyOn_22 hl (k := 0) rfl (by rw [ex103]; rfl) (by decide) rfl (fun ls hl => ?_)
          refine lv_goto (pc := 25) (tgt := 2) C0.1 C0.2.1 dX7_anyOn_25 (by decide) ?_
          exact ih x103 _ _ _ (by omega) (by omega) hH hS (lv_sub hl [0, 1, 2] rfl)
        · have c102 := congrArg Int32.toInt c102
          refine lv_iconst (pc := 20) (v := 1) C0.1 C0.2.1 dX7_anyOn_20 (by decide) ?_
          exact xzret (pc := 21) C0 hr hH hS dX7_anyOn_21 (by decide) ⟨rfl, trivial⟩
  refine lv_iconst (pc := 0) (v := 0) C0.1 C0.2.1 dX7_anyOn_0 (by decide) ?_
  refine lv_istore_n (pc := 1) (lv' := [(2, .int 0), (0, .ref (b + 9)), (1, .int x)]) C0.1 C0.2.1 dX7_anyOn_1 rfl hl (by decide) rfl (fun ls hl => ?_)
  exact LOOP 600 0 _ _ _ (by have : Int32.toInt 0 = 0 := rfl; omega) (by have : Int32.toInt 0 = 0 := rfl; omega) hH hS (lv_sub hl [0, 1, 2] rfl)
set_option maxHeartbeats 4000000 in
set_option maxRecDepth 100000 in
theorem g_X7_slideColumns_9 (l : Launch) (D : va_G) (tA : Nat → ClassId) (b : Nat) (i F : Nat → Nat → Int32) (G : Nat → Nat → Int64) (x y z : Int32) (hsz : 0 ≤ (i 4 1).toInt ∧ (i 4 1).toInt ≤ 600) (htk : 0 ≤ (i 9 7).toInt ∧ (i 9 7).toInt ≤ 600) : xMV l yX7_slideColumns cX7_slideColumns 8 none 2 48 D tA b 0 78 i F G [.ref (b + 9), .ref (b + 4), .int x, .int y, .int z] (fun u => On 14 15 i F G u ∧ True) := by
  refine xstart RX7 rfl (by decide) (Nat.le_of_ble_eq_true rfl) ?_
  intro p e s m below meth c ls C0 hr hH hS hl
  have hl : lv_has ls 8 [(0, .ref (b + 9)), (1, .ref (b + 4)), (2, .int x), (3, .int y), (4, .int z)] := hl
  have rg_x := fb_rng x
  have rg_y := fb_rng y
  have rg_z := fb_rng z
  have LOOP : ∀ (d : Nat) (k q1 q2 : Int32) (iv Fv : Nat → Nat → Int32) (Gv : Nat → Nat → Int64) (H : Heap) (locs : List Loc) (ls : Array Slot), (0 ≤ k.toInt) → ((i 9 7).toInt - k.toInt ≤ d) → (On 14 15 i F G (iv, Fv, Gv)) → Hd D tA b 0 78 zz iv Fv Gv H → va_S (xA b 0 78) s.heap H locs → lv_has ls 8 [(7, .int k), (6, .int q1), (5, .int q2), (0, .ref (b + 9)), (1, .ref (b + 4)), (2, .int x), (3, .int y), (4, .int z)] → W p l e (xR 2 48) s m ([.ref (b + 9), .ref (b + 4), .int x, .int y, .int z] : List Value).toArray below meth c H locs 0 0 (MQ below (va_Qv (fun u => On 14 15 i F G u ∧ True) (xB D tA b 0 78 zz) (xA b 0 78)) ([.ref (b + 9), .ref (b + 4), .int x, .int y, .int z] : List Value).toArray s 0 0 (xA b 0 78)) (F0 m 24 ls []) := by
    intro d
    induction d with
    | zero =>
      intro k q1 q2 iv Fv Gv H locs ls h1 h2 h3 hH hS hl
      have rg_k := fb_rng k
      have rg_q1 := fb_rng q1
      have rg_q2 := fb_rng q2
      have ek4 : Int32.toInt (iv 4 1) = Int32.toInt (i 4 1) := congrArg Int32.toInt (congrFun (h3.1 4 (by decide)).1 1)
      have ek9 : Int32.toInt (iv 9 7) = Int32.toInt (i 9 7) := congrArg Int32.toInt (congrFun (h3.1 9 (by decide)).1 7)
      refine lv_iload (pc := 24) C0.1 C0.2.1 dX7_slideColumns_24 (lv_at hl 0 rfl) ?_
      refine lv_aload_n (pc := 26) C0.1 C0.2.1 dX7_slideColumns_26 rfl (lv_at hl 3 rfl) ?_
      refine xget (pc := 27) C0 hH 9 7 clX7 ⟨Nat.le_of_ble_eq_true rfl, Nat.le_of_ble_eq_true rfl⟩ ⟨rfl, rfl⟩ (Nat.le_of_ble_eq_true rfl) fl_X7_34 (v := .int (iv 9 7)) rfl dX7_slideColumns_27 ?_
      refine lv_icmp_ge (pc := 30) (tgt := 87) C0.1 C0.2.1 dX7_slideColumns_30 (by decide) (fun _ => ?_) (fun c => absurd (Int32.le_iff_toInt_le.mpr (by omega)) c)
      exact xvret (pc := 87) C0 hr hH hS dX7_slideColumns_87 ⟨h3, trivial⟩
    | succ d ih =>
      intro k q1 q2 iv Fv Gv H locs ls h1 h2 h3 hH hS hl
      have rg_k := fb_rng k
      have rg_q1 := fb_rng q1
      have rg_q2 := fb_rng q2
      have ek4 : Int32.toInt (iv 4 1) = Int32.toInt (i 4 1) := congrArg Int32.toInt (congrFun (h3.1 4 (by decide)).1 1)
      have ek9 : Int32.toInt (iv 9 7) = Int32.toInt (i 9 7) := congrArg Int32.toInt (congrFun (h3.1 9 (by decide)).1 7)
      refine lv_iload (pc := 24) C0.1 C0.2.1 dX7_slideColumns_24 (lv_at hl 0 rfl) ?_
      refine lv_aload_n (pc := 26) C0.1 C0.2.1 dX7_slideColumns_26 rfl (lv_at hl 3 rfl) ?_
      refine xget (pc := 27) C0 hH 9 7 clX7 ⟨Nat.le_of_ble_eq_true rfl, Nat.le_of_ble_eq_true rfl⟩ ⟨rfl, rfl⟩ (Nat.le_of_ble_eq_true rfl) fl_X7_34 (v := .int (iv 9 7)) rfl dX7_slideColumns_27 ?_
      refine lv_icmp_ge (pc := 30) (tgt := 87) C0.1 C0.2.1 dX7_slideColumns_30 (by decide) (fun c101 => ?_) (fun c101 => ?_)
      · have c101 := Int32.le_iff_toInt_le.mp c101
        exact xvret (pc := 87) C0 hr hH hS dX7_slideColumns_87 ⟨h3, trivial⟩
      · have c101 : ¬ _ := fun q => c101 (Int32.le_iff_toInt_le.mpr q)
        refine lv_aload_n (pc := 33) C0.1 C0.2.1 dX7_slideColumns_33 rfl (lv_at hl 3 rfl) ?_
        refine xget (pc := 34) C0 hH 9 3 clX7 ⟨Nat.le_of_ble_eq_true rfl, Nat.le_of_ble_eq_true rfl⟩ ⟨rfl, rfl⟩ (Nat.le_of_ble_eq_true rfl) fl_X7_21 (v := .ref (b + 13)) rfl dX7_slideColumns_34 ?_
        refine lv_iload (pc := 37) C0.1 C0.2.1 dX7_slideColumns_37 (lv_at hl 0 rfl) ?_
        refine xiald (pc := 39) (N := 600) C0 hH 13 ⟨Nat.le_of_ble_eq_true rfl, Nat.le_of_ble_eq_true rfl⟩ ⟨rfl, rfl⟩ (vI (by omega) (by omega)) dX7_slideColumns_39 ?_
        refine lv_iload_n (pc := 40) C0.1 C0.2.1 dX7_slideColumns_40 rfl (lv_at hl 5 rfl) ?_
        refine lv_icmp_ne (pc := 41) (tgt := 81) C0.1 C0.2.1 dX7_slideColumns_41 (by decide) (fun c102 => ?_) (fun c102 => ?_)
        · have c102 : ¬ _ := fun q => c102 (Int32.toInt_inj.mp q)
          obtain ⟨x103, ex103⟩ : ∃ y_ : Int32, y_ = k + 1 := ⟨_, rfl⟩
          have : Int32.toInt 1 = 1 := rfl
          have hx103 : Int32.toInt x103 = Int32.toInt k + Int32.toInt 1 := by rw [ex103]; exact fb_addI (by omega) (by omega)
          refine lv_iinc (pc := 81) (v := x103) (lv' := [(7, .int x103), (6, .int q1), (5, .int q2), (0, .ref (b + 9)), (1, .ref (b + 4)), (2, .int x), (3, .int y), (4, .int z)]) C0.1 C0.2.1 dX7_slideColumns_81 hl (k := 0) rfl (by rw [ex103]; rfl) (by decide) rfl (fun ls hl => ?_)
          refine lv_goto (pc := 84) (tgt := 24) C0.1 C0.2.1 dX7_slideColumns_84 (by decide) ?_
          exact ih x103 q1 q2 iv Fv Gv _ _ _ (by omega) (by omega) h3 hH hS (lv_sub hl [0, 1, 2, 3, 4, 5, 6, 7] rfl)
        · have c102 := congrArg Int32.toInt c102
          refine lv_aload_n (pc := 44) C0.1 C0.2.1 dX7_slideColumns_44 rfl (lv_at hl 4 rfl) ?_
          refine lv_iload (pc := 45) C0.1 C0.2.1 dX7_slideColumns_45 (lv_at hl 2 rfl) ?_
          refine lv_iload (pc := 47) C0.1 C0.2.1 dX7_slideColumns_47 (lv_at hl 1 rfl) ?_
          refine lv_aload_n (pc := 49) C0.1 C0.2.1 dX7_slideColumns_49 rfl (lv_at hl 3 rfl) ?_
          refine xget (pc := 50) C0 hH 9 1 clX7 ⟨Nat.le_of_ble_eq_true rfl, Nat.le_of_ble_eq_true rfl⟩ ⟨rfl, rfl⟩ (Nat.le_of_ble_eq_true rfl) fl_X7_15 (v := .ref (b + 11)) rfl dX7_slideColumns_50 ?_
          refine lv_iload (pc := 53) C0.1 C0.2.1 dX7_slideColumns_53 (lv_at hl 0 rfl) ?_
          refine xiald (pc := 55) (N := 600) C0 hH 11 ⟨Nat.le_of_ble_eq_true rfl, Nat.le_of_ble_eq_true rfl⟩ ⟨rfl, rfl⟩ (vI (by omega) (by omega)) dX7_slideColumns_55 ?_
          refine lv_iload (pc := 56) C0.1 C0.2.1 dX7_slideColumns_56 (lv_at hl 7 rfl) ?_
          refine xcVI (pc := 58) 4 [.int q2, .int q1, .int (Fv 11 (Int32.toNatClampNeg k)), .int z] (g_X6_columnFrom_4 l D tA b iv Fv Gv q2 q1 (Fv 11 (Int32.toNatClampNeg k)) z (show 0 ≤ Int32.toInt (iv 4 1) ∧ Int32.toInt (iv 4 1) ≤ 600 from by omega)) C0 hH hS clX6 rfl ⟨⟨Nat.le_of_ble_eq_true rfl, Nat.le_of_ble_eq_true rfl⟩, rfl, rfl⟩ cw_X7_134 rfl ⟨Nat.le_of_ble_eq_true rfl, Nat.le_of_ble_eq_true rfl⟩ hl.1 rfl (Nat.le_of_ble_eq_true rfl) dX7_slideColumns_58 ⟨Nat.le_of_ble_eq_true rfl, Nat.le_of_ble_eq_true rfl⟩ (fun r104 ir104 Fr104 Gr104 _ locs hp hH hS => ?_)
          obtain ⟨hu, hpr104⟩ := hp
          cases hu
          refine lv_istore (pc := 61) (lv' := [(6, .int r104), (7, .int k), (5, .int q2), (0, .ref (b + 9)), (1, .ref (b + 4)), (2, .int x), (3, .int y), (4, .int z)]) C0.1 C0.2.1 dX7_slideColumns_61 hl (by decide) rfl (fun ls hl => ?_)
          refine lv_aload_n (pc := 63) C0.1 C0.2.1 dX7_slideColumns_63 rfl (lv_at hl 3 rfl) ?_
          refine xget (pc := 64) C0 hH 9 1 clX7 ⟨Nat.le_of_ble_eq_true rfl, Nat.le_of_ble_eq_true rfl⟩ ⟨rfl, rfl⟩ (Nat.le_of_ble_eq_true rfl) fl_X7_15 (v := .ref (b + 11)) rfl dX7_slideColumns_64 ?_
          refine lv_iload (pc := 67) C0.1 C0.2.1 dX7_slideColumns_67 (lv_at hl 1 rfl) ?_
          refine xiald (pc := 69) (N := 600) C0 hH 11 ⟨Nat.le_of_ble_eq_true rfl, Nat.le_of_ble_eq_true rfl⟩ ⟨rfl, rfl⟩ (vI (by omega) (by omega)) dX7_slideColumns_69 ?_
          refine lv_topi (fun x105 ex105 => ?_)
          refine lv_istore (pc := 70) (lv' := [(5, .int x105), (6, .int r104), (7, .int k), (0, .ref (b + 9)), (1, .ref (b + 4)), (2, .int x), (3, .int y), (4, .int z)]) C0.1 C0.2.1 dX7_slideColumns_70 hl (by decide) rfl (fun ls hl => ?_)
          refine lv_aload_n (pc := 72) C0.1 C0.2.1 dX7_slideColumns_72 rfl (lv_at hl 3 rfl) ?_
          refine xget (pc := 73) C0 hH 9 4 clX7 ⟨Nat.le_of_ble_eq_true rfl, Nat.le_of_ble_eq_true rfl⟩ ⟨rfl, rfl⟩ (Nat.le_of_ble_eq_true rfl) fl_X7_24 (v := .ref (b + 14)) rfl dX7_slideColumns_73 ?_
          refine lv_iload (pc := 76) C0.1 C0.2.1 dX7_slideColumns_76 (lv_at hl 2 rfl) ?_
          refine lv_iload (pc := 78) C0.1 C0.2.1 dX7_slideColumns_78 (lv_at hl 1 rfl) ?_
          refine xiast (pc := 80) (N := 600) C0 (Nat.le_of_ble_eq_true rfl) hH hS 14 ⟨Nat.le_of_ble_eq_true rfl, Nat.le_of_ble_eq_true rfl⟩ ⟨rfl, rfl⟩ (vI (by omega) (by omega)) dX7_slideColumns_80 (fun _ locs hH hS _ => ?_)
          have hH : Hd D tA b 0 78 zz iv (va_up Fv 14 (upd (Fv 14) (Int32.toNatClampNeg k) r104)) Gv _ := hH
          obtain ⟨x106, ex106⟩ : ∃ y_ : Int32, y_ = k + 1 := ⟨_, rfl⟩
          have : Int32.toInt 1 = 1 := rfl
          have hx106 : Int32.toInt x106 = Int32.toInt k + Int32.toInt 1 := by rw [ex106]; exact fb_addI (by omega) (by omega)
          refine lv_iinc (pc := 81) (v := x106) (lv' := [(7, .int x106), (5, .int x105), (6, .int r104), (0, .ref (b + 9)), (1, .ref (b + 4)), (2, .int x), (3, .int y), (4, .int z)]) C0.1 C0.2.1 dX7_slideColumns_81 hl (k := 2) rfl (by rw [ex106]; rfl) (by decide) rfl (fun ls hl => ?_)
          refine lv_goto (pc := 84) (tgt := 24) C0.1 C0.2.1 dX7_slideColumns_84 (by decide) ?_
          exact ih x106 r104 x105 iv (va_up Fv 14 (upd (Fv 14) (Int32.toNatClampNeg k) r104)) Gv _ _ _ (by omega) (by omega) (On.f h3 (by decide)) hH hS (lv_sub hl [0, 2, 1, 3, 4, 5, 6, 7] rfl)
  refine lv_aload_n (pc := 0) C0.1 C0.2.1 dX7_slideColumns_0 rfl (lv_at hl 1 rfl) ?_
  refine lv_iload_n (pc := 1) C0.1 C0.2.1 dX7_slideColumns_1 rfl (lv_at hl 2 rfl) ?_
  refine xcVI (pc := 2) 4 [.int x] (g_X6_startOf_4 l D tA b i F G x (show 0 ≤ Int32.toInt (i 4 1) ∧ Int32.toInt (i 4 1) ≤ 600 from by omega)) C0 hH hS clX6 rfl ⟨⟨Nat.le_of_ble_eq_true rfl, Nat.le_of_ble_eq_true rfl⟩, rfl, rfl⟩ cw_X7_125 rfl ⟨Nat.le_of_ble_eq_true rfl, Nat.le_of_ble_eq_true rfl⟩ hl.1 rfl (Nat.le_of_ble_eq_true rfl) dX7_slideColumns_2 ⟨Nat.le_of_ble_eq_true rfl, Nat.le_of_ble_eq_true rfl⟩ (fun r1 ir1 Fr1 Gr1 _ locs hp hH hS => ?_)
  obtain ⟨hu, hpr1⟩ := hp
  cases hu
  refine lv_iconst (pc := 5) (v := 0) C0.1 C0.2.1 dX7_slideColumns_5 (by decide) ?_
  refine lv_iload_n (pc := 6) C0.1 C0.2.1 dX7_slideColumns_6 rfl (lv_at hl 3 rfl) ?_
  refine lv_ineg (pc := 7) C0.1 C0.2.1 dX7_slideColumns_7 ?_
  refine va_mmax (pc := 8) C0.1 C0.2.1 (C0.2.2.1.trans hl.1.symm) C0.2.2.2.1 (C0.2.2.2.2.1 _ mm_X7_128.1) (C0.2.2.2.2.1 _ mm_X7_128.2.1) (C0.2.2.2.2.1 _ mm_X7_128.2.2.1) (C0.2.2.2.2.1 _ mm_X7_128.2.2.2) (Nat.le_of_ble_eq_true rfl) (Nat.le_of_ble_eq_true rfl) (Nat.le_of_ble_eq_true rfl) (Nat.le_of_ble_eq_true rfl) dX7_slideColumns_8 ?_
  refine lv_iadd (pc := 11) C0.1 C0.2.1 dX7_slideColumns_11 ?_
  refine lv_topi (fun x2 ex2 => ?_)
  refine lv_istore (pc := 12) (lv' := [(5, .int x2), (0, .ref (b + 9)), (1, .ref (b + 4)), (2, .int x), (3, .int y), (4, .int z)]) C0.1 C0.2.1 dX7_slideColumns_12 hl (by decide) rfl (fun ls hl => ?_)
  refine lv_iconst (pc := 14) (v := 0) C0.1 C0.2.1 dX7_slideColumns_14 (by decide) ?_
  refine lv_iload_n (pc := 15) C0.1 C0.2.1 dX7_slideColumns_15 rfl (lv_at hl 4 rfl) ?_
  refine va_mmax (pc := 16) C0.1 C0.2.1 (C0.2.2.1.trans hl.1.symm) C0.2.2.2.1 (C0.2.2.2.2.1 _ mm_X7_128.1) (C0.2.2.2.2.1 _ mm_X7_128.2.1) (C0.2.2.2.2.1 _ mm_X7_128.2.2.1) (C0.2.2.2.2.1 _ mm_X7_128.2.2.2) (Nat.le_of_ble_eq_true rfl) (Nat.le_of_ble_eq_true rfl) (Nat.le_of_ble_eq_true rfl) (Nat.le_of_ble_eq_true rfl) dX7_slideColumns_16 ?_
  refine lv_topi (fun x3 ex3 => ?_)
  refine lv_istore (pc := 19) (lv' := [(6, .int x3), (5, .int x2), (0, .ref (b + 9)), (1, .ref (b + 4)), (2, .int x), (3, .int y), (4, .int z)]) C0.1 C0.2.1 dX7_slideColumns_19 hl (by decide) rfl (fun ls hl => ?_)
  refine lv_iconst (pc := 21) (v := 0) C0.1 C0.2.1 dX7_slideColumns_21 (by decide) ?_
  refine lv_istore (pc := 22) (lv' := [(7, .int 0), (6, .int x3), (5, .int x2), (0, .ref (b + 9)), (1, .ref (b + 4)), (2, .int x), (3, .int y), (4, .int z)]) C0.1 C0.2.1 dX7_slideColumns_22 hl (by decide) rfl (fun ls hl => ?_)
  exact LOOP 600 0 x3 x2 i F G _ _ _ (by have : Int32.toInt 0 = 0 := rfl; omega) (by have : Int32.toInt 0 = 0 := rfl; omega) On.rf hH hS (lv_sub hl [0, 1, 2, 3, 4, 5, 6, 7] rfl)
set_option maxHeartbeats 4000000 in
set_option maxRecDepth 100000 in
theorem g_X7_rowLength_40 (l : Launch) (D : va_G) (tA : Nat → ClassId) (b : Nat) (i F : Nat → Nat → Int32) (G : Nat → Nat → Int64) (x y z : Int32) (hsz : 0 ≤ (i 6 1).toInt ∧ (i 6 1).toInt ≤ 600) (hz : z.toInt ≤ 9) : xMI l yX7_rowLength cX7_rowLength 7 (some .int) 1 21 D tA b 0 78 i F G [.ref (b + 40), .ref (b + 6), .int x, .int y, .int z] (fun r u => u = (i, F, G) ∧ True) := by
  refine xstart RX7 rfl (by decide) (Nat.le_of_ble_eq_true rfl) ?_
  intro p e s m below meth c ls C0 hr hH hS hl
  have hl : lv_has ls 7 [(0, .ref (b + 40)), (1, .ref (b + 6)), (2, .int x), (3, .int y), (4, .int z)] := hl
  have rg_x := fb_rng x
  have rg_y := fb_rng y
  have rg_z := fb_rng z
  have LOOP : ∀ (d : Nat) (k : Int32) (H : Heap) (locs : List Loc) (ls : Array Slot), (0 ≤ k.toInt) → (z.toInt + 1 - k.toInt ≤ d) → Hd D tA b 0 78 zz i F G H → va_S (xA b 0 78) s.heap H locs → lv_has ls 7 [(5, .int k), (0, .ref (b + 40)), (1, .ref (b + 6)), (2, .int x), (3, .int y), (4, .int z)] → W p l e (xR 1 21) s m ([.ref (b + 40), .ref (b + 6), .int x, .int y, .int z] : List Value).toArray below meth c H locs 0 0 (MQ below (va_Qi (fun r u => u = (i, F, G) ∧ True) (xB D tA b 0 78 zz) (xA b 0 78)) ([.ref (b + 40), .ref (b + 6), .int x, .int y, .int z] : List Value).toArray s 0 0 (xA b 0 78)) (F0 m 3 ls []) := by
    intro d
    induction d with
    | zero =>
      intro k H locs ls h1 h2 hH hS hl
      have rg_k := fb_rng k
      refine lv_iload (pc := 3) C0.1 C0.2.1 dX7_rowLength_3 (lv_at hl 0 rfl) ?_
      refine lv_iload (pc := 5) C0.1 C0.2.1 dX7_rowLength_5 (lv_at hl 5 rfl) ?_
      refine lv_icmp_gt (pc := 7) (tgt := 44) C0.1 C0.2.1 dX7_rowLength_7 (by decide) (fun _ => ?_) (fun c => absurd (Int32.lt_iff_toInt_lt.mpr (by omega)) c)
      refine lv_iconst (pc := 44) (v := 0) C0.1 C0.2.1 dX7_rowLength_44 (by decide) ?_
      exact xiret (pc := 45) C0 hr hH hS dX7_rowLength_45 ⟨rfl, trivial⟩
    | succ d ih =>
      intro k H locs ls h1 h2 hH hS hl
      have rg_k := fb_rng k
      refine lv_iload (pc := 3) C0.1 C0.2.1 dX7_rowLength_3 (lv_at hl 0 rfl) ?_
      refine lv_iload (pc := 5) C0.1 C0.2.1 dX7_rowLength_5 (lv_at hl 5 rfl) ?_
      refine lv_icmp_gt (pc := 7) (tgt := 44) C0.1 C0.2.1 dX7_rowLength_7 (by decide) (fun c101 => ?_) (fun c101 => ?_)
      · have c101 := Int32.lt_iff_toInt_lt.mp c101
        refine lv_iconst (pc := 44) (v := 0) C0.1 C0.2.1 dX7_rowLength_44 (by decide) ?_
        exact xiret (pc := 45) C0 hr hH hS dX7_rowLength_45 ⟨rfl, trivial⟩
      · have c101 : ¬ _ := fun q => c101 (Int32.lt_iff_toInt_lt.mpr q)
        refine lv_aload_n (pc := 10) C0.1 C0.2.1 dX7_rowLength_10 rfl (lv_at hl 2 rfl) ?_
        refine lv_aload_n (pc := 11) C0.1 C0.2.1 dX7_rowLength_11 rfl (lv_at hl 1 rfl) ?_
        refine xget (pc := 12) C0 hH 40 10 clX7 ⟨Nat.le_of_ble_eq_true rfl, Nat.le_of_ble_eq_true rfl⟩ ⟨rfl, rfl⟩ (Nat.le_of_ble_eq_true rfl) fl_X7_44 (v := .int (i 40 10)) rfl dX7_rowLength_12 ?_
        refine lv_iload (pc := 15) C0.1 C0.2.1 dX7_rowLength_15 (lv_at hl 0 rfl) ?_
        refine lv_iadd (pc := 17) C0.1 C0.2.1 dX7_rowLength_17 ?_
        refine xcVI (pc := 18) 6 [.int ((i 40 10) + k)] (g_X6_at_6 l D tA b i F G ((i 40 10) + k) (show 0 ≤ Int32.toInt (i 6 1) ∧ Int32.toInt (i 6 1) ≤ 600 from by omega)) C0 hH hS clX6 rfl ⟨⟨Nat.le_of_ble_eq_true rfl, Nat.le_of_ble_eq_true rfl⟩, rfl, rfl⟩ cw_X7_75 rfl ⟨Nat.le_of_ble_eq_true rfl, Nat.le_of_ble_eq_true rfl⟩ hl.1 rfl (Nat.le_of_ble_eq_true rfl) dX7_rowLength_18 ⟨Nat.le_of_ble_eq_true rfl, Nat.le_of_ble_eq_true rfl⟩ (fun r102 ir102 Fr102 Gr102 _ locs hp hH hS => ?_)
        obtain ⟨hu, hpr102⟩ := hp
        cases hu
        refine lv_istore (pc := 21) (lv' := [(6, .int r102), (5, .int k), (0, .ref (b + 40)), (1, .ref (b + 6)), (2, .int x), (3, .int y), (4, .int z)]) C0.1 C0.2.1 dX7_rowLength_21 hl (by decide) rfl (fun ls hl => ?_)
        refine lv_iload (pc := 23) C0.1 C0.2.1 dX7_rowLength_23 (lv_at hl 0 rfl) ?_
        refine lv_iload_n (pc := 25) C0.1 C0.2.1 dX7_rowLength_25 rfl (lv_at hl 4 rfl) ?_
        refine lv_icmp_lt (pc := 26) (tgt := 35) C0.1 C0.2.1 dX7_rowLength_26 (by decide) (fun c103 => ?_) (fun c103 => ?_)
        · have c103 := Int32.lt_iff_toInt_lt.mp c103
          refine lv_iload (pc := 35) C0.1 C0.2.1 dX7_rowLength_35 (lv_at hl 1 rfl) ?_
          exact xiret (pc := 37) C0 hr hH hS dX7_rowLength_37 ⟨rfl, trivial⟩
        · have c103 : ¬ _ := fun q => c103 (Int32.lt_iff_toInt_lt.mpr q)
          refine lv_iload (pc := 29) C0.1 C0.2.1 dX7_rowLength_29 (lv_at hl 0 rfl) ?_
          refine lv_iload_n (pc := 31) C0.1 C0.2.1 dX7_rowLength_31 rfl (lv_at hl 5 rfl) ?_
          refine lv_icmp_le (pc := 32) (tgt := 38) C0.1 C0.2.1 dX7_rowLength_32 (by decide) (fun c104 => ?_) (fun c104 => ?_)
          · have c104 := Int32.le_iff_toInt_le.mp c104
            obtain ⟨x105, ex105⟩ : ∃ y_ : Int32, y_ = k + 1 := ⟨_, rfl⟩
            have : Int32.toInt 1 = 1 := rfl
            have hx105 : Int32.toInt x105 = Int32.toInt k + Int32.toInt 1 := by rw [ex105]; exact fb_addI (by omega) (by omega)
            refine lv_iinc (pc := 38) (v := x105) (lv' := [(5, .int x105), (6, .int r102), (0, .ref (b + 40)), (1, .ref (b + 6)), (2, .int x), (3, .int y), (4, .int z)]) C0.1 C0.2.1 dX7_rowLength_38 hl (k := 1) rfl (by rw [ex105]; rfl) (by decide) rfl (fun ls hl => ?_)
            refine lv_goto (pc := 41) (tgt := 3) C0.1 C0.2.1 dX7_rowLength_41 (by decide) ?_
            exact ih x105 _ _ _ (by omega) (by omega) hH hS (lv_sub hl [0, 2, 3, 4, 5, 6] rfl)
          · have c104 : ¬ _ := fun q => c104 (Int32.le_iff_toInt_le.mpr q)
            refine lv_iload (pc := 35) C0.1 C0.2.1 dX7_rowLength_35 (lv_at hl 1 rfl) ?_
            exact xiret (pc := 37) C0 hr hH hS dX7_rowLength_37 ⟨rfl, trivial⟩
  refine lv_iconst (pc := 0) (v := 0) C0.1 C0.2.1 dX7_rowLength_0 (by decide) ?_
  refine lv_istore (pc := 1) (lv' := [(5, .int 0), (0, .ref (b + 40)), (1, .ref (b + 6)), (2, .int x), (3, .int y), (4, .int z)]) C0.1 C0.2.1 dX7_rowLength_1 hl (by decide) rfl (fun ls hl => ?_)
  exact LOOP 10 0 _ _ _ (by have : Int32.toInt 0 = 0 := rfl; omega) (by have : Int32.toInt 0 = 0 := rfl; omega) hH hS (lv_sub hl [0, 1, 2, 3, 4, 5] rfl)
set_option maxHeartbeats 4000000 in
set_option maxRecDepth 100000 in
theorem g_X7_quoteLength_40 (l : Launch) (D : va_G) (tA : Nat → ClassId) (b : Nat) (i F : Nat → Nat → Int32) (G : Nat → Nat → Int64)  (hsz : 0 ≤ (i 6 1).toInt ∧ (i 6 1).toInt ≤ 600) : xMI l yX7_quoteLength cX7_quoteLength 3 (some .int) 1 21 D tA b 0 78 i F G [.ref (b + 40), .ref (b + 6)] (fun r u => u = (i, F, G) ∧ True) := by
  refine xstart RX7 rfl (by decide) (Nat.le_of_ble_eq_true rfl) ?_
  intro p e s m below meth c ls C0 hr hH hS hl
  have hl : lv_has ls 3 [(0, .ref (b + 40)), (1, .ref (b + 6))] := hl
  have LOOP : ∀ (d : Nat) (k : Int32) (H : Heap) (locs : List Loc) (ls : Array Slot), ((i 6 1).toInt - k.toInt ≤ d) → Hd D tA b 0 78 zz i F G H → va_S (xA b 0 78) s.heap H locs → lv_has ls 3 [(2, .int k), (0, .ref (b + 40)), (1, .ref (b + 6))] → W p l e (xR 1 21) s m ([.ref (b + 40), .ref (b + 6)] : List Value).toArray below meth c H locs 0 0 (MQ below (va_Qi (fun r u => u = (i, F, G) ∧ True) (xB D tA b 0 78 zz) (xA b 0 78)) ([.ref (b + 40), .ref (b + 6)] : List Value).toArray s 0 0 (xA b 0 78)) (F0 m 7 ls []) := by
    intro d
    induction d with
    | zero =>
      intro k H locs ls h1 hH hS hl
      have rg_k := fb_rng k
      refine lv_iload_n (pc := 7) C0.1 C0.2.1 dX7_quoteLength_7 rfl (lv_at hl 0 rfl) ?_
      refine lv_aload_n (pc := 8) C0.1 C0.2.1 dX7_quoteLength_8 rfl (lv_at hl 2 rfl) ?_
      refine xget (pc := 9) C0 hH 6 1 clX6 ⟨Nat.le_of_ble_eq_true rfl, Nat.le_of_ble_eq_true rfl⟩ ⟨rfl, rfl⟩ (Nat.le_of_ble_eq_true rfl) fl_X7_57 (v := .int (i 6 1)) rfl dX7_quoteLength_9 ?_
      refine lv_icmp_ge (pc := 12) (tgt := 40) C0.1 C0.2.1 dX7_quoteLength_12 (by decide) (fun _ => ?_) (fun c => absurd (Int32.le_iff_toInt_le.mpr (by omega)) c)
      refine lv_iconst (pc := 40) (v := 0) C0.1 C0.2.1 dX7_quoteLength_40 (by decide) ?_
      exact xiret (pc := 41) C0 hr hH hS dX7_quoteLength_41 ⟨rfl, trivial⟩
    | succ d ih =>
      intro k H locs ls h1 hH hS hl
      have rg_k := fb_rng k
      refine lv_iload_n (pc := 7) C0.1 C0.2.1 dX7_quoteLength_7 rfl (lv_at hl 0 rfl) ?_
      refine lv_aload_n (pc := 8) C0.1 C0.2.1 dX7_quoteLength_8 rfl (lv_at hl 2 rfl) ?_
      refine xget (pc := 9) C0 hH 6 1 clX6 ⟨Nat.le_of_ble_eq_true rfl, Nat.le_of_ble_eq_true rfl⟩ ⟨rfl, rfl⟩ (Nat.le_of_ble_eq_true rfl) fl_X7_57 (v := .int (i 6 1)) rfl dX7_quoteLength_9 ?_
      refine lv_icmp_ge (pc := 12) (tgt := 40) C0.1 C0.2.1 dX7_quoteLength_12 (by decide) (fun c101 => ?_) (fun c101 => ?_)
      · have c101 := Int32.le_iff_toInt_le.mp c101
        refine lv_iconst (pc := 40) (v := 0) C0.1 C0.2.1 dX7_quoteLength_40 (by decide) ?_
        exact xiret (pc := 41) C0 hr hH hS dX7_quoteLength_41 ⟨rfl, trivial⟩
      · have c101 : ¬ _ := fun q => c101 (Int32.le_iff_toInt_le.mpr q)
        refine lv_aload_n (pc := 15) C0.1 C0.2.1 dX7_quoteLength_15 rfl (lv_at hl 2 rfl) ?_
        refine lv_iload_n (pc := 16) C0.1 C0.2.1 dX7_quoteLength_16 rfl (lv_at hl 0 rfl) ?_
        refine xcVI (pc := 17) 6 [.int k] (g_X6_at_6 l D tA b i F G k (show 0 ≤ Int32.toInt (i 6 1) ∧ Int32.toInt (i 6 1) ≤ 600 from by omega)) C0 hH hS clX6 rfl ⟨⟨Nat.le_of_ble_eq_true rfl, Nat.le_of_ble_eq_true rfl⟩, rfl, rfl⟩ cw_X7_75 rfl ⟨Nat.le_of_ble_eq_true rfl, Nat.le_of_ble_eq_true rfl⟩ hl.1 rfl (Nat.le_of_ble_eq_true rfl) dX7_quoteLength_17 ⟨Nat.le_of_ble_eq_true rfl, Nat.le_of_ble_eq_true rfl⟩ (fun r102 ir102 Fr102 Gr102 _ locs hp hH hS => ?_)
        obtain ⟨hu, hpr102⟩ := hp
        cases hu
        refine lv_bipush (pc := 20) (v := 39) C0.1 C0.2.1 dX7_quoteLength_20 (by decide) ?_
        refine lv_icmp_ne (pc := 22) (tgt := 34) C0.1 C0.2.1 dX7_quoteLength_22 (by decide) (fun c103 => ?_) (fun c103 => ?_)
        · have : Int32.toInt 39 = 39 := rfl
          have c103 : ¬ _ := fun q => c103 (Int32.toInt_inj.mp q)
          obtain ⟨x104, ex104⟩ : ∃ y_ : Int32, y_ = k + 1 := ⟨_, rfl⟩
          have : Int32.toInt 1 = 1 := rfl
          have hx104 : Int32.toInt x104 = Int32.toInt k + Int32.toInt 1 := by rw [ex104]; exact fb_addI (by omega) (by omega)
          refine lv_iinc (pc := 34) (v := x104) (lv' := [(2, .int x104), (0, .ref (b + 40)), (1, .ref (b + 6))]) C0.1 C0.2.1 dX7_quoteLength_34 hl (k := 0) rfl (by rw [ex104]; rfl) (by decide) rfl (fun ls hl => ?_)
          refine lv_goto (pc := 37) (tgt := 7) C0.1 C0.2.1 dX7_quoteLength_37 (by decide) ?_
          exact ih x104 _ _ _ (by omega) hH hS (lv_sub hl [0, 1, 2] rfl)
        · have : Int32.toInt 39 = 39 := rfl
          have c103 := congrArg Int32.toInt c103
          refine lv_iload_n (pc := 25) C0.1 C0.2.1 dX7_quoteLength_25 rfl (lv_at hl 0 rfl) ?_
          refine lv_iconst (pc := 26) (v := 1) C0.1 C0.2.1 dX7_quoteLength_26 (by decide) ?_
          refine lv_iadd (pc := 27) C0.1 C0.2.1 dX7_quoteLength_27 ?_
          refine lv_aload_n (pc := 28) C0.1 C0.2.1 dX7_quoteLength_28 rfl (lv_at hl 1 rfl) ?_
          refine xget (pc := 29) C0 hH 40 10 clX7 ⟨Nat.le_of_ble_eq_true rfl, Nat.le_of_ble_eq_true rfl⟩ ⟨rfl, rfl⟩ (Nat.le_of_ble_eq_true rfl) fl_X7_44 (v := .int (i 40 10)) rfl dX7_quoteLength_29 ?_
          refine lv_isub (pc := 32) C0.1 C0.2.1 dX7_quoteLength_32 ?_
          exact xiret (pc := 33) C0 hr hH hS dX7_quoteLength_33 ⟨rfl, trivial⟩
  refine lv_aload_n (pc := 0) C0.1 C0.2.1 dX7_quoteLength_0 rfl (lv_at hl 0 rfl) ?_
  refine xget (pc := 1) C0 hH 40 10 clX7 ⟨Nat.le_of_ble_eq_true rfl, Nat.le_of_ble_eq_true rfl⟩ ⟨rfl, rfl⟩ (Nat.le_of_ble_eq_true rfl) fl_X7_44 (v := .int (i 40 10)) rfl dX7_quoteLength_1 ?_
  refine lv_iconst (pc := 4) (v := 1) C0.1 C0.2.1 dX7_quoteLength_4 (by decide) ?_
  refine lv_iadd (pc := 5) C0.1 C0.2.1 dX7_quoteLength_5 ?_
  refine lv_topi (fun x1 ex1 => ?_)
  refine lv_istore_n (pc := 6) (lv' := [(2, .int x1), (0, .ref (b + 40)), (1, .ref (b + 6))]) C0.1 C0.2.1 dX7_quoteLength_6 rfl hl (by decide) rfl (fun ls hl => ?_)
  exact LOOP ((i 6 1).toInt - Int32.toInt x1).toNat x1 _ _ _ (by omega) hH hS (lv_sub hl [0, 1, 2] rfl)
set_option maxHeartbeats 4000000 in
set_option maxRecDepth 100000 in
theorem g_X7_noteLength_40 (l : Launch) (D : va_G) (tA : Nat → ClassId) (b : Nat) (i F : Nat → Nat → Int32) (G : Nat → Nat → Int64)  (hsz : 0 ≤ (i 6 1).toInt ∧ (i 6 1).toInt ≤ 600) : xMI l yX7_noteLength cX7_noteLength 3 (some .int) 1 21 D tA b 0 78 i F G [.ref (b + 40), .ref (b + 6)] (fun r u => u = (i, F, G) ∧ True) := by
  refine xstart RX7 rfl (by decide) (Nat.le_of_ble_eq_true rfl) ?_
  intro p e s m below meth c ls C0 hr hH hS hl
  have hl : lv_has ls 3 [(0, .ref (b + 40)), (1, .ref (b + 6))] := hl
  have LOOP : ∀ (d : Nat) (k : Int32) (H : Heap) (locs : List Loc) (ls : Array Slot), ((i 6 1).toInt - k.toInt ≤ d) → Hd D tA b 0 78 zz i F G H → va_S (xA b 0 78) s.heap H locs → lv_has ls 3 [(2, .int k), (0, .ref (b + 40)), (1, .ref (b + 6))] → W p l e (xR 1 21) s m ([.ref (b + 40), .ref (b + 6)] : List Value).toArray below meth c H locs 0 0 (MQ below (va_Qi (fun r u => u = (i, F, G) ∧ True) (xB D tA b 0 78 zz) (xA b 0 78)) ([.ref (b + 40), .ref (b + 6)] : List Value).toArray s 0 0 (xA b 0 78)) (F0 m 5 ls []) := by
    intro d
    induction d with
    | zero =>
      intro k H locs ls h1 hH hS hl
      have rg_k := fb_rng k
      refine lv_iload_n (pc := 5) C0.1 C0.2.1 dX7_noteLength_5 rfl (lv_at hl 0 rfl) ?_
      refine lv_aload_n (pc := 6) C0.1 C0.2.1 dX7_noteLength_6 rfl (lv_at hl 2 rfl) ?_
      refine xget (pc := 7) C0 hH 6 1 clX6 ⟨Nat.le_of_ble_eq_true rfl, Nat.le_of_ble_eq_true rfl⟩ ⟨rfl, rfl⟩ (Nat.le_of_ble_eq_true rfl) fl_X7_57 (v := .int (i 6 1)) rfl dX7_noteLength_7 ?_
      refine lv_icmp_ge (pc := 10) (tgt := 36) C0.1 C0.2.1 dX7_noteLength_10 (by decide) (fun _ => ?_) (fun c => absurd (Int32.le_iff_toInt_le.mpr (by omega)) c)
      refine lv_aload_n (pc := 36) C0.1 C0.2.1 dX7_noteLength_36 rfl (lv_at hl 2 rfl) ?_
      refine xget (pc := 37) C0 hH 6 1 clX6 ⟨Nat.le_of_ble_eq_true rfl, Nat.le_of_ble_eq_true rfl⟩ ⟨rfl, rfl⟩ (Nat.le_of_ble_eq_true rfl) fl_X7_57 (v := .int (i 6 1)) rfl dX7_noteLength_37 ?_
      refine lv_aload_n (pc := 40) C0.1 C0.2.1 dX7_noteLength_40 rfl (lv_at hl 1 rfl) ?_
      refine xget (pc := 41) C0 hH 40 10 clX7 ⟨Nat.le_of_ble_eq_true rfl, Nat.le_of_ble_eq_true rfl⟩ ⟨rfl, rfl⟩ (Nat.le_of_ble_eq_true rfl) fl_X7_44 (v := .int (i 40 10)) rfl dX7_noteLength_41 ?_
      refine lv_isub (pc := 44) C0.1 C0.2.1 dX7_noteLength_44 ?_
      exact xiret (pc := 45) C0 hr hH hS dX7_noteLength_45 ⟨rfl, trivial⟩
    | succ d ih =>
      intro k H locs ls h1 hH hS hl
      have rg_k := fb_rng k
      refine lv_iload_n (pc := 5) C0.1 C0.2.1 dX7_noteLength_5 rfl (lv_at hl 0 rfl) ?_
      refine lv_aload_n (pc := 6) C0.1 C0.2.1 dX7_noteLength_6 rfl (lv_at hl 2 rfl) ?_
      refine xget (pc := 7) C0 hH 6 1 clX6 ⟨Nat.le_of_ble_eq_true rfl, Nat.le_of_ble_eq_true rfl⟩ ⟨rfl, rfl⟩ (Nat.le_of_ble_eq_true rfl) fl_X7_57 (v := .int (i 6 1)) rfl dX7_noteLength_7 ?_
      refine lv_icmp_ge (pc := 10) (tgt := 36) C0.1 C0.2.1 dX7_noteLength_10 (by decide) (fun c101 => ?_) (fun c101 => ?_)
      · have c101 := Int32.le_iff_toInt_le.mp c101
        refine lv_aload_n (pc := 36) C0.1 C0.2.1 dX7_noteLength_36 rfl (lv_at hl 2 rfl) ?_
        refine xget (pc := 37) C0 hH 6 1 clX6 ⟨Nat.le_of_ble_eq_true rfl, Nat.le_of_ble_eq_true rfl⟩ ⟨rfl, rfl⟩ (Nat.le_of_ble_eq_true rfl) fl_X7_57 (v := .int (i 6 1)) rfl dX7_noteLength_37 ?_
        refine lv_aload_n (pc := 40) C0.1 C0.2.1 dX7_noteLength_40 rfl (lv_at hl 1 rfl) ?_
        refine xget (pc := 41) C0 hH 40 10 clX7 ⟨Nat.le_of_ble_eq_true rfl, Nat.le_of_ble_eq_true rfl⟩ ⟨rfl, rfl⟩ (Nat.le_of_ble_eq_true rfl) fl_X7_44 (v := .int (i 40 10)) rfl dX7_noteLength_41 ?_
        refine lv_isub (pc := 44) C0.1 C0.2.1 dX7_noteLength_44 ?_
        exact xiret (pc := 45) C0 hr hH hS dX7_noteLength_45 ⟨rfl, trivial⟩
      · have c101 : ¬ _ := fun q => c101 (Int32.le_iff_toInt_le.mpr q)
        refine lv_aload_n (pc := 13) C0.1 C0.2.1 dX7_noteLength_13 rfl (lv_at hl 2 rfl) ?_
        refine lv_iload_n (pc := 14) C0.1 C0.2.1 dX7_noteLength_14 rfl (lv_at hl 0 rfl) ?_
        refine xcVI (pc := 15) 6 [.int k] (g_X6_at_6 l D tA b i F G k (show 0 ≤ Int32.toInt (i 6 1) ∧ Int32.toInt (i 6 1) ≤ 600 from by omega)) C0 hH hS clX6 rfl ⟨⟨Nat.le_of_ble_eq_true rfl, Nat.le_of_ble_eq_true rfl⟩, rfl, rfl⟩ cw_X7_75 rfl ⟨Nat.le_of_ble_eq_true rfl, Nat.le_of_ble_eq_true rfl⟩ hl.1 rfl (Nat.le_of_ble_eq_true rfl) dX7_noteLength_15 ⟨Nat.le_of_ble_eq_true rfl, Nat.le_of_ble_eq_true rfl⟩ (fun r102 ir102 Fr102 Gr102 _ locs hp hH hS => ?_)
        obtain ⟨hu, hpr102⟩ := hp
        cases hu
        refine lv_bipush (pc := 18) (v := 10) C0.1 C0.2.1 dX7_noteLength_18 (by decide) ?_
        refine lv_icmp_ne (pc := 20) (tgt := 30) C0.1 C0.2.1 dX7_noteLength_20 (by decide) (fun c103 => ?_) (fun c103 => ?_)
        · have : Int32.toInt 10 = 10 := rfl
          have c103 : ¬ _ := fun q => c103 (Int32.toInt_inj.mp q)
          obtain ⟨x104, ex104⟩ : ∃ y_ : Int32, y_ = k + 1 := ⟨_, rfl⟩
          have : Int32.toInt 1 = 1 := rfl
          have hx104 : Int32.toInt x104 = Int32.toInt k + Int32.toInt 1 := by rw [ex104]; exact fb_addI (by omega) (by omega)
          refine lv_iinc (pc := 30) (v := x104) (lv' := [(2, .int x104), (0, .ref (b + 40)), (1, .ref (b + 6))]) C0.1 C0.2.1 dX7_noteLength_30 hl (k := 0) rfl (by rw [ex104]; rfl) (by decide) rfl (fun ls hl => ?_)
          refine lv_goto (pc := 33) (tgt := 5) C0.1 C0.2.1 dX7_noteLength_33 (by decide) ?_
          exact ih x104 _ _ _ (by omega) hH hS (lv_sub hl [0, 1, 2] rfl)
        · have : Int32.toInt 10 = 10 := rfl
          have c103 := congrArg Int32.toInt c103
          refine lv_iload_n (pc := 23) C0.1 C0.2.1 dX7_noteLength_23 rfl (lv_at hl 0 rfl) ?_
          refine lv_aload_n (pc := 24) C0.1 C0.2.1 dX7_noteLength_24 rfl (lv_at hl 1 rfl) ?_
          refine xget (pc := 25) C0 hH 40 10 clX7 ⟨Nat.le_of_ble_eq_true rfl, Nat.le_of_ble_eq_true rfl⟩ ⟨rfl, rfl⟩ (Nat.le_of_ble_eq_true rfl) fl_X7_44 (v := .int (i 40 10)) rfl dX7_noteLength_25 ?_
          refine lv_isub (pc := 28) C0.1 C0.2.1 dX7_noteLength_28 ?_
          exact xiret (pc := 29) C0 hr hH hS dX7_noteLength_29 ⟨rfl, trivial⟩
  refine lv_aload_n (pc := 0) C0.1 C0.2.1 dX7_noteLength_0 rfl (lv_at hl 0 rfl) ?_
  refine xget (pc := 1) C0 hH 40 10 clX7 ⟨Nat.le_of_ble_eq_true rfl, Nat.le_of_ble_eq_true rfl⟩ ⟨rfl, rfl⟩ (Nat.le_of_ble_eq_true rfl) fl_X7_44 (v := .int (i 40 10)) rfl dX7_noteLength_1 ?_
  refine lv_topi (fun x1 ex1 => ?_)
  refine lv_istore_n (pc := 4) (lv' := [(2, .int x1), (0, .ref (b + 40)), (1, .ref (b + 6))]) C0.1 C0.2.1 dX7_noteLength_4 rfl hl (by decide) rfl (fun ls hl => ?_)
  exact LOOP ((i 6 1).toInt - Int32.toInt x1).toNat x1 _ _ _ (by omega) hH hS (lv_sub hl [0, 1, 2] rfl)
set_option maxHeartbeats 4000000 in
set_option maxRecDepth 100000 in
theorem g_X7_packed_40 (l : Launch) (D : va_G) (tA : Nat → ClassId) (b : Nat) (i F : Nat → Nat → Int32) (G : Nat → Nat → Int64) (x : Int32) (hsz : 0 ≤ (i 6 1).toInt ∧ (i 6 1).toInt ≤ 600) : xML l yX7_packed cX7_packed 6 (some .long) 1 21 D tA b 0 78 i F G [.ref (b + 40), .ref (b + 6), .int x] (fun r u => u = (i, F, G) ∧ True) := by
  refine xstart RX7 rfl (by decide) (Nat.le_of_ble_eq_true rfl) ?_
  intro p e s m below meth c ls C0 hr hH hS hl
  have hl : lv_has ls 6 [(0, .ref (b + 40)), (1, .ref (b + 6)), (2, .int x)] := hl
  have rg_x := fb_rng x
  have LOOP : ∀ (d : Nat) (k : Int32) (w : Int64) (H : Heap) (locs : List Loc) (ls : Array Slot), (0 ≤ k.toInt) → (8 - k.toInt ≤ d) → Hd D tA b 0 78 zz i F G H → va_S (xA b 0 78) s.heap H locs → lv_has ls 6 [(5, .int k), (3, .long w), (0, .ref (b + 40)), (1, .ref (b + 6)), (2, .int x)] → W p l e (xR 1 21) s m ([.ref (b + 40), .ref (b + 6), .int x] : List Value).toArray below meth c H locs 0 0 (MQ below (va_Ql (fun r u => u = (i, F, G) ∧ True) (xB D tA b 0 78 zz) (xA b 0 78)) ([.ref (b + 40), .ref (b + 6), .int x] : List Value).toArray s 0 0 (xA b 0 78)) (F0 m 5 ls []) := by
    intro d
    induction d with
    | zero =>
      intro k w H locs ls h1 h2 hH hS hl
      have rg_k := fb_rng k
      refine lv_iload (pc := 5) C0.1 C0.2.1 dX7_packed_5 (lv_at hl 0 rfl) ?_
      refine lv_iload_n (pc := 7) C0.1 C0.2.1 dX7_packed_7 rfl (lv_at hl 4 rfl) ?_
      refine lv_icmp_ge (pc := 8) (tgt := 45) C0.1 C0.2.1 dX7_packed_8 (by decide) (fun c101 => ?_) (fun c101 => ?_)
      · have c101 := Int32.le_iff_toInt_le.mp c101
        refine lv_lload_n (pc := 45) C0.1 C0.2.1 dX7_packed_45 rfl (lv_at hl 1 rfl) ?_
        exact xlret (pc := 46) C0 hr hH hS dX7_packed_46 ⟨rfl, trivial⟩
      · have c101 : ¬ _ := fun q => c101 (Int32.le_iff_toInt_le.mpr q)
        refine lv_iload (pc := 11) C0.1 C0.2.1 dX7_packed_11 (lv_at hl 0 rfl) ?_
        refine lv_bipush (pc := 13) (v := 8) C0.1 C0.2.1 dX7_packed_13 (by decide) ?_
        have : Int32.toInt 8 = 8 := rfl
        refine lv_icmp_ge (pc := 15) (tgt := 45) C0.1 C0.2.1 dX7_packed_15 (by decide) (fun _ => ?_) (fun c => absurd (Int32.le_iff_toInt_le.mpr (by omega)) c)
        refine lv_lload_n (pc := 45) C0.1 C0.2.1 dX7_packed_45 rfl (lv_at hl 1 rfl) ?_
        exact xlret (pc := 46) C0 hr hH hS dX7_packed_46 ⟨rfl, trivial⟩
    | succ d ih =>
      intro k w H locs ls h1 h2 hH hS hl
      have rg_k := fb_rng k
      refine lv_iload (pc := 5) C0.1 C0.2.1 dX7_packed_5 (lv_at hl 0 rfl) ?_
      refine lv_iload_n (pc := 7) C0.1 C0.2.1 dX7_packed_7 rfl (lv_at hl 4 rfl) ?_
      refine lv_icmp_ge (pc := 8) (tgt := 45) C0.1 C0.2.1 dX7_packed_8 (by decide) (fun c101 => ?_) (fun c101 => ?_)
      · have c101 := Int32.le_iff_toInt_le.mp c101
        refine lv_lload_n (pc := 45) C0.1 C0.2.1 dX7_packed_45 rfl (lv_at hl 1 rfl) ?_
        exact xlret (pc := 46) C0 hr hH hS dX7_packed_46 ⟨rfl, trivial⟩
      · have c101 : ¬ _ := fun q => c101 (Int32.le_iff_toInt_le.mpr q)
        refine lv_iload (pc := 11) C0.1 C0.2.1 dX7_packed_11 (lv_at hl 0 rfl) ?_
        refine lv_bipush (pc := 13) (v := 8) C0.1 C0.2.1 dX7_packed_13 (by decide) ?_
        refine lv_icmp_ge (pc := 15) (tgt := 45) C0.1 C0.2.1 dX7_packed_15 (by decide) (fun c102 => ?_) (fun c102 => ?_)
        · have : Int32.toInt 8 = 8 := rfl
          have c102 := Int32.le_iff_toInt_le.mp c102
          refine lv_lload_n (pc := 45) C0.1 C0.2.1 dX7_packed_45 rfl (lv_at hl 1 rfl) ?_
          exact xlret (pc := 46) C0 hr hH hS dX7_packed_46 ⟨rfl, trivial⟩
        · have : Int32.toInt 8 = 8 := rfl
          have c102 : ¬ _ := fun q => c102 (Int32.le_iff_toInt_le.mpr q)
          refine lv_lload_n (pc := 18) C0.1 C0.2.1 dX7_packed_18 rfl (lv_at hl 1 rfl) ?_
          refine lv_aload_n (pc := 19) C0.1 C0.2.1 dX7_packed_19 rfl (lv_at hl 3 rfl) ?_
          refine lv_aload_n (pc := 20) C0.1 C0.2.1 dX7_packed_20 rfl (lv_at hl 2 rfl) ?_
          refine xget (pc := 21) C0 hH 40 10 clX7 ⟨Nat.le_of_ble_eq_true rfl, Nat.le_of_ble_eq_true rfl⟩ ⟨rfl, rfl⟩ (Nat.le_of_ble_eq_true rfl) fl_X7_44 (v := .int (i 40 10)) rfl dX7_packed_21 ?_
          refine lv_iload (pc := 24) C0.1 C0.2.1 dX7_packed_24 (lv_at hl 0 rfl) ?_
          refine lv_iadd (pc := 26) C0.1 C0.2.1 dX7_packed_26 ?_
          refine xcVI (pc := 27) 6 [.int ((i 40 10) + k)] (g_X6_at_6 l D tA b i F G ((i 40 10) + k) (show 0 ≤ Int32.toInt (i 6 1) ∧ Int32.toInt (i 6 1) ≤ 600 from by omega)) C0 hH hS clX6 rfl ⟨⟨Nat.le_of_ble_eq_true rfl, Nat.le_of_ble_eq_true rfl⟩, rfl, rfl⟩ cw_X7_75 rfl ⟨Nat.le_of_ble_eq_true rfl, Nat.le_of_ble_eq_true rfl⟩ hl.1 rfl (Nat.le_of_ble_eq_true rfl) dX7_packed_27 ⟨Nat.le_of_ble_eq_true rfl, Nat.le_of_ble_eq_true rfl⟩ (fun r103 ir103 Fr103 Gr103 _ locs hp hH hS => ?_)
          obtain ⟨hu, hpr103⟩ := hp
          cases hu
          refine lv_i2l (pc := 30) (v := r103.toInt64) C0.1 C0.2.1 dX7_packed_30 rfl ?_
          refine lv_bipush (pc := 31) (v := 8) C0.1 C0.2.1 dX7_packed_31 (by decide) ?_
          refine lv_iload (pc := 33) C0.1 C0.2.1 dX7_packed_33 (lv_at hl 0 rfl) ?_
          refine lv_imul (pc := 35) C0.1 C0.2.1 dX7_packed_35 ?_
          obtain ⟨x104, ex104⟩ : ∃ y : Int64, y = r103.toInt64 <<< ((8 * k).toInt64 &&& 63) := ⟨_, rfl⟩
          refine lv_lshl (pc := 36) (v := x104) C0.1 C0.2.1 dX7_packed_36 (by rw [ex104]) ?_
          refine lv_lor (pc := 37) C0.1 C0.2.1 dX7_packed_37 ?_
          refine lv_topl (fun x105 ex105 => ?_)
          refine lv_lstore_n (pc := 38) (lv' := [(3, .long x105), (5, .int k), (0, .ref (b + 40)), (1, .ref (b + 6)), (2, .int x)]) C0.1 C0.2.1 dX7_packed_38 rfl hl (by decide) rfl (fun ls hl => ?_)
          obtain ⟨x106, ex106⟩ : ∃ y_ : Int32, y_ = k + 1 := ⟨_, rfl⟩
          have : Int32.toInt 1 = 1 := rfl
          have hx106 : Int32.toInt x106 = Int32.toInt k + Int32.toInt 1 := by rw [ex106]; exact fb_addI (by omega) (by omega)
          refine lv_iinc (pc := 39) (v := x106) (lv' := [(5, .int x106), (3, .long x105), (0, .ref (b + 40)), (1, .ref (b + 6)), (2, .int x)]) C0.1 C0.2.1 dX7_packed_39 hl (k := 1) rfl (by rw [ex106]; rfl) (by decide) rfl (fun ls hl => ?_)
          refine lv_goto (pc := 42) (tgt := 5) C0.1 C0.2.1 dX7_packed_42 (by decide) ?_
          exact ih x106 x105 _ _ _ (by omega) (by omega) hH hS (lv_sub hl [0, 1, 2, 3, 4] rfl)
  refine lv_lconst (pc := 0) (v := 0) C0.1 C0.2.1 dX7_packed_0 (by decide) ?_
  refine lv_lstore_n (pc := 1) (lv' := [(3, .long 0), (0, .ref (b + 40)), (1, .ref (b + 6)), (2, .int x)]) C0.1 C0.2.1 dX7_packed_1 rfl hl (by decide) rfl (fun ls hl => ?_)
  refine lv_iconst (pc := 2) (v := 0) C0.1 C0.2.1 dX7_packed_2 (by decide) ?_
  refine lv_istore (pc := 3) (lv' := [(5, .int 0), (3, .long 0), (0, .ref (b + 40)), (1, .ref (b + 6)), (2, .int x)]) C0.1 C0.2.1 dX7_packed_3 hl (by decide) rfl (fun ls hl => ?_)
  exact LOOP 8 0 0 _ _ _ (by have : Int32.toInt 0 = 0 := rfl; omega) (by have : Int32.toInt 0 = 0 := rfl; omega) hH hS (lv_sub hl [0, 1, 2, 3, 4] rfl)
set_option maxHeartbeats 4000000 in
set_option maxRecDepth 100000 in
theorem g_X7_tokenLength_40 (l : Launch) (D : va_G) (tA : Nat → ClassId) (b : Nat) (i F : Nat → Nat → Int32) (G : Nat → Nat → Int64) (x : Int32) (hsz : 0 ≤ (i 6 1).toInt ∧ (i 6 1).toInt ≤ 600) : xMI l yX7_tokenLength cX7_tokenLength 3 (some .int) 2 47 D tA b 0 78 i F G [.ref (b + 40), .ref (b + 6), .int x] (fun r u => u = (i, F, G) ∧ True) := by
  refine xstart RX7 rfl (by decide) (Nat.le_of_ble_eq_true rfl) ?_
  intro p e s m below meth c ls C0 hr hH hS hl
  have hl : lv_has ls 3 [(0, .ref (b + 40)), (1, .ref (b + 6)), (2, .int x)] := hl
  have rg_x := fb_rng x
  refine lv_iload_n (pc := 0) C0.1 C0.2.1 dX7_tokenLength_0 rfl (lv_at hl 2 rfl) ?_
  by_cases t1 : (x : Int32).toInt = 0
  · refine lv_tableIn (pc := 1) (off := 31) (tgt := 32) C0.1 C0.2.1 dX7_tokenLength_1 (by omega) (by omega) (by rw [t1]; rfl) (by decide) ?_
    refine lv_aload_n (pc := 32) C0.1 C0.2.1 dX7_tokenLength_32 rfl (lv_at hl 0 rfl) ?_
    refine lv_aload_n (pc := 33) C0.1 C0.2.1 dX7_tokenLength_33 rfl (lv_at hl 1 rfl) ?_
    refine lv_bipush (pc := 34) (v := 97) C0.1 C0.2.1 dX7_tokenLength_34 (by decide) ?_
    refine lv_bipush (pc := 36) (v := 122) C0.1 C0.2.1 dX7_tokenLength_36 (by decide) ?_
    refine lv_bipush (pc := 38) (v := 8) C0.1 C0.2.1 dX7_tokenLength_38 (by decide) ?_
    refine xcVI (pc := 40) 40 [.ref (b + 6), .int 97, .int 122, .int 8] (g_X7_rowLength_40 l D tA b i F G 97 122 8 (show 0 ≤ Int32.toInt (i 6 1) ∧ Int32.toInt (i 6 1) ≤ 600 from by omega) (by decide)) C0 hH hS clX7 rfl ⟨⟨Nat.le_of_ble_eq_true rfl, Nat.le_of_ble_eq_true rfl⟩, rfl, rfl⟩ cw_X7_114 rfl ⟨Nat.le_of_ble_eq_true rfl, Nat.le_of_ble_eq_true rfl⟩ hl.1 rfl (Nat.le_of_ble_eq_true rfl) dX7_tokenLength_40 ⟨Nat.le_of_ble_eq_true rfl, Nat.le_of_ble_eq_true rfl⟩ (fun r2 ir2 Fr2 Gr2 _ locs hp hH hS => ?_)
    obtain ⟨hu, hpr2⟩ := hp
    cases hu
    exact xiret (pc := 43) C0 hr hH hS dX7_tokenLength_43 ⟨rfl, trivial⟩
  by_cases t3 : (x : Int32).toInt = 1
  · refine lv_tableIn (pc := 1) (off := 43) (tgt := 44) C0.1 C0.2.1 dX7_tokenLength_1 (by omega) (by omega) (by rw [t3]; rfl) (by decide) ?_
    refine lv_aload_n (pc := 44) C0.1 C0.2.1 dX7_tokenLength_44 rfl (lv_at hl 0 rfl) ?_
    refine lv_aload_n (pc := 45) C0.1 C0.2.1 dX7_tokenLength_45 rfl (lv_at hl 1 rfl) ?_
    refine lv_bipush (pc := 46) (v := 48) C0.1 C0.2.1 dX7_tokenLength_46 (by decide) ?_
    refine lv_bipush (pc := 48) (v := 57) C0.1 C0.2.1 dX7_tokenLength_48 (by decide) ?_
    refine lv_bipush (pc := 50) (v := 9) C0.1 C0.2.1 dX7_tokenLength_50 (by decide) ?_
    refine xcVI (pc := 52) 40 [.ref (b + 6), .int 48, .int 57, .int 9] (g_X7_rowLength_40 l D tA b i F G 48 57 9 (show 0 ≤ Int32.toInt (i 6 1) ∧ Int32.toInt (i 6 1) ≤ 600 from by omega) (by decide)) C0 hH hS clX7 rfl ⟨⟨Nat.le_of_ble_eq_true rfl, Nat.le_of_ble_eq_true rfl⟩, rfl, rfl⟩ cw_X7_114 rfl ⟨Nat.le_of_ble_eq_true rfl, Nat.le_of_ble_eq_true rfl⟩ hl.1 rfl (Nat.le_of_ble_eq_true rfl) dX7_tokenLength_52 ⟨Nat.le_of_ble_eq_true rfl, Nat.le_of_ble_eq_true rfl⟩ (fun r4 ir4 Fr4 Gr4 _ locs hp hH hS => ?_)
    obtain ⟨hu, hpr4⟩ := hp
    cases hu
    exact xiret (pc := 55) C0 hr hH hS dX7_tokenLength_55 ⟨rfl, trivial⟩
  by_cases t5 : (x : Int32).toInt = 2
  · refine lv_tableIn (pc := 1) (off := 55) (tgt := 56) C0.1 C0.2.1 dX7_tokenLength_1 (by omega) (by omega) (by rw [t5]; rfl) (by decide) ?_
    refine lv_iconst (pc := 56) (v := 1) C0.1 C0.2.1 dX7_tokenLength_56 (by decide) ?_
    exact xiret (pc := 57) C0 hr hH hS dX7_tokenLength_57 ⟨rfl, trivial⟩
  by_cases t6 : (x : Int32).toInt = 3
  · refine lv_tableIn (pc := 1) (off := 57) (tgt := 58) C0.1 C0.2.1 dX7_tokenLength_1 (by omega) (by omega) (by rw [t6]; rfl) (by decide) ?_
    refine lv_aload_n (pc := 58) C0.1 C0.2.1 dX7_tokenLength_58 rfl (lv_at hl 0 rfl) ?_
    refine lv_aload_n (pc := 59) C0.1 C0.2.1 dX7_tokenLength_59 rfl (lv_at hl 1 rfl) ?_
    refine xcVI (pc := 60) 40 [.ref (b + 6)] (g_X7_quoteLength_40 l D tA b i F G  (show 0 ≤ Int32.toInt (i 6 1) ∧ Int32.toInt (i 6 1) ≤ 600 from by omega)) C0 hH hS clX7 rfl ⟨⟨Nat.le_of_ble_eq_true rfl, Nat.le_of_ble_eq_true rfl⟩, rfl, rfl⟩ cw_X7_118 rfl ⟨Nat.le_of_ble_eq_true rfl, Nat.le_of_ble_eq_true rfl⟩ hl.1 rfl (Nat.le_of_ble_eq_true rfl) dX7_tokenLength_60 ⟨Nat.le_of_ble_eq_true rfl, Nat.le_of_ble_eq_true rfl⟩ (fun r7 ir7 Fr7 Gr7 _ locs hp hH hS => ?_)
    obtain ⟨hu, hpr7⟩ := hp
    cases hu
    exact xiret (pc := 63) C0 hr hH hS dX7_tokenLength_63 ⟨rfl, trivial⟩
  refine lv_tableOut (pc := 1) (tgt := 64) C0.1 C0.2.1 dX7_tokenLength_1 (by omega) (by decide) ?_
  refine lv_iconst (pc := 64) (v := 0) C0.1 C0.2.1 dX7_tokenLength_64 (by decide) ?_
  exact xiret (pc := 65) C0 hr hH hS dX7_tokenLength_65 ⟨rfl, trivial⟩
set_option maxHeartbeats 4000000 in
set_option maxRecDepth 100000 in
theorem g_X7_pass_40 (l : Launch) (D : va_G) (tA : Nat → ClassId) (b : Nat) (i F : Nat → Nat → Int32) (G : Nat → Nat → Int64) (x y : Int32) (hsz : 0 ≤ (i 6 1).toInt ∧ (i 6 1).toInt ≤ 600) : xMV l yX7_pass cX7_pass 6 none 1 22 D tA b 0 78 i F G [.ref (b + 40), .ref (b + 6), .int x, .int y] (fun u => On 40 41 i F G u ∧ u.1 40 7 = i 40 7 ∧ u.1 40 13 = i 40 13) := by
  refine xstart RX7 rfl (by decide) (Nat.le_of_ble_eq_true rfl) ?_
  intro p e s m below meth c ls C0 hr hH hS hl
  have hl : lv_has ls 6 [(0, .ref (b + 40)), (1, .ref (b + 6)), (2, .int x), (3, .int y)] := hl
  have rg_x := fb_rng x
  have rg_y := fb_rng y
  have LOOP : ∀ (d : Nat) (k : Int32) (iv Fv : Nat → Nat → Int32) (Gv : Nat → Nat → Int64) (H : Heap) (locs : List Loc) (ls : Array Slot), (0 ≤ k.toInt) → (x.toInt - k.toInt ≤ d) → (On 40 41 i F G (iv, Fv, Gv)) → (iv 40 7 = i 40 7 ∧ iv 40 13 = i 40 13) → Hd D tA b 0 78 zz iv Fv Gv H → va_S (xA b 0 78) s.heap H locs → lv_has ls 6 [(4, .int k), (0, .ref (b + 40)), (1, .ref (b + 6)), (2, .int x), (3, .int y)] → W p l e (xR 1 22) s m ([.ref (b + 40), .ref (b + 6), .int x, .int y] : List Value).toArray below meth c H locs 0 0 (MQ below (va_Qv (fun u => On 40 41 i F G u ∧ u.1 40 7 = i 40 7 ∧ u.1 40 13 = i 40 13) (xB D tA b 0 78 zz) (xA b 0 78)) ([.ref (b + 40), .ref (b + 6), .int x, .int y] : List Value).toArray s 0 0 (xA b 0 78)) (F0 m 3 ls []) := by
    intro d
    induction d with
    | zero =>
      intro k iv Fv Gv H locs ls h1 h2 h3 h4 hH hS hl
      have rg_k := fb_rng k
      have ek : Int32.toInt (iv 6 1) = Int32.toInt (i 6 1) := congrArg Int32.toInt (congrFun (h3.1 6 (by decide)).1 1)
      refine lv_iload (pc := 3) C0.1 C0.2.1 dX7_pass_3 (lv_at hl 0 rfl) ?_
      refine lv_iload_n (pc := 5) C0.1 C0.2.1 dX7_pass_5 rfl (lv_at hl 3 rfl) ?_
      refine lv_icmp_ge (pc := 6) (tgt := 74) C0.1 C0.2.1 dX7_pass_6 (by decide) (fun _ => ?_) (fun c => absurd (Int32.le_iff_toInt_le.mpr (by omega)) c)
      exact xvret (pc := 74) C0 hr hH hS dX7_pass_74 ⟨h3, h4.1, h4.2⟩
    | succ d ih =>
      intro k iv Fv Gv H locs ls h1 h2 h3 h4 hH hS hl
      have rg_k := fb_rng k
      have ek : Int32.toInt (iv 6 1) = Int32.toInt (i 6 1) := congrArg Int32.toInt (congrFun (h3.1 6 (by decide)).1 1)
      refine lv_iload (pc := 3) C0.1 C0.2.1 dX7_pass_3 (lv_at hl 0 rfl) ?_
      refine lv_iload_n (pc := 5) C0.1 C0.2.1 dX7_pass_5 rfl (lv_at hl 3 rfl) ?_
      refine lv_icmp_ge (pc := 6) (tgt := 74) C0.1 C0.2.1 dX7_pass_6 (by decide) (fun c101 => ?_) (fun c101 => ?_)
      · have c101 := Int32.le_iff_toInt_le.mp c101
        exact xvret (pc := 74) C0 hr hH hS dX7_pass_74 ⟨h3, h4.1, h4.2⟩
      · have c101 : ¬ _ := fun q => c101 (Int32.le_iff_toInt_le.mpr q)
        refine lv_aload_n (pc := 9) C0.1 C0.2.1 dX7_pass_9 rfl (lv_at hl 2 rfl) ?_
        refine lv_aload_n (pc := 10) C0.1 C0.2.1 dX7_pass_10 rfl (lv_at hl 1 rfl) ?_
        refine xget (pc := 11) C0 hH 40 10 clX7 ⟨Nat.le_of_ble_eq_true rfl, Nat.le_of_ble_eq_true rfl⟩ ⟨rfl, rfl⟩ (Nat.le_of_ble_eq_true rfl) fl_X7_44 (v := .int (iv 40 10)) rfl dX7_pass_11 ?_
        refine xcVI (pc := 14) 6 [.int (iv 40 10)] (g_X6_at_6 l D tA b iv Fv Gv (iv 40 10) (show 0 ≤ Int32.toInt (iv 6 1) ∧ Int32.toInt (iv 6 1) ≤ 600 from by omega)) C0 hH hS clX6 rfl ⟨⟨Nat.le_of_ble_eq_true rfl, Nat.le_of_ble_eq_true rfl⟩, rfl, rfl⟩ cw_X7_75 rfl ⟨Nat.le_of_ble_eq_true rfl, Nat.le_of_ble_eq_true rfl⟩ hl.1 rfl (Nat.le_of_ble_eq_true rfl) dX7_pass_14 ⟨Nat.le_of_ble_eq_true rfl, Nat.le_of_ble_eq_true rfl⟩ (fun r102 ir102 Fr102 Gr102 _ locs hp hH hS => ?_)
        obtain ⟨hu, hpr102⟩ := hp
        cases hu
        refine lv_istore (pc := 17) (lv' := [(5, .int r102), (4, .int k), (0, .ref (b + 40)), (1, .ref (b + 6)), (2, .int x), (3, .int y)]) C0.1 C0.2.1 dX7_pass_17 hl (by decide) rfl (fun ls hl => ?_)
        refine lv_iload (pc := 19) C0.1 C0.2.1 dX7_pass_19 (lv_at hl 0 rfl) ?_
        refine lv_bipush (pc := 21) (v := 10) C0.1 C0.2.1 dX7_pass_21 (by decide) ?_
        refine lv_icmp_ne (pc := 23) (tgt := 44) C0.1 C0.2.1 dX7_pass_23 (by decide) (fun c103 => ?_) (fun c103 => ?_)
        · have : Int32.toInt 10 = 10 := rfl
          have c103 : ¬ _ := fun q => c103 (Int32.toInt_inj.mp q)
          refine lv_aload_n (pc := 44) C0.1 C0.2.1 dX7_pass_44 rfl (lv_at hl 2 rfl) ?_
          refine lv_aload_n (pc := 45) C0.1 C0.2.1 dX7_pass_45 rfl (lv_at hl 2 rfl) ?_
          refine xget (pc := 46) C0 hH 40 12 clX7 ⟨Nat.le_of_ble_eq_true rfl, Nat.le_of_ble_eq_true rfl⟩ ⟨rfl, rfl⟩ (Nat.le_of_ble_eq_true rfl) fl_X7_50 (v := .int (iv 40 12)) rfl dX7_pass_46 ?_
          refine lv_iload (pc := 49) C0.1 C0.2.1 dX7_pass_49 (lv_at hl 0 rfl) ?_
          refine lv_iload_n (pc := 51) C0.1 C0.2.1 dX7_pass_51 rfl (lv_at hl 5 rfl) ?_
          refine xcNI (pc := 52) [.int (iv 40 12), .int r102, .int y] (g_X9_columnBehind l D tA b iv Fv Gv (iv 40 12) r102 y ) C0 hH hS cw_X7_121 st_X9_columnBehind rfl ⟨Nat.le_of_ble_eq_true rfl, Nat.le_of_ble_eq_true rfl⟩ hl.1 rfl (Nat.le_of_ble_eq_true rfl) dX7_pass_52 ⟨Nat.le_of_ble_eq_true rfl, Nat.le_of_ble_eq_true rfl⟩ (fun r104 ir104 Fr104 Gr104 _ locs hp hH hS => ?_)
          obtain ⟨hu, hpr104⟩ := hp
          cases hu
          refine xputI (pc := 55) C0 (Nat.le_of_ble_eq_true rfl) hH hS 40 12 clX7 ⟨Nat.le_of_ble_eq_true rfl, Nat.le_of_ble_eq_true rfl⟩ ⟨rfl, rfl⟩ ⟨Nat.le_of_ble_eq_true rfl, rfl, rfl⟩ fl_X7_50 (x := r104) ⟨rfl, rfl⟩ dX7_pass_55 (fun _ locs hH hS _ => ?_)
          have hH : Hd D tA b 0 78 zz (up2 iv 40 12 r104) Fv Gv _ := hH
          refine lv_aload_n (pc := 58) C0.1 C0.2.1 dX7_pass_58 rfl (lv_at hl 2 rfl) ?_
          refine lv_dup (pc := 59) C0.1 C0.2.1 dX7_pass_59 rfl ?_
          refine xget (pc := 60) C0 hH 40 10 clX7 ⟨Nat.le_of_ble_eq_true rfl, Nat.le_of_ble_eq_true rfl⟩ ⟨rfl, rfl⟩ (Nat.le_of_ble_eq_true rfl) fl_X7_44 (v := .int (iv 40 10)) rfl dX7_pass_60 ?_
          refine lv_iconst (pc := 63) (v := 1) C0.1 C0.2.1 dX7_pass_63 (by decide) ?_
          refine lv_iadd (pc := 64) C0.1 C0.2.1 dX7_pass_64 ?_
          refine lv_topi (fun x105 ex105 => ?_)
          refine xputI (pc := 65) C0 (Nat.le_of_ble_eq_true rfl) hH hS 40 10 clX7 ⟨Nat.le_of_ble_eq_true rfl, Nat.le_of_ble_eq_true rfl⟩ ⟨rfl, rfl⟩ ⟨Nat.le_of_ble_eq_true rfl, rfl, rfl⟩ fl_X7_44 (x := x105) ⟨rfl, rfl⟩ dX7_pass_65 (fun _ locs hH hS _ => ?_)
          have hH : Hd D tA b 0 78 zz (up2 (up2 iv 40 12 r104) 40 10 x105) Fv Gv _ := hH
          obtain ⟨x106, ex106⟩ : ∃ y_ : Int32, y_ = k + 1 := ⟨_, rfl⟩
          have : Int32.toInt 1 = 1 := rfl
          have hx106 : Int32.toInt x106 = Int32.toInt k + Int32.toInt 1 := by rw [ex106]; exact fb_addI (by omega) (by omega)
          refine lv_iinc (pc := 68) (v := x106) (lv' := [(4, .int x106), (5, .int r102), (0, .ref (b + 40)), (1, .ref (b + 6)), (2, .int x), (3, .int y)]) C0.1 C0.2.1 dX7_pass_68 hl (k := 1) rfl (by rw [ex106]; rfl) (by decide) rfl (fun ls hl => ?_)
          refine lv_goto (pc := 71) (tgt := 3) C0.1 C0.2.1 dX7_pass_71 (by decide) ?_
          exact ih x106 (up2 (up2 iv 40 12 r104) 40 10 x105) Fv Gv _ _ _ (by omega) (by omega) (On.i (On.i h3 (by decide)) (by decide)) h4 hH hS (lv_sub hl [0, 2, 3, 4, 5] rfl)
        · have : Int32.toInt 10 = 10 := rfl
          have c103 := congrArg Int32.toInt c103
          refine lv_aload_n (pc := 26) C0.1 C0.2.1 dX7_pass_26 rfl (lv_at hl 2 rfl) ?_
          refine lv_dup (pc := 27) C0.1 C0.2.1 dX7_pass_27 rfl ?_
          refine xget (pc := 28) C0 hH 40 11 clX7 ⟨Nat.le_of_ble_eq_true rfl, Nat.le_of_ble_eq_true rfl⟩ ⟨rfl, rfl⟩ (Nat.le_of_ble_eq_true rfl) fl_X7_47 (v := .int (iv 40 11)) rfl dX7_pass_28 ?_
          refine lv_iconst (pc := 31) (v := 1) C0.1 C0.2.1 dX7_pass_31 (by decide) ?_
          refine lv_iadd (pc := 32) C0.1 C0.2.1 dX7_pass_32 ?_
          refine lv_topi (fun x107 ex107 => ?_)
          refine xputI (pc := 33) C0 (Nat.le_of_ble_eq_true rfl) hH hS 40 11 clX7 ⟨Nat.le_of_ble_eq_true rfl, Nat.le_of_ble_eq_true rfl⟩ ⟨rfl, rfl⟩ ⟨Nat.le_of_ble_eq_true rfl, rfl, rfl⟩ fl_X7_47 (x := x107) ⟨rfl, rfl⟩ dX7_pass_33 (fun _ locs hH hS _ => ?_)
          have hH : Hd D tA b 0 78 zz (up2 iv 40 11 x107) Fv Gv _ := hH
          refine lv_aload_n (pc := 36) C0.1 C0.2.1 dX7_pass_36 rfl (lv_at hl 2 rfl) ?_
          refine lv_iconst (pc := 37) (v := 0) C0.1 C0.2.1 dX7_pass_37 (by decide) ?_
          refine xputI (pc := 38) C0 (Nat.le_of_ble_eq_true rfl) hH hS 40 12 clX7 ⟨Nat.le_of_ble_eq_true rfl, Nat.le_of_ble_eq_true rfl⟩ ⟨rfl, rfl⟩ ⟨Nat.le_of_ble_eq_true rfl, rfl, rfl⟩ fl_X7_50 (x := 0) ⟨rfl, rfl⟩ dX7_pass_38 (fun _ locs hH hS _ => ?_)
          have hH : Hd D tA b 0 78 zz (up2 (up2 iv 40 11 x107) 40 12 0) Fv Gv _ := hH
          refine lv_goto (pc := 41) (tgt := 58) C0.1 C0.2.1 dX7_pass_41 (by decide) ?_
          refine lv_aload_n (pc := 58) C0.1 C0.2.1 dX7_pass_58 rfl (lv_at hl 2 rfl) ?_
          refine lv_dup (pc := 59) C0.1 C0.2.1 dX7_pass_59 rfl ?_
          refine xget (pc := 60) C0 hH 40 10 clX7 ⟨Nat.le_of_ble_eq_true rfl, Nat.le_of_ble_eq_true rfl⟩ ⟨rfl, rfl⟩ (Nat.le_of_ble_eq_true rfl) fl_X7_44 (v := .int (iv 40 10)) rfl dX7_pass_60 ?_
          refine lv_iconst (pc := 63) (v := 1) C0.1 C0.2.1 dX7_pass_63 (by decide) ?_
          refine lv_iadd (pc := 64) C0.1 C0.2.1 dX7_pass_64 ?_
          refine lv_topi (fun x108 ex108 => ?_)
          refine xputI (pc := 65) C0 (Nat.le_of_ble_eq_true rfl) hH hS 40 10 clX7 ⟨Nat.le_of_ble_eq_true rfl, Nat.le_of_ble_eq_true rfl⟩ ⟨rfl, rfl⟩ ⟨Nat.le_of_ble_eq_true rfl, rfl, rfl⟩ fl_X7_44 (x := x108) ⟨rfl, rfl⟩ dX7_pass_65 (fun _ locs hH hS _ => ?_)
          have hH : Hd D tA b 0 78 zz (up2 (up2 (up2 iv 40 11 x107) 40 12 0) 40 10 x108) Fv Gv _ := hH
          obtain ⟨x109, ex109⟩ : ∃ y_ : Int32, y_ = k + 1 := ⟨_, rfl⟩
          have : Int32.toInt 1 = 1 := rfl
          have hx109 : Int32.toInt x109 = Int32.toInt k + Int32.toInt 1 := by rw [ex109]; exact fb_addI (by omega) (by omega)
          refine lv_iinc (pc := 68) (v := x109) (lv' := [(4, .int x109), (5, .int r102), (0, .ref (b + 40)), (1, .ref (b + 6)), (2, .int x), (3, .int y)]) C0.1 C0.2.1 dX7_pass_68 hl (k := 1) rfl (by rw [ex109]; rfl) (by decide) rfl (fun ls hl => ?_)
          refine lv_goto (pc := 71) (tgt := 3) C0.1 C0.2.1 dX7_pass_71 (by decide) ?_
          exact ih x109 (up2 (up2 (up2 iv 40 11 x107) 40 12 0) 40 10 x108) Fv Gv _ _ _ (by omega) (by omega) (On.i (On.i (On.i h3 (by decide)) (by decide)) (by decide)) h4 hH hS (lv_sub hl [0, 2, 3, 4, 5] rfl)
  refine lv_iconst (pc := 0) (v := 0) C0.1 C0.2.1 dX7_pass_0 (by decide) ?_
  refine lv_istore (pc := 1) (lv' := [(4, .int 0), (0, .ref (b + 40)), (1, .ref (b + 6)), (2, .int x), (3, .int y)]) C0.1 C0.2.1 dX7_pass_1 hl (by decide) rfl (fun ls hl => ?_)
  exact LOOP (x.toInt).toNat 0 i F G _ _ _ (by have : Int32.toInt 0 = 0 := rfl; omega) (by have : Int32.toInt 0 = 0 := rfl; omega) On.rf ⟨rfl, rfl⟩ hH hS (lv_sub hl [0, 1, 2, 3, 4] rfl)
set_option maxHeartbeats 4000000 in
set_option maxRecDepth 100000 in
theorem g_X7_scanToken_40 (l : Launch) (D : va_G) (tA : Nat → ClassId) (b : Nat) (i F : Nat → Nat → Int32) (G : Nat → Nat → Int64)  (hsz : 0 ≤ (i 6 1).toInt ∧ (i 6 1).toInt ≤ 600) (htk : 0 ≤ (i 40 7).toInt ∧ (i 40 7).toInt ≤ 600) (hfr : (i 40 13 = 0 ∨ i 40 13 = 1)) (htd : 0 ≤ (i 1 2).toInt ∧ (i 1 2).toInt ≤ 24) : xMV l yX7_scanToken cX7_scanToken 5 none 6 132 D tA b 0 78 i F G [.ref (b + 40), .ref (b + 6), .ref (b + 1)] (fun u => On 40 48 i F G u ∧ 0 ≤ (u.1 40 7).toInt ∧ (u.1 40 7).toInt ≤ 600 ∧ (u.1 40 13 = 0 ∨ u.1 40 13 = 1)) := by
  refine xstart RX7 rfl (by decide) (Nat.le_of_ble_eq_true rfl) ?_
  intro p e s m below meth c ls C0 hr hH hS hl
  have hl : lv_has ls 5 [(0, .ref (b + 40)), (1, .ref (b + 6)), (2, .ref (b + 1))] := hl
  refine lv_aload_n (pc := 0) C0.1 C0.2.1 dX7_scanToken_0 rfl (lv_at hl 1 rfl) ?_
  refine lv_aload_n (pc := 1) C0.1 C0.2.1 dX7_scanToken_1 rfl (lv_at hl 0 rfl) ?_
  refine xget (pc := 2) C0 hH 40 10 clX7 ⟨Nat.le_of_ble_eq_true rfl, Nat.le_of_ble_eq_true rfl⟩ ⟨rfl, rfl⟩ (Nat.le_of_ble_eq_true rfl) fl_X7_44 (v := .int (i 40 10)) rfl dX7_scanToken_2 ?_
  refine xcVI (pc := 5) 6 [.int (i 40 10)] (g_X6_at_6 l D tA b i F G (i 40 10) (show 0 ≤ Int32.toInt (i 6 1) ∧ Int32.toInt (i 6 1) ≤ 600 from by omega)) C0 hH hS clX6 rfl ⟨⟨Nat.le_of_ble_eq_true rfl, Nat.le_of_ble_eq_true rfl⟩, rfl, rfl⟩ cw_X7_75 rfl ⟨Nat.le_of_ble_eq_true rfl, Nat.le_of_ble_eq_true rfl⟩ hl.1 rfl (Nat.le_of_ble_eq_true rfl) dX7_scanToken_5 ⟨Nat.le_of_ble_eq_true rfl, Nat.le_of_ble_eq_true rfl⟩ (fun r1 ir1 Fr1 Gr1 _ locs hp hH hS => ?_)
  obtain ⟨hu, hpr1⟩ := hp
  cases hu
  refine xcSI (pc := 8) [.int r1] (g_X7_sortOf l D tA b i F G r1 ) C0 hH hS cw_X7_88 rfl ⟨Nat.le_of_ble_eq_true rfl, Nat.le_of_ble_eq_true rfl⟩ hl.1 rfl (Nat.le_of_ble_eq_true rfl) dX7_scanToken_8 ⟨Nat.le_of_ble_eq_true rfl, Nat.le_of_ble_eq_true rfl⟩ (fun r2 ir2 Fr2 Gr2 _ locs hp hH hS => ?_)
  obtain ⟨hu, hpr2⟩ := hp
  cases hu
  refine lv_istore_n (pc := 11) (lv' := [(3, .int r2), (0, .ref (b + 40)), (1, .ref (b + 6)), (2, .ref (b + 1))]) C0.1 C0.2.1 dX7_scanToken_11 rfl hl (by decide) rfl (fun ls hl => ?_)
  refine lv_aload_n (pc := 12) C0.1 C0.2.1 dX7_scanToken_12 rfl (lv_at hl 1 rfl) ?_
  refine lv_aload_n (pc := 13) C0.1 C0.2.1 dX7_scanToken_13 rfl (lv_at hl 2 rfl) ?_
  refine lv_iload_n (pc := 14) C0.1 C0.2.1 dX7_scanToken_14 rfl (lv_at hl 0 rfl) ?_
  refine xcVI (pc := 15) 40 [.ref (b + 6), .int r2] (g_X7_tokenLength_40 l D tA b i F G r2 (show 0 ≤ Int32.toInt (i 6 1) ∧ Int32.toInt (i 6 1) ≤ 600 from by omega)) C0 hH hS clX7 rfl ⟨⟨Nat.le_of_ble_eq_true rfl, Nat.le_of_ble_eq_true rfl⟩, rfl, rfl⟩ cw_X7_91 rfl ⟨Nat.le_of_ble_eq_true rfl, Nat.le_of_ble_eq_true rfl⟩ hl.1 rfl (Nat.le_of_ble_eq_true rfl) dX7_scanToken_15 ⟨Nat.le_of_ble_eq_true rfl, Nat.le_of_ble_eq_true rfl⟩ (fun r3 ir3 Fr3 Gr3 _ locs hp hH hS => ?_)
  obtain ⟨hu, hpr3⟩ := hp
  cases hu
  refine lv_istore (pc := 18) (lv' := [(4, .int r3), (3, .int r2), (0, .ref (b + 40)), (1, .ref (b + 6)), (2, .ref (b + 1))]) C0.1 C0.2.1 dX7_scanToken_18 hl (by decide) rfl (fun ls hl => ?_)
  refine lv_iload (pc := 20) C0.1 C0.2.1 dX7_scanToken_20 (lv_at hl 0 rfl) ?_
  refine lv_if_le (pc := 22) (tgt := 35) C0.1 C0.2.1 dX7_scanToken_22 (by decide) (fun c4 => ?_) (fun c4 => ?_)
  · have : Int32.toInt 0 = 0 := rfl
    have c4 := Int32.le_iff_toInt_le.mp c4
    refine lv_aload_n (pc := 35) C0.1 C0.2.1 dX7_scanToken_35 rfl (lv_at hl 2 rfl) ?_
    refine lv_iconst (pc := 36) (v := 1) C0.1 C0.2.1 dX7_scanToken_36 (by decide) ?_
    refine xputI (pc := 37) C0 (Nat.le_of_ble_eq_true rfl) hH hS 40 8 clX7 ⟨Nat.le_of_ble_eq_true rfl, Nat.le_of_ble_eq_true rfl⟩ ⟨rfl, rfl⟩ ⟨Nat.le_of_ble_eq_true rfl, rfl, rfl⟩ fl_X7_38 (x := 1) ⟨rfl, rfl⟩ dX7_scanToken_37 (fun _ locs hH hS _ => ?_)
    have hH : Hd D tA b 0 78 zz (up2 i 40 8 1) F G _ := hH
    refine lv_aload_n (pc := 40) C0.1 C0.2.1 dX7_scanToken_40 rfl (lv_at hl 2 rfl) ?_
    refine lv_aload_n (pc := 41) C0.1 C0.2.1 dX7_scanToken_41 rfl (lv_at hl 2 rfl) ?_
    refine xget (pc := 42) C0 hH 40 10 clX7 ⟨Nat.le_of_ble_eq_true rfl, Nat.le_of_ble_eq_true rfl⟩ ⟨rfl, rfl⟩ (Nat.le_of_ble_eq_true rfl) fl_X7_44 (v := .int (i 40 10)) rfl dX7_scanToken_42 ?_
    refine lv_topi (fun x5 ex5 => ?_)
    refine xputI (pc := 45) C0 (Nat.le_of_ble_eq_true rfl) hH hS 40 9 clX7 ⟨Nat.le_of_ble_eq_true rfl, Nat.le_of_ble_eq_true rfl⟩ ⟨rfl, rfl⟩ ⟨Nat.le_of_ble_eq_true rfl, rfl, rfl⟩ fl_X7_41 (x := x5) ⟨rfl, rfl⟩ dX7_scanToken_45 (fun _ locs hH hS _ => ?_)
    have hH : Hd D tA b 0 78 zz (up2 (up2 i 40 8 1) 40 9 x5) F G _ := hH
    exact xvret (pc := 48) C0 hr hH hS dX7_scanToken_48 ⟨(On.i (On.i On.rf (by decide)) (by decide)), htk.1, htk.2, hfr⟩
  · have : Int32.toInt 0 = 0 := rfl
    have c4 : ¬ _ := fun q => c4 (Int32.le_iff_toInt_le.mpr q)
    refine lv_aload_n (pc := 25) C0.1 C0.2.1 dX7_scanToken_25 rfl (lv_at hl 2 rfl) ?_
    refine xget (pc := 26) C0 hH 40 7 clX7 ⟨Nat.le_of_ble_eq_true rfl, Nat.le_of_ble_eq_true rfl⟩ ⟨rfl, rfl⟩ (Nat.le_of_ble_eq_true rfl) fl_X7_34 (v := .int (i 40 7)) rfl dX7_scanToken_26 ?_
    refine lv_sipush (pc := 29) (v := 600) C0.1 C0.2.1 dX7_scanToken_29 (by decide) ?_
    refine lv_icmp_lt (pc := 32) (tgt := 49) C0.1 C0.2.1 dX7_scanToken_32 (by decide) (fun c6 => ?_) (fun c6 => ?_)
    · have : Int32.toInt 600 = 600 := rfl
      have c6 := Int32.lt_iff_toInt_lt.mp c6
      refine lv_aload_n (pc := 49) C0.1 C0.2.1 dX7_scanToken_49 rfl (lv_at hl 2 rfl) ?_
      refine xget (pc := 50) C0 hH 40 0 clX7 ⟨Nat.le_of_ble_eq_true rfl, Nat.le_of_ble_eq_true rfl⟩ ⟨rfl, rfl⟩ (Nat.le_of_ble_eq_true rfl) fl_X7_9 (v := .ref (b + 41)) rfl dX7_scanToken_50 ?_
      refine lv_aload_n (pc := 53) C0.1 C0.2.1 dX7_scanToken_53 rfl (lv_at hl 2 rfl) ?_
      refine xget (pc := 54) C0 hH 40 7 clX7 ⟨Nat.le_of_ble_eq_true rfl, Nat.le_of_ble_eq_true rfl⟩ ⟨rfl, rfl⟩ (Nat.le_of_ble_eq_true rfl) fl_X7_34 (v := .int (i 40 7)) rfl dX7_scanToken_54 ?_
      refine lv_iload_n (pc := 57) C0.1 C0.2.1 dX7_scanToken_57 rfl (lv_at hl 1 rfl) ?_
      refine xiast (pc := 58) (N := 600) C0 (Nat.le_of_ble_eq_true rfl) hH hS 41 ⟨Nat.le_of_ble_eq_true rfl, Nat.le_of_ble_eq_true rfl⟩ ⟨rfl, rfl⟩ (vI (by omega) (by omega)) dX7_scanToken_58 (fun _ locs hH hS _ => ?_)
      have hH : Hd D tA b 0 78 zz i (va_up F 41 (upd (F 41) (Int32.toNatClampNeg (i 40 7)) r2)) G _ := hH
      refine lv_aload_n (pc := 59) C0.1 C0.2.1 dX7_scanToken_59 rfl (lv_at hl 2 rfl) ?_
      refine xget (pc := 60) C0 hH 40 1 clX7 ⟨Nat.le_of_ble_eq_true rfl, Nat.le_of_ble_eq_true rfl⟩ ⟨rfl, rfl⟩ (Nat.le_of_ble_eq_true rfl) fl_X7_15 (v := .ref (b + 42)) rfl dX7_scanToken_60 ?_
      refine lv_aload_n (pc := 63) C0.1 C0.2.1 dX7_scanToken_63 rfl (lv_at hl 2 rfl) ?_
      refine xget (pc := 64) C0 hH 40 7 clX7 ⟨Nat.le_of_ble_eq_true rfl, Nat.le_of_ble_eq_true rfl⟩ ⟨rfl, rfl⟩ (Nat.le_of_ble_eq_true rfl) fl_X7_34 (v := .int (i 40 7)) rfl dX7_scanToken_64 ?_
      refine lv_aload_n (pc := 67) C0.1 C0.2.1 dX7_scanToken_67 rfl (lv_at hl 2 rfl) ?_
      refine xget (pc := 68) C0 hH 40 10 clX7 ⟨Nat.le_of_ble_eq_true rfl, Nat.le_of_ble_eq_true rfl⟩ ⟨rfl, rfl⟩ (Nat.le_of_ble_eq_true rfl) fl_X7_44 (v := .int (i 40 10)) rfl dX7_scanToken_68 ?_
      refine xiast (pc := 71) (N := 600) C0 (Nat.le_of_ble_eq_true rfl) hH hS 42 ⟨Nat.le_of_ble_eq_true rfl, Nat.le_of_ble_eq_true rfl⟩ ⟨rfl, rfl⟩ (vI (by omega) (by omega)) dX7_scanToken_71 (fun _ locs hH hS _ => ?_)
      have hH : Hd D tA b 0 78 zz i (va_up (va_up F 41 (upd (F 41) (Int32.toNatClampNeg (i 40 7)) r2)) 42 (upd (F 42) (Int32.toNatClampNeg (i 40 7)) (i 40 10))) G _ := hH
      refine lv_aload_n (pc := 72) C0.1 C0.2.1 dX7_scanToken_72 rfl (lv_at hl 2 rfl) ?_
      refine xget (pc := 73) C0 hH 40 2 clX7 ⟨Nat.le_of_ble_eq_true rfl, Nat.le_of_ble_eq_true rfl⟩ ⟨rfl, rfl⟩ (Nat.le_of_ble_eq_true rfl) fl_X7_18 (v := .ref (b + 43)) rfl dX7_scanToken_73 ?_
      refine lv_aload_n (pc := 76) C0.1 C0.2.1 dX7_scanToken_76 rfl (lv_at hl 2 rfl) ?_
      refine xget (pc := 77) C0 hH 40 7 clX7 ⟨Nat.le_of_ble_eq_true rfl, Nat.le_of_ble_eq_true rfl⟩ ⟨rfl, rfl⟩ (Nat.le_of_ble_eq_true rfl) fl_X7_34 (v := .int (i 40 7)) rfl dX7_scanToken_77 ?_
      refine lv_iload (pc := 80) C0.1 C0.2.1 dX7_scanToken_80 (lv_at hl 0 rfl) ?_
      refine xiast (pc := 82) (N := 600) C0 (Nat.le_of_ble_eq_true rfl) hH hS 43 ⟨Nat.le_of_ble_eq_true rfl, Nat.le_of_ble_eq_true rfl⟩ ⟨rfl, rfl⟩ (vI (by omega) (by omega)) dX7_scanToken_82 (fun _ locs hH hS _ => ?_)
      have hH : Hd D tA b 0 78 zz i (va_up (va_up (va_up F 41 (upd (F 41) (Int32.toNatClampNeg (i 40 7)) r2)) 42 (upd (F 42) (Int32.toNatClampNeg (i 40 7)) (i 40 10))) 43 (upd (F 43) (Int32.toNatClampNeg (i 40 7)) r3)) G _ := hH
      refine lv_aload_n (pc := 83) C0.1 C0.2.1 dX7_scanToken_83 rfl (lv_at hl 2 rfl) ?_
      refine xget (pc := 84) C0 hH 40 3 clX7 ⟨Nat.le_of_ble_eq_true rfl, Nat.le_of_ble_eq_true rfl⟩ ⟨rfl, rfl⟩ (Nat.le_of_ble_eq_true rfl) fl_X7_21 (v := .ref (b + 44)) rfl dX7_scanToken_84 ?_
      refine lv_aload_n (pc := 87) C0.1 C0.2.1 dX7_scanToken_87 rfl (lv_at hl 2 rfl) ?_
      refine xget (pc := 88) C0 hH 40 7 clX7 ⟨Nat.le_of_ble_eq_true rfl, Nat.le_of_ble_eq_true rfl⟩ ⟨rfl, rfl⟩ (Nat.le_of_ble_eq_true rfl) fl_X7_34 (v := .int (i 40 7)) rfl dX7_scanToken_88 ?_
      refine lv_aload_n (pc := 91) C0.1 C0.2.1 dX7_scanToken_91 rfl (lv_at hl 2 rfl) ?_
      refine xget (pc := 92) C0 hH 40 11 clX7 ⟨Nat.le_of_ble_eq_true rfl, Nat.le_of_ble_eq_true rfl⟩ ⟨rfl, rfl⟩ (Nat.le_of_ble_eq_true rfl) fl_X7_47 (v := .int (i 40 11)) rfl dX7_scanToken_92 ?_
      refine xiast (pc := 95) (N := 600) C0 (Nat.le_of_ble_eq_true rfl) hH hS 44 ⟨Nat.le_of_ble_eq_true rfl, Nat.le_of_ble_eq_true rfl⟩ ⟨rfl, rfl⟩ (vI (by omega) (by omega)) dX7_scanToken_95 (fun _ locs hH hS _ => ?_)
      have hH : Hd D tA b 0 78 zz i (va_up (va_up (va_up (va_up F 41 (upd (F 41) (Int32.toNatClampNeg (i 40 7)) r2)) 42 (upd (F 42) (Int32.toNatClampNeg (i 40 7)) (i 40 10))) 43 (upd (F 43) (Int32.toNatClampNeg (i 40 7)) r3)) 44 (upd (F 44) (Int32.toNatClampNeg (i 40 7)) (i 40 11))) G _ := hH
      refine lv_aload_n (pc := 96) C0.1 C0.2.1 dX7_scanToken_96 rfl (lv_at hl 2 rfl) ?_
      refine xget (pc := 97) C0 hH 40 4 clX7 ⟨Nat.le_of_ble_eq_true rfl, Nat.le_of_ble_eq_true rfl⟩ ⟨rfl, rfl⟩ (Nat.le_of_ble_eq_true rfl) fl_X7_24 (v := .ref (b + 45)) rfl dX7_scanToken_97 ?_
      refine lv_aload_n (pc := 100) C0.1 C0.2.1 dX7_scanToken_100 rfl (lv_at hl 2 rfl) ?_
      refine xget (pc := 101) C0 hH 40 7 clX7 ⟨Nat.le_of_ble_eq_true rfl, Nat.le_of_ble_eq_true rfl⟩ ⟨rfl, rfl⟩ (Nat.le_of_ble_eq_true rfl) fl_X7_34 (v := .int (i 40 7)) rfl dX7_scanToken_101 ?_
      refine lv_aload_n (pc := 104) C0.1 C0.2.1 dX7_scanToken_104 rfl (lv_at hl 2 rfl) ?_
      refine xget (pc := 105) C0 hH 40 12 clX7 ⟨Nat.le_of_ble_eq_true rfl, Nat.le_of_ble_eq_true rfl⟩ ⟨rfl, rfl⟩ (Nat.le_of_ble_eq_true rfl) fl_X7_50 (v := .int (i 40 12)) rfl dX7_scanToken_105 ?_
      refine xiast (pc := 108) (N := 600) C0 (Nat.le_of_ble_eq_true rfl) hH hS 45 ⟨Nat.le_of_ble_eq_true rfl, Nat.le_of_ble_eq_true rfl⟩ ⟨rfl, rfl⟩ (vI (by omega) (by omega)) dX7_scanToken_108 (fun _ locs hH hS _ => ?_)
      have hH : Hd D tA b 0 78 zz i (va_up (va_up (va_up (va_up (va_up F 41 (upd (F 41) (Int32.toNatClampNeg (i 40 7)) r2)) 42 (upd (F 42) (Int32.toNatClampNeg (i 40 7)) (i 40 10))) 43 (upd (F 43) (Int32.toNatClampNeg (i 40 7)) r3)) 44 (upd (F 44) (Int32.toNatClampNeg (i 40 7)) (i 40 11))) 45 (upd (F 45) (Int32.toNatClampNeg (i 40 7)) (i 40 12))) G _ := hH
      refine lv_aload_n (pc := 109) C0.1 C0.2.1 dX7_scanToken_109 rfl (lv_at hl 2 rfl) ?_
      refine xget (pc := 110) C0 hH 40 5 clX7 ⟨Nat.le_of_ble_eq_true rfl, Nat.le_of_ble_eq_true rfl⟩ ⟨rfl, rfl⟩ (Nat.le_of_ble_eq_true rfl) fl_X7_27 (v := .ref (b + 46)) rfl dX7_scanToken_110 ?_
      refine lv_aload_n (pc := 113) C0.1 C0.2.1 dX7_scanToken_113 rfl (lv_at hl 2 rfl) ?_
      refine xget (pc := 114) C0 hH 40 7 clX7 ⟨Nat.le_of_ble_eq_true rfl, Nat.le_of_ble_eq_true rfl⟩ ⟨rfl, rfl⟩ (Nat.le_of_ble_eq_true rfl) fl_X7_34 (v := .int (i 40 7)) rfl dX7_scanToken_114 ?_
      refine lv_iload_n (pc := 117) C0.1 C0.2.1 dX7_scanToken_117 rfl (lv_at hl 1 rfl) ?_
      refine lv_if_eq (pc := 118) (tgt := 126) C0.1 C0.2.1 dX7_scanToken_118 (by decide) (fun c7 => ?_) (fun c7 => ?_)
      · have : Int32.toInt 0 = 0 := rfl
        have c7 := congrArg Int32.toInt c7
        refine lv_aload_n (pc := 126) C0.1 C0.2.1 dX7_scanToken_126 rfl (lv_at hl 4 rfl) ?_
        refine lv_aload_n (pc := 127) C0.1 C0.2.1 dX7_scanToken_127 rfl (lv_at hl 2 rfl) ?_
        refine lv_aload_n (pc := 128) C0.1 C0.2.1 dX7_scanToken_128 rfl (lv_at hl 3 rfl) ?_
        refine lv_iload (pc := 129) C0.1 C0.2.1 dX7_scanToken_129 (lv_at hl 0 rfl) ?_
        refine xcVL (pc := 131) 40 [.ref (b + 6), .int r3] (g_X7_packed_40 l D tA b i (va_up (va_up (va_up (va_up (va_up F 41 (upd (F 41) (Int32.toNatClampNeg (i 40 7)) r2)) 42 (upd (F 42) (Int32.toNatClampNeg (i 40 7)) (i 40 10))) 43 (upd (F 43) (Int32.toNatClampNeg (i 40 7)) r3)) 44 (upd (F 44) (Int32.toNatClampNeg (i 40 7)) (i 40 11))) 45 (upd (F 45) (Int32.toNatClampNeg (i 40 7)) (i 40 12))) G r3 (show 0 ≤ Int32.toInt (i 6 1) ∧ Int32.toInt (i 6 1) ≤ 600 from by omega)) C0 hH hS clX7 rfl ⟨⟨Nat.le_of_ble_eq_true rfl, Nat.le_of_ble_eq_true rfl⟩, rfl, rfl⟩ cw_X7_95 rfl ⟨Nat.le_of_ble_eq_true rfl, Nat.le_of_ble_eq_true rfl⟩ hl.1 rfl (Nat.le_of_ble_eq_true rfl) dX7_scanToken_131 ⟨Nat.le_of_ble_eq_true rfl, Nat.le_of_ble_eq_true rfl⟩ (fun r8 ir8 Fr8 Gr8 _ locs hp hH hS => ?_)
        obtain ⟨hu, hpr8⟩ := hp
        cases hu
        refine xcVI (pc := 134) 1 [.long r8] (gw_X1_roleOf l D tA b i (va_up (va_up (va_up (va_up (va_up F 41 (upd (F 41) (Int32.toNatClampNeg (i 40 7)) r2)) 42 (upd (F 42) (Int32.toNatClampNeg (i 40 7)) (i 40 10))) 43 (upd (F 43) (Int32.toNatClampNeg (i 40 7)) r3)) 44 (upd (F 44) (Int32.toNatClampNeg (i 40 7)) (i 40 11))) 45 (upd (F 45) (Int32.toNatClampNeg (i 40 7)) (i 40 12))) G r8 (show 0 ≤ Int32.toInt (i 1 2) ∧ Int32.toInt (i 1 2) ≤ 24 from by omega)) C0 hH hS clX1 rfl ⟨⟨Nat.le_of_ble_eq_true rfl, Nat.le_of_ble_eq_true rfl⟩, rfl, rfl⟩ cw_X7_99 rfl ⟨Nat.le_of_ble_eq_true rfl, Nat.le_of_ble_eq_true rfl⟩ hl.1 rfl (Nat.le_of_ble_eq_true rfl) dX7_scanToken_134 ⟨Nat.le_of_ble_eq_true rfl, Nat.le_of_ble_eq_true rfl⟩ (fun r9 ir9 Fr9 Gr9 _ locs hp hH hS => ?_)
        obtain ⟨hu, hpr9⟩ := hp
        cases hu
        refine lv_goto (pc := 137) (tgt := 141) C0.1 C0.2.1 dX7_scanToken_137 (by decide) ?_
        refine xiast (pc := 141) (N := 600) C0 (Nat.le_of_ble_eq_true rfl) hH hS 46 ⟨Nat.le_of_ble_eq_true rfl, Nat.le_of_ble_eq_true rfl⟩ ⟨rfl, rfl⟩ (vI (by omega) (by omega)) dX7_scanToken_141 (fun _ locs hH hS _ => ?_)
        have hH : Hd D tA b 0 78 zz i (va_up (va_up (va_up (va_up (va_up (va_up F 41 (upd (F 41) (Int32.toNatClampNeg (i 40 7)) r2)) 42 (upd (F 42) (Int32.toNatClampNeg (i 40 7)) (i 40 10))) 43 (upd (F 43) (Int32.toNatClampNeg (i 40 7)) r3)) 44 (upd (F 44) (Int32.toNatClampNeg (i 40 7)) (i 40 11))) 45 (upd (F 45) (Int32.toNatClampNeg (i 40 7)) (i 40 12))) 46 (upd (F 46) (Int32.toNatClampNeg (i 40 7)) r9)) G _ := hH
        refine lv_aload_n (pc := 142) C0.1 C0.2.1 dX7_scanToken_142 rfl (lv_at hl 2 rfl) ?_
        refine xget (pc := 143) C0 hH 40 6 clX7 ⟨Nat.le_of_ble_eq_true rfl, Nat.le_of_ble_eq_true rfl⟩ ⟨rfl, rfl⟩ (Nat.le_of_ble_eq_true rfl) fl_X7_30 (v := .ref (b + 47)) rfl dX7_scanToken_143 ?_
        refine lv_aload_n (pc := 146) C0.1 C0.2.1 dX7_scanToken_146 rfl (lv_at hl 2 rfl) ?_
        refine xget (pc := 147) C0 hH 40 7 clX7 ⟨Nat.le_of_ble_eq_true rfl, Nat.le_of_ble_eq_true rfl⟩ ⟨rfl, rfl⟩ (Nat.le_of_ble_eq_true rfl) fl_X7_34 (v := .int (i 40 7)) rfl dX7_scanToken_147 ?_
        refine lv_aload_n (pc := 150) C0.1 C0.2.1 dX7_scanToken_150 rfl (lv_at hl 2 rfl) ?_
        refine xget (pc := 151) C0 hH 40 13 clX7 ⟨Nat.le_of_ble_eq_true rfl, Nat.le_of_ble_eq_true rfl⟩ ⟨rfl, rfl⟩ (Nat.le_of_ble_eq_true rfl) fl_X7_53 (v := .int (i 40 13)) rfl dX7_scanToken_151 ?_
        refine xzast (pc := 154) (N := 600) C0 (Nat.le_of_ble_eq_true rfl) hH hS 47 ⟨Nat.le_of_ble_eq_true rfl, Nat.le_of_ble_eq_true rfl⟩ ⟨rfl, rfl⟩ hfr (vI (by omega) (by omega)) dX7_scanToken_154 (fun _ locs hH hS => ?_)
        have hH : Hd D tA b 0 78 zz i (va_up (va_up (va_up (va_up (va_up (va_up (va_up F 41 (upd (F 41) (Int32.toNatClampNeg (i 40 7)) r2)) 42 (upd (F 42) (Int32.toNatClampNeg (i 40 7)) (i 40 10))) 43 (upd (F 43) (Int32.toNatClampNeg (i 40 7)) r3)) 44 (upd (F 44) (Int32.toNatClampNeg (i 40 7)) (i 40 11))) 45 (upd (F 45) (Int32.toNatClampNeg (i 40 7)) (i 40 12))) 46 (upd (F 46) (Int32.toNatClampNeg (i 40 7)) r9)) 47 (upd (F 47) (Int32.toNatClampNeg (i 40 7)) (i 40 13))) G _ := hH
        refine lv_aload_n (pc := 155) C0.1 C0.2.1 dX7_scanToken_155 rfl (lv_at hl 2 rfl) ?_
        refine lv_dup (pc := 156) C0.1 C0.2.1 dX7_scanToken_156 rfl ?_
        refine xget (pc := 157) C0 hH 40 7 clX7 ⟨Nat.le_of_ble_eq_true rfl, Nat.le_of_ble_eq_true rfl⟩ ⟨rfl, rfl⟩ (Nat.le_of_ble_eq_true rfl) fl_X7_34 (v := .int (i 40 7)) rfl dX7_scanToken_157 ?_
        refine lv_iconst (pc := 160) (v := 1) C0.1 C0.2.1 dX7_scanToken_160 (by decide) ?_
        have : Int32.toInt 1 = 1 := rfl
        refine lv_iadd (pc := 161) C0.1 C0.2.1 dX7_scanToken_161 ?_
        refine lv_topi (fun x10 ex10 => ?_)
        have hx10 : Int32.toInt x10 = Int32.toInt (i 40 7) + Int32.toInt 1 := by rw [ex10]; exact fb_addI (by omega) (by omega)
        refine xputI (pc := 162) C0 (Nat.le_of_ble_eq_true rfl) hH hS 40 7 clX7 ⟨Nat.le_of_ble_eq_true rfl, Nat.le_of_ble_eq_true rfl⟩ ⟨rfl, rfl⟩ ⟨Nat.le_of_ble_eq_true rfl, rfl, rfl⟩ fl_X7_34 (x := x10) ⟨rfl, rfl⟩ dX7_scanToken_162 (fun _ locs hH hS _ => ?_)
        have hH : Hd D tA b 0 78 zz (up2 i 40 7 x10) (va_up (va_up (va_up (va_up (va_up (va_up (va_up F 41 (upd (F 41) (Int32.toNatClampNeg (i 40 7)) r2)) 42 (upd (F 42) (Int32.toNatClampNeg (i 40 7)) (i 40 10))) 43 (upd (F 43) (Int32.toNatClampNeg (i 40 7)) r3)) 44 (upd (F 44) (Int32.toNatClampNeg (i 40 7)) (i 40 11))) 45 (upd (F 45) (Int32.toNatClampNeg (i 40 7)) (i 40 12))) 46 (upd (F 46) (Int32.toNatClampNeg (i 40 7)) r9)) 47 (upd (F 47) (Int32.toNatClampNeg (i 40 7)) (i 40 13))) G _ := hH
        refine lv_aload_n (pc := 165) C0.1 C0.2.1 dX7_scanToken_165 rfl (lv_at hl 2 rfl) ?_
        refine lv_iconst (pc := 166) (v := 0) C0.1 C0.2.1 dX7_scanToken_166 (by decide) ?_
        refine xputI (pc := 167) C0 (Nat.le_of_ble_eq_true rfl) hH hS 40 13 clX7 ⟨Nat.le_of_ble_eq_true rfl, Nat.le_of_ble_eq_true rfl⟩ ⟨rfl, rfl⟩ ⟨Nat.le_of_ble_eq_true rfl, rfl, rfl⟩ fl_X7_53 (x := 0) ⟨rfl, rfl⟩ dX7_scanToken_167 (fun _ locs hH hS _ => ?_)
        have hH : Hd D tA b 0 78 zz (up2 (up2 i 40 7 x10) 40 13 0) (va_up (va_up (va_up (va_up (va_up (va_up (va_up F 41 (upd (F 41) (Int32.toNatClampNeg (i 40 7)) r2)) 42 (upd (F 42) (Int32.toNatClampNeg (i 40 7)) (i 40 10))) 43 (upd (F 43) (Int32.toNatClampNeg (i 40 7)) r3)) 44 (upd (F 44) (Int32.toNatClampNeg (i 40 7)) (i 40 11))) 45 (upd (F 45) (Int32.toNatClampNeg (i 40 7)) (i 40 12))) 46 (upd (F 46) (Int32.toNatClampNeg (i 40 7)) r9)) 47 (upd (F 47) (Int32.toNatClampNeg (i 40 7)) (i 40 13))) G _ := hH
        refine lv_aload_n (pc := 170) C0.1 C0.2.1 dX7_scanToken_170 rfl (lv_at hl 2 rfl) ?_
        refine lv_aload_n (pc := 171) C0.1 C0.2.1 dX7_scanToken_171 rfl (lv_at hl 3 rfl) ?_
        refine lv_iload (pc := 172) C0.1 C0.2.1 dX7_scanToken_172 (lv_at hl 0 rfl) ?_
        refine lv_aload_n (pc := 174) C0.1 C0.2.1 dX7_scanToken_174 rfl (lv_at hl 4 rfl) ?_
        refine xget (pc := 175) C0 hH 1 7 clX1 ⟨Nat.le_of_ble_eq_true rfl, Nat.le_of_ble_eq_true rfl⟩ ⟨rfl, rfl⟩ (Nat.le_of_ble_eq_true rfl) fl_X7_66 (v := .int (i 1 7)) rfl dX7_scanToken_175 ?_
        refine xcVV (pc := 178) 40 [.ref (b + 6), .int r3, .int (i 1 7)] (g_X7_pass_40 l D tA b (up2 (up2 i 40 7 x10) 40 13 0) (va_up (va_up (va_up (va_up (va_up (va_up (va_up F 41 (upd (F 41) (Int32.toNatClampNeg (i 40 7)) r2)) 42 (upd (F 42) (Int32.toNatClampNeg (i 40 7)) (i 40 10))) 43 (upd (F 43) (Int32.toNatClampNeg (i 40 7)) r3)) 44 (upd (F 44) (Int32.toNatClampNeg (i 40 7)) (i 40 11))) 45 (upd (F 45) (Int32.toNatClampNeg (i 40 7)) (i 40 12))) 46 (upd (F 46) (Int32.toNatClampNeg (i 40 7)) r9)) 47 (upd (F 47) (Int32.toNatClampNeg (i 40 7)) (i 40 13))) G r3 (i 1 7) (show 0 ≤ Int32.toInt (i 6 1) ∧ Int32.toInt (i 6 1) ≤ 600 from by omega)) C0 hH hS clX7 rfl ⟨⟨Nat.le_of_ble_eq_true rfl, Nat.le_of_ble_eq_true rfl⟩, rfl, rfl⟩ cw_X7_77 rfl ⟨Nat.le_of_ble_eq_true rfl, Nat.le_of_ble_eq_true rfl⟩ hl.1 rfl (Nat.le_of_ble_eq_true rfl) dX7_scanToken_178 ⟨Nat.le_of_ble_eq_true rfl, Nat.le_of_ble_eq_true rfl⟩ (fun ir11 Fr11 Gr11 _ locs hp hH hS => ?_)
        obtain ⟨honr11, ht7r11, ht13r11⟩ := hp
        try dsimp only at ht7r11 ht13r11
        have ht7r11I : Int32.toInt (ir11 40 7) = Int32.toInt x10 := congrArg Int32.toInt ht7r11
        exact xvret (pc := 181) C0 hr hH hS dX7_scanToken_181 ⟨(On.tr (On.f (On.f (On.f (On.f (On.f (On.f (On.f (On.i (On.i On.rf (by decide)) (by decide)) (by decide)) (by decide)) (by decide)) (by decide)) (by decide)) (by decide)) (by decide)) honr11 (by decide) (by decide)), by show 0 ≤ Int32.toInt (ir11 40 7); omega, by show Int32.toInt (ir11 40 7) ≤ 600; omega, by show ir11 40 13 = 0 ∨ ir11 40 13 = 1; rw [ht13r11]; exact Or.inl rfl⟩
      · have : Int32.toInt 0 = 0 := rfl
        have c7 : ¬ _ := fun q => c7 (Int32.toInt_inj.mp q)
        refine lv_iload_n (pc := 121) C0.1 C0.2.1 dX7_scanToken_121 rfl (lv_at hl 1 rfl) ?_
        refine lv_iconst (pc := 122) (v := 2) C0.1 C0.2.1 dX7_scanToken_122 (by decide) ?_
        refine lv_icmp_ne (pc := 123) (tgt := 140) C0.1 C0.2.1 dX7_scanToken_123 (by decide) (fun c12 => ?_) (fun c12 => ?_)
        · have : Int32.toInt 2 = 2 := rfl
          have c12 : ¬ _ := fun q => c12 (Int32.toInt_inj.mp q)
          refine lv_iconst (pc := 140) (v := 0) C0.1 C0.2.1 dX7_scanToken_140 (by decide) ?_
          refine xiast (pc := 141) (N := 600) C0 (Nat.le_of_ble_eq_true rfl) hH hS 46 ⟨Nat.le_of_ble_eq_true rfl, Nat.le_of_ble_eq_true rfl⟩ ⟨rfl, rfl⟩ (vI (by omega) (by omega)) dX7_scanToken_141 (fun _ locs hH hS _ => ?_)
          have hH : Hd D tA b 0 78 zz i (va_up (va_up (va_up (va_up (va_up (va_up F 41 (upd (F 41) (Int32.toNatClampNeg (i 40 7)) r2)) 42 (upd (F 42) (Int32.toNatClampNeg (i 40 7)) (i 40 10))) 43 (upd (F 43) (Int32.toNatClampNeg (i 40 7)) r3)) 44 (upd (F 44) (Int32.toNatClampNeg (i 40 7)) (i 40 11))) 45 (upd (F 45) (Int32.toNatClampNeg (i 40 7)) (i 40 12))) 46 (upd (F 46) (Int32.toNatClampNeg (i 40 7)) 0)) G _ := hH
          refine lv_aload_n (pc := 142) C0.1 C0.2.1 dX7_scanToken_142 rfl (lv_at hl 2 rfl) ?_
          refine xget (pc := 143) C0 hH 40 6 clX7 ⟨Nat.le_of_ble_eq_true rfl, Nat.le_of_ble_eq_true rfl⟩ ⟨rfl, rfl⟩ (Nat.le_of_ble_eq_true rfl) fl_X7_30 (v := .ref (b + 47)) rfl dX7_scanToken_143 ?_
          refine lv_aload_n (pc := 146) C0.1 C0.2.1 dX7_scanToken_146 rfl (lv_at hl 2 rfl) ?_
          refine xget (pc := 147) C0 hH 40 7 clX7 ⟨Nat.le_of_ble_eq_true rfl, Nat.le_of_ble_eq_true rfl⟩ ⟨rfl, rfl⟩ (Nat.le_of_ble_eq_true rfl) fl_X7_34 (v := .int (i 40 7)) rfl dX7_scanToken_147 ?_
          refine lv_aload_n (pc := 150) C0.1 C0.2.1 dX7_scanToken_150 rfl (lv_at hl 2 rfl) ?_
          refine xget (pc := 151) C0 hH 40 13 clX7 ⟨Nat.le_of_ble_eq_true rfl, Nat.le_of_ble_eq_true rfl⟩ ⟨rfl, rfl⟩ (Nat.le_of_ble_eq_true rfl) fl_X7_53 (v := .int (i 40 13)) rfl dX7_scanToken_151 ?_
          refine xzast (pc := 154) (N := 600) C0 (Nat.le_of_ble_eq_true rfl) hH hS 47 ⟨Nat.le_of_ble_eq_true rfl, Nat.le_of_ble_eq_true rfl⟩ ⟨rfl, rfl⟩ hfr (vI (by omega) (by omega)) dX7_scanToken_154 (fun _ locs hH hS => ?_)
          have hH : Hd D tA b 0 78 zz i (va_up (va_up (va_up (va_up (va_up (va_up (va_up F 41 (upd (F 41) (Int32.toNatClampNeg (i 40 7)) r2)) 42 (upd (F 42) (Int32.toNatClampNeg (i 40 7)) (i 40 10))) 43 (upd (F 43) (Int32.toNatClampNeg (i 40 7)) r3)) 44 (upd (F 44) (Int32.toNatClampNeg (i 40 7)) (i 40 11))) 45 (upd (F 45) (Int32.toNatClampNeg (i 40 7)) (i 40 12))) 46 (upd (F 46) (Int32.toNatClampNeg (i 40 7)) 0)) 47 (upd (F 47) (Int32.toNatClampNeg (i 40 7)) (i 40 13))) G _ := hH
          refine lv_aload_n (pc := 155) C0.1 C0.2.1 dX7_scanToken_155 rfl (lv_at hl 2 rfl) ?_
          refine lv_dup (pc := 156) C0.1 C0.2.1 dX7_scanToken_156 rfl ?_
          refine xget (pc := 157) C0 hH 40 7 clX7 ⟨Nat.le_of_ble_eq_true rfl, Nat.le_of_ble_eq_true rfl⟩ ⟨rfl, rfl⟩ (Nat.le_of_ble_eq_true rfl) fl_X7_34 (v := .int (i 40 7)) rfl dX7_scanToken_157 ?_
          refine lv_iconst (pc := 160) (v := 1) C0.1 C0.2.1 dX7_scanToken_160 (by decide) ?_
          have : Int32.toInt 1 = 1 := rfl
          refine lv_iadd (pc := 161) C0.1 C0.2.1 dX7_scanToken_161 ?_
          refine lv_topi (fun x13 ex13 => ?_)
          have hx13 : Int32.toInt x13 = Int32.toInt (i 40 7) + Int32.toInt 1 := by rw [ex13]; exact fb_addI (by omega) (by omega)
          refine xputI (pc := 162) C0 (Nat.le_of_ble_eq_true rfl) hH hS 40 7 clX7 ⟨Nat.le_of_ble_eq_true rfl, Nat.le_of_ble_eq_true rfl⟩ ⟨rfl, rfl⟩ ⟨Nat.le_of_ble_eq_true rfl, rfl, rfl⟩ fl_X7_34 (x := x13) ⟨rfl, rfl⟩ dX7_scanToken_162 (fun _ locs hH hS _ => ?_)
          have hH : Hd D tA b 0 78 zz (up2 i 40 7 x13) (va_up (va_up (va_up (va_up (va_up (va_up (va_up F 41 (upd (F 41) (Int32.toNatClampNeg (i 40 7)) r2)) 42 (upd (F 42) (Int32.toNatClampNeg (i 40 7)) (i 40 10))) 43 (upd (F 43) (Int32.toNatClampNeg (i 40 7)) r3)) 44 (upd (F 44) (Int32.toNatClampNeg (i 40 7)) (i 40 11))) 45 (upd (F 45) (Int32.toNatClampNeg (i 40 7)) (i 40 12))) 46 (upd (F 46) (Int32.toNatClampNeg (i 40 7)) 0)) 47 (upd (F 47) (Int32.toNatClampNeg (i 40 7)) (i 40 13))) G _ := hH
          refine lv_aload_n (pc := 165) C0.1 C0.2.1 dX7_scanToken_165 rfl (lv_at hl 2 rfl) ?_
          refine lv_iconst (pc := 166) (v := 0) C0.1 C0.2.1 dX7_scanToken_166 (by decide) ?_
          refine xputI (pc := 167) C0 (Nat.le_of_ble_eq_true rfl) hH hS 40 13 clX7 ⟨Nat.le_of_ble_eq_true rfl, Nat.le_of_ble_eq_true rfl⟩ ⟨rfl, rfl⟩ ⟨Nat.le_of_ble_eq_true rfl, rfl, rfl⟩ fl_X7_53 (x := 0) ⟨rfl, rfl⟩ dX7_scanToken_167 (fun _ locs hH hS _ => ?_)
          have hH : Hd D tA b 0 78 zz (up2 (up2 i 40 7 x13) 40 13 0) (va_up (va_up (va_up (va_up (va_up (va_up (va_up F 41 (upd (F 41) (Int32.toNatClampNeg (i 40 7)) r2)) 42 (upd (F 42) (Int32.toNatClampNeg (i 40 7)) (i 40 10))) 43 (upd (F 43) (Int32.toNatClampNeg (i 40 7)) r3)) 44 (upd (F 44) (Int32.toNatClampNeg (i 40 7)) (i 40 11))) 45 (upd (F 45) (Int32.toNatClampNeg (i 40 7)) (i 40 12))) 46 (upd (F 46) (Int32.toNatClampNeg (i 40 7)) 0)) 47 (upd (F 47) (Int32.toNatClampNeg (i 40 7)) (i 40 13))) G _ := hH
          refine lv_aload_n (pc := 170) C0.1 C0.2.1 dX7_scanToken_170 rfl (lv_at hl 2 rfl) ?_
          refine lv_aload_n (pc := 171) C0.1 C0.2.1 dX7_scanToken_171 rfl (lv_at hl 3 rfl) ?_
          refine lv_iload (pc := 172) C0.1 C0.2.1 dX7_scanToken_172 (lv_at hl 0 rfl) ?_
          refine lv_aload_n (pc := 174) C0.1 C0.2.1 dX7_scanToken_174 rfl (lv_at hl 4 rfl) ?_
          refine xget (pc := 175) C0 hH 1 7 clX1 ⟨Nat.le_of_ble_eq_true rfl, Nat.le_of_ble_eq_true rfl⟩ ⟨rfl, rfl⟩ (Nat.le_of_ble_eq_true rfl) fl_X7_66 (v := .int (i 1 7)) rfl dX7_scanToken_175 ?_
          refine xcVV (pc := 178) 40 [.ref (b + 6), .int r3, .int (i 1 7)] (g_X7_pass_40 l D tA b (up2 (up2 i 40 7 x13) 40 13 0) (va_up (va_up (va_up (va_up (va_up (va_up (va_up F 41 (upd (F 41) (Int32.toNatClampNeg (i 40 7)) r2)) 42 (upd (F 42) (Int32.toNatClampNeg (i 40 7)) (i 40 10))) 43 (upd (F 43) (Int32.toNatClampNeg (i 40 7)) r3)) 44 (upd (F 44) (Int32.toNatClampNeg (i 40 7)) (i 40 11))) 45 (upd (F 45) (Int32.toNatClampNeg (i 40 7)) (i 40 12))) 46 (upd (F 46) (Int32.toNatClampNeg (i 40 7)) 0)) 47 (upd (F 47) (Int32.toNatClampNeg (i 40 7)) (i 40 13))) G r3 (i 1 7) (show 0 ≤ Int32.toInt (i 6 1) ∧ Int32.toInt (i 6 1) ≤ 600 from by omega)) C0 hH hS clX7 rfl ⟨⟨Nat.le_of_ble_eq_true rfl, Nat.le_of_ble_eq_true rfl⟩, rfl, rfl⟩ cw_X7_77 rfl ⟨Nat.le_of_ble_eq_true rfl, Nat.le_of_ble_eq_true rfl⟩ hl.1 rfl (Nat.le_of_ble_eq_true rfl) dX7_scanToken_178 ⟨Nat.le_of_ble_eq_true rfl, Nat.le_of_ble_eq_true rfl⟩ (fun ir14 Fr14 Gr14 _ locs hp hH hS => ?_)
          obtain ⟨honr14, ht7r14, ht13r14⟩ := hp
          try dsimp only at ht7r14 ht13r14
          have ht7r14I : Int32.toInt (ir14 40 7) = Int32.toInt x13 := congrArg Int32.toInt ht7r14
          exact xvret (pc := 181) C0 hr hH hS dX7_scanToken_181 ⟨(On.tr (On.f (On.f (On.f (On.f (On.f (On.f (On.f (On.i (On.i On.rf (by decide)) (by decide)) (by decide)) (by decide)) (by decide)) (by decide)) (by decide)) (by decide)) (by decide)) honr14 (by decide) (by decide)), by show 0 ≤ Int32.toInt (ir14 40 7); omega, by show Int32.toInt (ir14 40 7) ≤ 600; omega, by show ir14 40 13 = 0 ∨ ir14 40 13 = 1; rw [ht13r14]; exact Or.inl rfl⟩
        · have : Int32.toInt 2 = 2 := rfl
          have c12 := congrArg Int32.toInt c12
          refine lv_aload_n (pc := 126) C0.1 C0.2.1 dX7_scanToken_126 rfl (lv_at hl 4 rfl) ?_
          refine lv_aload_n (pc := 127) C0.1 C0.2.1 dX7_scanToken_127 rfl (lv_at hl 2 rfl) ?_
          refine lv_aload_n (pc := 128) C0.1 C0.2.1 dX7_scanToken_128 rfl (lv_at hl 3 rfl) ?_
          refine lv_iload (pc := 129) C0.1 C0.2.1 dX7_scanToken_129 (lv_at hl 0 rfl) ?_
          refine xcVL (pc := 131) 40 [.ref (b + 6), .int r3] (g_X7_packed_40 l D tA b i (va_up (va_up (va_up (va_up (va_up F 41 (upd (F 41) (Int32.toNatClampNeg (i 40 7)) r2)) 42 (upd (F 42) (Int32.toNatClampNeg (i 40 7)) (i 40 10))) 43 (upd (F 43) (Int32.toNatClampNeg (i 40 7)) r3)) 44 (upd (F 44) (Int32.toNatClampNeg (i 40 7)) (i 40 11))) 45 (upd (F 45) (Int32.toNatClampNeg (i 40 7)) (i 40 12))) G r3 (show 0 ≤ Int32.toInt (i 6 1) ∧ Int32.toInt (i 6 1) ≤ 600 from by omega)) C0 hH hS clX7 rfl ⟨⟨Nat.le_of_ble_eq_true rfl, Nat.le_of_ble_eq_true rfl⟩, rfl, rfl⟩ cw_X7_95 rfl ⟨Nat.le_of_ble_eq_true rfl, Nat.le_of_ble_eq_true rfl⟩ hl.1 rfl (Nat.le_of_ble_eq_true rfl) dX7_scanToken_131 ⟨Nat.le_of_ble_eq_true rfl, Nat.le_of_ble_eq_true rfl⟩ (fun r15 ir15 Fr15 Gr15 _ locs hp hH hS => ?_)
          obtain ⟨hu, hpr15⟩ := hp
          cases hu
          refine xcVI (pc := 134) 1 [.long r15] (gw_X1_roleOf l D tA b i (va_up (va_up (va_up (va_up (va_up F 41 (upd (F 41) (Int32.toNatClampNeg (i 40 7)) r2)) 42 (upd (F 42) (Int32.toNatClampNeg (i 40 7)) (i 40 10))) 43 (upd (F 43) (Int32.toNatClampNeg (i 40 7)) r3)) 44 (upd (F 44) (Int32.toNatClampNeg (i 40 7)) (i 40 11))) 45 (upd (F 45) (Int32.toNatClampNeg (i 40 7)) (i 40 12))) G r15 (show 0 ≤ Int32.toInt (i 1 2) ∧ Int32.toInt (i 1 2) ≤ 24 from by omega)) C0 hH hS clX1 rfl ⟨⟨Nat.le_of_ble_eq_true rfl, Nat.le_of_ble_eq_true rfl⟩, rfl, rfl⟩ cw_X7_99 rfl ⟨Nat.le_of_ble_eq_true rfl, Nat.le_of_ble_eq_true rfl⟩ hl.1 rfl (Nat.le_of_ble_eq_true rfl) dX7_scanToken_134 ⟨Nat.le_of_ble_eq_true rfl, Nat.le_of_ble_eq_true rfl⟩ (fun r16 ir16 Fr16 Gr16 _ locs hp hH hS => ?_)
          obtain ⟨hu, hpr16⟩ := hp
          cases hu
          refine lv_goto (pc := 137) (tgt := 141) C0.1 C0.2.1 dX7_scanToken_137 (by decide) ?_
          refine xiast (pc := 141) (N := 600) C0 (Nat.le_of_ble_eq_true rfl) hH hS 46 ⟨Nat.le_of_ble_eq_true rfl, Nat.le_of_ble_eq_true rfl⟩ ⟨rfl, rfl⟩ (vI (by omega) (by omega)) dX7_scanToken_141 (fun _ locs hH hS _ => ?_)
          have hH : Hd D tA b 0 78 zz i (va_up (va_up (va_up (va_up (va_up (va_up F 41 (upd (F 41) (Int32.toNatClampNeg (i 40 7)) r2)) 42 (upd (F 42) (Int32.toNatClampNeg (i 40 7)) (i 40 10))) 43 (upd (F 43) (Int32.toNatClampNeg (i 40 7)) r3)) 44 (upd (F 44) (Int32.toNatClampNeg (i 40 7)) (i 40 11))) 45 (upd (F 45) (Int32.toNatClampNeg (i 40 7)) (i 40 12))) 46 (upd (F 46) (Int32.toNatClampNeg (i 40 7)) r16)) G _ := hH
          refine lv_aload_n (pc := 142) C0.1 C0.2.1 dX7_scanToken_142 rfl (lv_at hl 2 rfl) ?_
          refine xget (pc := 143) C0 hH 40 6 clX7 ⟨Nat.le_of_ble_eq_true rfl, Nat.le_of_ble_eq_true rfl⟩ ⟨rfl, rfl⟩ (Nat.le_of_ble_eq_true rfl) fl_X7_30 (v := .ref (b + 47)) rfl dX7_scanToken_143 ?_
          refine lv_aload_n (pc := 146) C0.1 C0.2.1 dX7_scanToken_146 rfl (lv_at hl 2 rfl) ?_
          refine xget (pc := 147) C0 hH 40 7 clX7 ⟨Nat.le_of_ble_eq_true rfl, Nat.le_of_ble_eq_true rfl⟩ ⟨rfl, rfl⟩ (Nat.le_of_ble_eq_true rfl) fl_X7_34 (v := .int (i 40 7)) rfl dX7_scanToken_147 ?_
          refine lv_aload_n (pc := 150) C0.1 C0.2.1 dX7_scanToken_150 rfl (lv_at hl 2 rfl) ?_
          refine xget (pc := 151) C0 hH 40 13 clX7 ⟨Nat.le_of_ble_eq_true rfl, Nat.le_of_ble_eq_true rfl⟩ ⟨rfl, rfl⟩ (Nat.le_of_ble_eq_true rfl) fl_X7_53 (v := .int (i 40 13)) rfl dX7_scanToken_151 ?_
          refine xzast (pc := 154) (N := 600) C0 (Nat.le_of_ble_eq_true rfl) hH hS 47 ⟨Nat.le_of_ble_eq_true rfl, Nat.le_of_ble_eq_true rfl⟩ ⟨rfl, rfl⟩ hfr (vI (by omega) (by omega)) dX7_scanToken_154 (fun _ locs hH hS => ?_)
          have hH : Hd D tA b 0 78 zz i (va_up (va_up (va_up (va_up (va_up (va_up (va_up F 41 (upd (F 41) (Int32.toNatClampNeg (i 40 7)) r2)) 42 (upd (F 42) (Int32.toNatClampNeg (i 40 7)) (i 40 10))) 43 (upd (F 43) (Int32.toNatClampNeg (i 40 7)) r3)) 44 (upd (F 44) (Int32.toNatClampNeg (i 40 7)) (i 40 11))) 45 (upd (F 45) (Int32.toNatClampNeg (i 40 7)) (i 40 12))) 46 (upd (F 46) (Int32.toNatClampNeg (i 40 7)) r16)) 47 (upd (F 47) (Int32.toNatClampNeg (i 40 7)) (i 40 13))) G _ := hH
          refine lv_aload_n (pc := 155) C0.1 C0.2.1 dX7_scanToken_155 rfl (lv_at hl 2 rfl) ?_
          refine lv_dup (pc := 156) C0.1 C0.2.1 dX7_scanToken_156 rfl ?_
          refine xget (pc := 157) C0 hH 40 7 clX7 ⟨Nat.le_of_ble_eq_true rfl, Nat.le_of_ble_eq_true rfl⟩ ⟨rfl, rfl⟩ (Nat.le_of_ble_eq_true rfl) fl_X7_34 (v := .int (i 40 7)) rfl dX7_scanToken_157 ?_
          refine lv_iconst (pc := 160) (v := 1) C0.1 C0.2.1 dX7_scanToken_160 (by decide) ?_
          have : Int32.toInt 1 = 1 := rfl
          refine lv_iadd (pc := 161) C0.1 C0.2.1 dX7_scanToken_161 ?_
          refine lv_topi (fun x17 ex17 => ?_)
          have hx17 : Int32.toInt x17 = Int32.toInt (i 40 7) + Int32.toInt 1 := by rw [ex17]; exact fb_addI (by omega) (by omega)
          refine xputI (pc := 162) C0 (Nat.le_of_ble_eq_true rfl) hH hS 40 7 clX7 ⟨Nat.le_of_ble_eq_true rfl, Nat.le_of_ble_eq_true rfl⟩ ⟨rfl, rfl⟩ ⟨Nat.le_of_ble_eq_true rfl, rfl, rfl⟩ fl_X7_34 (x := x17) ⟨rfl, rfl⟩ dX7_scanToken_162 (fun _ locs hH hS _ => ?_)
          have hH : Hd D tA b 0 78 zz (up2 i 40 7 x17) (va_up (va_up (va_up (va_up (va_up (va_up (va_up F 41 (upd (F 41) (Int32.toNatClampNeg (i 40 7)) r2)) 42 (upd (F 42) (Int32.toNatClampNeg (i 40 7)) (i 40 10))) 43 (upd (F 43) (Int32.toNatClampNeg (i 40 7)) r3)) 44 (upd (F 44) (Int32.toNatClampNeg (i 40 7)) (i 40 11))) 45 (upd (F 45) (Int32.toNatClampNeg (i 40 7)) (i 40 12))) 46 (upd (F 46) (Int32.toNatClampNeg (i 40 7)) r16)) 47 (upd (F 47) (Int32.toNatClampNeg (i 40 7)) (i 40 13))) G _ := hH
          refine lv_aload_n (pc := 165) C0.1 C0.2.1 dX7_scanToken_165 rfl (lv_at hl 2 rfl) ?_
          refine lv_iconst (pc := 166) (v := 0) C0.1 C0.2.1 dX7_scanToken_166 (by decide) ?_
          refine xputI (pc := 167) C0 (Nat.le_of_ble_eq_true rfl) hH hS 40 13 clX7 ⟨Nat.le_of_ble_eq_true rfl, Nat.le_of_ble_eq_true rfl⟩ ⟨rfl, rfl⟩ ⟨Nat.le_of_ble_eq_true rfl, rfl, rfl⟩ fl_X7_53 (x := 0) ⟨rfl, rfl⟩ dX7_scanToken_167 (fun _ locs hH hS _ => ?_)
          have hH : Hd D tA b 0 78 zz (up2 (up2 i 40 7 x17) 40 13 0) (va_up (va_up (va_up (va_up (va_up (va_up (va_up F 41 (upd (F 41) (Int32.toNatClampNeg (i 40 7)) r2)) 42 (upd (F 42) (Int32.toNatClampNeg (i 40 7)) (i 40 10))) 43 (upd (F 43) (Int32.toNatClampNeg (i 40 7)) r3)) 44 (upd (F 44) (Int32.toNatClampNeg (i 40 7)) (i 40 11))) 45 (upd (F 45) (Int32.toNatClampNeg (i 40 7)) (i 40 12))) 46 (upd (F 46) (Int32.toNatClampNeg (i 40 7)) r16)) 47 (upd (F 47) (Int32.toNatClampNeg (i 40 7)) (i 40 13))) G _ := hH
          refine lv_aload_n (pc := 170) C0.1 C0.2.1 dX7_scanToken_170 rfl (lv_at hl 2 rfl) ?_
          refine lv_aload_n (pc := 171) C0.1 C0.2.1 dX7_scanToken_171 rfl (lv_at hl 3 rfl) ?_
          refine lv_iload (pc := 172) C0.1 C0.2.1 dX7_scanToken_172 (lv_at hl 0 rfl) ?_
          refine lv_aload_n (pc := 174) C0.1 C0.2.1 dX7_scanToken_174 rfl (lv_at hl 4 rfl) ?_
          refine xget (pc := 175) C0 hH 1 7 clX1 ⟨Nat.le_of_ble_eq_true rfl, Nat.le_of_ble_eq_true rfl⟩ ⟨rfl, rfl⟩ (Nat.le_of_ble_eq_true rfl) fl_X7_66 (v := .int (i 1 7)) rfl dX7_scanToken_175 ?_
          refine xcVV (pc := 178) 40 [.ref (b + 6), .int r3, .int (i 1 7)] (g_X7_pass_40 l D tA b (up2 (up2 i 40 7 x17) 40 13 0) (va_up (va_up (va_up (va_up (va_up (va_up (va_up F 41 (upd (F 41) (Int32.toNatClampNeg (i 40 7)) r2)) 42 (upd (F 42) (Int32.toNatClampNeg (i 40 7)) (i 40 10))) 43 (upd (F 43) (Int32.toNatClampNeg (i 40 7)) r3)) 44 (upd (F 44) (Int32.toNatClampNeg (i 40 7)) (i 40 11))) 45 (upd (F 45) (Int32.toNatClampNeg (i 40 7)) (i 40 12))) 46 (upd (F 46) (Int32.toNatClampNeg (i 40 7)) r16)) 47 (upd (F 47) (Int32.toNatClampNeg (i 40 7)) (i 40 13))) G r3 (i 1 7) (show 0 ≤ Int32.toInt (i 6 1) ∧ Int32.toInt (i 6 1) ≤ 600 from by omega)) C0 hH hS clX7 rfl ⟨⟨Nat.le_of_ble_eq_true rfl, Nat.le_of_ble_eq_true rfl⟩, rfl, rfl⟩ cw_X7_77 rfl ⟨Nat.le_of_ble_eq_true rfl, Nat.le_of_ble_eq_true rfl⟩ hl.1 rfl (Nat.le_of_ble_eq_true rfl) dX7_scanToken_178 ⟨Nat.le_of_ble_eq_true rfl, Nat.le_of_ble_eq_true rfl⟩ (fun ir18 Fr18 Gr18 _ locs hp hH hS => ?_)
          obtain ⟨honr18, ht7r18, ht13r18⟩ := hp
          try dsimp only at ht7r18 ht13r18
          have ht7r18I : Int32.toInt (ir18 40 7) = Int32.toInt x17 := congrArg Int32.toInt ht7r18
          exact xvret (pc := 181) C0 hr hH hS dX7_scanToken_181 ⟨(On.tr (On.f (On.f (On.f (On.f (On.f (On.f (On.f (On.i (On.i On.rf (by decide)) (by decide)) (by decide)) (by decide)) (by decide)) (by decide)) (by decide)) (by decide)) (by decide)) honr18 (by decide) (by decide)), by show 0 ≤ Int32.toInt (ir18 40 7); omega, by show Int32.toInt (ir18 40 7) ≤ 600; omega, by show ir18 40 13 = 0 ∨ ir18 40 13 = 1; rw [ht13r18]; exact Or.inl rfl⟩
    · have : Int32.toInt 600 = 600 := rfl
      have c6 : ¬ _ := fun q => c6 (Int32.lt_iff_toInt_lt.mpr q)
      refine lv_aload_n (pc := 35) C0.1 C0.2.1 dX7_scanToken_35 rfl (lv_at hl 2 rfl) ?_
      refine lv_iconst (pc := 36) (v := 1) C0.1 C0.2.1 dX7_scanToken_36 (by decide) ?_
      refine xputI (pc := 37) C0 (Nat.le_of_ble_eq_true rfl) hH hS 40 8 clX7 ⟨Nat.le_of_ble_eq_true rfl, Nat.le_of_ble_eq_true rfl⟩ ⟨rfl, rfl⟩ ⟨Nat.le_of_ble_eq_true rfl, rfl, rfl⟩ fl_X7_38 (x := 1) ⟨rfl, rfl⟩ dX7_scanToken_37 (fun _ locs hH hS _ => ?_)
      have hH : Hd D tA b 0 78 zz (up2 i 40 8 1) F G _ := hH
      refine lv_aload_n (pc := 40) C0.1 C0.2.1 dX7_scanToken_40 rfl (lv_at hl 2 rfl) ?_
      refine lv_aload_n (pc := 41) C0.1 C0.2.1 dX7_scanToken_41 rfl (lv_at hl 2 rfl) ?_
      refine xget (pc := 42) C0 hH 40 10 clX7 ⟨Nat.le_of_ble_eq_true rfl, Nat.le_of_ble_eq_true rfl⟩ ⟨rfl, rfl⟩ (Nat.le_of_ble_eq_true rfl) fl_X7_44 (v := .int (i 40 10)) rfl dX7_scanToken_42 ?_
      refine lv_topi (fun x19 ex19 => ?_)
      refine xputI (pc := 45) C0 (Nat.le_of_ble_eq_true rfl) hH hS 40 9 clX7 ⟨Nat.le_of_ble_eq_true rfl, Nat.le_of_ble_eq_true rfl⟩ ⟨rfl, rfl⟩ ⟨Nat.le_of_ble_eq_true rfl, rfl, rfl⟩ fl_X7_41 (x := x19) ⟨rfl, rfl⟩ dX7_scanToken_45 (fun _ locs hH hS _ => ?_)
      have hH : Hd D tA b 0 78 zz (up2 (up2 i 40 8 1) 40 9 x19) F G _ := hH
      exact xvret (pc := 48) C0 hr hH hS dX7_scanToken_48 ⟨(On.i (On.i On.rf (by decide)) (by decide)), htk.1, htk.2, hfr⟩
set_option maxHeartbeats 4000000 in
set_option maxRecDepth 100000 in
theorem g_X7_scanNext_40 (l : Launch) (D : va_G) (tA : Nat → ClassId) (b : Nat) (i F : Nat → Nat → Int32) (G : Nat → Nat → Int64)  (hsz : 0 ≤ (i 6 1).toInt ∧ (i 6 1).toInt ≤ 600) (htk : 0 ≤ (i 40 7).toInt ∧ (i 40 7).toInt ≤ 600) (hfr : (i 40 13 = 0 ∨ i 40 13 = 1)) (htd : 0 ≤ (i 1 2).toInt ∧ (i 1 2).toInt ≤ 24) : xMV l yX7_scanNext cX7_scanNext 4 none 7 156 D tA b 0 78 i F G [.ref (b + 40), .ref (b + 6), .ref (b + 1)] (fun u => On 40 48 i F G u ∧ 0 ≤ (u.1 40 7).toInt ∧ (u.1 40 7).toInt ≤ 600 ∧ (u.1 40 13 = 0 ∨ u.1 40 13 = 1)) := by
  refine xstart RX7 rfl (by decide) (Nat.le_of_ble_eq_true rfl) ?_
  intro p e s m below meth c ls C0 hr hH hS hl
  have hl : lv_has ls 4 [(0, .ref (b + 40)), (1, .ref (b + 6)), (2, .ref (b + 1))] := hl
  refine lv_aload_n (pc := 0) C0.1 C0.2.1 dX7_scanNext_0 rfl (lv_at hl 1 rfl) ?_
  refine lv_aload_n (pc := 1) C0.1 C0.2.1 dX7_scanNext_1 rfl (lv_at hl 0 rfl) ?_
  refine xget (pc := 2) C0 hH 40 10 clX7 ⟨Nat.le_of_ble_eq_true rfl, Nat.le_of_ble_eq_true rfl⟩ ⟨rfl, rfl⟩ (Nat.le_of_ble_eq_true rfl) fl_X7_44 (v := .int (i 40 10)) rfl dX7_scanNext_2 ?_
  refine xcVI (pc := 5) 6 [.int (i 40 10)] (g_X6_at_6 l D tA b i F G (i 40 10) (show 0 ≤ Int32.toInt (i 6 1) ∧ Int32.toInt (i 6 1) ≤ 600 from by omega)) C0 hH hS clX6 rfl ⟨⟨Nat.le_of_ble_eq_true rfl, Nat.le_of_ble_eq_true rfl⟩, rfl, rfl⟩ cw_X7_75 rfl ⟨Nat.le_of_ble_eq_true rfl, Nat.le_of_ble_eq_true rfl⟩ hl.1 rfl (Nat.le_of_ble_eq_true rfl) dX7_scanNext_5 ⟨Nat.le_of_ble_eq_true rfl, Nat.le_of_ble_eq_true rfl⟩ (fun r1 ir1 Fr1 Gr1 _ locs hp hH hS => ?_)
  obtain ⟨hu, hpr1⟩ := hp
  cases hu
  refine lv_istore_n (pc := 8) (lv' := [(3, .int r1), (0, .ref (b + 40)), (1, .ref (b + 6)), (2, .ref (b + 1))]) C0.1 C0.2.1 dX7_scanNext_8 rfl hl (by decide) rfl (fun ls hl => ?_)
  refine lv_iload_n (pc := 9) C0.1 C0.2.1 dX7_scanNext_9 rfl (lv_at hl 0 rfl) ?_
  refine lv_bipush (pc := 10) (v := 32) C0.1 C0.2.1 dX7_scanNext_10 (by decide) ?_
  refine lv_icmp_eq (pc := 12) (tgt := 27) C0.1 C0.2.1 dX7_scanNext_12 (by decide) (fun c2 => ?_) (fun c2 => ?_)
  · have : Int32.toInt 32 = 32 := rfl
    have c2 := congrArg Int32.toInt c2
    refine lv_aload_n (pc := 27) C0.1 C0.2.1 dX7_scanNext_27 rfl (lv_at hl 1 rfl) ?_
    refine lv_aload_n (pc := 28) C0.1 C0.2.1 dX7_scanNext_28 rfl (lv_at hl 1 rfl) ?_
    refine xget (pc := 29) C0 hH 40 13 clX7 ⟨Nat.le_of_ble_eq_true rfl, Nat.le_of_ble_eq_true rfl⟩ ⟨rfl, rfl⟩ (Nat.le_of_ble_eq_true rfl) fl_X7_53 (v := .int (i 40 13)) rfl dX7_scanNext_29 ?_
    refine lv_if_ne (pc := 32) (tgt := 41) C0.1 C0.2.1 dX7_scanNext_32 (by decide) (fun c3 => ?_) (fun c3 => ?_)
    · have : Int32.toInt 0 = 0 := rfl
      have c3 : ¬ _ := fun q => c3 (Int32.toInt_inj.mp q)
      refine lv_iconst (pc := 41) (v := 1) C0.1 C0.2.1 dX7_scanNext_41 (by decide) ?_
      refine lv_goto (pc := 42) (tgt := 46) C0.1 C0.2.1 dX7_scanNext_42 (by decide) ?_
      refine xputI (pc := 46) C0 (Nat.le_of_ble_eq_true rfl) hH hS 40 13 clX7 ⟨Nat.le_of_ble_eq_true rfl, Nat.le_of_ble_eq_true rfl⟩ ⟨rfl, rfl⟩ ⟨Nat.le_of_ble_eq_true rfl, rfl, rfl⟩ fl_X7_53 (x := 1) ⟨rfl, rfl⟩ dX7_scanNext_46 (fun _ locs hH hS _ => ?_)
      have hH : Hd D tA b 0 78 zz (up2 i 40 13 1) F G _ := hH
      refine lv_aload_n (pc := 49) C0.1 C0.2.1 dX7_scanNext_49 rfl (lv_at hl 1 rfl) ?_
      refine lv_aload_n (pc := 50) C0.1 C0.2.1 dX7_scanNext_50 rfl (lv_at hl 2 rfl) ?_
      refine lv_iconst (pc := 51) (v := 1) C0.1 C0.2.1 dX7_scanNext_51 (by decide) ?_
      refine lv_aload_n (pc := 52) C0.1 C0.2.1 dX7_scanNext_52 rfl (lv_at hl 3 rfl) ?_
      refine xget (pc := 53) C0 hH 1 7 clX1 ⟨Nat.le_of_ble_eq_true rfl, Nat.le_of_ble_eq_true rfl⟩ ⟨rfl, rfl⟩ (Nat.le_of_ble_eq_true rfl) fl_X7_66 (v := .int (i 1 7)) rfl dX7_scanNext_53 ?_
      refine xcVV (pc := 56) 40 [.ref (b + 6), .int 1, .int (i 1 7)] (g_X7_pass_40 l D tA b (up2 i 40 13 1) F G 1 (i 1 7) (show 0 ≤ Int32.toInt (i 6 1) ∧ Int32.toInt (i 6 1) ≤ 600 from by omega)) C0 hH hS clX7 rfl ⟨⟨Nat.le_of_ble_eq_true rfl, Nat.le_of_ble_eq_true rfl⟩, rfl, rfl⟩ cw_X7_77 rfl ⟨Nat.le_of_ble_eq_true rfl, Nat.le_of_ble_eq_true rfl⟩ hl.1 rfl (Nat.le_of_ble_eq_true rfl) dX7_scanNext_56 ⟨Nat.le_of_ble_eq_true rfl, Nat.le_of_ble_eq_true rfl⟩ (fun ir4 Fr4 Gr4 _ locs hp hH hS => ?_)
      obtain ⟨honr4, ht7r4, ht13r4⟩ := hp
      try dsimp only at ht7r4 ht13r4
      have ht7r4I : Int32.toInt (ir4 40 7) = Int32.toInt (i 40 7) := congrArg Int32.toInt ht7r4
      refine lv_goto (pc := 59) (tgt := 91) C0.1 C0.2.1 dX7_scanNext_59 (by decide) ?_
      exact xvret (pc := 91) C0 hr hH hS dX7_scanNext_91 ⟨(On.tr (On.i On.rf (by decide)) honr4 (by decide) (by decide)), by show 0 ≤ Int32.toInt (ir4 40 7); omega, by show Int32.toInt (ir4 40 7) ≤ 600; omega, by show ir4 40 13 = 0 ∨ ir4 40 13 = 1; rw [ht13r4]; first | exact hfr | exact Or.inr rfl | exact Or.inl rfl⟩
    · have : Int32.toInt 0 = 0 := rfl
      have c3 := congrArg Int32.toInt c3
      refine lv_iload_n (pc := 35) C0.1 C0.2.1 dX7_scanNext_35 rfl (lv_at hl 0 rfl) ?_
      refine lv_bipush (pc := 36) (v := 10) C0.1 C0.2.1 dX7_scanNext_36 (by decide) ?_
      refine lv_icmp_ne (pc := 38) (tgt := 45) C0.1 C0.2.1 dX7_scanNext_38 (by decide) (fun c5 => ?_) (fun c5 => ?_)
      · have : Int32.toInt 10 = 10 := rfl
        have c5 : ¬ _ := fun q => c5 (Int32.toInt_inj.mp q)
        refine lv_iconst (pc := 45) (v := 0) C0.1 C0.2.1 dX7_scanNext_45 (by decide) ?_
        refine xputI (pc := 46) C0 (Nat.le_of_ble_eq_true rfl) hH hS 40 13 clX7 ⟨Nat.le_of_ble_eq_true rfl, Nat.le_of_ble_eq_true rfl⟩ ⟨rfl, rfl⟩ ⟨Nat.le_of_ble_eq_true rfl, rfl, rfl⟩ fl_X7_53 (x := 0) ⟨rfl, rfl⟩ dX7_scanNext_46 (fun _ locs hH hS _ => ?_)
        have hH : Hd D tA b 0 78 zz (up2 i 40 13 0) F G _ := hH
        refine lv_aload_n (pc := 49) C0.1 C0.2.1 dX7_scanNext_49 rfl (lv_at hl 1 rfl) ?_
        refine lv_aload_n (pc := 50) C0.1 C0.2.1 dX7_scanNext_50 rfl (lv_at hl 2 rfl) ?_
        refine lv_iconst (pc := 51) (v := 1) C0.1 C0.2.1 dX7_scanNext_51 (by decide) ?_
        refine lv_aload_n (pc := 52) C0.1 C0.2.1 dX7_scanNext_52 rfl (lv_at hl 3 rfl) ?_
        refine xget (pc := 53) C0 hH 1 7 clX1 ⟨Nat.le_of_ble_eq_true rfl, Nat.le_of_ble_eq_true rfl⟩ ⟨rfl, rfl⟩ (Nat.le_of_ble_eq_true rfl) fl_X7_66 (v := .int (i 1 7)) rfl dX7_scanNext_53 ?_
        refine xcVV (pc := 56) 40 [.ref (b + 6), .int 1, .int (i 1 7)] (g_X7_pass_40 l D tA b (up2 i 40 13 0) F G 1 (i 1 7) (show 0 ≤ Int32.toInt (i 6 1) ∧ Int32.toInt (i 6 1) ≤ 600 from by omega)) C0 hH hS clX7 rfl ⟨⟨Nat.le_of_ble_eq_true rfl, Nat.le_of_ble_eq_true rfl⟩, rfl, rfl⟩ cw_X7_77 rfl ⟨Nat.le_of_ble_eq_true rfl, Nat.le_of_ble_eq_true rfl⟩ hl.1 rfl (Nat.le_of_ble_eq_true rfl) dX7_scanNext_56 ⟨Nat.le_of_ble_eq_true rfl, Nat.le_of_ble_eq_true rfl⟩ (fun ir6 Fr6 Gr6 _ locs hp hH hS => ?_)
        obtain ⟨honr6, ht7r6, ht13r6⟩ := hp
        try dsimp only at ht7r6 ht13r6
        have ht7r6I : Int32.toInt (ir6 40 7) = Int32.toInt (i 40 7) := congrArg Int32.toInt ht7r6
        refine lv_goto (pc := 59) (tgt := 91) C0.1 C0.2.1 dX7_scanNext_59 (by decide) ?_
        exact xvret (pc := 91) C0 hr hH hS dX7_scanNext_91 ⟨(On.tr (On.i On.rf (by decide)) honr6 (by decide) (by decide)), by show 0 ≤ Int32.toInt (ir6 40 7); omega, by show Int32.toInt (ir6 40 7) ≤ 600; omega, by show ir6 40 13 = 0 ∨ ir6 40 13 = 1; rw [ht13r6]; first | exact hfr | exact Or.inr rfl | exact Or.inl rfl⟩
      · have : Int32.toInt 10 = 10 := rfl
        have c5 := congrArg Int32.toInt c5
        refine lv_iconst (pc := 41) (v := 1) C0.1 C0.2.1 dX7_scanNext_41 (by decide) ?_
        refine lv_goto (pc := 42) (tgt := 46) C0.1 C0.2.1 dX7_scanNext_42 (by decide) ?_
        refine xputI (pc := 46) C0 (Nat.le_of_ble_eq_true rfl) hH hS 40 13 clX7 ⟨Nat.le_of_ble_eq_true rfl, Nat.le_of_ble_eq_true rfl⟩ ⟨rfl, rfl⟩ ⟨Nat.le_of_ble_eq_true rfl, rfl, rfl⟩ fl_X7_53 (x := 1) ⟨rfl, rfl⟩ dX7_scanNext_46 (fun _ locs hH hS _ => ?_)
        have hH : Hd D tA b 0 78 zz (up2 i 40 13 1) F G _ := hH
        refine lv_aload_n (pc := 49) C0.1 C0.2.1 dX7_scanNext_49 rfl (lv_at hl 1 rfl) ?_
        refine lv_aload_n (pc := 50) C0.1 C0.2.1 dX7_scanNext_50 rfl (lv_at hl 2 rfl) ?_
        refine lv_iconst (pc := 51) (v := 1) C0.1 C0.2.1 dX7_scanNext_51 (by decide) ?_
        refine lv_aload_n (pc := 52) C0.1 C0.2.1 dX7_scanNext_52 rfl (lv_at hl 3 rfl) ?_
        refine xget (pc := 53) C0 hH 1 7 clX1 ⟨Nat.le_of_ble_eq_true rfl, Nat.le_of_ble_eq_true rfl⟩ ⟨rfl, rfl⟩ (Nat.le_of_ble_eq_true rfl) fl_X7_66 (v := .int (i 1 7)) rfl dX7_scanNext_53 ?_
        refine xcVV (pc := 56) 40 [.ref (b + 6), .int 1, .int (i 1 7)] (g_X7_pass_40 l D tA b (up2 i 40 13 1) F G 1 (i 1 7) (show 0 ≤ Int32.toInt (i 6 1) ∧ Int32.toInt (i 6 1) ≤ 600 from by omega)) C0 hH hS clX7 rfl ⟨⟨Nat.le_of_ble_eq_true rfl, Nat.le_of_ble_eq_true rfl⟩, rfl, rfl⟩ cw_X7_77 rfl ⟨Nat.le_of_ble_eq_true rfl, Nat.le_of_ble_eq_true rfl⟩ hl.1 rfl (Nat.le_of_ble_eq_true rfl) dX7_scanNext_56 ⟨Nat.le_of_ble_eq_true rfl, Nat.le_of_ble_eq_true rfl⟩ (fun ir7 Fr7 Gr7 _ locs hp hH hS => ?_)
        obtain ⟨honr7, ht7r7, ht13r7⟩ := hp
        try dsimp only at ht7r7 ht13r7
        have ht7r7I : Int32.toInt (ir7 40 7) = Int32.toInt (i 40 7) := congrArg Int32.toInt ht7r7
        refine lv_goto (pc := 59) (tgt := 91) C0.1 C0.2.1 dX7_scanNext_59 (by decide) ?_
        exact xvret (pc := 91) C0 hr hH hS dX7_scanNext_91 ⟨(On.tr (On.i On.rf (by decide)) honr7 (by decide) (by decide)), by show 0 ≤ Int32.toInt (ir7 40 7); omega, by show Int32.toInt (ir7 40 7) ≤ 600; omega, by show ir7 40 13 = 0 ∨ ir7 40 13 = 1; rw [ht13r7]; first | exact hfr | exact Or.inr rfl | exact Or.inl rfl⟩
  · have : Int32.toInt 32 = 32 := rfl
    have c2 : ¬ _ := fun q => c2 (Int32.toInt_inj.mp q)
    refine lv_iload_n (pc := 15) C0.1 C0.2.1 dX7_scanNext_15 rfl (lv_at hl 0 rfl) ?_
    refine lv_bipush (pc := 16) (v := 9) C0.1 C0.2.1 dX7_scanNext_16 (by decide) ?_
    refine lv_icmp_eq (pc := 18) (tgt := 27) C0.1 C0.2.1 dX7_scanNext_18 (by decide) (fun c8 => ?_) (fun c8 => ?_)
    · have : Int32.toInt 9 = 9 := rfl
      have c8 := congrArg Int32.toInt c8
      refine lv_aload_n (pc := 27) C0.1 C0.2.1 dX7_scanNext_27 rfl (lv_at hl 1 rfl) ?_
      refine lv_aload_n (pc := 28) C0.1 C0.2.1 dX7_scanNext_28 rfl (lv_at hl 1 rfl) ?_
      refine xget (pc := 29) C0 hH 40 13 clX7 ⟨Nat.le_of_ble_eq_true rfl, Nat.le_of_ble_eq_true rfl⟩ ⟨rfl, rfl⟩ (Nat.le_of_ble_eq_true rfl) fl_X7_53 (v := .int (i 40 13)) rfl dX7_scanNext_29 ?_
      refine lv_if_ne (pc := 32) (tgt := 41) C0.1 C0.2.1 dX7_scanNext_32 (by decide) (fun c9 => ?_) (fun c9 => ?_)
      · have : Int32.toInt 0 = 0 := rfl
        have c9 : ¬ _ := fun q => c9 (Int32.toInt_inj.mp q)
        refine lv_iconst (pc := 41) (v := 1) C0.1 C0.2.1 dX7_scanNext_41 (by decide) ?_
        refine lv_goto (pc := 42) (tgt := 46) C0.1 C0.2.1 dX7_scanNext_42 (by decide) ?_
        refine xputI (pc := 46) C0 (Nat.le_of_ble_eq_true rfl) hH hS 40 13 clX7 ⟨Nat.le_of_ble_eq_true rfl, Nat.le_of_ble_eq_true rfl⟩ ⟨rfl, rfl⟩ ⟨Nat.le_of_ble_eq_true rfl, rfl, rfl⟩ fl_X7_53 (x := 1) ⟨rfl, rfl⟩ dX7_scanNext_46 (fun _ locs hH hS _ => ?_)
        have hH : Hd D tA b 0 78 zz (up2 i 40 13 1) F G _ := hH
        refine lv_aload_n (pc := 49) C0.1 C0.2.1 dX7_scanNext_49 rfl (lv_at hl 1 rfl) ?_
        refine lv_aload_n (pc := 50) C0.1 C0.2.1 dX7_scanNext_50 rfl (lv_at hl 2 rfl) ?_
        refine lv_iconst (pc := 51) (v := 1) C0.1 C0.2.1 dX7_scanNext_51 (by decide) ?_
        refine lv_aload_n (pc := 52) C0.1 C0.2.1 dX7_scanNext_52 rfl (lv_at hl 3 rfl) ?_
        refine xget (pc := 53) C0 hH 1 7 clX1 ⟨Nat.le_of_ble_eq_true rfl, Nat.le_of_ble_eq_true rfl⟩ ⟨rfl, rfl⟩ (Nat.le_of_ble_eq_true rfl) fl_X7_66 (v := .int (i 1 7)) rfl dX7_scanNext_53 ?_
        refine xcVV (pc := 56) 40 [.ref (b + 6), .int 1, .int (i 1 7)] (g_X7_pass_40 l D tA b (up2 i 40 13 1) F G 1 (i 1 7) (show 0 ≤ Int32.toInt (i 6 1) ∧ Int32.toInt (i 6 1) ≤ 600 from by omega)) C0 hH hS clX7 rfl ⟨⟨Nat.le_of_ble_eq_true rfl, Nat.le_of_ble_eq_true rfl⟩, rfl, rfl⟩ cw_X7_77 rfl ⟨Nat.le_of_ble_eq_true rfl, Nat.le_of_ble_eq_true rfl⟩ hl.1 rfl (Nat.le_of_ble_eq_true rfl) dX7_scanNext_56 ⟨Nat.le_of_ble_eq_true rfl, Nat.le_of_ble_eq_true rfl⟩ (fun ir10 Fr10 Gr10 _ locs hp hH hS => ?_)
        obtain ⟨honr10, ht7r10, ht13r10⟩ := hp
        try dsimp only at ht7r10 ht13r10
        have ht7r10I : Int32.toInt (ir10 40 7) = Int32.toInt (i 40 7) := congrArg Int32.toInt ht7r10
        refine lv_goto (pc := 59) (tgt := 91) C0.1 C0.2.1 dX7_scanNext_59 (by decide) ?_
        exact xvret (pc := 91) C0 hr hH hS dX7_scanNext_91 ⟨(On.tr (On.i On.rf (by decide)) honr10 (by decide) (by decide)), by show 0 ≤ Int32.toInt (ir10 40 7); omega, by show Int32.toInt (ir10 40 7) ≤ 600; omega, by show ir10 40 13 = 0 ∨ ir10 40 13 = 1; rw [ht13r10]; first | exact hfr | exact Or.inr rfl | exact Or.inl rfl⟩
      · have : Int32.toInt 0 = 0 := rfl
        have c9 := congrArg Int32.toInt c9
        refine lv_iload_n (pc := 35) C0.1 C0.2.1 dX7_scanNext_35 rfl (lv_at hl 0 rfl) ?_
        refine lv_bipush (pc := 36) (v := 10) C0.1 C0.2.1 dX7_scanNext_36 (by decide) ?_
        refine lv_icmp_ne (pc := 38) (tgt := 45) C0.1 C0.2.1 dX7_scanNext_38 (by decide) (fun c11 => ?_) (fun c11 => ?_)
        · have : Int32.toInt 10 = 10 := rfl
          have c11 : ¬ _ := fun q => c11 (Int32.toInt_inj.mp q)
          refine lv_iconst (pc := 45) (v := 0) C0.1 C0.2.1 dX7_scanNext_45 (by decide) ?_
          refine xputI (pc := 46) C0 (Nat.le_of_ble_eq_true rfl) hH hS 40 13 clX7 ⟨Nat.le_of_ble_eq_true rfl, Nat.le_of_ble_eq_true rfl⟩ ⟨rfl, rfl⟩ ⟨Nat.le_of_ble_eq_true rfl, rfl, rfl⟩ fl_X7_53 (x := 0) ⟨rfl, rfl⟩ dX7_scanNext_46 (fun _ locs hH hS _ => ?_)
          have hH : Hd D tA b 0 78 zz (up2 i 40 13 0) F G _ := hH
          refine lv_aload_n (pc := 49) C0.1 C0.2.1 dX7_scanNext_49 rfl (lv_at hl 1 rfl) ?_
          refine lv_aload_n (pc := 50) C0.1 C0.2.1 dX7_scanNext_50 rfl (lv_at hl 2 rfl) ?_
          refine lv_iconst (pc := 51) (v := 1) C0.1 C0.2.1 dX7_scanNext_51 (by decide) ?_
          refine lv_aload_n (pc := 52) C0.1 C0.2.1 dX7_scanNext_52 rfl (lv_at hl 3 rfl) ?_
          refine xget (pc := 53) C0 hH 1 7 clX1 ⟨Nat.le_of_ble_eq_true rfl, Nat.le_of_ble_eq_true rfl⟩ ⟨rfl, rfl⟩ (Nat.le_of_ble_eq_true rfl) fl_X7_66 (v := .int (i 1 7)) rfl dX7_scanNext_53 ?_
          refine xcVV (pc := 56) 40 [.ref (b + 6), .int 1, .int (i 1 7)] (g_X7_pass_40 l D tA b (up2 i 40 13 0) F G 1 (i 1 7) (show 0 ≤ Int32.toInt (i 6 1) ∧ Int32.toInt (i 6 1) ≤ 600 from by omega)) C0 hH hS clX7 rfl ⟨⟨Nat.le_of_ble_eq_true rfl, Nat.le_of_ble_eq_true rfl⟩, rfl, rfl⟩ cw_X7_77 rfl ⟨Nat.le_of_ble_eq_true rfl, Nat.le_of_ble_eq_true rfl⟩ hl.1 rfl (Nat.le_of_ble_eq_true rfl) dX7_scanNext_56 ⟨Nat.le_of_ble_eq_true rfl, Nat.le_of_ble_eq_true rfl⟩ (fun ir12 Fr12 Gr12 _ locs hp hH hS => ?_)
          obtain ⟨honr12, ht7r12, ht13r12⟩ := hp
          try dsimp only at ht7r12 ht13r12
          have ht7r12I : Int32.toInt (ir12 40 7) = Int32.toInt (i 40 7) := congrArg Int32.toInt ht7r12
          refine lv_goto (pc := 59) (tgt := 91) C0.1 C0.2.1 dX7_scanNext_59 (by decide) ?_
          exact xvret (pc := 91) C0 hr hH hS dX7_scanNext_91 ⟨(On.tr (On.i On.rf (by decide)) honr12 (by decide) (by decide)), by show 0 ≤ Int32.toInt (ir12 40 7); omega, by show Int32.toInt (ir12 40 7) ≤ 600; omega, by show ir12 40 13 = 0 ∨ ir12 40 13 = 1; rw [ht13r12]; first | exact hfr | exact Or.inr rfl | exact Or.inl rfl⟩
        · have : Int32.toInt 10 = 10 := rfl
          have c11 := congrArg Int32.toInt c11
          refine lv_iconst (pc := 41) (v := 1) C0.1 C0.2.1 dX7_scanNext_41 (by decide) ?_
          refine lv_goto (pc := 42) (tgt := 46) C0.1 C0.2.1 dX7_scanNext_42 (by decide) ?_
          refine xputI (pc := 46) C0 (Nat.le_of_ble_eq_true rfl) hH hS 40 13 clX7 ⟨Nat.le_of_ble_eq_true rfl, Nat.le_of_ble_eq_true rfl⟩ ⟨rfl, rfl⟩ ⟨Nat.le_of_ble_eq_true rfl, rfl, rfl⟩ fl_X7_53 (x := 1) ⟨rfl, rfl⟩ dX7_scanNext_46 (fun _ locs hH hS _ => ?_)
          have hH : Hd D tA b 0 78 zz (up2 i 40 13 1) F G _ := hH
          refine lv_aload_n (pc := 49) C0.1 C0.2.1 dX7_scanNext_49 rfl (lv_at hl 1 rfl) ?_
          refine lv_aload_n (pc := 50) C0.1 C0.2.1 dX7_scanNext_50 rfl (lv_at hl 2 rfl) ?_
          refine lv_iconst (pc := 51) (v := 1) C0.1 C0.2.1 dX7_scanNext_51 (by decide) ?_
          refine lv_aload_n (pc := 52) C0.1 C0.2.1 dX7_scanNext_52 rfl (lv_at hl 3 rfl) ?_
          refine xget (pc := 53) C0 hH 1 7 clX1 ⟨Nat.le_of_ble_eq_true rfl, Nat.le_of_ble_eq_true rfl⟩ ⟨rfl, rfl⟩ (Nat.le_of_ble_eq_true rfl) fl_X7_66 (v := .int (i 1 7)) rfl dX7_scanNext_53 ?_
          refine xcVV (pc := 56) 40 [.ref (b + 6), .int 1, .int (i 1 7)] (g_X7_pass_40 l D tA b (up2 i 40 13 1) F G 1 (i 1 7) (show 0 ≤ Int32.toInt (i 6 1) ∧ Int32.toInt (i 6 1) ≤ 600 from by omega)) C0 hH hS clX7 rfl ⟨⟨Nat.le_of_ble_eq_true rfl, Nat.le_of_ble_eq_true rfl⟩, rfl, rfl⟩ cw_X7_77 rfl ⟨Nat.le_of_ble_eq_true rfl, Nat.le_of_ble_eq_true rfl⟩ hl.1 rfl (Nat.le_of_ble_eq_true rfl) dX7_scanNext_56 ⟨Nat.le_of_ble_eq_true rfl, Nat.le_of_ble_eq_true rfl⟩ (fun ir13 Fr13 Gr13 _ locs hp hH hS => ?_)
          obtain ⟨honr13, ht7r13, ht13r13⟩ := hp
          try dsimp only at ht7r13 ht13r13
          have ht7r13I : Int32.toInt (ir13 40 7) = Int32.toInt (i 40 7) := congrArg Int32.toInt ht7r13
          refine lv_goto (pc := 59) (tgt := 91) C0.1 C0.2.1 dX7_scanNext_59 (by decide) ?_
          exact xvret (pc := 91) C0 hr hH hS dX7_scanNext_91 ⟨(On.tr (On.i On.rf (by decide)) honr13 (by decide) (by decide)), by show 0 ≤ Int32.toInt (ir13 40 7); omega, by show Int32.toInt (ir13 40 7) ≤ 600; omega, by show ir13 40 13 = 0 ∨ ir13 40 13 = 1; rw [ht13r13]; first | exact hfr | exact Or.inr rfl | exact Or.inl rfl⟩
    · have : Int32.toInt 9 = 9 := rfl
      have c8 : ¬ _ := fun q => c8 (Int32.toInt_inj.mp q)
      refine lv_iload_n (pc := 21) C0.1 C0.2.1 dX7_scanNext_21 rfl (lv_at hl 0 rfl) ?_
      refine lv_bipush (pc := 22) (v := 10) C0.1 C0.2.1 dX7_scanNext_22 (by decide) ?_
      refine lv_icmp_ne (pc := 24) (tgt := 62) C0.1 C0.2.1 dX7_scanNext_24 (by decide) (fun c14 => ?_) (fun c14 => ?_)
      · have : Int32.toInt 10 = 10 := rfl
        have c14 : ¬ _ := fun q => c14 (Int32.toInt_inj.mp q)
        refine lv_iload_n (pc := 62) C0.1 C0.2.1 dX7_scanNext_62 rfl (lv_at hl 0 rfl) ?_
        refine lv_bipush (pc := 63) (v := 35) C0.1 C0.2.1 dX7_scanNext_63 (by decide) ?_
        refine lv_icmp_ne (pc := 65) (tgt := 85) C0.1 C0.2.1 dX7_scanNext_65 (by decide) (fun c15 => ?_) (fun c15 => ?_)
        · have : Int32.toInt 35 = 35 := rfl
          have c15 : ¬ _ := fun q => c15 (Int32.toInt_inj.mp q)
          refine lv_aload_n (pc := 85) C0.1 C0.2.1 dX7_scanNext_85 rfl (lv_at hl 1 rfl) ?_
          refine lv_aload_n (pc := 86) C0.1 C0.2.1 dX7_scanNext_86 rfl (lv_at hl 2 rfl) ?_
          refine lv_aload_n (pc := 87) C0.1 C0.2.1 dX7_scanNext_87 rfl (lv_at hl 3 rfl) ?_
          refine xcVV (pc := 88) 40 [.ref (b + 6), .ref (b + 1)] (g_X7_scanToken_40 l D tA b i F G  (show 0 ≤ Int32.toInt (i 6 1) ∧ Int32.toInt (i 6 1) ≤ 600 from by omega) (show 0 ≤ Int32.toInt (i 40 7) ∧ Int32.toInt (i 40 7) ≤ 600 from by omega) hfr (show 0 ≤ Int32.toInt (i 1 2) ∧ Int32.toInt (i 1 2) ≤ 24 from by omega)) C0 hH hS clX7 rfl ⟨⟨Nat.le_of_ble_eq_true rfl, Nat.le_of_ble_eq_true rfl⟩, rfl, rfl⟩ cw_X7_85 rfl ⟨Nat.le_of_ble_eq_true rfl, Nat.le_of_ble_eq_true rfl⟩ hl.1 rfl (Nat.le_of_ble_eq_true rfl) dX7_scanNext_88 ⟨Nat.le_of_ble_eq_true rfl, Nat.le_of_ble_eq_true rfl⟩ (fun ir16 Fr16 Gr16 _ locs hp hH hS => ?_)
          obtain ⟨honr16, ht1r16, ht2r16, htfr16⟩ := hp
          try dsimp only at ht1r16 ht2r16 htfr16
          exact xvret (pc := 91) C0 hr hH hS dX7_scanNext_91 ⟨(On.tr On.rf honr16 (by decide) (by decide)), ht1r16, ht2r16, htfr16⟩
        · have : Int32.toInt 35 = 35 := rfl
          have c15 := congrArg Int32.toInt c15
          refine lv_aload_n (pc := 68) C0.1 C0.2.1 dX7_scanNext_68 rfl (lv_at hl 1 rfl) ?_
          refine lv_aload_n (pc := 69) C0.1 C0.2.1 dX7_scanNext_69 rfl (lv_at hl 2 rfl) ?_
          refine lv_aload_n (pc := 70) C0.1 C0.2.1 dX7_scanNext_70 rfl (lv_at hl 1 rfl) ?_
          refine lv_aload_n (pc := 71) C0.1 C0.2.1 dX7_scanNext_71 rfl (lv_at hl 2 rfl) ?_
          refine xcVI (pc := 72) 40 [.ref (b + 6)] (g_X7_noteLength_40 l D tA b i F G  (show 0 ≤ Int32.toInt (i 6 1) ∧ Int32.toInt (i 6 1) ≤ 600 from by omega)) C0 hH hS clX7 rfl ⟨⟨Nat.le_of_ble_eq_true rfl, Nat.le_of_ble_eq_true rfl⟩, rfl, rfl⟩ cw_X7_81 rfl ⟨Nat.le_of_ble_eq_true rfl, Nat.le_of_ble_eq_true rfl⟩ hl.1 rfl (Nat.le_of_ble_eq_true rfl) dX7_scanNext_72 ⟨Nat.le_of_ble_eq_true rfl, Nat.le_of_ble_eq_true rfl⟩ (fun r17 ir17 Fr17 Gr17 _ locs hp hH hS => ?_)
          obtain ⟨hu, hpr17⟩ := hp
          cases hu
          refine lv_aload_n (pc := 75) C0.1 C0.2.1 dX7_scanNext_75 rfl (lv_at hl 3 rfl) ?_
          refine xget (pc := 76) C0 hH 1 7 clX1 ⟨Nat.le_of_ble_eq_true rfl, Nat.le_of_ble_eq_true rfl⟩ ⟨rfl, rfl⟩ (Nat.le_of_ble_eq_true rfl) fl_X7_66 (v := .int (i 1 7)) rfl dX7_scanNext_76 ?_
          refine xcVV (pc := 79) 40 [.ref (b + 6), .int r17, .int (i 1 7)] (g_X7_pass_40 l D tA b i F G r17 (i 1 7) (show 0 ≤ Int32.toInt (i 6 1) ∧ Int32.toInt (i 6 1) ≤ 600 from by omega)) C0 hH hS clX7 rfl ⟨⟨Nat.le_of_ble_eq_true rfl, Nat.le_of_ble_eq_true rfl⟩, rfl, rfl⟩ cw_X7_77 rfl ⟨Nat.le_of_ble_eq_true rfl, Nat.le_of_ble_eq_true rfl⟩ hl.1 rfl (Nat.le_of_ble_eq_true rfl) dX7_scanNext_79 ⟨Nat.le_of_ble_eq_true rfl, Nat.le_of_ble_eq_true rfl⟩ (fun ir18 Fr18 Gr18 _ locs hp hH hS => ?_)
          obtain ⟨honr18, ht7r18, ht13r18⟩ := hp
          try dsimp only at ht7r18 ht13r18
          have ht7r18I : Int32.toInt (ir18 40 7) = Int32.toInt (i 40 7) := congrArg Int32.toInt ht7r18
          refine lv_goto (pc := 82) (tgt := 91) C0.1 C0.2.1 dX7_scanNext_82 (by decide) ?_
          exact xvret (pc := 91) C0 hr hH hS dX7_scanNext_91 ⟨(On.tr On.rf honr18 (by decide) (by decide)), by show 0 ≤ Int32.toInt (ir18 40 7); omega, by show Int32.toInt (ir18 40 7) ≤ 600; omega, by show ir18 40 13 = 0 ∨ ir18 40 13 = 1; rw [ht13r18]; first | exact hfr | exact Or.inr rfl | exact Or.inl rfl⟩
      · have : Int32.toInt 10 = 10 := rfl
        have c14 := congrArg Int32.toInt c14
        refine lv_aload_n (pc := 27) C0.1 C0.2.1 dX7_scanNext_27 rfl (lv_at hl 1 rfl) ?_
        refine lv_aload_n (pc := 28) C0.1 C0.2.1 dX7_scanNext_28 rfl (lv_at hl 1 rfl) ?_
        refine xget (pc := 29) C0 hH 40 13 clX7 ⟨Nat.le_of_ble_eq_true rfl, Nat.le_of_ble_eq_true rfl⟩ ⟨rfl, rfl⟩ (Nat.le_of_ble_eq_true rfl) fl_X7_53 (v := .int (i 40 13)) rfl dX7_scanNext_29 ?_
        refine lv_if_ne (pc := 32) (tgt := 41) C0.1 C0.2.1 dX7_scanNext_32 (by decide) (fun c19 => ?_) (fun c19 => ?_)
        · have : Int32.toInt 0 = 0 := rfl
          have c19 : ¬ _ := fun q => c19 (Int32.toInt_inj.mp q)
          refine lv_iconst (pc := 41) (v := 1) C0.1 C0.2.1 dX7_scanNext_41 (by decide) ?_
          refine lv_goto (pc := 42) (tgt := 46) C0.1 C0.2.1 dX7_scanNext_42 (by decide) ?_
          refine xputI (pc := 46) C0 (Nat.le_of_ble_eq_true rfl) hH hS 40 13 clX7 ⟨Nat.le_of_ble_eq_true rfl, Nat.le_of_ble_eq_true rfl⟩ ⟨rfl, rfl⟩ ⟨Nat.le_of_ble_eq_true rfl, rfl, rfl⟩ fl_X7_53 (x := 1) ⟨rfl, rfl⟩ dX7_scanNext_46 (fun _ locs hH hS _ => ?_)
          have hH : Hd D tA b 0 78 zz (up2 i 40 13 1) F G _ := hH
          refine lv_aload_n (pc := 49) C0.1 C0.2.1 dX7_scanNext_49 rfl (lv_at hl 1 rfl) ?_
          refine lv_aload_n (pc := 50) C0.1 C0.2.1 dX7_scanNext_50 rfl (lv_at hl 2 rfl) ?_
          refine lv_iconst (pc := 51) (v := 1) C0.1 C0.2.1 dX7_scanNext_51 (by decide) ?_
          refine lv_aload_n (pc := 52) C0.1 C0.2.1 dX7_scanNext_52 rfl (lv_at hl 3 rfl) ?_
          refine xget (pc := 53) C0 hH 1 7 clX1 ⟨Nat.le_of_ble_eq_true rfl, Nat.le_of_ble_eq_true rfl⟩ ⟨rfl, rfl⟩ (Nat.le_of_ble_eq_true rfl) fl_X7_66 (v := .int (i 1 7)) rfl dX7_scanNext_53 ?_
          refine xcVV (pc := 56) 40 [.ref (b + 6), .int 1, .int (i 1 7)] (g_X7_pass_40 l D tA b (up2 i 40 13 1) F G 1 (i 1 7) (show 0 ≤ Int32.toInt (i 6 1) ∧ Int32.toInt (i 6 1) ≤ 600 from by omega)) C0 hH hS clX7 rfl ⟨⟨Nat.le_of_ble_eq_true rfl, Nat.le_of_ble_eq_true rfl⟩, rfl, rfl⟩ cw_X7_77 rfl ⟨Nat.le_of_ble_eq_true rfl, Nat.le_of_ble_eq_true rfl⟩ hl.1 rfl (Nat.le_of_ble_eq_true rfl) dX7_scanNext_56 ⟨Nat.le_of_ble_eq_true rfl, Nat.le_of_ble_eq_true rfl⟩ (fun ir20 Fr20 Gr20 _ locs hp hH hS => ?_)
          obtain ⟨honr20, ht7r20, ht13r20⟩ := hp
          try dsimp only at ht7r20 ht13r20
          have ht7r20I : Int32.toInt (ir20 40 7) = Int32.toInt (i 40 7) := congrArg Int32.toInt ht7r20
          refine lv_goto (pc := 59) (tgt := 91) C0.1 C0.2.1 dX7_scanNext_59 (by decide) ?_
          exact xvret (pc := 91) C0 hr hH hS dX7_scanNext_91 ⟨(On.tr (On.i On.rf (by decide)) honr20 (by decide) (by decide)), by show 0 ≤ Int32.toInt (ir20 40 7); omega, by show Int32.toInt (ir20 40 7) ≤ 600; omega, by show ir20 40 13 = 0 ∨ ir20 40 13 = 1; rw [ht13r20]; first | exact hfr | exact Or.inr rfl | exact Or.inl rfl⟩
        · have : Int32.toInt 0 = 0 := rfl
          have c19 := congrArg Int32.toInt c19
          refine lv_iload_n (pc := 35) C0.1 C0.2.1 dX7_scanNext_35 rfl (lv_at hl 0 rfl) ?_
          refine lv_bipush (pc := 36) (v := 10) C0.1 C0.2.1 dX7_scanNext_36 (by decide) ?_
          refine lv_icmp_ne (pc := 38) (tgt := 45) C0.1 C0.2.1 dX7_scanNext_38 (by decide) (fun c21 => ?_) (fun c21 => ?_)
          · have : Int32.toInt 10 = 10 := rfl
            have c21 : ¬ _ := fun q => c21 (Int32.toInt_inj.mp q)
            refine lv_iconst (pc := 45) (v := 0) C0.1 C0.2.1 dX7_scanNext_45 (by decide) ?_
            refine xputI (pc := 46) C0 (Nat.le_of_ble_eq_true rfl) hH hS 40 13 clX7 ⟨Nat.le_of_ble_eq_true rfl, Nat.le_of_ble_eq_true rfl⟩ ⟨rfl, rfl⟩ ⟨Nat.le_of_ble_eq_true rfl, rfl, rfl⟩ fl_X7_53 (x := 0) ⟨rfl, rfl⟩ dX7_scanNext_46 (fun _ locs hH hS _ => ?_)
            have hH : Hd D tA b 0 78 zz (up2 i 40 13 0) F G _ := hH
            refine lv_aload_n (pc := 49) C0.1 C0.2.1 dX7_scanNext_49 rfl (lv_at hl 1 rfl) ?_
            refine lv_aload_n (pc := 50) C0.1 C0.2.1 dX7_scanNext_50 rfl (lv_at hl 2 rfl) ?_
            refine lv_iconst (pc := 51) (v := 1) C0.1 C0.2.1 dX7_scanNext_51 (by decide) ?_
            refine lv_aload_n (pc := 52) C0.1 C0.2.1 dX7_scanNext_52 rfl (lv_at hl 3 rfl) ?_
            refine xget (pc := 53) C0 hH 1 7 clX1 ⟨Nat.le_of_ble_eq_true rfl, Nat.le_of_ble_eq_true rfl⟩ ⟨rfl, rfl⟩ (Nat.le_of_ble_eq_true rfl) fl_X7_66 (v := .int (i 1 7)) rfl dX7_scanNext_53 ?_
            refine xcVV (pc := 56) 40 [.ref (b + 6), .int 1, .int (i 1 7)] (g_X7_pass_40 l D tA b (up2 i 40 13 0) F G 1 (i 1 7) (show 0 ≤ Int32.toInt (i 6 1) ∧ Int32.toInt (i 6 1) ≤ 600 from by omega)) C0 hH hS clX7 rfl ⟨⟨Nat.le_of_ble_eq_true rfl, Nat.le_of_ble_eq_true rfl⟩, rfl, rfl⟩ cw_X7_77 rfl ⟨Nat.le_of_ble_eq_true rfl, Nat.le_of_ble_eq_true rfl⟩ hl.1 rfl (Nat.le_of_ble_eq_true rfl) dX7_scanNext_56 ⟨Nat.le_of_ble_eq_true rfl, Nat.le_of_ble_eq_true rfl⟩ (fun ir22 Fr22 Gr22 _ locs hp hH hS => ?_)
            obtain ⟨honr22, ht7r22, ht13r22⟩ := hp
            try dsimp only at ht7r22 ht13r22
            have ht7r22I : Int32.toInt (ir22 40 7) = Int32.toInt (i 40 7) := congrArg Int32.toInt ht7r22
            refine lv_goto (pc := 59) (tgt := 91) C0.1 C0.2.1 dX7_scanNext_59 (by decide) ?_
            exact xvret (pc := 91) C0 hr hH hS dX7_scanNext_91 ⟨(On.tr (On.i On.rf (by decide)) honr22 (by decide) (by decide)), by show 0 ≤ Int32.toInt (ir22 40 7); omega, by show Int32.toInt (ir22 40 7) ≤ 600; omega, by show ir22 40 13 = 0 ∨ ir22 40 13 = 1; rw [ht13r22]; first | exact hfr | exact Or.inr rfl | exact Or.inl rfl⟩
          · have : Int32.toInt 10 = 10 := rfl
            have c21 := congrArg Int32.toInt c21
            refine lv_iconst (pc := 41) (v := 1) C0.1 C0.2.1 dX7_scanNext_41 (by decide) ?_
            refine lv_goto (pc := 42) (tgt := 46) C0.1 C0.2.1 dX7_scanNext_42 (by decide) ?_
            refine xputI (pc := 46) C0 (Nat.le_of_ble_eq_true rfl) hH hS 40 13 clX7 ⟨Nat.le_of_ble_eq_true rfl, Nat.le_of_ble_eq_true rfl⟩ ⟨rfl, rfl⟩ ⟨Nat.le_of_ble_eq_true rfl, rfl, rfl⟩ fl_X7_53 (x := 1) ⟨rfl, rfl⟩ dX7_scanNext_46 (fun _ locs hH hS _ => ?_)
            have hH : Hd D tA b 0 78 zz (up2 i 40 13 1) F G _ := hH
            refine lv_aload_n (pc := 49) C0.1 C0.2.1 dX7_scanNext_49 rfl (lv_at hl 1 rfl) ?_
            refine lv_aload_n (pc := 50) C0.1 C0.2.1 dX7_scanNext_50 rfl (lv_at hl 2 rfl) ?_
            refine lv_iconst (pc := 51) (v := 1) C0.1 C0.2.1 dX7_scanNext_51 (by decide) ?_
            refine lv_aload_n (pc := 52) C0.1 C0.2.1 dX7_scanNext_52 rfl (lv_at hl 3 rfl) ?_
            refine xget (pc := 53) C0 hH 1 7 clX1 ⟨Nat.le_of_ble_eq_true rfl, Nat.le_of_ble_eq_true rfl⟩ ⟨rfl, rfl⟩ (Nat.le_of_ble_eq_true rfl) fl_X7_66 (v := .int (i 1 7)) rfl dX7_scanNext_53 ?_
            refine xcVV (pc := 56) 40 [.ref (b + 6), .int 1, .int (i 1 7)] (g_X7_pass_40 l D tA b (up2 i 40 13 1) F G 1 (i 1 7) (show 0 ≤ Int32.toInt (i 6 1) ∧ Int32.toInt (i 6 1) ≤ 600 from by omega)) C0 hH hS clX7 rfl ⟨⟨Nat.le_of_ble_eq_true rfl, Nat.le_of_ble_eq_true rfl⟩, rfl, rfl⟩ cw_X7_77 rfl ⟨Nat.le_of_ble_eq_true rfl, Nat.le_of_ble_eq_true rfl⟩ hl.1 rfl (Nat.le_of_ble_eq_true rfl) dX7_scanNext_56 ⟨Nat.le_of_ble_eq_true rfl, Nat.le_of_ble_eq_true rfl⟩ (fun ir23 Fr23 Gr23 _ locs hp hH hS => ?_)
            obtain ⟨honr23, ht7r23, ht13r23⟩ := hp
            try dsimp only at ht7r23 ht13r23
            have ht7r23I : Int32.toInt (ir23 40 7) = Int32.toInt (i 40 7) := congrArg Int32.toInt ht7r23
            refine lv_goto (pc := 59) (tgt := 91) C0.1 C0.2.1 dX7_scanNext_59 (by decide) ?_
            exact xvret (pc := 91) C0 hr hH hS dX7_scanNext_91 ⟨(On.tr (On.i On.rf (by decide)) honr23 (by decide) (by decide)), by show 0 ≤ Int32.toInt (ir23 40 7); omega, by show Int32.toInt (ir23 40 7) ≤ 600; omega, by show ir23 40 13 = 0 ∨ ir23 40 13 = 1; rw [ht13r23]; first | exact hfr | exact Or.inr rfl | exact Or.inl rfl⟩
set_option maxHeartbeats 4000000 in
set_option maxRecDepth 100000 in
theorem g_X7_scan_40 (l : Launch) (D : va_G) (tA : Nat → ClassId) (b : Nat) (i F : Nat → Nat → Int32) (G : Nat → Nat → Int64)  (hsz : 0 ≤ (i 6 1).toInt ∧ (i 6 1).toInt ≤ 600) (htd : 0 ≤ (i 1 2).toInt ∧ (i 1 2).toInt ≤ 24) : xMV l yX7_scan cX7_scan 4 none 8 179 D tA b 0 78 i F G [.ref (b + 40), .ref (b + 6), .ref (b + 1)] (fun u => On 40 48 i F G u ∧ 0 ≤ (u.1 40 7).toInt ∧ (u.1 40 7).toInt ≤ 600 ∧ (u.1 40 13 = 0 ∨ u.1 40 13 = 1)) := by
  refine xstart RX7 rfl (by decide) (Nat.le_of_ble_eq_true rfl) ?_
  intro p e s m below meth c ls C0 hr hH hS hl
  have hl : lv_has ls 4 [(0, .ref (b + 40)), (1, .ref (b + 6)), (2, .ref (b + 1))] := hl
  have LOOP : ∀ (d : Nat) (k : Int32) (iv Fv : Nat → Nat → Int32) (Gv : Nat → Nat → Int64) (H : Heap) (locs : List Loc) (ls : Array Slot), (0 ≤ k.toInt) → (600 - k.toInt ≤ d) → (On 40 48 i F G (iv, Fv, Gv)) → (0 ≤ (iv 40 7).toInt ∧ (iv 40 7).toInt ≤ 600) → ((iv 40 13 = 0 ∨ iv 40 13 = 1)) → Hd D tA b 0 78 zz iv Fv Gv H → va_S (xA b 0 78) s.heap H locs → lv_has ls 4 [(3, .int k), (0, .ref (b + 40)), (1, .ref (b + 6)), (2, .ref (b + 1))] → W p l e (xR 8 179) s m ([.ref (b + 40), .ref (b + 6), .ref (b + 1)] : List Value).toArray below meth c H locs 0 0 (MQ below (va_Qv (fun u => On 40 48 i F G u ∧ 0 ≤ (u.1 40 7).toInt ∧ (u.1 40 7).toInt ≤ 600 ∧ (u.1 40 13 = 0 ∨ u.1 40 13 = 1)) (xB D tA b 0 78 zz) (xA b 0 78)) ([.ref (b + 40), .ref (b + 6), .ref (b + 1)] : List Value).toArray s 0 0 (xA b 0 78)) (F0 m 38 ls []) := by
    intro d
    induction d with
    | zero =>
      intro k iv Fv Gv H locs ls h1 h2 h3 h4 h5 hH hS hl
      have rg_k := fb_rng k
      have ek6 : Int32.toInt (iv 6 1) = Int32.toInt (i 6 1) := congrArg Int32.toInt (congrFun (h3.1 6 (by decide)).1 1)
      have ek1 : Int32.toInt (iv 1 2) = Int32.toInt (i 1 2) := congrArg Int32.toInt (congrFun (h3.1 1 (by decide)).1 2)
      refine lv_iload_n (pc := 38) C0.1 C0.2.1 dX7_scan_38 rfl (lv_at hl 0 rfl) ?_
      refine lv_sipush (pc := 39) (v := 600) C0.1 C0.2.1 dX7_scan_39 (by decide) ?_
      have : Int32.toInt 600 = 600 := rfl
      refine lv_icmp_ge (pc := 42) (tgt := 75) C0.1 C0.2.1 dX7_scan_42 (by decide) (fun _ => ?_) (fun c => absurd (Int32.le_iff_toInt_le.mpr (by omega)) c)
      refine lv_aload_n (pc := 75) C0.1 C0.2.1 dX7_scan_75 rfl (lv_at hl 3 rfl) ?_
      refine xget (pc := 76) C0 hH 1 7 clX1 ⟨Nat.le_of_ble_eq_true rfl, Nat.le_of_ble_eq_true rfl⟩ ⟨rfl, rfl⟩ (Nat.le_of_ble_eq_true rfl) fl_X7_66 (v := .int (iv 1 7)) rfl dX7_scan_76 ?_
      refine lv_if_ne (pc := 79) (tgt := 91) C0.1 C0.2.1 dX7_scan_79 (by decide) (fun c101 => ?_) (fun c101 => ?_)
      · have : Int32.toInt 0 = 0 := rfl
        have c101 : ¬ _ := fun q => c101 (Int32.toInt_inj.mp q)
        refine lv_bipush (pc := 91) (v := (-9)) C0.1 C0.2.1 dX7_scan_91 (by decide) ?_
        refine lv_istore_n (pc := 93) (lv' := [(3, .int (-9)), (0, .ref (b + 40)), (1, .ref (b + 6)), (2, .ref (b + 1))]) C0.1 C0.2.1 dX7_scan_93 rfl hl (by decide) rfl (fun ls hl => ?_)
        refine lv_iload_n (pc := 94) C0.1 C0.2.1 dX7_scan_94 rfl (lv_at hl 0 rfl) ?_
        refine lv_bipush (pc := 95) (v := (-9)) C0.1 C0.2.1 dX7_scan_95 (by decide) ?_
        refine lv_icmp_eq (pc := 97) (tgt := 125) C0.1 C0.2.1 dX7_scan_97 (by decide) (fun _ => ?_) (fun c => absurd (by decide) c)
        exact xvret (pc := 125) C0 hr hH hS dX7_scan_125 ⟨h3, h4.1, h4.2, h5⟩
      · have : Int32.toInt 0 = 0 := rfl
        have c101 := congrArg Int32.toInt c101
        refine lv_aload_n (pc := 82) C0.1 C0.2.1 dX7_scan_82 rfl (lv_at hl 2 rfl) ?_
        refine lv_bipush (pc := 83) (v := 9) C0.1 C0.2.1 dX7_scan_83 (by decide) ?_
        refine xcVI (pc := 85) 6 [.int 9] (g_X6_firstPlaceOf_6 l D tA b iv Fv Gv 9 (show 0 ≤ Int32.toInt (iv 6 1) ∧ Int32.toInt (iv 6 1) ≤ 600 from by omega)) C0 hH hS clX6 rfl ⟨⟨Nat.le_of_ble_eq_true rfl, Nat.le_of_ble_eq_true rfl⟩, rfl, rfl⟩ cw_X7_71 rfl ⟨Nat.le_of_ble_eq_true rfl, Nat.le_of_ble_eq_true rfl⟩ hl.1 rfl (Nat.le_of_ble_eq_true rfl) dX7_scan_85 ⟨Nat.le_of_ble_eq_true rfl, Nat.le_of_ble_eq_true rfl⟩ (fun r102 ir102 Fr102 Gr102 _ locs hp hH hS => ?_)
        obtain ⟨hu, hpr102⟩ := hp
        cases hu
        refine lv_goto (pc := 88) (tgt := 93) C0.1 C0.2.1 dX7_scan_88 (by decide) ?_
        refine lv_istore_n (pc := 93) (lv' := [(3, .int r102), (0, .ref (b + 40)), (1, .ref (b + 6)), (2, .ref (b + 1))]) C0.1 C0.2.1 dX7_scan_93 rfl hl (by decide) rfl (fun ls hl => ?_)
        refine lv_iload_n (pc := 94) C0.1 C0.2.1 dX7_scan_94 rfl (lv_at hl 0 rfl) ?_
        refine lv_bipush (pc := 95) (v := (-9)) C0.1 C0.2.1 dX7_scan_95 (by decide) ?_
        refine lv_icmp_eq (pc := 97) (tgt := 125) C0.1 C0.2.1 dX7_scan_97 (by decide) (fun c103 => ?_) (fun c103 => ?_)
        · have : Int32.toInt (-9) = (-9) := rfl
          have c103 := congrArg Int32.toInt c103
          exact xvret (pc := 125) C0 hr hH hS dX7_scan_125 ⟨h3, h4.1, h4.2, h5⟩
        · have : Int32.toInt (-9) = (-9) := rfl
          have c103 : ¬ _ := fun q => c103 (Int32.toInt_inj.mp q)
          refine lv_aload_n (pc := 100) C0.1 C0.2.1 dX7_scan_100 rfl (lv_at hl 1 rfl) ?_
          refine xget (pc := 101) C0 hH 40 8 clX7 ⟨Nat.le_of_ble_eq_true rfl, Nat.le_of_ble_eq_true rfl⟩ ⟨rfl, rfl⟩ (Nat.le_of_ble_eq_true rfl) fl_X7_38 (v := .int (iv 40 8)) rfl dX7_scan_101 ?_
          refine lv_if_eq (pc := 104) (tgt := 115) C0.1 C0.2.1 dX7_scan_104 (by decide) (fun c104 => ?_) (fun c104 => ?_)
          · have : Int32.toInt 0 = 0 := rfl
            have c104 := congrArg Int32.toInt c104
            refine lv_aload_n (pc := 115) C0.1 C0.2.1 dX7_scan_115 rfl (lv_at hl 1 rfl) ?_
            refine lv_iconst (pc := 116) (v := 2) C0.1 C0.2.1 dX7_scan_116 (by decide) ?_
            refine xputI (pc := 117) C0 (Nat.le_of_ble_eq_true rfl) hH hS 40 8 clX7 ⟨Nat.le_of_ble_eq_true rfl, Nat.le_of_ble_eq_true rfl⟩ ⟨rfl, rfl⟩ ⟨Nat.le_of_ble_eq_true rfl, rfl, rfl⟩ fl_X7_38 (x := 2) ⟨rfl, rfl⟩ dX7_scan_117 (fun _ locs hH hS _ => ?_)
            have hH : Hd D tA b 0 78 zz (up2 iv 40 8 2) Fv Gv _ := hH
            refine lv_aload_n (pc := 120) C0.1 C0.2.1 dX7_scan_120 rfl (lv_at hl 1 rfl) ?_
            refine lv_iload_n (pc := 121) C0.1 C0.2.1 dX7_scan_121 rfl (lv_at hl 0 rfl) ?_
            refine xputI (pc := 122) C0 (Nat.le_of_ble_eq_true rfl) hH hS 40 9 clX7 ⟨Nat.le_of_ble_eq_true rfl, Nat.le_of_ble_eq_true rfl⟩ ⟨rfl, rfl⟩ ⟨Nat.le_of_ble_eq_true rfl, rfl, rfl⟩ fl_X7_41 (x := r102) ⟨rfl, rfl⟩ dX7_scan_122 (fun _ locs hH hS _ => ?_)
            have hH : Hd D tA b 0 78 zz (up2 (up2 iv 40 8 2) 40 9 r102) Fv Gv _ := hH
            exact xvret (pc := 125) C0 hr hH hS dX7_scan_125 ⟨(On.i (On.i h3 (by decide)) (by decide)), h4.1, h4.2, h5⟩
          · have : Int32.toInt 0 = 0 := rfl
            have c104 : ¬ _ := fun q => c104 (Int32.toInt_inj.mp q)
            refine lv_iload_n (pc := 107) C0.1 C0.2.1 dX7_scan_107 rfl (lv_at hl 0 rfl) ?_
            refine lv_aload_n (pc := 108) C0.1 C0.2.1 dX7_scan_108 rfl (lv_at hl 1 rfl) ?_
            refine xget (pc := 109) C0 hH 40 9 clX7 ⟨Nat.le_of_ble_eq_true rfl, Nat.le_of_ble_eq_true rfl⟩ ⟨rfl, rfl⟩ (Nat.le_of_ble_eq_true rfl) fl_X7_41 (v := .int (iv 40 9)) rfl dX7_scan_109 ?_
            refine lv_icmp_ge (pc := 112) (tgt := 125) C0.1 C0.2.1 dX7_scan_112 (by decide) (fun c105 => ?_) (fun c105 => ?_)
            · have c105 := Int32.le_iff_toInt_le.mp c105
              exact xvret (pc := 125) C0 hr hH hS dX7_scan_125 ⟨h3, h4.1, h4.2, h5⟩
            · have c105 : ¬ _ := fun q => c105 (Int32.le_iff_toInt_le.mpr q)
              refine lv_aload_n (pc := 115) C0.1 C0.2.1 dX7_scan_115 rfl (lv_at hl 1 rfl) ?_
              refine lv_iconst (pc := 116) (v := 2) C0.1 C0.2.1 dX7_scan_116 (by decide) ?_
              refine xputI (pc := 117) C0 (Nat.le_of_ble_eq_true rfl) hH hS 40 8 clX7 ⟨Nat.le_of_ble_eq_true rfl, Nat.le_of_ble_eq_true rfl⟩ ⟨rfl, rfl⟩ ⟨Nat.le_of_ble_eq_true rfl, rfl, rfl⟩ fl_X7_38 (x := 2) ⟨rfl, rfl⟩ dX7_scan_117 (fun _ locs hH hS _ => ?_)
              have hH : Hd D tA b 0 78 zz (up2 iv 40 8 2) Fv Gv _ := hH
              refine lv_aload_n (pc := 120) C0.1 C0.2.1 dX7_scan_120 rfl (lv_at hl 1 rfl) ?_
              refine lv_iload_n (pc := 121) C0.1 C0.2.1 dX7_scan_121 rfl (lv_at hl 0 rfl) ?_
              refine xputI (pc := 122) C0 (Nat.le_of_ble_eq_true rfl) hH hS 40 9 clX7 ⟨Nat.le_of_ble_eq_true rfl, Nat.le_of_ble_eq_true rfl⟩ ⟨rfl, rfl⟩ ⟨Nat.le_of_ble_eq_true rfl, rfl, rfl⟩ fl_X7_41 (x := r102) ⟨rfl, rfl⟩ dX7_scan_122 (fun _ locs hH hS _ => ?_)
              have hH : Hd D tA b 0 78 zz (up2 (up2 iv 40 8 2) 40 9 r102) Fv Gv _ := hH
              exact xvret (pc := 125) C0 hr hH hS dX7_scan_125 ⟨(On.i (On.i h3 (by decide)) (by decide)), h4.1, h4.2, h5⟩
    | succ d ih =>
      intro k iv Fv Gv H locs ls h1 h2 h3 h4 h5 hH hS hl
      have rg_k := fb_rng k
      have ek6 : Int32.toInt (iv 6 1) = Int32.toInt (i 6 1) := congrArg Int32.toInt (congrFun (h3.1 6 (by decide)).1 1)
      have ek1 : Int32.toInt (iv 1 2) = Int32.toInt (i 1 2) := congrArg Int32.toInt (congrFun (h3.1 1 (by decide)).1 2)
      refine lv_iload_n (pc := 38) C0.1 C0.2.1 dX7_scan_38 rfl (lv_at hl 0 rfl) ?_
      refine lv_sipush (pc := 39) (v := 600) C0.1 C0.2.1 dX7_scan_39 (by decide) ?_
      refine lv_icmp_ge (pc := 42) (tgt := 75) C0.1 C0.2.1 dX7_scan_42 (by decide) (fun c101 => ?_) (fun c101 => ?_)
      · have : Int32.toInt 600 = 600 := rfl
        have c101 := Int32.le_iff_toInt_le.mp c101
        refine lv_aload_n (pc := 75) C0.1 C0.2.1 dX7_scan_75 rfl (lv_at hl 3 rfl) ?_
        refine xget (pc := 76) C0 hH 1 7 clX1 ⟨Nat.le_of_ble_eq_true rfl, Nat.le_of_ble_eq_true rfl⟩ ⟨rfl, rfl⟩ (Nat.le_of_ble_eq_true rfl) fl_X7_66 (v := .int (iv 1 7)) rfl dX7_scan_76 ?_
        refine lv_if_ne (pc := 79) (tgt := 91) C0.1 C0.2.1 dX7_scan_79 (by decide) (fun c102 => ?_) (fun c102 => ?_)
        · have : Int32.toInt 0 = 0 := rfl
          have c102 : ¬ _ := fun q => c102 (Int32.toInt_inj.mp q)
          refine lv_bipush (pc := 91) (v := (-9)) C0.1 C0.2.1 dX7_scan_91 (by decide) ?_
          refine lv_istore_n (pc := 93) (lv' := [(3, .int (-9)), (0, .ref (b + 40)), (1, .ref (b + 6)), (2, .ref (b + 1))]) C0.1 C0.2.1 dX7_scan_93 rfl hl (by decide) rfl (fun ls hl => ?_)
          refine lv_iload_n (pc := 94) C0.1 C0.2.1 dX7_scan_94 rfl (lv_at hl 0 rfl) ?_
          refine lv_bipush (pc := 95) (v := (-9)) C0.1 C0.2.1 dX7_scan_95 (by decide) ?_
          refine lv_icmp_eq (pc := 97) (tgt := 125) C0.1 C0.2.1 dX7_scan_97 (by decide) (fun _ => ?_) (fun c => absurd (by decide) c)
          exact xvret (pc := 125) C0 hr hH hS dX7_scan_125 ⟨h3, h4.1, h4.2, h5⟩
        · have : Int32.toInt 0 = 0 := rfl
          have c102 := congrArg Int32.toInt c102
          refine lv_aload_n (pc := 82) C0.1 C0.2.1 dX7_scan_82 rfl (lv_at hl 2 rfl) ?_
          refine lv_bipush (pc := 83) (v := 9) C0.1 C0.2.1 dX7_scan_83 (by decide) ?_
          refine xcVI (pc := 85) 6 [.int 9] (g_X6_firstPlaceOf_6 l D tA b iv Fv Gv 9 (show 0 ≤ Int32.toInt (iv 6 1) ∧ Int32.toInt (iv 6 1) ≤ 600 from by omega)) C0 hH hS clX6 rfl ⟨⟨Nat.le_of_ble_eq_true rfl, Nat.le_of_ble_eq_true rfl⟩, rfl, rfl⟩ cw_X7_71 rfl ⟨Nat.le_of_ble_eq_true rfl, Nat.le_of_ble_eq_true rfl⟩ hl.1 rfl (Nat.le_of_ble_eq_true rfl) dX7_scan_85 ⟨Nat.le_of_ble_eq_true rfl, Nat.le_of_ble_eq_true rfl⟩ (fun r103 ir103 Fr103 Gr103 _ locs hp hH hS => ?_)
          obtain ⟨hu, hpr103⟩ := hp
          cases hu
          refine lv_goto (pc := 88) (tgt := 93) C0.1 C0.2.1 dX7_scan_88 (by decide) ?_
          refine lv_istore_n (pc := 93) (lv' := [(3, .int r103), (0, .ref (b + 40)), (1, .ref (b + 6)), (2, .ref (b + 1))]) C0.1 C0.2.1 dX7_scan_93 rfl hl (by decide) rfl (fun ls hl => ?_)
          refine lv_iload_n (pc := 94) C0.1 C0.2.1 dX7_scan_94 rfl (lv_at hl 0 rfl) ?_
          refine lv_bipush (pc := 95) (v := (-9)) C0.1 C0.2.1 dX7_scan_95 (by decide) ?_
          refine lv_icmp_eq (pc := 97) (tgt := 125) C0.1 C0.2.1 dX7_scan_97 (by decide) (fun c104 => ?_) (fun c104 => ?_)
          · have : Int32.toInt (-9) = (-9) := rfl
            have c104 := congrArg Int32.toInt c104
            exact xvret (pc := 125) C0 hr hH hS dX7_scan_125 ⟨h3, h4.1, h4.2, h5⟩
          · have : Int32.toInt (-9) = (-9) := rfl
            have c104 : ¬ _ := fun q => c104 (Int32.toInt_inj.mp q)
            refine lv_aload_n (pc := 100) C0.1 C0.2.1 dX7_scan_100 rfl (lv_at hl 1 rfl) ?_
            refine xget (pc := 101) C0 hH 40 8 clX7 ⟨Nat.le_of_ble_eq_true rfl, Nat.le_of_ble_eq_true rfl⟩ ⟨rfl, rfl⟩ (Nat.le_of_ble_eq_true rfl) fl_X7_38 (v := .int (iv 40 8)) rfl dX7_scan_101 ?_
            refine lv_if_eq (pc := 104) (tgt := 115) C0.1 C0.2.1 dX7_scan_104 (by decide) (fun c105 => ?_) (fun c105 => ?_)
            · have : Int32.toInt 0 = 0 := rfl
              have c105 := congrArg Int32.toInt c105
              refine lv_aload_n (pc := 115) C0.1 C0.2.1 dX7_scan_115 rfl (lv_at hl 1 rfl) ?_
              refine lv_iconst (pc := 116) (v := 2) C0.1 C0.2.1 dX7_scan_116 (by decide) ?_
              refine xputI (pc := 117) C0 (Nat.le_of_ble_eq_true rfl) hH hS 40 8 clX7 ⟨Nat.le_of_ble_eq_true rfl, Nat.le_of_ble_eq_true rfl⟩ ⟨rfl, rfl⟩ ⟨Nat.le_of_ble_eq_true rfl, rfl, rfl⟩ fl_X7_38 (x := 2) ⟨rfl, rfl⟩ dX7_scan_117 (fun _ locs hH hS _ => ?_)
              have hH : Hd D tA b 0 78 zz (up2 iv 40 8 2) Fv Gv _ := hH
              refine lv_aload_n (pc := 120) C0.1 C0.2.1 dX7_scan_120 rfl (lv_at hl 1 rfl) ?_
              refine lv_iload_n (pc := 121) C0.1 C0.2.1 dX7_scan_121 rfl (lv_at hl 0 rfl) ?_
              refine xputI (pc := 122) C0 (Nat.le_of_ble_eq_true rfl) hH hS 40 9 clX7 ⟨Nat.le_of_ble_eq_true rfl, Nat.le_of_ble_eq_true rfl⟩ ⟨rfl, rfl⟩ ⟨Nat.le_of_ble_eq_true rfl, rfl, rfl⟩ fl_X7_41 (x := r103) ⟨rfl, rfl⟩ dX7_scan_122 (fun _ locs hH hS _ => ?_)
              have hH : Hd D tA b 0 78 zz (up2 (up2 iv 40 8 2) 40 9 r103) Fv Gv _ := hH
              exact xvret (pc := 125) C0 hr hH hS dX7_scan_125 ⟨(On.i (On.i h3 (by decide)) (by decide)), h4.1, h4.2, h5⟩
            · have : Int32.toInt 0 = 0 := rfl
              have c105 : ¬ _ := fun q => c105 (Int32.toInt_inj.mp q)
              refine lv_iload_n (pc := 107) C0.1 C0.2.1 dX7_scan_107 rfl (lv_at hl 0 rfl) ?_
              refine lv_aload_n (pc := 108) C0.1 C0.2.1 dX7_scan_108 rfl (lv_at hl 1 rfl) ?_
              refine xget (pc := 109) C0 hH 40 9 clX7 ⟨Nat.le_of_ble_eq_true rfl, Nat.le_of_ble_eq_true rfl⟩ ⟨rfl, rfl⟩ (Nat.le_of_ble_eq_true rfl) fl_X7_41 (v := .int (iv 40 9)) rfl dX7_scan_109 ?_
              refine lv_icmp_ge (pc := 112) (tgt := 125) C0.1 C0.2.1 dX7_scan_112 (by decide) (fun c106 => ?_) (fun c106 => ?_)
              · have c106 := Int32.le_iff_toInt_le.mp c106
                exact xvret (pc := 125) C0 hr hH hS dX7_scan_125 ⟨h3, h4.1, h4.2, h5⟩
              · have c106 : ¬ _ := fun q => c106 (Int32.le_iff_toInt_le.mpr q)
                refine lv_aload_n (pc := 115) C0.1 C0.2.1 dX7_scan_115 rfl (lv_at hl 1 rfl) ?_
                refine lv_iconst (pc := 116) (v := 2) C0.1 C0.2.1 dX7_scan_116 (by decide) ?_
                refine xputI (pc := 117) C0 (Nat.le_of_ble_eq_true rfl) hH hS 40 8 clX7 ⟨Nat.le_of_ble_eq_true rfl, Nat.le_of_ble_eq_true rfl⟩ ⟨rfl, rfl⟩ ⟨Nat.le_of_ble_eq_true rfl, rfl, rfl⟩ fl_X7_38 (x := 2) ⟨rfl, rfl⟩ dX7_scan_117 (fun _ locs hH hS _ => ?_)
                have hH : Hd D tA b 0 78 zz (up2 iv 40 8 2) Fv Gv _ := hH
                refine lv_aload_n (pc := 120) C0.1 C0.2.1 dX7_scan_120 rfl (lv_at hl 1 rfl) ?_
                refine lv_iload_n (pc := 121) C0.1 C0.2.1 dX7_scan_121 rfl (lv_at hl 0 rfl) ?_
                refine xputI (pc := 122) C0 (Nat.le_of_ble_eq_true rfl) hH hS 40 9 clX7 ⟨Nat.le_of_ble_eq_true rfl, Nat.le_of_ble_eq_true rfl⟩ ⟨rfl, rfl⟩ ⟨Nat.le_of_ble_eq_true rfl, rfl, rfl⟩ fl_X7_41 (x := r103) ⟨rfl, rfl⟩ dX7_scan_122 (fun _ locs hH hS _ => ?_)
                have hH : Hd D tA b 0 78 zz (up2 (up2 iv 40 8 2) 40 9 r103) Fv Gv _ := hH
                exact xvret (pc := 125) C0 hr hH hS dX7_scan_125 ⟨(On.i (On.i h3 (by decide)) (by decide)), h4.1, h4.2, h5⟩
      · have : Int32.toInt 600 = 600 := rfl
        have c101 : ¬ _ := fun q => c101 (Int32.le_iff_toInt_le.mpr q)
        refine lv_aload_n (pc := 45) C0.1 C0.2.1 dX7_scan_45 rfl (lv_at hl 1 rfl) ?_
        refine xget (pc := 46) C0 hH 40 10 clX7 ⟨Nat.le_of_ble_eq_true rfl, Nat.le_of_ble_eq_true rfl⟩ ⟨rfl, rfl⟩ (Nat.le_of_ble_eq_true rfl) fl_X7_44 (v := .int (iv 40 10)) rfl dX7_scan_46 ?_
        refine lv_aload_n (pc := 49) C0.1 C0.2.1 dX7_scan_49 rfl (lv_at hl 2 rfl) ?_
        refine xget (pc := 50) C0 hH 6 1 clX6 ⟨Nat.le_of_ble_eq_true rfl, Nat.le_of_ble_eq_true rfl⟩ ⟨rfl, rfl⟩ (Nat.le_of_ble_eq_true rfl) fl_X7_57 (v := .int (iv 6 1)) rfl dX7_scan_50 ?_
        refine lv_icmp_ge (pc := 53) (tgt := 75) C0.1 C0.2.1 dX7_scan_53 (by decide) (fun c107 => ?_) (fun c107 => ?_)
        · have c107 := Int32.le_iff_toInt_le.mp c107
          refine lv_aload_n (pc := 75) C0.1 C0.2.1 dX7_scan_75 rfl (lv_at hl 3 rfl) ?_
          refine xget (pc := 76) C0 hH 1 7 clX1 ⟨Nat.le_of_ble_eq_true rfl, Nat.le_of_ble_eq_true rfl⟩ ⟨rfl, rfl⟩ (Nat.le_of_ble_eq_true rfl) fl_X7_66 (v := .int (iv 1 7)) rfl dX7_scan_76 ?_
          refine lv_if_ne (pc := 79) (tgt := 91) C0.1 C0.2.1 dX7_scan_79 (by decide) (fun c108 => ?_) (fun c108 => ?_)
          · have : Int32.toInt 0 = 0 := rfl
            have c108 : ¬ _ := fun q => c108 (Int32.toInt_inj.mp q)
            refine lv_bipush (pc := 91) (v := (-9)) C0.1 C0.2.1 dX7_scan_91 (by decide) ?_
            refine lv_istore_n (pc := 93) (lv' := [(3, .int (-9)), (0, .ref (b + 40)), (1, .ref (b + 6)), (2, .ref (b + 1))]) C0.1 C0.2.1 dX7_scan_93 rfl hl (by decide) rfl (fun ls hl => ?_)
            refine lv_iload_n (pc := 94) C0.1 C0.2.1 dX7_scan_94 rfl (lv_at hl 0 rfl) ?_
            refine lv_bipush (pc := 95) (v := (-9)) C0.1 C0.2.1 dX7_scan_95 (by decide) ?_
            refine lv_icmp_eq (pc := 97) (tgt := 125) C0.1 C0.2.1 dX7_scan_97 (by decide) (fun _ => ?_) (fun c => absurd (by decide) c)
            exact xvret (pc := 125) C0 hr hH hS dX7_scan_125 ⟨h3, h4.1, h4.2, h5⟩
          · have : Int32.toInt 0 = 0 := rfl
            have c108 := congrArg Int32.toInt c108
            refine lv_aload_n (pc := 82) C0.1 C0.2.1 dX7_scan_82 rfl (lv_at hl 2 rfl) ?_
            refine lv_bipush (pc := 83) (v := 9) C0.1 C0.2.1 dX7_scan_83 (by decide) ?_
            refine xcVI (pc := 85) 6 [.int 9] (g_X6_firstPlaceOf_6 l D tA b iv Fv Gv 9 (show 0 ≤ Int32.toInt (iv 6 1) ∧ Int32.toInt (iv 6 1) ≤ 600 from by omega)) C0 hH hS clX6 rfl ⟨⟨Nat.le_of_ble_eq_true rfl, Nat.le_of_ble_eq_true rfl⟩, rfl, rfl⟩ cw_X7_71 rfl ⟨Nat.le_of_ble_eq_true rfl, Nat.le_of_ble_eq_true rfl⟩ hl.1 rfl (Nat.le_of_ble_eq_true rfl) dX7_scan_85 ⟨Nat.le_of_ble_eq_true rfl, Nat.le_of_ble_eq_true rfl⟩ (fun r109 ir109 Fr109 Gr109 _ locs hp hH hS => ?_)
            obtain ⟨hu, hpr109⟩ := hp
            cases hu
            refine lv_goto (pc := 88) (tgt := 93) C0.1 C0.2.1 dX7_scan_88 (by decide) ?_
            refine lv_istore_n (pc := 93) (lv' := [(3, .int r109), (0, .ref (b + 40)), (1, .ref (b + 6)), (2, .ref (b + 1))]) C0.1 C0.2.1 dX7_scan_93 rfl hl (by decide) rfl (fun ls hl => ?_)
            refine lv_iload_n (pc := 94) C0.1 C0.2.1 dX7_scan_94 rfl (lv_at hl 0 rfl) ?_
            refine lv_bipush (pc := 95) (v := (-9)) C0.1 C0.2.1 dX7_scan_95 (by decide) ?_
            refine lv_icmp_eq (pc := 97) (tgt := 125) C0.1 C0.2.1 dX7_scan_97 (by decide) (fun c110 => ?_) (fun c110 => ?_)
            · have : Int32.toInt (-9) = (-9) := rfl
              have c110 := congrArg Int32.toInt c110
              exact xvret (pc := 125) C0 hr hH hS dX7_scan_125 ⟨h3, h4.1, h4.2, h5⟩
            · have : Int32.toInt (-9) = (-9) := rfl
              have c110 : ¬ _ := fun q => c110 (Int32.toInt_inj.mp q)
              refine lv_aload_n (pc := 100) C0.1 C0.2.1 dX7_scan_100 rfl (lv_at hl 1 rfl) ?_
              refine xget (pc := 101) C0 hH 40 8 clX7 ⟨Nat.le_of_ble_eq_true rfl, Nat.le_of_ble_eq_true rfl⟩ ⟨rfl, rfl⟩ (Nat.le_of_ble_eq_true rfl) fl_X7_38 (v := .int (iv 40 8)) rfl dX7_scan_101 ?_
              refine lv_if_eq (pc := 104) (tgt := 115) C0.1 C0.2.1 dX7_scan_104 (by decide) (fun c111 => ?_) (fun c111 => ?_)
              · have : Int32.toInt 0 = 0 := rfl
                have c111 := congrArg Int32.toInt c111
                refine lv_aload_n (pc := 115) C0.1 C0.2.1 dX7_scan_115 rfl (lv_at hl 1 rfl) ?_
                refine lv_iconst (pc := 116) (v := 2) C0.1 C0.2.1 dX7_scan_116 (by decide) ?_
                refine xputI (pc := 117) C0 (Nat.le_of_ble_eq_true rfl) hH hS 40 8 clX7 ⟨Nat.le_of_ble_eq_true rfl, Nat.le_of_ble_eq_true rfl⟩ ⟨rfl, rfl⟩ ⟨Nat.le_of_ble_eq_true rfl, rfl, rfl⟩ fl_X7_38 (x := 2) ⟨rfl, rfl⟩ dX7_scan_117 (fun _ locs hH hS _ => ?_)
                have hH : Hd D tA b 0 78 zz (up2 iv 40 8 2) Fv Gv _ := hH
                refine lv_aload_n (pc := 120) C0.1 C0.2.1 dX7_scan_120 rfl (lv_at hl 1 rfl) ?_
                refine lv_iload_n (pc := 121) C0.1 C0.2.1 dX7_scan_121 rfl (lv_at hl 0 rfl) ?_
                refine xputI (pc := 122) C0 (Nat.le_of_ble_eq_true rfl) hH hS 40 9 clX7 ⟨Nat.le_of_ble_eq_true rfl, Nat.le_of_ble_eq_true rfl⟩ ⟨rfl, rfl⟩ ⟨Nat.le_of_ble_eq_true rfl, rfl, rfl⟩ fl_X7_41 (x := r109) ⟨rfl, rfl⟩ dX7_scan_122 (fun _ locs hH hS _ => ?_)
                have hH : Hd D tA b 0 78 zz (up2 (up2 iv 40 8 2) 40 9 r109) Fv Gv _ := hH
                exact xvret (pc := 125) C0 hr hH hS dX7_scan_125 ⟨(On.i (On.i h3 (by decide)) (by decide)), h4.1, h4.2, h5⟩
              · have : Int32.toInt 0 = 0 := rfl
                have c111 : ¬ _ := fun q => c111 (Int32.toInt_inj.mp q)
                refine lv_iload_n (pc := 107) C0.1 C0.2.1 dX7_scan_107 rfl (lv_at hl 0 rfl) ?_
                refine lv_aload_n (pc := 108) C0.1 C0.2.1 dX7_scan_108 rfl (lv_at hl 1 rfl) ?_
                refine xget (pc := 109) C0 hH 40 9 clX7 ⟨Nat.le_of_ble_eq_true rfl, Nat.le_of_ble_eq_true rfl⟩ ⟨rfl, rfl⟩ (Nat.le_of_ble_eq_true rfl) fl_X7_41 (v := .int (iv 40 9)) rfl dX7_scan_109 ?_
                refine lv_icmp_ge (pc := 112) (tgt := 125) C0.1 C0.2.1 dX7_scan_112 (by decide) (fun c112 => ?_) (fun c112 => ?_)
                · have c112 := Int32.le_iff_toInt_le.mp c112
                  exact xvret (pc := 125) C0 hr hH hS dX7_scan_125 ⟨h3, h4.1, h4.2, h5⟩
                · have c112 : ¬ _ := fun q => c112 (Int32.le_iff_toInt_le.mpr q)
                  refine lv_aload_n (pc := 115) C0.1 C0.2.1 dX7_scan_115 rfl (lv_at hl 1 rfl) ?_
                  refine lv_iconst (pc := 116) (v := 2) C0.1 C0.2.1 dX7_scan_116 (by decide) ?_
                  refine xputI (pc := 117) C0 (Nat.le_of_ble_eq_true rfl) hH hS 40 8 clX7 ⟨Nat.le_of_ble_eq_true rfl, Nat.le_of_ble_eq_true rfl⟩ ⟨rfl, rfl⟩ ⟨Nat.le_of_ble_eq_true rfl, rfl, rfl⟩ fl_X7_38 (x := 2) ⟨rfl, rfl⟩ dX7_scan_117 (fun _ locs hH hS _ => ?_)
                  have hH : Hd D tA b 0 78 zz (up2 iv 40 8 2) Fv Gv _ := hH
                  refine lv_aload_n (pc := 120) C0.1 C0.2.1 dX7_scan_120 rfl (lv_at hl 1 rfl) ?_
                  refine lv_iload_n (pc := 121) C0.1 C0.2.1 dX7_scan_121 rfl (lv_at hl 0 rfl) ?_
                  refine xputI (pc := 122) C0 (Nat.le_of_ble_eq_true rfl) hH hS 40 9 clX7 ⟨Nat.le_of_ble_eq_true rfl, Nat.le_of_ble_eq_true rfl⟩ ⟨rfl, rfl⟩ ⟨Nat.le_of_ble_eq_true rfl, rfl, rfl⟩ fl_X7_41 (x := r109) ⟨rfl, rfl⟩ dX7_scan_122 (fun _ locs hH hS _ => ?_)
                  have hH : Hd D tA b 0 78 zz (up2 (up2 iv 40 8 2) 40 9 r109) Fv Gv _ := hH
                  exact xvret (pc := 125) C0 hr hH hS dX7_scan_125 ⟨(On.i (On.i h3 (by decide)) (by decide)), h4.1, h4.2, h5⟩
        · have c107 : ¬ _ := fun q => c107 (Int32.le_iff_toInt_le.mpr q)
          refine lv_aload_n (pc := 56) C0.1 C0.2.1 dX7_scan_56 rfl (lv_at hl 1 rfl) ?_
          refine xget (pc := 57) C0 hH 40 8 clX7 ⟨Nat.le_of_ble_eq_true rfl, Nat.le_of_ble_eq_true rfl⟩ ⟨rfl, rfl⟩ (Nat.le_of_ble_eq_true rfl) fl_X7_38 (v := .int (iv 40 8)) rfl dX7_scan_57 ?_
          refine lv_if_ne (pc := 60) (tgt := 75) C0.1 C0.2.1 dX7_scan_60 (by decide) (fun c113 => ?_) (fun c113 => ?_)
          · have : Int32.toInt 0 = 0 := rfl
            have c113 : ¬ _ := fun q => c113 (Int32.toInt_inj.mp q)
            refine lv_aload_n (pc := 75) C0.1 C0.2.1 dX7_scan_75 rfl (lv_at hl 3 rfl) ?_
            refine xget (pc := 76) C0 hH 1 7 clX1 ⟨Nat.le_of_ble_eq_true rfl, Nat.le_of_ble_eq_true rfl⟩ ⟨rfl, rfl⟩ (Nat.le_of_ble_eq_true rfl) fl_X7_66 (v := .int (iv 1 7)) rfl dX7_scan_76 ?_
            refine lv_if_ne (pc := 79) (tgt := 91) C0.1 C0.2.1 dX7_scan_79 (by decide) (fun c114 => ?_) (fun c114 => ?_)
            · have : Int32.toInt 0 = 0 := rfl
              have c114 : ¬ _ := fun q => c114 (Int32.toInt_inj.mp q)
              refine lv_bipush (pc := 91) (v := (-9)) C0.1 C0.2.1 dX7_scan_91 (by decide) ?_
              refine lv_istore_n (pc := 93) (lv' := [(3, .int (-9)), (0, .ref (b + 40)), (1, .ref (b + 6)), (2, .ref (b + 1))]) C0.1 C0.2.1 dX7_scan_93 rfl hl (by decide) rfl (fun ls hl => ?_)
              refine lv_iload_n (pc := 94) C0.1 C0.2.1 dX7_scan_94 rfl (lv_at hl 0 rfl) ?_
              refine lv_bipush (pc := 95) (v := (-9)) C0.1 C0.2.1 dX7_scan_95 (by decide) ?_
              refine lv_icmp_eq (pc := 97) (tgt := 125) C0.1 C0.2.1 dX7_scan_97 (by decide) (fun _ => ?_) (fun c => absurd (by decide) c)
              exact xvret (pc := 125) C0 hr hH hS dX7_scan_125 ⟨h3, h4.1, h4.2, h5⟩
            · have : Int32.toInt 0 = 0 := rfl
              have c114 := congrArg Int32.toInt c114
              refine lv_aload_n (pc := 82) C0.1 C0.2.1 dX7_scan_82 rfl (lv_at hl 2 rfl) ?_
              refine lv_bipush (pc := 83) (v := 9) C0.1 C0.2.1 dX7_scan_83 (by decide) ?_
              refine xcVI (pc := 85) 6 [.int 9] (g_X6_firstPlaceOf_6 l D tA b iv Fv Gv 9 (show 0 ≤ Int32.toInt (iv 6 1) ∧ Int32.toInt (iv 6 1) ≤ 600 from by omega)) C0 hH hS clX6 rfl ⟨⟨Nat.le_of_ble_eq_true rfl, Nat.le_of_ble_eq_true rfl⟩, rfl, rfl⟩ cw_X7_71 rfl ⟨Nat.le_of_ble_eq_true rfl, Nat.le_of_ble_eq_true rfl⟩ hl.1 rfl (Nat.le_of_ble_eq_true rfl) dX7_scan_85 ⟨Nat.le_of_ble_eq_true rfl, Nat.le_of_ble_eq_true rfl⟩ (fun r115 ir115 Fr115 Gr115 _ locs hp hH hS => ?_)
              obtain ⟨hu, hpr115⟩ := hp
              cases hu
              refine lv_goto (pc := 88) (tgt := 93) C0.1 C0.2.1 dX7_scan_88 (by decide) ?_
              refine lv_istore_n (pc := 93) (lv' := [(3, .int r115), (0, .ref (b + 40)), (1, .ref (b + 6)), (2, .ref (b + 1))]) C0.1 C0.2.1 dX7_scan_93 rfl hl (by decide) rfl (fun ls hl => ?_)
              refine lv_iload_n (pc := 94) C0.1 C0.2.1 dX7_scan_94 rfl (lv_at hl 0 rfl) ?_
              refine lv_bipush (pc := 95) (v := (-9)) C0.1 C0.2.1 dX7_scan_95 (by decide) ?_
              refine lv_icmp_eq (pc := 97) (tgt := 125) C0.1 C0.2.1 dX7_scan_97 (by decide) (fun c116 => ?_) (fun c116 => ?_)
              · have : Int32.toInt (-9) = (-9) := rfl
                have c116 := congrArg Int32.toInt c116
                exact xvret (pc := 125) C0 hr hH hS dX7_scan_125 ⟨h3, h4.1, h4.2, h5⟩
              · have : Int32.toInt (-9) = (-9) := rfl
                have c116 : ¬ _ := fun q => c116 (Int32.toInt_inj.mp q)
                refine lv_aload_n (pc := 100) C0.1 C0.2.1 dX7_scan_100 rfl (lv_at hl 1 rfl) ?_
                refine xget (pc := 101) C0 hH 40 8 clX7 ⟨Nat.le_of_ble_eq_true rfl, Nat.le_of_ble_eq_true rfl⟩ ⟨rfl, rfl⟩ (Nat.le_of_ble_eq_true rfl) fl_X7_38 (v := .int (iv 40 8)) rfl dX7_scan_101 ?_
                refine lv_if_eq (pc := 104) (tgt := 115) C0.1 C0.2.1 dX7_scan_104 (by decide) (fun c117 => ?_) (fun c117 => ?_)
                · have : Int32.toInt 0 = 0 := rfl
                  have c117 := congrArg Int32.toInt c117
                  refine lv_aload_n (pc := 115) C0.1 C0.2.1 dX7_scan_115 rfl (lv_at hl 1 rfl) ?_
                  refine lv_iconst (pc := 116) (v := 2) C0.1 C0.2.1 dX7_scan_116 (by decide) ?_
                  refine xputI (pc := 117) C0 (Nat.le_of_ble_eq_true rfl) hH hS 40 8 clX7 ⟨Nat.le_of_ble_eq_true rfl, Nat.le_of_ble_eq_true rfl⟩ ⟨rfl, rfl⟩ ⟨Nat.le_of_ble_eq_true rfl, rfl, rfl⟩ fl_X7_38 (x := 2) ⟨rfl, rfl⟩ dX7_scan_117 (fun _ locs hH hS _ => ?_)
                  have hH : Hd D tA b 0 78 zz (up2 iv 40 8 2) Fv Gv _ := hH
                  refine lv_aload_n (pc := 120) C0.1 C0.2.1 dX7_scan_120 rfl (lv_at hl 1 rfl) ?_
                  refine lv_iload_n (pc := 121) C0.1 C0.2.1 dX7_scan_121 rfl (lv_at hl 0 rfl) ?_
                  refine xputI (pc := 122) C0 (Nat.le_of_ble_eq_true rfl) hH hS 40 9 clX7 ⟨Nat.le_of_ble_eq_true rfl, Nat.le_of_ble_eq_true rfl⟩ ⟨rfl, rfl⟩ ⟨Nat.le_of_ble_eq_true rfl, rfl, rfl⟩ fl_X7_41 (x := r115) ⟨rfl, rfl⟩ dX7_scan_122 (fun _ locs hH hS _ => ?_)
                  have hH : Hd D tA b 0 78 zz (up2 (up2 iv 40 8 2) 40 9 r115) Fv Gv _ := hH
                  exact xvret (pc := 125) C0 hr hH hS dX7_scan_125 ⟨(On.i (On.i h3 (by decide)) (by decide)), h4.1, h4.2, h5⟩
                · have : Int32.toInt 0 = 0 := rfl
                  have c117 : ¬ _ := fun q => c117 (Int32.toInt_inj.mp q)
                  refine lv_iload_n (pc := 107) C0.1 C0.2.1 dX7_scan_107 rfl (lv_at hl 0 rfl) ?_
                  refine lv_aload_n (pc := 108) C0.1 C0.2.1 dX7_scan_108 rfl (lv_at hl 1 rfl) ?_
                  refine xget (pc := 109) C0 hH 40 9 clX7 ⟨Nat.le_of_ble_eq_true rfl, Nat.le_of_ble_eq_true rfl⟩ ⟨rfl, rfl⟩ (Nat.le_of_ble_eq_true rfl) fl_X7_41 (v := .int (iv 40 9)) rfl dX7_scan_109 ?_
                  refine lv_icmp_ge (pc := 112) (tgt := 125) C0.1 C0.2.1 dX7_scan_112 (by decide) (fun c118 => ?_) (fun c118 => ?_)
                  · have c118 := Int32.le_iff_toInt_le.mp c118
                    exact xvret (pc := 125) C0 hr hH hS dX7_scan_125 ⟨h3, h4.1, h4.2, h5⟩
                  · have c118 : ¬ _ := fun q => c118 (Int32.le_iff_toInt_le.mpr q)
                    refine lv_aload_n (pc := 115) C0.1 C0.2.1 dX7_scan_115 rfl (lv_at hl 1 rfl) ?_
                    refine lv_iconst (pc := 116) (v := 2) C0.1 C0.2.1 dX7_scan_116 (by decide) ?_
                    refine xputI (pc := 117) C0 (Nat.le_of_ble_eq_true rfl) hH hS 40 8 clX7 ⟨Nat.le_of_ble_eq_true rfl, Nat.le_of_ble_eq_true rfl⟩ ⟨rfl, rfl⟩ ⟨Nat.le_of_ble_eq_true rfl, rfl, rfl⟩ fl_X7_38 (x := 2) ⟨rfl, rfl⟩ dX7_scan_117 (fun _ locs hH hS _ => ?_)
                    have hH : Hd D tA b 0 78 zz (up2 iv 40 8 2) Fv Gv _ := hH
                    refine lv_aload_n (pc := 120) C0.1 C0.2.1 dX7_scan_120 rfl (lv_at hl 1 rfl) ?_
                    refine lv_iload_n (pc := 121) C0.1 C0.2.1 dX7_scan_121 rfl (lv_at hl 0 rfl) ?_
                    refine xputI (pc := 122) C0 (Nat.le_of_ble_eq_true rfl) hH hS 40 9 clX7 ⟨Nat.le_of_ble_eq_true rfl, Nat.le_of_ble_eq_true rfl⟩ ⟨rfl, rfl⟩ ⟨Nat.le_of_ble_eq_true rfl, rfl, rfl⟩ fl_X7_41 (x := r115) ⟨rfl, rfl⟩ dX7_scan_122 (fun _ locs hH hS _ => ?_)
                    have hH : Hd D tA b 0 78 zz (up2 (up2 iv 40 8 2) 40 9 r115) Fv Gv _ := hH
                    exact xvret (pc := 125) C0 hr hH hS dX7_scan_125 ⟨(On.i (On.i h3 (by decide)) (by decide)), h4.1, h4.2, h5⟩
          · have : Int32.toInt 0 = 0 := rfl
            have c113 := congrArg Int32.toInt c113
            refine lv_aload_n (pc := 63) C0.1 C0.2.1 dX7_scan_63 rfl (lv_at hl 1 rfl) ?_
            refine lv_aload_n (pc := 64) C0.1 C0.2.1 dX7_scan_64 rfl (lv_at hl 2 rfl) ?_
            refine lv_aload_n (pc := 65) C0.1 C0.2.1 dX7_scan_65 rfl (lv_at hl 3 rfl) ?_
            refine xcVV (pc := 66) 40 [.ref (b + 6), .ref (b + 1)] (g_X7_scanNext_40 l D tA b iv Fv Gv  (show 0 ≤ Int32.toInt (iv 6 1) ∧ Int32.toInt (iv 6 1) ≤ 600 from by omega) (show 0 ≤ Int32.toInt (iv 40 7) ∧ Int32.toInt (iv 40 7) ≤ 600 from by omega) h5 (show 0 ≤ Int32.toInt (iv 1 2) ∧ Int32.toInt (iv 1 2) ≤ 24 from by omega)) C0 hH hS clX7 rfl ⟨⟨Nat.le_of_ble_eq_true rfl, Nat.le_of_ble_eq_true rfl⟩, rfl, rfl⟩ cw_X7_62 rfl ⟨Nat.le_of_ble_eq_true rfl, Nat.le_of_ble_eq_true rfl⟩ hl.1 rfl (Nat.le_of_ble_eq_true rfl) dX7_scan_66 ⟨Nat.le_of_ble_eq_true rfl, Nat.le_of_ble_eq_true rfl⟩ (fun ir119 Fr119 Gr119 _ locs hp hH hS => ?_)
            obtain ⟨honr119, ht1r119, ht2r119, htfr119⟩ := hp
            try dsimp only at ht1r119 ht2r119 htfr119
            have ek_6_1r119 : Int32.toInt (ir119 6 1) = Int32.toInt (iv 6 1) := congrArg Int32.toInt (congrFun (honr119.1 6 (by decide)).1 1)
            have ek_1_2r119 : Int32.toInt (ir119 1 2) = Int32.toInt (iv 1 2) := congrArg Int32.toInt (congrFun (honr119.1 1 (by decide)).1 2)
            obtain ⟨x120, ex120⟩ : ∃ y_ : Int32, y_ = k + 1 := ⟨_, rfl⟩
            have : Int32.toInt 1 = 1 := rfl
            have hx120 : Int32.toInt x120 = Int32.toInt k + Int32.toInt 1 := by rw [ex120]; exact fb_addI (by omega) (by omega)
            refine lv_iinc (pc := 69) (v := x120) (lv' := [(3, .int x120), (0, .ref (b + 40)), (1, .ref (b + 6)), (2, .ref (b + 1))]) C0.1 C0.2.1 dX7_scan_69 hl (k := 0) rfl (by rw [ex120]; rfl) (by decide) rfl (fun ls hl => ?_)
            refine lv_goto (pc := 72) (tgt := 38) C0.1 C0.2.1 dX7_scan_72 (by decide) ?_
            exact ih x120 ir119 Fr119 Gr119 _ _ _ (by omega) (by omega) (On.tr h3 honr119 (by decide) (by decide)) ⟨by omega, by omega⟩ htfr119 hH hS (lv_sub hl [0, 1, 2, 3] rfl)
  refine lv_aload_n (pc := 0) C0.1 C0.2.1 dX7_scan_0 rfl (lv_at hl 0 rfl) ?_
  refine lv_iconst (pc := 1) (v := 0) C0.1 C0.2.1 dX7_scan_1 (by decide) ?_
  refine xputI (pc := 2) C0 (Nat.le_of_ble_eq_true rfl) hH hS 40 7 clX7 ⟨Nat.le_of_ble_eq_true rfl, Nat.le_of_ble_eq_true rfl⟩ ⟨rfl, rfl⟩ ⟨Nat.le_of_ble_eq_true rfl, rfl, rfl⟩ fl_X7_34 (x := 0) ⟨rfl, rfl⟩ dX7_scan_2 (fun _ locs hH hS _ => ?_)
  have hH : Hd D tA b 0 78 zz (up2 i 40 7 0) F G _ := hH
  refine lv_aload_n (pc := 5) C0.1 C0.2.1 dX7_scan_5 rfl (lv_at hl 0 rfl) ?_
  refine lv_iconst (pc := 6) (v := 0) C0.1 C0.2.1 dX7_scan_6 (by decide) ?_
  refine xputI (pc := 7) C0 (Nat.le_of_ble_eq_true rfl) hH hS 40 8 clX7 ⟨Nat.le_of_ble_eq_true rfl, Nat.le_of_ble_eq_true rfl⟩ ⟨rfl, rfl⟩ ⟨Nat.le_of_ble_eq_true rfl, rfl, rfl⟩ fl_X7_38 (x := 0) ⟨rfl, rfl⟩ dX7_scan_7 (fun _ locs hH hS _ => ?_)
  have hH : Hd D tA b 0 78 zz (up2 (up2 i 40 7 0) 40 8 0) F G _ := hH
  refine lv_aload_n (pc := 10) C0.1 C0.2.1 dX7_scan_10 rfl (lv_at hl 0 rfl) ?_
  refine lv_bipush (pc := 11) (v := (-9)) C0.1 C0.2.1 dX7_scan_11 (by decide) ?_
  refine xputI (pc := 13) C0 (Nat.le_of_ble_eq_true rfl) hH hS 40 9 clX7 ⟨Nat.le_of_ble_eq_true rfl, Nat.le_of_ble_eq_true rfl⟩ ⟨rfl, rfl⟩ ⟨Nat.le_of_ble_eq_true rfl, rfl, rfl⟩ fl_X7_41 (x := (-9)) ⟨rfl, rfl⟩ dX7_scan_13 (fun _ locs hH hS _ => ?_)
  have hH : Hd D tA b 0 78 zz (up2 (up2 (up2 i 40 7 0) 40 8 0) 40 9 (-9)) F G _ := hH
  refine lv_aload_n (pc := 16) C0.1 C0.2.1 dX7_scan_16 rfl (lv_at hl 0 rfl) ?_
  refine lv_iconst (pc := 17) (v := 0) C0.1 C0.2.1 dX7_scan_17 (by decide) ?_
  refine xputI (pc := 18) C0 (Nat.le_of_ble_eq_true rfl) hH hS 40 10 clX7 ⟨Nat.le_of_ble_eq_true rfl, Nat.le_of_ble_eq_true rfl⟩ ⟨rfl, rfl⟩ ⟨Nat.le_of_ble_eq_true rfl, rfl, rfl⟩ fl_X7_44 (x := 0) ⟨rfl, rfl⟩ dX7_scan_18 (fun _ locs hH hS _ => ?_)
  have hH : Hd D tA b 0 78 zz (up2 (up2 (up2 (up2 i 40 7 0) 40 8 0) 40 9 (-9)) 40 10 0) F G _ := hH
  refine lv_aload_n (pc := 21) C0.1 C0.2.1 dX7_scan_21 rfl (lv_at hl 0 rfl) ?_
  refine lv_iconst (pc := 22) (v := 0) C0.1 C0.2.1 dX7_scan_22 (by decide) ?_
  refine xputI (pc := 23) C0 (Nat.le_of_ble_eq_true rfl) hH hS 40 11 clX7 ⟨Nat.le_of_ble_eq_true rfl, Nat.le_of_ble_eq_true rfl⟩ ⟨rfl, rfl⟩ ⟨Nat.le_of_ble_eq_true rfl, rfl, rfl⟩ fl_X7_47 (x := 0) ⟨rfl, rfl⟩ dX7_scan_23 (fun _ locs hH hS _ => ?_)
  have hH : Hd D tA b 0 78 zz (up2 (up2 (up2 (up2 (up2 i 40 7 0) 40 8 0) 40 9 (-9)) 40 10 0) 40 11 0) F G _ := hH
  refine lv_aload_n (pc := 26) C0.1 C0.2.1 dX7_scan_26 rfl (lv_at hl 0 rfl) ?_
  refine lv_iconst (pc := 27) (v := 0) C0.1 C0.2.1 dX7_scan_27 (by decide) ?_
  refine xputI (pc := 28) C0 (Nat.le_of_ble_eq_true rfl) hH hS 40 12 clX7 ⟨Nat.le_of_ble_eq_true rfl, Nat.le_of_ble_eq_true rfl⟩ ⟨rfl, rfl⟩ ⟨Nat.le_of_ble_eq_true rfl, rfl, rfl⟩ fl_X7_50 (x := 0) ⟨rfl, rfl⟩ dX7_scan_28 (fun _ locs hH hS _ => ?_)
  have hH : Hd D tA b 0 78 zz (up2 (up2 (up2 (up2 (up2 (up2 i 40 7 0) 40 8 0) 40 9 (-9)) 40 10 0) 40 11 0) 40 12 0) F G _ := hH
  refine lv_aload_n (pc := 31) C0.1 C0.2.1 dX7_scan_31 rfl (lv_at hl 0 rfl) ?_
  refine lv_iconst (pc := 32) (v := 1) C0.1 C0.2.1 dX7_scan_32 (by decide) ?_
  refine xputI (pc := 33) C0 (Nat.le_of_ble_eq_true rfl) hH hS 40 13 clX7 ⟨Nat.le_of_ble_eq_true rfl, Nat.le_of_ble_eq_true rfl⟩ ⟨rfl, rfl⟩ ⟨Nat.le_of_ble_eq_true rfl, rfl, rfl⟩ fl_X7_53 (x := 1) ⟨rfl, rfl⟩ dX7_scan_33 (fun _ locs hH hS _ => ?_)
  have hH : Hd D tA b 0 78 zz (up2 (up2 (up2 (up2 (up2 (up2 (up2 i 40 7 0) 40 8 0) 40 9 (-9)) 40 10 0) 40 11 0) 40 12 0) 40 13 1) F G _ := hH
  refine lv_iconst (pc := 36) (v := 0) C0.1 C0.2.1 dX7_scan_36 (by decide) ?_
  refine lv_istore_n (pc := 37) (lv' := [(3, .int 0), (0, .ref (b + 40)), (1, .ref (b + 6)), (2, .ref (b + 1))]) C0.1 C0.2.1 dX7_scan_37 rfl hl (by decide) rfl (fun ls hl => ?_)
  exact LOOP 600 0 (up2 (up2 (up2 (up2 (up2 (up2 (up2 i 40 7 0) 40 8 0) 40 9 (-9)) 40 10 0) 40 11 0) 40 12 0) 40 13 1) F G _ _ _ (by have : Int32.toInt 0 = 0 := rfl; omega) (by have : Int32.toInt 0 = 0 := rfl; omega) (On.i (On.i (On.i (On.i (On.i (On.i (On.i On.rf (by decide)) (by decide)) (by decide)) (by decide)) (by decide)) (by decide)) (by decide)) ⟨by show 0 ≤ Int32.toInt 0; decide, by show Int32.toInt 0 ≤ 600; decide⟩ (Or.inr rfl) hH hS (lv_sub hl [0, 1, 2, 3] rfl)
