set_option maxRecDepth 20000 in
theorem cw_X8_101 : CwV RX8 101 yX8_top cX8_top 1 (some .int) 0 := ⟨wm 720 (by decide +kernel) rfl, wm 722 (by decide +kernel) rfl, wms 12 (by decide +kernel) rfl, wm 6 (by decide +kernel) rfl, wm 723 rfl rfl, by decide +kernel⟩
set_option maxRecDepth 20000 in
theorem fl_X8_142 : Cond.fieldLink RX8 142 (TX7 1).1 (TX7 1).2.1 (TX7 1).2.2.1 ∈ WALL := wm 97 (by decide +kernel) rfl
set_option maxRecDepth 20000 in
theorem cw_X8_145 : CwV RX8 145 yX8_fail cX8_fail 3 none 2 := ⟨wm 731 (by decide +kernel) rfl, wm 733 (by decide +kernel) rfl, wms 14 (by decide +kernel) rfl, wm 6 (by decide +kernel) rfl, wm 734 rfl rfl, by decide +kernel⟩
set_option maxRecDepth 20000 in
theorem fl_X8_160 : Cond.fieldLink RX8 160 (TX0 7).1 (TX0 7).2.1 (TX0 7).2.2.1 ∈ WALL := wm 189 (by decide +kernel) rfl
set_option maxRecDepth 20000 in
theorem fl_X8_108 : Cond.fieldLink RX8 108 (TX7 5).1 (TX7 5).2.1 (TX7 5).2.2.1 ∈ WALL := wm 108 (by decide +kernel) rfl
set_option maxRecDepth 20000 in
theorem fl_X8_122 : Cond.fieldLink RX8 122 (TX7 4).1 (TX7 4).2.1 (TX7 4).2.2.1 ∈ WALL := wm 105 (by decide +kernel) rfl
set_option maxRecDepth 20000 in
theorem fl_X8_131 : Cond.fieldLink RX8 131 (TX0 1).1 (TX0 1).2.1 (TX0 1).2.2.1 ∈ WALL := wm 170 (by decide +kernel) rfl
set_option maxRecDepth 20000 in
theorem cw_X8_136 : CwV RX8 136 yX8_beginItem cX8_beginItem 3 (some .int) 1 := ⟨wm 747 (by decide +kernel) rfl, wm 749 (by decide +kernel) rfl, wms 16 (by decide +kernel) rfl, wm 6 (by decide +kernel) rfl, wm 750 rfl rfl, by decide +kernel⟩
set_option maxRecDepth 20000 in
theorem cw_X8_139 : CwN RX8 "IndentReader" 139 yX9_isSecond cX9_isSecond 1 (some .boolean) 1 := ⟨nm_ 728 (by decide +kernel) rfl, wm 1 (by decide +kernel) rfl, wm 730 rfl rfl, by decide +kernel⟩
set_option maxRecDepth 20000 in
theorem st_X9_isSecond : Cond.static yX9_isSecond ∈ WALL := wm 729 (by decide +kernel) rfl
set_option maxRecDepth 20000 in
theorem cw_X8_157 : CwV RX8 157 yX8_itemOfHead cX8_itemOfHead 5 (some .int) 2 := ⟨wm 767 (by decide +kernel) rfl, wm 769 (by decide +kernel) rfl, wms 20 (by decide +kernel) rfl, wm 6 (by decide +kernel) rfl, wm 770 rfl rfl, by decide +kernel⟩
set_option maxRecDepth 20000 in
theorem cw_X8_154 : CwV RX8 154 yX8_itemBehindBracket cX8_itemBehindBracket 5 (some .int) 2 := ⟨wm 763 (by decide +kernel) rfl, wm 765 (by decide +kernel) rfl, wms 19 (by decide +kernel) rfl, wm 6 (by decide +kernel) rfl, wm 766 rfl rfl, by decide +kernel⟩
set_option maxRecDepth 20000 in
theorem cw_X8_151 : CwV RX8 151 yX8_levelOfLet cX8_levelOfLet 3 (some .int) 0 := ⟨wm 759 (by decide +kernel) rfl, wm 761 (by decide +kernel) rfl, wms 18 (by decide +kernel) rfl, wm 6 (by decide +kernel) rfl, wm 762 rfl rfl, by decide +kernel⟩
set_option maxRecDepth 20000 in
theorem fl_X8_53 : Cond.fieldLink RX8 53 (TX8 8).1 (TX8 8).2.1 (TX8 8).2.2.1 ∈ WALL := wm 286 (by decide +kernel) rfl
set_option maxRecDepth 20000 in
theorem cw_X8_132 : CwV RX8 132 yX8_beginBlock cX8_beginBlock 6 (some .int) 4 := ⟨wm 735 (by decide +kernel) rfl, wm 737 (by decide +kernel) rfl, wms 15 (by decide +kernel) rfl, wm 6 (by decide +kernel) rfl, wm 738 rfl rfl, by decide +kernel⟩
set_option maxRecDepth 20000 in
theorem cw_X8_63 : CwV RX8 63 yX8_pileUp cX8_pileUp 2 none 1 := ⟨wm 708 (by decide +kernel) rfl, wm 710 (by decide +kernel) rfl, wms 10 (by decide +kernel) rfl, wm 6 (by decide +kernel) rfl, wm 711 rfl rfl, by decide +kernel⟩
set_option maxRecDepth 20000 in
theorem fl_X8_56 : Cond.fieldLink RX8 56 (TX8 9).1 (TX8 9).2.1 (TX8 9).2.2.1 ∈ WALL := wm 287 (by decide +kernel) rfl
set_option maxRecDepth 20000 in
theorem cw_X8_128 : CwN RX8 "IndentReader" 128 yX9_isFirst cX9_isFirst 1 (some .boolean) 1 := ⟨nm_ 772 (by decide +kernel) rfl, wm 1 (by decide +kernel) rfl, wm 774 rfl rfl, by decide +kernel⟩
set_option maxRecDepth 20000 in
theorem st_X9_isFirst : Cond.static yX9_isFirst ∈ WALL := wm 773 (by decide +kernel) rfl
set_option maxRecDepth 20000 in
theorem cw_X8_125 : CwN RX8 "IndentReader" 125 yX9_isStepped cX9_isStepped 1 (some .boolean) 1 := ⟨nm_ 771 (by decide +kernel) rfl, wm 1 (by decide +kernel) rfl, wm 534 rfl rfl, by decide +kernel⟩
set_option maxRecDepth 20000 in
theorem st_X9_isStepped : Cond.static yX9_isStepped ∈ WALL := wm 533 (by decide +kernel) rfl
set_option maxRecDepth 20000 in
theorem cw_X8_111 : CwV RX8 111 yX8_itemBehindOpener cX8_itemBehindOpener 8 (some .int) 2 := ⟨wm 724 (by decide +kernel) rfl, wm 726 (by decide +kernel) rfl, wms 13 (by decide +kernel) rfl, wm 6 (by decide +kernel) rfl, wm 727 rfl rfl, by decide +kernel⟩
set_option maxRecDepth 20000 in
theorem cw_X8_115 : CwV RX8 115 yX8_itemElsewhere cX8_itemElsewhere 5 (some .int) 2 := ⟨wm 755 (by decide +kernel) rfl, wm 757 (by decide +kernel) rfl, wms 17 (by decide +kernel) rfl, wm 6 (by decide +kernel) rfl, wm 758 rfl rfl, by decide +kernel⟩
set_option maxRecDepth 20000 in
theorem fl_X8_105 : Cond.fieldLink RX8 105 (TX7 6).1 (TX7 6).2.1 (TX7 6).2.2.1 ∈ WALL := wm 111 (by decide +kernel) rfl
set_option maxRecDepth 20000 in
theorem fl_X8_67 : Cond.fieldLink RX8 67 (TX7 7).1 (TX7 7).2.1 (TX7 7).2.2.1 ∈ WALL := wm 113 (by decide +kernel) rfl
set_option maxRecDepth 20000 in
theorem fl_X8_43 : Cond.fieldLink RX8 43 (TX0 9).1 (TX0 9).2.1 (TX0 9).2.2.1 ∈ WALL := wm 194 (by decide +kernel) rfl
set_option maxRecDepth 20000 in
theorem fl_X8_47 : Cond.fieldLink RX8 47 (TX2 8).1 (TX2 8).2.1 (TX2 8).2.2.1 ∈ WALL := wm 247 (by decide +kernel) rfl
set_option maxRecDepth 20000 in
theorem cw_X8_77 : CwV RX8 77 yX8_spreadEnds cX8_spreadEnds 4 none 0 := ⟨wm 779 (by decide +kernel) rfl, wm 781 (by decide +kernel) rfl, wms 22 (by decide +kernel) rfl, wm 6 (by decide +kernel) rfl, wm 782 rfl rfl, by decide +kernel⟩
set_option maxRecDepth 20000 in
theorem cw_X8_74 : CwV RX8 74 yX8_finish cX8_finish 6 none 2 := ⟨wm 775 (by decide +kernel) rfl, wm 777 (by decide +kernel) rfl, wms 21 (by decide +kernel) rfl, wm 6 (by decide +kernel) rfl, wm 778 rfl rfl, by decide +kernel⟩
set_option maxRecDepth 20000 in
theorem cw_X8_70 : CwV RX8 70 yX8_take cX8_take 6 none 2 := ⟨wm 716 (by decide +kernel) rfl, wm 718 (by decide +kernel) rfl, wms 11 (by decide +kernel) rfl, wm 6 (by decide +kernel) rfl, wm 719 rfl rfl, by decide +kernel⟩
theorem dX8_itemBehindBracket_0 : decode cX8_itemBehindBracket 0 = .ok (.aload_n 0, 1) := by decide +kernel
theorem dX8_itemBehindBracket_1 : decode cX8_itemBehindBracket 1 = .ok (.invokevirtual 101, 3) := by decide +kernel
theorem dX8_itemBehindBracket_4 : decode cX8_itemBehindBracket 4 = .ok (.istore_n 3, 1) := by decide +kernel
theorem dX8_itemBehindBracket_5 : decode cX8_itemBehindBracket 5 = .ok (.aload_n 0, 1) := by decide +kernel
theorem dX8_itemBehindBracket_6 : decode cX8_itemBehindBracket 6 = .ok (.getfield 12, 3) := by decide +kernel
theorem dX8_itemBehindBracket_9 : decode cX8_itemBehindBracket 9 = .ok (.getfield 98, 3) := by decide +kernel
theorem dX8_itemBehindBracket_12 : decode cX8_itemBehindBracket 12 = .ok (.iload_n 3, 1) := by decide +kernel
theorem dX8_itemBehindBracket_13 : decode cX8_itemBehindBracket 13 = .ok (.iaload, 1) := by decide +kernel
theorem dX8_itemBehindBracket_14 : decode cX8_itemBehindBracket 14 = .ok (.iconst 4, 1) := by decide +kernel
theorem dX8_itemBehindBracket_15 : decode cX8_itemBehindBracket 15 = .ok (.if_icmp .ne 15, 3) := by decide +kernel
theorem dX8_itemBehindBracket_30 : decode cX8_itemBehindBracket 30 = .ok (.bipush (-9), 2) := by decide +kernel
theorem dX8_itemBehindBracket_32 : decode cX8_itemBehindBracket 32 = .ok (.istore 4, 2) := by decide +kernel
theorem dX8_itemBehindBracket_34 : decode cX8_itemBehindBracket 34 = .ok (.iload 4, 2) := by decide +kernel
theorem dX8_itemBehindBracket_36 : decode cX8_itemBehindBracket 36 = .ok (.ifCond .lt 31, 3) := by decide +kernel
theorem dX8_itemBehindBracket_67 : decode cX8_itemBehindBracket 67 = .ok (.aload_n 0, 1) := by decide +kernel
theorem dX8_itemBehindBracket_68 : decode cX8_itemBehindBracket 68 = .ok (.iconst 5, 1) := by decide +kernel
theorem dX8_itemBehindBracket_69 : decode cX8_itemBehindBracket 69 = .ok (.aload_n 1, 1) := by decide +kernel
theorem dX8_itemBehindBracket_70 : decode cX8_itemBehindBracket 70 = .ok (.getfield 142, 3) := by decide +kernel
theorem dX8_itemBehindBracket_73 : decode cX8_itemBehindBracket 73 = .ok (.iload_n 2, 1) := by decide +kernel
theorem dX8_itemBehindBracket_74 : decode cX8_itemBehindBracket 74 = .ok (.iaload, 1) := by decide +kernel
theorem dX8_itemBehindBracket_75 : decode cX8_itemBehindBracket 75 = .ok (.invokevirtual 145, 3) := by decide +kernel
theorem dX8_itemBehindBracket_78 : decode cX8_itemBehindBracket 78 = .ok (.bipush (-9), 2) := by decide +kernel
theorem dX8_itemBehindBracket_80 : decode cX8_itemBehindBracket 80 = .ok (.ireturn, 1) := by decide +kernel
theorem dX8_itemBehindBracket_18 : decode cX8_itemBehindBracket 18 = .ok (.aload_n 0, 1) := by decide +kernel
theorem dX8_itemBehindBracket_19 : decode cX8_itemBehindBracket 19 = .ok (.getfield 12, 3) := by decide +kernel
theorem dX8_itemBehindBracket_22 : decode cX8_itemBehindBracket 22 = .ok (.getfield 160, 3) := by decide +kernel
theorem dX8_itemBehindBracket_25 : decode cX8_itemBehindBracket 25 = .ok (.iload_n 3, 1) := by decide +kernel
theorem dX8_itemBehindBracket_26 : decode cX8_itemBehindBracket 26 = .ok (.iaload, 1) := by decide +kernel
theorem dX8_itemBehindBracket_27 : decode cX8_itemBehindBracket 27 = .ok (.goto 5, 3) := by decide +kernel
theorem dX8_itemBehindBracket_39 : decode cX8_itemBehindBracket 39 = .ok (.iload 4, 2) := by decide +kernel
theorem dX8_itemBehindBracket_41 : decode cX8_itemBehindBracket 41 = .ok (.iload_n 2, 1) := by decide +kernel
theorem dX8_itemBehindBracket_42 : decode cX8_itemBehindBracket 42 = .ok (.if_icmp .ge 25, 3) := by decide +kernel
theorem dX8_itemBehindBracket_45 : decode cX8_itemBehindBracket 45 = .ok (.aload_n 1, 1) := by decide +kernel
theorem dX8_itemBehindBracket_46 : decode cX8_itemBehindBracket 46 = .ok (.getfield 108, 3) := by decide +kernel
theorem dX8_itemBehindBracket_49 : decode cX8_itemBehindBracket 49 = .ok (.iload 4, 2) := by decide +kernel
theorem dX8_itemBehindBracket_51 : decode cX8_itemBehindBracket 51 = .ok (.iaload, 1) := by decide +kernel
theorem dX8_itemBehindBracket_52 : decode cX8_itemBehindBracket 52 = .ok (.bipush 10, 2) := by decide +kernel
theorem dX8_itemBehindBracket_54 : decode cX8_itemBehindBracket 54 = .ok (.isub, 1) := by decide +kernel
theorem dX8_itemBehindBracket_55 : decode cX8_itemBehindBracket 55 = .ok (.aload_n 1, 1) := by decide +kernel
theorem dX8_itemBehindBracket_56 : decode cX8_itemBehindBracket 56 = .ok (.getfield 108, 3) := by decide +kernel
theorem dX8_itemBehindBracket_59 : decode cX8_itemBehindBracket 59 = .ok (.iload_n 2, 1) := by decide +kernel
theorem dX8_itemBehindBracket_60 : decode cX8_itemBehindBracket 60 = .ok (.iaload, 1) := by decide +kernel
theorem dX8_itemBehindBracket_61 : decode cX8_itemBehindBracket 61 = .ok (.bipush 20, 2) := by decide +kernel
theorem dX8_itemBehindBracket_63 : decode cX8_itemBehindBracket 63 = .ok (.isub, 1) := by decide +kernel
theorem dX8_itemBehindBracket_64 : decode cX8_itemBehindBracket 64 = .ok (.if_icmp .eq 17, 3) := by decide +kernel
theorem dX8_itemBehindBracket_81 : decode cX8_itemBehindBracket 81 = .ok (.aload_n 0, 1) := by decide +kernel
theorem dX8_itemBehindBracket_82 : decode cX8_itemBehindBracket 82 = .ok (.dup, 1) := by decide +kernel
theorem dX8_itemBehindBracket_83 : decode cX8_itemBehindBracket 83 = .ok (.getfield 50, 3) := by decide +kernel
theorem dX8_itemBehindBracket_86 : decode cX8_itemBehindBracket 86 = .ok (.iconst 1, 1) := by decide +kernel
theorem dX8_itemBehindBracket_87 : decode cX8_itemBehindBracket 87 = .ok (.isub, 1) := by decide +kernel
theorem dX8_itemBehindBracket_88 : decode cX8_itemBehindBracket 88 = .ok (.putfield 50, 3) := by decide +kernel
theorem dX8_itemBehindBracket_91 : decode cX8_itemBehindBracket 91 = .ok (.aload_n 0, 1) := by decide +kernel
theorem dX8_itemBehindBracket_92 : decode cX8_itemBehindBracket 92 = .ok (.getfield 12, 3) := by decide +kernel
theorem dX8_itemBehindBracket_95 : decode cX8_itemBehindBracket 95 = .ok (.getfield 88, 3) := by decide +kernel
theorem dX8_itemBehindBracket_98 : decode cX8_itemBehindBracket 98 = .ok (.iload_n 3, 1) := by decide +kernel
theorem dX8_itemBehindBracket_99 : decode cX8_itemBehindBracket 99 = .ok (.iaload, 1) := by decide +kernel
theorem dX8_itemBehindBracket_100 : decode cX8_itemBehindBracket 100 = .ok (.ireturn, 1) := by decide +kernel
theorem dX8_itemOfHead_0 : decode cX8_itemOfHead 0 = .ok (.aload_n 1, 1) := by decide +kernel
theorem dX8_itemOfHead_1 : decode cX8_itemOfHead 1 = .ok (.getfield 122, 3) := by decide +kernel
theorem dX8_itemOfHead_4 : decode cX8_itemOfHead 4 = .ok (.iload_n 2, 1) := by decide +kernel
theorem dX8_itemOfHead_5 : decode cX8_itemOfHead 5 = .ok (.iaload, 1) := by decide +kernel
theorem dX8_itemOfHead_6 : decode cX8_itemOfHead 6 = .ok (.istore_n 3, 1) := by decide +kernel
theorem dX8_itemOfHead_7 : decode cX8_itemOfHead 7 = .ok (.aload_n 0, 1) := by decide +kernel
theorem dX8_itemOfHead_8 : decode cX8_itemOfHead 8 = .ok (.getfield 50, 3) := by decide +kernel
theorem dX8_itemOfHead_11 : decode cX8_itemOfHead 11 = .ok (.iconst 1, 1) := by decide +kernel
theorem dX8_itemOfHead_12 : decode cX8_itemOfHead 12 = .ok (.if_icmp .le 32, 3) := by decide +kernel
theorem dX8_itemOfHead_44 : decode cX8_itemOfHead 44 = .ok (.aload_n 0, 1) := by decide +kernel
theorem dX8_itemOfHead_45 : decode cX8_itemOfHead 45 = .ok (.invokevirtual 101, 3) := by decide +kernel
theorem dX8_itemOfHead_48 : decode cX8_itemOfHead 48 = .ok (.istore 4, 2) := by decide +kernel
theorem dX8_itemOfHead_50 : decode cX8_itemOfHead 50 = .ok (.aload_n 0, 1) := by decide +kernel
theorem dX8_itemOfHead_51 : decode cX8_itemOfHead 51 = .ok (.getfield 12, 3) := by decide +kernel
theorem dX8_itemOfHead_54 : decode cX8_itemOfHead 54 = .ok (.getfield 131, 3) := by decide +kernel
theorem dX8_itemOfHead_57 : decode cX8_itemOfHead 57 = .ok (.iload 4, 2) := by decide +kernel
theorem dX8_itemOfHead_59 : decode cX8_itemOfHead 59 = .ok (.iaload, 1) := by decide +kernel
theorem dX8_itemOfHead_60 : decode cX8_itemOfHead 60 = .ok (.iload_n 3, 1) := by decide +kernel
theorem dX8_itemOfHead_61 : decode cX8_itemOfHead 61 = .ok (.if_icmp .ne 10, 3) := by decide +kernel
theorem dX8_itemOfHead_71 : decode cX8_itemOfHead 71 = .ok (.aload_n 0, 1) := by decide +kernel
theorem dX8_itemOfHead_72 : decode cX8_itemOfHead 72 = .ok (.getfield 12, 3) := by decide +kernel
theorem dX8_itemOfHead_75 : decode cX8_itemOfHead 75 = .ok (.getfield 98, 3) := by decide +kernel
theorem dX8_itemOfHead_78 : decode cX8_itemOfHead 78 = .ok (.iload 4, 2) := by decide +kernel
theorem dX8_itemOfHead_80 : decode cX8_itemOfHead 80 = .ok (.iaload, 1) := by decide +kernel
theorem dX8_itemOfHead_81 : decode cX8_itemOfHead 81 = .ok (.iconst 3, 1) := by decide +kernel
theorem dX8_itemOfHead_82 : decode cX8_itemOfHead 82 = .ok (.if_icmp .eq 17, 3) := by decide +kernel
theorem dX8_itemOfHead_99 : decode cX8_itemOfHead 99 = .ok (.aload_n 0, 1) := by decide +kernel
theorem dX8_itemOfHead_100 : decode cX8_itemOfHead 100 = .ok (.getfield 12, 3) := by decide +kernel
theorem dX8_itemOfHead_103 : decode cX8_itemOfHead 103 = .ok (.getfield 148, 3) := by decide +kernel
theorem dX8_itemOfHead_106 : decode cX8_itemOfHead 106 = .ok (.iload 4, 2) := by decide +kernel
theorem dX8_itemOfHead_108 : decode cX8_itemOfHead 108 = .ok (.iaload, 1) := by decide +kernel
theorem dX8_itemOfHead_109 : decode cX8_itemOfHead 109 = .ok (.ireturn, 1) := by decide +kernel
theorem dX8_itemOfHead_85 : decode cX8_itemOfHead 85 = .ok (.aload_n 0, 1) := by decide +kernel
theorem dX8_itemOfHead_86 : decode cX8_itemOfHead 86 = .ok (.getfield 12, 3) := by decide +kernel
theorem dX8_itemOfHead_89 : decode cX8_itemOfHead 89 = .ok (.getfield 98, 3) := by decide +kernel
theorem dX8_itemOfHead_92 : decode cX8_itemOfHead 92 = .ok (.iload 4, 2) := by decide +kernel
theorem dX8_itemOfHead_94 : decode cX8_itemOfHead 94 = .ok (.iaload, 1) := by decide +kernel
theorem dX8_itemOfHead_95 : decode cX8_itemOfHead 95 = .ok (.iconst 5, 1) := by decide +kernel
theorem dX8_itemOfHead_96 : decode cX8_itemOfHead 96 = .ok (.if_icmp .ne 14, 3) := by decide +kernel
theorem dX8_itemOfHead_110 : decode cX8_itemOfHead 110 = .ok (.aload_n 0, 1) := by decide +kernel
theorem dX8_itemOfHead_111 : decode cX8_itemOfHead 111 = .ok (.iconst 4, 1) := by decide +kernel
theorem dX8_itemOfHead_112 : decode cX8_itemOfHead 112 = .ok (.aload_n 1, 1) := by decide +kernel
theorem dX8_itemOfHead_113 : decode cX8_itemOfHead 113 = .ok (.getfield 142, 3) := by decide +kernel
theorem dX8_itemOfHead_116 : decode cX8_itemOfHead 116 = .ok (.iload_n 2, 1) := by decide +kernel
theorem dX8_itemOfHead_117 : decode cX8_itemOfHead 117 = .ok (.iaload, 1) := by decide +kernel
theorem dX8_itemOfHead_118 : decode cX8_itemOfHead 118 = .ok (.invokevirtual 145, 3) := by decide +kernel
theorem dX8_itemOfHead_121 : decode cX8_itemOfHead 121 = .ok (.bipush (-9), 2) := by decide +kernel
theorem dX8_itemOfHead_123 : decode cX8_itemOfHead 123 = .ok (.ireturn, 1) := by decide +kernel
theorem dX8_itemOfHead_64 : decode cX8_itemOfHead 64 = .ok (.aload_n 0, 1) := by decide +kernel
theorem dX8_itemOfHead_65 : decode cX8_itemOfHead 65 = .ok (.iload 4, 2) := by decide +kernel
theorem dX8_itemOfHead_67 : decode cX8_itemOfHead 67 = .ok (.invokevirtual 136, 3) := by decide +kernel
theorem dX8_itemOfHead_70 : decode cX8_itemOfHead 70 = .ok (.ireturn, 1) := by decide +kernel
theorem dX8_itemOfHead_15 : decode cX8_itemOfHead 15 = .ok (.aload_n 0, 1) := by decide +kernel
theorem dX8_itemOfHead_16 : decode cX8_itemOfHead 16 = .ok (.getfield 12, 3) := by decide +kernel
theorem dX8_itemOfHead_19 : decode cX8_itemOfHead 19 = .ok (.getfield 131, 3) := by decide +kernel
theorem dX8_itemOfHead_22 : decode cX8_itemOfHead 22 = .ok (.aload_n 0, 1) := by decide +kernel
theorem dX8_itemOfHead_23 : decode cX8_itemOfHead 23 = .ok (.invokevirtual 101, 3) := by decide +kernel
theorem dX8_itemOfHead_26 : decode cX8_itemOfHead 26 = .ok (.iaload, 1) := by decide +kernel
theorem dX8_itemOfHead_27 : decode cX8_itemOfHead 27 = .ok (.iload_n 3, 1) := by decide +kernel
theorem dX8_itemOfHead_28 : decode cX8_itemOfHead 28 = .ok (.if_icmp .le 16, 3) := by decide +kernel
theorem dX8_itemOfHead_31 : decode cX8_itemOfHead 31 = .ok (.aload_n 0, 1) := by decide +kernel
theorem dX8_itemOfHead_32 : decode cX8_itemOfHead 32 = .ok (.dup, 1) := by decide +kernel
theorem dX8_itemOfHead_33 : decode cX8_itemOfHead 33 = .ok (.getfield 50, 3) := by decide +kernel
theorem dX8_itemOfHead_36 : decode cX8_itemOfHead 36 = .ok (.iconst 1, 1) := by decide +kernel
theorem dX8_itemOfHead_37 : decode cX8_itemOfHead 37 = .ok (.isub, 1) := by decide +kernel
theorem dX8_itemOfHead_38 : decode cX8_itemOfHead 38 = .ok (.putfield 50, 3) := by decide +kernel
theorem dX8_itemOfHead_41 : decode cX8_itemOfHead 41 = .ok (.goto (-34), 3) := by decide +kernel
theorem dX8_itemElsewhere_0 : decode cX8_itemElsewhere 0 = .ok (.aload_n 1, 1) := by decide +kernel
theorem dX8_itemElsewhere_1 : decode cX8_itemElsewhere 1 = .ok (.getfield 108, 3) := by decide +kernel
theorem dX8_itemElsewhere_4 : decode cX8_itemElsewhere 4 = .ok (.iload_n 2, 1) := by decide +kernel
theorem dX8_itemElsewhere_5 : decode cX8_itemElsewhere 5 = .ok (.iaload, 1) := by decide +kernel
theorem dX8_itemElsewhere_6 : decode cX8_itemElsewhere 6 = .ok (.istore_n 3, 1) := by decide +kernel
theorem dX8_itemElsewhere_7 : decode cX8_itemElsewhere 7 = .ok (.iload_n 3, 1) := by decide +kernel
theorem dX8_itemElsewhere_8 : decode cX8_itemElsewhere 8 = .ok (.bipush 6, 2) := by decide +kernel
theorem dX8_itemElsewhere_10 : decode cX8_itemElsewhere 10 = .ok (.if_icmp .ne 33, 3) := by decide +kernel
theorem dX8_itemElsewhere_43 : decode cX8_itemElsewhere 43 = .ok (.iload_n 3, 1) := by decide +kernel
theorem dX8_itemElsewhere_44 : decode cX8_itemElsewhere 44 = .ok (.invokestatic 139, 3) := by decide +kernel
theorem dX8_itemElsewhere_47 : decode cX8_itemElsewhere 47 = .ok (.ifCond .eq 10, 3) := by decide +kernel
theorem dX8_itemElsewhere_57 : decode cX8_itemElsewhere 57 = .ok (.aload_n 0, 1) := by decide +kernel
theorem dX8_itemElsewhere_58 : decode cX8_itemElsewhere 58 = .ok (.getfield 29, 3) := by decide +kernel
theorem dX8_itemElsewhere_61 : decode cX8_itemElsewhere 61 = .ok (.iload_n 2, 1) := by decide +kernel
theorem dX8_itemElsewhere_62 : decode cX8_itemElsewhere 62 = .ok (.baload, 1) := by decide +kernel
theorem dX8_itemElsewhere_63 : decode cX8_itemElsewhere 63 = .ok (.ifCond .eq 12, 3) := by decide +kernel
theorem dX8_itemElsewhere_75 : decode cX8_itemElsewhere 75 = .ok (.aload_n 0, 1) := by decide +kernel
theorem dX8_itemElsewhere_76 : decode cX8_itemElsewhere 76 = .ok (.getfield 12, 3) := by decide +kernel
theorem dX8_itemElsewhere_79 : decode cX8_itemElsewhere 79 = .ok (.getfield 148, 3) := by decide +kernel
theorem dX8_itemElsewhere_82 : decode cX8_itemElsewhere 82 = .ok (.aload_n 0, 1) := by decide +kernel
theorem dX8_itemElsewhere_83 : decode cX8_itemElsewhere 83 = .ok (.invokevirtual 101, 3) := by decide +kernel
theorem dX8_itemElsewhere_86 : decode cX8_itemElsewhere 86 = .ok (.iaload, 1) := by decide +kernel
theorem dX8_itemElsewhere_87 : decode cX8_itemElsewhere 87 = .ok (.ireturn, 1) := by decide +kernel
theorem dX8_itemElsewhere_66 : decode cX8_itemElsewhere 66 = .ok (.aload_n 0, 1) := by decide +kernel
theorem dX8_itemElsewhere_67 : decode cX8_itemElsewhere 67 = .ok (.aload_n 1, 1) := by decide +kernel
theorem dX8_itemElsewhere_68 : decode cX8_itemElsewhere 68 = .ok (.iload_n 2, 1) := by decide +kernel
theorem dX8_itemElsewhere_69 : decode cX8_itemElsewhere 69 = .ok (.invokevirtual 157, 3) := by decide +kernel
theorem dX8_itemElsewhere_72 : decode cX8_itemElsewhere 72 = .ok (.goto 15, 3) := by decide +kernel
theorem dX8_itemElsewhere_50 : decode cX8_itemElsewhere 50 = .ok (.aload_n 0, 1) := by decide +kernel
theorem dX8_itemElsewhere_51 : decode cX8_itemElsewhere 51 = .ok (.aload_n 1, 1) := by decide +kernel
theorem dX8_itemElsewhere_52 : decode cX8_itemElsewhere 52 = .ok (.iload_n 2, 1) := by decide +kernel
theorem dX8_itemElsewhere_53 : decode cX8_itemElsewhere 53 = .ok (.invokevirtual 154, 3) := by decide +kernel
theorem dX8_itemElsewhere_56 : decode cX8_itemElsewhere 56 = .ok (.ireturn, 1) := by decide +kernel
theorem dX8_itemElsewhere_13 : decode cX8_itemElsewhere 13 = .ok (.aload_n 0, 1) := by decide +kernel
theorem dX8_itemElsewhere_14 : decode cX8_itemElsewhere 14 = .ok (.invokevirtual 151, 3) := by decide +kernel
theorem dX8_itemElsewhere_17 : decode cX8_itemElsewhere 17 = .ok (.istore 4, 2) := by decide +kernel
theorem dX8_itemElsewhere_19 : decode cX8_itemElsewhere 19 = .ok (.iload 4, 2) := by decide +kernel
theorem dX8_itemElsewhere_21 : decode cX8_itemElsewhere 21 = .ok (.ifCond .le 22, 3) := by decide +kernel
theorem dX8_itemElsewhere_24 : decode cX8_itemElsewhere 24 = .ok (.aload_n 0, 1) := by decide +kernel
theorem dX8_itemElsewhere_25 : decode cX8_itemElsewhere 25 = .ok (.iload 4, 2) := by decide +kernel
theorem dX8_itemElsewhere_27 : decode cX8_itemElsewhere 27 = .ok (.putfield 50, 3) := by decide +kernel
theorem dX8_itemElsewhere_30 : decode cX8_itemElsewhere 30 = .ok (.aload_n 0, 1) := by decide +kernel
theorem dX8_itemElsewhere_31 : decode cX8_itemElsewhere 31 = .ok (.getfield 12, 3) := by decide +kernel
theorem dX8_itemElsewhere_34 : decode cX8_itemElsewhere 34 = .ok (.getfield 148, 3) := by decide +kernel
theorem dX8_itemElsewhere_37 : decode cX8_itemElsewhere 37 = .ok (.aload_n 0, 1) := by decide +kernel
theorem dX8_itemElsewhere_38 : decode cX8_itemElsewhere 38 = .ok (.invokevirtual 101, 3) := by decide +kernel
theorem dX8_itemElsewhere_41 : decode cX8_itemElsewhere 41 = .ok (.iaload, 1) := by decide +kernel
theorem dX8_itemElsewhere_42 : decode cX8_itemElsewhere 42 = .ok (.ireturn, 1) := by decide +kernel
theorem dX8_itemBehindOpener_0 : decode cX8_itemBehindOpener 0 = .ok (.aload_n 1, 1) := by decide +kernel
theorem dX8_itemBehindOpener_1 : decode cX8_itemBehindOpener 1 = .ok (.getfield 122, 3) := by decide +kernel
theorem dX8_itemBehindOpener_4 : decode cX8_itemBehindOpener 4 = .ok (.iload_n 2, 1) := by decide +kernel
theorem dX8_itemBehindOpener_5 : decode cX8_itemBehindOpener 5 = .ok (.iaload, 1) := by decide +kernel
theorem dX8_itemBehindOpener_6 : decode cX8_itemBehindOpener 6 = .ok (.istore_n 3, 1) := by decide +kernel
theorem dX8_itemBehindOpener_7 : decode cX8_itemBehindOpener 7 = .ok (.aload_n 1, 1) := by decide +kernel
theorem dX8_itemBehindOpener_8 : decode cX8_itemBehindOpener 8 = .ok (.getfield 108, 3) := by decide +kernel
theorem dX8_itemBehindOpener_11 : decode cX8_itemBehindOpener 11 = .ok (.aload_n 0, 1) := by decide +kernel
theorem dX8_itemBehindOpener_12 : decode cX8_itemBehindOpener 12 = .ok (.getfield 53, 3) := by decide +kernel
theorem dX8_itemBehindOpener_15 : decode cX8_itemBehindOpener 15 = .ok (.iaload, 1) := by decide +kernel
theorem dX8_itemBehindOpener_16 : decode cX8_itemBehindOpener 16 = .ok (.istore 4, 2) := by decide +kernel
theorem dX8_itemBehindOpener_18 : decode cX8_itemBehindOpener 18 = .ok (.aload_n 0, 1) := by decide +kernel
theorem dX8_itemBehindOpener_19 : decode cX8_itemBehindOpener 19 = .ok (.invokevirtual 101, 3) := by decide +kernel
theorem dX8_itemBehindOpener_22 : decode cX8_itemBehindOpener 22 = .ok (.istore 5, 2) := by decide +kernel
theorem dX8_itemBehindOpener_24 : decode cX8_itemBehindOpener 24 = .ok (.iload_n 3, 1) := by decide +kernel
theorem dX8_itemBehindOpener_25 : decode cX8_itemBehindOpener 25 = .ok (.aload_n 0, 1) := by decide +kernel
theorem dX8_itemBehindOpener_26 : decode cX8_itemBehindOpener 26 = .ok (.getfield 12, 3) := by decide +kernel
theorem dX8_itemBehindOpener_29 : decode cX8_itemBehindOpener 29 = .ok (.getfield 131, 3) := by decide +kernel
theorem dX8_itemBehindOpener_32 : decode cX8_itemBehindOpener 32 = .ok (.iload 5, 2) := by decide +kernel
theorem dX8_itemBehindOpener_34 : decode cX8_itemBehindOpener 34 = .ok (.iaload, 1) := by decide +kernel
theorem dX8_itemBehindOpener_35 : decode cX8_itemBehindOpener 35 = .ok (.if_icmp .le 30, 3) := by decide +kernel
theorem dX8_itemBehindOpener_65 : decode cX8_itemBehindOpener 65 = .ok (.iconst 0, 1) := by decide +kernel
theorem dX8_itemBehindOpener_66 : decode cX8_itemBehindOpener 66 = .ok (.istore 6, 2) := by decide +kernel
theorem dX8_itemBehindOpener_68 : decode cX8_itemBehindOpener 68 = .ok (.iload 4, 2) := by decide +kernel
theorem dX8_itemBehindOpener_70 : decode cX8_itemBehindOpener 70 = .ok (.iconst 1, 1) := by decide +kernel
theorem dX8_itemBehindOpener_71 : decode cX8_itemBehindOpener 71 = .ok (.if_icmp .ne 39, 3) := by decide +kernel
theorem dX8_itemBehindOpener_110 : decode cX8_itemBehindOpener 110 = .ok (.aload_n 0, 1) := by decide +kernel
theorem dX8_itemBehindOpener_111 : decode cX8_itemBehindOpener 111 = .ok (.iload 4, 2) := by decide +kernel
theorem dX8_itemBehindOpener_113 : decode cX8_itemBehindOpener 113 = .ok (.iload 6, 2) := by decide +kernel
theorem dX8_itemBehindOpener_115 : decode cX8_itemBehindOpener 115 = .ok (.ifCond .eq 7, 3) := by decide +kernel
theorem dX8_itemBehindOpener_122 : decode cX8_itemBehindOpener 122 = .ok (.bipush (-9), 2) := by decide +kernel
theorem dX8_itemBehindOpener_124 : decode cX8_itemBehindOpener 124 = .ok (.aload_n 0, 1) := by decide +kernel
theorem dX8_itemBehindOpener_125 : decode cX8_itemBehindOpener 125 = .ok (.getfield 12, 3) := by decide +kernel
theorem dX8_itemBehindOpener_128 : decode cX8_itemBehindOpener 128 = .ok (.getfield 148, 3) := by decide +kernel
theorem dX8_itemBehindOpener_131 : decode cX8_itemBehindOpener 131 = .ok (.iload 5, 2) := by decide +kernel
theorem dX8_itemBehindOpener_133 : decode cX8_itemBehindOpener 133 = .ok (.iaload, 1) := by decide +kernel
theorem dX8_itemBehindOpener_134 : decode cX8_itemBehindOpener 134 = .ok (.aload_n 0, 1) := by decide +kernel
theorem dX8_itemBehindOpener_135 : decode cX8_itemBehindOpener 135 = .ok (.getfield 53, 3) := by decide +kernel
theorem dX8_itemBehindOpener_138 : decode cX8_itemBehindOpener 138 = .ok (.invokevirtual 132, 3) := by decide +kernel
theorem dX8_itemBehindOpener_141 : decode cX8_itemBehindOpener 141 = .ok (.istore 7, 2) := by decide +kernel
theorem dX8_itemBehindOpener_143 : decode cX8_itemBehindOpener 143 = .ok (.iload 6, 2) := by decide +kernel
theorem dX8_itemBehindOpener_145 : decode cX8_itemBehindOpener 145 = .ok (.ifCond .ne 6, 3) := by decide +kernel
theorem dX8_itemBehindOpener_148 : decode cX8_itemBehindOpener 148 = .ok (.bipush (-9), 2) := by decide +kernel
theorem dX8_itemBehindOpener_150 : decode cX8_itemBehindOpener 150 = .ok (.ireturn, 1) := by decide +kernel
theorem dX8_itemBehindOpener_74 : decode cX8_itemBehindOpener 74 = .ok (.iload 6, 2) := by decide +kernel
theorem dX8_itemBehindOpener_76 : decode cX8_itemBehindOpener 76 = .ok (.ifCond .eq 20, 3) := by decide +kernel
theorem dX8_itemBehindOpener_96 : decode cX8_itemBehindOpener 96 = .ok (.aload_n 0, 1) := by decide +kernel
theorem dX8_itemBehindOpener_97 : decode cX8_itemBehindOpener 97 = .ok (.iconst 3, 1) := by decide +kernel
theorem dX8_itemBehindOpener_98 : decode cX8_itemBehindOpener 98 = .ok (.aload_n 1, 1) := by decide +kernel
theorem dX8_itemBehindOpener_99 : decode cX8_itemBehindOpener 99 = .ok (.getfield 142, 3) := by decide +kernel
theorem dX8_itemBehindOpener_102 : decode cX8_itemBehindOpener 102 = .ok (.iload_n 2, 1) := by decide +kernel
theorem dX8_itemBehindOpener_103 : decode cX8_itemBehindOpener 103 = .ok (.iaload, 1) := by decide +kernel
theorem dX8_itemBehindOpener_104 : decode cX8_itemBehindOpener 104 = .ok (.invokevirtual 145, 3) := by decide +kernel
theorem dX8_itemBehindOpener_107 : decode cX8_itemBehindOpener 107 = .ok (.bipush (-9), 2) := by decide +kernel
theorem dX8_itemBehindOpener_109 : decode cX8_itemBehindOpener 109 = .ok (.ireturn, 1) := by decide +kernel
theorem dX8_itemBehindOpener_38 : decode cX8_itemBehindOpener 38 = .ok (.aload_n 1, 1) := by decide +kernel
theorem dX8_itemBehindOpener_39 : decode cX8_itemBehindOpener 39 = .ok (.getfield 108, 3) := by decide +kernel
theorem dX8_itemBehindOpener_42 : decode cX8_itemBehindOpener 42 = .ok (.iload_n 2, 1) := by decide +kernel
theorem dX8_itemBehindOpener_43 : decode cX8_itemBehindOpener 43 = .ok (.iaload, 1) := by decide +kernel
theorem dX8_itemBehindOpener_44 : decode cX8_itemBehindOpener 44 = .ok (.bipush 6, 2) := by decide +kernel
theorem dX8_itemBehindOpener_46 : decode cX8_itemBehindOpener 46 = .ok (.if_icmp .eq 19, 3) := by decide +kernel
theorem dX8_itemBehindOpener_49 : decode cX8_itemBehindOpener 49 = .ok (.aload_n 1, 1) := by decide +kernel
theorem dX8_itemBehindOpener_50 : decode cX8_itemBehindOpener 50 = .ok (.getfield 108, 3) := by decide +kernel
theorem dX8_itemBehindOpener_53 : decode cX8_itemBehindOpener 53 = .ok (.iload_n 2, 1) := by decide +kernel
theorem dX8_itemBehindOpener_54 : decode cX8_itemBehindOpener 54 = .ok (.iaload, 1) := by decide +kernel
theorem dX8_itemBehindOpener_55 : decode cX8_itemBehindOpener 55 = .ok (.invokestatic 139, 3) := by decide +kernel
theorem dX8_itemBehindOpener_58 : decode cX8_itemBehindOpener 58 = .ok (.ifCond .ne 7, 3) := by decide +kernel
theorem dX8_itemBehindOpener_61 : decode cX8_itemBehindOpener 61 = .ok (.iconst 1, 1) := by decide +kernel
theorem dX8_itemBehindOpener_62 : decode cX8_itemBehindOpener 62 = .ok (.goto 4, 3) := by decide +kernel
theorem dX8_itemBehindOpener_118 : decode cX8_itemBehindOpener 118 = .ok (.iload_n 3, 1) := by decide +kernel
theorem dX8_itemBehindOpener_119 : decode cX8_itemBehindOpener 119 = .ok (.goto 5, 3) := by decide +kernel
theorem dX8_itemBehindOpener_151 : decode cX8_itemBehindOpener 151 = .ok (.aload_n 0, 1) := by decide +kernel
theorem dX8_itemBehindOpener_152 : decode cX8_itemBehindOpener 152 = .ok (.iload 7, 2) := by decide +kernel
theorem dX8_itemBehindOpener_154 : decode cX8_itemBehindOpener 154 = .ok (.invokevirtual 63, 3) := by decide +kernel
theorem dX8_itemBehindOpener_157 : decode cX8_itemBehindOpener 157 = .ok (.aload_n 0, 1) := by decide +kernel
theorem dX8_itemBehindOpener_158 : decode cX8_itemBehindOpener 158 = .ok (.iload 7, 2) := by decide +kernel
theorem dX8_itemBehindOpener_160 : decode cX8_itemBehindOpener 160 = .ok (.invokevirtual 136, 3) := by decide +kernel
theorem dX8_itemBehindOpener_163 : decode cX8_itemBehindOpener 163 = .ok (.ireturn, 1) := by decide +kernel
theorem dX8_itemBehindOpener_79 : decode cX8_itemBehindOpener 79 = .ok (.aload_n 0, 1) := by decide +kernel
theorem dX8_itemBehindOpener_80 : decode cX8_itemBehindOpener 80 = .ok (.getfield 29, 3) := by decide +kernel
theorem dX8_itemBehindOpener_83 : decode cX8_itemBehindOpener 83 = .ok (.iload_n 2, 1) := by decide +kernel
theorem dX8_itemBehindOpener_84 : decode cX8_itemBehindOpener 84 = .ok (.baload, 1) := by decide +kernel
theorem dX8_itemBehindOpener_85 : decode cX8_itemBehindOpener 85 = .ok (.ifCond .eq 11, 3) := by decide +kernel
theorem dX8_itemBehindOpener_88 : decode cX8_itemBehindOpener 88 = .ok (.iload_n 3, 1) := by decide +kernel
theorem dX8_itemBehindOpener_89 : decode cX8_itemBehindOpener 89 = .ok (.aload_n 0, 1) := by decide +kernel
theorem dX8_itemBehindOpener_90 : decode cX8_itemBehindOpener 90 = .ok (.getfield 56, 3) := by decide +kernel
theorem dX8_itemBehindOpener_93 : decode cX8_itemBehindOpener 93 = .ok (.if_icmp .gt 17, 3) := by decide +kernel
theorem dX8_take_178 : decode cX8_take 178 = .ok (.aload_n 1, 1) := by decide +kernel
theorem dX8_take_179 : decode cX8_take 179 = .ok (.getfield 108, 3) := by decide +kernel
theorem dX8_take_182 : decode cX8_take 182 = .ok (.iload_n 2, 1) := by decide +kernel
theorem dX8_take_183 : decode cX8_take 183 = .ok (.iaload, 1) := by decide +kernel
theorem dX8_take_184 : decode cX8_take 184 = .ok (.invokestatic 128, 3) := by decide +kernel
theorem dX8_take_187 : decode cX8_take 187 = .ok (.ifCond .eq 38, 3) := by decide +kernel
theorem dX8_take_225 : decode cX8_take 225 = .ok (.return_, 1) := by decide +kernel
theorem dX8_take_190 : decode cX8_take 190 = .ok (.aload_n 0, 1) := by decide +kernel
theorem dX8_take_191 : decode cX8_take 191 = .ok (.iconst 4, 1) := by decide +kernel
theorem dX8_take_192 : decode cX8_take 192 = .ok (.aload_n 0, 1) := by decide +kernel
theorem dX8_take_193 : decode cX8_take 193 = .ok (.getfield 12, 3) := by decide +kernel
theorem dX8_take_196 : decode cX8_take 196 = .ok (.getfield 131, 3) := by decide +kernel
theorem dX8_take_199 : decode cX8_take 199 = .ok (.aload_n 0, 1) := by decide +kernel
theorem dX8_take_200 : decode cX8_take 200 = .ok (.invokevirtual 101, 3) := by decide +kernel
theorem dX8_take_203 : decode cX8_take 203 = .ok (.iaload, 1) := by decide +kernel
theorem dX8_take_204 : decode cX8_take 204 = .ok (.iload 4, 2) := by decide +kernel
theorem dX8_take_206 : decode cX8_take 206 = .ok (.iload_n 2, 1) := by decide +kernel
theorem dX8_take_207 : decode cX8_take 207 = .ok (.invokevirtual 132, 3) := by decide +kernel
theorem dX8_take_210 : decode cX8_take 210 = .ok (.istore 5, 2) := by decide +kernel
theorem dX8_take_212 : decode cX8_take 212 = .ok (.aload_n 0, 1) := by decide +kernel
theorem dX8_take_213 : decode cX8_take 213 = .ok (.iload 5, 2) := by decide +kernel
theorem dX8_take_215 : decode cX8_take 215 = .ok (.invokevirtual 63, 3) := by decide +kernel
theorem dX8_take_218 : decode cX8_take 218 = .ok (.aload_n 0, 1) := by decide +kernel
theorem dX8_take_219 : decode cX8_take 219 = .ok (.iload 5, 2) := by decide +kernel
theorem dX8_take_221 : decode cX8_take 221 = .ok (.invokevirtual 136, 3) := by decide +kernel
theorem dX8_take_224 : decode cX8_take 224 = .ok (.pop, 1) := by decide +kernel
theorem dX8_take_107 : decode cX8_take 107 = .ok (.aload_n 0, 1) := by decide +kernel
theorem dX8_take_108 : decode cX8_take 108 = .ok (.getfield 36, 3) := by decide +kernel
theorem dX8_take_111 : decode cX8_take 111 = .ok (.ifCond .eq 4, 3) := by decide +kernel
theorem dX8_take_115 : decode cX8_take 115 = .ok (.aload_n 0, 1) := by decide +kernel
theorem dX8_take_116 : decode cX8_take 116 = .ok (.getfield 21, 3) := by decide +kernel
theorem dX8_take_119 : decode cX8_take 119 = .ok (.iload 4, 2) := by decide +kernel
theorem dX8_take_121 : decode cX8_take 121 = .ok (.iload_n 2, 1) := by decide +kernel
theorem dX8_take_122 : decode cX8_take 122 = .ok (.invokevirtual 118, 3) := by decide +kernel
theorem dX8_take_125 : decode cX8_take 125 = .ok (.aload_n 0, 1) := by decide +kernel
theorem dX8_take_126 : decode cX8_take 126 = .ok (.getfield 25, 3) := by decide +kernel
theorem dX8_take_129 : decode cX8_take 129 = .ok (.iload_n 2, 1) := by decide +kernel
theorem dX8_take_130 : decode cX8_take 130 = .ok (.iload 4, 2) := by decide +kernel
theorem dX8_take_132 : decode cX8_take 132 = .ok (.iastore, 1) := by decide +kernel
theorem dX8_take_133 : decode cX8_take 133 = .ok (.aload_n 0, 1) := by decide +kernel
theorem dX8_take_134 : decode cX8_take 134 = .ok (.getfield 29, 3) := by decide +kernel
theorem dX8_take_137 : decode cX8_take 137 = .ok (.iload_n 2, 1) := by decide +kernel
theorem dX8_take_138 : decode cX8_take 138 = .ok (.baload, 1) := by decide +kernel
theorem dX8_take_139 : decode cX8_take 139 = .ok (.ifCond .eq 13, 3) := by decide +kernel
theorem dX8_take_152 : decode cX8_take 152 = .ok (.aload_n 0, 1) := by decide +kernel
theorem dX8_take_153 : decode cX8_take 153 = .ok (.aload_n 1, 1) := by decide +kernel
theorem dX8_take_154 : decode cX8_take 154 = .ok (.getfield 108, 3) := by decide +kernel
theorem dX8_take_157 : decode cX8_take 157 = .ok (.iload_n 2, 1) := by decide +kernel
theorem dX8_take_158 : decode cX8_take 158 = .ok (.iaload, 1) := by decide +kernel
theorem dX8_take_159 : decode cX8_take 159 = .ok (.invokestatic 125, 3) := by decide +kernel
theorem dX8_take_162 : decode cX8_take 162 = .ok (.ifCond .eq 11, 3) := by decide +kernel
theorem dX8_take_173 : decode cX8_take 173 = .ok (.bipush (-9), 2) := by decide +kernel
theorem dX8_take_175 : decode cX8_take 175 = .ok (.putfield 53, 3) := by decide +kernel
theorem dX8_take_165 : decode cX8_take 165 = .ok (.iload_n 3, 1) := by decide +kernel
theorem dX8_take_166 : decode cX8_take 166 = .ok (.ifCond .ne 7, 3) := by decide +kernel
theorem dX8_take_169 : decode cX8_take 169 = .ok (.iload_n 2, 1) := by decide +kernel
theorem dX8_take_170 : decode cX8_take 170 = .ok (.goto 5, 3) := by decide +kernel
theorem dX8_take_142 : decode cX8_take 142 = .ok (.aload_n 0, 1) := by decide +kernel
theorem dX8_take_143 : decode cX8_take 143 = .ok (.aload_n 1, 1) := by decide +kernel
theorem dX8_take_144 : decode cX8_take 144 = .ok (.getfield 122, 3) := by decide +kernel
theorem dX8_take_147 : decode cX8_take 147 = .ok (.iload_n 2, 1) := by decide +kernel
theorem dX8_take_148 : decode cX8_take 148 = .ok (.iaload, 1) := by decide +kernel
theorem dX8_take_149 : decode cX8_take 149 = .ok (.putfield 56, 3) := by decide +kernel
theorem dX8_take_114 : decode cX8_take 114 = .ok (.return_, 1) := by decide +kernel
theorem dX8_take_63 : decode cX8_take 63 = .ok (.aload_n 0, 1) := by decide +kernel
theorem dX8_take_64 : decode cX8_take 64 = .ok (.getfield 53, 3) := by decide +kernel
theorem dX8_take_67 : decode cX8_take 67 = .ok (.bipush (-9), 2) := by decide +kernel
theorem dX8_take_69 : decode cX8_take 69 = .ok (.if_icmp .ne 8, 3) := by decide +kernel
theorem dX8_take_77 : decode cX8_take 77 = .ok (.aload_n 0, 1) := by decide +kernel
theorem dX8_take_78 : decode cX8_take 78 = .ok (.aload_n 1, 1) := by decide +kernel
theorem dX8_take_79 : decode cX8_take 79 = .ok (.iload_n 2, 1) := by decide +kernel
theorem dX8_take_80 : decode cX8_take 80 = .ok (.invokevirtual 111, 3) := by decide +kernel
theorem dX8_take_83 : decode cX8_take 83 = .ok (.istore 4, 2) := by decide +kernel
theorem dX8_take_85 : decode cX8_take 85 = .ok (.iload 4, 2) := by decide +kernel
theorem dX8_take_87 : decode cX8_take 87 = .ok (.bipush (-9), 2) := by decide +kernel
theorem dX8_take_89 : decode cX8_take 89 = .ok (.if_icmp .ne 18, 3) := by decide +kernel
theorem dX8_take_92 : decode cX8_take 92 = .ok (.aload_n 0, 1) := by decide +kernel
theorem dX8_take_93 : decode cX8_take 93 = .ok (.getfield 36, 3) := by decide +kernel
theorem dX8_take_96 : decode cX8_take 96 = .ok (.ifCond .ne 11, 3) := by decide +kernel
theorem dX8_take_99 : decode cX8_take 99 = .ok (.aload_n 0, 1) := by decide +kernel
theorem dX8_take_100 : decode cX8_take 100 = .ok (.aload_n 1, 1) := by decide +kernel
theorem dX8_take_101 : decode cX8_take 101 = .ok (.iload_n 2, 1) := by decide +kernel
theorem dX8_take_102 : decode cX8_take 102 = .ok (.invokevirtual 115, 3) := by decide +kernel
theorem dX8_take_105 : decode cX8_take 105 = .ok (.istore 4, 2) := by decide +kernel
theorem dX8_take_72 : decode cX8_take 72 = .ok (.bipush (-9), 2) := by decide +kernel
theorem dX8_take_74 : decode cX8_take 74 = .ok (.goto 9, 3) := by decide +kernel
theorem dX8_take_0 : decode cX8_take 0 = .ok (.aload_n 0, 1) := by decide +kernel
theorem dX8_take_1 : decode cX8_take 1 = .ok (.getfield 12, 3) := by decide +kernel
theorem dX8_take_4 : decode cX8_take 4 = .ok (.getfield 98, 3) := by decide +kernel
theorem dX8_take_7 : decode cX8_take 7 = .ok (.aload_n 0, 1) := by decide +kernel
theorem dX8_take_8 : decode cX8_take 8 = .ok (.invokevirtual 101, 3) := by decide +kernel
theorem dX8_take_11 : decode cX8_take 11 = .ok (.iaload, 1) := by decide +kernel
theorem dX8_take_12 : decode cX8_take 12 = .ok (.iconst 4, 1) := by decide +kernel
theorem dX8_take_13 : decode cX8_take 13 = .ok (.if_icmp .ne 7, 3) := by decide +kernel
theorem dX8_take_20 : decode cX8_take 20 = .ok (.iconst 0, 1) := by decide +kernel
theorem dX8_take_21 : decode cX8_take 21 = .ok (.istore_n 3, 1) := by decide +kernel
theorem dX8_take_22 : decode cX8_take 22 = .ok (.aload_n 0, 1) := by decide +kernel
theorem dX8_take_23 : decode cX8_take 23 = .ok (.getfield 29, 3) := by decide +kernel
theorem dX8_take_26 : decode cX8_take 26 = .ok (.iload_n 2, 1) := by decide +kernel
theorem dX8_take_27 : decode cX8_take 27 = .ok (.aload_n 1, 1) := by decide +kernel
theorem dX8_take_28 : decode cX8_take 28 = .ok (.getfield 105, 3) := by decide +kernel
theorem dX8_take_31 : decode cX8_take 31 = .ok (.iload_n 2, 1) := by decide +kernel
theorem dX8_take_32 : decode cX8_take 32 = .ok (.baload, 1) := by decide +kernel
theorem dX8_take_33 : decode cX8_take 33 = .ok (.ifCond .eq 28, 3) := by decide +kernel
theorem dX8_take_61 : decode cX8_take 61 = .ok (.iconst 0, 1) := by decide +kernel
theorem dX8_take_62 : decode cX8_take 62 = .ok (.bastore, 1) := by decide +kernel
theorem dX8_take_36 : decode cX8_take 36 = .ok (.iload_n 3, 1) := by decide +kernel
theorem dX8_take_37 : decode cX8_take 37 = .ok (.ifCond .ne 24, 3) := by decide +kernel
theorem dX8_take_40 : decode cX8_take 40 = .ok (.iload_n 2, 1) := by decide +kernel
theorem dX8_take_41 : decode cX8_take 41 = .ok (.ifCond .eq 16, 3) := by decide +kernel
theorem dX8_take_57 : decode cX8_take 57 = .ok (.iconst 1, 1) := by decide +kernel
theorem dX8_take_58 : decode cX8_take 58 = .ok (.goto 4, 3) := by decide +kernel
theorem dX8_take_44 : decode cX8_take 44 = .ok (.aload_n 1, 1) := by decide +kernel
theorem dX8_take_45 : decode cX8_take 45 = .ok (.getfield 108, 3) := by decide +kernel
theorem dX8_take_48 : decode cX8_take 48 = .ok (.iload_n 2, 1) := by decide +kernel
theorem dX8_take_49 : decode cX8_take 49 = .ok (.iconst 1, 1) := by decide +kernel
theorem dX8_take_50 : decode cX8_take 50 = .ok (.isub, 1) := by decide +kernel
theorem dX8_take_51 : decode cX8_take 51 = .ok (.iaload, 1) := by decide +kernel
theorem dX8_take_52 : decode cX8_take 52 = .ok (.bipush 7, 2) := by decide +kernel
theorem dX8_take_54 : decode cX8_take 54 = .ok (.if_icmp .eq 7, 3) := by decide +kernel
theorem dX8_take_16 : decode cX8_take 16 = .ok (.iconst 1, 1) := by decide +kernel
theorem dX8_take_17 : decode cX8_take 17 = .ok (.goto 4, 3) := by decide +kernel
theorem dX8_finish_0 : decode cX8_finish 0 = .ok (.aload_n 0, 1) := by decide +kernel
theorem dX8_finish_1 : decode cX8_finish 1 = .ok (.getfield 53, 3) := by decide +kernel
theorem dX8_finish_4 : decode cX8_finish 4 = .ok (.ifCond .lt 60, 3) := by decide +kernel
theorem dX8_finish_64 : decode cX8_finish 64 = .ok (.iconst 1, 1) := by decide +kernel
theorem dX8_finish_65 : decode cX8_finish 65 = .ok (.istore_n 3, 1) := by decide +kernel
theorem dX8_finish_7 : decode cX8_finish 7 = .ok (.aload_n 0, 1) := by decide +kernel
theorem dX8_finish_8 : decode cX8_finish 8 = .ok (.getfield 53, 3) := by decide +kernel
theorem dX8_finish_11 : decode cX8_finish 11 = .ok (.aload_n 1, 1) := by decide +kernel
theorem dX8_finish_12 : decode cX8_finish 12 = .ok (.getfield 67, 3) := by decide +kernel
theorem dX8_finish_15 : decode cX8_finish 15 = .ok (.if_icmp .ge 49, 3) := by decide +kernel
theorem dX8_finish_18 : decode cX8_finish 18 = .ok (.aload_n 1, 1) := by decide +kernel
theorem dX8_finish_19 : decode cX8_finish 19 = .ok (.getfield 108, 3) := by decide +kernel
theorem dX8_finish_22 : decode cX8_finish 22 = .ok (.aload_n 0, 1) := by decide +kernel
theorem dX8_finish_23 : decode cX8_finish 23 = .ok (.getfield 53, 3) := by decide +kernel
theorem dX8_finish_26 : decode cX8_finish 26 = .ok (.iaload, 1) := by decide +kernel
theorem dX8_finish_27 : decode cX8_finish 27 = .ok (.istore_n 3, 1) := by decide +kernel
theorem dX8_finish_28 : decode cX8_finish 28 = .ok (.iload_n 3, 1) := by decide +kernel
theorem dX8_finish_29 : decode cX8_finish 29 = .ok (.iconst 1, 1) := by decide +kernel
theorem dX8_finish_30 : decode cX8_finish 30 = .ok (.if_icmp .ne 10, 3) := by decide +kernel
theorem dX8_finish_40 : decode cX8_finish 40 = .ok (.aload_n 0, 1) := by decide +kernel
theorem dX8_finish_41 : decode cX8_finish 41 = .ok (.iload_n 3, 1) := by decide +kernel
theorem dX8_finish_42 : decode cX8_finish 42 = .ok (.bipush (-9), 2) := by decide +kernel
theorem dX8_finish_44 : decode cX8_finish 44 = .ok (.aload_n 0, 1) := by decide +kernel
theorem dX8_finish_45 : decode cX8_finish 45 = .ok (.getfield 12, 3) := by decide +kernel
theorem dX8_finish_48 : decode cX8_finish 48 = .ok (.getfield 148, 3) := by decide +kernel
theorem dX8_finish_51 : decode cX8_finish 51 = .ok (.aload_n 0, 1) := by decide +kernel
theorem dX8_finish_52 : decode cX8_finish 52 = .ok (.invokevirtual 101, 3) := by decide +kernel
theorem dX8_finish_55 : decode cX8_finish 55 = .ok (.iaload, 1) := by decide +kernel
theorem dX8_finish_56 : decode cX8_finish 56 = .ok (.aload_n 0, 1) := by decide +kernel
theorem dX8_finish_57 : decode cX8_finish 57 = .ok (.getfield 53, 3) := by decide +kernel
theorem dX8_finish_60 : decode cX8_finish 60 = .ok (.invokevirtual 132, 3) := by decide +kernel
theorem dX8_finish_63 : decode cX8_finish 63 = .ok (.pop, 1) := by decide +kernel
theorem dX8_finish_33 : decode cX8_finish 33 = .ok (.aload_n 0, 1) := by decide +kernel
theorem dX8_finish_34 : decode cX8_finish 34 = .ok (.iconst 3, 1) := by decide +kernel
theorem dX8_finish_35 : decode cX8_finish 35 = .ok (.iload_n 2, 1) := by decide +kernel
theorem dX8_finish_36 : decode cX8_finish 36 = .ok (.invokevirtual 145, 3) := by decide +kernel
theorem dX8_finish_39 : decode cX8_finish 39 = .ok (.return_, 1) := by decide +kernel
theorem dX8_finish_66 : decode cX8_finish 66 = .ok (.iload_n 3, 1) := by decide +kernel
theorem dX8_finish_67 : decode cX8_finish 67 = .ok (.aload_n 0, 1) := by decide +kernel
theorem dX8_finish_68 : decode cX8_finish 68 = .ok (.getfield 50, 3) := by decide +kernel
theorem dX8_finish_71 : decode cX8_finish 71 = .ok (.if_icmp .ge 71, 3) := by decide +kernel
theorem dX8_finish_142 : decode cX8_finish 142 = .ok (.return_, 1) := by decide +kernel
theorem dX8_finish_74 : decode cX8_finish 74 = .ok (.aload_n 0, 1) := by decide +kernel
theorem dX8_finish_75 : decode cX8_finish 75 = .ok (.getfield 33, 3) := by decide +kernel
theorem dX8_finish_78 : decode cX8_finish 78 = .ok (.iload_n 3, 1) := by decide +kernel
theorem dX8_finish_79 : decode cX8_finish 79 = .ok (.iaload, 1) := by decide +kernel
theorem dX8_finish_80 : decode cX8_finish 80 = .ok (.istore 4, 2) := by decide +kernel
theorem dX8_finish_82 : decode cX8_finish 82 = .ok (.aload_n 0, 1) := by decide +kernel
theorem dX8_finish_83 : decode cX8_finish 83 = .ok (.getfield 12, 3) := by decide +kernel
theorem dX8_finish_86 : decode cX8_finish 86 = .ok (.getfield 160, 3) := by decide +kernel
theorem dX8_finish_89 : decode cX8_finish 89 = .ok (.iload 4, 2) := by decide +kernel
theorem dX8_finish_91 : decode cX8_finish 91 = .ok (.iaload, 1) := by decide +kernel
theorem dX8_finish_92 : decode cX8_finish 92 = .ok (.istore 5, 2) := by decide +kernel
theorem dX8_finish_94 : decode cX8_finish 94 = .ok (.aload_n 0, 1) := by decide +kernel
theorem dX8_finish_95 : decode cX8_finish 95 = .ok (.getfield 12, 3) := by decide +kernel
theorem dX8_finish_98 : decode cX8_finish 98 = .ok (.getfield 98, 3) := by decide +kernel
theorem dX8_finish_101 : decode cX8_finish 101 = .ok (.iload 4, 2) := by decide +kernel
theorem dX8_finish_103 : decode cX8_finish 103 = .ok (.iaload, 1) := by decide +kernel
theorem dX8_finish_104 : decode cX8_finish 104 = .ok (.iconst 4, 1) := by decide +kernel
theorem dX8_finish_105 : decode cX8_finish 105 = .ok (.if_icmp .ne 31, 3) := by decide +kernel
theorem dX8_finish_136 : decode cX8_finish 136 = .ok (.iinc 3 1, 3) := by decide +kernel
theorem dX8_finish_139 : decode cX8_finish 139 = .ok (.goto (-73), 3) := by decide +kernel
theorem dX8_finish_108 : decode cX8_finish 108 = .ok (.iload 5, 2) := by decide +kernel
theorem dX8_finish_110 : decode cX8_finish 110 = .ok (.ifCond .lt 26, 3) := by decide +kernel
theorem dX8_finish_113 : decode cX8_finish 113 = .ok (.iload 5, 2) := by decide +kernel
theorem dX8_finish_115 : decode cX8_finish 115 = .ok (.aload_n 1, 1) := by decide +kernel
theorem dX8_finish_116 : decode cX8_finish 116 = .ok (.getfield 67, 3) := by decide +kernel
theorem dX8_finish_119 : decode cX8_finish 119 = .ok (.if_icmp .ge 17, 3) := by decide +kernel
theorem dX8_finish_122 : decode cX8_finish 122 = .ok (.aload_n 0, 1) := by decide +kernel
theorem dX8_finish_123 : decode cX8_finish 123 = .ok (.bipush 6, 2) := by decide +kernel
theorem dX8_finish_125 : decode cX8_finish 125 = .ok (.aload_n 1, 1) := by decide +kernel
theorem dX8_finish_126 : decode cX8_finish 126 = .ok (.getfield 142, 3) := by decide +kernel
theorem dX8_finish_129 : decode cX8_finish 129 = .ok (.iload 5, 2) := by decide +kernel
theorem dX8_finish_131 : decode cX8_finish 131 = .ok (.iaload, 1) := by decide +kernel
theorem dX8_finish_132 : decode cX8_finish 132 = .ok (.invokevirtual 145, 3) := by decide +kernel
theorem dX8_finish_135 : decode cX8_finish 135 = .ok (.return_, 1) := by decide +kernel
theorem dX8_grow_0 : decode cX8_grow 0 = .ok (.aload_n 0, 1) := by decide +kernel
theorem dX8_grow_1 : decode cX8_grow 1 = .ok (.iconst 0, 1) := by decide +kernel
theorem dX8_grow_2 : decode cX8_grow 2 = .ok (.putfield 36, 3) := by decide +kernel
theorem dX8_grow_5 : decode cX8_grow 5 = .ok (.aload_n 0, 1) := by decide +kernel
theorem dX8_grow_6 : decode cX8_grow 6 = .ok (.bipush (-9), 2) := by decide +kernel
theorem dX8_grow_8 : decode cX8_grow 8 = .ok (.putfield 40, 3) := by decide +kernel
theorem dX8_grow_11 : decode cX8_grow 11 = .ok (.aload_n 0, 1) := by decide +kernel
theorem dX8_grow_12 : decode cX8_grow 12 = .ok (.getfield 12, 3) := by decide +kernel
theorem dX8_grow_15 : decode cX8_grow 15 = .ok (.iconst 0, 1) := by decide +kernel
theorem dX8_grow_16 : decode cX8_grow 16 = .ok (.putfield 43, 3) := by decide +kernel
theorem dX8_grow_19 : decode cX8_grow 19 = .ok (.aload_n 0, 1) := by decide +kernel
theorem dX8_grow_20 : decode cX8_grow 20 = .ok (.getfield 21, 3) := by decide +kernel
theorem dX8_grow_23 : decode cX8_grow 23 = .ok (.iconst 0, 1) := by decide +kernel
theorem dX8_grow_24 : decode cX8_grow 24 = .ok (.putfield 46, 3) := by decide +kernel
theorem dX8_grow_27 : decode cX8_grow 27 = .ok (.aload_n 0, 1) := by decide +kernel
theorem dX8_grow_28 : decode cX8_grow 28 = .ok (.getfield 21, 3) := by decide +kernel
theorem dX8_grow_31 : decode cX8_grow 31 = .ok (.iconst 0, 1) := by decide +kernel
theorem dX8_grow_32 : decode cX8_grow 32 = .ok (.putfield 47, 3) := by decide +kernel
theorem dX8_grow_35 : decode cX8_grow 35 = .ok (.aload_n 0, 1) := by decide +kernel
theorem dX8_grow_36 : decode cX8_grow 36 = .ok (.iconst 0, 1) := by decide +kernel
theorem dX8_grow_37 : decode cX8_grow 37 = .ok (.putfield 50, 3) := by decide +kernel
theorem dX8_grow_40 : decode cX8_grow 40 = .ok (.aload_n 0, 1) := by decide +kernel
theorem dX8_grow_41 : decode cX8_grow 41 = .ok (.bipush (-9), 2) := by decide +kernel
theorem dX8_grow_43 : decode cX8_grow 43 = .ok (.putfield 53, 3) := by decide +kernel
theorem dX8_grow_46 : decode cX8_grow 46 = .ok (.aload_n 0, 1) := by decide +kernel
theorem dX8_grow_47 : decode cX8_grow 47 = .ok (.bipush (-9), 2) := by decide +kernel
theorem dX8_grow_49 : decode cX8_grow 49 = .ok (.putfield 56, 3) := by decide +kernel
theorem dX8_grow_52 : decode cX8_grow 52 = .ok (.aload_n 0, 1) := by decide +kernel
theorem dX8_grow_53 : decode cX8_grow 53 = .ok (.aload_n 0, 1) := by decide +kernel
theorem dX8_grow_54 : decode cX8_grow 54 = .ok (.getfield 12, 3) := by decide +kernel
theorem dX8_grow_57 : decode cX8_grow 57 = .ok (.iconst 0, 1) := by decide +kernel
theorem dX8_grow_58 : decode cX8_grow 58 = .ok (.iconst 0, 1) := by decide +kernel
theorem dX8_grow_59 : decode cX8_grow 59 = .ok (.bipush (-9), 2) := by decide +kernel
theorem dX8_grow_61 : decode cX8_grow 61 = .ok (.iconst 0, 1) := by decide +kernel
theorem dX8_grow_62 : decode cX8_grow 62 = .ok (.bipush (-9), 2) := by decide +kernel
theorem dX8_grow_64 : decode cX8_grow 64 = .ok (.invokevirtual 59, 3) := by decide +kernel
theorem dX8_grow_67 : decode cX8_grow 67 = .ok (.invokevirtual 63, 3) := by decide +kernel
theorem dX8_grow_70 : decode cX8_grow 70 = .ok (.iconst 0, 1) := by decide +kernel
theorem dX8_grow_71 : decode cX8_grow 71 = .ok (.istore_n 3, 1) := by decide +kernel
theorem dX8_grow_72 : decode cX8_grow 72 = .ok (.iload_n 3, 1) := by decide +kernel
theorem dX8_grow_73 : decode cX8_grow 73 = .ok (.aload_n 1, 1) := by decide +kernel
theorem dX8_grow_74 : decode cX8_grow 74 = .ok (.getfield 67, 3) := by decide +kernel
theorem dX8_grow_77 : decode cX8_grow 77 = .ok (.if_icmp .ge 22, 3) := by decide +kernel
theorem dX8_grow_99 : decode cX8_grow 99 = .ok (.aload_n 0, 1) := by decide +kernel
theorem dX8_grow_100 : decode cX8_grow 100 = .ok (.getfield 36, 3) := by decide +kernel
theorem dX8_grow_103 : decode cX8_grow 103 = .ok (.ifCond .ne 9, 3) := by decide +kernel
theorem dX8_grow_112 : decode cX8_grow 112 = .ok (.aload_n 0, 1) := by decide +kernel
theorem dX8_grow_113 : decode cX8_grow 113 = .ok (.getfield 36, 3) := by decide +kernel
theorem dX8_grow_116 : decode cX8_grow 116 = .ok (.ifCond .ne 7, 3) := by decide +kernel
theorem dX8_grow_123 : decode cX8_grow 123 = .ok (.return_, 1) := by decide +kernel
theorem dX8_grow_119 : decode cX8_grow 119 = .ok (.aload_n 0, 1) := by decide +kernel
theorem dX8_grow_120 : decode cX8_grow 120 = .ok (.invokevirtual 77, 3) := by decide +kernel
theorem dX8_grow_106 : decode cX8_grow 106 = .ok (.aload_n 0, 1) := by decide +kernel
theorem dX8_grow_107 : decode cX8_grow 107 = .ok (.aload_n 1, 1) := by decide +kernel
theorem dX8_grow_108 : decode cX8_grow 108 = .ok (.iload_n 2, 1) := by decide +kernel
theorem dX8_grow_109 : decode cX8_grow 109 = .ok (.invokevirtual 74, 3) := by decide +kernel
theorem dX8_grow_80 : decode cX8_grow 80 = .ok (.aload_n 0, 1) := by decide +kernel
theorem dX8_grow_81 : decode cX8_grow 81 = .ok (.getfield 36, 3) := by decide +kernel
theorem dX8_grow_84 : decode cX8_grow 84 = .ok (.ifCond .ne 15, 3) := by decide +kernel
theorem dX8_grow_87 : decode cX8_grow 87 = .ok (.aload_n 0, 1) := by decide +kernel
theorem dX8_grow_88 : decode cX8_grow 88 = .ok (.aload_n 1, 1) := by decide +kernel
theorem dX8_grow_89 : decode cX8_grow 89 = .ok (.iload_n 3, 1) := by decide +kernel
theorem dX8_grow_90 : decode cX8_grow 90 = .ok (.invokevirtual 70, 3) := by decide +kernel
theorem dX8_grow_93 : decode cX8_grow 93 = .ok (.iinc 3 1, 3) := by decide +kernel
theorem dX8_grow_96 : decode cX8_grow 96 = .ok (.goto (-24), 3) := by decide +kernel
set_option maxHeartbeats 4000000 in
set_option maxRecDepth 100000 in
theorem g_X8_itemBehindBracket_17_9 (l : Launch) (D : va_G) (tA : Nat → ClassId) (b : Nat) (i F : Nat → Nat → Int32) (G : Nat → Nat → Int64) (x : Int32) (k : Int) (hT : Tb17 i F) (hQ : Pp17 k i F) (hk : 0 ≤ k) (htk : 0 ≤ (i 9 7).toInt ∧ (i 9 7).toInt ≤ 600) (hx : 0 ≤ x.toInt ∧ x.toInt < (i 9 7).toInt) : xMI l yX8_itemBehindBracket cX8_itemBehindBracket 5 (some .int) 1 22 D tA b 0 78 i F G [.ref (b + 17), .ref (b + 9), .int x] (fun r u => On 17 39 i F G u ∧ Tb17 u.1 u.2.1 ∧ Pp17 k u.1 u.2.1) := by
  refine xstart RX8 rfl (by decide) (Nat.le_of_ble_eq_true rfl) ?_
  intro p e s m below meth c ls C0 hr hH hS hl
  have hl : lv_has ls 5 [(0, .ref (b + 17)), (1, .ref (b + 9)), (2, .int x)] := hl
  have rg_x := fb_rng x
  have hL := Tb17.lin hT
  have h601 : Int32.toInt (nI 601) = 601 := rfl
  refine lv_aload_n (pc := 0) C0.1 C0.2.1 dX8_itemBehindBracket_0 rfl (lv_at hl 0 rfl) ?_
  refine xcVI (pc := 1) 17 [] (g_X8_top_17 l D tA b i F G  hT) C0 hH hS clX8 rfl ⟨⟨Nat.le_of_ble_eq_true rfl, Nat.le_of_ble_eq_true rfl⟩, rfl, rfl⟩ cw_X8_101 rfl ⟨Nat.le_of_ble_eq_true rfl, Nat.le_of_ble_eq_true rfl⟩ hl.1 rfl (Nat.le_of_ble_eq_true rfl) dX8_itemBehindBracket_1 ⟨Nat.le_of_ble_eq_true rfl, Nat.le_of_ble_eq_true rfl⟩ (fun r1 ir1 Fr1 Gr1 _ locs hp hH hS => ?_)
  obtain ⟨hu, hpr1⟩ := hp
  cases hu
  refine lv_istore_n (pc := 4) (lv' := [(3, .int r1), (0, .ref (b + 17)), (1, .ref (b + 9)), (2, .int x)]) C0.1 C0.2.1 dX8_itemBehindBracket_4 rfl hl (by decide) rfl (fun ls hl => ?_)
  refine lv_aload_n (pc := 5) C0.1 C0.2.1 dX8_itemBehindBracket_5 rfl (lv_at hl 1 rfl) ?_
  refine xget (pc := 6) C0 hH 17 0 clX8 ⟨Nat.le_of_ble_eq_true rfl, Nat.le_of_ble_eq_true rfl⟩ ⟨rfl, rfl⟩ (Nat.le_of_ble_eq_true rfl) fl_X8_12 (v := .ref (b + 18)) rfl dX8_itemBehindBracket_6 ?_
  refine xget (pc := 9) C0 hH 18 0 clX0 ⟨Nat.le_of_ble_eq_true rfl, Nat.le_of_ble_eq_true rfl⟩ ⟨rfl, rfl⟩ (Nat.le_of_ble_eq_true rfl) fl_X8_98 (v := .ref (b + 19)) rfl dX8_itemBehindBracket_9 ?_
  refine lv_iload_n (pc := 12) C0.1 C0.2.1 dX8_itemBehindBracket_12 rfl (lv_at hl 0 rfl) ?_
  refine xiald (pc := 13) (N := 601) C0 hH 19 ⟨Nat.le_of_ble_eq_true rfl, Nat.le_of_ble_eq_true rfl⟩ ⟨rfl, rfl⟩ (vI (by omega) (by omega)) dX8_itemBehindBracket_13 ?_
  refine lv_iconst (pc := 14) (v := 4) C0.1 C0.2.1 dX8_itemBehindBracket_14 (by decide) ?_
  refine lv_icmp_ne (pc := 15) (tgt := 30) C0.1 C0.2.1 dX8_itemBehindBracket_15 (by decide) (fun c2 => ?_) (fun c2 => ?_)
  · have : Int32.toInt 4 = 4 := rfl
    have c2 : ¬ _ := fun q => c2 (Int32.toInt_inj.mp q)
    refine lv_bipush (pc := 30) (v := (-9)) C0.1 C0.2.1 dX8_itemBehindBracket_30 (by decide) ?_
    refine lv_istore (pc := 32) (lv' := [(4, .int (-9)), (3, .int r1), (0, .ref (b + 17)), (1, .ref (b + 9)), (2, .int x)]) C0.1 C0.2.1 dX8_itemBehindBracket_32 hl (by decide) rfl (fun ls hl => ?_)
    refine lv_iload (pc := 34) C0.1 C0.2.1 dX8_itemBehindBracket_34 (lv_at hl 0 rfl) ?_
    refine lv_if_lt (pc := 36) (tgt := 67) C0.1 C0.2.1 dX8_itemBehindBracket_36 (by decide) (fun _ => ?_) (fun c => absurd (by decide) c)
    refine lv_aload_n (pc := 67) C0.1 C0.2.1 dX8_itemBehindBracket_67 rfl (lv_at hl 2 rfl) ?_
    refine lv_iconst (pc := 68) (v := 5) C0.1 C0.2.1 dX8_itemBehindBracket_68 (by decide) ?_
    refine lv_aload_n (pc := 69) C0.1 C0.2.1 dX8_itemBehindBracket_69 rfl (lv_at hl 3 rfl) ?_
    refine xget (pc := 70) C0 hH 9 1 clX7 ⟨Nat.le_of_ble_eq_true rfl, Nat.le_of_ble_eq_true rfl⟩ ⟨rfl, rfl⟩ (Nat.le_of_ble_eq_true rfl) fl_X8_142 (v := .ref (b + 11)) rfl dX8_itemBehindBracket_70 ?_
    refine lv_iload_n (pc := 73) C0.1 C0.2.1 dX8_itemBehindBracket_73 rfl (lv_at hl 4 rfl) ?_
    refine xiald (pc := 74) (N := 600) C0 hH 11 ⟨Nat.le_of_ble_eq_true rfl, Nat.le_of_ble_eq_true rfl⟩ ⟨rfl, rfl⟩ (vI (by omega) (by omega)) dX8_itemBehindBracket_74 ?_
    refine xcVV (pc := 75) 17 [.int 5, .int (F 11 (Int32.toNatClampNeg x))] (g_X8_fail_17 l D tA b i F G 5 (F 11 (Int32.toNatClampNeg x))) C0 hH hS clX8 rfl ⟨⟨Nat.le_of_ble_eq_true rfl, Nat.le_of_ble_eq_true rfl⟩, rfl, rfl⟩ cw_X8_145 rfl ⟨Nat.le_of_ble_eq_true rfl, Nat.le_of_ble_eq_true rfl⟩ hl.1 rfl (Nat.le_of_ble_eq_true rfl) dX8_itemBehindBracket_75 ⟨Nat.le_of_ble_eq_true rfl, Nat.le_of_ble_eq_true rfl⟩ (fun ir3 Fr3 Gr3 _ locs hp hH hS => ?_)
    cases hp
    have hH : Hd D tA b 0 78 zz (up2 (up2 i 17 4 5) 17 5 (F 11 (Int32.toNatClampNeg x))) F G _ := hH
    refine lv_bipush (pc := 78) (v := (-9)) C0.1 C0.2.1 dX8_itemBehindBracket_78 (by decide) ?_
    exact xiret (pc := 80) C0 hr hH hS dX8_itemBehindBracket_80 ⟨(On.i (On.i On.rf (by decide)) (by decide)), hT, hQ⟩
  · have : Int32.toInt 4 = 4 := rfl
    have c2 := congrArg Int32.toInt c2
    refine lv_aload_n (pc := 18) C0.1 C0.2.1 dX8_itemBehindBracket_18 rfl (lv_at hl 1 rfl) ?_
    refine xget (pc := 19) C0 hH 17 0 clX8 ⟨Nat.le_of_ble_eq_true rfl, Nat.le_of_ble_eq_true rfl⟩ ⟨rfl, rfl⟩ (Nat.le_of_ble_eq_true rfl) fl_X8_12 (v := .ref (b + 18)) rfl dX8_itemBehindBracket_19 ?_
    refine xget (pc := 22) C0 hH 18 7 clX0 ⟨Nat.le_of_ble_eq_true rfl, Nat.le_of_ble_eq_true rfl⟩ ⟨rfl, rfl⟩ (Nat.le_of_ble_eq_true rfl) fl_X8_160 (v := .ref (b + 26)) rfl dX8_itemBehindBracket_22 ?_
    refine lv_iload_n (pc := 25) C0.1 C0.2.1 dX8_itemBehindBracket_25 rfl (lv_at hl 0 rfl) ?_
    refine xiald (pc := 26) (N := 601) C0 hH 26 ⟨Nat.le_of_ble_eq_true rfl, Nat.le_of_ble_eq_true rfl⟩ ⟨rfl, rfl⟩ (vI (by omega) (by omega)) dX8_itemBehindBracket_26 ?_
    refine lv_goto (pc := 27) (tgt := 32) C0.1 C0.2.1 dX8_itemBehindBracket_27 (by decide) ?_
    refine lv_topi (fun x4 ex4 => ?_)
    refine lv_istore (pc := 32) (lv' := [(4, .int x4), (3, .int r1), (0, .ref (b + 17)), (1, .ref (b + 9)), (2, .int x)]) C0.1 C0.2.1 dX8_itemBehindBracket_32 hl (by decide) rfl (fun ls hl => ?_)
    refine lv_iload (pc := 34) C0.1 C0.2.1 dX8_itemBehindBracket_34 (lv_at hl 0 rfl) ?_
    refine lv_if_lt (pc := 36) (tgt := 67) C0.1 C0.2.1 dX8_itemBehindBracket_36 (by decide) (fun c5 => ?_) (fun c5 => ?_)
    · have : Int32.toInt 0 = 0 := rfl
      have c5 := Int32.lt_iff_toInt_lt.mp c5
      refine lv_aload_n (pc := 67) C0.1 C0.2.1 dX8_itemBehindBracket_67 rfl (lv_at hl 2 rfl) ?_
      refine lv_iconst (pc := 68) (v := 5) C0.1 C0.2.1 dX8_itemBehindBracket_68 (by decide) ?_
      refine lv_aload_n (pc := 69) C0.1 C0.2.1 dX8_itemBehindBracket_69 rfl (lv_at hl 3 rfl) ?_
      refine xget (pc := 70) C0 hH 9 1 clX7 ⟨Nat.le_of_ble_eq_true rfl, Nat.le_of_ble_eq_true rfl⟩ ⟨rfl, rfl⟩ (Nat.le_of_ble_eq_true rfl) fl_X8_142 (v := .ref (b + 11)) rfl dX8_itemBehindBracket_70 ?_
      refine lv_iload_n (pc := 73) C0.1 C0.2.1 dX8_itemBehindBracket_73 rfl (lv_at hl 4 rfl) ?_
      refine xiald (pc := 74) (N := 600) C0 hH 11 ⟨Nat.le_of_ble_eq_true rfl, Nat.le_of_ble_eq_true rfl⟩ ⟨rfl, rfl⟩ (vI (by omega) (by omega)) dX8_itemBehindBracket_74 ?_
      refine xcVV (pc := 75) 17 [.int 5, .int (F 11 (Int32.toNatClampNeg x))] (g_X8_fail_17 l D tA b i F G 5 (F 11 (Int32.toNatClampNeg x))) C0 hH hS clX8 rfl ⟨⟨Nat.le_of_ble_eq_true rfl, Nat.le_of_ble_eq_true rfl⟩, rfl, rfl⟩ cw_X8_145 rfl ⟨Nat.le_of_ble_eq_true rfl, Nat.le_of_ble_eq_true rfl⟩ hl.1 rfl (Nat.le_of_ble_eq_true rfl) dX8_itemBehindBracket_75 ⟨Nat.le_of_ble_eq_true rfl, Nat.le_of_ble_eq_true rfl⟩ (fun ir6 Fr6 Gr6 _ locs hp hH hS => ?_)
      cases hp
      have hH : Hd D tA b 0 78 zz (up2 (up2 i 17 4 5) 17 5 (F 11 (Int32.toNatClampNeg x))) F G _ := hH
      refine lv_bipush (pc := 78) (v := (-9)) C0.1 C0.2.1 dX8_itemBehindBracket_78 (by decide) ?_
      exact xiret (pc := 80) C0 hr hH hS dX8_itemBehindBracket_80 ⟨(On.i (On.i On.rf (by decide)) (by decide)), hT, hQ⟩
    · have : Int32.toInt 0 = 0 := rfl
      have c5 : ¬ _ := fun q => c5 (Int32.lt_iff_toInt_lt.mpr q)
      refine lv_iload (pc := 39) C0.1 C0.2.1 dX8_itemBehindBracket_39 (lv_at hl 0 rfl) ?_
      refine lv_iload_n (pc := 41) C0.1 C0.2.1 dX8_itemBehindBracket_41 rfl (lv_at hl 4 rfl) ?_
      refine lv_icmp_ge (pc := 42) (tgt := 67) C0.1 C0.2.1 dX8_itemBehindBracket_42 (by decide) (fun c7 => ?_) (fun c7 => ?_)
      · have c7 := Int32.le_iff_toInt_le.mp c7
        refine lv_aload_n (pc := 67) C0.1 C0.2.1 dX8_itemBehindBracket_67 rfl (lv_at hl 2 rfl) ?_
        refine lv_iconst (pc := 68) (v := 5) C0.1 C0.2.1 dX8_itemBehindBracket_68 (by decide) ?_
        refine lv_aload_n (pc := 69) C0.1 C0.2.1 dX8_itemBehindBracket_69 rfl (lv_at hl 3 rfl) ?_
        refine xget (pc := 70) C0 hH 9 1 clX7 ⟨Nat.le_of_ble_eq_true rfl, Nat.le_of_ble_eq_true rfl⟩ ⟨rfl, rfl⟩ (Nat.le_of_ble_eq_true rfl) fl_X8_142 (v := .ref (b + 11)) rfl dX8_itemBehindBracket_70 ?_
        refine lv_iload_n (pc := 73) C0.1 C0.2.1 dX8_itemBehindBracket_73 rfl (lv_at hl 4 rfl) ?_
        refine xiald (pc := 74) (N := 600) C0 hH 11 ⟨Nat.le_of_ble_eq_true rfl, Nat.le_of_ble_eq_true rfl⟩ ⟨rfl, rfl⟩ (vI (by omega) (by omega)) dX8_itemBehindBracket_74 ?_
        refine xcVV (pc := 75) 17 [.int 5, .int (F 11 (Int32.toNatClampNeg x))] (g_X8_fail_17 l D tA b i F G 5 (F 11 (Int32.toNatClampNeg x))) C0 hH hS clX8 rfl ⟨⟨Nat.le_of_ble_eq_true rfl, Nat.le_of_ble_eq_true rfl⟩, rfl, rfl⟩ cw_X8_145 rfl ⟨Nat.le_of_ble_eq_true rfl, Nat.le_of_ble_eq_true rfl⟩ hl.1 rfl (Nat.le_of_ble_eq_true rfl) dX8_itemBehindBracket_75 ⟨Nat.le_of_ble_eq_true rfl, Nat.le_of_ble_eq_true rfl⟩ (fun ir8 Fr8 Gr8 _ locs hp hH hS => ?_)
        cases hp
        have hH : Hd D tA b 0 78 zz (up2 (up2 i 17 4 5) 17 5 (F 11 (Int32.toNatClampNeg x))) F G _ := hH
        refine lv_bipush (pc := 78) (v := (-9)) C0.1 C0.2.1 dX8_itemBehindBracket_78 (by decide) ?_
        exact xiret (pc := 80) C0 hr hH hS dX8_itemBehindBracket_80 ⟨(On.i (On.i On.rf (by decide)) (by decide)), hT, hQ⟩
      · have c7 : ¬ _ := fun q => c7 (Int32.le_iff_toInt_le.mpr q)
        refine lv_aload_n (pc := 45) C0.1 C0.2.1 dX8_itemBehindBracket_45 rfl (lv_at hl 3 rfl) ?_
        refine xget (pc := 46) C0 hH 9 5 clX7 ⟨Nat.le_of_ble_eq_true rfl, Nat.le_of_ble_eq_true rfl⟩ ⟨rfl, rfl⟩ (Nat.le_of_ble_eq_true rfl) fl_X8_108 (v := .ref (b + 15)) rfl dX8_itemBehindBracket_46 ?_
        refine lv_iload (pc := 49) C0.1 C0.2.1 dX8_itemBehindBracket_49 (lv_at hl 0 rfl) ?_
        refine xiald (pc := 51) (N := 600) C0 hH 15 ⟨Nat.le_of_ble_eq_true rfl, Nat.le_of_ble_eq_true rfl⟩ ⟨rfl, rfl⟩ (vI (by omega) (by omega)) dX8_itemBehindBracket_51 ?_
        refine lv_bipush (pc := 52) (v := 10) C0.1 C0.2.1 dX8_itemBehindBracket_52 (by decide) ?_
        refine lv_isub (pc := 54) C0.1 C0.2.1 dX8_itemBehindBracket_54 ?_
        refine lv_aload_n (pc := 55) C0.1 C0.2.1 dX8_itemBehindBracket_55 rfl (lv_at hl 3 rfl) ?_
        refine xget (pc := 56) C0 hH 9 5 clX7 ⟨Nat.le_of_ble_eq_true rfl, Nat.le_of_ble_eq_true rfl⟩ ⟨rfl, rfl⟩ (Nat.le_of_ble_eq_true rfl) fl_X8_108 (v := .ref (b + 15)) rfl dX8_itemBehindBracket_56 ?_
        refine lv_iload_n (pc := 59) C0.1 C0.2.1 dX8_itemBehindBracket_59 rfl (lv_at hl 4 rfl) ?_
        refine xiald (pc := 60) (N := 600) C0 hH 15 ⟨Nat.le_of_ble_eq_true rfl, Nat.le_of_ble_eq_true rfl⟩ ⟨rfl, rfl⟩ (vI (by omega) (by omega)) dX8_itemBehindBracket_60 ?_
        refine lv_bipush (pc := 61) (v := 20) C0.1 C0.2.1 dX8_itemBehindBracket_61 (by decide) ?_
        refine lv_isub (pc := 63) C0.1 C0.2.1 dX8_itemBehindBracket_63 ?_
        refine lv_icmp_eq (pc := 64) (tgt := 81) C0.1 C0.2.1 dX8_itemBehindBracket_64 (by decide) (fun c9 => ?_) (fun c9 => ?_)
        · have c9 := congrArg Int32.toInt c9
          have h2 : ¬ (i 17 7).toInt = 1 := fun q => by
            have q1 := hpr1.2 q
            have q2 : Int32.toInt (F 19 (Int32.toNatClampNeg r1)) = Int32.toInt 4 := (by assumption)
            rw [q1, show Int32.toNatClampNeg 0 = 0 from rfl, hT.2.2.2.2.2] at q2
            exact absurd q2 (by decide)
          refine lv_aload_n (pc := 81) C0.1 C0.2.1 dX8_itemBehindBracket_81 rfl (lv_at hl 2 rfl) ?_
          refine lv_dup (pc := 82) C0.1 C0.2.1 dX8_itemBehindBracket_82 rfl ?_
          refine xget (pc := 83) C0 hH 17 7 clX8 ⟨Nat.le_of_ble_eq_true rfl, Nat.le_of_ble_eq_true rfl⟩ ⟨rfl, rfl⟩ (Nat.le_of_ble_eq_true rfl) fl_X8_50 (v := .int (i 17 7)) rfl dX8_itemBehindBracket_83 ?_
          refine lv_iconst (pc := 86) (v := 1) C0.1 C0.2.1 dX8_itemBehindBracket_86 (by decide) ?_
          have : Int32.toInt 1 = 1 := rfl
          refine lv_isub (pc := 87) C0.1 C0.2.1 dX8_itemBehindBracket_87 ?_
          refine lv_topi (fun x10 ex10 => ?_)
          have hx10 : Int32.toInt x10 = Int32.toInt (i 17 7) - Int32.toInt 1 := by rw [ex10]; exact fb_subI (by omega) (by omega)
          refine xputI (pc := 88) C0 (Nat.le_of_ble_eq_true rfl) hH hS 17 7 clX8 ⟨Nat.le_of_ble_eq_true rfl, Nat.le_of_ble_eq_true rfl⟩ ⟨rfl, rfl⟩ ⟨Nat.le_of_ble_eq_true rfl, rfl, rfl⟩ fl_X8_50 (x := x10) ⟨rfl, rfl⟩ dX8_itemBehindBracket_88 (fun _ locs hH hS _ => ?_)
          have hH : Hd D tA b 0 78 zz (up2 i 17 7 x10) F G _ := hH
          refine lv_aload_n (pc := 91) C0.1 C0.2.1 dX8_itemBehindBracket_91 rfl (lv_at hl 2 rfl) ?_
          refine xget (pc := 92) C0 hH 17 0 clX8 ⟨Nat.le_of_ble_eq_true rfl, Nat.le_of_ble_eq_true rfl⟩ ⟨rfl, rfl⟩ (Nat.le_of_ble_eq_true rfl) fl_X8_12 (v := .ref (b + 18)) rfl dX8_itemBehindBracket_92 ?_
          refine xget (pc := 95) C0 hH 18 2 clX0 ⟨Nat.le_of_ble_eq_true rfl, Nat.le_of_ble_eq_true rfl⟩ ⟨rfl, rfl⟩ (Nat.le_of_ble_eq_true rfl) fl_X8_88 (v := .ref (b + 21)) rfl dX8_itemBehindBracket_95 ?_
          refine lv_iload_n (pc := 98) C0.1 C0.2.1 dX8_itemBehindBracket_98 rfl (lv_at hl 1 rfl) ?_
          refine xiald (pc := 99) (N := 601) C0 hH 21 ⟨Nat.le_of_ble_eq_true rfl, Nat.le_of_ble_eq_true rfl⟩ ⟨rfl, rfl⟩ (vI (by omega) (by omega)) dX8_itemBehindBracket_99 ?_
          exact xiret (pc := 100) C0 hr hH hS dX8_itemBehindBracket_100 ⟨(On.i On.rf (by decide)), Tb17.hgt hT (by omega), hQ⟩
        · have c9 : ¬ _ := fun q => c9 (Int32.toInt_inj.mp q)
          refine lv_aload_n (pc := 67) C0.1 C0.2.1 dX8_itemBehindBracket_67 rfl (lv_at hl 2 rfl) ?_
          refine lv_iconst (pc := 68) (v := 5) C0.1 C0.2.1 dX8_itemBehindBracket_68 (by decide) ?_
          refine lv_aload_n (pc := 69) C0.1 C0.2.1 dX8_itemBehindBracket_69 rfl (lv_at hl 3 rfl) ?_
          refine xget (pc := 70) C0 hH 9 1 clX7 ⟨Nat.le_of_ble_eq_true rfl, Nat.le_of_ble_eq_true rfl⟩ ⟨rfl, rfl⟩ (Nat.le_of_ble_eq_true rfl) fl_X8_142 (v := .ref (b + 11)) rfl dX8_itemBehindBracket_70 ?_
          refine lv_iload_n (pc := 73) C0.1 C0.2.1 dX8_itemBehindBracket_73 rfl (lv_at hl 4 rfl) ?_
          refine xiald (pc := 74) (N := 600) C0 hH 11 ⟨Nat.le_of_ble_eq_true rfl, Nat.le_of_ble_eq_true rfl⟩ ⟨rfl, rfl⟩ (vI (by omega) (by omega)) dX8_itemBehindBracket_74 ?_
          refine xcVV (pc := 75) 17 [.int 5, .int (F 11 (Int32.toNatClampNeg x))] (g_X8_fail_17 l D tA b i F G 5 (F 11 (Int32.toNatClampNeg x))) C0 hH hS clX8 rfl ⟨⟨Nat.le_of_ble_eq_true rfl, Nat.le_of_ble_eq_true rfl⟩, rfl, rfl⟩ cw_X8_145 rfl ⟨Nat.le_of_ble_eq_true rfl, Nat.le_of_ble_eq_true rfl⟩ hl.1 rfl (Nat.le_of_ble_eq_true rfl) dX8_itemBehindBracket_75 ⟨Nat.le_of_ble_eq_true rfl, Nat.le_of_ble_eq_true rfl⟩ (fun ir11 Fr11 Gr11 _ locs hp hH hS => ?_)
          cases hp
          have hH : Hd D tA b 0 78 zz (up2 (up2 i 17 4 5) 17 5 (F 11 (Int32.toNatClampNeg x))) F G _ := hH
          refine lv_bipush (pc := 78) (v := (-9)) C0.1 C0.2.1 dX8_itemBehindBracket_78 (by decide) ?_
          exact xiret (pc := 80) C0 hr hH hS dX8_itemBehindBracket_80 ⟨(On.i (On.i On.rf (by decide)) (by decide)), hT, hQ⟩
set_option maxHeartbeats 4000000 in
set_option maxRecDepth 100000 in
theorem g_X8_itemOfHead_17_9 (l : Launch) (D : va_G) (tA : Nat → ClassId) (b : Nat) (i F : Nat → Nat → Int32) (G : Nat → Nat → Int64) (x : Int32) (k : Int) (hT : Tb17 i F) (hQ : Pp17 k i F) (hk : 0 ≤ k) (htk : 0 ≤ (i 9 7).toInt ∧ (i 9 7).toInt ≤ 600) (hx : 0 ≤ x.toInt ∧ x.toInt < (i 9 7).toInt) : xMI l yX8_itemOfHead cX8_itemOfHead 5 (some .int) 2 44 D tA b 0 78 i F G [.ref (b + 17), .ref (b + 9), .int x] (fun r u => On 17 39 i F G u ∧ Tb17 u.1 u.2.1 ∧ Pp17 k u.1 u.2.1) := by
  refine xstart RX8 rfl (by decide) (Nat.le_of_ble_eq_true rfl) ?_
  intro p e s m below meth c ls C0 hr hH hS hl
  have hl : lv_has ls 5 [(0, .ref (b + 17)), (1, .ref (b + 9)), (2, .int x)] := hl
  have rg_x := fb_rng x
  have hL := Tb17.lin hT
  have h601 : Int32.toInt (nI 601) = 601 := rfl
  have LOOP : ∀ (d : Nat) (y9 : Int32) (iv Fv : Nat → Nat → Int32) (Gv : Nat → Nat → Int64) (H : Heap) (locs : List Loc) (ls : Array Slot), ((iv 17 7).toInt ≤ d) → (On 17 39 i F G (iv, Fv, Gv)) → (Tb17 iv Fv) → (Pp17 k iv Fv) → Hd D tA b 0 78 zz iv Fv Gv H → va_S (xA b 0 78) s.heap H locs → lv_has ls 5 [(3, .int y9), (0, .ref (b + 17)), (1, .ref (b + 9)), (2, .int x)] → W p l e (xR 2 44) s m ([.ref (b + 17), .ref (b + 9), .int x] : List Value).toArray below meth c H locs 0 0 (MQ below (va_Qi (fun r u => On 17 39 i F G u ∧ Tb17 u.1 u.2.1 ∧ Pp17 k u.1 u.2.1) (xB D tA b 0 78 zz) (xA b 0 78)) ([.ref (b + 17), .ref (b + 9), .int x] : List Value).toArray s 0 0 (xA b 0 78)) (F0 m 7 ls []) := by
    intro d
    induction d with
    | zero =>
      intro y9 iv Fv Gv H locs ls h1 h2 h3 h4 hH hS hl
      have rg_y9 := fb_rng y9
      have hT := h3
      have hQ := h4
      have hL := Tb17.lin hT
      have ekt : Int32.toInt (iv 9 7) = Int32.toInt (i 9 7) := congrArg Int32.toInt (congrFun (h2.1 9 (by decide)).1 7)
      refine lv_aload_n (pc := 7) C0.1 C0.2.1 dX8_itemOfHead_7 rfl (lv_at hl 1 rfl) ?_
      refine xget (pc := 8) C0 hH 17 7 clX8 ⟨Nat.le_of_ble_eq_true rfl, Nat.le_of_ble_eq_true rfl⟩ ⟨rfl, rfl⟩ (Nat.le_of_ble_eq_true rfl) fl_X8_50 (v := .int (iv 17 7)) rfl dX8_itemOfHead_8 ?_
      refine lv_iconst (pc := 11) (v := 1) C0.1 C0.2.1 dX8_itemOfHead_11 (by decide) ?_
      have : Int32.toInt 1 = 1 := rfl
      refine lv_icmp_le (pc := 12) (tgt := 44) C0.1 C0.2.1 dX8_itemOfHead_12 (by decide) (fun _ => ?_) (fun c => absurd (Int32.le_iff_toInt_le.mpr (by omega)) c)
      refine lv_aload_n (pc := 44) C0.1 C0.2.1 dX8_itemOfHead_44 rfl (lv_at hl 1 rfl) ?_
      refine xcVI (pc := 45) 17 [] (g_X8_top_17 l D tA b iv Fv Gv  hT) C0 hH hS clX8 rfl ⟨⟨Nat.le_of_ble_eq_true rfl, Nat.le_of_ble_eq_true rfl⟩, rfl, rfl⟩ cw_X8_101 rfl ⟨Nat.le_of_ble_eq_true rfl, Nat.le_of_ble_eq_true rfl⟩ hl.1 rfl (Nat.le_of_ble_eq_true rfl) dX8_itemOfHead_45 ⟨Nat.le_of_ble_eq_true rfl, Nat.le_of_ble_eq_true rfl⟩ (fun r101 ir101 Fr101 Gr101 _ locs hp hH hS => ?_)
      obtain ⟨hu, hpr101⟩ := hp
      cases hu
      refine lv_istore (pc := 48) (lv' := [(4, .int r101), (3, .int y9), (0, .ref (b + 17)), (1, .ref (b + 9)), (2, .int x)]) C0.1 C0.2.1 dX8_itemOfHead_48 hl (by decide) rfl (fun ls hl => ?_)
      refine lv_aload_n (pc := 50) C0.1 C0.2.1 dX8_itemOfHead_50 rfl (lv_at hl 2 rfl) ?_
      refine xget (pc := 51) C0 hH 17 0 clX8 ⟨Nat.le_of_ble_eq_true rfl, Nat.le_of_ble_eq_true rfl⟩ ⟨rfl, rfl⟩ (Nat.le_of_ble_eq_true rfl) fl_X8_12 (v := .ref (b + 18)) rfl dX8_itemOfHead_51 ?_
      refine xget (pc := 54) C0 hH 18 1 clX0 ⟨Nat.le_of_ble_eq_true rfl, Nat.le_of_ble_eq_true rfl⟩ ⟨rfl, rfl⟩ (Nat.le_of_ble_eq_true rfl) fl_X8_131 (v := .ref (b + 20)) rfl dX8_itemOfHead_54 ?_
      refine lv_iload (pc := 57) C0.1 C0.2.1 dX8_itemOfHead_57 (lv_at hl 0 rfl) ?_
      refine xiald (pc := 59) (N := 601) C0 hH 20 ⟨Nat.le_of_ble_eq_true rfl, Nat.le_of_ble_eq_true rfl⟩ ⟨rfl, rfl⟩ (vI (by omega) (by omega)) dX8_itemOfHead_59 ?_
      refine lv_iload_n (pc := 60) C0.1 C0.2.1 dX8_itemOfHead_60 rfl (lv_at hl 1 rfl) ?_
      refine lv_icmp_ne (pc := 61) (tgt := 71) C0.1 C0.2.1 dX8_itemOfHead_61 (by decide) (fun c102 => ?_) (fun c102 => ?_)
      · have c102 : ¬ _ := fun q => c102 (Int32.toInt_inj.mp q)
        refine lv_aload_n (pc := 71) C0.1 C0.2.1 dX8_itemOfHead_71 rfl (lv_at hl 2 rfl) ?_
        refine xget (pc := 72) C0 hH 17 0 clX8 ⟨Nat.le_of_ble_eq_true rfl, Nat.le_of_ble_eq_true rfl⟩ ⟨rfl, rfl⟩ (Nat.le_of_ble_eq_true rfl) fl_X8_12 (v := .ref (b + 18)) rfl dX8_itemOfHead_72 ?_
        refine xget (pc := 75) C0 hH 18 0 clX0 ⟨Nat.le_of_ble_eq_true rfl, Nat.le_of_ble_eq_true rfl⟩ ⟨rfl, rfl⟩ (Nat.le_of_ble_eq_true rfl) fl_X8_98 (v := .ref (b + 19)) rfl dX8_itemOfHead_75 ?_
        refine lv_iload (pc := 78) C0.1 C0.2.1 dX8_itemOfHead_78 (lv_at hl 0 rfl) ?_
        refine xiald (pc := 80) (N := 601) C0 hH 19 ⟨Nat.le_of_ble_eq_true rfl, Nat.le_of_ble_eq_true rfl⟩ ⟨rfl, rfl⟩ (vI (by omega) (by omega)) dX8_itemOfHead_80 ?_
        refine lv_iconst (pc := 81) (v := 3) C0.1 C0.2.1 dX8_itemOfHead_81 (by decide) ?_
        refine lv_icmp_eq (pc := 82) (tgt := 99) C0.1 C0.2.1 dX8_itemOfHead_82 (by decide) (fun c103 => ?_) (fun c103 => ?_)
        · have : Int32.toInt 3 = 3 := rfl
          have c103 := congrArg Int32.toInt c103
          refine lv_aload_n (pc := 99) C0.1 C0.2.1 dX8_itemOfHead_99 rfl (lv_at hl 2 rfl) ?_
          refine xget (pc := 100) C0 hH 17 0 clX8 ⟨Nat.le_of_ble_eq_true rfl, Nat.le_of_ble_eq_true rfl⟩ ⟨rfl, rfl⟩ (Nat.le_of_ble_eq_true rfl) fl_X8_12 (v := .ref (b + 18)) rfl dX8_itemOfHead_100 ?_
          refine xget (pc := 103) C0 hH 18 8 clX0 ⟨Nat.le_of_ble_eq_true rfl, Nat.le_of_ble_eq_true rfl⟩ ⟨rfl, rfl⟩ (Nat.le_of_ble_eq_true rfl) fl_X8_148 (v := .ref (b + 27)) rfl dX8_itemOfHead_103 ?_
          refine lv_iload (pc := 106) C0.1 C0.2.1 dX8_itemOfHead_106 (lv_at hl 0 rfl) ?_
          refine xiald (pc := 108) (N := 601) C0 hH 27 ⟨Nat.le_of_ble_eq_true rfl, Nat.le_of_ble_eq_true rfl⟩ ⟨rfl, rfl⟩ (vI (by omega) (by omega)) dX8_itemOfHead_108 ?_
          exact xiret (pc := 109) C0 hr hH hS dX8_itemOfHead_109 ⟨h2, hT, hQ⟩
        · have : Int32.toInt 3 = 3 := rfl
          have c103 : ¬ _ := fun q => c103 (Int32.toInt_inj.mp q)
          refine lv_aload_n (pc := 85) C0.1 C0.2.1 dX8_itemOfHead_85 rfl (lv_at hl 2 rfl) ?_
          refine xget (pc := 86) C0 hH 17 0 clX8 ⟨Nat.le_of_ble_eq_true rfl, Nat.le_of_ble_eq_true rfl⟩ ⟨rfl, rfl⟩ (Nat.le_of_ble_eq_true rfl) fl_X8_12 (v := .ref (b + 18)) rfl dX8_itemOfHead_86 ?_
          refine xget (pc := 89) C0 hH 18 0 clX0 ⟨Nat.le_of_ble_eq_true rfl, Nat.le_of_ble_eq_true rfl⟩ ⟨rfl, rfl⟩ (Nat.le_of_ble_eq_true rfl) fl_X8_98 (v := .ref (b + 19)) rfl dX8_itemOfHead_89 ?_
          refine lv_iload (pc := 92) C0.1 C0.2.1 dX8_itemOfHead_92 (lv_at hl 0 rfl) ?_
          refine xiald (pc := 94) (N := 601) C0 hH 19 ⟨Nat.le_of_ble_eq_true rfl, Nat.le_of_ble_eq_true rfl⟩ ⟨rfl, rfl⟩ (vI (by omega) (by omega)) dX8_itemOfHead_94 ?_
          refine lv_iconst (pc := 95) (v := 5) C0.1 C0.2.1 dX8_itemOfHead_95 (by decide) ?_
          refine lv_icmp_ne (pc := 96) (tgt := 110) C0.1 C0.2.1 dX8_itemOfHead_96 (by decide) (fun c104 => ?_) (fun c104 => ?_)
          · have : Int32.toInt 5 = 5 := rfl
            have c104 : ¬ _ := fun q => c104 (Int32.toInt_inj.mp q)
            refine lv_aload_n (pc := 110) C0.1 C0.2.1 dX8_itemOfHead_110 rfl (lv_at hl 2 rfl) ?_
            refine lv_iconst (pc := 111) (v := 4) C0.1 C0.2.1 dX8_itemOfHead_111 (by decide) ?_
            refine lv_aload_n (pc := 112) C0.1 C0.2.1 dX8_itemOfHead_112 rfl (lv_at hl 3 rfl) ?_
            refine xget (pc := 113) C0 hH 9 1 clX7 ⟨Nat.le_of_ble_eq_true rfl, Nat.le_of_ble_eq_true rfl⟩ ⟨rfl, rfl⟩ (Nat.le_of_ble_eq_true rfl) fl_X8_142 (v := .ref (b + 11)) rfl dX8_itemOfHead_113 ?_
            refine lv_iload_n (pc := 116) C0.1 C0.2.1 dX8_itemOfHead_116 rfl (lv_at hl 4 rfl) ?_
            refine xiald (pc := 117) (N := 600) C0 hH 11 ⟨Nat.le_of_ble_eq_true rfl, Nat.le_of_ble_eq_true rfl⟩ ⟨rfl, rfl⟩ (vI (by omega) (by omega)) dX8_itemOfHead_117 ?_
            refine xcVV (pc := 118) 17 [.int 4, .int (Fv 11 (Int32.toNatClampNeg x))] (g_X8_fail_17 l D tA b iv Fv Gv 4 (Fv 11 (Int32.toNatClampNeg x))) C0 hH hS clX8 rfl ⟨⟨Nat.le_of_ble_eq_true rfl, Nat.le_of_ble_eq_true rfl⟩, rfl, rfl⟩ cw_X8_145 rfl ⟨Nat.le_of_ble_eq_true rfl, Nat.le_of_ble_eq_true rfl⟩ hl.1 rfl (Nat.le_of_ble_eq_true rfl) dX8_itemOfHead_118 ⟨Nat.le_of_ble_eq_true rfl, Nat.le_of_ble_eq_true rfl⟩ (fun ir105 Fr105 Gr105 _ locs hp hH hS => ?_)
            cases hp
            have hH : Hd D tA b 0 78 zz (up2 (up2 iv 17 4 4) 17 5 (Fv 11 (Int32.toNatClampNeg x))) Fv Gv _ := hH
            refine lv_bipush (pc := 121) (v := (-9)) C0.1 C0.2.1 dX8_itemOfHead_121 (by decide) ?_
            exact xiret (pc := 123) C0 hr hH hS dX8_itemOfHead_123 ⟨(On.i (On.i h2 (by decide)) (by decide)), hT, hQ⟩
          · have : Int32.toInt 5 = 5 := rfl
            have c104 := congrArg Int32.toInt c104
            refine lv_aload_n (pc := 99) C0.1 C0.2.1 dX8_itemOfHead_99 rfl (lv_at hl 2 rfl) ?_
            refine xget (pc := 100) C0 hH 17 0 clX8 ⟨Nat.le_of_ble_eq_true rfl, Nat.le_of_ble_eq_true rfl⟩ ⟨rfl, rfl⟩ (Nat.le_of_ble_eq_true rfl) fl_X8_12 (v := .ref (b + 18)) rfl dX8_itemOfHead_100 ?_
            refine xget (pc := 103) C0 hH 18 8 clX0 ⟨Nat.le_of_ble_eq_true rfl, Nat.le_of_ble_eq_true rfl⟩ ⟨rfl, rfl⟩ (Nat.le_of_ble_eq_true rfl) fl_X8_148 (v := .ref (b + 27)) rfl dX8_itemOfHead_103 ?_
            refine lv_iload (pc := 106) C0.1 C0.2.1 dX8_itemOfHead_106 (lv_at hl 0 rfl) ?_
            refine xiald (pc := 108) (N := 601) C0 hH 27 ⟨Nat.le_of_ble_eq_true rfl, Nat.le_of_ble_eq_true rfl⟩ ⟨rfl, rfl⟩ (vI (by omega) (by omega)) dX8_itemOfHead_108 ?_
            exact xiret (pc := 109) C0 hr hH hS dX8_itemOfHead_109 ⟨h2, hT, hQ⟩
      · have c102 := congrArg Int32.toInt c102
        refine lv_aload_n (pc := 64) C0.1 C0.2.1 dX8_itemOfHead_64 rfl (lv_at hl 2 rfl) ?_
        refine lv_iload (pc := 65) C0.1 C0.2.1 dX8_itemOfHead_65 (lv_at hl 0 rfl) ?_
        refine xcVI (pc := 67) 17 [.int r101] (g_X8_beginItem_17 l D tA b iv Fv Gv r101 k hT hQ (by omega)) C0 hH hS clX8 rfl ⟨⟨Nat.le_of_ble_eq_true rfl, Nat.le_of_ble_eq_true rfl⟩, rfl, rfl⟩ cw_X8_136 rfl ⟨Nat.le_of_ble_eq_true rfl, Nat.le_of_ble_eq_true rfl⟩ hl.1 rfl (Nat.le_of_ble_eq_true rfl) dX8_itemOfHead_67 ⟨Nat.le_of_ble_eq_true rfl, Nat.le_of_ble_eq_true rfl⟩ (fun r106 ir106 Fr106 Gr106 _ locs hp hH hS => ?_)
        obtain ⟨honr106, hT, hQ⟩ := hp
        have hT : Tb17 ir106 Fr106 := hT
        have hQ : Pp17 k ir106 Fr106 := hQ
        have hL := Tb17.lin hT
        have ek_9_7r106 : Int32.toInt (ir106 9 7) = Int32.toInt (iv 9 7) := congrArg Int32.toInt (congrFun (honr106.1 9 (by decide)).1 7)
        exact xiret (pc := 70) C0 hr hH hS dX8_itemOfHead_70 ⟨(On.tr h2 honr106 (by decide) (by decide)), hT, hQ⟩
    | succ d ih =>
      intro y9 iv Fv Gv H locs ls h1 h2 h3 h4 hH hS hl
      have rg_y9 := fb_rng y9
      have hT := h3
      have hQ := h4
      have hL := Tb17.lin hT
      have ekt : Int32.toInt (iv 9 7) = Int32.toInt (i 9 7) := congrArg Int32.toInt (congrFun (h2.1 9 (by decide)).1 7)
      refine lv_aload_n (pc := 7) C0.1 C0.2.1 dX8_itemOfHead_7 rfl (lv_at hl 1 rfl) ?_
      refine xget (pc := 8) C0 hH 17 7 clX8 ⟨Nat.le_of_ble_eq_true rfl, Nat.le_of_ble_eq_true rfl⟩ ⟨rfl, rfl⟩ (Nat.le_of_ble_eq_true rfl) fl_X8_50 (v := .int (iv 17 7)) rfl dX8_itemOfHead_8 ?_
      refine lv_iconst (pc := 11) (v := 1) C0.1 C0.2.1 dX8_itemOfHead_11 (by decide) ?_
      refine lv_icmp_le (pc := 12) (tgt := 44) C0.1 C0.2.1 dX8_itemOfHead_12 (by decide) (fun c101 => ?_) (fun c101 => ?_)
      · have : Int32.toInt 1 = 1 := rfl
        have c101 := Int32.le_iff_toInt_le.mp c101
        refine lv_aload_n (pc := 44) C0.1 C0.2.1 dX8_itemOfHead_44 rfl (lv_at hl 1 rfl) ?_
        refine xcVI (pc := 45) 17 [] (g_X8_top_17 l D tA b iv Fv Gv  hT) C0 hH hS clX8 rfl ⟨⟨Nat.le_of_ble_eq_true rfl, Nat.le_of_ble_eq_true rfl⟩, rfl, rfl⟩ cw_X8_101 rfl ⟨Nat.le_of_ble_eq_true rfl, Nat.le_of_ble_eq_true rfl⟩ hl.1 rfl (Nat.le_of_ble_eq_true rfl) dX8_itemOfHead_45 ⟨Nat.le_of_ble_eq_true rfl, Nat.le_of_ble_eq_true rfl⟩ (fun r102 ir102 Fr102 Gr102 _ locs hp hH hS => ?_)
        obtain ⟨hu, hpr102⟩ := hp
        cases hu
        refine lv_istore (pc := 48) (lv' := [(4, .int r102), (3, .int y9), (0, .ref (b + 17)), (1, .ref (b + 9)), (2, .int x)]) C0.1 C0.2.1 dX8_itemOfHead_48 hl (by decide) rfl (fun ls hl => ?_)
        refine lv_aload_n (pc := 50) C0.1 C0.2.1 dX8_itemOfHead_50 rfl (lv_at hl 2 rfl) ?_
        refine xget (pc := 51) C0 hH 17 0 clX8 ⟨Nat.le_of_ble_eq_true rfl, Nat.le_of_ble_eq_true rfl⟩ ⟨rfl, rfl⟩ (Nat.le_of_ble_eq_true rfl) fl_X8_12 (v := .ref (b + 18)) rfl dX8_itemOfHead_51 ?_
        refine xget (pc := 54) C0 hH 18 1 clX0 ⟨Nat.le_of_ble_eq_true rfl, Nat.le_of_ble_eq_true rfl⟩ ⟨rfl, rfl⟩ (Nat.le_of_ble_eq_true rfl) fl_X8_131 (v := .ref (b + 20)) rfl dX8_itemOfHead_54 ?_
        refine lv_iload (pc := 57) C0.1 C0.2.1 dX8_itemOfHead_57 (lv_at hl 0 rfl) ?_
        refine xiald (pc := 59) (N := 601) C0 hH 20 ⟨Nat.le_of_ble_eq_true rfl, Nat.le_of_ble_eq_true rfl⟩ ⟨rfl, rfl⟩ (vI (by omega) (by omega)) dX8_itemOfHead_59 ?_
        refine lv_iload_n (pc := 60) C0.1 C0.2.1 dX8_itemOfHead_60 rfl (lv_at hl 1 rfl) ?_
        refine lv_icmp_ne (pc := 61) (tgt := 71) C0.1 C0.2.1 dX8_itemOfHead_61 (by decide) (fun c103 => ?_) (fun c103 => ?_)
        · have c103 : ¬ _ := fun q => c103 (Int32.toInt_inj.mp q)
          refine lv_aload_n (pc := 71) C0.1 C0.2.1 dX8_itemOfHead_71 rfl (lv_at hl 2 rfl) ?_
          refine xget (pc := 72) C0 hH 17 0 clX8 ⟨Nat.le_of_ble_eq_true rfl, Nat.le_of_ble_eq_true rfl⟩ ⟨rfl, rfl⟩ (Nat.le_of_ble_eq_true rfl) fl_X8_12 (v := .ref (b + 18)) rfl dX8_itemOfHead_72 ?_
          refine xget (pc := 75) C0 hH 18 0 clX0 ⟨Nat.le_of_ble_eq_true rfl, Nat.le_of_ble_eq_true rfl⟩ ⟨rfl, rfl⟩ (Nat.le_of_ble_eq_true rfl) fl_X8_98 (v := .ref (b + 19)) rfl dX8_itemOfHead_75 ?_
          refine lv_iload (pc := 78) C0.1 C0.2.1 dX8_itemOfHead_78 (lv_at hl 0 rfl) ?_
          refine xiald (pc := 80) (N := 601) C0 hH 19 ⟨Nat.le_of_ble_eq_true rfl, Nat.le_of_ble_eq_true rfl⟩ ⟨rfl, rfl⟩ (vI (by omega) (by omega)) dX8_itemOfHead_80 ?_
          refine lv_iconst (pc := 81) (v := 3) C0.1 C0.2.1 dX8_itemOfHead_81 (by decide) ?_
          refine lv_icmp_eq (pc := 82) (tgt := 99) C0.1 C0.2.1 dX8_itemOfHead_82 (by decide) (fun c104 => ?_) (fun c104 => ?_)
          · have : Int32.toInt 3 = 3 := rfl
            have c104 := congrArg Int32.toInt c104
            refine lv_aload_n (pc := 99) C0.1 C0.2.1 dX8_itemOfHead_99 rfl (lv_at hl 2 rfl) ?_
            refine xget (pc := 100) C0 hH 17 0 clX8 ⟨Nat.le_of_ble_eq_true rfl, Nat.le_of_ble_eq_true rfl⟩ ⟨rfl, rfl⟩ (Nat.le_of_ble_eq_true rfl) fl_X8_12 (v := .ref (b + 18)) rfl dX8_itemOfHead_100 ?_
            refine xget (pc := 103) C0 hH 18 8 clX0 ⟨Nat.le_of_ble_eq_true rfl, Nat.le_of_ble_eq_true rfl⟩ ⟨rfl, rfl⟩ (Nat.le_of_ble_eq_true rfl) fl_X8_148 (v := .ref (b + 27)) rfl dX8_itemOfHead_103 ?_
            refine lv_iload (pc := 106) C0.1 C0.2.1 dX8_itemOfHead_106 (lv_at hl 0 rfl) ?_
            refine xiald (pc := 108) (N := 601) C0 hH 27 ⟨Nat.le_of_ble_eq_true rfl, Nat.le_of_ble_eq_true rfl⟩ ⟨rfl, rfl⟩ (vI (by omega) (by omega)) dX8_itemOfHead_108 ?_
            exact xiret (pc := 109) C0 hr hH hS dX8_itemOfHead_109 ⟨h2, hT, hQ⟩
          · have : Int32.toInt 3 = 3 := rfl
            have c104 : ¬ _ := fun q => c104 (Int32.toInt_inj.mp q)
            refine lv_aload_n (pc := 85) C0.1 C0.2.1 dX8_itemOfHead_85 rfl (lv_at hl 2 rfl) ?_
            refine xget (pc := 86) C0 hH 17 0 clX8 ⟨Nat.le_of_ble_eq_true rfl, Nat.le_of_ble_eq_true rfl⟩ ⟨rfl, rfl⟩ (Nat.le_of_ble_eq_true rfl) fl_X8_12 (v := .ref (b + 18)) rfl dX8_itemOfHead_86 ?_
            refine xget (pc := 89) C0 hH 18 0 clX0 ⟨Nat.le_of_ble_eq_true rfl, Nat.le_of_ble_eq_true rfl⟩ ⟨rfl, rfl⟩ (Nat.le_of_ble_eq_true rfl) fl_X8_98 (v := .ref (b + 19)) rfl dX8_itemOfHead_89 ?_
            refine lv_iload (pc := 92) C0.1 C0.2.1 dX8_itemOfHead_92 (lv_at hl 0 rfl) ?_
            refine xiald (pc := 94) (N := 601) C0 hH 19 ⟨Nat.le_of_ble_eq_true rfl, Nat.le_of_ble_eq_true rfl⟩ ⟨rfl, rfl⟩ (vI (by omega) (by omega)) dX8_itemOfHead_94 ?_
            refine lv_iconst (pc := 95) (v := 5) C0.1 C0.2.1 dX8_itemOfHead_95 (by decide) ?_
            refine lv_icmp_ne (pc := 96) (tgt := 110) C0.1 C0.2.1 dX8_itemOfHead_96 (by decide) (fun c105 => ?_) (fun c105 => ?_)
            · have : Int32.toInt 5 = 5 := rfl
              have c105 : ¬ _ := fun q => c105 (Int32.toInt_inj.mp q)
              refine lv_aload_n (pc := 110) C0.1 C0.2.1 dX8_itemOfHead_110 rfl (lv_at hl 2 rfl) ?_
              refine lv_iconst (pc := 111) (v := 4) C0.1 C0.2.1 dX8_itemOfHead_111 (by decide) ?_
              refine lv_aload_n (pc := 112) C0.1 C0.2.1 dX8_itemOfHead_112 rfl (lv_at hl 3 rfl) ?_
              refine xget (pc := 113) C0 hH 9 1 clX7 ⟨Nat.le_of_ble_eq_true rfl, Nat.le_of_ble_eq_true rfl⟩ ⟨rfl, rfl⟩ (Nat.le_of_ble_eq_true rfl) fl_X8_142 (v := .ref (b + 11)) rfl dX8_itemOfHead_113 ?_
              refine lv_iload_n (pc := 116) C0.1 C0.2.1 dX8_itemOfHead_116 rfl (lv_at hl 4 rfl) ?_
              refine xiald (pc := 117) (N := 600) C0 hH 11 ⟨Nat.le_of_ble_eq_true rfl, Nat.le_of_ble_eq_true rfl⟩ ⟨rfl, rfl⟩ (vI (by omega) (by omega)) dX8_itemOfHead_117 ?_
              refine xcVV (pc := 118) 17 [.int 4, .int (Fv 11 (Int32.toNatClampNeg x))] (g_X8_fail_17 l D tA b iv Fv Gv 4 (Fv 11 (Int32.toNatClampNeg x))) C0 hH hS clX8 rfl ⟨⟨Nat.le_of_ble_eq_true rfl, Nat.le_of_ble_eq_true rfl⟩, rfl, rfl⟩ cw_X8_145 rfl ⟨Nat.le_of_ble_eq_true rfl, Nat.le_of_ble_eq_true rfl⟩ hl.1 rfl (Nat.le_of_ble_eq_true rfl) dX8_itemOfHead_118 ⟨Nat.le_of_ble_eq_true rfl, Nat.le_of_ble_eq_true rfl⟩ (fun ir106 Fr106 Gr106 _ locs hp hH hS => ?_)
              cases hp
              have hH : Hd D tA b 0 78 zz (up2 (up2 iv 17 4 4) 17 5 (Fv 11 (Int32.toNatClampNeg x))) Fv Gv _ := hH
              refine lv_bipush (pc := 121) (v := (-9)) C0.1 C0.2.1 dX8_itemOfHead_121 (by decide) ?_
              exact xiret (pc := 123) C0 hr hH hS dX8_itemOfHead_123 ⟨(On.i (On.i h2 (by decide)) (by decide)), hT, hQ⟩
            · have : Int32.toInt 5 = 5 := rfl
              have c105 := congrArg Int32.toInt c105
              refine lv_aload_n (pc := 99) C0.1 C0.2.1 dX8_itemOfHead_99 rfl (lv_at hl 2 rfl) ?_
              refine xget (pc := 100) C0 hH 17 0 clX8 ⟨Nat.le_of_ble_eq_true rfl, Nat.le_of_ble_eq_true rfl⟩ ⟨rfl, rfl⟩ (Nat.le_of_ble_eq_true rfl) fl_X8_12 (v := .ref (b + 18)) rfl dX8_itemOfHead_100 ?_
              refine xget (pc := 103) C0 hH 18 8 clX0 ⟨Nat.le_of_ble_eq_true rfl, Nat.le_of_ble_eq_true rfl⟩ ⟨rfl, rfl⟩ (Nat.le_of_ble_eq_true rfl) fl_X8_148 (v := .ref (b + 27)) rfl dX8_itemOfHead_103 ?_
              refine lv_iload (pc := 106) C0.1 C0.2.1 dX8_itemOfHead_106 (lv_at hl 0 rfl) ?_
              refine xiald (pc := 108) (N := 601) C0 hH 27 ⟨Nat.le_of_ble_eq_true rfl, Nat.le_of_ble_eq_true rfl⟩ ⟨rfl, rfl⟩ (vI (by omega) (by omega)) dX8_itemOfHead_108 ?_
              exact xiret (pc := 109) C0 hr hH hS dX8_itemOfHead_109 ⟨h2, hT, hQ⟩
        · have c103 := congrArg Int32.toInt c103
          refine lv_aload_n (pc := 64) C0.1 C0.2.1 dX8_itemOfHead_64 rfl (lv_at hl 2 rfl) ?_
          refine lv_iload (pc := 65) C0.1 C0.2.1 dX8_itemOfHead_65 (lv_at hl 0 rfl) ?_
          refine xcVI (pc := 67) 17 [.int r102] (g_X8_beginItem_17 l D tA b iv Fv Gv r102 k hT hQ (by omega)) C0 hH hS clX8 rfl ⟨⟨Nat.le_of_ble_eq_true rfl, Nat.le_of_ble_eq_true rfl⟩, rfl, rfl⟩ cw_X8_136 rfl ⟨Nat.le_of_ble_eq_true rfl, Nat.le_of_ble_eq_true rfl⟩ hl.1 rfl (Nat.le_of_ble_eq_true rfl) dX8_itemOfHead_67 ⟨Nat.le_of_ble_eq_true rfl, Nat.le_of_ble_eq_true rfl⟩ (fun r107 ir107 Fr107 Gr107 _ locs hp hH hS => ?_)
          obtain ⟨honr107, hT, hQ⟩ := hp
          have hT : Tb17 ir107 Fr107 := hT
          have hQ : Pp17 k ir107 Fr107 := hQ
          have hL := Tb17.lin hT
          have ek_9_7r107 : Int32.toInt (ir107 9 7) = Int32.toInt (iv 9 7) := congrArg Int32.toInt (congrFun (honr107.1 9 (by decide)).1 7)
          exact xiret (pc := 70) C0 hr hH hS dX8_itemOfHead_70 ⟨(On.tr h2 honr107 (by decide) (by decide)), hT, hQ⟩
      · have : Int32.toInt 1 = 1 := rfl
        have c101 : ¬ _ := fun q => c101 (Int32.le_iff_toInt_le.mpr q)
        refine lv_aload_n (pc := 15) C0.1 C0.2.1 dX8_itemOfHead_15 rfl (lv_at hl 1 rfl) ?_
        refine xget (pc := 16) C0 hH 17 0 clX8 ⟨Nat.le_of_ble_eq_true rfl, Nat.le_of_ble_eq_true rfl⟩ ⟨rfl, rfl⟩ (Nat.le_of_ble_eq_true rfl) fl_X8_12 (v := .ref (b + 18)) rfl dX8_itemOfHead_16 ?_
        refine xget (pc := 19) C0 hH 18 1 clX0 ⟨Nat.le_of_ble_eq_true rfl, Nat.le_of_ble_eq_true rfl⟩ ⟨rfl, rfl⟩ (Nat.le_of_ble_eq_true rfl) fl_X8_131 (v := .ref (b + 20)) rfl dX8_itemOfHead_19 ?_
        refine lv_aload_n (pc := 22) C0.1 C0.2.1 dX8_itemOfHead_22 rfl (lv_at hl 1 rfl) ?_
        refine xcVI (pc := 23) 17 [] (g_X8_top_17 l D tA b iv Fv Gv  hT) C0 hH hS clX8 rfl ⟨⟨Nat.le_of_ble_eq_true rfl, Nat.le_of_ble_eq_true rfl⟩, rfl, rfl⟩ cw_X8_101 rfl ⟨Nat.le_of_ble_eq_true rfl, Nat.le_of_ble_eq_true rfl⟩ hl.1 rfl (Nat.le_of_ble_eq_true rfl) dX8_itemOfHead_23 ⟨Nat.le_of_ble_eq_true rfl, Nat.le_of_ble_eq_true rfl⟩ (fun r108 ir108 Fr108 Gr108 _ locs hp hH hS => ?_)
        obtain ⟨hu, hpr108⟩ := hp
        cases hu
        refine xiald (pc := 26) (N := 601) C0 hH 20 ⟨Nat.le_of_ble_eq_true rfl, Nat.le_of_ble_eq_true rfl⟩ ⟨rfl, rfl⟩ (vI (by omega) (by omega)) dX8_itemOfHead_26 ?_
        refine lv_iload_n (pc := 27) C0.1 C0.2.1 dX8_itemOfHead_27 rfl (lv_at hl 0 rfl) ?_
        refine lv_icmp_le (pc := 28) (tgt := 44) C0.1 C0.2.1 dX8_itemOfHead_28 (by decide) (fun c109 => ?_) (fun c109 => ?_)
        · have c109 := Int32.le_iff_toInt_le.mp c109
          refine lv_aload_n (pc := 44) C0.1 C0.2.1 dX8_itemOfHead_44 rfl (lv_at hl 1 rfl) ?_
          refine xcVI (pc := 45) 17 [] (g_X8_top_17 l D tA b iv Fv Gv  hT) C0 hH hS clX8 rfl ⟨⟨Nat.le_of_ble_eq_true rfl, Nat.le_of_ble_eq_true rfl⟩, rfl, rfl⟩ cw_X8_101 rfl ⟨Nat.le_of_ble_eq_true rfl, Nat.le_of_ble_eq_true rfl⟩ hl.1 rfl (Nat.le_of_ble_eq_true rfl) dX8_itemOfHead_45 ⟨Nat.le_of_ble_eq_true rfl, Nat.le_of_ble_eq_true rfl⟩ (fun r110 ir110 Fr110 Gr110 _ locs hp hH hS => ?_)
          obtain ⟨hu, hpr110⟩ := hp
          cases hu
          refine lv_istore (pc := 48) (lv' := [(4, .int r110), (3, .int y9), (0, .ref (b + 17)), (1, .ref (b + 9)), (2, .int x)]) C0.1 C0.2.1 dX8_itemOfHead_48 hl (by decide) rfl (fun ls hl => ?_)
          refine lv_aload_n (pc := 50) C0.1 C0.2.1 dX8_itemOfHead_50 rfl (lv_at hl 2 rfl) ?_
          refine xget (pc := 51) C0 hH 17 0 clX8 ⟨Nat.le_of_ble_eq_true rfl, Nat.le_of_ble_eq_true rfl⟩ ⟨rfl, rfl⟩ (Nat.le_of_ble_eq_true rfl) fl_X8_12 (v := .ref (b + 18)) rfl dX8_itemOfHead_51 ?_
          refine xget (pc := 54) C0 hH 18 1 clX0 ⟨Nat.le_of_ble_eq_true rfl, Nat.le_of_ble_eq_true rfl⟩ ⟨rfl, rfl⟩ (Nat.le_of_ble_eq_true rfl) fl_X8_131 (v := .ref (b + 20)) rfl dX8_itemOfHead_54 ?_
          refine lv_iload (pc := 57) C0.1 C0.2.1 dX8_itemOfHead_57 (lv_at hl 0 rfl) ?_
          refine xiald (pc := 59) (N := 601) C0 hH 20 ⟨Nat.le_of_ble_eq_true rfl, Nat.le_of_ble_eq_true rfl⟩ ⟨rfl, rfl⟩ (vI (by omega) (by omega)) dX8_itemOfHead_59 ?_
          refine lv_iload_n (pc := 60) C0.1 C0.2.1 dX8_itemOfHead_60 rfl (lv_at hl 1 rfl) ?_
          refine lv_icmp_ne (pc := 61) (tgt := 71) C0.1 C0.2.1 dX8_itemOfHead_61 (by decide) (fun c111 => ?_) (fun c111 => ?_)
          · have c111 : ¬ _ := fun q => c111 (Int32.toInt_inj.mp q)
            refine lv_aload_n (pc := 71) C0.1 C0.2.1 dX8_itemOfHead_71 rfl (lv_at hl 2 rfl) ?_
            refine xget (pc := 72) C0 hH 17 0 clX8 ⟨Nat.le_of_ble_eq_true rfl, Nat.le_of_ble_eq_true rfl⟩ ⟨rfl, rfl⟩ (Nat.le_of_ble_eq_true rfl) fl_X8_12 (v := .ref (b + 18)) rfl dX8_itemOfHead_72 ?_
            refine xget (pc := 75) C0 hH 18 0 clX0 ⟨Nat.le_of_ble_eq_true rfl, Nat.le_of_ble_eq_true rfl⟩ ⟨rfl, rfl⟩ (Nat.le_of_ble_eq_true rfl) fl_X8_98 (v := .ref (b + 19)) rfl dX8_itemOfHead_75 ?_
            refine lv_iload (pc := 78) C0.1 C0.2.1 dX8_itemOfHead_78 (lv_at hl 0 rfl) ?_
            refine xiald (pc := 80) (N := 601) C0 hH 19 ⟨Nat.le_of_ble_eq_true rfl, Nat.le_of_ble_eq_true rfl⟩ ⟨rfl, rfl⟩ (vI (by omega) (by omega)) dX8_itemOfHead_80 ?_
            refine lv_iconst (pc := 81) (v := 3) C0.1 C0.2.1 dX8_itemOfHead_81 (by decide) ?_
            refine lv_icmp_eq (pc := 82) (tgt := 99) C0.1 C0.2.1 dX8_itemOfHead_82 (by decide) (fun c112 => ?_) (fun c112 => ?_)
            · have : Int32.toInt 3 = 3 := rfl
              have c112 := congrArg Int32.toInt c112
              refine lv_aload_n (pc := 99) C0.1 C0.2.1 dX8_itemOfHead_99 rfl (lv_at hl 2 rfl) ?_
              refine xget (pc := 100) C0 hH 17 0 clX8 ⟨Nat.le_of_ble_eq_true rfl, Nat.le_of_ble_eq_true rfl⟩ ⟨rfl, rfl⟩ (Nat.le_of_ble_eq_true rfl) fl_X8_12 (v := .ref (b + 18)) rfl dX8_itemOfHead_100 ?_
              refine xget (pc := 103) C0 hH 18 8 clX0 ⟨Nat.le_of_ble_eq_true rfl, Nat.le_of_ble_eq_true rfl⟩ ⟨rfl, rfl⟩ (Nat.le_of_ble_eq_true rfl) fl_X8_148 (v := .ref (b + 27)) rfl dX8_itemOfHead_103 ?_
              refine lv_iload (pc := 106) C0.1 C0.2.1 dX8_itemOfHead_106 (lv_at hl 0 rfl) ?_
              refine xiald (pc := 108) (N := 601) C0 hH 27 ⟨Nat.le_of_ble_eq_true rfl, Nat.le_of_ble_eq_true rfl⟩ ⟨rfl, rfl⟩ (vI (by omega) (by omega)) dX8_itemOfHead_108 ?_
              exact xiret (pc := 109) C0 hr hH hS dX8_itemOfHead_109 ⟨h2, hT, hQ⟩
            · have : Int32.toInt 3 = 3 := rfl
              have c112 : ¬ _ := fun q => c112 (Int32.toInt_inj.mp q)
              refine lv_aload_n (pc := 85) C0.1 C0.2.1 dX8_itemOfHead_85 rfl (lv_at hl 2 rfl) ?_
              refine xget (pc := 86) C0 hH 17 0 clX8 ⟨Nat.le_of_ble_eq_true rfl, Nat.le_of_ble_eq_true rfl⟩ ⟨rfl, rfl⟩ (Nat.le_of_ble_eq_true rfl) fl_X8_12 (v := .ref (b + 18)) rfl dX8_itemOfHead_86 ?_
              refine xget (pc := 89) C0 hH 18 0 clX0 ⟨Nat.le_of_ble_eq_true rfl, Nat.le_of_ble_eq_true rfl⟩ ⟨rfl, rfl⟩ (Nat.le_of_ble_eq_true rfl) fl_X8_98 (v := .ref (b + 19)) rfl dX8_itemOfHead_89 ?_
              refine lv_iload (pc := 92) C0.1 C0.2.1 dX8_itemOfHead_92 (lv_at hl 0 rfl) ?_
              refine xiald (pc := 94) (N := 601) C0 hH 19 ⟨Nat.le_of_ble_eq_true rfl, Nat.le_of_ble_eq_true rfl⟩ ⟨rfl, rfl⟩ (vI (by omega) (by omega)) dX8_itemOfHead_94 ?_
              refine lv_iconst (pc := 95) (v := 5) C0.1 C0.2.1 dX8_itemOfHead_95 (by decide) ?_
              refine lv_icmp_ne (pc := 96) (tgt := 110) C0.1 C0.2.1 dX8_itemOfHead_96 (by decide) (fun c113 => ?_) (fun c113 => ?_)
              · have : Int32.toInt 5 = 5 := rfl
                have c113 : ¬ _ := fun q => c113 (Int32.toInt_inj.mp q)
                refine lv_aload_n (pc := 110) C0.1 C0.2.1 dX8_itemOfHead_110 rfl (lv_at hl 2 rfl) ?_
                refine lv_iconst (pc := 111) (v := 4) C0.1 C0.2.1 dX8_itemOfHead_111 (by decide) ?_
                refine lv_aload_n (pc := 112) C0.1 C0.2.1 dX8_itemOfHead_112 rfl (lv_at hl 3 rfl) ?_
                refine xget (pc := 113) C0 hH 9 1 clX7 ⟨Nat.le_of_ble_eq_true rfl, Nat.le_of_ble_eq_true rfl⟩ ⟨rfl, rfl⟩ (Nat.le_of_ble_eq_true rfl) fl_X8_142 (v := .ref (b + 11)) rfl dX8_itemOfHead_113 ?_
                refine lv_iload_n (pc := 116) C0.1 C0.2.1 dX8_itemOfHead_116 rfl (lv_at hl 4 rfl) ?_
                refine xiald (pc := 117) (N := 600) C0 hH 11 ⟨Nat.le_of_ble_eq_true rfl, Nat.le_of_ble_eq_true rfl⟩ ⟨rfl, rfl⟩ (vI (by omega) (by omega)) dX8_itemOfHead_117 ?_
                refine xcVV (pc := 118) 17 [.int 4, .int (Fv 11 (Int32.toNatClampNeg x))] (g_X8_fail_17 l D tA b iv Fv Gv 4 (Fv 11 (Int32.toNatClampNeg x))) C0 hH hS clX8 rfl ⟨⟨Nat.le_of_ble_eq_true rfl, Nat.le_of_ble_eq_true rfl⟩, rfl, rfl⟩ cw_X8_145 rfl ⟨Nat.le_of_ble_eq_true rfl, Nat.le_of_ble_eq_true rfl⟩ hl.1 rfl (Nat.le_of_ble_eq_true rfl) dX8_itemOfHead_118 ⟨Nat.le_of_ble_eq_true rfl, Nat.le_of_ble_eq_true rfl⟩ (fun ir114 Fr114 Gr114 _ locs hp hH hS => ?_)
                cases hp
                have hH : Hd D tA b 0 78 zz (up2 (up2 iv 17 4 4) 17 5 (Fv 11 (Int32.toNatClampNeg x))) Fv Gv _ := hH
                refine lv_bipush (pc := 121) (v := (-9)) C0.1 C0.2.1 dX8_itemOfHead_121 (by decide) ?_
                exact xiret (pc := 123) C0 hr hH hS dX8_itemOfHead_123 ⟨(On.i (On.i h2 (by decide)) (by decide)), hT, hQ⟩
              · have : Int32.toInt 5 = 5 := rfl
                have c113 := congrArg Int32.toInt c113
                refine lv_aload_n (pc := 99) C0.1 C0.2.1 dX8_itemOfHead_99 rfl (lv_at hl 2 rfl) ?_
                refine xget (pc := 100) C0 hH 17 0 clX8 ⟨Nat.le_of_ble_eq_true rfl, Nat.le_of_ble_eq_true rfl⟩ ⟨rfl, rfl⟩ (Nat.le_of_ble_eq_true rfl) fl_X8_12 (v := .ref (b + 18)) rfl dX8_itemOfHead_100 ?_
                refine xget (pc := 103) C0 hH 18 8 clX0 ⟨Nat.le_of_ble_eq_true rfl, Nat.le_of_ble_eq_true rfl⟩ ⟨rfl, rfl⟩ (Nat.le_of_ble_eq_true rfl) fl_X8_148 (v := .ref (b + 27)) rfl dX8_itemOfHead_103 ?_
                refine lv_iload (pc := 106) C0.1 C0.2.1 dX8_itemOfHead_106 (lv_at hl 0 rfl) ?_
                refine xiald (pc := 108) (N := 601) C0 hH 27 ⟨Nat.le_of_ble_eq_true rfl, Nat.le_of_ble_eq_true rfl⟩ ⟨rfl, rfl⟩ (vI (by omega) (by omega)) dX8_itemOfHead_108 ?_
                exact xiret (pc := 109) C0 hr hH hS dX8_itemOfHead_109 ⟨h2, hT, hQ⟩
          · have c111 := congrArg Int32.toInt c111
            refine lv_aload_n (pc := 64) C0.1 C0.2.1 dX8_itemOfHead_64 rfl (lv_at hl 2 rfl) ?_
            refine lv_iload (pc := 65) C0.1 C0.2.1 dX8_itemOfHead_65 (lv_at hl 0 rfl) ?_
            refine xcVI (pc := 67) 17 [.int r110] (g_X8_beginItem_17 l D tA b iv Fv Gv r110 k hT hQ (by omega)) C0 hH hS clX8 rfl ⟨⟨Nat.le_of_ble_eq_true rfl, Nat.le_of_ble_eq_true rfl⟩, rfl, rfl⟩ cw_X8_136 rfl ⟨Nat.le_of_ble_eq_true rfl, Nat.le_of_ble_eq_true rfl⟩ hl.1 rfl (Nat.le_of_ble_eq_true rfl) dX8_itemOfHead_67 ⟨Nat.le_of_ble_eq_true rfl, Nat.le_of_ble_eq_true rfl⟩ (fun r115 ir115 Fr115 Gr115 _ locs hp hH hS => ?_)
            obtain ⟨honr115, hT, hQ⟩ := hp
            have hT : Tb17 ir115 Fr115 := hT
            have hQ : Pp17 k ir115 Fr115 := hQ
            have hL := Tb17.lin hT
            have ek_9_7r115 : Int32.toInt (ir115 9 7) = Int32.toInt (iv 9 7) := congrArg Int32.toInt (congrFun (honr115.1 9 (by decide)).1 7)
            exact xiret (pc := 70) C0 hr hH hS dX8_itemOfHead_70 ⟨(On.tr h2 honr115 (by decide) (by decide)), hT, hQ⟩
        · have c109 : ¬ _ := fun q => c109 (Int32.le_iff_toInt_le.mpr q)
          refine lv_aload_n (pc := 31) C0.1 C0.2.1 dX8_itemOfHead_31 rfl (lv_at hl 1 rfl) ?_
          refine lv_dup (pc := 32) C0.1 C0.2.1 dX8_itemOfHead_32 rfl ?_
          refine xget (pc := 33) C0 hH 17 7 clX8 ⟨Nat.le_of_ble_eq_true rfl, Nat.le_of_ble_eq_true rfl⟩ ⟨rfl, rfl⟩ (Nat.le_of_ble_eq_true rfl) fl_X8_50 (v := .int (iv 17 7)) rfl dX8_itemOfHead_33 ?_
          refine lv_iconst (pc := 36) (v := 1) C0.1 C0.2.1 dX8_itemOfHead_36 (by decide) ?_
          have : Int32.toInt 1 = 1 := rfl
          refine lv_isub (pc := 37) C0.1 C0.2.1 dX8_itemOfHead_37 ?_
          refine lv_topi (fun x116 ex116 => ?_)
          have hx116 : Int32.toInt x116 = Int32.toInt (iv 17 7) - Int32.toInt 1 := by rw [ex116]; exact fb_subI (by omega) (by omega)
          refine xputI (pc := 38) C0 (Nat.le_of_ble_eq_true rfl) hH hS 17 7 clX8 ⟨Nat.le_of_ble_eq_true rfl, Nat.le_of_ble_eq_true rfl⟩ ⟨rfl, rfl⟩ ⟨Nat.le_of_ble_eq_true rfl, rfl, rfl⟩ fl_X8_50 (x := x116) ⟨rfl, rfl⟩ dX8_itemOfHead_38 (fun _ locs hH hS _ => ?_)
          have hH : Hd D tA b 0 78 zz (up2 iv 17 7 x116) Fv Gv _ := hH
          refine lv_goto (pc := 41) (tgt := 7) C0.1 C0.2.1 dX8_itemOfHead_41 (by decide) ?_
          exact ih y9 (up2 iv 17 7 x116) Fv Gv _ _ _ (by show Int32.toInt x116 ≤ _; omega) (On.i h2 (by decide)) (Tb17.hgt hT (by omega)) hQ hH hS (lv_sub hl [0, 1, 2, 3] rfl)
  refine lv_aload_n (pc := 0) C0.1 C0.2.1 dX8_itemOfHead_0 rfl (lv_at hl 1 rfl) ?_
  refine xget (pc := 1) C0 hH 9 4 clX7 ⟨Nat.le_of_ble_eq_true rfl, Nat.le_of_ble_eq_true rfl⟩ ⟨rfl, rfl⟩ (Nat.le_of_ble_eq_true rfl) fl_X8_122 (v := .ref (b + 14)) rfl dX8_itemOfHead_1 ?_
  refine lv_iload_n (pc := 4) C0.1 C0.2.1 dX8_itemOfHead_4 rfl (lv_at hl 2 rfl) ?_
  refine xiald (pc := 5) (N := 600) C0 hH 14 ⟨Nat.le_of_ble_eq_true rfl, Nat.le_of_ble_eq_true rfl⟩ ⟨rfl, rfl⟩ (vI (by omega) (by omega)) dX8_itemOfHead_5 ?_
  refine lv_topi (fun x1 ex1 => ?_)
  refine lv_istore_n (pc := 6) (lv' := [(3, .int x1), (0, .ref (b + 17)), (1, .ref (b + 9)), (2, .int x)]) C0.1 C0.2.1 dX8_itemOfHead_6 rfl hl (by decide) rfl (fun ls hl => ?_)
  exact LOOP 601 x1 i F G _ _ _ (by omega) On.rf hT hQ hH hS (lv_sub hl [0, 1, 2, 3] rfl)
set_option maxHeartbeats 4000000 in
set_option maxRecDepth 100000 in
theorem g_X8_itemElsewhere_17_9 (l : Launch) (D : va_G) (tA : Nat → ClassId) (b : Nat) (i F : Nat → Nat → Int32) (G : Nat → Nat → Int64) (x : Int32) (k : Int) (hT : Tb17 i F) (hQ : Pp17 k i F) (hk : 0 ≤ k) (htk : 0 ≤ (i 9 7).toInt ∧ (i 9 7).toInt ≤ 600) (hx : 0 ≤ x.toInt ∧ x.toInt < (i 9 7).toInt) : xMI l yX8_itemElsewhere cX8_itemElsewhere 5 (some .int) 3 68 D tA b 0 78 i F G [.ref (b + 17), .ref (b + 9), .int x] (fun r u => On 17 39 i F G u ∧ Tb17 u.1 u.2.1 ∧ Pp17 k u.1 u.2.1) := by
  refine xstart RX8 rfl (by decide) (Nat.le_of_ble_eq_true rfl) ?_
  intro p e s m below meth c ls C0 hr hH hS hl
  have hl : lv_has ls 5 [(0, .ref (b + 17)), (1, .ref (b + 9)), (2, .int x)] := hl
  have rg_x := fb_rng x
  have hL := Tb17.lin hT
  have h601 : Int32.toInt (nI 601) = 601 := rfl
  refine lv_aload_n (pc := 0) C0.1 C0.2.1 dX8_itemElsewhere_0 rfl (lv_at hl 1 rfl) ?_
  refine xget (pc := 1) C0 hH 9 5 clX7 ⟨Nat.le_of_ble_eq_true rfl, Nat.le_of_ble_eq_true rfl⟩ ⟨rfl, rfl⟩ (Nat.le_of_ble_eq_true rfl) fl_X8_108 (v := .ref (b + 15)) rfl dX8_itemElsewhere_1 ?_
  refine lv_iload_n (pc := 4) C0.1 C0.2.1 dX8_itemElsewhere_4 rfl (lv_at hl 2 rfl) ?_
  refine xiald (pc := 5) (N := 600) C0 hH 15 ⟨Nat.le_of_ble_eq_true rfl, Nat.le_of_ble_eq_true rfl⟩ ⟨rfl, rfl⟩ (vI (by omega) (by omega)) dX8_itemElsewhere_5 ?_
  refine lv_topi (fun x1 ex1 => ?_)
  refine lv_istore_n (pc := 6) (lv' := [(3, .int x1), (0, .ref (b + 17)), (1, .ref (b + 9)), (2, .int x)]) C0.1 C0.2.1 dX8_itemElsewhere_6 rfl hl (by decide) rfl (fun ls hl => ?_)
  refine lv_iload_n (pc := 7) C0.1 C0.2.1 dX8_itemElsewhere_7 rfl (lv_at hl 0 rfl) ?_
  refine lv_bipush (pc := 8) (v := 6) C0.1 C0.2.1 dX8_itemElsewhere_8 (by decide) ?_
  refine lv_icmp_ne (pc := 10) (tgt := 43) C0.1 C0.2.1 dX8_itemElsewhere_10 (by decide) (fun c2 => ?_) (fun c2 => ?_)
  · have : Int32.toInt 6 = 6 := rfl
    have c2 : ¬ _ := fun q => c2 (Int32.toInt_inj.mp q)
    refine lv_iload_n (pc := 43) C0.1 C0.2.1 dX8_itemElsewhere_43 rfl (lv_at hl 0 rfl) ?_
    refine xcNI (pc := 44) [.int x1] (g_X9_isSecond l D tA b i F G x1 ) C0 hH hS cw_X8_139 st_X9_isSecond rfl ⟨Nat.le_of_ble_eq_true rfl, Nat.le_of_ble_eq_true rfl⟩ hl.1 rfl (Nat.le_of_ble_eq_true rfl) dX8_itemElsewhere_44 ⟨Nat.le_of_ble_eq_true rfl, Nat.le_of_ble_eq_true rfl⟩ (fun r3 ir3 Fr3 Gr3 _ locs hp hH hS => ?_)
    obtain ⟨hu, hpr3⟩ := hp
    cases hu
    refine lv_if_eq (pc := 47) (tgt := 57) C0.1 C0.2.1 dX8_itemElsewhere_47 (by decide) (fun c4 => ?_) (fun c4 => ?_)
    · have : Int32.toInt 0 = 0 := rfl
      have c4 := congrArg Int32.toInt c4
      refine lv_aload_n (pc := 57) C0.1 C0.2.1 dX8_itemElsewhere_57 rfl (lv_at hl 1 rfl) ?_
      refine xget (pc := 58) C0 hH 17 3 clX8 ⟨Nat.le_of_ble_eq_true rfl, Nat.le_of_ble_eq_true rfl⟩ ⟨rfl, rfl⟩ (Nat.le_of_ble_eq_true rfl) fl_X8_29 (v := .ref (b + 37)) rfl dX8_itemElsewhere_58 ?_
      refine lv_iload_n (pc := 61) C0.1 C0.2.1 dX8_itemElsewhere_61 rfl (lv_at hl 3 rfl) ?_
      refine xzald (pc := 62) (N := 600) C0 hH 37 ⟨Nat.le_of_ble_eq_true rfl, Nat.le_of_ble_eq_true rfl⟩ ⟨rfl, rfl⟩ (vI (by omega) (by omega)) dX8_itemElsewhere_62 ?_
      refine lv_if_eq (pc := 63) (tgt := 75) C0.1 C0.2.1 dX8_itemElsewhere_63 (by decide) (fun c5 => ?_) (fun c5 => ?_)
      · have : Int32.toInt 0 = 0 := rfl
        have c5 := congrArg Int32.toInt c5
        refine lv_aload_n (pc := 75) C0.1 C0.2.1 dX8_itemElsewhere_75 rfl (lv_at hl 1 rfl) ?_
        refine xget (pc := 76) C0 hH 17 0 clX8 ⟨Nat.le_of_ble_eq_true rfl, Nat.le_of_ble_eq_true rfl⟩ ⟨rfl, rfl⟩ (Nat.le_of_ble_eq_true rfl) fl_X8_12 (v := .ref (b + 18)) rfl dX8_itemElsewhere_76 ?_
        refine xget (pc := 79) C0 hH 18 8 clX0 ⟨Nat.le_of_ble_eq_true rfl, Nat.le_of_ble_eq_true rfl⟩ ⟨rfl, rfl⟩ (Nat.le_of_ble_eq_true rfl) fl_X8_148 (v := .ref (b + 27)) rfl dX8_itemElsewhere_79 ?_
        refine lv_aload_n (pc := 82) C0.1 C0.2.1 dX8_itemElsewhere_82 rfl (lv_at hl 1 rfl) ?_
        refine xcVI (pc := 83) 17 [] (g_X8_top_17 l D tA b i F G  hT) C0 hH hS clX8 rfl ⟨⟨Nat.le_of_ble_eq_true rfl, Nat.le_of_ble_eq_true rfl⟩, rfl, rfl⟩ cw_X8_101 rfl ⟨Nat.le_of_ble_eq_true rfl, Nat.le_of_ble_eq_true rfl⟩ hl.1 rfl (Nat.le_of_ble_eq_true rfl) dX8_itemElsewhere_83 ⟨Nat.le_of_ble_eq_true rfl, Nat.le_of_ble_eq_true rfl⟩ (fun r6 ir6 Fr6 Gr6 _ locs hp hH hS => ?_)
        obtain ⟨hu, hpr6⟩ := hp
        cases hu
        refine xiald (pc := 86) (N := 601) C0 hH 27 ⟨Nat.le_of_ble_eq_true rfl, Nat.le_of_ble_eq_true rfl⟩ ⟨rfl, rfl⟩ (vI (by omega) (by omega)) dX8_itemElsewhere_86 ?_
        exact xiret (pc := 87) C0 hr hH hS dX8_itemElsewhere_87 ⟨On.rf, hT, hQ⟩
      · have : Int32.toInt 0 = 0 := rfl
        have c5 : ¬ _ := fun q => c5 (Int32.toInt_inj.mp q)
        refine lv_aload_n (pc := 66) C0.1 C0.2.1 dX8_itemElsewhere_66 rfl (lv_at hl 1 rfl) ?_
        refine lv_aload_n (pc := 67) C0.1 C0.2.1 dX8_itemElsewhere_67 rfl (lv_at hl 2 rfl) ?_
        refine lv_iload_n (pc := 68) C0.1 C0.2.1 dX8_itemElsewhere_68 rfl (lv_at hl 3 rfl) ?_
        refine xcVI (pc := 69) 17 [.ref (b + 9), .int x] (g_X8_itemOfHead_17_9 l D tA b i F G x k hT hQ (by omega) (show 0 ≤ Int32.toInt (i 9 7) ∧ Int32.toInt (i 9 7) ≤ 600 from by omega) (show 0 ≤ Int32.toInt x ∧ Int32.toInt x < Int32.toInt (i 9 7) from by omega)) C0 hH hS clX8 rfl ⟨⟨Nat.le_of_ble_eq_true rfl, Nat.le_of_ble_eq_true rfl⟩, rfl, rfl⟩ cw_X8_157 rfl ⟨Nat.le_of_ble_eq_true rfl, Nat.le_of_ble_eq_true rfl⟩ hl.1 rfl (Nat.le_of_ble_eq_true rfl) dX8_itemElsewhere_69 ⟨Nat.le_of_ble_eq_true rfl, Nat.le_of_ble_eq_true rfl⟩ (fun r7 ir7 Fr7 Gr7 _ locs hp hH hS => ?_)
        obtain ⟨honr7, hT, hQ⟩ := hp
        have hT : Tb17 ir7 Fr7 := hT
        have hQ : Pp17 k ir7 Fr7 := hQ
        have hL := Tb17.lin hT
        have ek_9_7r7 : Int32.toInt (ir7 9 7) = Int32.toInt (i 9 7) := congrArg Int32.toInt (congrFun (honr7.1 9 (by decide)).1 7)
        refine lv_goto (pc := 72) (tgt := 87) C0.1 C0.2.1 dX8_itemElsewhere_72 (by decide) ?_
        exact xiret (pc := 87) C0 hr hH hS dX8_itemElsewhere_87 ⟨(On.tr On.rf honr7 (by decide) (by decide)), hT, hQ⟩
    · have : Int32.toInt 0 = 0 := rfl
      have c4 : ¬ _ := fun q => c4 (Int32.toInt_inj.mp q)
      refine lv_aload_n (pc := 50) C0.1 C0.2.1 dX8_itemElsewhere_50 rfl (lv_at hl 1 rfl) ?_
      refine lv_aload_n (pc := 51) C0.1 C0.2.1 dX8_itemElsewhere_51 rfl (lv_at hl 2 rfl) ?_
      refine lv_iload_n (pc := 52) C0.1 C0.2.1 dX8_itemElsewhere_52 rfl (lv_at hl 3 rfl) ?_
      refine xcVI (pc := 53) 17 [.ref (b + 9), .int x] (g_X8_itemBehindBracket_17_9 l D tA b i F G x k hT hQ (by omega) (show 0 ≤ Int32.toInt (i 9 7) ∧ Int32.toInt (i 9 7) ≤ 600 from by omega) (show 0 ≤ Int32.toInt x ∧ Int32.toInt x < Int32.toInt (i 9 7) from by omega)) C0 hH hS clX8 rfl ⟨⟨Nat.le_of_ble_eq_true rfl, Nat.le_of_ble_eq_true rfl⟩, rfl, rfl⟩ cw_X8_154 rfl ⟨Nat.le_of_ble_eq_true rfl, Nat.le_of_ble_eq_true rfl⟩ hl.1 rfl (Nat.le_of_ble_eq_true rfl) dX8_itemElsewhere_53 ⟨Nat.le_of_ble_eq_true rfl, Nat.le_of_ble_eq_true rfl⟩ (fun r8 ir8 Fr8 Gr8 _ locs hp hH hS => ?_)
      obtain ⟨honr8, hT, hQ⟩ := hp
      have hT : Tb17 ir8 Fr8 := hT
      have hQ : Pp17 k ir8 Fr8 := hQ
      have hL := Tb17.lin hT
      have ek_9_7r8 : Int32.toInt (ir8 9 7) = Int32.toInt (i 9 7) := congrArg Int32.toInt (congrFun (honr8.1 9 (by decide)).1 7)
      exact xiret (pc := 56) C0 hr hH hS dX8_itemElsewhere_56 ⟨(On.tr On.rf honr8 (by decide) (by decide)), hT, hQ⟩
  · have : Int32.toInt 6 = 6 := rfl
    have c2 := congrArg Int32.toInt c2
    refine lv_aload_n (pc := 13) C0.1 C0.2.1 dX8_itemElsewhere_13 rfl (lv_at hl 1 rfl) ?_
    refine xcVI (pc := 14) 17 [] (g_X8_levelOfLet_17 l D tA b i F G  hT) C0 hH hS clX8 rfl ⟨⟨Nat.le_of_ble_eq_true rfl, Nat.le_of_ble_eq_true rfl⟩, rfl, rfl⟩ cw_X8_151 rfl ⟨Nat.le_of_ble_eq_true rfl, Nat.le_of_ble_eq_true rfl⟩ hl.1 rfl (Nat.le_of_ble_eq_true rfl) dX8_itemElsewhere_14 ⟨Nat.le_of_ble_eq_true rfl, Nat.le_of_ble_eq_true rfl⟩ (fun r9 ir9 Fr9 Gr9 _ locs hp hH hS => ?_)
    obtain ⟨hu, hpr9⟩ := hp
    cases hu
    refine lv_istore (pc := 17) (lv' := [(4, .int r9), (3, .int x1), (0, .ref (b + 17)), (1, .ref (b + 9)), (2, .int x)]) C0.1 C0.2.1 dX8_itemElsewhere_17 hl (by decide) rfl (fun ls hl => ?_)
    refine lv_iload (pc := 19) C0.1 C0.2.1 dX8_itemElsewhere_19 (lv_at hl 0 rfl) ?_
    refine lv_if_le (pc := 21) (tgt := 43) C0.1 C0.2.1 dX8_itemElsewhere_21 (by decide) (fun c10 => ?_) (fun c10 => ?_)
    · have : Int32.toInt 0 = 0 := rfl
      have c10 := Int32.le_iff_toInt_le.mp c10
      refine lv_iload_n (pc := 43) C0.1 C0.2.1 dX8_itemElsewhere_43 rfl (lv_at hl 1 rfl) ?_
      refine xcNI (pc := 44) [.int x1] (g_X9_isSecond l D tA b i F G x1 ) C0 hH hS cw_X8_139 st_X9_isSecond rfl ⟨Nat.le_of_ble_eq_true rfl, Nat.le_of_ble_eq_true rfl⟩ hl.1 rfl (Nat.le_of_ble_eq_true rfl) dX8_itemElsewhere_44 ⟨Nat.le_of_ble_eq_true rfl, Nat.le_of_ble_eq_true rfl⟩ (fun r11 ir11 Fr11 Gr11 _ locs hp hH hS => ?_)
      obtain ⟨hu, hpr11⟩ := hp
      cases hu
      refine lv_if_eq (pc := 47) (tgt := 57) C0.1 C0.2.1 dX8_itemElsewhere_47 (by decide) (fun c12 => ?_) (fun c12 => ?_)
      · have : Int32.toInt 0 = 0 := rfl
        have c12 := congrArg Int32.toInt c12
        refine lv_aload_n (pc := 57) C0.1 C0.2.1 dX8_itemElsewhere_57 rfl (lv_at hl 2 rfl) ?_
        refine xget (pc := 58) C0 hH 17 3 clX8 ⟨Nat.le_of_ble_eq_true rfl, Nat.le_of_ble_eq_true rfl⟩ ⟨rfl, rfl⟩ (Nat.le_of_ble_eq_true rfl) fl_X8_29 (v := .ref (b + 37)) rfl dX8_itemElsewhere_58 ?_
        refine lv_iload_n (pc := 61) C0.1 C0.2.1 dX8_itemElsewhere_61 rfl (lv_at hl 4 rfl) ?_
        refine xzald (pc := 62) (N := 600) C0 hH 37 ⟨Nat.le_of_ble_eq_true rfl, Nat.le_of_ble_eq_true rfl⟩ ⟨rfl, rfl⟩ (vI (by omega) (by omega)) dX8_itemElsewhere_62 ?_
        refine lv_if_eq (pc := 63) (tgt := 75) C0.1 C0.2.1 dX8_itemElsewhere_63 (by decide) (fun c13 => ?_) (fun c13 => ?_)
        · have : Int32.toInt 0 = 0 := rfl
          have c13 := congrArg Int32.toInt c13
          refine lv_aload_n (pc := 75) C0.1 C0.2.1 dX8_itemElsewhere_75 rfl (lv_at hl 2 rfl) ?_
          refine xget (pc := 76) C0 hH 17 0 clX8 ⟨Nat.le_of_ble_eq_true rfl, Nat.le_of_ble_eq_true rfl⟩ ⟨rfl, rfl⟩ (Nat.le_of_ble_eq_true rfl) fl_X8_12 (v := .ref (b + 18)) rfl dX8_itemElsewhere_76 ?_
          refine xget (pc := 79) C0 hH 18 8 clX0 ⟨Nat.le_of_ble_eq_true rfl, Nat.le_of_ble_eq_true rfl⟩ ⟨rfl, rfl⟩ (Nat.le_of_ble_eq_true rfl) fl_X8_148 (v := .ref (b + 27)) rfl dX8_itemElsewhere_79 ?_
          refine lv_aload_n (pc := 82) C0.1 C0.2.1 dX8_itemElsewhere_82 rfl (lv_at hl 2 rfl) ?_
          refine xcVI (pc := 83) 17 [] (g_X8_top_17 l D tA b i F G  hT) C0 hH hS clX8 rfl ⟨⟨Nat.le_of_ble_eq_true rfl, Nat.le_of_ble_eq_true rfl⟩, rfl, rfl⟩ cw_X8_101 rfl ⟨Nat.le_of_ble_eq_true rfl, Nat.le_of_ble_eq_true rfl⟩ hl.1 rfl (Nat.le_of_ble_eq_true rfl) dX8_itemElsewhere_83 ⟨Nat.le_of_ble_eq_true rfl, Nat.le_of_ble_eq_true rfl⟩ (fun r14 ir14 Fr14 Gr14 _ locs hp hH hS => ?_)
          obtain ⟨hu, hpr14⟩ := hp
          cases hu
          refine xiald (pc := 86) (N := 601) C0 hH 27 ⟨Nat.le_of_ble_eq_true rfl, Nat.le_of_ble_eq_true rfl⟩ ⟨rfl, rfl⟩ (vI (by omega) (by omega)) dX8_itemElsewhere_86 ?_
          exact xiret (pc := 87) C0 hr hH hS dX8_itemElsewhere_87 ⟨On.rf, hT, hQ⟩
        · have : Int32.toInt 0 = 0 := rfl
          have c13 : ¬ _ := fun q => c13 (Int32.toInt_inj.mp q)
          refine lv_aload_n (pc := 66) C0.1 C0.2.1 dX8_itemElsewhere_66 rfl (lv_at hl 2 rfl) ?_
          refine lv_aload_n (pc := 67) C0.1 C0.2.1 dX8_itemElsewhere_67 rfl (lv_at hl 3 rfl) ?_
          refine lv_iload_n (pc := 68) C0.1 C0.2.1 dX8_itemElsewhere_68 rfl (lv_at hl 4 rfl) ?_
          refine xcVI (pc := 69) 17 [.ref (b + 9), .int x] (g_X8_itemOfHead_17_9 l D tA b i F G x k hT hQ (by omega) (show 0 ≤ Int32.toInt (i 9 7) ∧ Int32.toInt (i 9 7) ≤ 600 from by omega) (show 0 ≤ Int32.toInt x ∧ Int32.toInt x < Int32.toInt (i 9 7) from by omega)) C0 hH hS clX8 rfl ⟨⟨Nat.le_of_ble_eq_true rfl, Nat.le_of_ble_eq_true rfl⟩, rfl, rfl⟩ cw_X8_157 rfl ⟨Nat.le_of_ble_eq_true rfl, Nat.le_of_ble_eq_true rfl⟩ hl.1 rfl (Nat.le_of_ble_eq_true rfl) dX8_itemElsewhere_69 ⟨Nat.le_of_ble_eq_true rfl, Nat.le_of_ble_eq_true rfl⟩ (fun r15 ir15 Fr15 Gr15 _ locs hp hH hS => ?_)
          obtain ⟨honr15, hT, hQ⟩ := hp
          have hT : Tb17 ir15 Fr15 := hT
          have hQ : Pp17 k ir15 Fr15 := hQ
          have hL := Tb17.lin hT
          have ek_9_7r15 : Int32.toInt (ir15 9 7) = Int32.toInt (i 9 7) := congrArg Int32.toInt (congrFun (honr15.1 9 (by decide)).1 7)
          refine lv_goto (pc := 72) (tgt := 87) C0.1 C0.2.1 dX8_itemElsewhere_72 (by decide) ?_
          exact xiret (pc := 87) C0 hr hH hS dX8_itemElsewhere_87 ⟨(On.tr On.rf honr15 (by decide) (by decide)), hT, hQ⟩
      · have : Int32.toInt 0 = 0 := rfl
        have c12 : ¬ _ := fun q => c12 (Int32.toInt_inj.mp q)
        refine lv_aload_n (pc := 50) C0.1 C0.2.1 dX8_itemElsewhere_50 rfl (lv_at hl 2 rfl) ?_
        refine lv_aload_n (pc := 51) C0.1 C0.2.1 dX8_itemElsewhere_51 rfl (lv_at hl 3 rfl) ?_
        refine lv_iload_n (pc := 52) C0.1 C0.2.1 dX8_itemElsewhere_52 rfl (lv_at hl 4 rfl) ?_
        refine xcVI (pc := 53) 17 [.ref (b + 9), .int x] (g_X8_itemBehindBracket_17_9 l D tA b i F G x k hT hQ (by omega) (show 0 ≤ Int32.toInt (i 9 7) ∧ Int32.toInt (i 9 7) ≤ 600 from by omega) (show 0 ≤ Int32.toInt x ∧ Int32.toInt x < Int32.toInt (i 9 7) from by omega)) C0 hH hS clX8 rfl ⟨⟨Nat.le_of_ble_eq_true rfl, Nat.le_of_ble_eq_true rfl⟩, rfl, rfl⟩ cw_X8_154 rfl ⟨Nat.le_of_ble_eq_true rfl, Nat.le_of_ble_eq_true rfl⟩ hl.1 rfl (Nat.le_of_ble_eq_true rfl) dX8_itemElsewhere_53 ⟨Nat.le_of_ble_eq_true rfl, Nat.le_of_ble_eq_true rfl⟩ (fun r16 ir16 Fr16 Gr16 _ locs hp hH hS => ?_)
        obtain ⟨honr16, hT, hQ⟩ := hp
        have hT : Tb17 ir16 Fr16 := hT
        have hQ : Pp17 k ir16 Fr16 := hQ
        have hL := Tb17.lin hT
        have ek_9_7r16 : Int32.toInt (ir16 9 7) = Int32.toInt (i 9 7) := congrArg Int32.toInt (congrFun (honr16.1 9 (by decide)).1 7)
        exact xiret (pc := 56) C0 hr hH hS dX8_itemElsewhere_56 ⟨(On.tr On.rf honr16 (by decide) (by decide)), hT, hQ⟩
    · have : Int32.toInt 0 = 0 := rfl
      have c10 : ¬ _ := fun q => c10 (Int32.le_iff_toInt_le.mpr q)
      refine lv_aload_n (pc := 24) C0.1 C0.2.1 dX8_itemElsewhere_24 rfl (lv_at hl 2 rfl) ?_
      refine lv_iload (pc := 25) C0.1 C0.2.1 dX8_itemElsewhere_25 (lv_at hl 0 rfl) ?_
      refine xputI (pc := 27) C0 (Nat.le_of_ble_eq_true rfl) hH hS 17 7 clX8 ⟨Nat.le_of_ble_eq_true rfl, Nat.le_of_ble_eq_true rfl⟩ ⟨rfl, rfl⟩ ⟨Nat.le_of_ble_eq_true rfl, rfl, rfl⟩ fl_X8_50 (x := r9) ⟨rfl, rfl⟩ dX8_itemElsewhere_27 (fun _ locs hH hS _ => ?_)
      have hH : Hd D tA b 0 78 zz (up2 i 17 7 r9) F G _ := hH
      have hT := Tb17.hgt hT (show 1 ≤ Int32.toInt r9 ∧ Int32.toInt r9 ≤ 601 from by omega)
      refine lv_aload_n (pc := 30) C0.1 C0.2.1 dX8_itemElsewhere_30 rfl (lv_at hl 2 rfl) ?_
      refine xget (pc := 31) C0 hH 17 0 clX8 ⟨Nat.le_of_ble_eq_true rfl, Nat.le_of_ble_eq_true rfl⟩ ⟨rfl, rfl⟩ (Nat.le_of_ble_eq_true rfl) fl_X8_12 (v := .ref (b + 18)) rfl dX8_itemElsewhere_31 ?_
      refine xget (pc := 34) C0 hH 18 8 clX0 ⟨Nat.le_of_ble_eq_true rfl, Nat.le_of_ble_eq_true rfl⟩ ⟨rfl, rfl⟩ (Nat.le_of_ble_eq_true rfl) fl_X8_148 (v := .ref (b + 27)) rfl dX8_itemElsewhere_34 ?_
      refine lv_aload_n (pc := 37) C0.1 C0.2.1 dX8_itemElsewhere_37 rfl (lv_at hl 2 rfl) ?_
      refine xcVI (pc := 38) 17 [] (g_X8_top_17 l D tA b (up2 i 17 7 r9) F G  hT) C0 hH hS clX8 rfl ⟨⟨Nat.le_of_ble_eq_true rfl, Nat.le_of_ble_eq_true rfl⟩, rfl, rfl⟩ cw_X8_101 rfl ⟨Nat.le_of_ble_eq_true rfl, Nat.le_of_ble_eq_true rfl⟩ hl.1 rfl (Nat.le_of_ble_eq_true rfl) dX8_itemElsewhere_38 ⟨Nat.le_of_ble_eq_true rfl, Nat.le_of_ble_eq_true rfl⟩ (fun r17 ir17 Fr17 Gr17 _ locs hp hH hS => ?_)
      obtain ⟨hu, hpr17⟩ := hp
      cases hu
      refine xiald (pc := 41) (N := 601) C0 hH 27 ⟨Nat.le_of_ble_eq_true rfl, Nat.le_of_ble_eq_true rfl⟩ ⟨rfl, rfl⟩ (vI (by omega) (by omega)) dX8_itemElsewhere_41 ?_
      exact xiret (pc := 42) C0 hr hH hS dX8_itemElsewhere_42 ⟨(On.i On.rf (by decide)), hT, hQ⟩
set_option maxHeartbeats 4000000 in
set_option maxRecDepth 100000 in
theorem g_X8_itemBehindOpener_17_9 (l : Launch) (D : va_G) (tA : Nat → ClassId) (b : Nat) (i F : Nat → Nat → Int32) (G : Nat → Nat → Int64) (x : Int32) (k : Int) (hT : Tb17 i F) (hQ : Pp17 k i F) (hk : 0 ≤ k) (htk : 0 ≤ (i 9 7).toInt ∧ (i 9 7).toInt ≤ 600) (hx : 0 ≤ x.toInt ∧ x.toInt < (i 9 7).toInt) (hpd : ¬ (i 17 8).toInt = -9) : xMI l yX8_itemBehindOpener cX8_itemBehindOpener 8 (some .int) 3 68 D tA b 0 78 i F G [.ref (b + 17), .ref (b + 9), .int x] (fun r u => On 17 39 i F G u ∧ Tb17 u.1 u.2.1 ∧ Pp17 k u.1 u.2.1) := by
  refine xstart RX8 rfl (by decide) (Nat.le_of_ble_eq_true rfl) ?_
  intro p e s m below meth c ls C0 hr hH hS hl
  have hl : lv_has ls 8 [(0, .ref (b + 17)), (1, .ref (b + 9)), (2, .int x)] := hl
  have rg_x := fb_rng x
  have hL := Tb17.lin hT
  have h601 : Int32.toInt (nI 601) = 601 := rfl
  refine lv_aload_n (pc := 0) C0.1 C0.2.1 dX8_itemBehindOpener_0 rfl (lv_at hl 1 rfl) ?_
  refine xget (pc := 1) C0 hH 9 4 clX7 ⟨Nat.le_of_ble_eq_true rfl, Nat.le_of_ble_eq_true rfl⟩ ⟨rfl, rfl⟩ (Nat.le_of_ble_eq_true rfl) fl_X8_122 (v := .ref (b + 14)) rfl dX8_itemBehindOpener_1 ?_
  refine lv_iload_n (pc := 4) C0.1 C0.2.1 dX8_itemBehindOpener_4 rfl (lv_at hl 2 rfl) ?_
  refine xiald (pc := 5) (N := 600) C0 hH 14 ⟨Nat.le_of_ble_eq_true rfl, Nat.le_of_ble_eq_true rfl⟩ ⟨rfl, rfl⟩ (vI (by omega) (by omega)) dX8_itemBehindOpener_5 ?_
  refine lv_topi (fun x1 ex1 => ?_)
  refine lv_istore_n (pc := 6) (lv' := [(3, .int x1), (0, .ref (b + 17)), (1, .ref (b + 9)), (2, .int x)]) C0.1 C0.2.1 dX8_itemBehindOpener_6 rfl hl (by decide) rfl (fun ls hl => ?_)
  refine lv_aload_n (pc := 7) C0.1 C0.2.1 dX8_itemBehindOpener_7 rfl (lv_at hl 2 rfl) ?_
  refine xget (pc := 8) C0 hH 9 5 clX7 ⟨Nat.le_of_ble_eq_true rfl, Nat.le_of_ble_eq_true rfl⟩ ⟨rfl, rfl⟩ (Nat.le_of_ble_eq_true rfl) fl_X8_108 (v := .ref (b + 15)) rfl dX8_itemBehindOpener_8 ?_
  refine lv_aload_n (pc := 11) C0.1 C0.2.1 dX8_itemBehindOpener_11 rfl (lv_at hl 1 rfl) ?_
  refine xget (pc := 12) C0 hH 17 8 clX8 ⟨Nat.le_of_ble_eq_true rfl, Nat.le_of_ble_eq_true rfl⟩ ⟨rfl, rfl⟩ (Nat.le_of_ble_eq_true rfl) fl_X8_53 (v := .int (i 17 8)) rfl dX8_itemBehindOpener_12 ?_
  refine xiald (pc := 15) (N := 600) C0 hH 15 ⟨Nat.le_of_ble_eq_true rfl, Nat.le_of_ble_eq_true rfl⟩ ⟨rfl, rfl⟩ (vI (by omega) (by omega)) dX8_itemBehindOpener_15 ?_
  refine lv_topi (fun x2 ex2 => ?_)
  refine lv_istore (pc := 16) (lv' := [(4, .int x2), (3, .int x1), (0, .ref (b + 17)), (1, .ref (b + 9)), (2, .int x)]) C0.1 C0.2.1 dX8_itemBehindOpener_16 hl (by decide) rfl (fun ls hl => ?_)
  refine lv_aload_n (pc := 18) C0.1 C0.2.1 dX8_itemBehindOpener_18 rfl (lv_at hl 2 rfl) ?_
  refine xcVI (pc := 19) 17 [] (g_X8_top_17 l D tA b i F G  hT) C0 hH hS clX8 rfl ⟨⟨Nat.le_of_ble_eq_true rfl, Nat.le_of_ble_eq_true rfl⟩, rfl, rfl⟩ cw_X8_101 rfl ⟨Nat.le_of_ble_eq_true rfl, Nat.le_of_ble_eq_true rfl⟩ hl.1 rfl (Nat.le_of_ble_eq_true rfl) dX8_itemBehindOpener_19 ⟨Nat.le_of_ble_eq_true rfl, Nat.le_of_ble_eq_true rfl⟩ (fun r3 ir3 Fr3 Gr3 _ locs hp hH hS => ?_)
  obtain ⟨hu, hpr3⟩ := hp
  cases hu
  refine lv_istore (pc := 22) (lv' := [(5, .int r3), (4, .int x2), (3, .int x1), (0, .ref (b + 17)), (1, .ref (b + 9)), (2, .int x)]) C0.1 C0.2.1 dX8_itemBehindOpener_22 hl (by decide) rfl (fun ls hl => ?_)
  refine lv_iload_n (pc := 24) C0.1 C0.2.1 dX8_itemBehindOpener_24 rfl (lv_at hl 2 rfl) ?_
  refine lv_aload_n (pc := 25) C0.1 C0.2.1 dX8_itemBehindOpener_25 rfl (lv_at hl 3 rfl) ?_
  refine xget (pc := 26) C0 hH 17 0 clX8 ⟨Nat.le_of_ble_eq_true rfl, Nat.le_of_ble_eq_true rfl⟩ ⟨rfl, rfl⟩ (Nat.le_of_ble_eq_true rfl) fl_X8_12 (v := .ref (b + 18)) rfl dX8_itemBehindOpener_26 ?_
  refine xget (pc := 29) C0 hH 18 1 clX0 ⟨Nat.le_of_ble_eq_true rfl, Nat.le_of_ble_eq_true rfl⟩ ⟨rfl, rfl⟩ (Nat.le_of_ble_eq_true rfl) fl_X8_131 (v := .ref (b + 20)) rfl dX8_itemBehindOpener_29 ?_
  refine lv_iload (pc := 32) C0.1 C0.2.1 dX8_itemBehindOpener_32 (lv_at hl 0 rfl) ?_
  refine xiald (pc := 34) (N := 601) C0 hH 20 ⟨Nat.le_of_ble_eq_true rfl, Nat.le_of_ble_eq_true rfl⟩ ⟨rfl, rfl⟩ (vI (by omega) (by omega)) dX8_itemBehindOpener_34 ?_
  refine lv_icmp_le (pc := 35) (tgt := 65) C0.1 C0.2.1 dX8_itemBehindOpener_35 (by decide) (fun c4 => ?_) (fun c4 => ?_)
  · have c4 := Int32.le_iff_toInt_le.mp c4
    refine lv_iconst (pc := 65) (v := 0) C0.1 C0.2.1 dX8_itemBehindOpener_65 (by decide) ?_
    refine lv_istore (pc := 66) (lv' := [(6, .int 0), (5, .int r3), (4, .int x2), (3, .int x1), (0, .ref (b + 17)), (1, .ref (b + 9)), (2, .int x)]) C0.1 C0.2.1 dX8_itemBehindOpener_66 hl (by decide) rfl (fun ls hl => ?_)
    refine lv_iload (pc := 68) C0.1 C0.2.1 dX8_itemBehindOpener_68 (lv_at hl 2 rfl) ?_
    refine lv_iconst (pc := 70) (v := 1) C0.1 C0.2.1 dX8_itemBehindOpener_70 (by decide) ?_
    refine lv_icmp_ne (pc := 71) (tgt := 110) C0.1 C0.2.1 dX8_itemBehindOpener_71 (by decide) (fun c5 => ?_) (fun c5 => ?_)
    · have : Int32.toInt 1 = 1 := rfl
      have c5 : ¬ _ := fun q => c5 (Int32.toInt_inj.mp q)
      refine lv_aload_n (pc := 110) C0.1 C0.2.1 dX8_itemBehindOpener_110 rfl (lv_at hl 4 rfl) ?_
      refine lv_iload (pc := 111) C0.1 C0.2.1 dX8_itemBehindOpener_111 (lv_at hl 2 rfl) ?_
      refine lv_iload (pc := 113) C0.1 C0.2.1 dX8_itemBehindOpener_113 (lv_at hl 0 rfl) ?_
      refine lv_if_eq (pc := 115) (tgt := 122) C0.1 C0.2.1 dX8_itemBehindOpener_115 (by decide) (fun _ => ?_) (fun c => absurd (by decide) c)
      refine lv_bipush (pc := 122) (v := (-9)) C0.1 C0.2.1 dX8_itemBehindOpener_122 (by decide) ?_
      refine lv_aload_n (pc := 124) C0.1 C0.2.1 dX8_itemBehindOpener_124 rfl (lv_at hl 4 rfl) ?_
      refine xget (pc := 125) C0 hH 17 0 clX8 ⟨Nat.le_of_ble_eq_true rfl, Nat.le_of_ble_eq_true rfl⟩ ⟨rfl, rfl⟩ (Nat.le_of_ble_eq_true rfl) fl_X8_12 (v := .ref (b + 18)) rfl dX8_itemBehindOpener_125 ?_
      refine xget (pc := 128) C0 hH 18 8 clX0 ⟨Nat.le_of_ble_eq_true rfl, Nat.le_of_ble_eq_true rfl⟩ ⟨rfl, rfl⟩ (Nat.le_of_ble_eq_true rfl) fl_X8_148 (v := .ref (b + 27)) rfl dX8_itemBehindOpener_128 ?_
      refine lv_iload (pc := 131) C0.1 C0.2.1 dX8_itemBehindOpener_131 (lv_at hl 1 rfl) ?_
      refine xiald (pc := 133) (N := 601) C0 hH 27 ⟨Nat.le_of_ble_eq_true rfl, Nat.le_of_ble_eq_true rfl⟩ ⟨rfl, rfl⟩ (vI (by omega) (by omega)) dX8_itemBehindOpener_133 ?_
      refine lv_aload_n (pc := 134) C0.1 C0.2.1 dX8_itemBehindOpener_134 rfl (lv_at hl 4 rfl) ?_
      refine xget (pc := 135) C0 hH 17 8 clX8 ⟨Nat.le_of_ble_eq_true rfl, Nat.le_of_ble_eq_true rfl⟩ ⟨rfl, rfl⟩ (Nat.le_of_ble_eq_true rfl) fl_X8_53 (v := .int (i 17 8)) rfl dX8_itemBehindOpener_135 ?_
      refine xcVI (pc := 138) 17 [.int x2, .int (-9), .int (F 27 (Int32.toNatClampNeg r3)), .int (i 17 8)] (g_X8_beginBlock_17 l D tA b i F G x2 (-9) (F 27 (Int32.toNatClampNeg r3)) (i 17 8) k hT hQ (by omega)) C0 hH hS clX8 rfl ⟨⟨Nat.le_of_ble_eq_true rfl, Nat.le_of_ble_eq_true rfl⟩, rfl, rfl⟩ cw_X8_132 rfl ⟨Nat.le_of_ble_eq_true rfl, Nat.le_of_ble_eq_true rfl⟩ hl.1 rfl (Nat.le_of_ble_eq_true rfl) dX8_itemBehindOpener_138 ⟨Nat.le_of_ble_eq_true rfl, Nat.le_of_ble_eq_true rfl⟩ (fun r6 ir6 Fr6 Gr6 _ locs hp hH hS => ?_)
      obtain ⟨honr6, hT, hQ⟩ := hp
      have hT : Tb17 ir6 Fr6 := hT
      have hQ : Pp17 k ir6 Fr6 := hQ
      have hL := Tb17.lin hT
      have ek_9_7r6 : Int32.toInt (ir6 9 7) = Int32.toInt (i 9 7) := congrArg Int32.toInt (congrFun (honr6.1 9 (by decide)).1 7)
      refine lv_istore (pc := 141) (lv' := [(7, .int r6), (6, .int 0), (5, .int r3), (4, .int x2), (3, .int x1), (0, .ref (b + 17)), (1, .ref (b + 9)), (2, .int x)]) C0.1 C0.2.1 dX8_itemBehindOpener_141 hl (by decide) rfl (fun ls hl => ?_)
      refine lv_iload (pc := 143) C0.1 C0.2.1 dX8_itemBehindOpener_143 (lv_at hl 1 rfl) ?_
      refine lv_if_ne (pc := 145) (tgt := 151) C0.1 C0.2.1 dX8_itemBehindOpener_145 (by decide) (fun c => absurd (by decide) c) (fun _ => ?_)
      refine lv_bipush (pc := 148) (v := (-9)) C0.1 C0.2.1 dX8_itemBehindOpener_148 (by decide) ?_
      exact xiret (pc := 150) C0 hr hH hS dX8_itemBehindOpener_150 ⟨(On.tr On.rf honr6 (by decide) (by decide)), hT, hQ⟩
    · have : Int32.toInt 1 = 1 := rfl
      have c5 := congrArg Int32.toInt c5
      refine lv_iload (pc := 74) C0.1 C0.2.1 dX8_itemBehindOpener_74 (lv_at hl 0 rfl) ?_
      refine lv_if_eq (pc := 76) (tgt := 96) C0.1 C0.2.1 dX8_itemBehindOpener_76 (by decide) (fun _ => ?_) (fun c => absurd (by decide) c)
      refine lv_aload_n (pc := 96) C0.1 C0.2.1 dX8_itemBehindOpener_96 rfl (lv_at hl 4 rfl) ?_
      refine lv_iconst (pc := 97) (v := 3) C0.1 C0.2.1 dX8_itemBehindOpener_97 (by decide) ?_
      refine lv_aload_n (pc := 98) C0.1 C0.2.1 dX8_itemBehindOpener_98 rfl (lv_at hl 5 rfl) ?_
      refine xget (pc := 99) C0 hH 9 1 clX7 ⟨Nat.le_of_ble_eq_true rfl, Nat.le_of_ble_eq_true rfl⟩ ⟨rfl, rfl⟩ (Nat.le_of_ble_eq_true rfl) fl_X8_142 (v := .ref (b + 11)) rfl dX8_itemBehindOpener_99 ?_
      refine lv_iload_n (pc := 102) C0.1 C0.2.1 dX8_itemBehindOpener_102 rfl (lv_at hl 6 rfl) ?_
      refine xiald (pc := 103) (N := 600) C0 hH 11 ⟨Nat.le_of_ble_eq_true rfl, Nat.le_of_ble_eq_true rfl⟩ ⟨rfl, rfl⟩ (vI (by omega) (by omega)) dX8_itemBehindOpener_103 ?_
      refine xcVV (pc := 104) 17 [.int 3, .int (F 11 (Int32.toNatClampNeg x))] (g_X8_fail_17 l D tA b i F G 3 (F 11 (Int32.toNatClampNeg x))) C0 hH hS clX8 rfl ⟨⟨Nat.le_of_ble_eq_true rfl, Nat.le_of_ble_eq_true rfl⟩, rfl, rfl⟩ cw_X8_145 rfl ⟨Nat.le_of_ble_eq_true rfl, Nat.le_of_ble_eq_true rfl⟩ hl.1 rfl (Nat.le_of_ble_eq_true rfl) dX8_itemBehindOpener_104 ⟨Nat.le_of_ble_eq_true rfl, Nat.le_of_ble_eq_true rfl⟩ (fun ir7 Fr7 Gr7 _ locs hp hH hS => ?_)
      cases hp
      have hH : Hd D tA b 0 78 zz (up2 (up2 i 17 4 3) 17 5 (F 11 (Int32.toNatClampNeg x))) F G _ := hH
      refine lv_bipush (pc := 107) (v := (-9)) C0.1 C0.2.1 dX8_itemBehindOpener_107 (by decide) ?_
      exact xiret (pc := 109) C0 hr hH hS dX8_itemBehindOpener_109 ⟨(On.i (On.i On.rf (by decide)) (by decide)), hT, hQ⟩
  · have c4 : ¬ _ := fun q => c4 (Int32.le_iff_toInt_le.mpr q)
    refine lv_aload_n (pc := 38) C0.1 C0.2.1 dX8_itemBehindOpener_38 rfl (lv_at hl 4 rfl) ?_
    refine xget (pc := 39) C0 hH 9 5 clX7 ⟨Nat.le_of_ble_eq_true rfl, Nat.le_of_ble_eq_true rfl⟩ ⟨rfl, rfl⟩ (Nat.le_of_ble_eq_true rfl) fl_X8_108 (v := .ref (b + 15)) rfl dX8_itemBehindOpener_39 ?_
    refine lv_iload_n (pc := 42) C0.1 C0.2.1 dX8_itemBehindOpener_42 rfl (lv_at hl 5 rfl) ?_
    refine xiald (pc := 43) (N := 600) C0 hH 15 ⟨Nat.le_of_ble_eq_true rfl, Nat.le_of_ble_eq_true rfl⟩ ⟨rfl, rfl⟩ (vI (by omega) (by omega)) dX8_itemBehindOpener_43 ?_
    refine lv_bipush (pc := 44) (v := 6) C0.1 C0.2.1 dX8_itemBehindOpener_44 (by decide) ?_
    refine lv_icmp_eq (pc := 46) (tgt := 65) C0.1 C0.2.1 dX8_itemBehindOpener_46 (by decide) (fun c8 => ?_) (fun c8 => ?_)
    · have : Int32.toInt 6 = 6 := rfl
      have c8 := congrArg Int32.toInt c8
      refine lv_iconst (pc := 65) (v := 0) C0.1 C0.2.1 dX8_itemBehindOpener_65 (by decide) ?_
      refine lv_istore (pc := 66) (lv' := [(6, .int 0), (5, .int r3), (4, .int x2), (3, .int x1), (0, .ref (b + 17)), (1, .ref (b + 9)), (2, .int x)]) C0.1 C0.2.1 dX8_itemBehindOpener_66 hl (by decide) rfl (fun ls hl => ?_)
      refine lv_iload (pc := 68) C0.1 C0.2.1 dX8_itemBehindOpener_68 (lv_at hl 2 rfl) ?_
      refine lv_iconst (pc := 70) (v := 1) C0.1 C0.2.1 dX8_itemBehindOpener_70 (by decide) ?_
      refine lv_icmp_ne (pc := 71) (tgt := 110) C0.1 C0.2.1 dX8_itemBehindOpener_71 (by decide) (fun c9 => ?_) (fun c9 => ?_)
      · have : Int32.toInt 1 = 1 := rfl
        have c9 : ¬ _ := fun q => c9 (Int32.toInt_inj.mp q)
        refine lv_aload_n (pc := 110) C0.1 C0.2.1 dX8_itemBehindOpener_110 rfl (lv_at hl 4 rfl) ?_
        refine lv_iload (pc := 111) C0.1 C0.2.1 dX8_itemBehindOpener_111 (lv_at hl 2 rfl) ?_
        refine lv_iload (pc := 113) C0.1 C0.2.1 dX8_itemBehindOpener_113 (lv_at hl 0 rfl) ?_
        refine lv_if_eq (pc := 115) (tgt := 122) C0.1 C0.2.1 dX8_itemBehindOpener_115 (by decide) (fun _ => ?_) (fun c => absurd (by decide) c)
        refine lv_bipush (pc := 122) (v := (-9)) C0.1 C0.2.1 dX8_itemBehindOpener_122 (by decide) ?_
        refine lv_aload_n (pc := 124) C0.1 C0.2.1 dX8_itemBehindOpener_124 rfl (lv_at hl 4 rfl) ?_
        refine xget (pc := 125) C0 hH 17 0 clX8 ⟨Nat.le_of_ble_eq_true rfl, Nat.le_of_ble_eq_true rfl⟩ ⟨rfl, rfl⟩ (Nat.le_of_ble_eq_true rfl) fl_X8_12 (v := .ref (b + 18)) rfl dX8_itemBehindOpener_125 ?_
        refine xget (pc := 128) C0 hH 18 8 clX0 ⟨Nat.le_of_ble_eq_true rfl, Nat.le_of_ble_eq_true rfl⟩ ⟨rfl, rfl⟩ (Nat.le_of_ble_eq_true rfl) fl_X8_148 (v := .ref (b + 27)) rfl dX8_itemBehindOpener_128 ?_
        refine lv_iload (pc := 131) C0.1 C0.2.1 dX8_itemBehindOpener_131 (lv_at hl 1 rfl) ?_
        refine xiald (pc := 133) (N := 601) C0 hH 27 ⟨Nat.le_of_ble_eq_true rfl, Nat.le_of_ble_eq_true rfl⟩ ⟨rfl, rfl⟩ (vI (by omega) (by omega)) dX8_itemBehindOpener_133 ?_
        refine lv_aload_n (pc := 134) C0.1 C0.2.1 dX8_itemBehindOpener_134 rfl (lv_at hl 4 rfl) ?_
        refine xget (pc := 135) C0 hH 17 8 clX8 ⟨Nat.le_of_ble_eq_true rfl, Nat.le_of_ble_eq_true rfl⟩ ⟨rfl, rfl⟩ (Nat.le_of_ble_eq_true rfl) fl_X8_53 (v := .int (i 17 8)) rfl dX8_itemBehindOpener_135 ?_
        refine xcVI (pc := 138) 17 [.int x2, .int (-9), .int (F 27 (Int32.toNatClampNeg r3)), .int (i 17 8)] (g_X8_beginBlock_17 l D tA b i F G x2 (-9) (F 27 (Int32.toNatClampNeg r3)) (i 17 8) k hT hQ (by omega)) C0 hH hS clX8 rfl ⟨⟨Nat.le_of_ble_eq_true rfl, Nat.le_of_ble_eq_true rfl⟩, rfl, rfl⟩ cw_X8_132 rfl ⟨Nat.le_of_ble_eq_true rfl, Nat.le_of_ble_eq_true rfl⟩ hl.1 rfl (Nat.le_of_ble_eq_true rfl) dX8_itemBehindOpener_138 ⟨Nat.le_of_ble_eq_true rfl, Nat.le_of_ble_eq_true rfl⟩ (fun r10 ir10 Fr10 Gr10 _ locs hp hH hS => ?_)
        obtain ⟨honr10, hT, hQ⟩ := hp
        have hT : Tb17 ir10 Fr10 := hT
        have hQ : Pp17 k ir10 Fr10 := hQ
        have hL := Tb17.lin hT
        have ek_9_7r10 : Int32.toInt (ir10 9 7) = Int32.toInt (i 9 7) := congrArg Int32.toInt (congrFun (honr10.1 9 (by decide)).1 7)
        refine lv_istore (pc := 141) (lv' := [(7, .int r10), (6, .int 0), (5, .int r3), (4, .int x2), (3, .int x1), (0, .ref (b + 17)), (1, .ref (b + 9)), (2, .int x)]) C0.1 C0.2.1 dX8_itemBehindOpener_141 hl (by decide) rfl (fun ls hl => ?_)
        refine lv_iload (pc := 143) C0.1 C0.2.1 dX8_itemBehindOpener_143 (lv_at hl 1 rfl) ?_
        refine lv_if_ne (pc := 145) (tgt := 151) C0.1 C0.2.1 dX8_itemBehindOpener_145 (by decide) (fun c => absurd (by decide) c) (fun _ => ?_)
        refine lv_bipush (pc := 148) (v := (-9)) C0.1 C0.2.1 dX8_itemBehindOpener_148 (by decide) ?_
        exact xiret (pc := 150) C0 hr hH hS dX8_itemBehindOpener_150 ⟨(On.tr On.rf honr10 (by decide) (by decide)), hT, hQ⟩
      · have : Int32.toInt 1 = 1 := rfl
        have c9 := congrArg Int32.toInt c9
        refine lv_iload (pc := 74) C0.1 C0.2.1 dX8_itemBehindOpener_74 (lv_at hl 0 rfl) ?_
        refine lv_if_eq (pc := 76) (tgt := 96) C0.1 C0.2.1 dX8_itemBehindOpener_76 (by decide) (fun _ => ?_) (fun c => absurd (by decide) c)
        refine lv_aload_n (pc := 96) C0.1 C0.2.1 dX8_itemBehindOpener_96 rfl (lv_at hl 4 rfl) ?_
        refine lv_iconst (pc := 97) (v := 3) C0.1 C0.2.1 dX8_itemBehindOpener_97 (by decide) ?_
        refine lv_aload_n (pc := 98) C0.1 C0.2.1 dX8_itemBehindOpener_98 rfl (lv_at hl 5 rfl) ?_
        refine xget (pc := 99) C0 hH 9 1 clX7 ⟨Nat.le_of_ble_eq_true rfl, Nat.le_of_ble_eq_true rfl⟩ ⟨rfl, rfl⟩ (Nat.le_of_ble_eq_true rfl) fl_X8_142 (v := .ref (b + 11)) rfl dX8_itemBehindOpener_99 ?_
        refine lv_iload_n (pc := 102) C0.1 C0.2.1 dX8_itemBehindOpener_102 rfl (lv_at hl 6 rfl) ?_
        refine xiald (pc := 103) (N := 600) C0 hH 11 ⟨Nat.le_of_ble_eq_true rfl, Nat.le_of_ble_eq_true rfl⟩ ⟨rfl, rfl⟩ (vI (by omega) (by omega)) dX8_itemBehindOpener_103 ?_
        refine xcVV (pc := 104) 17 [.int 3, .int (F 11 (Int32.toNatClampNeg x))] (g_X8_fail_17 l D tA b i F G 3 (F 11 (Int32.toNatClampNeg x))) C0 hH hS clX8 rfl ⟨⟨Nat.le_of_ble_eq_true rfl, Nat.le_of_ble_eq_true rfl⟩, rfl, rfl⟩ cw_X8_145 rfl ⟨Nat.le_of_ble_eq_true rfl, Nat.le_of_ble_eq_true rfl⟩ hl.1 rfl (Nat.le_of_ble_eq_true rfl) dX8_itemBehindOpener_104 ⟨Nat.le_of_ble_eq_true rfl, Nat.le_of_ble_eq_true rfl⟩ (fun ir11 Fr11 Gr11 _ locs hp hH hS => ?_)
        cases hp
        have hH : Hd D tA b 0 78 zz (up2 (up2 i 17 4 3) 17 5 (F 11 (Int32.toNatClampNeg x))) F G _ := hH
        refine lv_bipush (pc := 107) (v := (-9)) C0.1 C0.2.1 dX8_itemBehindOpener_107 (by decide) ?_
        exact xiret (pc := 109) C0 hr hH hS dX8_itemBehindOpener_109 ⟨(On.i (On.i On.rf (by decide)) (by decide)), hT, hQ⟩
    · have : Int32.toInt 6 = 6 := rfl
      have c8 : ¬ _ := fun q => c8 (Int32.toInt_inj.mp q)
      refine lv_aload_n (pc := 49) C0.1 C0.2.1 dX8_itemBehindOpener_49 rfl (lv_at hl 4 rfl) ?_
      refine xget (pc := 50) C0 hH 9 5 clX7 ⟨Nat.le_of_ble_eq_true rfl, Nat.le_of_ble_eq_true rfl⟩ ⟨rfl, rfl⟩ (Nat.le_of_ble_eq_true rfl) fl_X8_108 (v := .ref (b + 15)) rfl dX8_itemBehindOpener_50 ?_
      refine lv_iload_n (pc := 53) C0.1 C0.2.1 dX8_itemBehindOpener_53 rfl (lv_at hl 5 rfl) ?_
      refine xiald (pc := 54) (N := 600) C0 hH 15 ⟨Nat.le_of_ble_eq_true rfl, Nat.le_of_ble_eq_true rfl⟩ ⟨rfl, rfl⟩ (vI (by omega) (by omega)) dX8_itemBehindOpener_54 ?_
      refine xcNI (pc := 55) [.int (F 15 (Int32.toNatClampNeg x))] (g_X9_isSecond l D tA b i F G (F 15 (Int32.toNatClampNeg x)) ) C0 hH hS cw_X8_139 st_X9_isSecond rfl ⟨Nat.le_of_ble_eq_true rfl, Nat.le_of_ble_eq_true rfl⟩ hl.1 rfl (Nat.le_of_ble_eq_true rfl) dX8_itemBehindOpener_55 ⟨Nat.le_of_ble_eq_true rfl, Nat.le_of_ble_eq_true rfl⟩ (fun r12 ir12 Fr12 Gr12 _ locs hp hH hS => ?_)
      obtain ⟨hu, hpr12⟩ := hp
      cases hu
      refine lv_if_ne (pc := 58) (tgt := 65) C0.1 C0.2.1 dX8_itemBehindOpener_58 (by decide) (fun c13 => ?_) (fun c13 => ?_)
      · have : Int32.toInt 0 = 0 := rfl
        have c13 : ¬ _ := fun q => c13 (Int32.toInt_inj.mp q)
        refine lv_iconst (pc := 65) (v := 0) C0.1 C0.2.1 dX8_itemBehindOpener_65 (by decide) ?_
        refine lv_istore (pc := 66) (lv' := [(6, .int 0), (5, .int r3), (4, .int x2), (3, .int x1), (0, .ref (b + 17)), (1, .ref (b + 9)), (2, .int x)]) C0.1 C0.2.1 dX8_itemBehindOpener_66 hl (by decide) rfl (fun ls hl => ?_)
        refine lv_iload (pc := 68) C0.1 C0.2.1 dX8_itemBehindOpener_68 (lv_at hl 2 rfl) ?_
        refine lv_iconst (pc := 70) (v := 1) C0.1 C0.2.1 dX8_itemBehindOpener_70 (by decide) ?_
        refine lv_icmp_ne (pc := 71) (tgt := 110) C0.1 C0.2.1 dX8_itemBehindOpener_71 (by decide) (fun c14 => ?_) (fun c14 => ?_)
        · have : Int32.toInt 1 = 1 := rfl
          have c14 : ¬ _ := fun q => c14 (Int32.toInt_inj.mp q)
          refine lv_aload_n (pc := 110) C0.1 C0.2.1 dX8_itemBehindOpener_110 rfl (lv_at hl 4 rfl) ?_
          refine lv_iload (pc := 111) C0.1 C0.2.1 dX8_itemBehindOpener_111 (lv_at hl 2 rfl) ?_
          refine lv_iload (pc := 113) C0.1 C0.2.1 dX8_itemBehindOpener_113 (lv_at hl 0 rfl) ?_
          refine lv_if_eq (pc := 115) (tgt := 122) C0.1 C0.2.1 dX8_itemBehindOpener_115 (by decide) (fun _ => ?_) (fun c => absurd (by decide) c)
          refine lv_bipush (pc := 122) (v := (-9)) C0.1 C0.2.1 dX8_itemBehindOpener_122 (by decide) ?_
          refine lv_aload_n (pc := 124) C0.1 C0.2.1 dX8_itemBehindOpener_124 rfl (lv_at hl 4 rfl) ?_
          refine xget (pc := 125) C0 hH 17 0 clX8 ⟨Nat.le_of_ble_eq_true rfl, Nat.le_of_ble_eq_true rfl⟩ ⟨rfl, rfl⟩ (Nat.le_of_ble_eq_true rfl) fl_X8_12 (v := .ref (b + 18)) rfl dX8_itemBehindOpener_125 ?_
          refine xget (pc := 128) C0 hH 18 8 clX0 ⟨Nat.le_of_ble_eq_true rfl, Nat.le_of_ble_eq_true rfl⟩ ⟨rfl, rfl⟩ (Nat.le_of_ble_eq_true rfl) fl_X8_148 (v := .ref (b + 27)) rfl dX8_itemBehindOpener_128 ?_
          refine lv_iload (pc := 131) C0.1 C0.2.1 dX8_itemBehindOpener_131 (lv_at hl 1 rfl) ?_
          refine xiald (pc := 133) (N := 601) C0 hH 27 ⟨Nat.le_of_ble_eq_true rfl, Nat.le_of_ble_eq_true rfl⟩ ⟨rfl, rfl⟩ (vI (by omega) (by omega)) dX8_itemBehindOpener_133 ?_
          refine lv_aload_n (pc := 134) C0.1 C0.2.1 dX8_itemBehindOpener_134 rfl (lv_at hl 4 rfl) ?_
          refine xget (pc := 135) C0 hH 17 8 clX8 ⟨Nat.le_of_ble_eq_true rfl, Nat.le_of_ble_eq_true rfl⟩ ⟨rfl, rfl⟩ (Nat.le_of_ble_eq_true rfl) fl_X8_53 (v := .int (i 17 8)) rfl dX8_itemBehindOpener_135 ?_
          refine xcVI (pc := 138) 17 [.int x2, .int (-9), .int (F 27 (Int32.toNatClampNeg r3)), .int (i 17 8)] (g_X8_beginBlock_17 l D tA b i F G x2 (-9) (F 27 (Int32.toNatClampNeg r3)) (i 17 8) k hT hQ (by omega)) C0 hH hS clX8 rfl ⟨⟨Nat.le_of_ble_eq_true rfl, Nat.le_of_ble_eq_true rfl⟩, rfl, rfl⟩ cw_X8_132 rfl ⟨Nat.le_of_ble_eq_true rfl, Nat.le_of_ble_eq_true rfl⟩ hl.1 rfl (Nat.le_of_ble_eq_true rfl) dX8_itemBehindOpener_138 ⟨Nat.le_of_ble_eq_true rfl, Nat.le_of_ble_eq_true rfl⟩ (fun r15 ir15 Fr15 Gr15 _ locs hp hH hS => ?_)
          obtain ⟨honr15, hT, hQ⟩ := hp
          have hT : Tb17 ir15 Fr15 := hT
          have hQ : Pp17 k ir15 Fr15 := hQ
          have hL := Tb17.lin hT
          have ek_9_7r15 : Int32.toInt (ir15 9 7) = Int32.toInt (i 9 7) := congrArg Int32.toInt (congrFun (honr15.1 9 (by decide)).1 7)
          refine lv_istore (pc := 141) (lv' := [(7, .int r15), (6, .int 0), (5, .int r3), (4, .int x2), (3, .int x1), (0, .ref (b + 17)), (1, .ref (b + 9)), (2, .int x)]) C0.1 C0.2.1 dX8_itemBehindOpener_141 hl (by decide) rfl (fun ls hl => ?_)
          refine lv_iload (pc := 143) C0.1 C0.2.1 dX8_itemBehindOpener_143 (lv_at hl 1 rfl) ?_
          refine lv_if_ne (pc := 145) (tgt := 151) C0.1 C0.2.1 dX8_itemBehindOpener_145 (by decide) (fun c => absurd (by decide) c) (fun _ => ?_)
          refine lv_bipush (pc := 148) (v := (-9)) C0.1 C0.2.1 dX8_itemBehindOpener_148 (by decide) ?_
          exact xiret (pc := 150) C0 hr hH hS dX8_itemBehindOpener_150 ⟨(On.tr On.rf honr15 (by decide) (by decide)), hT, hQ⟩
        · have : Int32.toInt 1 = 1 := rfl
          have c14 := congrArg Int32.toInt c14
          refine lv_iload (pc := 74) C0.1 C0.2.1 dX8_itemBehindOpener_74 (lv_at hl 0 rfl) ?_
          refine lv_if_eq (pc := 76) (tgt := 96) C0.1 C0.2.1 dX8_itemBehindOpener_76 (by decide) (fun _ => ?_) (fun c => absurd (by decide) c)
          refine lv_aload_n (pc := 96) C0.1 C0.2.1 dX8_itemBehindOpener_96 rfl (lv_at hl 4 rfl) ?_
          refine lv_iconst (pc := 97) (v := 3) C0.1 C0.2.1 dX8_itemBehindOpener_97 (by decide) ?_
          refine lv_aload_n (pc := 98) C0.1 C0.2.1 dX8_itemBehindOpener_98 rfl (lv_at hl 5 rfl) ?_
          refine xget (pc := 99) C0 hH 9 1 clX7 ⟨Nat.le_of_ble_eq_true rfl, Nat.le_of_ble_eq_true rfl⟩ ⟨rfl, rfl⟩ (Nat.le_of_ble_eq_true rfl) fl_X8_142 (v := .ref (b + 11)) rfl dX8_itemBehindOpener_99 ?_
          refine lv_iload_n (pc := 102) C0.1 C0.2.1 dX8_itemBehindOpener_102 rfl (lv_at hl 6 rfl) ?_
          refine xiald (pc := 103) (N := 600) C0 hH 11 ⟨Nat.le_of_ble_eq_true rfl, Nat.le_of_ble_eq_true rfl⟩ ⟨rfl, rfl⟩ (vI (by omega) (by omega)) dX8_itemBehindOpener_103 ?_
          refine xcVV (pc := 104) 17 [.int 3, .int (F 11 (Int32.toNatClampNeg x))] (g_X8_fail_17 l D tA b i F G 3 (F 11 (Int32.toNatClampNeg x))) C0 hH hS clX8 rfl ⟨⟨Nat.le_of_ble_eq_true rfl, Nat.le_of_ble_eq_true rfl⟩, rfl, rfl⟩ cw_X8_145 rfl ⟨Nat.le_of_ble_eq_true rfl, Nat.le_of_ble_eq_true rfl⟩ hl.1 rfl (Nat.le_of_ble_eq_true rfl) dX8_itemBehindOpener_104 ⟨Nat.le_of_ble_eq_true rfl, Nat.le_of_ble_eq_true rfl⟩ (fun ir16 Fr16 Gr16 _ locs hp hH hS => ?_)
          cases hp
          have hH : Hd D tA b 0 78 zz (up2 (up2 i 17 4 3) 17 5 (F 11 (Int32.toNatClampNeg x))) F G _ := hH
          refine lv_bipush (pc := 107) (v := (-9)) C0.1 C0.2.1 dX8_itemBehindOpener_107 (by decide) ?_
          exact xiret (pc := 109) C0 hr hH hS dX8_itemBehindOpener_109 ⟨(On.i (On.i On.rf (by decide)) (by decide)), hT, hQ⟩
      · have : Int32.toInt 0 = 0 := rfl
        have c13 := congrArg Int32.toInt c13
        refine lv_iconst (pc := 61) (v := 1) C0.1 C0.2.1 dX8_itemBehindOpener_61 (by decide) ?_
        refine lv_goto (pc := 62) (tgt := 66) C0.1 C0.2.1 dX8_itemBehindOpener_62 (by decide) ?_
        refine lv_istore (pc := 66) (lv' := [(6, .int 1), (5, .int r3), (4, .int x2), (3, .int x1), (0, .ref (b + 17)), (1, .ref (b + 9)), (2, .int x)]) C0.1 C0.2.1 dX8_itemBehindOpener_66 hl (by decide) rfl (fun ls hl => ?_)
        refine lv_iload (pc := 68) C0.1 C0.2.1 dX8_itemBehindOpener_68 (lv_at hl 2 rfl) ?_
        refine lv_iconst (pc := 70) (v := 1) C0.1 C0.2.1 dX8_itemBehindOpener_70 (by decide) ?_
        refine lv_icmp_ne (pc := 71) (tgt := 110) C0.1 C0.2.1 dX8_itemBehindOpener_71 (by decide) (fun c17 => ?_) (fun c17 => ?_)
        · have : Int32.toInt 1 = 1 := rfl
          have c17 : ¬ _ := fun q => c17 (Int32.toInt_inj.mp q)
          refine lv_aload_n (pc := 110) C0.1 C0.2.1 dX8_itemBehindOpener_110 rfl (lv_at hl 4 rfl) ?_
          refine lv_iload (pc := 111) C0.1 C0.2.1 dX8_itemBehindOpener_111 (lv_at hl 2 rfl) ?_
          refine lv_iload (pc := 113) C0.1 C0.2.1 dX8_itemBehindOpener_113 (lv_at hl 0 rfl) ?_
          refine lv_if_eq (pc := 115) (tgt := 122) C0.1 C0.2.1 dX8_itemBehindOpener_115 (by decide) (fun c => absurd c (by decide)) (fun _ => ?_)
          refine lv_iload_n (pc := 118) C0.1 C0.2.1 dX8_itemBehindOpener_118 rfl (lv_at hl 3 rfl) ?_
          refine lv_goto (pc := 119) (tgt := 124) C0.1 C0.2.1 dX8_itemBehindOpener_119 (by decide) ?_
          refine lv_aload_n (pc := 124) C0.1 C0.2.1 dX8_itemBehindOpener_124 rfl (lv_at hl 4 rfl) ?_
          refine xget (pc := 125) C0 hH 17 0 clX8 ⟨Nat.le_of_ble_eq_true rfl, Nat.le_of_ble_eq_true rfl⟩ ⟨rfl, rfl⟩ (Nat.le_of_ble_eq_true rfl) fl_X8_12 (v := .ref (b + 18)) rfl dX8_itemBehindOpener_125 ?_
          refine xget (pc := 128) C0 hH 18 8 clX0 ⟨Nat.le_of_ble_eq_true rfl, Nat.le_of_ble_eq_true rfl⟩ ⟨rfl, rfl⟩ (Nat.le_of_ble_eq_true rfl) fl_X8_148 (v := .ref (b + 27)) rfl dX8_itemBehindOpener_128 ?_
          refine lv_iload (pc := 131) C0.1 C0.2.1 dX8_itemBehindOpener_131 (lv_at hl 1 rfl) ?_
          refine xiald (pc := 133) (N := 601) C0 hH 27 ⟨Nat.le_of_ble_eq_true rfl, Nat.le_of_ble_eq_true rfl⟩ ⟨rfl, rfl⟩ (vI (by omega) (by omega)) dX8_itemBehindOpener_133 ?_
          refine lv_aload_n (pc := 134) C0.1 C0.2.1 dX8_itemBehindOpener_134 rfl (lv_at hl 4 rfl) ?_
          refine xget (pc := 135) C0 hH 17 8 clX8 ⟨Nat.le_of_ble_eq_true rfl, Nat.le_of_ble_eq_true rfl⟩ ⟨rfl, rfl⟩ (Nat.le_of_ble_eq_true rfl) fl_X8_53 (v := .int (i 17 8)) rfl dX8_itemBehindOpener_135 ?_
          refine xcVI (pc := 138) 17 [.int x2, .int x1, .int (F 27 (Int32.toNatClampNeg r3)), .int (i 17 8)] (g_X8_beginBlock_17 l D tA b i F G x2 x1 (F 27 (Int32.toNatClampNeg r3)) (i 17 8) k hT hQ (by omega)) C0 hH hS clX8 rfl ⟨⟨Nat.le_of_ble_eq_true rfl, Nat.le_of_ble_eq_true rfl⟩, rfl, rfl⟩ cw_X8_132 rfl ⟨Nat.le_of_ble_eq_true rfl, Nat.le_of_ble_eq_true rfl⟩ hl.1 rfl (Nat.le_of_ble_eq_true rfl) dX8_itemBehindOpener_138 ⟨Nat.le_of_ble_eq_true rfl, Nat.le_of_ble_eq_true rfl⟩ (fun r18 ir18 Fr18 Gr18 _ locs hp hH hS => ?_)
          obtain ⟨honr18, hT, hQ⟩ := hp
          have hT : Tb17 ir18 Fr18 := hT
          have hQ : Pp17 k ir18 Fr18 := hQ
          have hL := Tb17.lin hT
          have ek_9_7r18 : Int32.toInt (ir18 9 7) = Int32.toInt (i 9 7) := congrArg Int32.toInt (congrFun (honr18.1 9 (by decide)).1 7)
          refine lv_istore (pc := 141) (lv' := [(7, .int r18), (6, .int 1), (5, .int r3), (4, .int x2), (3, .int x1), (0, .ref (b + 17)), (1, .ref (b + 9)), (2, .int x)]) C0.1 C0.2.1 dX8_itemBehindOpener_141 hl (by decide) rfl (fun ls hl => ?_)
          refine lv_iload (pc := 143) C0.1 C0.2.1 dX8_itemBehindOpener_143 (lv_at hl 1 rfl) ?_
          refine lv_if_ne (pc := 145) (tgt := 151) C0.1 C0.2.1 dX8_itemBehindOpener_145 (by decide) (fun _ => ?_) (fun c => absurd c (by decide))
          refine lv_aload_n (pc := 151) C0.1 C0.2.1 dX8_itemBehindOpener_151 rfl (lv_at hl 5 rfl) ?_
          refine lv_iload (pc := 152) C0.1 C0.2.1 dX8_itemBehindOpener_152 (lv_at hl 0 rfl) ?_
          refine xcVV (pc := 154) 17 [.int r18] (g_X8_pileUp_17 l D tA b ir18 Fr18 Gr18 r18 k hT hQ (by omega)) C0 hH hS clX8 rfl ⟨⟨Nat.le_of_ble_eq_true rfl, Nat.le_of_ble_eq_true rfl⟩, rfl, rfl⟩ cw_X8_63 rfl ⟨Nat.le_of_ble_eq_true rfl, Nat.le_of_ble_eq_true rfl⟩ hl.1 rfl (Nat.le_of_ble_eq_true rfl) dX8_itemBehindOpener_154 ⟨Nat.le_of_ble_eq_true rfl, Nat.le_of_ble_eq_true rfl⟩ (fun ir19 Fr19 Gr19 _ locs hp hH hS => ?_)
          obtain ⟨honr19, hT, hQ⟩ := hp
          have hT : Tb17 ir19 Fr19 := hT
          have hQ : Pp17 k ir19 Fr19 := hQ
          have hL := Tb17.lin hT
          have ek_9_7r19 : Int32.toInt (ir19 9 7) = Int32.toInt (ir18 9 7) := congrArg Int32.toInt (congrFun (honr19.1 9 (by decide)).1 7)
          refine lv_aload_n (pc := 157) C0.1 C0.2.1 dX8_itemBehindOpener_157 rfl (lv_at hl 5 rfl) ?_
          refine lv_iload (pc := 158) C0.1 C0.2.1 dX8_itemBehindOpener_158 (lv_at hl 0 rfl) ?_
          refine xcVI (pc := 160) 17 [.int r18] (g_X8_beginItem_17 l D tA b ir19 Fr19 Gr19 r18 k hT hQ (by omega)) C0 hH hS clX8 rfl ⟨⟨Nat.le_of_ble_eq_true rfl, Nat.le_of_ble_eq_true rfl⟩, rfl, rfl⟩ cw_X8_136 rfl ⟨Nat.le_of_ble_eq_true rfl, Nat.le_of_ble_eq_true rfl⟩ hl.1 rfl (Nat.le_of_ble_eq_true rfl) dX8_itemBehindOpener_160 ⟨Nat.le_of_ble_eq_true rfl, Nat.le_of_ble_eq_true rfl⟩ (fun r20 ir20 Fr20 Gr20 _ locs hp hH hS => ?_)
          obtain ⟨honr20, hT, hQ⟩ := hp
          have hT : Tb17 ir20 Fr20 := hT
          have hQ : Pp17 k ir20 Fr20 := hQ
          have hL := Tb17.lin hT
          have ek_9_7r20 : Int32.toInt (ir20 9 7) = Int32.toInt (ir19 9 7) := congrArg Int32.toInt (congrFun (honr20.1 9 (by decide)).1 7)
          exact xiret (pc := 163) C0 hr hH hS dX8_itemBehindOpener_163 ⟨(On.tr (On.tr (On.tr On.rf honr18 (by decide) (by decide)) honr19 (by decide) (by decide)) honr20 (by decide) (by decide)), hT, hQ⟩
        · have : Int32.toInt 1 = 1 := rfl
          have c17 := congrArg Int32.toInt c17
          refine lv_iload (pc := 74) C0.1 C0.2.1 dX8_itemBehindOpener_74 (lv_at hl 0 rfl) ?_
          refine lv_if_eq (pc := 76) (tgt := 96) C0.1 C0.2.1 dX8_itemBehindOpener_76 (by decide) (fun c => absurd c (by decide)) (fun _ => ?_)
          refine lv_aload_n (pc := 79) C0.1 C0.2.1 dX8_itemBehindOpener_79 rfl (lv_at hl 4 rfl) ?_
          refine xget (pc := 80) C0 hH 17 3 clX8 ⟨Nat.le_of_ble_eq_true rfl, Nat.le_of_ble_eq_true rfl⟩ ⟨rfl, rfl⟩ (Nat.le_of_ble_eq_true rfl) fl_X8_29 (v := .ref (b + 37)) rfl dX8_itemBehindOpener_80 ?_
          refine lv_iload_n (pc := 83) C0.1 C0.2.1 dX8_itemBehindOpener_83 rfl (lv_at hl 6 rfl) ?_
          refine xzald (pc := 84) (N := 600) C0 hH 37 ⟨Nat.le_of_ble_eq_true rfl, Nat.le_of_ble_eq_true rfl⟩ ⟨rfl, rfl⟩ (vI (by omega) (by omega)) dX8_itemBehindOpener_84 ?_
          refine lv_if_eq (pc := 85) (tgt := 96) C0.1 C0.2.1 dX8_itemBehindOpener_85 (by decide) (fun c21 => ?_) (fun c21 => ?_)
          · have : Int32.toInt 0 = 0 := rfl
            have c21 := congrArg Int32.toInt c21
            refine lv_aload_n (pc := 96) C0.1 C0.2.1 dX8_itemBehindOpener_96 rfl (lv_at hl 4 rfl) ?_
            refine lv_iconst (pc := 97) (v := 3) C0.1 C0.2.1 dX8_itemBehindOpener_97 (by decide) ?_
            refine lv_aload_n (pc := 98) C0.1 C0.2.1 dX8_itemBehindOpener_98 rfl (lv_at hl 5 rfl) ?_
            refine xget (pc := 99) C0 hH 9 1 clX7 ⟨Nat.le_of_ble_eq_true rfl, Nat.le_of_ble_eq_true rfl⟩ ⟨rfl, rfl⟩ (Nat.le_of_ble_eq_true rfl) fl_X8_142 (v := .ref (b + 11)) rfl dX8_itemBehindOpener_99 ?_
            refine lv_iload_n (pc := 102) C0.1 C0.2.1 dX8_itemBehindOpener_102 rfl (lv_at hl 6 rfl) ?_
            refine xiald (pc := 103) (N := 600) C0 hH 11 ⟨Nat.le_of_ble_eq_true rfl, Nat.le_of_ble_eq_true rfl⟩ ⟨rfl, rfl⟩ (vI (by omega) (by omega)) dX8_itemBehindOpener_103 ?_
            refine xcVV (pc := 104) 17 [.int 3, .int (F 11 (Int32.toNatClampNeg x))] (g_X8_fail_17 l D tA b i F G 3 (F 11 (Int32.toNatClampNeg x))) C0 hH hS clX8 rfl ⟨⟨Nat.le_of_ble_eq_true rfl, Nat.le_of_ble_eq_true rfl⟩, rfl, rfl⟩ cw_X8_145 rfl ⟨Nat.le_of_ble_eq_true rfl, Nat.le_of_ble_eq_true rfl⟩ hl.1 rfl (Nat.le_of_ble_eq_true rfl) dX8_itemBehindOpener_104 ⟨Nat.le_of_ble_eq_true rfl, Nat.le_of_ble_eq_true rfl⟩ (fun ir22 Fr22 Gr22 _ locs hp hH hS => ?_)
            cases hp
            have hH : Hd D tA b 0 78 zz (up2 (up2 i 17 4 3) 17 5 (F 11 (Int32.toNatClampNeg x))) F G _ := hH
            refine lv_bipush (pc := 107) (v := (-9)) C0.1 C0.2.1 dX8_itemBehindOpener_107 (by decide) ?_
            exact xiret (pc := 109) C0 hr hH hS dX8_itemBehindOpener_109 ⟨(On.i (On.i On.rf (by decide)) (by decide)), hT, hQ⟩
          · have : Int32.toInt 0 = 0 := rfl
            have c21 : ¬ _ := fun q => c21 (Int32.toInt_inj.mp q)
            refine lv_iload_n (pc := 88) C0.1 C0.2.1 dX8_itemBehindOpener_88 rfl (lv_at hl 3 rfl) ?_
            refine lv_aload_n (pc := 89) C0.1 C0.2.1 dX8_itemBehindOpener_89 rfl (lv_at hl 4 rfl) ?_
            refine xget (pc := 90) C0 hH 17 9 clX8 ⟨Nat.le_of_ble_eq_true rfl, Nat.le_of_ble_eq_true rfl⟩ ⟨rfl, rfl⟩ (Nat.le_of_ble_eq_true rfl) fl_X8_56 (v := .int (i 17 9)) rfl dX8_itemBehindOpener_90 ?_
            refine lv_icmp_gt (pc := 93) (tgt := 110) C0.1 C0.2.1 dX8_itemBehindOpener_93 (by decide) (fun c23 => ?_) (fun c23 => ?_)
            · have c23 := Int32.lt_iff_toInt_lt.mp c23
              refine lv_aload_n (pc := 110) C0.1 C0.2.1 dX8_itemBehindOpener_110 rfl (lv_at hl 4 rfl) ?_
              refine lv_iload (pc := 111) C0.1 C0.2.1 dX8_itemBehindOpener_111 (lv_at hl 2 rfl) ?_
              refine lv_iload (pc := 113) C0.1 C0.2.1 dX8_itemBehindOpener_113 (lv_at hl 0 rfl) ?_
              refine lv_if_eq (pc := 115) (tgt := 122) C0.1 C0.2.1 dX8_itemBehindOpener_115 (by decide) (fun c => absurd c (by decide)) (fun _ => ?_)
              refine lv_iload_n (pc := 118) C0.1 C0.2.1 dX8_itemBehindOpener_118 rfl (lv_at hl 3 rfl) ?_
              refine lv_goto (pc := 119) (tgt := 124) C0.1 C0.2.1 dX8_itemBehindOpener_119 (by decide) ?_
              refine lv_aload_n (pc := 124) C0.1 C0.2.1 dX8_itemBehindOpener_124 rfl (lv_at hl 4 rfl) ?_
              refine xget (pc := 125) C0 hH 17 0 clX8 ⟨Nat.le_of_ble_eq_true rfl, Nat.le_of_ble_eq_true rfl⟩ ⟨rfl, rfl⟩ (Nat.le_of_ble_eq_true rfl) fl_X8_12 (v := .ref (b + 18)) rfl dX8_itemBehindOpener_125 ?_
              refine xget (pc := 128) C0 hH 18 8 clX0 ⟨Nat.le_of_ble_eq_true rfl, Nat.le_of_ble_eq_true rfl⟩ ⟨rfl, rfl⟩ (Nat.le_of_ble_eq_true rfl) fl_X8_148 (v := .ref (b + 27)) rfl dX8_itemBehindOpener_128 ?_
              refine lv_iload (pc := 131) C0.1 C0.2.1 dX8_itemBehindOpener_131 (lv_at hl 1 rfl) ?_
              refine xiald (pc := 133) (N := 601) C0 hH 27 ⟨Nat.le_of_ble_eq_true rfl, Nat.le_of_ble_eq_true rfl⟩ ⟨rfl, rfl⟩ (vI (by omega) (by omega)) dX8_itemBehindOpener_133 ?_
              refine lv_aload_n (pc := 134) C0.1 C0.2.1 dX8_itemBehindOpener_134 rfl (lv_at hl 4 rfl) ?_
              refine xget (pc := 135) C0 hH 17 8 clX8 ⟨Nat.le_of_ble_eq_true rfl, Nat.le_of_ble_eq_true rfl⟩ ⟨rfl, rfl⟩ (Nat.le_of_ble_eq_true rfl) fl_X8_53 (v := .int (i 17 8)) rfl dX8_itemBehindOpener_135 ?_
              refine xcVI (pc := 138) 17 [.int x2, .int x1, .int (F 27 (Int32.toNatClampNeg r3)), .int (i 17 8)] (g_X8_beginBlock_17 l D tA b i F G x2 x1 (F 27 (Int32.toNatClampNeg r3)) (i 17 8) k hT hQ (by omega)) C0 hH hS clX8 rfl ⟨⟨Nat.le_of_ble_eq_true rfl, Nat.le_of_ble_eq_true rfl⟩, rfl, rfl⟩ cw_X8_132 rfl ⟨Nat.le_of_ble_eq_true rfl, Nat.le_of_ble_eq_true rfl⟩ hl.1 rfl (Nat.le_of_ble_eq_true rfl) dX8_itemBehindOpener_138 ⟨Nat.le_of_ble_eq_true rfl, Nat.le_of_ble_eq_true rfl⟩ (fun r24 ir24 Fr24 Gr24 _ locs hp hH hS => ?_)
              obtain ⟨honr24, hT, hQ⟩ := hp
              have hT : Tb17 ir24 Fr24 := hT
              have hQ : Pp17 k ir24 Fr24 := hQ
              have hL := Tb17.lin hT
              have ek_9_7r24 : Int32.toInt (ir24 9 7) = Int32.toInt (i 9 7) := congrArg Int32.toInt (congrFun (honr24.1 9 (by decide)).1 7)
              refine lv_istore (pc := 141) (lv' := [(7, .int r24), (6, .int 1), (5, .int r3), (4, .int x2), (3, .int x1), (0, .ref (b + 17)), (1, .ref (b + 9)), (2, .int x)]) C0.1 C0.2.1 dX8_itemBehindOpener_141 hl (by decide) rfl (fun ls hl => ?_)
              refine lv_iload (pc := 143) C0.1 C0.2.1 dX8_itemBehindOpener_143 (lv_at hl 1 rfl) ?_
              refine lv_if_ne (pc := 145) (tgt := 151) C0.1 C0.2.1 dX8_itemBehindOpener_145 (by decide) (fun _ => ?_) (fun c => absurd c (by decide))
              refine lv_aload_n (pc := 151) C0.1 C0.2.1 dX8_itemBehindOpener_151 rfl (lv_at hl 5 rfl) ?_
              refine lv_iload (pc := 152) C0.1 C0.2.1 dX8_itemBehindOpener_152 (lv_at hl 0 rfl) ?_
              refine xcVV (pc := 154) 17 [.int r24] (g_X8_pileUp_17 l D tA b ir24 Fr24 Gr24 r24 k hT hQ (by omega)) C0 hH hS clX8 rfl ⟨⟨Nat.le_of_ble_eq_true rfl, Nat.le_of_ble_eq_true rfl⟩, rfl, rfl⟩ cw_X8_63 rfl ⟨Nat.le_of_ble_eq_true rfl, Nat.le_of_ble_eq_true rfl⟩ hl.1 rfl (Nat.le_of_ble_eq_true rfl) dX8_itemBehindOpener_154 ⟨Nat.le_of_ble_eq_true rfl, Nat.le_of_ble_eq_true rfl⟩ (fun ir25 Fr25 Gr25 _ locs hp hH hS => ?_)
              obtain ⟨honr25, hT, hQ⟩ := hp
              have hT : Tb17 ir25 Fr25 := hT
              have hQ : Pp17 k ir25 Fr25 := hQ
              have hL := Tb17.lin hT
              have ek_9_7r25 : Int32.toInt (ir25 9 7) = Int32.toInt (ir24 9 7) := congrArg Int32.toInt (congrFun (honr25.1 9 (by decide)).1 7)
              refine lv_aload_n (pc := 157) C0.1 C0.2.1 dX8_itemBehindOpener_157 rfl (lv_at hl 5 rfl) ?_
              refine lv_iload (pc := 158) C0.1 C0.2.1 dX8_itemBehindOpener_158 (lv_at hl 0 rfl) ?_
              refine xcVI (pc := 160) 17 [.int r24] (g_X8_beginItem_17 l D tA b ir25 Fr25 Gr25 r24 k hT hQ (by omega)) C0 hH hS clX8 rfl ⟨⟨Nat.le_of_ble_eq_true rfl, Nat.le_of_ble_eq_true rfl⟩, rfl, rfl⟩ cw_X8_136 rfl ⟨Nat.le_of_ble_eq_true rfl, Nat.le_of_ble_eq_true rfl⟩ hl.1 rfl (Nat.le_of_ble_eq_true rfl) dX8_itemBehindOpener_160 ⟨Nat.le_of_ble_eq_true rfl, Nat.le_of_ble_eq_true rfl⟩ (fun r26 ir26 Fr26 Gr26 _ locs hp hH hS => ?_)
              obtain ⟨honr26, hT, hQ⟩ := hp
              have hT : Tb17 ir26 Fr26 := hT
              have hQ : Pp17 k ir26 Fr26 := hQ
              have hL := Tb17.lin hT
              have ek_9_7r26 : Int32.toInt (ir26 9 7) = Int32.toInt (ir25 9 7) := congrArg Int32.toInt (congrFun (honr26.1 9 (by decide)).1 7)
              exact xiret (pc := 163) C0 hr hH hS dX8_itemBehindOpener_163 ⟨(On.tr (On.tr (On.tr On.rf honr24 (by decide) (by decide)) honr25 (by decide) (by decide)) honr26 (by decide) (by decide)), hT, hQ⟩
            · have c23 : ¬ _ := fun q => c23 (Int32.lt_iff_toInt_lt.mpr q)
              refine lv_aload_n (pc := 96) C0.1 C0.2.1 dX8_itemBehindOpener_96 rfl (lv_at hl 4 rfl) ?_
              refine lv_iconst (pc := 97) (v := 3) C0.1 C0.2.1 dX8_itemBehindOpener_97 (by decide) ?_
              refine lv_aload_n (pc := 98) C0.1 C0.2.1 dX8_itemBehindOpener_98 rfl (lv_at hl 5 rfl) ?_
              refine xget (pc := 99) C0 hH 9 1 clX7 ⟨Nat.le_of_ble_eq_true rfl, Nat.le_of_ble_eq_true rfl⟩ ⟨rfl, rfl⟩ (Nat.le_of_ble_eq_true rfl) fl_X8_142 (v := .ref (b + 11)) rfl dX8_itemBehindOpener_99 ?_
              refine lv_iload_n (pc := 102) C0.1 C0.2.1 dX8_itemBehindOpener_102 rfl (lv_at hl 6 rfl) ?_
              refine xiald (pc := 103) (N := 600) C0 hH 11 ⟨Nat.le_of_ble_eq_true rfl, Nat.le_of_ble_eq_true rfl⟩ ⟨rfl, rfl⟩ (vI (by omega) (by omega)) dX8_itemBehindOpener_103 ?_
              refine xcVV (pc := 104) 17 [.int 3, .int (F 11 (Int32.toNatClampNeg x))] (g_X8_fail_17 l D tA b i F G 3 (F 11 (Int32.toNatClampNeg x))) C0 hH hS clX8 rfl ⟨⟨Nat.le_of_ble_eq_true rfl, Nat.le_of_ble_eq_true rfl⟩, rfl, rfl⟩ cw_X8_145 rfl ⟨Nat.le_of_ble_eq_true rfl, Nat.le_of_ble_eq_true rfl⟩ hl.1 rfl (Nat.le_of_ble_eq_true rfl) dX8_itemBehindOpener_104 ⟨Nat.le_of_ble_eq_true rfl, Nat.le_of_ble_eq_true rfl⟩ (fun ir27 Fr27 Gr27 _ locs hp hH hS => ?_)
              cases hp
              have hH : Hd D tA b 0 78 zz (up2 (up2 i 17 4 3) 17 5 (F 11 (Int32.toNatClampNeg x))) F G _ := hH
              refine lv_bipush (pc := 107) (v := (-9)) C0.1 C0.2.1 dX8_itemBehindOpener_107 (by decide) ?_
              exact xiret (pc := 109) C0 hr hH hS dX8_itemBehindOpener_109 ⟨(On.i (On.i On.rf (by decide)) (by decide)), hT, hQ⟩
set_option maxHeartbeats 4000000 in
set_option maxRecDepth 100000 in
theorem g_X8_take_17_9 (l : Launch) (D : va_G) (tA : Nat → ClassId) (b : Nat) (i F : Nat → Nat → Int32) (G : Nat → Nat → Int64) (x : Int32) (hT : Tb17 i F) (hQ : Pp17 x.toInt i F) (htk : 0 ≤ (i 9 7).toInt ∧ (i 9 7).toInt ≤ 600) (hx : 0 ≤ x.toInt ∧ x.toInt < (i 9 7).toInt) : xMV l yX8_take cX8_take 6 none 4 95 D tA b 0 78 i F G [.ref (b + 17), .ref (b + 9), .int x] (fun u => On 17 39 i F G u ∧ Tb17 u.1 u.2.1 ∧ Pp17 (x.toInt + 1) u.1 u.2.1) := by
  refine xstart RX8 rfl (by decide) (Nat.le_of_ble_eq_true rfl) ?_
  intro p e s m below meth c ls C0 hr hH hS hl
  have hl : lv_has ls 6 [(0, .ref (b + 17)), (1, .ref (b + 9)), (2, .int x)] := hl
  have rg_x := fb_rng x
  have hL := Tb17.lin hT
  have h601 : Int32.toInt (nI 601) = 601 := rfl
  have L178 : ∀ (d : Nat) (bk it : Int32) (iv Fv : Nat → Nat → Int32) (Gv : Nat → Nat → Int64) (H : Heap) (locs : List Loc) (ls : Array Slot), (On 17 39 i F G (iv, Fv, Gv)) → (Tb17 iv Fv) → (Pp17 (x.toInt + 1) iv Fv) → Hd D tA b 0 78 zz iv Fv Gv H → va_S (xA b 0 78) s.heap H locs → lv_has ls 6 [(4, .int it), (3, .int bk), (0, .ref (b + 17)), (1, .ref (b + 9)), (2, .int x)] → W p l e (xR 4 95) s m ([.ref (b + 17), .ref (b + 9), .int x] : List Value).toArray below meth c H locs 0 0 (MQ below (va_Qv (fun u => On 17 39 i F G u ∧ Tb17 u.1 u.2.1 ∧ Pp17 (x.toInt + 1) u.1 u.2.1) (xB D tA b 0 78 zz) (xA b 0 78)) ([.ref (b + 17), .ref (b + 9), .int x] : List Value).toArray s 0 0 (xA b 0 78)) (F0 m 178 ls []) := by
    intro d
    intro bk it iv Fv Gv H locs ls h1 h2 h3 hH hS hl
    have rg_bk := fb_rng bk
    have rg_it := fb_rng it
    have hT := h2
    have hQ := h3
    have hL := Tb17.lin hT
    have ekt : Int32.toInt (iv 9 7) = Int32.toInt (i 9 7) := congrArg Int32.toInt (congrFun (h1.1 9 (by decide)).1 7)
    refine lv_aload_n (pc := 178) C0.1 C0.2.1 dX8_take_178 rfl (lv_at hl 3 rfl) ?_
    refine xget (pc := 179) C0 hH 9 5 clX7 ⟨Nat.le_of_ble_eq_true rfl, Nat.le_of_ble_eq_true rfl⟩ ⟨rfl, rfl⟩ (Nat.le_of_ble_eq_true rfl) fl_X8_108 (v := .ref (b + 15)) rfl dX8_take_179 ?_
    refine lv_iload_n (pc := 182) C0.1 C0.2.1 dX8_take_182 rfl (lv_at hl 4 rfl) ?_
    refine xiald (pc := 183) (N := 600) C0 hH 15 ⟨Nat.le_of_ble_eq_true rfl, Nat.le_of_ble_eq_true rfl⟩ ⟨rfl, rfl⟩ (vI (by omega) (by omega)) dX8_take_183 ?_
    refine xcNI (pc := 184) [.int (Fv 15 (Int32.toNatClampNeg x))] (g_X9_isFirst l D tA b iv Fv Gv (Fv 15 (Int32.toNatClampNeg x)) ) C0 hH hS cw_X8_128 st_X9_isFirst rfl ⟨Nat.le_of_ble_eq_true rfl, Nat.le_of_ble_eq_true rfl⟩ hl.1 rfl (Nat.le_of_ble_eq_true rfl) dX8_take_184 ⟨Nat.le_of_ble_eq_true rfl, Nat.le_of_ble_eq_true rfl⟩ (fun r201 ir201 Fr201 Gr201 _ locs hp hH hS => ?_)
    obtain ⟨hu, hpr201⟩ := hp
    cases hu
    refine lv_if_eq (pc := 187) (tgt := 225) C0.1 C0.2.1 dX8_take_187 (by decide) (fun c202 => ?_) (fun c202 => ?_)
    · have : Int32.toInt 0 = 0 := rfl
      have c202 := congrArg Int32.toInt c202
      exact xvret (pc := 225) C0 hr hH hS dX8_take_225 ⟨h1, hT, hQ⟩
    · have : Int32.toInt 0 = 0 := rfl
      have c202 : ¬ _ := fun q => c202 (Int32.toInt_inj.mp q)
      refine lv_aload_n (pc := 190) C0.1 C0.2.1 dX8_take_190 rfl (lv_at hl 2 rfl) ?_
      refine lv_iconst (pc := 191) (v := 4) C0.1 C0.2.1 dX8_take_191 (by decide) ?_
      refine lv_aload_n (pc := 192) C0.1 C0.2.1 dX8_take_192 rfl (lv_at hl 2 rfl) ?_
      refine xget (pc := 193) C0 hH 17 0 clX8 ⟨Nat.le_of_ble_eq_true rfl, Nat.le_of_ble_eq_true rfl⟩ ⟨rfl, rfl⟩ (Nat.le_of_ble_eq_true rfl) fl_X8_12 (v := .ref (b + 18)) rfl dX8_take_193 ?_
      refine xget (pc := 196) C0 hH 18 1 clX0 ⟨Nat.le_of_ble_eq_true rfl, Nat.le_of_ble_eq_true rfl⟩ ⟨rfl, rfl⟩ (Nat.le_of_ble_eq_true rfl) fl_X8_131 (v := .ref (b + 20)) rfl dX8_take_196 ?_
      refine lv_aload_n (pc := 199) C0.1 C0.2.1 dX8_take_199 rfl (lv_at hl 2 rfl) ?_
      refine xcVI (pc := 200) 17 [] (g_X8_top_17 l D tA b iv Fv Gv  hT) C0 hH hS clX8 rfl ⟨⟨Nat.le_of_ble_eq_true rfl, Nat.le_of_ble_eq_true rfl⟩, rfl, rfl⟩ cw_X8_101 rfl ⟨Nat.le_of_ble_eq_true rfl, Nat.le_of_ble_eq_true rfl⟩ hl.1 rfl (Nat.le_of_ble_eq_true rfl) dX8_take_200 ⟨Nat.le_of_ble_eq_true rfl, Nat.le_of_ble_eq_true rfl⟩ (fun r203 ir203 Fr203 Gr203 _ locs hp hH hS => ?_)
      obtain ⟨hu, hpr203⟩ := hp
      cases hu
      refine xiald (pc := 203) (N := 601) C0 hH 20 ⟨Nat.le_of_ble_eq_true rfl, Nat.le_of_ble_eq_true rfl⟩ ⟨rfl, rfl⟩ (vI (by omega) (by omega)) dX8_take_203 ?_
      refine lv_iload (pc := 204) C0.1 C0.2.1 dX8_take_204 (lv_at hl 0 rfl) ?_
      refine lv_iload_n (pc := 206) C0.1 C0.2.1 dX8_take_206 rfl (lv_at hl 4 rfl) ?_
      refine xcVI (pc := 207) 17 [.int 4, .int (Fv 20 (Int32.toNatClampNeg r203)), .int it, .int x] (g_X8_beginBlock_17 l D tA b iv Fv Gv 4 (Fv 20 (Int32.toNatClampNeg r203)) it x (x.toInt + 1) hT hQ (by omega)) C0 hH hS clX8 rfl ⟨⟨Nat.le_of_ble_eq_true rfl, Nat.le_of_ble_eq_true rfl⟩, rfl, rfl⟩ cw_X8_132 rfl ⟨Nat.le_of_ble_eq_true rfl, Nat.le_of_ble_eq_true rfl⟩ hl.1 rfl (Nat.le_of_ble_eq_true rfl) dX8_take_207 ⟨Nat.le_of_ble_eq_true rfl, Nat.le_of_ble_eq_true rfl⟩ (fun r204 ir204 Fr204 Gr204 _ locs hp hH hS => ?_)
      obtain ⟨honr204, hT, hQ⟩ := hp
      have hT : Tb17 ir204 Fr204 := hT
      have hQ : Pp17 (x.toInt + 1) ir204 Fr204 := hQ
      have hL := Tb17.lin hT
      have ek_9_7r204 : Int32.toInt (ir204 9 7) = Int32.toInt (iv 9 7) := congrArg Int32.toInt (congrFun (honr204.1 9 (by decide)).1 7)
      refine lv_istore (pc := 210) (lv' := [(5, .int r204), (4, .int it), (3, .int bk), (0, .ref (b + 17)), (1, .ref (b + 9)), (2, .int x)]) C0.1 C0.2.1 dX8_take_210 hl (by decide) rfl (fun ls hl => ?_)
      refine lv_aload_n (pc := 212) C0.1 C0.2.1 dX8_take_212 rfl (lv_at hl 3 rfl) ?_
      refine lv_iload (pc := 213) C0.1 C0.2.1 dX8_take_213 (lv_at hl 0 rfl) ?_
      refine xcVV (pc := 215) 17 [.int r204] (g_X8_pileUp_17 l D tA b ir204 Fr204 Gr204 r204 (x.toInt + 1) hT hQ (by omega)) C0 hH hS clX8 rfl ⟨⟨Nat.le_of_ble_eq_true rfl, Nat.le_of_ble_eq_true rfl⟩, rfl, rfl⟩ cw_X8_63 rfl ⟨Nat.le_of_ble_eq_true rfl, Nat.le_of_ble_eq_true rfl⟩ hl.1 rfl (Nat.le_of_ble_eq_true rfl) dX8_take_215 ⟨Nat.le_of_ble_eq_true rfl, Nat.le_of_ble_eq_true rfl⟩ (fun ir205 Fr205 Gr205 _ locs hp hH hS => ?_)
      obtain ⟨honr205, hT, hQ⟩ := hp
      have hT : Tb17 ir205 Fr205 := hT
      have hQ : Pp17 (x.toInt + 1) ir205 Fr205 := hQ
      have hL := Tb17.lin hT
      have ek_9_7r205 : Int32.toInt (ir205 9 7) = Int32.toInt (ir204 9 7) := congrArg Int32.toInt (congrFun (honr205.1 9 (by decide)).1 7)
      refine lv_aload_n (pc := 218) C0.1 C0.2.1 dX8_take_218 rfl (lv_at hl 3 rfl) ?_
      refine lv_iload (pc := 219) C0.1 C0.2.1 dX8_take_219 (lv_at hl 0 rfl) ?_
      refine xcVI (pc := 221) 17 [.int r204] (g_X8_beginItem_17 l D tA b ir205 Fr205 Gr205 r204 (x.toInt + 1) hT hQ (by omega)) C0 hH hS clX8 rfl ⟨⟨Nat.le_of_ble_eq_true rfl, Nat.le_of_ble_eq_true rfl⟩, rfl, rfl⟩ cw_X8_136 rfl ⟨Nat.le_of_ble_eq_true rfl, Nat.le_of_ble_eq_true rfl⟩ hl.1 rfl (Nat.le_of_ble_eq_true rfl) dX8_take_221 ⟨Nat.le_of_ble_eq_true rfl, Nat.le_of_ble_eq_true rfl⟩ (fun r206 ir206 Fr206 Gr206 _ locs hp hH hS => ?_)
      obtain ⟨honr206, hT, hQ⟩ := hp
      have hT : Tb17 ir206 Fr206 := hT
      have hQ : Pp17 (x.toInt + 1) ir206 Fr206 := hQ
      have hL := Tb17.lin hT
      have ek_9_7r206 : Int32.toInt (ir206 9 7) = Int32.toInt (ir205 9 7) := congrArg Int32.toInt (congrFun (honr206.1 9 (by decide)).1 7)
      refine lv_pop (pc := 224) C0.1 C0.2.1 dX8_take_224 rfl ?_
      exact xvret (pc := 225) C0 hr hH hS dX8_take_225 ⟨(On.tr (On.tr (On.tr h1 honr204 (by decide) (by decide)) honr205 (by decide) (by decide)) honr206 (by decide) (by decide)), hT, hQ⟩
  have L107 : ∀ (d : Nat) (bk it : Int32) (iv Fv : Nat → Nat → Int32) (Gv : Nat → Nat → Int64) (H : Heap) (locs : List Loc) (ls : Array Slot), (On 17 39 i F G (iv, Fv, Gv)) → (Tb17 iv Fv) → (Pp17 x.toInt iv Fv) → Hd D tA b 0 78 zz iv Fv Gv H → va_S (xA b 0 78) s.heap H locs → lv_has ls 6 [(4, .int it), (3, .int bk), (0, .ref (b + 17)), (1, .ref (b + 9)), (2, .int x)] → W p l e (xR 4 95) s m ([.ref (b + 17), .ref (b + 9), .int x] : List Value).toArray below meth c H locs 0 0 (MQ below (va_Qv (fun u => On 17 39 i F G u ∧ Tb17 u.1 u.2.1 ∧ Pp17 (x.toInt + 1) u.1 u.2.1) (xB D tA b 0 78 zz) (xA b 0 78)) ([.ref (b + 17), .ref (b + 9), .int x] : List Value).toArray s 0 0 (xA b 0 78)) (F0 m 107 ls []) := by
    intro d
    intro bk it iv Fv Gv H locs ls h1 h2 h3 hH hS hl
    have rg_bk := fb_rng bk
    have rg_it := fb_rng it
    have hT := h2
    have hQ := h3
    have hL := Tb17.lin hT
    have ekt : Int32.toInt (iv 9 7) = Int32.toInt (i 9 7) := congrArg Int32.toInt (congrFun (h1.1 9 (by decide)).1 7)
    refine lv_aload_n (pc := 107) C0.1 C0.2.1 dX8_take_107 rfl (lv_at hl 2 rfl) ?_
    refine xget (pc := 108) C0 hH 17 4 clX8 ⟨Nat.le_of_ble_eq_true rfl, Nat.le_of_ble_eq_true rfl⟩ ⟨rfl, rfl⟩ (Nat.le_of_ble_eq_true rfl) fl_X8_36 (v := .int (iv 17 4)) rfl dX8_take_108 ?_
    refine lv_if_eq (pc := 111) (tgt := 115) C0.1 C0.2.1 dX8_take_111 (by decide) (fun c201 => ?_) (fun c201 => ?_)
    · have : Int32.toInt 0 = 0 := rfl
      have c201 := congrArg Int32.toInt c201
      refine lv_aload_n (pc := 115) C0.1 C0.2.1 dX8_take_115 rfl (lv_at hl 2 rfl) ?_
      refine xget (pc := 116) C0 hH 17 1 clX8 ⟨Nat.le_of_ble_eq_true rfl, Nat.le_of_ble_eq_true rfl⟩ ⟨rfl, rfl⟩ (Nat.le_of_ble_eq_true rfl) fl_X8_21 (v := .ref (b + 28)) rfl dX8_take_116 ?_
      refine lv_iload (pc := 119) C0.1 C0.2.1 dX8_take_119 (lv_at hl 0 rfl) ?_
      refine lv_iload_n (pc := 121) C0.1 C0.2.1 dX8_take_121 rfl (lv_at hl 4 rfl) ?_
      refine xcVV (pc := 122) 28 [.int it, .int x] (g_X2_hang_17 l D tA b iv Fv Gv it x hT.1.2.1 hT.1.2.2.1 hT.1.pi hT.1.pv (by omega)) C0 hH hS clX2 rfl ⟨⟨Nat.le_of_ble_eq_true rfl, Nat.le_of_ble_eq_true rfl⟩, rfl, rfl⟩ cw_X8_118 rfl ⟨Nat.le_of_ble_eq_true rfl, Nat.le_of_ble_eq_true rfl⟩ hl.1 rfl (Nat.le_of_ble_eq_true rfl) dX8_take_122 ⟨Nat.le_of_ble_eq_true rfl, Nat.le_of_ble_eq_true rfl⟩ (fun ir202 Fr202 Gr202 _ locs hp hH hS => ?_)
      obtain ⟨honr202, h5r202, hptr202, howr202, hpir202, hpvr202, hppr202⟩ := hp
      have hT : Tb17 ir202 Fr202 := Tb17.hang hT honr202 h5r202 hptr202 howr202 hpir202 hpvr202
      have hQ2 := Pp17.hangT hQ honr202 hppr202 (by omega)
      have hL := Tb17.lin hT
      have ek_9_7r202 : Int32.toInt (ir202 9 7) = Int32.toInt (iv 9 7) := congrArg Int32.toInt (congrFun (honr202.1 9 (by decide)).1 7)
      refine lv_aload_n (pc := 125) C0.1 C0.2.1 dX8_take_125 rfl (lv_at hl 2 rfl) ?_
      refine xget (pc := 126) C0 hH 17 2 clX8 ⟨Nat.le_of_ble_eq_true rfl, Nat.le_of_ble_eq_true rfl⟩ ⟨rfl, rfl⟩ (Nat.le_of_ble_eq_true rfl) fl_X8_25 (v := .ref (b + 36)) rfl dX8_take_126 ?_
      refine lv_iload_n (pc := 129) C0.1 C0.2.1 dX8_take_129 rfl (lv_at hl 4 rfl) ?_
      refine lv_iload (pc := 130) C0.1 C0.2.1 dX8_take_130 (lv_at hl 0 rfl) ?_
      refine xiast (pc := 132) (N := 600) C0 (Nat.le_of_ble_eq_true rfl) hH hS 36 ⟨Nat.le_of_ble_eq_true rfl, Nat.le_of_ble_eq_true rfl⟩ ⟨rfl, rfl⟩ (vI (by omega) (by omega)) dX8_take_132 (fun _ locs hH hS _ => ?_)
      have hH : Hd D tA b 0 78 zz ir202 (va_up Fr202 36 (upd (Fr202 36) (Int32.toNatClampNeg x) it)) Gr202 _ := hH
      refine lv_aload_n (pc := 133) C0.1 C0.2.1 dX8_take_133 rfl (lv_at hl 2 rfl) ?_
      refine xget (pc := 134) C0 hH 17 3 clX8 ⟨Nat.le_of_ble_eq_true rfl, Nat.le_of_ble_eq_true rfl⟩ ⟨rfl, rfl⟩ (Nat.le_of_ble_eq_true rfl) fl_X8_29 (v := .ref (b + 37)) rfl dX8_take_134 ?_
      refine lv_iload_n (pc := 137) C0.1 C0.2.1 dX8_take_137 rfl (lv_at hl 4 rfl) ?_
      refine xzald (pc := 138) (N := 600) C0 hH 37 ⟨Nat.le_of_ble_eq_true rfl, Nat.le_of_ble_eq_true rfl⟩ ⟨rfl, rfl⟩ (vI (by omega) (by omega)) dX8_take_138 ?_
      refine lv_if_eq (pc := 139) (tgt := 152) C0.1 C0.2.1 dX8_take_139 (by decide) (fun c203 => ?_) (fun c203 => ?_)
      · have : Int32.toInt 0 = 0 := rfl
        have c203 := congrArg Int32.toInt c203
        refine lv_aload_n (pc := 152) C0.1 C0.2.1 dX8_take_152 rfl (lv_at hl 2 rfl) ?_
        refine lv_aload_n (pc := 153) C0.1 C0.2.1 dX8_take_153 rfl (lv_at hl 3 rfl) ?_
        refine xget (pc := 154) C0 hH 9 5 clX7 ⟨Nat.le_of_ble_eq_true rfl, Nat.le_of_ble_eq_true rfl⟩ ⟨rfl, rfl⟩ (Nat.le_of_ble_eq_true rfl) fl_X8_108 (v := .ref (b + 15)) rfl dX8_take_154 ?_
        refine lv_iload_n (pc := 157) C0.1 C0.2.1 dX8_take_157 rfl (lv_at hl 4 rfl) ?_
        refine xiald (pc := 158) (N := 600) C0 hH 15 ⟨Nat.le_of_ble_eq_true rfl, Nat.le_of_ble_eq_true rfl⟩ ⟨rfl, rfl⟩ (vI (by omega) (by omega)) dX8_take_158 ?_
        refine xcNI (pc := 159) [.int (Fr202 15 (Int32.toNatClampNeg x))] (c_X9_isStepped l D tA b 0 78 ir202 (va_up Fr202 36 (upd (Fr202 36) (Int32.toNatClampNeg x) it)) Gr202 (Fr202 15 (Int32.toNatClampNeg x))) C0 hH hS cw_X8_125 st_X9_isStepped rfl ⟨Nat.le_of_ble_eq_true rfl, Nat.le_of_ble_eq_true rfl⟩ hl.1 rfl (Nat.le_of_ble_eq_true rfl) dX8_take_159 ⟨Nat.le_of_ble_eq_true rfl, Nat.le_of_ble_eq_true rfl⟩ (fun r204 ir204 Fr204 Gr204 _ locs hp hH hS => ?_)
        obtain ⟨hu, rfl⟩ := hp
        cases hu
        refine lv_if_eq (pc := 162) (tgt := 173) C0.1 C0.2.1 dX8_take_162 (by decide) (fun c205 => ?_) (fun c205 => ?_)
        · have c205 := stp_0 c205
          refine lv_bipush (pc := 173) (v := (-9)) C0.1 C0.2.1 dX8_take_173 (by decide) ?_
          refine xputI (pc := 175) C0 (Nat.le_of_ble_eq_true rfl) hH hS 17 8 clX8 ⟨Nat.le_of_ble_eq_true rfl, Nat.le_of_ble_eq_true rfl⟩ ⟨rfl, rfl⟩ ⟨Nat.le_of_ble_eq_true rfl, rfl, rfl⟩ fl_X8_53 (x := (-9)) ⟨rfl, rfl⟩ dX8_take_175 (fun _ locs hH hS _ => ?_)
          have hH : Hd D tA b 0 78 zz (up2 ir202 17 8 (-9)) (va_up Fr202 36 (upd (Fr202 36) (Int32.toNatClampNeg x) it)) Gr202 _ := hH
          exact L178 0 bk it (up2 ir202 17 8 (-9)) (va_up Fr202 36 (upd (Fr202 36) (Int32.toNatClampNeg x) it)) Gr202 _ _ _ (On.f (On.i (On.tr h1 honr202 (by decide) (by decide)) (by decide)) (by decide)) (Tb17.pend hT (show Int32.toInt (-9) = -9 ∨ _ from by first | exact Or.inl rfl | exact Or.inr ⟨by omega, by omega⟩)) hQ2 hH hS (lv_sub hl [0, 1, 2, 3, 4] rfl)
        · have c205 := stp_1 c205
          refine lv_iload_n (pc := 165) C0.1 C0.2.1 dX8_take_165 rfl (lv_at hl 1 rfl) ?_
          refine lv_if_ne (pc := 166) (tgt := 173) C0.1 C0.2.1 dX8_take_166 (by decide) (fun c206 => ?_) (fun c206 => ?_)
          · have : Int32.toInt 0 = 0 := rfl
            have c206 : ¬ _ := fun q => c206 (Int32.toInt_inj.mp q)
            refine lv_bipush (pc := 173) (v := (-9)) C0.1 C0.2.1 dX8_take_173 (by decide) ?_
            refine xputI (pc := 175) C0 (Nat.le_of_ble_eq_true rfl) hH hS 17 8 clX8 ⟨Nat.le_of_ble_eq_true rfl, Nat.le_of_ble_eq_true rfl⟩ ⟨rfl, rfl⟩ ⟨Nat.le_of_ble_eq_true rfl, rfl, rfl⟩ fl_X8_53 (x := (-9)) ⟨rfl, rfl⟩ dX8_take_175 (fun _ locs hH hS _ => ?_)
            have hH : Hd D tA b 0 78 zz (up2 ir202 17 8 (-9)) (va_up Fr202 36 (upd (Fr202 36) (Int32.toNatClampNeg x) it)) Gr202 _ := hH
            exact L178 0 bk it (up2 ir202 17 8 (-9)) (va_up Fr202 36 (upd (Fr202 36) (Int32.toNatClampNeg x) it)) Gr202 _ _ _ (On.f (On.i (On.tr h1 honr202 (by decide) (by decide)) (by decide)) (by decide)) (Tb17.pend hT (show Int32.toInt (-9) = -9 ∨ _ from by first | exact Or.inl rfl | exact Or.inr ⟨by omega, by omega⟩)) hQ2 hH hS (lv_sub hl [0, 1, 2, 3, 4] rfl)
          · have : Int32.toInt 0 = 0 := rfl
            have c206 := congrArg Int32.toInt c206
            refine lv_iload_n (pc := 169) C0.1 C0.2.1 dX8_take_169 rfl (lv_at hl 4 rfl) ?_
            refine lv_goto (pc := 170) (tgt := 175) C0.1 C0.2.1 dX8_take_170 (by decide) ?_
            refine xputI (pc := 175) C0 (Nat.le_of_ble_eq_true rfl) hH hS 17 8 clX8 ⟨Nat.le_of_ble_eq_true rfl, Nat.le_of_ble_eq_true rfl⟩ ⟨rfl, rfl⟩ ⟨Nat.le_of_ble_eq_true rfl, rfl, rfl⟩ fl_X8_53 (x := x) ⟨rfl, rfl⟩ dX8_take_175 (fun _ locs hH hS _ => ?_)
            have hH : Hd D tA b 0 78 zz (up2 ir202 17 8 x) (va_up Fr202 36 (upd (Fr202 36) (Int32.toNatClampNeg x) it)) Gr202 _ := hH
            exact L178 0 bk it (up2 ir202 17 8 x) (va_up Fr202 36 (upd (Fr202 36) (Int32.toNatClampNeg x) it)) Gr202 _ _ _ (On.f (On.i (On.tr h1 honr202 (by decide) (by decide)) (by decide)) (by decide)) (Tb17.pend hT (show Int32.toInt x = -9 ∨ _ from by first | exact Or.inl rfl | exact Or.inr ⟨by omega, by omega⟩)) hQ2 hH hS (lv_sub hl [0, 1, 2, 3, 4] rfl)
      · have : Int32.toInt 0 = 0 := rfl
        have c203 : ¬ _ := fun q => c203 (Int32.toInt_inj.mp q)
        refine lv_aload_n (pc := 142) C0.1 C0.2.1 dX8_take_142 rfl (lv_at hl 2 rfl) ?_
        refine lv_aload_n (pc := 143) C0.1 C0.2.1 dX8_take_143 rfl (lv_at hl 3 rfl) ?_
        refine xget (pc := 144) C0 hH 9 4 clX7 ⟨Nat.le_of_ble_eq_true rfl, Nat.le_of_ble_eq_true rfl⟩ ⟨rfl, rfl⟩ (Nat.le_of_ble_eq_true rfl) fl_X8_122 (v := .ref (b + 14)) rfl dX8_take_144 ?_
        refine lv_iload_n (pc := 147) C0.1 C0.2.1 dX8_take_147 rfl (lv_at hl 4 rfl) ?_
        refine xiald (pc := 148) (N := 600) C0 hH 14 ⟨Nat.le_of_ble_eq_true rfl, Nat.le_of_ble_eq_true rfl⟩ ⟨rfl, rfl⟩ (vI (by omega) (by omega)) dX8_take_148 ?_
        refine lv_topi (fun x207 ex207 => ?_)
        refine xputI (pc := 149) C0 (Nat.le_of_ble_eq_true rfl) hH hS 17 9 clX8 ⟨Nat.le_of_ble_eq_true rfl, Nat.le_of_ble_eq_true rfl⟩ ⟨rfl, rfl⟩ ⟨Nat.le_of_ble_eq_true rfl, rfl, rfl⟩ fl_X8_56 (x := x207) ⟨rfl, rfl⟩ dX8_take_149 (fun _ locs hH hS _ => ?_)
        have hH : Hd D tA b 0 78 zz (up2 ir202 17 9 x207) (va_up Fr202 36 (upd (Fr202 36) (Int32.toNatClampNeg x) it)) Gr202 _ := hH
        refine lv_aload_n (pc := 152) C0.1 C0.2.1 dX8_take_152 rfl (lv_at hl 2 rfl) ?_
        refine lv_aload_n (pc := 153) C0.1 C0.2.1 dX8_take_153 rfl (lv_at hl 3 rfl) ?_
        refine xget (pc := 154) C0 hH 9 5 clX7 ⟨Nat.le_of_ble_eq_true rfl, Nat.le_of_ble_eq_true rfl⟩ ⟨rfl, rfl⟩ (Nat.le_of_ble_eq_true rfl) fl_X8_108 (v := .ref (b + 15)) rfl dX8_take_154 ?_
        refine lv_iload_n (pc := 157) C0.1 C0.2.1 dX8_take_157 rfl (lv_at hl 4 rfl) ?_
        refine xiald (pc := 158) (N := 600) C0 hH 15 ⟨Nat.le_of_ble_eq_true rfl, Nat.le_of_ble_eq_true rfl⟩ ⟨rfl, rfl⟩ (vI (by omega) (by omega)) dX8_take_158 ?_
        refine xcNI (pc := 159) [.int (Fr202 15 (Int32.toNatClampNeg x))] (c_X9_isStepped l D tA b 0 78 (up2 ir202 17 9 x207) (va_up Fr202 36 (upd (Fr202 36) (Int32.toNatClampNeg x) it)) Gr202 (Fr202 15 (Int32.toNatClampNeg x))) C0 hH hS cw_X8_125 st_X9_isStepped rfl ⟨Nat.le_of_ble_eq_true rfl, Nat.le_of_ble_eq_true rfl⟩ hl.1 rfl (Nat.le_of_ble_eq_true rfl) dX8_take_159 ⟨Nat.le_of_ble_eq_true rfl, Nat.le_of_ble_eq_true rfl⟩ (fun r208 ir208 Fr208 Gr208 _ locs hp hH hS => ?_)
        obtain ⟨hu, rfl⟩ := hp
        cases hu
        refine lv_if_eq (pc := 162) (tgt := 173) C0.1 C0.2.1 dX8_take_162 (by decide) (fun c209 => ?_) (fun c209 => ?_)
        · have c209 := stp_0 c209
          refine lv_bipush (pc := 173) (v := (-9)) C0.1 C0.2.1 dX8_take_173 (by decide) ?_
          refine xputI (pc := 175) C0 (Nat.le_of_ble_eq_true rfl) hH hS 17 8 clX8 ⟨Nat.le_of_ble_eq_true rfl, Nat.le_of_ble_eq_true rfl⟩ ⟨rfl, rfl⟩ ⟨Nat.le_of_ble_eq_true rfl, rfl, rfl⟩ fl_X8_53 (x := (-9)) ⟨rfl, rfl⟩ dX8_take_175 (fun _ locs hH hS _ => ?_)
          have hH : Hd D tA b 0 78 zz (up2 (up2 ir202 17 9 x207) 17 8 (-9)) (va_up Fr202 36 (upd (Fr202 36) (Int32.toNatClampNeg x) it)) Gr202 _ := hH
          exact L178 0 bk it (up2 (up2 ir202 17 9 x207) 17 8 (-9)) (va_up Fr202 36 (upd (Fr202 36) (Int32.toNatClampNeg x) it)) Gr202 _ _ _ (On.f (On.i (On.i (On.tr h1 honr202 (by decide) (by decide)) (by decide)) (by decide)) (by decide)) (Tb17.pend hT (show Int32.toInt (-9) = -9 ∨ _ from by first | exact Or.inl rfl | exact Or.inr ⟨by omega, by omega⟩)) hQ2 hH hS (lv_sub hl [0, 1, 2, 3, 4] rfl)
        · have c209 := stp_1 c209
          refine lv_iload_n (pc := 165) C0.1 C0.2.1 dX8_take_165 rfl (lv_at hl 1 rfl) ?_
          refine lv_if_ne (pc := 166) (tgt := 173) C0.1 C0.2.1 dX8_take_166 (by decide) (fun c210 => ?_) (fun c210 => ?_)
          · have : Int32.toInt 0 = 0 := rfl
            have c210 : ¬ _ := fun q => c210 (Int32.toInt_inj.mp q)
            refine lv_bipush (pc := 173) (v := (-9)) C0.1 C0.2.1 dX8_take_173 (by decide) ?_
            refine xputI (pc := 175) C0 (Nat.le_of_ble_eq_true rfl) hH hS 17 8 clX8 ⟨Nat.le_of_ble_eq_true rfl, Nat.le_of_ble_eq_true rfl⟩ ⟨rfl, rfl⟩ ⟨Nat.le_of_ble_eq_true rfl, rfl, rfl⟩ fl_X8_53 (x := (-9)) ⟨rfl, rfl⟩ dX8_take_175 (fun _ locs hH hS _ => ?_)
            have hH : Hd D tA b 0 78 zz (up2 (up2 ir202 17 9 x207) 17 8 (-9)) (va_up Fr202 36 (upd (Fr202 36) (Int32.toNatClampNeg x) it)) Gr202 _ := hH
            exact L178 0 bk it (up2 (up2 ir202 17 9 x207) 17 8 (-9)) (va_up Fr202 36 (upd (Fr202 36) (Int32.toNatClampNeg x) it)) Gr202 _ _ _ (On.f (On.i (On.i (On.tr h1 honr202 (by decide) (by decide)) (by decide)) (by decide)) (by decide)) (Tb17.pend hT (show Int32.toInt (-9) = -9 ∨ _ from by first | exact Or.inl rfl | exact Or.inr ⟨by omega, by omega⟩)) hQ2 hH hS (lv_sub hl [0, 1, 2, 3, 4] rfl)
          · have : Int32.toInt 0 = 0 := rfl
            have c210 := congrArg Int32.toInt c210
            refine lv_iload_n (pc := 169) C0.1 C0.2.1 dX8_take_169 rfl (lv_at hl 4 rfl) ?_
            refine lv_goto (pc := 170) (tgt := 175) C0.1 C0.2.1 dX8_take_170 (by decide) ?_
            refine xputI (pc := 175) C0 (Nat.le_of_ble_eq_true rfl) hH hS 17 8 clX8 ⟨Nat.le_of_ble_eq_true rfl, Nat.le_of_ble_eq_true rfl⟩ ⟨rfl, rfl⟩ ⟨Nat.le_of_ble_eq_true rfl, rfl, rfl⟩ fl_X8_53 (x := x) ⟨rfl, rfl⟩ dX8_take_175 (fun _ locs hH hS _ => ?_)
            have hH : Hd D tA b 0 78 zz (up2 (up2 ir202 17 9 x207) 17 8 x) (va_up Fr202 36 (upd (Fr202 36) (Int32.toNatClampNeg x) it)) Gr202 _ := hH
            exact L178 0 bk it (up2 (up2 ir202 17 9 x207) 17 8 x) (va_up Fr202 36 (upd (Fr202 36) (Int32.toNatClampNeg x) it)) Gr202 _ _ _ (On.f (On.i (On.i (On.tr h1 honr202 (by decide) (by decide)) (by decide)) (by decide)) (by decide)) (Tb17.pend hT (show Int32.toInt x = -9 ∨ _ from by first | exact Or.inl rfl | exact Or.inr ⟨by omega, by omega⟩)) hQ2 hH hS (lv_sub hl [0, 1, 2, 3, 4] rfl)
    · have : Int32.toInt 0 = 0 := rfl
      have c201 : ¬ _ := fun q => c201 (Int32.toInt_inj.mp q)
      exact xvret (pc := 114) C0 hr hH hS dX8_take_114 ⟨h1, hT, Pp17.mono hQ (by omega)⟩
  have L63 : ∀ (d : Nat) (bk : Int32) (iv Fv : Nat → Nat → Int32) (Gv : Nat → Nat → Int64) (H : Heap) (locs : List Loc) (ls : Array Slot), (On 17 39 i F G (iv, Fv, Gv)) → (Tb17 iv Fv) → (Pp17 x.toInt iv Fv) → Hd D tA b 0 78 zz iv Fv Gv H → va_S (xA b 0 78) s.heap H locs → lv_has ls 6 [(3, .int bk), (0, .ref (b + 17)), (1, .ref (b + 9)), (2, .int x)] → W p l e (xR 4 95) s m ([.ref (b + 17), .ref (b + 9), .int x] : List Value).toArray below meth c H locs 0 0 (MQ below (va_Qv (fun u => On 17 39 i F G u ∧ Tb17 u.1 u.2.1 ∧ Pp17 (x.toInt + 1) u.1 u.2.1) (xB D tA b 0 78 zz) (xA b 0 78)) ([.ref (b + 17), .ref (b + 9), .int x] : List Value).toArray s 0 0 (xA b 0 78)) (F0 m 63 ls []) := by
    intro d
    intro bk iv Fv Gv H locs ls h1 h2 h3 hH hS hl
    have rg_bk := fb_rng bk
    have hT := h2
    have hQ := h3
    have hL := Tb17.lin hT
    have ekt : Int32.toInt (iv 9 7) = Int32.toInt (i 9 7) := congrArg Int32.toInt (congrFun (h1.1 9 (by decide)).1 7)
    refine lv_aload_n (pc := 63) C0.1 C0.2.1 dX8_take_63 rfl (lv_at hl 1 rfl) ?_
    refine xget (pc := 64) C0 hH 17 8 clX8 ⟨Nat.le_of_ble_eq_true rfl, Nat.le_of_ble_eq_true rfl⟩ ⟨rfl, rfl⟩ (Nat.le_of_ble_eq_true rfl) fl_X8_53 (v := .int (iv 17 8)) rfl dX8_take_64 ?_
    refine lv_bipush (pc := 67) (v := (-9)) C0.1 C0.2.1 dX8_take_67 (by decide) ?_
    refine lv_icmp_ne (pc := 69) (tgt := 77) C0.1 C0.2.1 dX8_take_69 (by decide) (fun c201 => ?_) (fun c201 => ?_)
    · have : Int32.toInt (-9) = (-9) := rfl
      have c201 : ¬ _ := fun q => c201 (Int32.toInt_inj.mp q)
      refine lv_aload_n (pc := 77) C0.1 C0.2.1 dX8_take_77 rfl (lv_at hl 1 rfl) ?_
      refine lv_aload_n (pc := 78) C0.1 C0.2.1 dX8_take_78 rfl (lv_at hl 2 rfl) ?_
      refine lv_iload_n (pc := 79) C0.1 C0.2.1 dX8_take_79 rfl (lv_at hl 3 rfl) ?_
      refine xcVI (pc := 80) 17 [.ref (b + 9), .int x] (g_X8_itemBehindOpener_17_9 l D tA b iv Fv Gv x x.toInt hT hQ (by omega) (show 0 ≤ Int32.toInt (iv 9 7) ∧ Int32.toInt (iv 9 7) ≤ 600 from by omega) (show 0 ≤ Int32.toInt x ∧ Int32.toInt x < Int32.toInt (iv 9 7) from by omega) (show ¬ Int32.toInt (iv 17 8) = -9 from by omega)) C0 hH hS clX8 rfl ⟨⟨Nat.le_of_ble_eq_true rfl, Nat.le_of_ble_eq_true rfl⟩, rfl, rfl⟩ cw_X8_111 rfl ⟨Nat.le_of_ble_eq_true rfl, Nat.le_of_ble_eq_true rfl⟩ hl.1 rfl (Nat.le_of_ble_eq_true rfl) dX8_take_80 ⟨Nat.le_of_ble_eq_true rfl, Nat.le_of_ble_eq_true rfl⟩ (fun r202 ir202 Fr202 Gr202 _ locs hp hH hS => ?_)
      obtain ⟨honr202, hT, hQ⟩ := hp
      have hT : Tb17 ir202 Fr202 := hT
      have hQ : Pp17 x.toInt ir202 Fr202 := hQ
      have hL := Tb17.lin hT
      have ek_9_7r202 : Int32.toInt (ir202 9 7) = Int32.toInt (iv 9 7) := congrArg Int32.toInt (congrFun (honr202.1 9 (by decide)).1 7)
      refine lv_istore (pc := 83) (lv' := [(4, .int r202), (3, .int bk), (0, .ref (b + 17)), (1, .ref (b + 9)), (2, .int x)]) C0.1 C0.2.1 dX8_take_83 hl (by decide) rfl (fun ls hl => ?_)
      refine lv_iload (pc := 85) C0.1 C0.2.1 dX8_take_85 (lv_at hl 0 rfl) ?_
      refine lv_bipush (pc := 87) (v := (-9)) C0.1 C0.2.1 dX8_take_87 (by decide) ?_
      refine lv_icmp_ne (pc := 89) (tgt := 107) C0.1 C0.2.1 dX8_take_89 (by decide) (fun c203 => ?_) (fun c203 => ?_)
      · have : Int32.toInt (-9) = (-9) := rfl
        have c203 : ¬ _ := fun q => c203 (Int32.toInt_inj.mp q)
        exact L107 0 bk r202 ir202 Fr202 Gr202 _ _ _ (On.tr h1 honr202 (by decide) (by decide)) hT hQ hH hS (lv_sub hl [0, 1, 2, 3, 4] rfl)
      · have : Int32.toInt (-9) = (-9) := rfl
        have c203 := congrArg Int32.toInt c203
        refine lv_aload_n (pc := 92) C0.1 C0.2.1 dX8_take_92 rfl (lv_at hl 2 rfl) ?_
        refine xget (pc := 93) C0 hH 17 4 clX8 ⟨Nat.le_of_ble_eq_true rfl, Nat.le_of_ble_eq_true rfl⟩ ⟨rfl, rfl⟩ (Nat.le_of_ble_eq_true rfl) fl_X8_36 (v := .int (ir202 17 4)) rfl dX8_take_93 ?_
        refine lv_if_ne (pc := 96) (tgt := 107) C0.1 C0.2.1 dX8_take_96 (by decide) (fun c204 => ?_) (fun c204 => ?_)
        · have : Int32.toInt 0 = 0 := rfl
          have c204 : ¬ _ := fun q => c204 (Int32.toInt_inj.mp q)
          exact L107 0 bk r202 ir202 Fr202 Gr202 _ _ _ (On.tr h1 honr202 (by decide) (by decide)) hT hQ hH hS (lv_sub hl [0, 1, 2, 3, 4] rfl)
        · have : Int32.toInt 0 = 0 := rfl
          have c204 := congrArg Int32.toInt c204
          refine lv_aload_n (pc := 99) C0.1 C0.2.1 dX8_take_99 rfl (lv_at hl 2 rfl) ?_
          refine lv_aload_n (pc := 100) C0.1 C0.2.1 dX8_take_100 rfl (lv_at hl 3 rfl) ?_
          refine lv_iload_n (pc := 101) C0.1 C0.2.1 dX8_take_101 rfl (lv_at hl 4 rfl) ?_
          refine xcVI (pc := 102) 17 [.ref (b + 9), .int x] (g_X8_itemElsewhere_17_9 l D tA b ir202 Fr202 Gr202 x x.toInt hT hQ (by omega) (show 0 ≤ Int32.toInt (ir202 9 7) ∧ Int32.toInt (ir202 9 7) ≤ 600 from by omega) (show 0 ≤ Int32.toInt x ∧ Int32.toInt x < Int32.toInt (ir202 9 7) from by omega)) C0 hH hS clX8 rfl ⟨⟨Nat.le_of_ble_eq_true rfl, Nat.le_of_ble_eq_true rfl⟩, rfl, rfl⟩ cw_X8_115 rfl ⟨Nat.le_of_ble_eq_true rfl, Nat.le_of_ble_eq_true rfl⟩ hl.1 rfl (Nat.le_of_ble_eq_true rfl) dX8_take_102 ⟨Nat.le_of_ble_eq_true rfl, Nat.le_of_ble_eq_true rfl⟩ (fun r205 ir205 Fr205 Gr205 _ locs hp hH hS => ?_)
          obtain ⟨honr205, hT, hQ⟩ := hp
          have hT : Tb17 ir205 Fr205 := hT
          have hQ : Pp17 x.toInt ir205 Fr205 := hQ
          have hL := Tb17.lin hT
          have ek_9_7r205 : Int32.toInt (ir205 9 7) = Int32.toInt (ir202 9 7) := congrArg Int32.toInt (congrFun (honr205.1 9 (by decide)).1 7)
          refine lv_istore (pc := 105) (lv' := [(4, .int r205), (3, .int bk), (0, .ref (b + 17)), (1, .ref (b + 9)), (2, .int x)]) C0.1 C0.2.1 dX8_take_105 hl (by decide) rfl (fun ls hl => ?_)
          exact L107 0 bk r205 ir205 Fr205 Gr205 _ _ _ (On.tr (On.tr h1 honr202 (by decide) (by decide)) honr205 (by decide) (by decide)) hT hQ hH hS (lv_sub hl [0, 1, 2, 3, 4] rfl)
    · have : Int32.toInt (-9) = (-9) := rfl
      have c201 := congrArg Int32.toInt c201
      refine lv_bipush (pc := 72) (v := (-9)) C0.1 C0.2.1 dX8_take_72 (by decide) ?_
      refine lv_goto (pc := 74) (tgt := 83) C0.1 C0.2.1 dX8_take_74 (by decide) ?_
      refine lv_istore (pc := 83) (lv' := [(4, .int (-9)), (3, .int bk), (0, .ref (b + 17)), (1, .ref (b + 9)), (2, .int x)]) C0.1 C0.2.1 dX8_take_83 hl (by decide) rfl (fun ls hl => ?_)
      refine lv_iload (pc := 85) C0.1 C0.2.1 dX8_take_85 (lv_at hl 0 rfl) ?_
      refine lv_bipush (pc := 87) (v := (-9)) C0.1 C0.2.1 dX8_take_87 (by decide) ?_
      refine lv_icmp_ne (pc := 89) (tgt := 107) C0.1 C0.2.1 dX8_take_89 (by decide) (fun c => absurd (by decide) c) (fun _ => ?_)
      refine lv_aload_n (pc := 92) C0.1 C0.2.1 dX8_take_92 rfl (lv_at hl 2 rfl) ?_
      refine xget (pc := 93) C0 hH 17 4 clX8 ⟨Nat.le_of_ble_eq_true rfl, Nat.le_of_ble_eq_true rfl⟩ ⟨rfl, rfl⟩ (Nat.le_of_ble_eq_true rfl) fl_X8_36 (v := .int (iv 17 4)) rfl dX8_take_93 ?_
      refine lv_if_ne (pc := 96) (tgt := 107) C0.1 C0.2.1 dX8_take_96 (by decide) (fun c206 => ?_) (fun c206 => ?_)
      · have : Int32.toInt 0 = 0 := rfl
        have c206 : ¬ _ := fun q => c206 (Int32.toInt_inj.mp q)
        exact L107 0 bk (-9) iv Fv Gv _ _ _ h1 hT hQ hH hS (lv_sub hl [0, 1, 2, 3, 4] rfl)
      · have : Int32.toInt 0 = 0 := rfl
        have c206 := congrArg Int32.toInt c206
        refine lv_aload_n (pc := 99) C0.1 C0.2.1 dX8_take_99 rfl (lv_at hl 2 rfl) ?_
        refine lv_aload_n (pc := 100) C0.1 C0.2.1 dX8_take_100 rfl (lv_at hl 3 rfl) ?_
        refine lv_iload_n (pc := 101) C0.1 C0.2.1 dX8_take_101 rfl (lv_at hl 4 rfl) ?_
        refine xcVI (pc := 102) 17 [.ref (b + 9), .int x] (g_X8_itemElsewhere_17_9 l D tA b iv Fv Gv x x.toInt hT hQ (by omega) (show 0 ≤ Int32.toInt (iv 9 7) ∧ Int32.toInt (iv 9 7) ≤ 600 from by omega) (show 0 ≤ Int32.toInt x ∧ Int32.toInt x < Int32.toInt (iv 9 7) from by omega)) C0 hH hS clX8 rfl ⟨⟨Nat.le_of_ble_eq_true rfl, Nat.le_of_ble_eq_true rfl⟩, rfl, rfl⟩ cw_X8_115 rfl ⟨Nat.le_of_ble_eq_true rfl, Nat.le_of_ble_eq_true rfl⟩ hl.1 rfl (Nat.le_of_ble_eq_true rfl) dX8_take_102 ⟨Nat.le_of_ble_eq_true rfl, Nat.le_of_ble_eq_true rfl⟩ (fun r207 ir207 Fr207 Gr207 _ locs hp hH hS => ?_)
        obtain ⟨honr207, hT, hQ⟩ := hp
        have hT : Tb17 ir207 Fr207 := hT
        have hQ : Pp17 x.toInt ir207 Fr207 := hQ
        have hL := Tb17.lin hT
        have ek_9_7r207 : Int32.toInt (ir207 9 7) = Int32.toInt (iv 9 7) := congrArg Int32.toInt (congrFun (honr207.1 9 (by decide)).1 7)
        refine lv_istore (pc := 105) (lv' := [(4, .int r207), (3, .int bk), (0, .ref (b + 17)), (1, .ref (b + 9)), (2, .int x)]) C0.1 C0.2.1 dX8_take_105 hl (by decide) rfl (fun ls hl => ?_)
        exact L107 0 bk r207 ir207 Fr207 Gr207 _ _ _ (On.tr h1 honr207 (by decide) (by decide)) hT hQ hH hS (lv_sub hl [0, 1, 2, 3, 4] rfl)
  refine lv_aload_n (pc := 0) C0.1 C0.2.1 dX8_take_0 rfl (lv_at hl 0 rfl) ?_
  refine xget (pc := 1) C0 hH 17 0 clX8 ⟨Nat.le_of_ble_eq_true rfl, Nat.le_of_ble_eq_true rfl⟩ ⟨rfl, rfl⟩ (Nat.le_of_ble_eq_true rfl) fl_X8_12 (v := .ref (b + 18)) rfl dX8_take_1 ?_
  refine xget (pc := 4) C0 hH 18 0 clX0 ⟨Nat.le_of_ble_eq_true rfl, Nat.le_of_ble_eq_true rfl⟩ ⟨rfl, rfl⟩ (Nat.le_of_ble_eq_true rfl) fl_X8_98 (v := .ref (b + 19)) rfl dX8_take_4 ?_
  refine lv_aload_n (pc := 7) C0.1 C0.2.1 dX8_take_7 rfl (lv_at hl 0 rfl) ?_
  refine xcVI (pc := 8) 17 [] (g_X8_top_17 l D tA b i F G  hT) C0 hH hS clX8 rfl ⟨⟨Nat.le_of_ble_eq_true rfl, Nat.le_of_ble_eq_true rfl⟩, rfl, rfl⟩ cw_X8_101 rfl ⟨Nat.le_of_ble_eq_true rfl, Nat.le_of_ble_eq_true rfl⟩ hl.1 rfl (Nat.le_of_ble_eq_true rfl) dX8_take_8 ⟨Nat.le_of_ble_eq_true rfl, Nat.le_of_ble_eq_true rfl⟩ (fun r1 ir1 Fr1 Gr1 _ locs hp hH hS => ?_)
  obtain ⟨hu, hpr1⟩ := hp
  cases hu
  refine xiald (pc := 11) (N := 601) C0 hH 19 ⟨Nat.le_of_ble_eq_true rfl, Nat.le_of_ble_eq_true rfl⟩ ⟨rfl, rfl⟩ (vI (by omega) (by omega)) dX8_take_11 ?_
  refine lv_iconst (pc := 12) (v := 4) C0.1 C0.2.1 dX8_take_12 (by decide) ?_
  refine lv_icmp_ne (pc := 13) (tgt := 20) C0.1 C0.2.1 dX8_take_13 (by decide) (fun c2 => ?_) (fun c2 => ?_)
  · have : Int32.toInt 4 = 4 := rfl
    have c2 : ¬ _ := fun q => c2 (Int32.toInt_inj.mp q)
    refine lv_iconst (pc := 20) (v := 0) C0.1 C0.2.1 dX8_take_20 (by decide) ?_
    refine lv_istore_n (pc := 21) (lv' := [(3, .int 0), (0, .ref (b + 17)), (1, .ref (b + 9)), (2, .int x)]) C0.1 C0.2.1 dX8_take_21 rfl hl (by decide) rfl (fun ls hl => ?_)
    refine lv_aload_n (pc := 22) C0.1 C0.2.1 dX8_take_22 rfl (lv_at hl 1 rfl) ?_
    refine xget (pc := 23) C0 hH 17 3 clX8 ⟨Nat.le_of_ble_eq_true rfl, Nat.le_of_ble_eq_true rfl⟩ ⟨rfl, rfl⟩ (Nat.le_of_ble_eq_true rfl) fl_X8_29 (v := .ref (b + 37)) rfl dX8_take_23 ?_
    refine lv_iload_n (pc := 26) C0.1 C0.2.1 dX8_take_26 rfl (lv_at hl 3 rfl) ?_
    refine lv_aload_n (pc := 27) C0.1 C0.2.1 dX8_take_27 rfl (lv_at hl 2 rfl) ?_
    refine xget (pc := 28) C0 hH 9 6 clX7 ⟨Nat.le_of_ble_eq_true rfl, Nat.le_of_ble_eq_true rfl⟩ ⟨rfl, rfl⟩ (Nat.le_of_ble_eq_true rfl) fl_X8_105 (v := .ref (b + 16)) rfl dX8_take_28 ?_
    refine lv_iload_n (pc := 31) C0.1 C0.2.1 dX8_take_31 rfl (lv_at hl 3 rfl) ?_
    refine xzald (pc := 32) (N := 600) C0 hH 16 ⟨Nat.le_of_ble_eq_true rfl, Nat.le_of_ble_eq_true rfl⟩ ⟨rfl, rfl⟩ (vI (by omega) (by omega)) dX8_take_32 ?_
    refine lv_if_eq (pc := 33) (tgt := 61) C0.1 C0.2.1 dX8_take_33 (by decide) (fun c3 => ?_) (fun c3 => ?_)
    · have : Int32.toInt 0 = 0 := rfl
      have c3 := congrArg Int32.toInt c3
      refine lv_iconst (pc := 61) (v := 0) C0.1 C0.2.1 dX8_take_61 (by decide) ?_
      refine xzast (pc := 62) (N := 600) C0 (Nat.le_of_ble_eq_true rfl) hH hS 37 ⟨Nat.le_of_ble_eq_true rfl, Nat.le_of_ble_eq_true rfl⟩ ⟨rfl, rfl⟩ (by decide) (vI (by omega) (by omega)) dX8_take_62 (fun _ locs hH hS => ?_)
      have hH : Hd D tA b 0 78 zz i (va_up F 37 (upd (F 37) (Int32.toNatClampNeg x) 0)) G _ := hH
      exact L63 0 0 i (va_up F 37 (upd (F 37) (Int32.toNatClampNeg x) 0)) G _ _ _ (On.f On.rf (by decide)) hT hQ hH hS (lv_sub hl [0, 1, 2, 3] rfl)
    · have : Int32.toInt 0 = 0 := rfl
      have c3 : ¬ _ := fun q => c3 (Int32.toInt_inj.mp q)
      refine lv_iload_n (pc := 36) C0.1 C0.2.1 dX8_take_36 rfl (lv_at hl 0 rfl) ?_
      refine lv_if_ne (pc := 37) (tgt := 61) C0.1 C0.2.1 dX8_take_37 (by decide) (fun c => absurd (by decide) c) (fun _ => ?_)
      refine lv_iload_n (pc := 40) C0.1 C0.2.1 dX8_take_40 rfl (lv_at hl 3 rfl) ?_
      refine lv_if_eq (pc := 41) (tgt := 57) C0.1 C0.2.1 dX8_take_41 (by decide) (fun c4 => ?_) (fun c4 => ?_)
      · have : Int32.toInt 0 = 0 := rfl
        have c4 := congrArg Int32.toInt c4
        refine lv_iconst (pc := 57) (v := 1) C0.1 C0.2.1 dX8_take_57 (by decide) ?_
        refine lv_goto (pc := 58) (tgt := 62) C0.1 C0.2.1 dX8_take_58 (by decide) ?_
        refine xzast (pc := 62) (N := 600) C0 (Nat.le_of_ble_eq_true rfl) hH hS 37 ⟨Nat.le_of_ble_eq_true rfl, Nat.le_of_ble_eq_true rfl⟩ ⟨rfl, rfl⟩ (by decide) (vI (by omega) (by omega)) dX8_take_62 (fun _ locs hH hS => ?_)
        have hH : Hd D tA b 0 78 zz i (va_up F 37 (upd (F 37) (Int32.toNatClampNeg x) 1)) G _ := hH
        exact L63 0 0 i (va_up F 37 (upd (F 37) (Int32.toNatClampNeg x) 1)) G _ _ _ (On.f On.rf (by decide)) hT hQ hH hS (lv_sub hl [0, 1, 2, 3] rfl)
      · have : Int32.toInt 0 = 0 := rfl
        have c4 : ¬ _ := fun q => c4 (Int32.toInt_inj.mp q)
        refine lv_aload_n (pc := 44) C0.1 C0.2.1 dX8_take_44 rfl (lv_at hl 2 rfl) ?_
        refine xget (pc := 45) C0 hH 9 5 clX7 ⟨Nat.le_of_ble_eq_true rfl, Nat.le_of_ble_eq_true rfl⟩ ⟨rfl, rfl⟩ (Nat.le_of_ble_eq_true rfl) fl_X8_108 (v := .ref (b + 15)) rfl dX8_take_45 ?_
        refine lv_iload_n (pc := 48) C0.1 C0.2.1 dX8_take_48 rfl (lv_at hl 3 rfl) ?_
        refine lv_iconst (pc := 49) (v := 1) C0.1 C0.2.1 dX8_take_49 (by decide) ?_
        have : Int32.toInt 1 = 1 := rfl
        refine lv_isub (pc := 50) C0.1 C0.2.1 dX8_take_50 ?_
        refine lv_topi (fun x5 ex5 => ?_)
        have hx5 : Int32.toInt x5 = Int32.toInt x - Int32.toInt 1 := by rw [ex5]; exact fb_subI (by omega) (by omega)
        refine xiald (pc := 51) (N := 600) C0 hH 15 ⟨Nat.le_of_ble_eq_true rfl, Nat.le_of_ble_eq_true rfl⟩ ⟨rfl, rfl⟩ (vI (by omega) (by omega)) dX8_take_51 ?_
        refine lv_bipush (pc := 52) (v := 7) C0.1 C0.2.1 dX8_take_52 (by decide) ?_
        refine lv_icmp_eq (pc := 54) (tgt := 61) C0.1 C0.2.1 dX8_take_54 (by decide) (fun c6 => ?_) (fun c6 => ?_)
        · have : Int32.toInt 7 = 7 := rfl
          have c6 := congrArg Int32.toInt c6
          refine lv_iconst (pc := 61) (v := 0) C0.1 C0.2.1 dX8_take_61 (by decide) ?_
          refine xzast (pc := 62) (N := 600) C0 (Nat.le_of_ble_eq_true rfl) hH hS 37 ⟨Nat.le_of_ble_eq_true rfl, Nat.le_of_ble_eq_true rfl⟩ ⟨rfl, rfl⟩ (by decide) (vI (by omega) (by omega)) dX8_take_62 (fun _ locs hH hS => ?_)
          have hH : Hd D tA b 0 78 zz i (va_up F 37 (upd (F 37) (Int32.toNatClampNeg x) 0)) G _ := hH
          exact L63 0 0 i (va_up F 37 (upd (F 37) (Int32.toNatClampNeg x) 0)) G _ _ _ (On.f On.rf (by decide)) hT hQ hH hS (lv_sub hl [0, 1, 2, 3] rfl)
        · have : Int32.toInt 7 = 7 := rfl
          have c6 : ¬ _ := fun q => c6 (Int32.toInt_inj.mp q)
          refine lv_iconst (pc := 57) (v := 1) C0.1 C0.2.1 dX8_take_57 (by decide) ?_
          refine lv_goto (pc := 58) (tgt := 62) C0.1 C0.2.1 dX8_take_58 (by decide) ?_
          refine xzast (pc := 62) (N := 600) C0 (Nat.le_of_ble_eq_true rfl) hH hS 37 ⟨Nat.le_of_ble_eq_true rfl, Nat.le_of_ble_eq_true rfl⟩ ⟨rfl, rfl⟩ (by decide) (vI (by omega) (by omega)) dX8_take_62 (fun _ locs hH hS => ?_)
          have hH : Hd D tA b 0 78 zz i (va_up F 37 (upd (F 37) (Int32.toNatClampNeg x) 1)) G _ := hH
          exact L63 0 0 i (va_up F 37 (upd (F 37) (Int32.toNatClampNeg x) 1)) G _ _ _ (On.f On.rf (by decide)) hT hQ hH hS (lv_sub hl [0, 1, 2, 3] rfl)
  · have : Int32.toInt 4 = 4 := rfl
    have c2 := congrArg Int32.toInt c2
    refine lv_iconst (pc := 16) (v := 1) C0.1 C0.2.1 dX8_take_16 (by decide) ?_
    refine lv_goto (pc := 17) (tgt := 21) C0.1 C0.2.1 dX8_take_17 (by decide) ?_
    refine lv_istore_n (pc := 21) (lv' := [(3, .int 1), (0, .ref (b + 17)), (1, .ref (b + 9)), (2, .int x)]) C0.1 C0.2.1 dX8_take_21 rfl hl (by decide) rfl (fun ls hl => ?_)
    refine lv_aload_n (pc := 22) C0.1 C0.2.1 dX8_take_22 rfl (lv_at hl 1 rfl) ?_
    refine xget (pc := 23) C0 hH 17 3 clX8 ⟨Nat.le_of_ble_eq_true rfl, Nat.le_of_ble_eq_true rfl⟩ ⟨rfl, rfl⟩ (Nat.le_of_ble_eq_true rfl) fl_X8_29 (v := .ref (b + 37)) rfl dX8_take_23 ?_
    refine lv_iload_n (pc := 26) C0.1 C0.2.1 dX8_take_26 rfl (lv_at hl 3 rfl) ?_
    refine lv_aload_n (pc := 27) C0.1 C0.2.1 dX8_take_27 rfl (lv_at hl 2 rfl) ?_
    refine xget (pc := 28) C0 hH 9 6 clX7 ⟨Nat.le_of_ble_eq_true rfl, Nat.le_of_ble_eq_true rfl⟩ ⟨rfl, rfl⟩ (Nat.le_of_ble_eq_true rfl) fl_X8_105 (v := .ref (b + 16)) rfl dX8_take_28 ?_
    refine lv_iload_n (pc := 31) C0.1 C0.2.1 dX8_take_31 rfl (lv_at hl 3 rfl) ?_
    refine xzald (pc := 32) (N := 600) C0 hH 16 ⟨Nat.le_of_ble_eq_true rfl, Nat.le_of_ble_eq_true rfl⟩ ⟨rfl, rfl⟩ (vI (by omega) (by omega)) dX8_take_32 ?_
    refine lv_if_eq (pc := 33) (tgt := 61) C0.1 C0.2.1 dX8_take_33 (by decide) (fun c7 => ?_) (fun c7 => ?_)
    · have : Int32.toInt 0 = 0 := rfl
      have c7 := congrArg Int32.toInt c7
      refine lv_iconst (pc := 61) (v := 0) C0.1 C0.2.1 dX8_take_61 (by decide) ?_
      refine xzast (pc := 62) (N := 600) C0 (Nat.le_of_ble_eq_true rfl) hH hS 37 ⟨Nat.le_of_ble_eq_true rfl, Nat.le_of_ble_eq_true rfl⟩ ⟨rfl, rfl⟩ (by decide) (vI (by omega) (by omega)) dX8_take_62 (fun _ locs hH hS => ?_)
      have hH : Hd D tA b 0 78 zz i (va_up F 37 (upd (F 37) (Int32.toNatClampNeg x) 0)) G _ := hH
      exact L63 0 1 i (va_up F 37 (upd (F 37) (Int32.toNatClampNeg x) 0)) G _ _ _ (On.f On.rf (by decide)) hT hQ hH hS (lv_sub hl [0, 1, 2, 3] rfl)
    · have : Int32.toInt 0 = 0 := rfl
      have c7 : ¬ _ := fun q => c7 (Int32.toInt_inj.mp q)
      refine lv_iload_n (pc := 36) C0.1 C0.2.1 dX8_take_36 rfl (lv_at hl 0 rfl) ?_
      refine lv_if_ne (pc := 37) (tgt := 61) C0.1 C0.2.1 dX8_take_37 (by decide) (fun _ => ?_) (fun c => absurd c (by decide))
      refine lv_iconst (pc := 61) (v := 0) C0.1 C0.2.1 dX8_take_61 (by decide) ?_
      refine xzast (pc := 62) (N := 600) C0 (Nat.le_of_ble_eq_true rfl) hH hS 37 ⟨Nat.le_of_ble_eq_true rfl, Nat.le_of_ble_eq_true rfl⟩ ⟨rfl, rfl⟩ (by decide) (vI (by omega) (by omega)) dX8_take_62 (fun _ locs hH hS => ?_)
      have hH : Hd D tA b 0 78 zz i (va_up F 37 (upd (F 37) (Int32.toNatClampNeg x) 0)) G _ := hH
      exact L63 0 1 i (va_up F 37 (upd (F 37) (Int32.toNatClampNeg x) 0)) G _ _ _ (On.f On.rf (by decide)) hT hQ hH hS (lv_sub hl [0, 1, 2, 3] rfl)
set_option maxHeartbeats 4000000 in
set_option maxRecDepth 100000 in
theorem g_X8_finish_17_9 (l : Launch) (D : va_G) (tA : Nat → ClassId) (b : Nat) (i F : Nat → Nat → Int32) (G : Nat → Nat → Int64) (x : Int32) (k : Int) (hT : Tb17 i F) (hQ : Pp17 k i F) (hk : 0 ≤ k) (htk : 0 ≤ (i 9 7).toInt ∧ (i 9 7).toInt ≤ 600) : xMV l yX8_finish cX8_finish 6 none 3 68 D tA b 0 78 i F G [.ref (b + 17), .ref (b + 9), .int x] (fun u => On 17 39 i F G u ∧ Tb17 u.1 u.2.1 ∧ Pp17 k u.1 u.2.1) := by
  refine xstart RX8 rfl (by decide) (Nat.le_of_ble_eq_true rfl) ?_
  intro p e s m below meth c ls C0 hr hH hS hl
  have hl : lv_has ls 6 [(0, .ref (b + 17)), (1, .ref (b + 9)), (2, .int x)] := hl
  have rg_x := fb_rng x
  have hL := Tb17.lin hT
  have h601 : Int32.toInt (nI 601) = 601 := rfl
  have LOOP : ∀ (d : Nat) (q : Int32) (iv Fv : Nat → Nat → Int32) (Gv : Nat → Nat → Int64) (H : Heap) (locs : List Loc) (ls : Array Slot), (1 ≤ q.toInt) → (601 - q.toInt ≤ d) → (On 17 39 i F G (iv, Fv, Gv)) → (Tb17 iv Fv) → (Pp17 k iv Fv) → Hd D tA b 0 78 zz iv Fv Gv H → va_S (xA b 0 78) s.heap H locs → lv_has ls 6 [(3, .int q), (0, .ref (b + 17)), (1, .ref (b + 9)), (2, .int x)] → W p l e (xR 3 68) s m ([.ref (b + 17), .ref (b + 9), .int x] : List Value).toArray below meth c H locs 0 0 (MQ below (va_Qv (fun u => On 17 39 i F G u ∧ Tb17 u.1 u.2.1 ∧ Pp17 k u.1 u.2.1) (xB D tA b 0 78 zz) (xA b 0 78)) ([.ref (b + 17), .ref (b + 9), .int x] : List Value).toArray s 0 0 (xA b 0 78)) (F0 m 66 ls []) := by
    intro d
    induction d with
    | zero =>
      intro q iv Fv Gv H locs ls h1 h2 h3 h4 h5 hH hS hl
      have rg_q := fb_rng q
      have hT := h4
      have hQ := h5
      have hL := Tb17.lin hT
      have ekt : Int32.toInt (iv 9 7) = Int32.toInt (i 9 7) := congrArg Int32.toInt (congrFun (h3.1 9 (by decide)).1 7)
      refine lv_iload_n (pc := 66) C0.1 C0.2.1 dX8_finish_66 rfl (lv_at hl 0 rfl) ?_
      refine lv_aload_n (pc := 67) C0.1 C0.2.1 dX8_finish_67 rfl (lv_at hl 1 rfl) ?_
      refine xget (pc := 68) C0 hH 17 7 clX8 ⟨Nat.le_of_ble_eq_true rfl, Nat.le_of_ble_eq_true rfl⟩ ⟨rfl, rfl⟩ (Nat.le_of_ble_eq_true rfl) fl_X8_50 (v := .int (iv 17 7)) rfl dX8_finish_68 ?_
      refine lv_icmp_ge (pc := 71) (tgt := 142) C0.1 C0.2.1 dX8_finish_71 (by decide) (fun _ => ?_) (fun c => absurd (Int32.le_iff_toInt_le.mpr (by omega)) c)
      exact xvret (pc := 142) C0 hr hH hS dX8_finish_142 ⟨h3, hT, hQ⟩
    | succ d ih =>
      intro q iv Fv Gv H locs ls h1 h2 h3 h4 h5 hH hS hl
      have rg_q := fb_rng q
      have hT := h4
      have hQ := h5
      have hL := Tb17.lin hT
      have ekt : Int32.toInt (iv 9 7) = Int32.toInt (i 9 7) := congrArg Int32.toInt (congrFun (h3.1 9 (by decide)).1 7)
      refine lv_iload_n (pc := 66) C0.1 C0.2.1 dX8_finish_66 rfl (lv_at hl 0 rfl) ?_
      refine lv_aload_n (pc := 67) C0.1 C0.2.1 dX8_finish_67 rfl (lv_at hl 1 rfl) ?_
      refine xget (pc := 68) C0 hH 17 7 clX8 ⟨Nat.le_of_ble_eq_true rfl, Nat.le_of_ble_eq_true rfl⟩ ⟨rfl, rfl⟩ (Nat.le_of_ble_eq_true rfl) fl_X8_50 (v := .int (iv 17 7)) rfl dX8_finish_68 ?_
      refine lv_icmp_ge (pc := 71) (tgt := 142) C0.1 C0.2.1 dX8_finish_71 (by decide) (fun c101 => ?_) (fun c101 => ?_)
      · have c101 := Int32.le_iff_toInt_le.mp c101
        exact xvret (pc := 142) C0 hr hH hS dX8_finish_142 ⟨h3, hT, hQ⟩
      · have c101 : ¬ _ := fun q => c101 (Int32.le_iff_toInt_le.mpr q)
        refine lv_aload_n (pc := 74) C0.1 C0.2.1 dX8_finish_74 rfl (lv_at hl 1 rfl) ?_
        refine xget (pc := 75) C0 hH 17 6 clX8 ⟨Nat.le_of_ble_eq_true rfl, Nat.le_of_ble_eq_true rfl⟩ ⟨rfl, rfl⟩ (Nat.le_of_ble_eq_true rfl) fl_X8_33 (v := .ref (b + 38)) rfl dX8_finish_75 ?_
        refine lv_iload_n (pc := 78) C0.1 C0.2.1 dX8_finish_78 rfl (lv_at hl 0 rfl) ?_
        refine xiald (pc := 79) (N := 601) C0 hH 38 ⟨Nat.le_of_ble_eq_true rfl, Nat.le_of_ble_eq_true rfl⟩ ⟨rfl, rfl⟩ (vI (by omega) (by omega)) dX8_finish_79 ?_
        refine lv_topi (fun x102 ex102 => ?_)
        refine lv_istore (pc := 80) (lv' := [(4, .int x102), (3, .int q), (0, .ref (b + 17)), (1, .ref (b + 9)), (2, .int x)]) C0.1 C0.2.1 dX8_finish_80 hl (by decide) rfl (fun ls hl => ?_)
        refine lv_aload_n (pc := 82) C0.1 C0.2.1 dX8_finish_82 rfl (lv_at hl 2 rfl) ?_
        refine xget (pc := 83) C0 hH 17 0 clX8 ⟨Nat.le_of_ble_eq_true rfl, Nat.le_of_ble_eq_true rfl⟩ ⟨rfl, rfl⟩ (Nat.le_of_ble_eq_true rfl) fl_X8_12 (v := .ref (b + 18)) rfl dX8_finish_83 ?_
        refine xget (pc := 86) C0 hH 18 7 clX0 ⟨Nat.le_of_ble_eq_true rfl, Nat.le_of_ble_eq_true rfl⟩ ⟨rfl, rfl⟩ (Nat.le_of_ble_eq_true rfl) fl_X8_160 (v := .ref (b + 26)) rfl dX8_finish_86 ?_
        refine lv_iload (pc := 89) C0.1 C0.2.1 dX8_finish_89 (lv_at hl 0 rfl) ?_
        refine xiald (pc := 91) (N := 601) C0 hH 26 ⟨Nat.le_of_ble_eq_true rfl, Nat.le_of_ble_eq_true rfl⟩ ⟨rfl, rfl⟩ (vI (by rw [ex102]; exact (hT.1.pl _).1) (by rw [ex102]; exact (hT.1.pl _).2)) dX8_finish_91 ?_
        refine lv_topi (fun x103 ex103 => ?_)
        refine lv_istore (pc := 92) (lv' := [(5, .int x103), (4, .int x102), (3, .int q), (0, .ref (b + 17)), (1, .ref (b + 9)), (2, .int x)]) C0.1 C0.2.1 dX8_finish_92 hl (by decide) rfl (fun ls hl => ?_)
        refine lv_aload_n (pc := 94) C0.1 C0.2.1 dX8_finish_94 rfl (lv_at hl 3 rfl) ?_
        refine xget (pc := 95) C0 hH 17 0 clX8 ⟨Nat.le_of_ble_eq_true rfl, Nat.le_of_ble_eq_true rfl⟩ ⟨rfl, rfl⟩ (Nat.le_of_ble_eq_true rfl) fl_X8_12 (v := .ref (b + 18)) rfl dX8_finish_95 ?_
        refine xget (pc := 98) C0 hH 18 0 clX0 ⟨Nat.le_of_ble_eq_true rfl, Nat.le_of_ble_eq_true rfl⟩ ⟨rfl, rfl⟩ (Nat.le_of_ble_eq_true rfl) fl_X8_98 (v := .ref (b + 19)) rfl dX8_finish_98 ?_
        refine lv_iload (pc := 101) C0.1 C0.2.1 dX8_finish_101 (lv_at hl 1 rfl) ?_
        refine xiald (pc := 103) (N := 601) C0 hH 19 ⟨Nat.le_of_ble_eq_true rfl, Nat.le_of_ble_eq_true rfl⟩ ⟨rfl, rfl⟩ (vI (by rw [ex102]; exact (hT.1.pl _).1) (by rw [ex102]; exact (hT.1.pl _).2)) dX8_finish_103 ?_
        refine lv_iconst (pc := 104) (v := 4) C0.1 C0.2.1 dX8_finish_104 (by decide) ?_
        refine lv_icmp_ne (pc := 105) (tgt := 136) C0.1 C0.2.1 dX8_finish_105 (by decide) (fun c104 => ?_) (fun c104 => ?_)
        · have : Int32.toInt 4 = 4 := rfl
          have c104 : ¬ _ := fun q => c104 (Int32.toInt_inj.mp q)
          obtain ⟨x105, ex105⟩ : ∃ y_ : Int32, y_ = q + 1 := ⟨_, rfl⟩
          have : Int32.toInt 1 = 1 := rfl
          have hx105 : Int32.toInt x105 = Int32.toInt q + Int32.toInt 1 := by rw [ex105]; exact fb_addI (by omega) (by omega)
          refine lv_iinc (pc := 136) (v := x105) (lv' := [(3, .int x105), (5, .int x103), (4, .int x102), (0, .ref (b + 17)), (1, .ref (b + 9)), (2, .int x)]) C0.1 C0.2.1 dX8_finish_136 hl (k := 2) rfl (by rw [ex105]; rfl) (by decide) rfl (fun ls hl => ?_)
          refine lv_goto (pc := 139) (tgt := 66) C0.1 C0.2.1 dX8_finish_139 (by decide) ?_
          exact ih x105 iv Fv Gv _ _ _ (by omega) (by omega) h3 hT hQ hH hS (lv_sub hl [0, 3, 4, 5] rfl)
        · have : Int32.toInt 4 = 4 := rfl
          have c104 := congrArg Int32.toInt c104
          refine lv_iload (pc := 108) C0.1 C0.2.1 dX8_finish_108 (lv_at hl 0 rfl) ?_
          refine lv_if_lt (pc := 110) (tgt := 136) C0.1 C0.2.1 dX8_finish_110 (by decide) (fun c106 => ?_) (fun c106 => ?_)
          · have : Int32.toInt 0 = 0 := rfl
            have c106 := Int32.lt_iff_toInt_lt.mp c106
            obtain ⟨x107, ex107⟩ : ∃ y_ : Int32, y_ = q + 1 := ⟨_, rfl⟩
            have : Int32.toInt 1 = 1 := rfl
            have hx107 : Int32.toInt x107 = Int32.toInt q + Int32.toInt 1 := by rw [ex107]; exact fb_addI (by omega) (by omega)
            refine lv_iinc (pc := 136) (v := x107) (lv' := [(3, .int x107), (5, .int x103), (4, .int x102), (0, .ref (b + 17)), (1, .ref (b + 9)), (2, .int x)]) C0.1 C0.2.1 dX8_finish_136 hl (k := 2) rfl (by rw [ex107]; rfl) (by decide) rfl (fun ls hl => ?_)
            refine lv_goto (pc := 139) (tgt := 66) C0.1 C0.2.1 dX8_finish_139 (by decide) ?_
            exact ih x107 iv Fv Gv _ _ _ (by omega) (by omega) h3 hT hQ hH hS (lv_sub hl [0, 3, 4, 5] rfl)
          · have : Int32.toInt 0 = 0 := rfl
            have c106 : ¬ _ := fun q => c106 (Int32.lt_iff_toInt_lt.mpr q)
            refine lv_iload (pc := 113) C0.1 C0.2.1 dX8_finish_113 (lv_at hl 0 rfl) ?_
            refine lv_aload_n (pc := 115) C0.1 C0.2.1 dX8_finish_115 rfl (lv_at hl 4 rfl) ?_
            refine xget (pc := 116) C0 hH 9 7 clX7 ⟨Nat.le_of_ble_eq_true rfl, Nat.le_of_ble_eq_true rfl⟩ ⟨rfl, rfl⟩ (Nat.le_of_ble_eq_true rfl) fl_X8_67 (v := .int (iv 9 7)) rfl dX8_finish_116 ?_
            refine lv_icmp_ge (pc := 119) (tgt := 136) C0.1 C0.2.1 dX8_finish_119 (by decide) (fun c108 => ?_) (fun c108 => ?_)
            · have c108 := Int32.le_iff_toInt_le.mp c108
              obtain ⟨x109, ex109⟩ : ∃ y_ : Int32, y_ = q + 1 := ⟨_, rfl⟩
              have : Int32.toInt 1 = 1 := rfl
              have hx109 : Int32.toInt x109 = Int32.toInt q + Int32.toInt 1 := by rw [ex109]; exact fb_addI (by omega) (by omega)
              refine lv_iinc (pc := 136) (v := x109) (lv' := [(3, .int x109), (5, .int x103), (4, .int x102), (0, .ref (b + 17)), (1, .ref (b + 9)), (2, .int x)]) C0.1 C0.2.1 dX8_finish_136 hl (k := 2) rfl (by rw [ex109]; rfl) (by decide) rfl (fun ls hl => ?_)
              refine lv_goto (pc := 139) (tgt := 66) C0.1 C0.2.1 dX8_finish_139 (by decide) ?_
              exact ih x109 iv Fv Gv _ _ _ (by omega) (by omega) h3 hT hQ hH hS (lv_sub hl [0, 3, 4, 5] rfl)
            · have c108 : ¬ _ := fun q => c108 (Int32.le_iff_toInt_le.mpr q)
              refine lv_aload_n (pc := 122) C0.1 C0.2.1 dX8_finish_122 rfl (lv_at hl 3 rfl) ?_
              refine lv_bipush (pc := 123) (v := 6) C0.1 C0.2.1 dX8_finish_123 (by decide) ?_
              refine lv_aload_n (pc := 125) C0.1 C0.2.1 dX8_finish_125 rfl (lv_at hl 4 rfl) ?_
              refine xget (pc := 126) C0 hH 9 1 clX7 ⟨Nat.le_of_ble_eq_true rfl, Nat.le_of_ble_eq_true rfl⟩ ⟨rfl, rfl⟩ (Nat.le_of_ble_eq_true rfl) fl_X8_142 (v := .ref (b + 11)) rfl dX8_finish_126 ?_
              refine lv_iload (pc := 129) C0.1 C0.2.1 dX8_finish_129 (lv_at hl 0 rfl) ?_
              refine xiald (pc := 131) (N := 600) C0 hH 11 ⟨Nat.le_of_ble_eq_true rfl, Nat.le_of_ble_eq_true rfl⟩ ⟨rfl, rfl⟩ (vI (by omega) (by omega)) dX8_finish_131 ?_
              refine xcVV (pc := 132) 17 [.int 6, .int (Fv 11 (Int32.toNatClampNeg x103))] (g_X8_fail_17 l D tA b iv Fv Gv 6 (Fv 11 (Int32.toNatClampNeg x103))) C0 hH hS clX8 rfl ⟨⟨Nat.le_of_ble_eq_true rfl, Nat.le_of_ble_eq_true rfl⟩, rfl, rfl⟩ cw_X8_145 rfl ⟨Nat.le_of_ble_eq_true rfl, Nat.le_of_ble_eq_true rfl⟩ hl.1 rfl (Nat.le_of_ble_eq_true rfl) dX8_finish_132 ⟨Nat.le_of_ble_eq_true rfl, Nat.le_of_ble_eq_true rfl⟩ (fun ir110 Fr110 Gr110 _ locs hp hH hS => ?_)
              cases hp
              have hH : Hd D tA b 0 78 zz (up2 (up2 iv 17 4 6) 17 5 (Fv 11 (Int32.toNatClampNeg x103))) Fv Gv _ := hH
              exact xvret (pc := 135) C0 hr hH hS dX8_finish_135 ⟨(On.i (On.i h3 (by decide)) (by decide)), hT, hQ⟩
  refine lv_aload_n (pc := 0) C0.1 C0.2.1 dX8_finish_0 rfl (lv_at hl 0 rfl) ?_
  refine xget (pc := 1) C0 hH 17 8 clX8 ⟨Nat.le_of_ble_eq_true rfl, Nat.le_of_ble_eq_true rfl⟩ ⟨rfl, rfl⟩ (Nat.le_of_ble_eq_true rfl) fl_X8_53 (v := .int (i 17 8)) rfl dX8_finish_1 ?_
  refine lv_if_lt (pc := 4) (tgt := 64) C0.1 C0.2.1 dX8_finish_4 (by decide) (fun c1 => ?_) (fun c1 => ?_)
  · have : Int32.toInt 0 = 0 := rfl
    have c1 := Int32.lt_iff_toInt_lt.mp c1
    refine lv_iconst (pc := 64) (v := 1) C0.1 C0.2.1 dX8_finish_64 (by decide) ?_
    refine lv_istore_n (pc := 65) (lv' := [(3, .int 1), (0, .ref (b + 17)), (1, .ref (b + 9)), (2, .int x)]) C0.1 C0.2.1 dX8_finish_65 rfl hl (by decide) rfl (fun ls hl => ?_)
    exact LOOP 600 1 i F G _ _ _ (by decide) (by decide) On.rf hT hQ hH hS (lv_sub hl [0, 1, 2, 3] rfl)
  · have : Int32.toInt 0 = 0 := rfl
    have c1 : ¬ _ := fun q => c1 (Int32.lt_iff_toInt_lt.mpr q)
    refine lv_aload_n (pc := 7) C0.1 C0.2.1 dX8_finish_7 rfl (lv_at hl 0 rfl) ?_
    refine xget (pc := 8) C0 hH 17 8 clX8 ⟨Nat.le_of_ble_eq_true rfl, Nat.le_of_ble_eq_true rfl⟩ ⟨rfl, rfl⟩ (Nat.le_of_ble_eq_true rfl) fl_X8_53 (v := .int (i 17 8)) rfl dX8_finish_8 ?_
    refine lv_aload_n (pc := 11) C0.1 C0.2.1 dX8_finish_11 rfl (lv_at hl 1 rfl) ?_
    refine xget (pc := 12) C0 hH 9 7 clX7 ⟨Nat.le_of_ble_eq_true rfl, Nat.le_of_ble_eq_true rfl⟩ ⟨rfl, rfl⟩ (Nat.le_of_ble_eq_true rfl) fl_X8_67 (v := .int (i 9 7)) rfl dX8_finish_12 ?_
    refine lv_icmp_ge (pc := 15) (tgt := 64) C0.1 C0.2.1 dX8_finish_15 (by decide) (fun c2 => ?_) (fun c2 => ?_)
    · have c2 := Int32.le_iff_toInt_le.mp c2
      refine lv_iconst (pc := 64) (v := 1) C0.1 C0.2.1 dX8_finish_64 (by decide) ?_
      refine lv_istore_n (pc := 65) (lv' := [(3, .int 1), (0, .ref (b + 17)), (1, .ref (b + 9)), (2, .int x)]) C0.1 C0.2.1 dX8_finish_65 rfl hl (by decide) rfl (fun ls hl => ?_)
      exact LOOP 600 1 i F G _ _ _ (by decide) (by decide) On.rf hT hQ hH hS (lv_sub hl [0, 1, 2, 3] rfl)
    · have c2 : ¬ _ := fun q => c2 (Int32.le_iff_toInt_le.mpr q)
      refine lv_aload_n (pc := 18) C0.1 C0.2.1 dX8_finish_18 rfl (lv_at hl 1 rfl) ?_
      refine xget (pc := 19) C0 hH 9 5 clX7 ⟨Nat.le_of_ble_eq_true rfl, Nat.le_of_ble_eq_true rfl⟩ ⟨rfl, rfl⟩ (Nat.le_of_ble_eq_true rfl) fl_X8_108 (v := .ref (b + 15)) rfl dX8_finish_19 ?_
      refine lv_aload_n (pc := 22) C0.1 C0.2.1 dX8_finish_22 rfl (lv_at hl 0 rfl) ?_
      refine xget (pc := 23) C0 hH 17 8 clX8 ⟨Nat.le_of_ble_eq_true rfl, Nat.le_of_ble_eq_true rfl⟩ ⟨rfl, rfl⟩ (Nat.le_of_ble_eq_true rfl) fl_X8_53 (v := .int (i 17 8)) rfl dX8_finish_23 ?_
      refine xiald (pc := 26) (N := 600) C0 hH 15 ⟨Nat.le_of_ble_eq_true rfl, Nat.le_of_ble_eq_true rfl⟩ ⟨rfl, rfl⟩ (vI (by omega) (by omega)) dX8_finish_26 ?_
      refine lv_topi (fun x3 ex3 => ?_)
      refine lv_istore_n (pc := 27) (lv' := [(3, .int x3), (0, .ref (b + 17)), (1, .ref (b + 9)), (2, .int x)]) C0.1 C0.2.1 dX8_finish_27 rfl hl (by decide) rfl (fun ls hl => ?_)
      refine lv_iload_n (pc := 28) C0.1 C0.2.1 dX8_finish_28 rfl (lv_at hl 0 rfl) ?_
      refine lv_iconst (pc := 29) (v := 1) C0.1 C0.2.1 dX8_finish_29 (by decide) ?_
      refine lv_icmp_ne (pc := 30) (tgt := 40) C0.1 C0.2.1 dX8_finish_30 (by decide) (fun c4 => ?_) (fun c4 => ?_)
      · have : Int32.toInt 1 = 1 := rfl
        have c4 : ¬ _ := fun q => c4 (Int32.toInt_inj.mp q)
        refine lv_aload_n (pc := 40) C0.1 C0.2.1 dX8_finish_40 rfl (lv_at hl 1 rfl) ?_
        refine lv_iload_n (pc := 41) C0.1 C0.2.1 dX8_finish_41 rfl (lv_at hl 0 rfl) ?_
        refine lv_bipush (pc := 42) (v := (-9)) C0.1 C0.2.1 dX8_finish_42 (by decide) ?_
        refine lv_aload_n (pc := 44) C0.1 C0.2.1 dX8_finish_44 rfl (lv_at hl 1 rfl) ?_
        refine xget (pc := 45) C0 hH 17 0 clX8 ⟨Nat.le_of_ble_eq_true rfl, Nat.le_of_ble_eq_true rfl⟩ ⟨rfl, rfl⟩ (Nat.le_of_ble_eq_true rfl) fl_X8_12 (v := .ref (b + 18)) rfl dX8_finish_45 ?_
        refine xget (pc := 48) C0 hH 18 8 clX0 ⟨Nat.le_of_ble_eq_true rfl, Nat.le_of_ble_eq_true rfl⟩ ⟨rfl, rfl⟩ (Nat.le_of_ble_eq_true rfl) fl_X8_148 (v := .ref (b + 27)) rfl dX8_finish_48 ?_
        refine lv_aload_n (pc := 51) C0.1 C0.2.1 dX8_finish_51 rfl (lv_at hl 1 rfl) ?_
        refine xcVI (pc := 52) 17 [] (g_X8_top_17 l D tA b i F G  hT) C0 hH hS clX8 rfl ⟨⟨Nat.le_of_ble_eq_true rfl, Nat.le_of_ble_eq_true rfl⟩, rfl, rfl⟩ cw_X8_101 rfl ⟨Nat.le_of_ble_eq_true rfl, Nat.le_of_ble_eq_true rfl⟩ hl.1 rfl (Nat.le_of_ble_eq_true rfl) dX8_finish_52 ⟨Nat.le_of_ble_eq_true rfl, Nat.le_of_ble_eq_true rfl⟩ (fun r5 ir5 Fr5 Gr5 _ locs hp hH hS => ?_)
        obtain ⟨hu, hpr5⟩ := hp
        cases hu
        refine xiald (pc := 55) (N := 601) C0 hH 27 ⟨Nat.le_of_ble_eq_true rfl, Nat.le_of_ble_eq_true rfl⟩ ⟨rfl, rfl⟩ (vI (by omega) (by omega)) dX8_finish_55 ?_
        refine lv_aload_n (pc := 56) C0.1 C0.2.1 dX8_finish_56 rfl (lv_at hl 1 rfl) ?_
        refine xget (pc := 57) C0 hH 17 8 clX8 ⟨Nat.le_of_ble_eq_true rfl, Nat.le_of_ble_eq_true rfl⟩ ⟨rfl, rfl⟩ (Nat.le_of_ble_eq_true rfl) fl_X8_53 (v := .int (i 17 8)) rfl dX8_finish_57 ?_
        refine xcVI (pc := 60) 17 [.int x3, .int (-9), .int (F 27 (Int32.toNatClampNeg r5)), .int (i 17 8)] (g_X8_beginBlock_17 l D tA b i F G x3 (-9) (F 27 (Int32.toNatClampNeg r5)) (i 17 8) k hT hQ (by omega)) C0 hH hS clX8 rfl ⟨⟨Nat.le_of_ble_eq_true rfl, Nat.le_of_ble_eq_true rfl⟩, rfl, rfl⟩ cw_X8_132 rfl ⟨Nat.le_of_ble_eq_true rfl, Nat.le_of_ble_eq_true rfl⟩ hl.1 rfl (Nat.le_of_ble_eq_true rfl) dX8_finish_60 ⟨Nat.le_of_ble_eq_true rfl, Nat.le_of_ble_eq_true rfl⟩ (fun r6 ir6 Fr6 Gr6 _ locs hp hH hS => ?_)
        obtain ⟨honr6, hT, hQ⟩ := hp
        have hT : Tb17 ir6 Fr6 := hT
        have hQ : Pp17 k ir6 Fr6 := hQ
        have hL := Tb17.lin hT
        have ek_9_7r6 : Int32.toInt (ir6 9 7) = Int32.toInt (i 9 7) := congrArg Int32.toInt (congrFun (honr6.1 9 (by decide)).1 7)
        refine lv_pop (pc := 63) C0.1 C0.2.1 dX8_finish_63 rfl ?_
        refine lv_iconst (pc := 64) (v := 1) C0.1 C0.2.1 dX8_finish_64 (by decide) ?_
        refine lv_istore_n (pc := 65) (lv' := [(3, .int 1), (0, .ref (b + 17)), (1, .ref (b + 9)), (2, .int x)]) C0.1 C0.2.1 dX8_finish_65 rfl hl (by decide) rfl (fun ls hl => ?_)
        exact LOOP 600 1 ir6 Fr6 Gr6 _ _ _ (by decide) (by decide) (On.tr On.rf honr6 (by decide) (by decide)) hT hQ hH hS (lv_sub hl [0, 1, 2, 3] rfl)
      · have : Int32.toInt 1 = 1 := rfl
        have c4 := congrArg Int32.toInt c4
        refine lv_aload_n (pc := 33) C0.1 C0.2.1 dX8_finish_33 rfl (lv_at hl 1 rfl) ?_
        refine lv_iconst (pc := 34) (v := 3) C0.1 C0.2.1 dX8_finish_34 (by decide) ?_
        refine lv_iload_n (pc := 35) C0.1 C0.2.1 dX8_finish_35 rfl (lv_at hl 3 rfl) ?_
        refine xcVV (pc := 36) 17 [.int 3, .int x] (g_X8_fail_17 l D tA b i F G 3 x) C0 hH hS clX8 rfl ⟨⟨Nat.le_of_ble_eq_true rfl, Nat.le_of_ble_eq_true rfl⟩, rfl, rfl⟩ cw_X8_145 rfl ⟨Nat.le_of_ble_eq_true rfl, Nat.le_of_ble_eq_true rfl⟩ hl.1 rfl (Nat.le_of_ble_eq_true rfl) dX8_finish_36 ⟨Nat.le_of_ble_eq_true rfl, Nat.le_of_ble_eq_true rfl⟩ (fun ir7 Fr7 Gr7 _ locs hp hH hS => ?_)
        cases hp
        have hH : Hd D tA b 0 78 zz (up2 (up2 i 17 4 3) 17 5 x) F G _ := hH
        exact xvret (pc := 39) C0 hr hH hS dX8_finish_39 ⟨(On.i (On.i On.rf (by decide)) (by decide)), hT, hQ⟩
set_option maxHeartbeats 4000000 in
set_option maxRecDepth 100000 in
theorem a1_X0_add (l : Launch) (D : va_G) (tA : Nat → ClassId) (b : Nat) (i F : Nat → Nat → Int32) (G : Nat → Nat → Int64)  (hi_18_9 : i 18 9 = 0) : xMI l yX0_add cX0_add 6 (some .int) 0 0 D tA b 0 78 i F G [.ref (b + 18), .int 0, .int 0, .int (-9), .int 0, .int (-9)] (fun r u => u = ((up2 i 18 9 1), (va_up (va_up (va_up (va_up (va_up (va_up (va_up (va_up (va_up F 19 (upd (F 19) (Int32.toNatClampNeg 0) 0)) 20 (upd (F 20) (Int32.toNatClampNeg 0) 0)) 21 (upd (F 21) (Int32.toNatClampNeg 0) (-9))) 22 (upd (F 22) (Int32.toNatClampNeg 0) 0)) 23 (upd (F 23) (Int32.toNatClampNeg 0) (-9))) 24 (upd (F 24) (Int32.toNatClampNeg 0) (-9))) 25 (upd (F 25) (Int32.toNatClampNeg 0) 0)) 26 (upd (F 26) (Int32.toNatClampNeg 0) (-9))) 27 (upd (F 27) (Int32.toNatClampNeg 0) (-9))), G) ∧ r = 0) := by
  refine xstart RX0 rfl (by decide) (Nat.le_of_ble_eq_true rfl) ?_
  intro p e s m below meth c ls C0 hr hH hS hl
  have hl : lv_has ls 6 [(0, .ref (b + 18)), (1, .int 0), (2, .int 0), (3, .int (-9)), (4, .int 0), (5, .int (-9))] := hl
  refine lv_aload_n (pc := 0) C0.1 C0.2.1 dX0_add_0 rfl (lv_at hl 0 rfl) ?_
  refine xget (pc := 1) C0 hH 18 9 clX0 ⟨Nat.le_of_ble_eq_true rfl, Nat.le_of_ble_eq_true rfl⟩ ⟨rfl, rfl⟩ (Nat.le_of_ble_eq_true rfl) fl_X0_39 (v := .int 0) (congrArg Value.int hi_18_9) dX0_add_1 ?_
  refine lv_aload_n (pc := 4) C0.1 C0.2.1 dX0_add_4 rfl (lv_at hl 0 rfl) ?_
  refine xget (pc := 5) C0 hH 18 0 clX0 ⟨Nat.le_of_ble_eq_true rfl, Nat.le_of_ble_eq_true rfl⟩ ⟨rfl, rfl⟩ (Nat.le_of_ble_eq_true rfl) fl_X0_9 (v := .ref (b + 19)) rfl dX0_add_5 ?_
  refine xalen (pc := 8) (t := 50) C0 hH 19 ⟨Nat.le_of_ble_eq_true rfl, Nat.le_of_ble_eq_true rfl⟩ ⟨rfl, rfl⟩ (by decide) dX0_add_8 ?_
  refine lv_icmp_lt (pc := 9) (tgt := 15) C0.1 C0.2.1 dX0_add_9 (by decide) (fun _ => ?_) (fun c => absurd (by decide) c)
  refine lv_aload_n (pc := 15) C0.1 C0.2.1 dX0_add_15 rfl (lv_at hl 0 rfl) ?_
  refine xget (pc := 16) C0 hH 18 0 clX0 ⟨Nat.le_of_ble_eq_true rfl, Nat.le_of_ble_eq_true rfl⟩ ⟨rfl, rfl⟩ (Nat.le_of_ble_eq_true rfl) fl_X0_9 (v := .ref (b + 19)) rfl dX0_add_16 ?_
  refine lv_aload_n (pc := 19) C0.1 C0.2.1 dX0_add_19 rfl (lv_at hl 0 rfl) ?_
  refine xget (pc := 20) C0 hH 18 9 clX0 ⟨Nat.le_of_ble_eq_true rfl, Nat.le_of_ble_eq_true rfl⟩ ⟨rfl, rfl⟩ (Nat.le_of_ble_eq_true rfl) fl_X0_39 (v := .int 0) (congrArg Value.int hi_18_9) dX0_add_20 ?_
  refine lv_iload_n (pc := 23) C0.1 C0.2.1 dX0_add_23 rfl (lv_at hl 1 rfl) ?_
  refine xiast (pc := 24) (N := 601) C0 (Nat.le_of_ble_eq_true rfl) hH hS 19 ⟨Nat.le_of_ble_eq_true rfl, Nat.le_of_ble_eq_true rfl⟩ ⟨rfl, rfl⟩ (vin (by decide)) dX0_add_24 (fun _ locs hH hS _ => ?_)
  have hH : Hd D tA b 0 78 zz i (va_up F 19 (upd (F 19) (Int32.toNatClampNeg 0) 0)) G _ := hH
  refine lv_aload_n (pc := 25) C0.1 C0.2.1 dX0_add_25 rfl (lv_at hl 0 rfl) ?_
  refine xget (pc := 26) C0 hH 18 1 clX0 ⟨Nat.le_of_ble_eq_true rfl, Nat.le_of_ble_eq_true rfl⟩ ⟨rfl, rfl⟩ (Nat.le_of_ble_eq_true rfl) fl_X0_15 (v := .ref (b + 20)) rfl dX0_add_26 ?_
  refine lv_aload_n (pc := 29) C0.1 C0.2.1 dX0_add_29 rfl (lv_at hl 0 rfl) ?_
  refine xget (pc := 30) C0 hH 18 9 clX0 ⟨Nat.le_of_ble_eq_true rfl, Nat.le_of_ble_eq_true rfl⟩ ⟨rfl, rfl⟩ (Nat.le_of_ble_eq_true rfl) fl_X0_39 (v := .int 0) (congrArg Value.int hi_18_9) dX0_add_30 ?_
  refine lv_iload_n (pc := 33) C0.1 C0.2.1 dX0_add_33 rfl (lv_at hl 2 rfl) ?_
  refine xiast (pc := 34) (N := 601) C0 (Nat.le_of_ble_eq_true rfl) hH hS 20 ⟨Nat.le_of_ble_eq_true rfl, Nat.le_of_ble_eq_true rfl⟩ ⟨rfl, rfl⟩ (vin (by decide)) dX0_add_34 (fun _ locs hH hS _ => ?_)
  have hH : Hd D tA b 0 78 zz i (va_up (va_up F 19 (upd (F 19) (Int32.toNatClampNeg 0) 0)) 20 (upd (F 20) (Int32.toNatClampNeg 0) 0)) G _ := hH
  refine lv_aload_n (pc := 35) C0.1 C0.2.1 dX0_add_35 rfl (lv_at hl 0 rfl) ?_
  refine xget (pc := 36) C0 hH 18 2 clX0 ⟨Nat.le_of_ble_eq_true rfl, Nat.le_of_ble_eq_true rfl⟩ ⟨rfl, rfl⟩ (Nat.le_of_ble_eq_true rfl) fl_X0_18 (v := .ref (b + 21)) rfl dX0_add_36 ?_
  refine lv_aload_n (pc := 39) C0.1 C0.2.1 dX0_add_39 rfl (lv_at hl 0 rfl) ?_
  refine xget (pc := 40) C0 hH 18 9 clX0 ⟨Nat.le_of_ble_eq_true rfl, Nat.le_of_ble_eq_true rfl⟩ ⟨rfl, rfl⟩ (Nat.le_of_ble_eq_true rfl) fl_X0_39 (v := .int 0) (congrArg Value.int hi_18_9) dX0_add_40 ?_
  refine lv_iload_n (pc := 43) C0.1 C0.2.1 dX0_add_43 rfl (lv_at hl 3 rfl) ?_
  refine xiast (pc := 44) (N := 601) C0 (Nat.le_of_ble_eq_true rfl) hH hS 21 ⟨Nat.le_of_ble_eq_true rfl, Nat.le_of_ble_eq_true rfl⟩ ⟨rfl, rfl⟩ (vin (by decide)) dX0_add_44 (fun _ locs hH hS _ => ?_)
  have hH : Hd D tA b 0 78 zz i (va_up (va_up (va_up F 19 (upd (F 19) (Int32.toNatClampNeg 0) 0)) 20 (upd (F 20) (Int32.toNatClampNeg 0) 0)) 21 (upd (F 21) (Int32.toNatClampNeg 0) (-9))) G _ := hH
  refine lv_aload_n (pc := 45) C0.1 C0.2.1 dX0_add_45 rfl (lv_at hl 0 rfl) ?_
  refine xget (pc := 46) C0 hH 18 3 clX0 ⟨Nat.le_of_ble_eq_true rfl, Nat.le_of_ble_eq_true rfl⟩ ⟨rfl, rfl⟩ (Nat.le_of_ble_eq_true rfl) fl_X0_21 (v := .ref (b + 22)) rfl dX0_add_46 ?_
  refine lv_aload_n (pc := 49) C0.1 C0.2.1 dX0_add_49 rfl (lv_at hl 0 rfl) ?_
  refine xget (pc := 50) C0 hH 18 9 clX0 ⟨Nat.le_of_ble_eq_true rfl, Nat.le_of_ble_eq_true rfl⟩ ⟨rfl, rfl⟩ (Nat.le_of_ble_eq_true rfl) fl_X0_39 (v := .int 0) (congrArg Value.int hi_18_9) dX0_add_50 ?_
  refine lv_iconst (pc := 53) (v := 0) C0.1 C0.2.1 dX0_add_53 (by decide) ?_
  refine xiast (pc := 54) (N := 601) C0 (Nat.le_of_ble_eq_true rfl) hH hS 22 ⟨Nat.le_of_ble_eq_true rfl, Nat.le_of_ble_eq_true rfl⟩ ⟨rfl, rfl⟩ (vin (by decide)) dX0_add_54 (fun _ locs hH hS _ => ?_)
  have hH : Hd D tA b 0 78 zz i (va_up (va_up (va_up (va_up F 19 (upd (F 19) (Int32.toNatClampNeg 0) 0)) 20 (upd (F 20) (Int32.toNatClampNeg 0) 0)) 21 (upd (F 21) (Int32.toNatClampNeg 0) (-9))) 22 (upd (F 22) (Int32.toNatClampNeg 0) 0)) G _ := hH
  refine lv_aload_n (pc := 55) C0.1 C0.2.1 dX0_add_55 rfl (lv_at hl 0 rfl) ?_
  refine xget (pc := 56) C0 hH 18 4 clX0 ⟨Nat.le_of_ble_eq_true rfl, Nat.le_of_ble_eq_true rfl⟩ ⟨rfl, rfl⟩ (Nat.le_of_ble_eq_true rfl) fl_X0_24 (v := .ref (b + 23)) rfl dX0_add_56 ?_
  refine lv_aload_n (pc := 59) C0.1 C0.2.1 dX0_add_59 rfl (lv_at hl 0 rfl) ?_
  refine xget (pc := 60) C0 hH 18 9 clX0 ⟨Nat.le_of_ble_eq_true rfl, Nat.le_of_ble_eq_true rfl⟩ ⟨rfl, rfl⟩ (Nat.le_of_ble_eq_true rfl) fl_X0_39 (v := .int 0) (congrArg Value.int hi_18_9) dX0_add_60 ?_
  refine lv_bipush (pc := 63) (v := (-9)) C0.1 C0.2.1 dX0_add_63 (by decide) ?_
  refine xiast (pc := 65) (N := 601) C0 (Nat.le_of_ble_eq_true rfl) hH hS 23 ⟨Nat.le_of_ble_eq_true rfl, Nat.le_of_ble_eq_true rfl⟩ ⟨rfl, rfl⟩ (vin (by decide)) dX0_add_65 (fun _ locs hH hS _ => ?_)
  have hH : Hd D tA b 0 78 zz i (va_up (va_up (va_up (va_up (va_up F 19 (upd (F 19) (Int32.toNatClampNeg 0) 0)) 20 (upd (F 20) (Int32.toNatClampNeg 0) 0)) 21 (upd (F 21) (Int32.toNatClampNeg 0) (-9))) 22 (upd (F 22) (Int32.toNatClampNeg 0) 0)) 23 (upd (F 23) (Int32.toNatClampNeg 0) (-9))) G _ := hH
  refine lv_aload_n (pc := 66) C0.1 C0.2.1 dX0_add_66 rfl (lv_at hl 0 rfl) ?_
  refine xget (pc := 67) C0 hH 18 5 clX0 ⟨Nat.le_of_ble_eq_true rfl, Nat.le_of_ble_eq_true rfl⟩ ⟨rfl, rfl⟩ (Nat.le_of_ble_eq_true rfl) fl_X0_27 (v := .ref (b + 24)) rfl dX0_add_67 ?_
  refine lv_aload_n (pc := 70) C0.1 C0.2.1 dX0_add_70 rfl (lv_at hl 0 rfl) ?_
  refine xget (pc := 71) C0 hH 18 9 clX0 ⟨Nat.le_of_ble_eq_true rfl, Nat.le_of_ble_eq_true rfl⟩ ⟨rfl, rfl⟩ (Nat.le_of_ble_eq_true rfl) fl_X0_39 (v := .int 0) (congrArg Value.int hi_18_9) dX0_add_71 ?_
  refine lv_bipush (pc := 74) (v := (-9)) C0.1 C0.2.1 dX0_add_74 (by decide) ?_
  refine xiast (pc := 76) (N := 601) C0 (Nat.le_of_ble_eq_true rfl) hH hS 24 ⟨Nat.le_of_ble_eq_true rfl, Nat.le_of_ble_eq_true rfl⟩ ⟨rfl, rfl⟩ (vin (by decide)) dX0_add_76 (fun _ locs hH hS _ => ?_)
  have hH : Hd D tA b 0 78 zz i (va_up (va_up (va_up (va_up (va_up (va_up F 19 (upd (F 19) (Int32.toNatClampNeg 0) 0)) 20 (upd (F 20) (Int32.toNatClampNeg 0) 0)) 21 (upd (F 21) (Int32.toNatClampNeg 0) (-9))) 22 (upd (F 22) (Int32.toNatClampNeg 0) 0)) 23 (upd (F 23) (Int32.toNatClampNeg 0) (-9))) 24 (upd (F 24) (Int32.toNatClampNeg 0) (-9))) G _ := hH
  refine lv_aload_n (pc := 77) C0.1 C0.2.1 dX0_add_77 rfl (lv_at hl 0 rfl) ?_
  refine xget (pc := 78) C0 hH 18 6 clX0 ⟨Nat.le_of_ble_eq_true rfl, Nat.le_of_ble_eq_true rfl⟩ ⟨rfl, rfl⟩ (Nat.le_of_ble_eq_true rfl) fl_X0_30 (v := .ref (b + 25)) rfl dX0_add_78 ?_
  refine lv_aload_n (pc := 81) C0.1 C0.2.1 dX0_add_81 rfl (lv_at hl 0 rfl) ?_
  refine xget (pc := 82) C0 hH 18 9 clX0 ⟨Nat.le_of_ble_eq_true rfl, Nat.le_of_ble_eq_true rfl⟩ ⟨rfl, rfl⟩ (Nat.le_of_ble_eq_true rfl) fl_X0_39 (v := .int 0) (congrArg Value.int hi_18_9) dX0_add_82 ?_
  refine lv_iload (pc := 85) C0.1 C0.2.1 dX0_add_85 (lv_at hl 4 rfl) ?_
  refine xiast (pc := 87) (N := 601) C0 (Nat.le_of_ble_eq_true rfl) hH hS 25 ⟨Nat.le_of_ble_eq_true rfl, Nat.le_of_ble_eq_true rfl⟩ ⟨rfl, rfl⟩ (vin (by decide)) dX0_add_87 (fun _ locs hH hS _ => ?_)
  have hH : Hd D tA b 0 78 zz i (va_up (va_up (va_up (va_up (va_up (va_up (va_up F 19 (upd (F 19) (Int32.toNatClampNeg 0) 0)) 20 (upd (F 20) (Int32.toNatClampNeg 0) 0)) 21 (upd (F 21) (Int32.toNatClampNeg 0) (-9))) 22 (upd (F 22) (Int32.toNatClampNeg 0) 0)) 23 (upd (F 23) (Int32.toNatClampNeg 0) (-9))) 24 (upd (F 24) (Int32.toNatClampNeg 0) (-9))) 25 (upd (F 25) (Int32.toNatClampNeg 0) 0)) G _ := hH
  refine lv_aload_n (pc := 88) C0.1 C0.2.1 dX0_add_88 rfl (lv_at hl 0 rfl) ?_
  refine xget (pc := 89) C0 hH 18 7 clX0 ⟨Nat.le_of_ble_eq_true rfl, Nat.le_of_ble_eq_true rfl⟩ ⟨rfl, rfl⟩ (Nat.le_of_ble_eq_true rfl) fl_X0_33 (v := .ref (b + 26)) rfl dX0_add_89 ?_
  refine lv_aload_n (pc := 92) C0.1 C0.2.1 dX0_add_92 rfl (lv_at hl 0 rfl) ?_
  refine xget (pc := 93) C0 hH 18 9 clX0 ⟨Nat.le_of_ble_eq_true rfl, Nat.le_of_ble_eq_true rfl⟩ ⟨rfl, rfl⟩ (Nat.le_of_ble_eq_true rfl) fl_X0_39 (v := .int 0) (congrArg Value.int hi_18_9) dX0_add_93 ?_
  refine lv_iload (pc := 96) C0.1 C0.2.1 dX0_add_96 (lv_at hl 5 rfl) ?_
  refine xiast (pc := 98) (N := 601) C0 (Nat.le_of_ble_eq_true rfl) hH hS 26 ⟨Nat.le_of_ble_eq_true rfl, Nat.le_of_ble_eq_true rfl⟩ ⟨rfl, rfl⟩ (vin (by decide)) dX0_add_98 (fun _ locs hH hS _ => ?_)
  have hH : Hd D tA b 0 78 zz i (va_up (va_up (va_up (va_up (va_up (va_up (va_up (va_up F 19 (upd (F 19) (Int32.toNatClampNeg 0) 0)) 20 (upd (F 20) (Int32.toNatClampNeg 0) 0)) 21 (upd (F 21) (Int32.toNatClampNeg 0) (-9))) 22 (upd (F 22) (Int32.toNatClampNeg 0) 0)) 23 (upd (F 23) (Int32.toNatClampNeg 0) (-9))) 24 (upd (F 24) (Int32.toNatClampNeg 0) (-9))) 25 (upd (F 25) (Int32.toNatClampNeg 0) 0)) 26 (upd (F 26) (Int32.toNatClampNeg 0) (-9))) G _ := hH
  refine lv_aload_n (pc := 99) C0.1 C0.2.1 dX0_add_99 rfl (lv_at hl 0 rfl) ?_
  refine xget (pc := 100) C0 hH 18 8 clX0 ⟨Nat.le_of_ble_eq_true rfl, Nat.le_of_ble_eq_true rfl⟩ ⟨rfl, rfl⟩ (Nat.le_of_ble_eq_true rfl) fl_X0_36 (v := .ref (b + 27)) rfl dX0_add_100 ?_
  refine lv_aload_n (pc := 103) C0.1 C0.2.1 dX0_add_103 rfl (lv_at hl 0 rfl) ?_
  refine xget (pc := 104) C0 hH 18 9 clX0 ⟨Nat.le_of_ble_eq_true rfl, Nat.le_of_ble_eq_true rfl⟩ ⟨rfl, rfl⟩ (Nat.le_of_ble_eq_true rfl) fl_X0_39 (v := .int 0) (congrArg Value.int hi_18_9) dX0_add_104 ?_
  refine lv_bipush (pc := 107) (v := (-9)) C0.1 C0.2.1 dX0_add_107 (by decide) ?_
  refine xiast (pc := 109) (N := 601) C0 (Nat.le_of_ble_eq_true rfl) hH hS 27 ⟨Nat.le_of_ble_eq_true rfl, Nat.le_of_ble_eq_true rfl⟩ ⟨rfl, rfl⟩ (vin (by decide)) dX0_add_109 (fun _ locs hH hS _ => ?_)
  have hH : Hd D tA b 0 78 zz i (va_up (va_up (va_up (va_up (va_up (va_up (va_up (va_up (va_up F 19 (upd (F 19) (Int32.toNatClampNeg 0) 0)) 20 (upd (F 20) (Int32.toNatClampNeg 0) 0)) 21 (upd (F 21) (Int32.toNatClampNeg 0) (-9))) 22 (upd (F 22) (Int32.toNatClampNeg 0) 0)) 23 (upd (F 23) (Int32.toNatClampNeg 0) (-9))) 24 (upd (F 24) (Int32.toNatClampNeg 0) (-9))) 25 (upd (F 25) (Int32.toNatClampNeg 0) 0)) 26 (upd (F 26) (Int32.toNatClampNeg 0) (-9))) 27 (upd (F 27) (Int32.toNatClampNeg 0) (-9))) G _ := hH
  refine lv_aload_n (pc := 110) C0.1 C0.2.1 dX0_add_110 rfl (lv_at hl 0 rfl) ?_
  refine lv_dup (pc := 111) C0.1 C0.2.1 dX0_add_111 rfl ?_
  refine xget (pc := 112) C0 hH 18 9 clX0 ⟨Nat.le_of_ble_eq_true rfl, Nat.le_of_ble_eq_true rfl⟩ ⟨rfl, rfl⟩ (Nat.le_of_ble_eq_true rfl) fl_X0_39 (v := .int 0) (congrArg Value.int hi_18_9) dX0_add_112 ?_
  refine lv_iconst (pc := 115) (v := 1) C0.1 C0.2.1 dX0_add_115 (by decide) ?_
  refine lv_iadd (pc := 116) C0.1 C0.2.1 dX0_add_116 ?_
  refine lv_topi (fun q1 eq1 => ?_)
  obtain rfl : q1 = 1 := eq1.trans (by decide)
  refine xputI (pc := 117) C0 (Nat.le_of_ble_eq_true rfl) hH hS 18 9 clX0 ⟨Nat.le_of_ble_eq_true rfl, Nat.le_of_ble_eq_true rfl⟩ ⟨rfl, rfl⟩ ⟨Nat.le_of_ble_eq_true rfl, rfl, rfl⟩ fl_X0_39 (x := 1) ⟨rfl, rfl⟩ dX0_add_117 (fun _ locs hH hS _ => ?_)
  have hH : Hd D tA b 0 78 zz (up2 i 18 9 1) (va_up (va_up (va_up (va_up (va_up (va_up (va_up (va_up (va_up F 19 (upd (F 19) (Int32.toNatClampNeg 0) 0)) 20 (upd (F 20) (Int32.toNatClampNeg 0) 0)) 21 (upd (F 21) (Int32.toNatClampNeg 0) (-9))) 22 (upd (F 22) (Int32.toNatClampNeg 0) 0)) 23 (upd (F 23) (Int32.toNatClampNeg 0) (-9))) 24 (upd (F 24) (Int32.toNatClampNeg 0) (-9))) 25 (upd (F 25) (Int32.toNatClampNeg 0) 0)) 26 (upd (F 26) (Int32.toNatClampNeg 0) (-9))) 27 (upd (F 27) (Int32.toNatClampNeg 0) (-9))) G _ := hH
  refine lv_aload_n (pc := 120) C0.1 C0.2.1 dX0_add_120 rfl (lv_at hl 0 rfl) ?_
  refine xget (pc := 121) C0 hH 18 9 clX0 ⟨Nat.le_of_ble_eq_true rfl, Nat.le_of_ble_eq_true rfl⟩ ⟨rfl, rfl⟩ (Nat.le_of_ble_eq_true rfl) fl_X0_39 (v := .int 1) rfl dX0_add_121 ?_
  refine lv_iconst (pc := 124) (v := 1) C0.1 C0.2.1 dX0_add_124 (by decide) ?_
  refine lv_isub (pc := 125) C0.1 C0.2.1 dX0_add_125 ?_
  refine lv_topi (fun q2 eq2 => ?_)
  obtain rfl : q2 = 0 := eq2.trans (by decide)
  exact xiret (pc := 126) C0 hr hH hS dX0_add_126 ⟨rfl, rfl⟩
set_option maxHeartbeats 4000000 in
set_option maxRecDepth 100000 in
theorem a3_X0_has (l : Launch) (D : va_G) (tA : Nat → ClassId) (b : Nat) (i F : Nat → Nat → Int32) (G : Nat → Nat → Int64)  (hi_18_9 : i 18 9 = 1) : xMI l yX0_has cX0_has 2 (some .boolean) 0 0 D tA b 0 78 i F G [.ref (b + 18), .int 0] (fun r u => u = (i, F, G) ∧ r = 1) := by
  refine xstart RX0 rfl (by decide) (Nat.le_of_ble_eq_true rfl) ?_
  intro p e s m below meth c ls C0 hr hH hS hl
  have hl : lv_has ls 2 [(0, .ref (b + 18)), (1, .int 0)] := hl
  refine lv_iload_n (pc := 0) C0.1 C0.2.1 dX0_has_0 rfl (lv_at hl 1 rfl) ?_
  refine lv_if_lt (pc := 1) (tgt := 16) C0.1 C0.2.1 dX0_has_1 (by decide) (fun c => absurd c (by decide)) (fun _ => ?_)
  refine lv_iload_n (pc := 4) C0.1 C0.2.1 dX0_has_4 rfl (lv_at hl 1 rfl) ?_
  refine lv_aload_n (pc := 5) C0.1 C0.2.1 dX0_has_5 rfl (lv_at hl 0 rfl) ?_
  refine xget (pc := 6) C0 hH 18 9 clX0 ⟨Nat.le_of_ble_eq_true rfl, Nat.le_of_ble_eq_true rfl⟩ ⟨rfl, rfl⟩ (Nat.le_of_ble_eq_true rfl) fl_X0_39 (v := .int 1) (congrArg Value.int hi_18_9) dX0_has_6 ?_
  refine lv_icmp_ge (pc := 9) (tgt := 16) C0.1 C0.2.1 dX0_has_9 (by decide) (fun c => absurd c (by decide)) (fun _ => ?_)
  refine lv_iconst (pc := 12) (v := 1) C0.1 C0.2.1 dX0_has_12 (by decide) ?_
  refine lv_goto (pc := 13) (tgt := 17) C0.1 C0.2.1 dX0_has_13 (by decide) ?_
  exact xzret (pc := 17) C0 hr hH hS dX0_has_17 (by decide) ⟨rfl, rfl⟩
set_option maxHeartbeats 4000000 in
set_option maxRecDepth 100000 in
theorem a2_X8_pileUp (l : Launch) (D : va_G) (tA : Nat → ClassId) (b : Nat) (i F : Nat → Nat → Int32) (G : Nat → Nat → Int64)  (hi_18_9 : i 18 9 = 1) (hi_17_7 : i 17 7 = 0) : xMV l yX8_pileUp cX8_pileUp 2 none 1 21 D tA b 0 78 i F G [.ref (b + 17), .int 0] (fun u => u = ((up2 i 17 7 1), (va_up F 38 (upd (F 38) (Int32.toNatClampNeg 0) 0)), G)) := by
  refine xstart RX8 rfl (by decide) (Nat.le_of_ble_eq_true rfl) ?_
  intro p e s m below meth c ls C0 hr hH hS hl
  have hl : lv_has ls 2 [(0, .ref (b + 17)), (1, .int 0)] := hl
  refine lv_aload_n (pc := 0) C0.1 C0.2.1 dX8_pileUp_0 rfl (lv_at hl 0 rfl) ?_
  refine xget (pc := 1) C0 hH 17 0 clX8 ⟨Nat.le_of_ble_eq_true rfl, Nat.le_of_ble_eq_true rfl⟩ ⟨rfl, rfl⟩ (Nat.le_of_ble_eq_true rfl) fl_X8_12 (v := .ref (b + 18)) rfl dX8_pileUp_1 ?_
  refine lv_iload_n (pc := 4) C0.1 C0.2.1 dX8_pileUp_4 rfl (lv_at hl 1 rfl) ?_
  refine xcVI (pc := 5) 18 [.int 0] (a3_X0_has l D tA b i F G  (by exact hi_18_9)) C0 hH hS clX0 rfl ⟨⟨Nat.le_of_ble_eq_true rfl, Nat.le_of_ble_eq_true rfl⟩, rfl, rfl⟩ cw_X8_87 rfl ⟨Nat.le_of_ble_eq_true rfl, Nat.le_of_ble_eq_true rfl⟩ hl.1 rfl (Nat.le_of_ble_eq_true rfl) dX8_pileUp_5 ⟨Nat.le_of_ble_eq_true rfl, Nat.le_of_ble_eq_true rfl⟩ (fun r1 ir1 Fr1 Gr1 _ locs hp hH hS => ?_)
  obtain ⟨hu, rfl⟩ := hp
  cases hu
  refine lv_if_eq (pc := 8) (tgt := 43) C0.1 C0.2.1 dX8_pileUp_8 (by decide) (fun c => absurd c (by decide)) (fun _ => ?_)
  refine lv_aload_n (pc := 11) C0.1 C0.2.1 dX8_pileUp_11 rfl (lv_at hl 0 rfl) ?_
  refine xget (pc := 12) C0 hH 17 7 clX8 ⟨Nat.le_of_ble_eq_true rfl, Nat.le_of_ble_eq_true rfl⟩ ⟨rfl, rfl⟩ (Nat.le_of_ble_eq_true rfl) fl_X8_50 (v := .int 0) (congrArg Value.int hi_17_7) dX8_pileUp_12 ?_
  refine lv_aload_n (pc := 15) C0.1 C0.2.1 dX8_pileUp_15 rfl (lv_at hl 0 rfl) ?_
  refine xget (pc := 16) C0 hH 17 6 clX8 ⟨Nat.le_of_ble_eq_true rfl, Nat.le_of_ble_eq_true rfl⟩ ⟨rfl, rfl⟩ (Nat.le_of_ble_eq_true rfl) fl_X8_33 (v := .ref (b + 38)) rfl dX8_pileUp_16 ?_
  refine xalen (pc := 19) (t := 50) C0 hH 38 ⟨Nat.le_of_ble_eq_true rfl, Nat.le_of_ble_eq_true rfl⟩ ⟨rfl, rfl⟩ (by decide) dX8_pileUp_19 ?_
  refine lv_icmp_ge (pc := 20) (tgt := 43) C0.1 C0.2.1 dX8_pileUp_20 (by decide) (fun c => absurd c (by decide)) (fun _ => ?_)
  refine lv_aload_n (pc := 23) C0.1 C0.2.1 dX8_pileUp_23 rfl (lv_at hl 0 rfl) ?_
  refine xget (pc := 24) C0 hH 17 6 clX8 ⟨Nat.le_of_ble_eq_true rfl, Nat.le_of_ble_eq_true rfl⟩ ⟨rfl, rfl⟩ (Nat.le_of_ble_eq_true rfl) fl_X8_33 (v := .ref (b + 38)) rfl dX8_pileUp_24 ?_
  refine lv_aload_n (pc := 27) C0.1 C0.2.1 dX8_pileUp_27 rfl (lv_at hl 0 rfl) ?_
  refine xget (pc := 28) C0 hH 17 7 clX8 ⟨Nat.le_of_ble_eq_true rfl, Nat.le_of_ble_eq_true rfl⟩ ⟨rfl, rfl⟩ (Nat.le_of_ble_eq_true rfl) fl_X8_50 (v := .int 0) (congrArg Value.int hi_17_7) dX8_pileUp_28 ?_
  refine lv_iload_n (pc := 31) C0.1 C0.2.1 dX8_pileUp_31 rfl (lv_at hl 1 rfl) ?_
  refine xiast (pc := 32) (N := 601) C0 (Nat.le_of_ble_eq_true rfl) hH hS 38 ⟨Nat.le_of_ble_eq_true rfl, Nat.le_of_ble_eq_true rfl⟩ ⟨rfl, rfl⟩ (vin (by decide)) dX8_pileUp_32 (fun _ locs hH hS _ => ?_)
  have hH : Hd D tA b 0 78 zz i (va_up F 38 (upd (F 38) (Int32.toNatClampNeg 0) 0)) G _ := hH
  refine lv_aload_n (pc := 33) C0.1 C0.2.1 dX8_pileUp_33 rfl (lv_at hl 0 rfl) ?_
  refine lv_dup (pc := 34) C0.1 C0.2.1 dX8_pileUp_34 rfl ?_
  refine xget (pc := 35) C0 hH 17 7 clX8 ⟨Nat.le_of_ble_eq_true rfl, Nat.le_of_ble_eq_true rfl⟩ ⟨rfl, rfl⟩ (Nat.le_of_ble_eq_true rfl) fl_X8_50 (v := .int 0) (congrArg Value.int hi_17_7) dX8_pileUp_35 ?_
  refine lv_iconst (pc := 38) (v := 1) C0.1 C0.2.1 dX8_pileUp_38 (by decide) ?_
  refine lv_iadd (pc := 39) C0.1 C0.2.1 dX8_pileUp_39 ?_
  refine lv_topi (fun q2 eq2 => ?_)
  obtain rfl : q2 = 1 := eq2.trans (by decide)
  refine xputI (pc := 40) C0 (Nat.le_of_ble_eq_true rfl) hH hS 17 7 clX8 ⟨Nat.le_of_ble_eq_true rfl, Nat.le_of_ble_eq_true rfl⟩ ⟨rfl, rfl⟩ ⟨Nat.le_of_ble_eq_true rfl, rfl, rfl⟩ fl_X8_50 (x := 1) ⟨rfl, rfl⟩ dX8_pileUp_40 (fun _ locs hH hS _ => ?_)
  have hH : Hd D tA b 0 78 zz (up2 i 17 7 1) (va_up F 38 (upd (F 38) (Int32.toNatClampNeg 0) 0)) G _ := hH
  exact xvret (pc := 43) C0 hr hH hS dX8_pileUp_43 rfl
set_option maxHeartbeats 4000000 in
set_option maxRecDepth 100000 in
theorem g_X8_grow_17_9 (l : Launch) (D : va_G) (tA : Nat → ClassId) (b : Nat) (i F : Nat → Nat → Int32) (G : Nat → Nat → Int64) (x : Int32) (hF : Tf17 i F) (htk : 0 ≤ (i 9 7).toInt ∧ (i 9 7).toInt ≤ 600) : xMV l yX8_grow cX8_grow 4 none 5 120 D tA b 0 78 i F G [.ref (b + 17), .ref (b + 9), .int x] (fun u => On 17 39 i F G u ∧ Tf17 u.1 u.2.1 ∧ Pp17 600 u.1 u.2.1) := by
  refine xstart RX8 rfl (by decide) (Nat.le_of_ble_eq_true rfl) ?_
  intro p e s m below meth c ls C0 hr hH hS hl
  have hl : lv_has ls 4 [(0, .ref (b + 17)), (1, .ref (b + 9)), (2, .int x)] := hl
  have rg_x := fb_rng x
  have LOOP : ∀ (d : Nat) (q : Int32) (iv Fv : Nat → Nat → Int32) (Gv : Nat → Nat → Int64) (H : Heap) (locs : List Loc) (ls : Array Slot), (0 ≤ q.toInt) → ((i 9 7).toInt - q.toInt ≤ d) → (q.toInt ≤ 600) → (On 17 39 i F G (iv, Fv, Gv)) → (Tb17 iv Fv) → (Pp17 q.toInt iv Fv) → Hd D tA b 0 78 zz iv Fv Gv H → va_S (xA b 0 78) s.heap H locs → lv_has ls 4 [(3, .int q), (0, .ref (b + 17)), (1, .ref (b + 9)), (2, .int x)] → W p l e (xR 5 120) s m ([.ref (b + 17), .ref (b + 9), .int x] : List Value).toArray below meth c H locs 0 0 (MQ below (va_Qv (fun u => On 17 39 i F G u ∧ Tf17 u.1 u.2.1 ∧ Pp17 600 u.1 u.2.1) (xB D tA b 0 78 zz) (xA b 0 78)) ([.ref (b + 17), .ref (b + 9), .int x] : List Value).toArray s 0 0 (xA b 0 78)) (F0 m 72 ls []) := by
    intro d
    induction d with
    | zero =>
      intro q iv Fv Gv H locs ls h1 h2 h3 h4 h5 h6 hH hS hl
      have rg_q := fb_rng q
      have hT := h5
      have hQ := h6
      have hL := Tb17.lin hT
      have ekt : Int32.toInt (iv 9 7) = Int32.toInt (i 9 7) := congrArg Int32.toInt (congrFun (h4.1 9 (by decide)).1 7)
      refine lv_iload_n (pc := 72) C0.1 C0.2.1 dX8_grow_72 rfl (lv_at hl 0 rfl) ?_
      refine lv_aload_n (pc := 73) C0.1 C0.2.1 dX8_grow_73 rfl (lv_at hl 2 rfl) ?_
      refine xget (pc := 74) C0 hH 9 7 clX7 ⟨Nat.le_of_ble_eq_true rfl, Nat.le_of_ble_eq_true rfl⟩ ⟨rfl, rfl⟩ (Nat.le_of_ble_eq_true rfl) fl_X8_67 (v := .int (iv 9 7)) rfl dX8_grow_74 ?_
      refine lv_icmp_ge (pc := 77) (tgt := 99) C0.1 C0.2.1 dX8_grow_77 (by decide) (fun _ => ?_) (fun c => absurd (Int32.le_iff_toInt_le.mpr (by omega)) c)
      refine lv_aload_n (pc := 99) C0.1 C0.2.1 dX8_grow_99 rfl (lv_at hl 1 rfl) ?_
      refine xget (pc := 100) C0 hH 17 4 clX8 ⟨Nat.le_of_ble_eq_true rfl, Nat.le_of_ble_eq_true rfl⟩ ⟨rfl, rfl⟩ (Nat.le_of_ble_eq_true rfl) fl_X8_36 (v := .int (iv 17 4)) rfl dX8_grow_100 ?_
      refine lv_if_ne (pc := 103) (tgt := 112) C0.1 C0.2.1 dX8_grow_103 (by decide) (fun c101 => ?_) (fun c101 => ?_)
      · have : Int32.toInt 0 = 0 := rfl
        have c101 : ¬ _ := fun q => c101 (Int32.toInt_inj.mp q)
        refine lv_aload_n (pc := 112) C0.1 C0.2.1 dX8_grow_112 rfl (lv_at hl 1 rfl) ?_
        refine xget (pc := 113) C0 hH 17 4 clX8 ⟨Nat.le_of_ble_eq_true rfl, Nat.le_of_ble_eq_true rfl⟩ ⟨rfl, rfl⟩ (Nat.le_of_ble_eq_true rfl) fl_X8_36 (v := .int (iv 17 4)) rfl dX8_grow_113 ?_
        refine lv_if_ne (pc := 116) (tgt := 123) C0.1 C0.2.1 dX8_grow_116 (by decide) (fun c102 => ?_) (fun c102 => ?_)
        · have : Int32.toInt 0 = 0 := rfl
          have c102 : ¬ _ := fun q => c102 (Int32.toInt_inj.mp q)
          exact xvret (pc := 123) C0 hr hH hS dX8_grow_123 ⟨h4, hT.1, Pp17.mono hQ (by omega)⟩
        · have : Int32.toInt 0 = 0 := rfl
          have c102 := congrArg Int32.toInt c102
          refine lv_aload_n (pc := 119) C0.1 C0.2.1 dX8_grow_119 rfl (lv_at hl 1 rfl) ?_
          refine xcVV (pc := 120) 17 [] (g_X8_spreadEnds_17 l D tA b iv Fv Gv  q.toInt hT hQ (by omega)) C0 hH hS clX8 rfl ⟨⟨Nat.le_of_ble_eq_true rfl, Nat.le_of_ble_eq_true rfl⟩, rfl, rfl⟩ cw_X8_77 rfl ⟨Nat.le_of_ble_eq_true rfl, Nat.le_of_ble_eq_true rfl⟩ hl.1 rfl (Nat.le_of_ble_eq_true rfl) dX8_grow_120 ⟨Nat.le_of_ble_eq_true rfl, Nat.le_of_ble_eq_true rfl⟩ (fun ir103 Fr103 Gr103 _ locs hp hH hS => ?_)
          obtain ⟨honr103, hT, hQ⟩ := hp
          have hT : Tb17 ir103 Fr103 := hT
          have hQ : Pp17 q.toInt ir103 Fr103 := hQ
          have hL := Tb17.lin hT
          have ek_9_7r103 : Int32.toInt (ir103 9 7) = Int32.toInt (iv 9 7) := congrArg Int32.toInt (congrFun (honr103.1 9 (by decide)).1 7)
          exact xvret (pc := 123) C0 hr hH hS dX8_grow_123 ⟨(On.tr h4 honr103 (by decide) (by decide)), hT.1, Pp17.mono hQ (by omega)⟩
      · have : Int32.toInt 0 = 0 := rfl
        have c101 := congrArg Int32.toInt c101
        refine lv_aload_n (pc := 106) C0.1 C0.2.1 dX8_grow_106 rfl (lv_at hl 1 rfl) ?_
        refine lv_aload_n (pc := 107) C0.1 C0.2.1 dX8_grow_107 rfl (lv_at hl 2 rfl) ?_
        refine lv_iload_n (pc := 108) C0.1 C0.2.1 dX8_grow_108 rfl (lv_at hl 3 rfl) ?_
        refine xcVV (pc := 109) 17 [.ref (b + 9), .int x] (g_X8_finish_17_9 l D tA b iv Fv Gv x q.toInt hT hQ (by omega) (show 0 ≤ Int32.toInt (iv 9 7) ∧ Int32.toInt (iv 9 7) ≤ 600 from by omega)) C0 hH hS clX8 rfl ⟨⟨Nat.le_of_ble_eq_true rfl, Nat.le_of_ble_eq_true rfl⟩, rfl, rfl⟩ cw_X8_74 rfl ⟨Nat.le_of_ble_eq_true rfl, Nat.le_of_ble_eq_true rfl⟩ hl.1 rfl (Nat.le_of_ble_eq_true rfl) dX8_grow_109 ⟨Nat.le_of_ble_eq_true rfl, Nat.le_of_ble_eq_true rfl⟩ (fun ir104 Fr104 Gr104 _ locs hp hH hS => ?_)
        obtain ⟨honr104, hT, hQ⟩ := hp
        have hT : Tb17 ir104 Fr104 := hT
        have hQ : Pp17 q.toInt ir104 Fr104 := hQ
        have hL := Tb17.lin hT
        have ek_9_7r104 : Int32.toInt (ir104 9 7) = Int32.toInt (iv 9 7) := congrArg Int32.toInt (congrFun (honr104.1 9 (by decide)).1 7)
        refine lv_aload_n (pc := 112) C0.1 C0.2.1 dX8_grow_112 rfl (lv_at hl 1 rfl) ?_
        refine xget (pc := 113) C0 hH 17 4 clX8 ⟨Nat.le_of_ble_eq_true rfl, Nat.le_of_ble_eq_true rfl⟩ ⟨rfl, rfl⟩ (Nat.le_of_ble_eq_true rfl) fl_X8_36 (v := .int (ir104 17 4)) rfl dX8_grow_113 ?_
        refine lv_if_ne (pc := 116) (tgt := 123) C0.1 C0.2.1 dX8_grow_116 (by decide) (fun c105 => ?_) (fun c105 => ?_)
        · have : Int32.toInt 0 = 0 := rfl
          have c105 : ¬ _ := fun q => c105 (Int32.toInt_inj.mp q)
          exact xvret (pc := 123) C0 hr hH hS dX8_grow_123 ⟨(On.tr h4 honr104 (by decide) (by decide)), hT.1, Pp17.mono hQ (by omega)⟩
        · have : Int32.toInt 0 = 0 := rfl
          have c105 := congrArg Int32.toInt c105
          refine lv_aload_n (pc := 119) C0.1 C0.2.1 dX8_grow_119 rfl (lv_at hl 1 rfl) ?_
          refine xcVV (pc := 120) 17 [] (g_X8_spreadEnds_17 l D tA b ir104 Fr104 Gr104  q.toInt hT hQ (by omega)) C0 hH hS clX8 rfl ⟨⟨Nat.le_of_ble_eq_true rfl, Nat.le_of_ble_eq_true rfl⟩, rfl, rfl⟩ cw_X8_77 rfl ⟨Nat.le_of_ble_eq_true rfl, Nat.le_of_ble_eq_true rfl⟩ hl.1 rfl (Nat.le_of_ble_eq_true rfl) dX8_grow_120 ⟨Nat.le_of_ble_eq_true rfl, Nat.le_of_ble_eq_true rfl⟩ (fun ir106 Fr106 Gr106 _ locs hp hH hS => ?_)
          obtain ⟨honr106, hT, hQ⟩ := hp
          have hT : Tb17 ir106 Fr106 := hT
          have hQ : Pp17 q.toInt ir106 Fr106 := hQ
          have hL := Tb17.lin hT
          have ek_9_7r106 : Int32.toInt (ir106 9 7) = Int32.toInt (ir104 9 7) := congrArg Int32.toInt (congrFun (honr106.1 9 (by decide)).1 7)
          exact xvret (pc := 123) C0 hr hH hS dX8_grow_123 ⟨(On.tr (On.tr h4 honr104 (by decide) (by decide)) honr106 (by decide) (by decide)), hT.1, Pp17.mono hQ (by omega)⟩
    | succ d ih =>
      intro q iv Fv Gv H locs ls h1 h2 h3 h4 h5 h6 hH hS hl
      have rg_q := fb_rng q
      have hT := h5
      have hQ := h6
      have hL := Tb17.lin hT
      have ekt : Int32.toInt (iv 9 7) = Int32.toInt (i 9 7) := congrArg Int32.toInt (congrFun (h4.1 9 (by decide)).1 7)
      refine lv_iload_n (pc := 72) C0.1 C0.2.1 dX8_grow_72 rfl (lv_at hl 0 rfl) ?_
      refine lv_aload_n (pc := 73) C0.1 C0.2.1 dX8_grow_73 rfl (lv_at hl 2 rfl) ?_
      refine xget (pc := 74) C0 hH 9 7 clX7 ⟨Nat.le_of_ble_eq_true rfl, Nat.le_of_ble_eq_true rfl⟩ ⟨rfl, rfl⟩ (Nat.le_of_ble_eq_true rfl) fl_X8_67 (v := .int (iv 9 7)) rfl dX8_grow_74 ?_
      refine lv_icmp_ge (pc := 77) (tgt := 99) C0.1 C0.2.1 dX8_grow_77 (by decide) (fun c101 => ?_) (fun c101 => ?_)
      · have c101 := Int32.le_iff_toInt_le.mp c101
        refine lv_aload_n (pc := 99) C0.1 C0.2.1 dX8_grow_99 rfl (lv_at hl 1 rfl) ?_
        refine xget (pc := 100) C0 hH 17 4 clX8 ⟨Nat.le_of_ble_eq_true rfl, Nat.le_of_ble_eq_true rfl⟩ ⟨rfl, rfl⟩ (Nat.le_of_ble_eq_true rfl) fl_X8_36 (v := .int (iv 17 4)) rfl dX8_grow_100 ?_
        refine lv_if_ne (pc := 103) (tgt := 112) C0.1 C0.2.1 dX8_grow_103 (by decide) (fun c102 => ?_) (fun c102 => ?_)
        · have : Int32.toInt 0 = 0 := rfl
          have c102 : ¬ _ := fun q => c102 (Int32.toInt_inj.mp q)
          refine lv_aload_n (pc := 112) C0.1 C0.2.1 dX8_grow_112 rfl (lv_at hl 1 rfl) ?_
          refine xget (pc := 113) C0 hH 17 4 clX8 ⟨Nat.le_of_ble_eq_true rfl, Nat.le_of_ble_eq_true rfl⟩ ⟨rfl, rfl⟩ (Nat.le_of_ble_eq_true rfl) fl_X8_36 (v := .int (iv 17 4)) rfl dX8_grow_113 ?_
          refine lv_if_ne (pc := 116) (tgt := 123) C0.1 C0.2.1 dX8_grow_116 (by decide) (fun c103 => ?_) (fun c103 => ?_)
          · have : Int32.toInt 0 = 0 := rfl
            have c103 : ¬ _ := fun q => c103 (Int32.toInt_inj.mp q)
            exact xvret (pc := 123) C0 hr hH hS dX8_grow_123 ⟨h4, hT.1, Pp17.mono hQ (by omega)⟩
          · have : Int32.toInt 0 = 0 := rfl
            have c103 := congrArg Int32.toInt c103
            refine lv_aload_n (pc := 119) C0.1 C0.2.1 dX8_grow_119 rfl (lv_at hl 1 rfl) ?_
            refine xcVV (pc := 120) 17 [] (g_X8_spreadEnds_17 l D tA b iv Fv Gv  q.toInt hT hQ (by omega)) C0 hH hS clX8 rfl ⟨⟨Nat.le_of_ble_eq_true rfl, Nat.le_of_ble_eq_true rfl⟩, rfl, rfl⟩ cw_X8_77 rfl ⟨Nat.le_of_ble_eq_true rfl, Nat.le_of_ble_eq_true rfl⟩ hl.1 rfl (Nat.le_of_ble_eq_true rfl) dX8_grow_120 ⟨Nat.le_of_ble_eq_true rfl, Nat.le_of_ble_eq_true rfl⟩ (fun ir104 Fr104 Gr104 _ locs hp hH hS => ?_)
            obtain ⟨honr104, hT, hQ⟩ := hp
            have hT : Tb17 ir104 Fr104 := hT
            have hQ : Pp17 q.toInt ir104 Fr104 := hQ
            have hL := Tb17.lin hT
            have ek_9_7r104 : Int32.toInt (ir104 9 7) = Int32.toInt (iv 9 7) := congrArg Int32.toInt (congrFun (honr104.1 9 (by decide)).1 7)
            exact xvret (pc := 123) C0 hr hH hS dX8_grow_123 ⟨(On.tr h4 honr104 (by decide) (by decide)), hT.1, Pp17.mono hQ (by omega)⟩
        · have : Int32.toInt 0 = 0 := rfl
          have c102 := congrArg Int32.toInt c102
          refine lv_aload_n (pc := 106) C0.1 C0.2.1 dX8_grow_106 rfl (lv_at hl 1 rfl) ?_
          refine lv_aload_n (pc := 107) C0.1 C0.2.1 dX8_grow_107 rfl (lv_at hl 2 rfl) ?_
          refine lv_iload_n (pc := 108) C0.1 C0.2.1 dX8_grow_108 rfl (lv_at hl 3 rfl) ?_
          refine xcVV (pc := 109) 17 [.ref (b + 9), .int x] (g_X8_finish_17_9 l D tA b iv Fv Gv x q.toInt hT hQ (by omega) (show 0 ≤ Int32.toInt (iv 9 7) ∧ Int32.toInt (iv 9 7) ≤ 600 from by omega)) C0 hH hS clX8 rfl ⟨⟨Nat.le_of_ble_eq_true rfl, Nat.le_of_ble_eq_true rfl⟩, rfl, rfl⟩ cw_X8_74 rfl ⟨Nat.le_of_ble_eq_true rfl, Nat.le_of_ble_eq_true rfl⟩ hl.1 rfl (Nat.le_of_ble_eq_true rfl) dX8_grow_109 ⟨Nat.le_of_ble_eq_true rfl, Nat.le_of_ble_eq_true rfl⟩ (fun ir105 Fr105 Gr105 _ locs hp hH hS => ?_)
          obtain ⟨honr105, hT, hQ⟩ := hp
          have hT : Tb17 ir105 Fr105 := hT
          have hQ : Pp17 q.toInt ir105 Fr105 := hQ
          have hL := Tb17.lin hT
          have ek_9_7r105 : Int32.toInt (ir105 9 7) = Int32.toInt (iv 9 7) := congrArg Int32.toInt (congrFun (honr105.1 9 (by decide)).1 7)
          refine lv_aload_n (pc := 112) C0.1 C0.2.1 dX8_grow_112 rfl (lv_at hl 1 rfl) ?_
          refine xget (pc := 113) C0 hH 17 4 clX8 ⟨Nat.le_of_ble_eq_true rfl, Nat.le_of_ble_eq_true rfl⟩ ⟨rfl, rfl⟩ (Nat.le_of_ble_eq_true rfl) fl_X8_36 (v := .int (ir105 17 4)) rfl dX8_grow_113 ?_
          refine lv_if_ne (pc := 116) (tgt := 123) C0.1 C0.2.1 dX8_grow_116 (by decide) (fun c106 => ?_) (fun c106 => ?_)
          · have : Int32.toInt 0 = 0 := rfl
            have c106 : ¬ _ := fun q => c106 (Int32.toInt_inj.mp q)
            exact xvret (pc := 123) C0 hr hH hS dX8_grow_123 ⟨(On.tr h4 honr105 (by decide) (by decide)), hT.1, Pp17.mono hQ (by omega)⟩
          · have : Int32.toInt 0 = 0 := rfl
            have c106 := congrArg Int32.toInt c106
            refine lv_aload_n (pc := 119) C0.1 C0.2.1 dX8_grow_119 rfl (lv_at hl 1 rfl) ?_
            refine xcVV (pc := 120) 17 [] (g_X8_spreadEnds_17 l D tA b ir105 Fr105 Gr105  q.toInt hT hQ (by omega)) C0 hH hS clX8 rfl ⟨⟨Nat.le_of_ble_eq_true rfl, Nat.le_of_ble_eq_true rfl⟩, rfl, rfl⟩ cw_X8_77 rfl ⟨Nat.le_of_ble_eq_true rfl, Nat.le_of_ble_eq_true rfl⟩ hl.1 rfl (Nat.le_of_ble_eq_true rfl) dX8_grow_120 ⟨Nat.le_of_ble_eq_true rfl, Nat.le_of_ble_eq_true rfl⟩ (fun ir107 Fr107 Gr107 _ locs hp hH hS => ?_)
            obtain ⟨honr107, hT, hQ⟩ := hp
            have hT : Tb17 ir107 Fr107 := hT
            have hQ : Pp17 q.toInt ir107 Fr107 := hQ
            have hL := Tb17.lin hT
            have ek_9_7r107 : Int32.toInt (ir107 9 7) = Int32.toInt (ir105 9 7) := congrArg Int32.toInt (congrFun (honr107.1 9 (by decide)).1 7)
            exact xvret (pc := 123) C0 hr hH hS dX8_grow_123 ⟨(On.tr (On.tr h4 honr105 (by decide) (by decide)) honr107 (by decide) (by decide)), hT.1, Pp17.mono hQ (by omega)⟩
      · have c101 : ¬ _ := fun q => c101 (Int32.le_iff_toInt_le.mpr q)
        refine lv_aload_n (pc := 80) C0.1 C0.2.1 dX8_grow_80 rfl (lv_at hl 1 rfl) ?_
        refine xget (pc := 81) C0 hH 17 4 clX8 ⟨Nat.le_of_ble_eq_true rfl, Nat.le_of_ble_eq_true rfl⟩ ⟨rfl, rfl⟩ (Nat.le_of_ble_eq_true rfl) fl_X8_36 (v := .int (iv 17 4)) rfl dX8_grow_81 ?_
        refine lv_if_ne (pc := 84) (tgt := 99) C0.1 C0.2.1 dX8_grow_84 (by decide) (fun c108 => ?_) (fun c108 => ?_)
        · have : Int32.toInt 0 = 0 := rfl
          have c108 : ¬ _ := fun q => c108 (Int32.toInt_inj.mp q)
          refine lv_aload_n (pc := 99) C0.1 C0.2.1 dX8_grow_99 rfl (lv_at hl 1 rfl) ?_
          refine xget (pc := 100) C0 hH 17 4 clX8 ⟨Nat.le_of_ble_eq_true rfl, Nat.le_of_ble_eq_true rfl⟩ ⟨rfl, rfl⟩ (Nat.le_of_ble_eq_true rfl) fl_X8_36 (v := .int (iv 17 4)) rfl dX8_grow_100 ?_
          refine lv_if_ne (pc := 103) (tgt := 112) C0.1 C0.2.1 dX8_grow_103 (by decide) (fun c109 => ?_) (fun c109 => ?_)
          · have : Int32.toInt 0 = 0 := rfl
            have c109 : ¬ _ := fun q => c109 (Int32.toInt_inj.mp q)
            refine lv_aload_n (pc := 112) C0.1 C0.2.1 dX8_grow_112 rfl (lv_at hl 1 rfl) ?_
            refine xget (pc := 113) C0 hH 17 4 clX8 ⟨Nat.le_of_ble_eq_true rfl, Nat.le_of_ble_eq_true rfl⟩ ⟨rfl, rfl⟩ (Nat.le_of_ble_eq_true rfl) fl_X8_36 (v := .int (iv 17 4)) rfl dX8_grow_113 ?_
            refine lv_if_ne (pc := 116) (tgt := 123) C0.1 C0.2.1 dX8_grow_116 (by decide) (fun c110 => ?_) (fun c110 => ?_)
            · have : Int32.toInt 0 = 0 := rfl
              have c110 : ¬ _ := fun q => c110 (Int32.toInt_inj.mp q)
              exact xvret (pc := 123) C0 hr hH hS dX8_grow_123 ⟨h4, hT.1, Pp17.mono hQ (by omega)⟩
            · have : Int32.toInt 0 = 0 := rfl
              have c110 := congrArg Int32.toInt c110
              refine lv_aload_n (pc := 119) C0.1 C0.2.1 dX8_grow_119 rfl (lv_at hl 1 rfl) ?_
              refine xcVV (pc := 120) 17 [] (g_X8_spreadEnds_17 l D tA b iv Fv Gv  q.toInt hT hQ (by omega)) C0 hH hS clX8 rfl ⟨⟨Nat.le_of_ble_eq_true rfl, Nat.le_of_ble_eq_true rfl⟩, rfl, rfl⟩ cw_X8_77 rfl ⟨Nat.le_of_ble_eq_true rfl, Nat.le_of_ble_eq_true rfl⟩ hl.1 rfl (Nat.le_of_ble_eq_true rfl) dX8_grow_120 ⟨Nat.le_of_ble_eq_true rfl, Nat.le_of_ble_eq_true rfl⟩ (fun ir111 Fr111 Gr111 _ locs hp hH hS => ?_)
              obtain ⟨honr111, hT, hQ⟩ := hp
              have hT : Tb17 ir111 Fr111 := hT
              have hQ : Pp17 q.toInt ir111 Fr111 := hQ
              have hL := Tb17.lin hT
              have ek_9_7r111 : Int32.toInt (ir111 9 7) = Int32.toInt (iv 9 7) := congrArg Int32.toInt (congrFun (honr111.1 9 (by decide)).1 7)
              exact xvret (pc := 123) C0 hr hH hS dX8_grow_123 ⟨(On.tr h4 honr111 (by decide) (by decide)), hT.1, Pp17.mono hQ (by omega)⟩
          · have : Int32.toInt 0 = 0 := rfl
            have c109 := congrArg Int32.toInt c109
            refine lv_aload_n (pc := 106) C0.1 C0.2.1 dX8_grow_106 rfl (lv_at hl 1 rfl) ?_
            refine lv_aload_n (pc := 107) C0.1 C0.2.1 dX8_grow_107 rfl (lv_at hl 2 rfl) ?_
            refine lv_iload_n (pc := 108) C0.1 C0.2.1 dX8_grow_108 rfl (lv_at hl 3 rfl) ?_
            refine xcVV (pc := 109) 17 [.ref (b + 9), .int x] (g_X8_finish_17_9 l D tA b iv Fv Gv x q.toInt hT hQ (by omega) (show 0 ≤ Int32.toInt (iv 9 7) ∧ Int32.toInt (iv 9 7) ≤ 600 from by omega)) C0 hH hS clX8 rfl ⟨⟨Nat.le_of_ble_eq_true rfl, Nat.le_of_ble_eq_true rfl⟩, rfl, rfl⟩ cw_X8_74 rfl ⟨Nat.le_of_ble_eq_true rfl, Nat.le_of_ble_eq_true rfl⟩ hl.1 rfl (Nat.le_of_ble_eq_true rfl) dX8_grow_109 ⟨Nat.le_of_ble_eq_true rfl, Nat.le_of_ble_eq_true rfl⟩ (fun ir112 Fr112 Gr112 _ locs hp hH hS => ?_)
            obtain ⟨honr112, hT, hQ⟩ := hp
            have hT : Tb17 ir112 Fr112 := hT
            have hQ : Pp17 q.toInt ir112 Fr112 := hQ
            have hL := Tb17.lin hT
            have ek_9_7r112 : Int32.toInt (ir112 9 7) = Int32.toInt (iv 9 7) := congrArg Int32.toInt (congrFun (honr112.1 9 (by decide)).1 7)
            refine lv_aload_n (pc := 112) C0.1 C0.2.1 dX8_grow_112 rfl (lv_at hl 1 rfl) ?_
            refine xget (pc := 113) C0 hH 17 4 clX8 ⟨Nat.le_of_ble_eq_true rfl, Nat.le_of_ble_eq_true rfl⟩ ⟨rfl, rfl⟩ (Nat.le_of_ble_eq_true rfl) fl_X8_36 (v := .int (ir112 17 4)) rfl dX8_grow_113 ?_
            refine lv_if_ne (pc := 116) (tgt := 123) C0.1 C0.2.1 dX8_grow_116 (by decide) (fun c113 => ?_) (fun c113 => ?_)
            · have : Int32.toInt 0 = 0 := rfl
              have c113 : ¬ _ := fun q => c113 (Int32.toInt_inj.mp q)
              exact xvret (pc := 123) C0 hr hH hS dX8_grow_123 ⟨(On.tr h4 honr112 (by decide) (by decide)), hT.1, Pp17.mono hQ (by omega)⟩
            · have : Int32.toInt 0 = 0 := rfl
              have c113 := congrArg Int32.toInt c113
              refine lv_aload_n (pc := 119) C0.1 C0.2.1 dX8_grow_119 rfl (lv_at hl 1 rfl) ?_
              refine xcVV (pc := 120) 17 [] (g_X8_spreadEnds_17 l D tA b ir112 Fr112 Gr112  q.toInt hT hQ (by omega)) C0 hH hS clX8 rfl ⟨⟨Nat.le_of_ble_eq_true rfl, Nat.le_of_ble_eq_true rfl⟩, rfl, rfl⟩ cw_X8_77 rfl ⟨Nat.le_of_ble_eq_true rfl, Nat.le_of_ble_eq_true rfl⟩ hl.1 rfl (Nat.le_of_ble_eq_true rfl) dX8_grow_120 ⟨Nat.le_of_ble_eq_true rfl, Nat.le_of_ble_eq_true rfl⟩ (fun ir114 Fr114 Gr114 _ locs hp hH hS => ?_)
              obtain ⟨honr114, hT, hQ⟩ := hp
              have hT : Tb17 ir114 Fr114 := hT
              have hQ : Pp17 q.toInt ir114 Fr114 := hQ
              have hL := Tb17.lin hT
              have ek_9_7r114 : Int32.toInt (ir114 9 7) = Int32.toInt (ir112 9 7) := congrArg Int32.toInt (congrFun (honr114.1 9 (by decide)).1 7)
              exact xvret (pc := 123) C0 hr hH hS dX8_grow_123 ⟨(On.tr (On.tr h4 honr112 (by decide) (by decide)) honr114 (by decide) (by decide)), hT.1, Pp17.mono hQ (by omega)⟩
        · have : Int32.toInt 0 = 0 := rfl
          have c108 := congrArg Int32.toInt c108
          refine lv_aload_n (pc := 87) C0.1 C0.2.1 dX8_grow_87 rfl (lv_at hl 1 rfl) ?_
          refine lv_aload_n (pc := 88) C0.1 C0.2.1 dX8_grow_88 rfl (lv_at hl 2 rfl) ?_
          refine lv_iload_n (pc := 89) C0.1 C0.2.1 dX8_grow_89 rfl (lv_at hl 0 rfl) ?_
          refine xcVV (pc := 90) 17 [.ref (b + 9), .int q] (g_X8_take_17_9 l D tA b iv Fv Gv q hT hQ (show 0 ≤ Int32.toInt (iv 9 7) ∧ Int32.toInt (iv 9 7) ≤ 600 from by omega) (show 0 ≤ Int32.toInt q ∧ Int32.toInt q < Int32.toInt (iv 9 7) from by omega)) C0 hH hS clX8 rfl ⟨⟨Nat.le_of_ble_eq_true rfl, Nat.le_of_ble_eq_true rfl⟩, rfl, rfl⟩ cw_X8_70 rfl ⟨Nat.le_of_ble_eq_true rfl, Nat.le_of_ble_eq_true rfl⟩ hl.1 rfl (Nat.le_of_ble_eq_true rfl) dX8_grow_90 ⟨Nat.le_of_ble_eq_true rfl, Nat.le_of_ble_eq_true rfl⟩ (fun ir115 Fr115 Gr115 _ locs hp hH hS => ?_)
          obtain ⟨honr115, hT, hQ⟩ := hp
          have hT : Tb17 ir115 Fr115 := hT
          have hQ : Pp17 (Int32.toInt q + 1) ir115 Fr115 := hQ
          have hL := Tb17.lin hT
          have ek_9_7r115 : Int32.toInt (ir115 9 7) = Int32.toInt (iv 9 7) := congrArg Int32.toInt (congrFun (honr115.1 9 (by decide)).1 7)
          obtain ⟨x116, ex116⟩ : ∃ y_ : Int32, y_ = q + 1 := ⟨_, rfl⟩
          have : Int32.toInt 1 = 1 := rfl
          have hx116 : Int32.toInt x116 = Int32.toInt q + Int32.toInt 1 := by rw [ex116]; exact fb_addI (by omega) (by omega)
          refine lv_iinc (pc := 93) (v := x116) (lv' := [(3, .int x116), (0, .ref (b + 17)), (1, .ref (b + 9)), (2, .int x)]) C0.1 C0.2.1 dX8_grow_93 hl (k := 0) rfl (by rw [ex116]; rfl) (by decide) rfl (fun ls hl => ?_)
          refine lv_goto (pc := 96) (tgt := 72) C0.1 C0.2.1 dX8_grow_96 (by decide) ?_
          exact ih x116 ir115 Fr115 Gr115 _ _ _ (by omega) (by omega) (by omega) (On.tr h4 honr115 (by decide) (by decide)) hT (by rw [show Int32.toInt x116 = q.toInt + 1 from by omega]; exact hQ) hH hS (lv_sub hl [0, 1, 2, 3] rfl)
  refine lv_aload_n (pc := 0) C0.1 C0.2.1 dX8_grow_0 rfl (lv_at hl 0 rfl) ?_
  refine lv_iconst (pc := 1) (v := 0) C0.1 C0.2.1 dX8_grow_1 (by decide) ?_
  refine xputI (pc := 2) C0 (Nat.le_of_ble_eq_true rfl) hH hS 17 4 clX8 ⟨Nat.le_of_ble_eq_true rfl, Nat.le_of_ble_eq_true rfl⟩ ⟨rfl, rfl⟩ ⟨Nat.le_of_ble_eq_true rfl, rfl, rfl⟩ fl_X8_36 (x := 0) ⟨rfl, rfl⟩ dX8_grow_2 (fun _ locs hH hS _ => ?_)
  have hH : Hd D tA b 0 78 zz (up2 i 17 4 0) F G _ := hH
  refine lv_aload_n (pc := 5) C0.1 C0.2.1 dX8_grow_5 rfl (lv_at hl 0 rfl) ?_
  refine lv_bipush (pc := 6) (v := (-9)) C0.1 C0.2.1 dX8_grow_6 (by decide) ?_
  refine xputI (pc := 8) C0 (Nat.le_of_ble_eq_true rfl) hH hS 17 5 clX8 ⟨Nat.le_of_ble_eq_true rfl, Nat.le_of_ble_eq_true rfl⟩ ⟨rfl, rfl⟩ ⟨Nat.le_of_ble_eq_true rfl, rfl, rfl⟩ fl_X8_40 (x := (-9)) ⟨rfl, rfl⟩ dX8_grow_8 (fun _ locs hH hS _ => ?_)
  have hH : Hd D tA b 0 78 zz (up2 (up2 i 17 4 0) 17 5 (-9)) F G _ := hH
  refine lv_aload_n (pc := 11) C0.1 C0.2.1 dX8_grow_11 rfl (lv_at hl 0 rfl) ?_
  refine xget (pc := 12) C0 hH 17 0 clX8 ⟨Nat.le_of_ble_eq_true rfl, Nat.le_of_ble_eq_true rfl⟩ ⟨rfl, rfl⟩ (Nat.le_of_ble_eq_true rfl) fl_X8_12 (v := .ref (b + 18)) rfl dX8_grow_12 ?_
  refine lv_iconst (pc := 15) (v := 0) C0.1 C0.2.1 dX8_grow_15 (by decide) ?_
  refine xputI (pc := 16) C0 (Nat.le_of_ble_eq_true rfl) hH hS 18 9 clX0 ⟨Nat.le_of_ble_eq_true rfl, Nat.le_of_ble_eq_true rfl⟩ ⟨rfl, rfl⟩ ⟨Nat.le_of_ble_eq_true rfl, rfl, rfl⟩ fl_X8_43 (x := 0) ⟨rfl, rfl⟩ dX8_grow_16 (fun _ locs hH hS _ => ?_)
  have hH : Hd D tA b 0 78 zz (up2 (up2 (up2 i 17 4 0) 17 5 (-9)) 18 9 0) F G _ := hH
  refine lv_aload_n (pc := 19) C0.1 C0.2.1 dX8_grow_19 rfl (lv_at hl 0 rfl) ?_
  refine xget (pc := 20) C0 hH 17 1 clX8 ⟨Nat.le_of_ble_eq_true rfl, Nat.le_of_ble_eq_true rfl⟩ ⟨rfl, rfl⟩ (Nat.le_of_ble_eq_true rfl) fl_X8_21 (v := .ref (b + 28)) rfl dX8_grow_20 ?_
  refine lv_iconst (pc := 23) (v := 0) C0.1 C0.2.1 dX8_grow_23 (by decide) ?_
  refine xputI (pc := 24) C0 (Nat.le_of_ble_eq_true rfl) hH hS 28 5 clX2 ⟨Nat.le_of_ble_eq_true rfl, Nat.le_of_ble_eq_true rfl⟩ ⟨rfl, rfl⟩ ⟨Nat.le_of_ble_eq_true rfl, rfl, rfl⟩ fl_X8_46 (x := 0) ⟨rfl, rfl⟩ dX8_grow_24 (fun _ locs hH hS _ => ?_)
  have hH : Hd D tA b 0 78 zz (up2 (up2 (up2 (up2 i 17 4 0) 17 5 (-9)) 18 9 0) 28 5 0) F G _ := hH
  refine lv_aload_n (pc := 27) C0.1 C0.2.1 dX8_grow_27 rfl (lv_at hl 0 rfl) ?_
  refine xget (pc := 28) C0 hH 17 1 clX8 ⟨Nat.le_of_ble_eq_true rfl, Nat.le_of_ble_eq_true rfl⟩ ⟨rfl, rfl⟩ (Nat.le_of_ble_eq_true rfl) fl_X8_21 (v := .ref (b + 28)) rfl dX8_grow_28 ?_
  refine lv_iconst (pc := 31) (v := 0) C0.1 C0.2.1 dX8_grow_31 (by decide) ?_
  refine xputI (pc := 32) C0 (Nat.le_of_ble_eq_true rfl) hH hS 28 8 clX2 ⟨Nat.le_of_ble_eq_true rfl, Nat.le_of_ble_eq_true rfl⟩ ⟨rfl, rfl⟩ ⟨Nat.le_of_ble_eq_true rfl, rfl, rfl⟩ fl_X8_47 (x := 0) ⟨rfl, rfl⟩ dX8_grow_32 (fun _ locs hH hS _ => ?_)
  have hH : Hd D tA b 0 78 zz (up2 (up2 (up2 (up2 (up2 i 17 4 0) 17 5 (-9)) 18 9 0) 28 5 0) 28 8 0) F G _ := hH
  refine lv_aload_n (pc := 35) C0.1 C0.2.1 dX8_grow_35 rfl (lv_at hl 0 rfl) ?_
  refine lv_iconst (pc := 36) (v := 0) C0.1 C0.2.1 dX8_grow_36 (by decide) ?_
  refine xputI (pc := 37) C0 (Nat.le_of_ble_eq_true rfl) hH hS 17 7 clX8 ⟨Nat.le_of_ble_eq_true rfl, Nat.le_of_ble_eq_true rfl⟩ ⟨rfl, rfl⟩ ⟨Nat.le_of_ble_eq_true rfl, rfl, rfl⟩ fl_X8_50 (x := 0) ⟨rfl, rfl⟩ dX8_grow_37 (fun _ locs hH hS _ => ?_)
  have hH : Hd D tA b 0 78 zz (up2 (up2 (up2 (up2 (up2 (up2 i 17 4 0) 17 5 (-9)) 18 9 0) 28 5 0) 28 8 0) 17 7 0) F G _ := hH
  refine lv_aload_n (pc := 40) C0.1 C0.2.1 dX8_grow_40 rfl (lv_at hl 0 rfl) ?_
  refine lv_bipush (pc := 41) (v := (-9)) C0.1 C0.2.1 dX8_grow_41 (by decide) ?_
  refine xputI (pc := 43) C0 (Nat.le_of_ble_eq_true rfl) hH hS 17 8 clX8 ⟨Nat.le_of_ble_eq_true rfl, Nat.le_of_ble_eq_true rfl⟩ ⟨rfl, rfl⟩ ⟨Nat.le_of_ble_eq_true rfl, rfl, rfl⟩ fl_X8_53 (x := (-9)) ⟨rfl, rfl⟩ dX8_grow_43 (fun _ locs hH hS _ => ?_)
  have hH : Hd D tA b 0 78 zz (up2 (up2 (up2 (up2 (up2 (up2 (up2 i 17 4 0) 17 5 (-9)) 18 9 0) 28 5 0) 28 8 0) 17 7 0) 17 8 (-9)) F G _ := hH
  refine lv_aload_n (pc := 46) C0.1 C0.2.1 dX8_grow_46 rfl (lv_at hl 0 rfl) ?_
  refine lv_bipush (pc := 47) (v := (-9)) C0.1 C0.2.1 dX8_grow_47 (by decide) ?_
  refine xputI (pc := 49) C0 (Nat.le_of_ble_eq_true rfl) hH hS 17 9 clX8 ⟨Nat.le_of_ble_eq_true rfl, Nat.le_of_ble_eq_true rfl⟩ ⟨rfl, rfl⟩ ⟨Nat.le_of_ble_eq_true rfl, rfl, rfl⟩ fl_X8_56 (x := (-9)) ⟨rfl, rfl⟩ dX8_grow_49 (fun _ locs hH hS _ => ?_)
  have hH : Hd D tA b 0 78 zz (up2 (up2 (up2 (up2 (up2 (up2 (up2 (up2 i 17 4 0) 17 5 (-9)) 18 9 0) 28 5 0) 28 8 0) 17 7 0) 17 8 (-9)) 17 9 (-9)) F G _ := hH
  refine lv_aload_n (pc := 52) C0.1 C0.2.1 dX8_grow_52 rfl (lv_at hl 0 rfl) ?_
  refine lv_aload_n (pc := 53) C0.1 C0.2.1 dX8_grow_53 rfl (lv_at hl 0 rfl) ?_
  refine xget (pc := 54) C0 hH 17 0 clX8 ⟨Nat.le_of_ble_eq_true rfl, Nat.le_of_ble_eq_true rfl⟩ ⟨rfl, rfl⟩ (Nat.le_of_ble_eq_true rfl) fl_X8_12 (v := .ref (b + 18)) rfl dX8_grow_54 ?_
  refine lv_iconst (pc := 57) (v := 0) C0.1 C0.2.1 dX8_grow_57 (by decide) ?_
  refine lv_iconst (pc := 58) (v := 0) C0.1 C0.2.1 dX8_grow_58 (by decide) ?_
  refine lv_bipush (pc := 59) (v := (-9)) C0.1 C0.2.1 dX8_grow_59 (by decide) ?_
  refine lv_iconst (pc := 61) (v := 0) C0.1 C0.2.1 dX8_grow_61 (by decide) ?_
  refine lv_bipush (pc := 62) (v := (-9)) C0.1 C0.2.1 dX8_grow_62 (by decide) ?_
  refine xcVI (pc := 64) 18 [.int 0, .int 0, .int (-9), .int 0, .int (-9)] (a1_X0_add l D tA b (up2 (up2 (up2 (up2 (up2 (up2 (up2 (up2 i 17 4 0) 17 5 (-9)) 18 9 0) 28 5 0) 28 8 0) 17 7 0) 17 8 (-9)) 17 9 (-9)) F G  (by exact rfl)) C0 hH hS clX0 rfl ⟨⟨Nat.le_of_ble_eq_true rfl, Nat.le_of_ble_eq_true rfl⟩, rfl, rfl⟩ cw_X8_59 rfl ⟨Nat.le_of_ble_eq_true rfl, Nat.le_of_ble_eq_true rfl⟩ hl.1 rfl (Nat.le_of_ble_eq_true rfl) dX8_grow_64 ⟨Nat.le_of_ble_eq_true rfl, Nat.le_of_ble_eq_true rfl⟩ (fun r1 ir1 Fr1 Gr1 _ locs hp hH hS => ?_)
  obtain ⟨hu, rfl⟩ := hp
  cases hu
  have hH : Hd D tA b 0 78 zz (up2 (up2 (up2 (up2 (up2 (up2 (up2 (up2 (up2 i 17 4 0) 17 5 (-9)) 18 9 0) 28 5 0) 28 8 0) 17 7 0) 17 8 (-9)) 17 9 (-9)) 18 9 1) (va_up (va_up (va_up (va_up (va_up (va_up (va_up (va_up (va_up F 19 (upd (F 19) (Int32.toNatClampNeg 0) 0)) 20 (upd (F 20) (Int32.toNatClampNeg 0) 0)) 21 (upd (F 21) (Int32.toNatClampNeg 0) (-9))) 22 (upd (F 22) (Int32.toNatClampNeg 0) 0)) 23 (upd (F 23) (Int32.toNatClampNeg 0) (-9))) 24 (upd (F 24) (Int32.toNatClampNeg 0) (-9))) 25 (upd (F 25) (Int32.toNatClampNeg 0) 0)) 26 (upd (F 26) (Int32.toNatClampNeg 0) (-9))) 27 (upd (F 27) (Int32.toNatClampNeg 0) (-9))) G _ := hH
  refine xcVV (pc := 67) 17 [.int 0] (a2_X8_pileUp l D tA b (up2 (up2 (up2 (up2 (up2 (up2 (up2 (up2 (up2 i 17 4 0) 17 5 (-9)) 18 9 0) 28 5 0) 28 8 0) 17 7 0) 17 8 (-9)) 17 9 (-9)) 18 9 1) (va_up (va_up (va_up (va_up (va_up (va_up (va_up (va_up (va_up F 19 (upd (F 19) (Int32.toNatClampNeg 0) 0)) 20 (upd (F 20) (Int32.toNatClampNeg 0) 0)) 21 (upd (F 21) (Int32.toNatClampNeg 0) (-9))) 22 (upd (F 22) (Int32.toNatClampNeg 0) 0)) 23 (upd (F 23) (Int32.toNatClampNeg 0) (-9))) 24 (upd (F 24) (Int32.toNatClampNeg 0) (-9))) 25 (upd (F 25) (Int32.toNatClampNeg 0) 0)) 26 (upd (F 26) (Int32.toNatClampNeg 0) (-9))) 27 (upd (F 27) (Int32.toNatClampNeg 0) (-9))) G  (by exact rfl) (by exact rfl)) C0 hH hS clX8 rfl ⟨⟨Nat.le_of_ble_eq_true rfl, Nat.le_of_ble_eq_true rfl⟩, rfl, rfl⟩ cw_X8_63 rfl ⟨Nat.le_of_ble_eq_true rfl, Nat.le_of_ble_eq_true rfl⟩ hl.1 rfl (Nat.le_of_ble_eq_true rfl) dX8_grow_67 ⟨Nat.le_of_ble_eq_true rfl, Nat.le_of_ble_eq_true rfl⟩ (fun ir2 Fr2 Gr2 _ locs hp hH hS => ?_)
  cases hp
  have hH : Hd D tA b 0 78 zz (up2 (up2 (up2 (up2 (up2 (up2 (up2 (up2 (up2 (up2 i 17 4 0) 17 5 (-9)) 18 9 0) 28 5 0) 28 8 0) 17 7 0) 17 8 (-9)) 17 9 (-9)) 18 9 1) 17 7 1) (va_up (va_up (va_up (va_up (va_up (va_up (va_up (va_up (va_up (va_up F 19 (upd (F 19) (Int32.toNatClampNeg 0) 0)) 20 (upd (F 20) (Int32.toNatClampNeg 0) 0)) 21 (upd (F 21) (Int32.toNatClampNeg 0) (-9))) 22 (upd (F 22) (Int32.toNatClampNeg 0) 0)) 23 (upd (F 23) (Int32.toNatClampNeg 0) (-9))) 24 (upd (F 24) (Int32.toNatClampNeg 0) (-9))) 25 (upd (F 25) (Int32.toNatClampNeg 0) 0)) 26 (upd (F 26) (Int32.toNatClampNeg 0) (-9))) 27 (upd (F 27) (Int32.toNatClampNeg 0) (-9))) 38 (upd (F 38) (Int32.toNatClampNeg 0) 0)) G _ := hH
  refine lv_iconst (pc := 70) (v := 0) C0.1 C0.2.1 dX8_grow_70 (by decide) ?_
  refine lv_istore_n (pc := 71) (lv' := [(3, .int 0), (0, .ref (b + 17)), (1, .ref (b + 9)), (2, .int x)]) C0.1 C0.2.1 dX8_grow_71 rfl hl (by decide) rfl (fun ls hl => ?_)
  exact LOOP 600 0 (up2 (up2 (up2 (up2 (up2 (up2 (up2 (up2 (up2 (up2 i 17 4 0) 17 5 (-9)) 18 9 0) 28 5 0) 28 8 0) 17 7 0) 17 8 (-9)) 17 9 (-9)) 18 9 1) 17 7 1) (va_up (va_up (va_up (va_up (va_up (va_up (va_up (va_up (va_up (va_up F 19 (upd (F 19) (Int32.toNatClampNeg 0) 0)) 20 (upd (F 20) (Int32.toNatClampNeg 0) 0)) 21 (upd (F 21) (Int32.toNatClampNeg 0) (-9))) 22 (upd (F 22) (Int32.toNatClampNeg 0) 0)) 23 (upd (F 23) (Int32.toNatClampNeg 0) (-9))) 24 (upd (F 24) (Int32.toNatClampNeg 0) (-9))) 25 (upd (F 25) (Int32.toNatClampNeg 0) 0)) 26 (upd (F 26) (Int32.toNatClampNeg 0) (-9))) 27 (upd (F 27) (Int32.toNatClampNeg 0) (-9))) 38 (upd (F 38) (Int32.toNatClampNeg 0) 0)) G _ _ _ (by decide) (by have : Int32.toInt 0 = 0 := rfl; omega) (by decide) (On.f (On.f (On.f (On.f (On.f (On.f (On.f (On.f (On.f (On.f (On.i (On.i (On.i (On.i (On.i (On.i (On.i (On.i (On.i (On.i On.rf (by decide)) (by decide)) (by decide)) (by decide)) (by decide)) (by decide)) (by decide)) (by decide)) (by decide)) (by decide)) (by decide)) (by decide)) (by decide)) (by decide)) (by decide)) (by decide)) (by decide)) (by decide)) (by decide)) (by decide)) (Tb17.init hF rfl rfl rfl rfl rfl rfl rfl rfl rfl rfl) (Pp17.zero (by show Int32.toInt 0 ≤ 0; decide)) hH hS (lv_sub hl [0, 1, 2, 3] rfl)
