set_option maxRecDepth 20000 in
theorem fl_X5_93 : Cond.fieldLink RX5 93 (TX8 0).1 (TX8 0).2.1 (TX8 0).2.2.1 ∈ WALL := wm 269 (by decide +kernel) rfl
set_option maxRecDepth 20000 in
theorem fl_X5_35 : Cond.fieldLink RX5 35 (TX5 3).1 (TX5 3).2.1 (TX5 3).2.2.1 ∈ WALL := wm 345 (by decide +kernel) rfl
set_option maxRecDepth 20000 in
theorem cw_X5_97 : CwV RX5 97 yX0_has cX0_has 2 (some .boolean) 1 := ⟨wm 891 (by decide +kernel) rfl, wm 713 (by decide +kernel) rfl, wm 714 (by decide +kernel) rfl, wm 7 (by decide +kernel) rfl, wm 715 rfl rfl, by decide +kernel⟩
set_option maxRecDepth 20000 in
theorem fl_X5_103 : Cond.fieldLink RX5 103 (TX0 0).1 (TX0 0).2.1 (TX0 0).2.2.1 ∈ WALL := wm 166 (by decide +kernel) rfl
set_option maxRecDepth 20000 in
theorem cw_X5_106 : CwN RX5 "IndentReader" 106 yX9_isStepped cX9_isStepped 1 (some .boolean) 1 := ⟨nm_ 892 (by decide +kernel) rfl, wm 1 (by decide +kernel) rfl, wm 534 rfl rfl, by decide +kernel⟩
set_option maxRecDepth 20000 in
theorem cw_X5_66 : CwV RX5 66 yX3_putApart cX3_putApart 1 none 0 := ⟨wm 893 (by decide +kernel) rfl, wm 894 (by decide +kernel) rfl, wm 895 (by decide +kernel) rfl, wm 10 (by decide +kernel) rfl, wm 896 rfl rfl, by decide +kernel⟩
set_option maxRecDepth 20000 in
theorem cw_X5_69 : CwV RX5 69 yX3_put cX3_put 2 none 1 := ⟨wm 901 (by decide +kernel) rfl, wm 898 (by decide +kernel) rfl, wm 899 (by decide +kernel) rfl, wm 10 (by decide +kernel) rfl, wm 900 rfl rfl, by decide +kernel⟩
set_option maxRecDepth 20000 in
theorem cw_X5_57 : CwV RX5 57 yX5_drawBrace cX5_drawBrace 4 none 3 := ⟨wm 887 (by decide +kernel) rfl, wm 889 (by decide +kernel) rfl, wms 26 (by decide +kernel) rfl, wm 9 (by decide +kernel) rfl, wm 890 rfl rfl, by decide +kernel⟩
set_option maxRecDepth 20000 in
theorem cw_X5_89 : CwV RX5 89 yX8_blockAround cX8_blockAround 3 (some .int) 1 := ⟨wm 902 (by decide +kernel) rfl, wm 868 (by decide +kernel) rfl, wm 869 (by decide +kernel) rfl, wm 6 (by decide +kernel) rfl, wm 870 rfl rfl, by decide +kernel⟩
set_option maxRecDepth 20000 in
theorem fl_X5_109 : Cond.fieldLink RX5 109 (TX5 2).1 (TX5 2).2.1 (TX5 2).2.2.1 ∈ WALL := wm 344 (by decide +kernel) rfl
set_option maxRecDepth 20000 in
theorem fl_X5_18 : Cond.fieldLink RX5 18 (TX4 1).1 (TX4 1).2.1 (TX4 1).2.2.1 ∈ WALL := wm 313 (by decide +kernel) rfl
set_option maxRecDepth 20000 in
theorem fl_X5_24 : Cond.fieldLink RX5 24 (TX8 1).1 (TX8 1).2.1 (TX8 1).2.2.1 ∈ WALL := wm 272 (by decide +kernel) rfl
set_option maxRecDepth 20000 in
theorem fl_X5_60 : Cond.fieldLink RX5 60 (TX2 2).1 (TX2 2).2.1 (TX2 2).2.2.1 ∈ WALL := wm 231 (by decide +kernel) rfl
set_option maxRecDepth 20000 in
theorem fl_X5_130 : Cond.fieldLink RX5 130 (TX8 2).1 (TX8 2).2.1 (TX8 2).2.2.1 ∈ WALL := wm 275 (by decide +kernel) rfl
set_option maxRecDepth 20000 in
theorem fl_X5_133 : Cond.fieldLink RX5 133 (TX0 3).1 (TX0 3).2.1 (TX0 3).2.2.1 ∈ WALL := wm 176 (by decide +kernel) rfl
set_option maxRecDepth 20000 in
theorem fl_X5_73 : Cond.fieldLink RX5 73 (TX4 0).1 (TX4 0).2.1 (TX4 0).2.2.1 ∈ WALL := wm 310 (by decide +kernel) rfl
set_option maxRecDepth 20000 in
theorem fl_X5_136 : Cond.fieldLink RX5 136 (TX7 5).1 (TX7 5).2.1 (TX7 5).2.2.1 ∈ WALL := wm 109 (by decide +kernel) rfl
set_option maxRecDepth 20000 in
theorem fl_X5_127 : Cond.fieldLink RX5 127 (TX3 1).1 (TX3 1).2.1 (TX3 1).2.2.1 ∈ WALL := wm 363 (by decide +kernel) rfl
set_option maxRecDepth 20000 in
theorem cw_X5_143 : CwV RX5 143 yX3_putBlanks cX3_putBlanks 3 none 1 := ⟨wm 940 (by decide +kernel) rfl, wm 941 (by decide +kernel) rfl, wm 942 (by decide +kernel) rfl, wm 10 (by decide +kernel) rfl, wm 943 rfl rfl, by decide +kernel⟩
set_option maxRecDepth 20000 in
theorem fl_X5_50 : Cond.fieldLink RX5 50 (TX2 0).1 (TX2 0).2.1 (TX2 0).2.2.1 ∈ WALL := wm 224 (by decide +kernel) rfl
set_option maxRecDepth 20000 in
theorem cw_X5_139 : CwV RX5 139 yX5_beginLine cX5_beginLine 3 none 2 := ⟨wm 936 (by decide +kernel) rfl, wm 938 (by decide +kernel) rfl, wms 32 (by decide +kernel) rfl, wm 9 (by decide +kernel) rfl, wm 939 rfl rfl, by decide +kernel⟩
set_option maxRecDepth 20000 in
theorem fl_X5_39 : Cond.fieldLink RX5 39 (TX2 8).1 (TX2 8).2.1 (TX2 8).2.2.1 ∈ WALL := wm 246 (by decide +kernel) rfl
set_option maxRecDepth 20000 in
theorem cw_X5_53 : CwV RX5 53 yX5_endBlocks cX5_endBlocks 5 none 3 := ⟨wm 883 (by decide +kernel) rfl, wm 885 (by decide +kernel) rfl, wms 25 (by decide +kernel) rfl, wm 9 (by decide +kernel) rfl, wm 886 rfl rfl, by decide +kernel⟩
set_option maxRecDepth 20000 in
theorem fl_X5_44 : Cond.fieldLink RX5 44 (TX2 6).1 (TX2 6).2.1 (TX2 6).2.2.1 ∈ WALL := wm 243 (by decide +kernel) rfl
set_option maxRecDepth 20000 in
theorem fl_X5_47 : Cond.fieldLink RX5 47 (TX2 7).1 (TX2 7).2.1 (TX2 7).2.2.1 ∈ WALL := wm 245 (by decide +kernel) rfl
set_option maxRecDepth 20000 in
theorem fl_X5_77 : Cond.fieldLink RX5 77 (TX7 1).1 (TX7 1).2.1 (TX7 1).2.2.1 ∈ WALL := wm 96 (by decide +kernel) rfl
set_option maxRecDepth 20000 in
theorem fl_X5_82 : Cond.fieldLink RX5 82 (TX7 2).1 (TX7 2).2.1 (TX7 2).2.2.1 ∈ WALL := wm 100 (by decide +kernel) rfl
set_option maxRecDepth 20000 in
theorem cw_X5_85 : CwV RX5 85 yX3_putToken cX3_putToken 5 none 3 := ⟨wm 903 (by decide +kernel) rfl, wm 904 (by decide +kernel) rfl, wm 905 (by decide +kernel) rfl, wm 10 (by decide +kernel) rfl, wm 906 rfl rfl, by decide +kernel⟩
set_option maxRecDepth 20000 in
theorem fl_X5_63 : Cond.fieldLink RX5 63 (TX2 1).1 (TX2 1).2.1 (TX2 1).2.2.1 ∈ WALL := wm 228 (by decide +kernel) rfl
set_option maxRecDepth 20000 in
theorem cw_X5_30 : CwV RX5 30 yX3_clear cX3_clear 1 none 0 := ⟨wm 879 (by decide +kernel) rfl, wm 880 (by decide +kernel) rfl, wm 881 (by decide +kernel) rfl, wm 10 (by decide +kernel) rfl, wm 882 rfl rfl, by decide +kernel⟩
set_option maxRecDepth 20000 in
theorem cw_X5_112 : CwV RX5 112 yX5_leaveTo cX5_leaveTo 5 (some .int) 2 := ⟨wm 920 (by decide +kernel) rfl, wm 922 (by decide +kernel) rfl, wms 28 (by decide +kernel) rfl, wm 9 (by decide +kernel) rfl, wm 923 rfl rfl, by decide +kernel⟩
set_option maxRecDepth 20000 in
theorem cw_X5_123 : CwV RX5 123 yX5_drawGap cX5_drawGap 10 none 6 := ⟨wm 932 (by decide +kernel) rfl, wm 934 (by decide +kernel) rfl, wms 31 (by decide +kernel) rfl, wm 9 (by decide +kernel) rfl, wm 935 rfl rfl, by decide +kernel⟩
set_option maxRecDepth 20000 in
theorem cw_X5_119 : CwV RX5 119 yX5_followsEmpty cX5_followsEmpty 5 (some .boolean) 3 := ⟨wm 928 (by decide +kernel) rfl, wm 930 (by decide +kernel) rfl, wms 30 (by decide +kernel) rfl, wm 9 (by decide +kernel) rfl, wm 931 rfl rfl, by decide +kernel⟩
set_option maxRecDepth 20000 in
theorem cw_X5_116 : CwV RX5 116 yX5_enterBlock cX5_enterBlock 2 none 1 := ⟨wm 924 (by decide +kernel) rfl, wm 926 (by decide +kernel) rfl, wms 29 (by decide +kernel) rfl, wm 9 (by decide +kernel) rfl, wm 927 rfl rfl, by decide +kernel⟩
theorem dX3_at_0 : decode cX3_at 0 = .ok (.iload_n 1, 1) := by decide +kernel
theorem dX3_at_1 : decode cX3_at 1 = .ok (.ifCond .lt 24, 3) := by decide +kernel
theorem dX3_at_25 : decode cX3_at 25 = .ok (.bipush (-9), 2) := by decide +kernel
theorem dX3_at_27 : decode cX3_at 27 = .ok (.ireturn, 1) := by decide +kernel
theorem dX3_at_4 : decode cX3_at 4 = .ok (.iload_n 1, 1) := by decide +kernel
theorem dX3_at_5 : decode cX3_at 5 = .ok (.aload_n 0, 1) := by decide +kernel
theorem dX3_at_6 : decode cX3_at 6 = .ok (.getfield 15, 3) := by decide +kernel
theorem dX3_at_9 : decode cX3_at 9 = .ok (.if_icmp .ge 16, 3) := by decide +kernel
theorem dX3_at_12 : decode cX3_at 12 = .ok (.aload_n 0, 1) := by decide +kernel
theorem dX3_at_13 : decode cX3_at 13 = .ok (.getfield 9, 3) := by decide +kernel
theorem dX3_at_16 : decode cX3_at 16 = .ok (.iload_n 1, 1) := by decide +kernel
theorem dX3_at_17 : decode cX3_at 17 = .ok (.baload, 1) := by decide +kernel
theorem dX3_at_18 : decode cX3_at 18 = .ok (.sipush 255, 3) := by decide +kernel
theorem dX3_at_21 : decode cX3_at 21 = .ok (.iand, 1) := by decide +kernel
theorem dX3_at_22 : decode cX3_at 22 = .ok (.goto 5, 3) := by decide +kernel
theorem dX5_drawBrace_0 : decode cX5_drawBrace 0 = .ok (.aload_n 1, 1) := by decide +kernel
theorem dX5_drawBrace_1 : decode cX5_drawBrace 1 = .ok (.getfield 93, 3) := by decide +kernel
theorem dX5_drawBrace_4 : decode cX5_drawBrace 4 = .ok (.aload_n 0, 1) := by decide +kernel
theorem dX5_drawBrace_5 : decode cX5_drawBrace 5 = .ok (.getfield 35, 3) := by decide +kernel
theorem dX5_drawBrace_8 : decode cX5_drawBrace 8 = .ok (.invokevirtual 97, 3) := by decide +kernel
theorem dX5_drawBrace_11 : decode cX5_drawBrace 11 = .ok (.ifCond .eq 30, 3) := by decide +kernel
theorem dX5_drawBrace_41 : decode cX5_drawBrace 41 = .ok (.return_, 1) := by decide +kernel
theorem dX5_drawBrace_14 : decode cX5_drawBrace 14 = .ok (.aload_n 1, 1) := by decide +kernel
theorem dX5_drawBrace_15 : decode cX5_drawBrace 15 = .ok (.getfield 93, 3) := by decide +kernel
theorem dX5_drawBrace_18 : decode cX5_drawBrace 18 = .ok (.getfield 103, 3) := by decide +kernel
theorem dX5_drawBrace_21 : decode cX5_drawBrace 21 = .ok (.aload_n 0, 1) := by decide +kernel
theorem dX5_drawBrace_22 : decode cX5_drawBrace 22 = .ok (.getfield 35, 3) := by decide +kernel
theorem dX5_drawBrace_25 : decode cX5_drawBrace 25 = .ok (.iaload, 1) := by decide +kernel
theorem dX5_drawBrace_26 : decode cX5_drawBrace 26 = .ok (.invokestatic 106, 3) := by decide +kernel
theorem dX5_drawBrace_29 : decode cX5_drawBrace 29 = .ok (.ifCond .eq 12, 3) := by decide +kernel
theorem dX5_drawBrace_32 : decode cX5_drawBrace 32 = .ok (.aload_n 3, 1) := by decide +kernel
theorem dX5_drawBrace_33 : decode cX5_drawBrace 33 = .ok (.invokevirtual 66, 3) := by decide +kernel
theorem dX5_drawBrace_36 : decode cX5_drawBrace 36 = .ok (.aload_n 3, 1) := by decide +kernel
theorem dX5_drawBrace_37 : decode cX5_drawBrace 37 = .ok (.iload_n 2, 1) := by decide +kernel
theorem dX5_drawBrace_38 : decode cX5_drawBrace 38 = .ok (.invokevirtual 69, 3) := by decide +kernel
theorem dX5_endBlocks_3 : decode cX5_endBlocks 3 = .ok (.iload 4, 2) := by decide +kernel
theorem dX5_endBlocks_5 : decode cX5_endBlocks 5 = .ok (.sipush 601, 3) := by decide +kernel
theorem dX5_endBlocks_8 : decode cX5_endBlocks 8 = .ok (.if_icmp .ge 46, 3) := by decide +kernel
theorem dX5_endBlocks_54 : decode cX5_endBlocks 54 = .ok (.return_, 1) := by decide +kernel
theorem dX5_endBlocks_11 : decode cX5_endBlocks 11 = .ok (.aload_n 0, 1) := by decide +kernel
theorem dX5_endBlocks_12 : decode cX5_endBlocks 12 = .ok (.getfield 35, 3) := by decide +kernel
theorem dX5_endBlocks_15 : decode cX5_endBlocks 15 = .ok (.iload_n 2, 1) := by decide +kernel
theorem dX5_endBlocks_16 : decode cX5_endBlocks 16 = .ok (.if_icmp .eq 38, 3) := by decide +kernel
theorem dX5_endBlocks_19 : decode cX5_endBlocks 19 = .ok (.aload_n 0, 1) := by decide +kernel
theorem dX5_endBlocks_20 : decode cX5_endBlocks 20 = .ok (.getfield 35, 3) := by decide +kernel
theorem dX5_endBlocks_23 : decode cX5_endBlocks 23 = .ok (.bipush (-9), 2) := by decide +kernel
theorem dX5_endBlocks_25 : decode cX5_endBlocks 25 = .ok (.if_icmp .eq 29, 3) := by decide +kernel
theorem dX5_endBlocks_28 : decode cX5_endBlocks 28 = .ok (.aload_n 0, 1) := by decide +kernel
theorem dX5_endBlocks_29 : decode cX5_endBlocks 29 = .ok (.aload_n 1, 1) := by decide +kernel
theorem dX5_endBlocks_30 : decode cX5_endBlocks 30 = .ok (.bipush 125, 2) := by decide +kernel
theorem dX5_endBlocks_32 : decode cX5_endBlocks 32 = .ok (.aload_n 3, 1) := by decide +kernel
theorem dX5_endBlocks_33 : decode cX5_endBlocks 33 = .ok (.invokevirtual 57, 3) := by decide +kernel
theorem dX5_endBlocks_36 : decode cX5_endBlocks 36 = .ok (.aload_n 0, 1) := by decide +kernel
theorem dX5_endBlocks_37 : decode cX5_endBlocks 37 = .ok (.aload_n 1, 1) := by decide +kernel
theorem dX5_endBlocks_38 : decode cX5_endBlocks 38 = .ok (.aload_n 0, 1) := by decide +kernel
theorem dX5_endBlocks_39 : decode cX5_endBlocks 39 = .ok (.getfield 35, 3) := by decide +kernel
theorem dX5_endBlocks_42 : decode cX5_endBlocks 42 = .ok (.invokevirtual 89, 3) := by decide +kernel
theorem dX5_endBlocks_45 : decode cX5_endBlocks 45 = .ok (.putfield 35, 3) := by decide +kernel
theorem dX5_endBlocks_48 : decode cX5_endBlocks 48 = .ok (.iinc 4 1, 3) := by decide +kernel
theorem dX5_endBlocks_51 : decode cX5_endBlocks 51 = .ok (.goto (-48), 3) := by decide +kernel
theorem dX5_endBlocks_0 : decode cX5_endBlocks 0 = .ok (.iconst 0, 1) := by decide +kernel
theorem dX5_endBlocks_1 : decode cX5_endBlocks 1 = .ok (.istore 4, 2) := by decide +kernel
theorem dX5_leaveTo_6 : decode cX5_leaveTo 6 = .ok (.iload 4, 2) := by decide +kernel
theorem dX5_leaveTo_8 : decode cX5_leaveTo 8 = .ok (.sipush 601, 3) := by decide +kernel
theorem dX5_leaveTo_11 : decode cX5_leaveTo 11 = .ok (.if_icmp .ge 43, 3) := by decide +kernel
theorem dX5_leaveTo_54 : decode cX5_leaveTo 54 = .ok (.iload_n 3, 1) := by decide +kernel
theorem dX5_leaveTo_55 : decode cX5_leaveTo 55 = .ok (.ireturn, 1) := by decide +kernel
theorem dX5_leaveTo_14 : decode cX5_leaveTo 14 = .ok (.aload_n 0, 1) := by decide +kernel
theorem dX5_leaveTo_15 : decode cX5_leaveTo 15 = .ok (.getfield 35, 3) := by decide +kernel
theorem dX5_leaveTo_18 : decode cX5_leaveTo 18 = .ok (.iload_n 2, 1) := by decide +kernel
theorem dX5_leaveTo_19 : decode cX5_leaveTo 19 = .ok (.if_icmp .eq 35, 3) := by decide +kernel
theorem dX5_leaveTo_22 : decode cX5_leaveTo 22 = .ok (.aload_n 0, 1) := by decide +kernel
theorem dX5_leaveTo_23 : decode cX5_leaveTo 23 = .ok (.getfield 35, 3) := by decide +kernel
theorem dX5_leaveTo_26 : decode cX5_leaveTo 26 = .ok (.bipush (-9), 2) := by decide +kernel
theorem dX5_leaveTo_28 : decode cX5_leaveTo 28 = .ok (.if_icmp .eq 26, 3) := by decide +kernel
theorem dX5_leaveTo_31 : decode cX5_leaveTo 31 = .ok (.aload_n 0, 1) := by decide +kernel
theorem dX5_leaveTo_32 : decode cX5_leaveTo 32 = .ok (.getfield 35, 3) := by decide +kernel
theorem dX5_leaveTo_35 : decode cX5_leaveTo 35 = .ok (.istore_n 3, 1) := by decide +kernel
theorem dX5_leaveTo_36 : decode cX5_leaveTo 36 = .ok (.aload_n 0, 1) := by decide +kernel
theorem dX5_leaveTo_37 : decode cX5_leaveTo 37 = .ok (.aload_n 1, 1) := by decide +kernel
theorem dX5_leaveTo_38 : decode cX5_leaveTo 38 = .ok (.aload_n 0, 1) := by decide +kernel
theorem dX5_leaveTo_39 : decode cX5_leaveTo 39 = .ok (.getfield 35, 3) := by decide +kernel
theorem dX5_leaveTo_42 : decode cX5_leaveTo 42 = .ok (.invokevirtual 89, 3) := by decide +kernel
theorem dX5_leaveTo_45 : decode cX5_leaveTo 45 = .ok (.putfield 35, 3) := by decide +kernel
theorem dX5_leaveTo_48 : decode cX5_leaveTo 48 = .ok (.iinc 4 1, 3) := by decide +kernel
theorem dX5_leaveTo_51 : decode cX5_leaveTo 51 = .ok (.goto (-45), 3) := by decide +kernel
theorem dX5_leaveTo_0 : decode cX5_leaveTo 0 = .ok (.bipush (-9), 2) := by decide +kernel
theorem dX5_leaveTo_2 : decode cX5_leaveTo 2 = .ok (.istore_n 3, 1) := by decide +kernel
theorem dX5_leaveTo_3 : decode cX5_leaveTo 3 = .ok (.iconst 0, 1) := by decide +kernel
theorem dX5_leaveTo_4 : decode cX5_leaveTo 4 = .ok (.istore 4, 2) := by decide +kernel
theorem dX5_enterBlock_0 : decode cX5_enterBlock 0 = .ok (.iload_n 1, 1) := by decide +kernel
theorem dX5_enterBlock_1 : decode cX5_enterBlock 1 = .ok (.ifCond .lt 27, 3) := by decide +kernel
theorem dX5_enterBlock_28 : decode cX5_enterBlock 28 = .ok (.return_, 1) := by decide +kernel
theorem dX5_enterBlock_4 : decode cX5_enterBlock 4 = .ok (.iload_n 1, 1) := by decide +kernel
theorem dX5_enterBlock_5 : decode cX5_enterBlock 5 = .ok (.aload_n 0, 1) := by decide +kernel
theorem dX5_enterBlock_6 : decode cX5_enterBlock 6 = .ok (.getfield 9, 3) := by decide +kernel
theorem dX5_enterBlock_9 : decode cX5_enterBlock 9 = .ok (.arraylength, 1) := by decide +kernel
theorem dX5_enterBlock_10 : decode cX5_enterBlock 10 = .ok (.if_icmp .ge 18, 3) := by decide +kernel
theorem dX5_enterBlock_13 : decode cX5_enterBlock 13 = .ok (.aload_n 0, 1) := by decide +kernel
theorem dX5_enterBlock_14 : decode cX5_enterBlock 14 = .ok (.getfield 9, 3) := by decide +kernel
theorem dX5_enterBlock_17 : decode cX5_enterBlock 17 = .ok (.iload_n 1, 1) := by decide +kernel
theorem dX5_enterBlock_18 : decode cX5_enterBlock 18 = .ok (.aload_n 0, 1) := by decide +kernel
theorem dX5_enterBlock_19 : decode cX5_enterBlock 19 = .ok (.getfield 109, 3) := by decide +kernel
theorem dX5_enterBlock_22 : decode cX5_enterBlock 22 = .ok (.iastore, 1) := by decide +kernel
theorem dX5_enterBlock_23 : decode cX5_enterBlock 23 = .ok (.aload_n 0, 1) := by decide +kernel
theorem dX5_enterBlock_24 : decode cX5_enterBlock 24 = .ok (.iload_n 1, 1) := by decide +kernel
theorem dX5_enterBlock_25 : decode cX5_enterBlock 25 = .ok (.putfield 35, 3) := by decide +kernel
theorem dX5_followsEmpty_0 : decode cX5_followsEmpty 0 = .ok (.aload_n 1, 1) := by decide +kernel
theorem dX5_followsEmpty_1 : decode cX5_followsEmpty 1 = .ok (.getfield 18, 3) := by decide +kernel
theorem dX5_followsEmpty_4 : decode cX5_followsEmpty 4 = .ok (.getfield 93, 3) := by decide +kernel
theorem dX5_followsEmpty_7 : decode cX5_followsEmpty 7 = .ok (.astore 4, 2) := by decide +kernel
theorem dX5_followsEmpty_9 : decode cX5_followsEmpty 9 = .ok (.aload 4, 2) := by decide +kernel
theorem dX5_followsEmpty_11 : decode cX5_followsEmpty 11 = .ok (.iload_n 2, 1) := by decide +kernel
theorem dX5_followsEmpty_12 : decode cX5_followsEmpty 12 = .ok (.invokevirtual 97, 3) := by decide +kernel
theorem dX5_followsEmpty_15 : decode cX5_followsEmpty 15 = .ok (.ifCond .eq 55, 3) := by decide +kernel
theorem dX5_followsEmpty_70 : decode cX5_followsEmpty 70 = .ok (.iconst 0, 1) := by decide +kernel
theorem dX5_followsEmpty_71 : decode cX5_followsEmpty 71 = .ok (.ireturn, 1) := by decide +kernel
theorem dX5_followsEmpty_18 : decode cX5_followsEmpty 18 = .ok (.iload_n 3, 1) := by decide +kernel
theorem dX5_followsEmpty_19 : decode cX5_followsEmpty 19 = .ok (.aload_n 1, 1) := by decide +kernel
theorem dX5_followsEmpty_20 : decode cX5_followsEmpty 20 = .ok (.getfield 18, 3) := by decide +kernel
theorem dX5_followsEmpty_23 : decode cX5_followsEmpty 23 = .ok (.getfield 24, 3) := by decide +kernel
theorem dX5_followsEmpty_26 : decode cX5_followsEmpty 26 = .ok (.getfield 60, 3) := by decide +kernel
theorem dX5_followsEmpty_29 : decode cX5_followsEmpty 29 = .ok (.aload_n 1, 1) := by decide +kernel
theorem dX5_followsEmpty_30 : decode cX5_followsEmpty 30 = .ok (.getfield 18, 3) := by decide +kernel
theorem dX5_followsEmpty_33 : decode cX5_followsEmpty 33 = .ok (.getfield 130, 3) := by decide +kernel
theorem dX5_followsEmpty_36 : decode cX5_followsEmpty 36 = .ok (.iload_n 3, 1) := by decide +kernel
theorem dX5_followsEmpty_37 : decode cX5_followsEmpty 37 = .ok (.iaload, 1) := by decide +kernel
theorem dX5_followsEmpty_38 : decode cX5_followsEmpty 38 = .ok (.iaload, 1) := by decide +kernel
theorem dX5_followsEmpty_39 : decode cX5_followsEmpty 39 = .ok (.if_icmp .eq 31, 3) := by decide +kernel
theorem dX5_followsEmpty_42 : decode cX5_followsEmpty 42 = .ok (.aload 4, 2) := by decide +kernel
theorem dX5_followsEmpty_44 : decode cX5_followsEmpty 44 = .ok (.getfield 133, 3) := by decide +kernel
theorem dX5_followsEmpty_47 : decode cX5_followsEmpty 47 = .ok (.iload_n 2, 1) := by decide +kernel
theorem dX5_followsEmpty_48 : decode cX5_followsEmpty 48 = .ok (.iaload, 1) := by decide +kernel
theorem dX5_followsEmpty_49 : decode cX5_followsEmpty 49 = .ok (.ifCond .ne 21, 3) := by decide +kernel
theorem dX5_followsEmpty_52 : decode cX5_followsEmpty 52 = .ok (.aload_n 1, 1) := by decide +kernel
theorem dX5_followsEmpty_53 : decode cX5_followsEmpty 53 = .ok (.getfield 73, 3) := by decide +kernel
theorem dX5_followsEmpty_56 : decode cX5_followsEmpty 56 = .ok (.getfield 136, 3) := by decide +kernel
theorem dX5_followsEmpty_59 : decode cX5_followsEmpty 59 = .ok (.iload_n 3, 1) := by decide +kernel
theorem dX5_followsEmpty_60 : decode cX5_followsEmpty 60 = .ok (.iaload, 1) := by decide +kernel
theorem dX5_followsEmpty_61 : decode cX5_followsEmpty 61 = .ok (.bipush 6, 2) := by decide +kernel
theorem dX5_followsEmpty_63 : decode cX5_followsEmpty 63 = .ok (.if_icmp .eq 7, 3) := by decide +kernel
theorem dX5_followsEmpty_66 : decode cX5_followsEmpty 66 = .ok (.iconst 1, 1) := by decide +kernel
theorem dX5_followsEmpty_67 : decode cX5_followsEmpty 67 = .ok (.goto 4, 3) := by decide +kernel
theorem dX5_beginLine_0 : decode cX5_beginLine 0 = .ok (.aload_n 2, 1) := by decide +kernel
theorem dX5_beginLine_1 : decode cX5_beginLine 1 = .ok (.getfield 127, 3) := by decide +kernel
theorem dX5_beginLine_4 : decode cX5_beginLine 4 = .ok (.ifCond .le 9, 3) := by decide +kernel
theorem dX5_beginLine_13 : decode cX5_beginLine 13 = .ok (.aload_n 2, 1) := by decide +kernel
theorem dX5_beginLine_14 : decode cX5_beginLine 14 = .ok (.iload_n 1, 1) := by decide +kernel
theorem dX5_beginLine_15 : decode cX5_beginLine 15 = .ok (.invokevirtual 143, 3) := by decide +kernel
theorem dX5_beginLine_18 : decode cX5_beginLine 18 = .ok (.aload_n 0, 1) := by decide +kernel
theorem dX5_beginLine_19 : decode cX5_beginLine 19 = .ok (.iload_n 1, 1) := by decide +kernel
theorem dX5_beginLine_20 : decode cX5_beginLine 20 = .ok (.putfield 109, 3) := by decide +kernel
theorem dX5_beginLine_23 : decode cX5_beginLine 23 = .ok (.return_, 1) := by decide +kernel
theorem dX5_beginLine_7 : decode cX5_beginLine 7 = .ok (.aload_n 2, 1) := by decide +kernel
theorem dX5_beginLine_8 : decode cX5_beginLine 8 = .ok (.bipush 10, 2) := by decide +kernel
theorem dX5_beginLine_10 : decode cX5_beginLine 10 = .ok (.invokevirtual 69, 3) := by decide +kernel
theorem dX5_drawGap_0 : decode cX5_drawGap 0 = .ok (.aload_n 1, 1) := by decide +kernel
theorem dX5_drawGap_1 : decode cX5_drawGap 1 = .ok (.getfield 93, 3) := by decide +kernel
theorem dX5_drawGap_4 : decode cX5_drawGap 4 = .ok (.astore 7, 2) := by decide +kernel
theorem dX5_drawGap_6 : decode cX5_drawGap 6 = .ok (.aload_n 1, 1) := by decide +kernel
theorem dX5_drawGap_7 : decode cX5_drawGap 7 = .ok (.getfield 24, 3) := by decide +kernel
theorem dX5_drawGap_10 : decode cX5_drawGap 10 = .ok (.getfield 50, 3) := by decide +kernel
theorem dX5_drawGap_13 : decode cX5_drawGap 13 = .ok (.iload_n 2, 1) := by decide +kernel
theorem dX5_drawGap_14 : decode cX5_drawGap 14 = .ok (.iaload, 1) := by decide +kernel
theorem dX5_drawGap_15 : decode cX5_drawGap 15 = .ok (.istore 8, 2) := by decide +kernel
theorem dX5_drawGap_17 : decode cX5_drawGap 17 = .ok (.aload 7, 2) := by decide +kernel
theorem dX5_drawGap_19 : decode cX5_drawGap 19 = .ok (.getfield 103, 3) := by decide +kernel
theorem dX5_drawGap_22 : decode cX5_drawGap 22 = .ok (.iload 8, 2) := by decide +kernel
theorem dX5_drawGap_24 : decode cX5_drawGap 24 = .ok (.iaload, 1) := by decide +kernel
theorem dX5_drawGap_25 : decode cX5_drawGap 25 = .ok (.istore 9, 2) := by decide +kernel
theorem dX5_drawGap_27 : decode cX5_drawGap 27 = .ok (.iload_n 3, 1) := by decide +kernel
theorem dX5_drawGap_28 : decode cX5_drawGap 28 = .ok (.aload_n 1, 1) := by decide +kernel
theorem dX5_drawGap_29 : decode cX5_drawGap 29 = .ok (.getfield 24, 3) := by decide +kernel
theorem dX5_drawGap_32 : decode cX5_drawGap 32 = .ok (.getfield 60, 3) := by decide +kernel
theorem dX5_drawGap_35 : decode cX5_drawGap 35 = .ok (.iload_n 2, 1) := by decide +kernel
theorem dX5_drawGap_36 : decode cX5_drawGap 36 = .ok (.iaload, 1) := by decide +kernel
theorem dX5_drawGap_37 : decode cX5_drawGap 37 = .ok (.if_icmp .ne 51, 3) := by decide +kernel
theorem dX5_drawGap_88 : decode cX5_drawGap 88 = .ok (.iload_n 3, 1) := by decide +kernel
theorem dX5_drawGap_89 : decode cX5_drawGap 89 = .ok (.aload_n 1, 1) := by decide +kernel
theorem dX5_drawGap_90 : decode cX5_drawGap 90 = .ok (.getfield 24, 3) := by decide +kernel
theorem dX5_drawGap_93 : decode cX5_drawGap 93 = .ok (.getfield 60, 3) := by decide +kernel
theorem dX5_drawGap_96 : decode cX5_drawGap 96 = .ok (.iload_n 2, 1) := by decide +kernel
theorem dX5_drawGap_97 : decode cX5_drawGap 97 = .ok (.iaload, 1) := by decide +kernel
theorem dX5_drawGap_98 : decode cX5_drawGap 98 = .ok (.if_icmp .eq 72, 3) := by decide +kernel
theorem dX5_drawGap_170 : decode cX5_drawGap 170 = .ok (.aload 5, 2) := by decide +kernel
theorem dX5_drawGap_172 : decode cX5_drawGap 172 = .ok (.bipush 32, 2) := by decide +kernel
theorem dX5_drawGap_174 : decode cX5_drawGap 174 = .ok (.invokevirtual 69, 3) := by decide +kernel
theorem dX5_drawGap_177 : decode cX5_drawGap 177 = .ok (.return_, 1) := by decide +kernel
theorem dX5_drawGap_101 : decode cX5_drawGap 101 = .ok (.aload 7, 2) := by decide +kernel
theorem dX5_drawGap_103 : decode cX5_drawGap 103 = .ok (.iload 4, 2) := by decide +kernel
theorem dX5_drawGap_105 : decode cX5_drawGap 105 = .ok (.invokevirtual 97, 3) := by decide +kernel
theorem dX5_drawGap_108 : decode cX5_drawGap 108 = .ok (.ifCond .eq 62, 3) := by decide +kernel
theorem dX5_drawGap_111 : decode cX5_drawGap 111 = .ok (.aload 7, 2) := by decide +kernel
theorem dX5_drawGap_113 : decode cX5_drawGap 113 = .ok (.getfield 103, 3) := by decide +kernel
theorem dX5_drawGap_116 : decode cX5_drawGap 116 = .ok (.iload 4, 2) := by decide +kernel
theorem dX5_drawGap_118 : decode cX5_drawGap 118 = .ok (.iaload, 1) := by decide +kernel
theorem dX5_drawGap_119 : decode cX5_drawGap 119 = .ok (.invokestatic 106, 3) := by decide +kernel
theorem dX5_drawGap_122 : decode cX5_drawGap 122 = .ok (.ifCond .eq 48, 3) := by decide +kernel
theorem dX5_drawGap_125 : decode cX5_drawGap 125 = .ok (.aload 7, 2) := by decide +kernel
theorem dX5_drawGap_127 : decode cX5_drawGap 127 = .ok (.getfield 133, 3) := by decide +kernel
theorem dX5_drawGap_130 : decode cX5_drawGap 130 = .ok (.iload 4, 2) := by decide +kernel
theorem dX5_drawGap_132 : decode cX5_drawGap 132 = .ok (.iaload, 1) := by decide +kernel
theorem dX5_drawGap_133 : decode cX5_drawGap 133 = .ok (.ifCond .le 37, 3) := by decide +kernel
theorem dX5_drawGap_136 : decode cX5_drawGap 136 = .ok (.aload_n 0, 1) := by decide +kernel
theorem dX5_drawGap_137 : decode cX5_drawGap 137 = .ok (.aload_n 0, 1) := by decide +kernel
theorem dX5_drawGap_138 : decode cX5_drawGap 138 = .ok (.getfield 15, 3) := by decide +kernel
theorem dX5_drawGap_141 : decode cX5_drawGap 141 = .ok (.iload_n 2, 1) := by decide +kernel
theorem dX5_drawGap_142 : decode cX5_drawGap 142 = .ok (.iaload, 1) := by decide +kernel
theorem dX5_drawGap_143 : decode cX5_drawGap 143 = .ok (.iload 9, 2) := by decide +kernel
theorem dX5_drawGap_145 : decode cX5_drawGap 145 = .ok (.iconst 3, 1) := by decide +kernel
theorem dX5_drawGap_146 : decode cX5_drawGap 146 = .ok (.if_icmp .eq 9, 3) := by decide +kernel
theorem dX5_drawGap_155 : decode cX5_drawGap 155 = .ok (.iload 6, 2) := by decide +kernel
theorem dX5_drawGap_157 : decode cX5_drawGap 157 = .ok (.goto 4, 3) := by decide +kernel
theorem dX5_drawGap_161 : decode cX5_drawGap 161 = .ok (.iadd, 1) := by decide +kernel
theorem dX5_drawGap_162 : decode cX5_drawGap 162 = .ok (.aload 5, 2) := by decide +kernel
theorem dX5_drawGap_164 : decode cX5_drawGap 164 = .ok (.invokevirtual 139, 3) := by decide +kernel
theorem dX5_drawGap_167 : decode cX5_drawGap 167 = .ok (.goto 10, 3) := by decide +kernel
theorem dX5_drawGap_149 : decode cX5_drawGap 149 = .ok (.iload 9, 2) := by decide +kernel
theorem dX5_drawGap_151 : decode cX5_drawGap 151 = .ok (.iconst 5, 1) := by decide +kernel
theorem dX5_drawGap_152 : decode cX5_drawGap 152 = .ok (.if_icmp .ne 8, 3) := by decide +kernel
theorem dX5_drawGap_160 : decode cX5_drawGap 160 = .ok (.iconst 0, 1) := by decide +kernel
theorem dX5_drawGap_40 : decode cX5_drawGap 40 = .ok (.iload 9, 2) := by decide +kernel
theorem dX5_drawGap_42 : decode cX5_drawGap 42 = .ok (.iconst 4, 1) := by decide +kernel
theorem dX5_drawGap_43 : decode cX5_drawGap 43 = .ok (.if_icmp .eq 45, 3) := by decide +kernel
theorem dX5_drawGap_46 : decode cX5_drawGap 46 = .ok (.aload_n 0, 1) := by decide +kernel
theorem dX5_drawGap_47 : decode cX5_drawGap 47 = .ok (.getfield 15, 3) := by decide +kernel
theorem dX5_drawGap_50 : decode cX5_drawGap 50 = .ok (.iload_n 2, 1) := by decide +kernel
theorem dX5_drawGap_51 : decode cX5_drawGap 51 = .ok (.iload 9, 2) := by decide +kernel
theorem dX5_drawGap_53 : decode cX5_drawGap 53 = .ok (.ifCond .ne 7, 3) := by decide +kernel
theorem dX5_drawGap_60 : decode cX5_drawGap 60 = .ok (.aload_n 0, 1) := by decide +kernel
theorem dX5_drawGap_61 : decode cX5_drawGap 61 = .ok (.getfield 9, 3) := by decide +kernel
theorem dX5_drawGap_64 : decode cX5_drawGap 64 = .ok (.iload 8, 2) := by decide +kernel
theorem dX5_drawGap_66 : decode cX5_drawGap 66 = .ok (.iaload, 1) := by decide +kernel
theorem dX5_drawGap_67 : decode cX5_drawGap 67 = .ok (.iconst 2, 1) := by decide +kernel
theorem dX5_drawGap_68 : decode cX5_drawGap 68 = .ok (.iload 6, 2) := by decide +kernel
theorem dX5_drawGap_70 : decode cX5_drawGap 70 = .ok (.imul, 1) := by decide +kernel
theorem dX5_drawGap_71 : decode cX5_drawGap 71 = .ok (.iadd, 1) := by decide +kernel
theorem dX5_drawGap_72 : decode cX5_drawGap 72 = .ok (.iastore, 1) := by decide +kernel
theorem dX5_drawGap_73 : decode cX5_drawGap 73 = .ok (.aload_n 0, 1) := by decide +kernel
theorem dX5_drawGap_74 : decode cX5_drawGap 74 = .ok (.aload_n 0, 1) := by decide +kernel
theorem dX5_drawGap_75 : decode cX5_drawGap 75 = .ok (.getfield 15, 3) := by decide +kernel
theorem dX5_drawGap_78 : decode cX5_drawGap 78 = .ok (.iload_n 2, 1) := by decide +kernel
theorem dX5_drawGap_79 : decode cX5_drawGap 79 = .ok (.iaload, 1) := by decide +kernel
theorem dX5_drawGap_80 : decode cX5_drawGap 80 = .ok (.aload 5, 2) := by decide +kernel
theorem dX5_drawGap_82 : decode cX5_drawGap 82 = .ok (.invokevirtual 139, 3) := by decide +kernel
theorem dX5_drawGap_85 : decode cX5_drawGap 85 = .ok (.goto 92, 3) := by decide +kernel
theorem dX5_drawGap_56 : decode cX5_drawGap 56 = .ok (.iconst 0, 1) := by decide +kernel
theorem dX5_drawGap_57 : decode cX5_drawGap 57 = .ok (.goto 15, 3) := by decide +kernel
theorem dX5_drawPlainly_25 : decode cX5_drawPlainly 25 = .ok (.iload 6, 2) := by decide +kernel
theorem dX5_drawPlainly_27 : decode cX5_drawPlainly 27 = .ok (.aload 5, 2) := by decide +kernel
theorem dX5_drawPlainly_29 : decode cX5_drawPlainly 29 = .ok (.getfield 39, 3) := by decide +kernel
theorem dX5_drawPlainly_32 : decode cX5_drawPlainly 32 = .ok (.if_icmp .ge 133, 3) := by decide +kernel
theorem dX5_drawPlainly_165 : decode cX5_drawPlainly 165 = .ok (.aload_n 0, 1) := by decide +kernel
theorem dX5_drawPlainly_166 : decode cX5_drawPlainly 166 = .ok (.aload 4, 2) := by decide +kernel
theorem dX5_drawPlainly_168 : decode cX5_drawPlainly 168 = .ok (.iconst 0, 1) := by decide +kernel
theorem dX5_drawPlainly_169 : decode cX5_drawPlainly 169 = .ok (.aload_n 3, 1) := by decide +kernel
theorem dX5_drawPlainly_170 : decode cX5_drawPlainly 170 = .ok (.invokevirtual 53, 3) := by decide +kernel
theorem dX5_drawPlainly_173 : decode cX5_drawPlainly 173 = .ok (.return_, 1) := by decide +kernel
theorem dX5_drawPlainly_35 : decode cX5_drawPlainly 35 = .ok (.aload 5, 2) := by decide +kernel
theorem dX5_drawPlainly_37 : decode cX5_drawPlainly 37 = .ok (.getfield 44, 3) := by decide +kernel
theorem dX5_drawPlainly_40 : decode cX5_drawPlainly 40 = .ok (.iload 6, 2) := by decide +kernel
theorem dX5_drawPlainly_42 : decode cX5_drawPlainly 42 = .ok (.iaload, 1) := by decide +kernel
theorem dX5_drawPlainly_43 : decode cX5_drawPlainly 43 = .ok (.istore 7, 2) := by decide +kernel
theorem dX5_drawPlainly_45 : decode cX5_drawPlainly 45 = .ok (.aload 5, 2) := by decide +kernel
theorem dX5_drawPlainly_47 : decode cX5_drawPlainly 47 = .ok (.getfield 47, 3) := by decide +kernel
theorem dX5_drawPlainly_50 : decode cX5_drawPlainly 50 = .ok (.iload 6, 2) := by decide +kernel
theorem dX5_drawPlainly_52 : decode cX5_drawPlainly 52 = .ok (.iaload, 1) := by decide +kernel
theorem dX5_drawPlainly_53 : decode cX5_drawPlainly 53 = .ok (.istore 8, 2) := by decide +kernel
theorem dX5_drawPlainly_55 : decode cX5_drawPlainly 55 = .ok (.aload_n 0, 1) := by decide +kernel
theorem dX5_drawPlainly_56 : decode cX5_drawPlainly 56 = .ok (.aload 4, 2) := by decide +kernel
theorem dX5_drawPlainly_58 : decode cX5_drawPlainly 58 = .ok (.aload 5, 2) := by decide +kernel
theorem dX5_drawPlainly_60 : decode cX5_drawPlainly 60 = .ok (.getfield 50, 3) := by decide +kernel
theorem dX5_drawPlainly_63 : decode cX5_drawPlainly 63 = .ok (.iload 7, 2) := by decide +kernel
theorem dX5_drawPlainly_65 : decode cX5_drawPlainly 65 = .ok (.iaload, 1) := by decide +kernel
theorem dX5_drawPlainly_66 : decode cX5_drawPlainly 66 = .ok (.aload_n 3, 1) := by decide +kernel
theorem dX5_drawPlainly_67 : decode cX5_drawPlainly 67 = .ok (.invokevirtual 53, 3) := by decide +kernel
theorem dX5_drawPlainly_70 : decode cX5_drawPlainly 70 = .ok (.iload 8, 2) := by decide +kernel
theorem dX5_drawPlainly_72 : decode cX5_drawPlainly 72 = .ok (.ifCond .ge 24, 3) := by decide +kernel
theorem dX5_drawPlainly_96 : decode cX5_drawPlainly 96 = .ok (.iload 8, 2) := by decide +kernel
theorem dX5_drawPlainly_98 : decode cX5_drawPlainly 98 = .ok (.aload 5, 2) := by decide +kernel
theorem dX5_drawPlainly_100 : decode cX5_drawPlainly 100 = .ok (.getfield 60, 3) := by decide +kernel
theorem dX5_drawPlainly_103 : decode cX5_drawPlainly 103 = .ok (.iload 7, 2) := by decide +kernel
theorem dX5_drawPlainly_105 : decode cX5_drawPlainly 105 = .ok (.iaload, 1) := by decide +kernel
theorem dX5_drawPlainly_106 : decode cX5_drawPlainly 106 = .ok (.if_icmp .ne 24, 3) := by decide +kernel
theorem dX5_drawPlainly_130 : decode cX5_drawPlainly 130 = .ok (.aload_n 3, 1) := by decide +kernel
theorem dX5_drawPlainly_131 : decode cX5_drawPlainly 131 = .ok (.invokevirtual 66, 3) := by decide +kernel
theorem dX5_drawPlainly_134 : decode cX5_drawPlainly 134 = .ok (.aload_n 3, 1) := by decide +kernel
theorem dX5_drawPlainly_135 : decode cX5_drawPlainly 135 = .ok (.aload_n 2, 1) := by decide +kernel
theorem dX5_drawPlainly_136 : decode cX5_drawPlainly 136 = .ok (.aload_n 1, 1) := by decide +kernel
theorem dX5_drawPlainly_137 : decode cX5_drawPlainly 137 = .ok (.getfield 73, 3) := by decide +kernel
theorem dX5_drawPlainly_140 : decode cX5_drawPlainly 140 = .ok (.getfield 77, 3) := by decide +kernel
theorem dX5_drawPlainly_143 : decode cX5_drawPlainly 143 = .ok (.iload 8, 2) := by decide +kernel
theorem dX5_drawPlainly_145 : decode cX5_drawPlainly 145 = .ok (.iaload, 1) := by decide +kernel
theorem dX5_drawPlainly_146 : decode cX5_drawPlainly 146 = .ok (.aload_n 1, 1) := by decide +kernel
theorem dX5_drawPlainly_147 : decode cX5_drawPlainly 147 = .ok (.getfield 73, 3) := by decide +kernel
theorem dX5_drawPlainly_150 : decode cX5_drawPlainly 150 = .ok (.getfield 82, 3) := by decide +kernel
theorem dX5_drawPlainly_153 : decode cX5_drawPlainly 153 = .ok (.iload 8, 2) := by decide +kernel
theorem dX5_drawPlainly_155 : decode cX5_drawPlainly 155 = .ok (.iaload, 1) := by decide +kernel
theorem dX5_drawPlainly_156 : decode cX5_drawPlainly 156 = .ok (.invokevirtual 85, 3) := by decide +kernel
theorem dX5_drawPlainly_159 : decode cX5_drawPlainly 159 = .ok (.iinc 6 1, 3) := by decide +kernel
theorem dX5_drawPlainly_162 : decode cX5_drawPlainly 162 = .ok (.goto (-137), 3) := by decide +kernel
theorem dX5_drawPlainly_109 : decode cX5_drawPlainly 109 = .ok (.aload 5, 2) := by decide +kernel
theorem dX5_drawPlainly_111 : decode cX5_drawPlainly 111 = .ok (.getfield 63, 3) := by decide +kernel
theorem dX5_drawPlainly_114 : decode cX5_drawPlainly 114 = .ok (.iload 7, 2) := by decide +kernel
theorem dX5_drawPlainly_116 : decode cX5_drawPlainly 116 = .ok (.iaload, 1) := by decide +kernel
theorem dX5_drawPlainly_117 : decode cX5_drawPlainly 117 = .ok (.ifCond .le 13, 3) := by decide +kernel
theorem dX5_drawPlainly_120 : decode cX5_drawPlainly 120 = .ok (.aload_n 3, 1) := by decide +kernel
theorem dX5_drawPlainly_121 : decode cX5_drawPlainly 121 = .ok (.invokevirtual 66, 3) := by decide +kernel
theorem dX5_drawPlainly_124 : decode cX5_drawPlainly 124 = .ok (.aload_n 3, 1) := by decide +kernel
theorem dX5_drawPlainly_125 : decode cX5_drawPlainly 125 = .ok (.bipush 59, 2) := by decide +kernel
theorem dX5_drawPlainly_127 : decode cX5_drawPlainly 127 = .ok (.invokevirtual 69, 3) := by decide +kernel
theorem dX5_drawPlainly_75 : decode cX5_drawPlainly 75 = .ok (.aload_n 0, 1) := by decide +kernel
theorem dX5_drawPlainly_76 : decode cX5_drawPlainly 76 = .ok (.bipush (-100), 2) := by decide +kernel
theorem dX5_drawPlainly_78 : decode cX5_drawPlainly 78 = .ok (.iload 8, 2) := by decide +kernel
theorem dX5_drawPlainly_80 : decode cX5_drawPlainly 80 = .ok (.isub, 1) := by decide +kernel
theorem dX5_drawPlainly_81 : decode cX5_drawPlainly 81 = .ok (.putfield 35, 3) := by decide +kernel
theorem dX5_drawPlainly_84 : decode cX5_drawPlainly 84 = .ok (.aload_n 0, 1) := by decide +kernel
theorem dX5_drawPlainly_85 : decode cX5_drawPlainly 85 = .ok (.aload 4, 2) := by decide +kernel
theorem dX5_drawPlainly_87 : decode cX5_drawPlainly 87 = .ok (.bipush 123, 2) := by decide +kernel
theorem dX5_drawPlainly_89 : decode cX5_drawPlainly 89 = .ok (.aload_n 3, 1) := by decide +kernel
theorem dX5_drawPlainly_90 : decode cX5_drawPlainly 90 = .ok (.invokevirtual 57, 3) := by decide +kernel
theorem dX5_drawPlainly_93 : decode cX5_drawPlainly 93 = .ok (.goto 66, 3) := by decide +kernel
theorem dX5_drawPlainly_0 : decode cX5_drawPlainly 0 = .ok (.aload_n 1, 1) := by decide +kernel
theorem dX5_drawPlainly_1 : decode cX5_drawPlainly 1 = .ok (.getfield 18, 3) := by decide +kernel
theorem dX5_drawPlainly_4 : decode cX5_drawPlainly 4 = .ok (.astore 4, 2) := by decide +kernel
theorem dX5_drawPlainly_6 : decode cX5_drawPlainly 6 = .ok (.aload 4, 2) := by decide +kernel
theorem dX5_drawPlainly_8 : decode cX5_drawPlainly 8 = .ok (.getfield 24, 3) := by decide +kernel
theorem dX5_drawPlainly_11 : decode cX5_drawPlainly 11 = .ok (.astore 5, 2) := by decide +kernel
theorem dX5_drawPlainly_13 : decode cX5_drawPlainly 13 = .ok (.aload_n 3, 1) := by decide +kernel
theorem dX5_drawPlainly_14 : decode cX5_drawPlainly 14 = .ok (.invokevirtual 30, 3) := by decide +kernel
theorem dX5_drawPlainly_17 : decode cX5_drawPlainly 17 = .ok (.aload_n 0, 1) := by decide +kernel
theorem dX5_drawPlainly_18 : decode cX5_drawPlainly 18 = .ok (.iconst 0, 1) := by decide +kernel
theorem dX5_drawPlainly_19 : decode cX5_drawPlainly 19 = .ok (.putfield 35, 3) := by decide +kernel
theorem dX5_drawPlainly_22 : decode cX5_drawPlainly 22 = .ok (.iconst 0, 1) := by decide +kernel
theorem dX5_drawPlainly_23 : decode cX5_drawPlainly 23 = .ok (.istore 6, 2) := by decide +kernel
theorem dX5_drawAnew_29 : decode cX5_drawAnew 29 = .ok (.iload 7, 2) := by decide +kernel
theorem dX5_drawAnew_31 : decode cX5_drawAnew 31 = .ok (.aload 5, 2) := by decide +kernel
theorem dX5_drawAnew_33 : decode cX5_drawAnew 33 = .ok (.getfield 39, 3) := by decide +kernel
theorem dX5_drawAnew_36 : decode cX5_drawAnew 36 = .ok (.if_icmp .ge 132, 3) := by decide +kernel
theorem dX5_drawAnew_168 : decode cX5_drawAnew 168 = .ok (.aload_n 3, 1) := by decide +kernel
theorem dX5_drawAnew_169 : decode cX5_drawAnew 169 = .ok (.getfield 127, 3) := by decide +kernel
theorem dX5_drawAnew_172 : decode cX5_drawAnew 172 = .ok (.ifCond .le 9, 3) := by decide +kernel
theorem dX5_drawAnew_181 : decode cX5_drawAnew 181 = .ok (.iload 6, 2) := by decide +kernel
theorem dX5_drawAnew_183 : decode cX5_drawAnew 183 = .ok (.ireturn, 1) := by decide +kernel
theorem dX5_drawAnew_175 : decode cX5_drawAnew 175 = .ok (.aload_n 3, 1) := by decide +kernel
theorem dX5_drawAnew_176 : decode cX5_drawAnew 176 = .ok (.bipush 10, 2) := by decide +kernel
theorem dX5_drawAnew_178 : decode cX5_drawAnew 178 = .ok (.invokevirtual 69, 3) := by decide +kernel
theorem dX5_drawAnew_39 : decode cX5_drawAnew 39 = .ok (.aload 5, 2) := by decide +kernel
theorem dX5_drawAnew_41 : decode cX5_drawAnew 41 = .ok (.getfield 47, 3) := by decide +kernel
theorem dX5_drawAnew_44 : decode cX5_drawAnew 44 = .ok (.iload 7, 2) := by decide +kernel
theorem dX5_drawAnew_46 : decode cX5_drawAnew 46 = .ok (.iaload, 1) := by decide +kernel
theorem dX5_drawAnew_47 : decode cX5_drawAnew 47 = .ok (.istore 8, 2) := by decide +kernel
theorem dX5_drawAnew_49 : decode cX5_drawAnew 49 = .ok (.aload_n 0, 1) := by decide +kernel
theorem dX5_drawAnew_50 : decode cX5_drawAnew 50 = .ok (.aload_n 1, 1) := by decide +kernel
theorem dX5_drawAnew_51 : decode cX5_drawAnew 51 = .ok (.getfield 18, 3) := by decide +kernel
theorem dX5_drawAnew_54 : decode cX5_drawAnew 54 = .ok (.aload 5, 2) := by decide +kernel
theorem dX5_drawAnew_56 : decode cX5_drawAnew 56 = .ok (.getfield 50, 3) := by decide +kernel
theorem dX5_drawAnew_59 : decode cX5_drawAnew 59 = .ok (.aload 5, 2) := by decide +kernel
theorem dX5_drawAnew_61 : decode cX5_drawAnew 61 = .ok (.getfield 44, 3) := by decide +kernel
theorem dX5_drawAnew_64 : decode cX5_drawAnew 64 = .ok (.iload 7, 2) := by decide +kernel
theorem dX5_drawAnew_66 : decode cX5_drawAnew 66 = .ok (.iaload, 1) := by decide +kernel
theorem dX5_drawAnew_67 : decode cX5_drawAnew 67 = .ok (.iaload, 1) := by decide +kernel
theorem dX5_drawAnew_68 : decode cX5_drawAnew 68 = .ok (.invokevirtual 112, 3) := by decide +kernel
theorem dX5_drawAnew_71 : decode cX5_drawAnew 71 = .ok (.istore 9, 2) := by decide +kernel
theorem dX5_drawAnew_73 : decode cX5_drawAnew 73 = .ok (.iload 8, 2) := by decide +kernel
theorem dX5_drawAnew_75 : decode cX5_drawAnew 75 = .ok (.ifCond .ge 15, 3) := by decide +kernel
theorem dX5_drawAnew_90 : decode cX5_drawAnew 90 = .ok (.iload 6, 2) := by decide +kernel
theorem dX5_drawAnew_92 : decode cX5_drawAnew 92 = .ok (.ifCond .eq 19, 3) := by decide +kernel
theorem dX5_drawAnew_111 : decode cX5_drawAnew 111 = .ok (.iconst 0, 1) := by decide +kernel
theorem dX5_drawAnew_112 : decode cX5_drawAnew 112 = .ok (.istore 6, 2) := by decide +kernel
theorem dX5_drawAnew_114 : decode cX5_drawAnew 114 = .ok (.aload_n 0, 1) := by decide +kernel
theorem dX5_drawAnew_115 : decode cX5_drawAnew 115 = .ok (.aload_n 1, 1) := by decide +kernel
theorem dX5_drawAnew_116 : decode cX5_drawAnew 116 = .ok (.getfield 18, 3) := by decide +kernel
theorem dX5_drawAnew_119 : decode cX5_drawAnew 119 = .ok (.aload 5, 2) := by decide +kernel
theorem dX5_drawAnew_121 : decode cX5_drawAnew 121 = .ok (.getfield 44, 3) := by decide +kernel
theorem dX5_drawAnew_124 : decode cX5_drawAnew 124 = .ok (.iload 7, 2) := by decide +kernel
theorem dX5_drawAnew_126 : decode cX5_drawAnew 126 = .ok (.iaload, 1) := by decide +kernel
theorem dX5_drawAnew_127 : decode cX5_drawAnew 127 = .ok (.iload 8, 2) := by decide +kernel
theorem dX5_drawAnew_129 : decode cX5_drawAnew 129 = .ok (.iload 9, 2) := by decide +kernel
theorem dX5_drawAnew_131 : decode cX5_drawAnew 131 = .ok (.aload_n 3, 1) := by decide +kernel
theorem dX5_drawAnew_132 : decode cX5_drawAnew 132 = .ok (.iload 4, 2) := by decide +kernel
theorem dX5_drawAnew_134 : decode cX5_drawAnew 134 = .ok (.invokevirtual 123, 3) := by decide +kernel
theorem dX5_drawAnew_137 : decode cX5_drawAnew 137 = .ok (.aload_n 3, 1) := by decide +kernel
theorem dX5_drawAnew_138 : decode cX5_drawAnew 138 = .ok (.aload_n 2, 1) := by decide +kernel
theorem dX5_drawAnew_139 : decode cX5_drawAnew 139 = .ok (.aload_n 1, 1) := by decide +kernel
theorem dX5_drawAnew_140 : decode cX5_drawAnew 140 = .ok (.getfield 73, 3) := by decide +kernel
theorem dX5_drawAnew_143 : decode cX5_drawAnew 143 = .ok (.getfield 77, 3) := by decide +kernel
theorem dX5_drawAnew_146 : decode cX5_drawAnew 146 = .ok (.iload 8, 2) := by decide +kernel
theorem dX5_drawAnew_148 : decode cX5_drawAnew 148 = .ok (.iaload, 1) := by decide +kernel
theorem dX5_drawAnew_149 : decode cX5_drawAnew 149 = .ok (.aload_n 1, 1) := by decide +kernel
theorem dX5_drawAnew_150 : decode cX5_drawAnew 150 = .ok (.getfield 73, 3) := by decide +kernel
theorem dX5_drawAnew_153 : decode cX5_drawAnew 153 = .ok (.getfield 82, 3) := by decide +kernel
theorem dX5_drawAnew_156 : decode cX5_drawAnew 156 = .ok (.iload 8, 2) := by decide +kernel
theorem dX5_drawAnew_158 : decode cX5_drawAnew 158 = .ok (.iaload, 1) := by decide +kernel
theorem dX5_drawAnew_159 : decode cX5_drawAnew 159 = .ok (.invokevirtual 85, 3) := by decide +kernel
theorem dX5_drawAnew_162 : decode cX5_drawAnew 162 = .ok (.iinc 7 1, 3) := by decide +kernel
theorem dX5_drawAnew_165 : decode cX5_drawAnew 165 = .ok (.goto (-136), 3) := by decide +kernel
theorem dX5_drawAnew_95 : decode cX5_drawAnew 95 = .ok (.aload_n 0, 1) := by decide +kernel
theorem dX5_drawAnew_96 : decode cX5_drawAnew 96 = .ok (.aload_n 1, 1) := by decide +kernel
theorem dX5_drawAnew_97 : decode cX5_drawAnew 97 = .ok (.iload 9, 2) := by decide +kernel
theorem dX5_drawAnew_99 : decode cX5_drawAnew 99 = .ok (.iload 8, 2) := by decide +kernel
theorem dX5_drawAnew_101 : decode cX5_drawAnew 101 = .ok (.invokevirtual 119, 3) := by decide +kernel
theorem dX5_drawAnew_104 : decode cX5_drawAnew 104 = .ok (.ifCond .ne 7, 3) := by decide +kernel
theorem dX5_drawAnew_107 : decode cX5_drawAnew 107 = .ok (.iconst 1, 1) := by decide +kernel
theorem dX5_drawAnew_108 : decode cX5_drawAnew 108 = .ok (.goto 4, 3) := by decide +kernel
theorem dX5_drawAnew_78 : decode cX5_drawAnew 78 = .ok (.aload_n 0, 1) := by decide +kernel
theorem dX5_drawAnew_79 : decode cX5_drawAnew 79 = .ok (.bipush (-100), 2) := by decide +kernel
theorem dX5_drawAnew_81 : decode cX5_drawAnew 81 = .ok (.iload 8, 2) := by decide +kernel
theorem dX5_drawAnew_83 : decode cX5_drawAnew 83 = .ok (.isub, 1) := by decide +kernel
theorem dX5_drawAnew_84 : decode cX5_drawAnew 84 = .ok (.invokevirtual 116, 3) := by decide +kernel
theorem dX5_drawAnew_87 : decode cX5_drawAnew 87 = .ok (.goto 75, 3) := by decide +kernel
theorem dX5_drawAnew_0 : decode cX5_drawAnew 0 = .ok (.aload_n 1, 1) := by decide +kernel
theorem dX5_drawAnew_1 : decode cX5_drawAnew 1 = .ok (.getfield 18, 3) := by decide +kernel
theorem dX5_drawAnew_4 : decode cX5_drawAnew 4 = .ok (.getfield 24, 3) := by decide +kernel
theorem dX5_drawAnew_7 : decode cX5_drawAnew 7 = .ok (.astore 5, 2) := by decide +kernel
theorem dX5_drawAnew_9 : decode cX5_drawAnew 9 = .ok (.aload_n 3, 1) := by decide +kernel
theorem dX5_drawAnew_10 : decode cX5_drawAnew 10 = .ok (.invokevirtual 30, 3) := by decide +kernel
theorem dX5_drawAnew_13 : decode cX5_drawAnew 13 = .ok (.aload_n 0, 1) := by decide +kernel
theorem dX5_drawAnew_14 : decode cX5_drawAnew 14 = .ok (.iconst 0, 1) := by decide +kernel
theorem dX5_drawAnew_15 : decode cX5_drawAnew 15 = .ok (.putfield 35, 3) := by decide +kernel
theorem dX5_drawAnew_18 : decode cX5_drawAnew 18 = .ok (.aload_n 0, 1) := by decide +kernel
theorem dX5_drawAnew_19 : decode cX5_drawAnew 19 = .ok (.iconst 0, 1) := by decide +kernel
theorem dX5_drawAnew_20 : decode cX5_drawAnew 20 = .ok (.putfield 109, 3) := by decide +kernel
theorem dX5_drawAnew_23 : decode cX5_drawAnew 23 = .ok (.iconst 1, 1) := by decide +kernel
theorem dX5_drawAnew_24 : decode cX5_drawAnew 24 = .ok (.istore 6, 2) := by decide +kernel
theorem dX5_drawAnew_26 : decode cX5_drawAnew 26 = .ok (.iconst 0, 1) := by decide +kernel
theorem dX5_drawAnew_27 : decode cX5_drawAnew 27 = .ok (.istore 7, 2) := by decide +kernel
set_option maxHeartbeats 4000000 in
set_option maxRecDepth 100000 in
theorem g_X3_at_73 (l : Launch) (D : va_G) (tA : Nat → ClassId) (b : Nat) (i F : Nat → Nat → Int32) (G : Nat → Nat → Int64) (x : Int32) (hpg : 0 ≤ (i 73 1).toInt ∧ (i 73 1).toInt ≤ 4000) : xMI l yX3_at cX3_at 2 (some .int) 0 0 D tA b 0 78 i F G [.ref (b + 73), .int x] (fun r u => u = (i, F, G) ∧ True) := by
  refine xstart RX3 rfl (by decide) (Nat.le_of_ble_eq_true rfl) ?_
  intro p e s m below meth c ls C0 hr hH hS hl
  have hl : lv_has ls 2 [(0, .ref (b + 73)), (1, .int x)] := hl
  have rg_x := fb_rng x
  refine lv_iload_n (pc := 0) C0.1 C0.2.1 dX3_at_0 rfl (lv_at hl 1 rfl) ?_
  refine lv_if_lt (pc := 1) (tgt := 25) C0.1 C0.2.1 dX3_at_1 (by decide) (fun c1 => ?_) (fun c1 => ?_)
  · have : Int32.toInt 0 = 0 := rfl
    have c1 := Int32.lt_iff_toInt_lt.mp c1
    refine lv_bipush (pc := 25) (v := (-9)) C0.1 C0.2.1 dX3_at_25 (by decide) ?_
    exact xiret (pc := 27) C0 hr hH hS dX3_at_27 ⟨rfl, trivial⟩
  · have : Int32.toInt 0 = 0 := rfl
    have c1 : ¬ _ := fun q => c1 (Int32.lt_iff_toInt_lt.mpr q)
    refine lv_iload_n (pc := 4) C0.1 C0.2.1 dX3_at_4 rfl (lv_at hl 1 rfl) ?_
    refine lv_aload_n (pc := 5) C0.1 C0.2.1 dX3_at_5 rfl (lv_at hl 0 rfl) ?_
    refine xget (pc := 6) C0 hH 73 1 clX3 ⟨Nat.le_of_ble_eq_true rfl, Nat.le_of_ble_eq_true rfl⟩ ⟨rfl, rfl⟩ (Nat.le_of_ble_eq_true rfl) fl_X3_15 (v := .int (i 73 1)) rfl dX3_at_6 ?_
    refine lv_icmp_ge (pc := 9) (tgt := 25) C0.1 C0.2.1 dX3_at_9 (by decide) (fun c2 => ?_) (fun c2 => ?_)
    · have c2 := Int32.le_iff_toInt_le.mp c2
      refine lv_bipush (pc := 25) (v := (-9)) C0.1 C0.2.1 dX3_at_25 (by decide) ?_
      exact xiret (pc := 27) C0 hr hH hS dX3_at_27 ⟨rfl, trivial⟩
    · have c2 : ¬ _ := fun q => c2 (Int32.le_iff_toInt_le.mpr q)
      refine lv_aload_n (pc := 12) C0.1 C0.2.1 dX3_at_12 rfl (lv_at hl 0 rfl) ?_
      refine xget (pc := 13) C0 hH 73 0 clX3 ⟨Nat.le_of_ble_eq_true rfl, Nat.le_of_ble_eq_true rfl⟩ ⟨rfl, rfl⟩ (Nat.le_of_ble_eq_true rfl) fl_X3_9 (v := .ref (b + 74)) rfl dX3_at_13 ?_
      refine lv_iload_n (pc := 16) C0.1 C0.2.1 dX3_at_16 rfl (lv_at hl 1 rfl) ?_
      refine xbald (pc := 17) (N := 4000) C0 hH 74 ⟨Nat.le_of_ble_eq_true rfl, Nat.le_of_ble_eq_true rfl⟩ ⟨rfl, rfl⟩ (vI (by omega) (by omega)) dX3_at_17 ?_
      refine lv_sipush (pc := 18) (v := 255) C0.1 C0.2.1 dX3_at_18 (by decide) ?_
      refine lv_iand (pc := 21) C0.1 C0.2.1 dX3_at_21 ?_
      refine lv_goto (pc := 22) (tgt := 27) C0.1 C0.2.1 dX3_at_22 (by decide) ?_
      exact xiret (pc := 27) C0 hr hH hS dX3_at_27 ⟨rfl, trivial⟩
set_option maxHeartbeats 4000000 in
set_option maxRecDepth 100000 in
theorem g_X3_at_75 (l : Launch) (D : va_G) (tA : Nat → ClassId) (b : Nat) (i F : Nat → Nat → Int32) (G : Nat → Nat → Int64) (x : Int32) (hpg : 0 ≤ (i 75 1).toInt ∧ (i 75 1).toInt ≤ 4000) : xMI l yX3_at cX3_at 2 (some .int) 0 0 D tA b 0 78 i F G [.ref (b + 75), .int x] (fun r u => u = (i, F, G) ∧ True) := by
  refine xstart RX3 rfl (by decide) (Nat.le_of_ble_eq_true rfl) ?_
  intro p e s m below meth c ls C0 hr hH hS hl
  have hl : lv_has ls 2 [(0, .ref (b + 75)), (1, .int x)] := hl
  have rg_x := fb_rng x
  refine lv_iload_n (pc := 0) C0.1 C0.2.1 dX3_at_0 rfl (lv_at hl 1 rfl) ?_
  refine lv_if_lt (pc := 1) (tgt := 25) C0.1 C0.2.1 dX3_at_1 (by decide) (fun c1 => ?_) (fun c1 => ?_)
  · have : Int32.toInt 0 = 0 := rfl
    have c1 := Int32.lt_iff_toInt_lt.mp c1
    refine lv_bipush (pc := 25) (v := (-9)) C0.1 C0.2.1 dX3_at_25 (by decide) ?_
    exact xiret (pc := 27) C0 hr hH hS dX3_at_27 ⟨rfl, trivial⟩
  · have : Int32.toInt 0 = 0 := rfl
    have c1 : ¬ _ := fun q => c1 (Int32.lt_iff_toInt_lt.mpr q)
    refine lv_iload_n (pc := 4) C0.1 C0.2.1 dX3_at_4 rfl (lv_at hl 1 rfl) ?_
    refine lv_aload_n (pc := 5) C0.1 C0.2.1 dX3_at_5 rfl (lv_at hl 0 rfl) ?_
    refine xget (pc := 6) C0 hH 75 1 clX3 ⟨Nat.le_of_ble_eq_true rfl, Nat.le_of_ble_eq_true rfl⟩ ⟨rfl, rfl⟩ (Nat.le_of_ble_eq_true rfl) fl_X3_15 (v := .int (i 75 1)) rfl dX3_at_6 ?_
    refine lv_icmp_ge (pc := 9) (tgt := 25) C0.1 C0.2.1 dX3_at_9 (by decide) (fun c2 => ?_) (fun c2 => ?_)
    · have c2 := Int32.le_iff_toInt_le.mp c2
      refine lv_bipush (pc := 25) (v := (-9)) C0.1 C0.2.1 dX3_at_25 (by decide) ?_
      exact xiret (pc := 27) C0 hr hH hS dX3_at_27 ⟨rfl, trivial⟩
    · have c2 : ¬ _ := fun q => c2 (Int32.le_iff_toInt_le.mpr q)
      refine lv_aload_n (pc := 12) C0.1 C0.2.1 dX3_at_12 rfl (lv_at hl 0 rfl) ?_
      refine xget (pc := 13) C0 hH 75 0 clX3 ⟨Nat.le_of_ble_eq_true rfl, Nat.le_of_ble_eq_true rfl⟩ ⟨rfl, rfl⟩ (Nat.le_of_ble_eq_true rfl) fl_X3_9 (v := .ref (b + 76)) rfl dX3_at_13 ?_
      refine lv_iload_n (pc := 16) C0.1 C0.2.1 dX3_at_16 rfl (lv_at hl 1 rfl) ?_
      refine xbald (pc := 17) (N := 4000) C0 hH 76 ⟨Nat.le_of_ble_eq_true rfl, Nat.le_of_ble_eq_true rfl⟩ ⟨rfl, rfl⟩ (vI (by omega) (by omega)) dX3_at_17 ?_
      refine lv_sipush (pc := 18) (v := 255) C0.1 C0.2.1 dX3_at_18 (by decide) ?_
      refine lv_iand (pc := 21) C0.1 C0.2.1 dX3_at_21 ?_
      refine lv_goto (pc := 22) (tgt := 27) C0.1 C0.2.1 dX3_at_22 (by decide) ?_
      exact xiret (pc := 27) C0 hr hH hS dX3_at_27 ⟨rfl, trivial⟩
set_option maxHeartbeats 4000000 in
set_option maxRecDepth 100000 in
theorem g_X5_drawBrace_73 (l : Launch) (D : va_G) (tA : Nat → ClassId) (b : Nat) (i F : Nat → Nat → Int32) (G : Nat → Nat → Int64) (x : Int32) (hF : Tf17 i F) (hQ : Pp17 600 i F) (hPg : (0 ≤ (i 73 1).toInt ∧ (i 73 1).toInt ≤ 4000) ∧ (0 ≤ (i 75 1).toInt ∧ (i 75 1).toInt ≤ 4000)) : xMV l yX5_drawBrace cX5_drawBrace 4 none 2 41 D tA b 0 78 i F G [.ref (b + 70), .ref (b + 17), .int x, .ref (b + 73)] (fun u => On 70 77 i F G u ∧ (0 ≤ (u.1 73 1).toInt ∧ (u.1 73 1).toInt ≤ 4000) ∧ (0 ≤ (u.1 75 1).toInt ∧ (u.1 75 1).toInt ≤ 4000)) := by
  refine xstart RX5 rfl (by decide) (Nat.le_of_ble_eq_true rfl) ?_
  intro p e s m below meth c ls C0 hr hH hS hl
  have hl : lv_has ls 4 [(0, .ref (b + 70)), (1, .ref (b + 17)), (2, .int x), (3, .ref (b + 73))] := hl
  have rg_x := fb_rng x
  have hL := Tf17.lin hF
  refine lv_aload_n (pc := 0) C0.1 C0.2.1 dX5_drawBrace_0 rfl (lv_at hl 1 rfl) ?_
  refine xget (pc := 1) C0 hH 17 0 clX8 ⟨Nat.le_of_ble_eq_true rfl, Nat.le_of_ble_eq_true rfl⟩ ⟨rfl, rfl⟩ (Nat.le_of_ble_eq_true rfl) fl_X5_93 (v := .ref (b + 18)) rfl dX5_drawBrace_1 ?_
  refine lv_aload_n (pc := 4) C0.1 C0.2.1 dX5_drawBrace_4 rfl (lv_at hl 0 rfl) ?_
  refine xget (pc := 5) C0 hH 70 3 clX5 ⟨Nat.le_of_ble_eq_true rfl, Nat.le_of_ble_eq_true rfl⟩ ⟨rfl, rfl⟩ (Nat.le_of_ble_eq_true rfl) fl_X5_35 (v := .int (i 70 3)) rfl dX5_drawBrace_5 ?_
  refine xcVI (pc := 8) 18 [.int (i 70 3)] (g_X0_has_18 l D tA b i F G (i 70 3) ) C0 hH hS clX0 rfl ⟨⟨Nat.le_of_ble_eq_true rfl, Nat.le_of_ble_eq_true rfl⟩, rfl, rfl⟩ cw_X5_97 rfl ⟨Nat.le_of_ble_eq_true rfl, Nat.le_of_ble_eq_true rfl⟩ hl.1 rfl (Nat.le_of_ble_eq_true rfl) dX5_drawBrace_8 ⟨Nat.le_of_ble_eq_true rfl, Nat.le_of_ble_eq_true rfl⟩ (fun r1 ir1 Fr1 Gr1 _ locs hp hH hS => ?_)
  obtain ⟨hu, hpr1⟩ := hp
  cases hu
  refine lv_if_eq (pc := 11) (tgt := 41) C0.1 C0.2.1 dX5_drawBrace_11 (by decide) (fun c2 => ?_) (fun c2 => ?_)
  · have : Int32.toInt 0 = 0 := rfl
    have c2 := congrArg Int32.toInt c2
    exact xvret (pc := 41) C0 hr hH hS dX5_drawBrace_41 ⟨On.rf, (show (0 ≤ Int32.toInt (i 73 1) ∧ Int32.toInt (i 73 1) ≤ 4000) ∧ (0 ≤ Int32.toInt (i 75 1) ∧ Int32.toInt (i 75 1) ≤ 4000) from by omega)⟩
  · have : Int32.toInt 0 = 0 := rfl
    have c2 : ¬ _ := fun q => c2 (Int32.toInt_inj.mp q)
    refine lv_aload_n (pc := 14) C0.1 C0.2.1 dX5_drawBrace_14 rfl (lv_at hl 1 rfl) ?_
    refine xget (pc := 15) C0 hH 17 0 clX8 ⟨Nat.le_of_ble_eq_true rfl, Nat.le_of_ble_eq_true rfl⟩ ⟨rfl, rfl⟩ (Nat.le_of_ble_eq_true rfl) fl_X5_93 (v := .ref (b + 18)) rfl dX5_drawBrace_15 ?_
    refine xget (pc := 18) C0 hH 18 0 clX0 ⟨Nat.le_of_ble_eq_true rfl, Nat.le_of_ble_eq_true rfl⟩ ⟨rfl, rfl⟩ (Nat.le_of_ble_eq_true rfl) fl_X5_103 (v := .ref (b + 19)) rfl dX5_drawBrace_18 ?_
    refine lv_aload_n (pc := 21) C0.1 C0.2.1 dX5_drawBrace_21 rfl (lv_at hl 0 rfl) ?_
    refine xget (pc := 22) C0 hH 70 3 clX5 ⟨Nat.le_of_ble_eq_true rfl, Nat.le_of_ble_eq_true rfl⟩ ⟨rfl, rfl⟩ (Nat.le_of_ble_eq_true rfl) fl_X5_35 (v := .int (i 70 3)) rfl dX5_drawBrace_22 ?_
    refine xiald (pc := 25) (N := 601) C0 hH 19 ⟨Nat.le_of_ble_eq_true rfl, Nat.le_of_ble_eq_true rfl⟩ ⟨rfl, rfl⟩ (vI (by omega) (by omega)) dX5_drawBrace_25 ?_
    refine xcNI (pc := 26) [.int (F 19 (Int32.toNatClampNeg (i 70 3)))] (c_X9_isStepped l D tA b 0 78 i F G (F 19 (Int32.toNatClampNeg (i 70 3)))) C0 hH hS cw_X5_106 st_X9_isStepped rfl ⟨Nat.le_of_ble_eq_true rfl, Nat.le_of_ble_eq_true rfl⟩ hl.1 rfl (Nat.le_of_ble_eq_true rfl) dX5_drawBrace_26 ⟨Nat.le_of_ble_eq_true rfl, Nat.le_of_ble_eq_true rfl⟩ (fun r3 ir3 Fr3 Gr3 _ locs hp hH hS => ?_)
    obtain ⟨hu, rfl⟩ := hp
    cases hu
    refine lv_if_eq (pc := 29) (tgt := 41) C0.1 C0.2.1 dX5_drawBrace_29 (by decide) (fun c4 => ?_) (fun c4 => ?_)
    · have c4 := stp_0 c4
      exact xvret (pc := 41) C0 hr hH hS dX5_drawBrace_41 ⟨On.rf, (show (0 ≤ Int32.toInt (i 73 1) ∧ Int32.toInt (i 73 1) ≤ 4000) ∧ (0 ≤ Int32.toInt (i 75 1) ∧ Int32.toInt (i 75 1) ≤ 4000) from by omega)⟩
    · have c4 := stp_1 c4
      refine lv_aload_n (pc := 32) C0.1 C0.2.1 dX5_drawBrace_32 rfl (lv_at hl 3 rfl) ?_
      refine xcVV (pc := 33) 73 [] (g_X3_putApart_73 l D tA b i F G  (show 0 ≤ Int32.toInt (i 73 1) ∧ Int32.toInt (i 73 1) ≤ 4000 from by omega)) C0 hH hS clX3 rfl ⟨⟨Nat.le_of_ble_eq_true rfl, Nat.le_of_ble_eq_true rfl⟩, rfl, rfl⟩ cw_X5_66 rfl ⟨Nat.le_of_ble_eq_true rfl, Nat.le_of_ble_eq_true rfl⟩ hl.1 rfl (Nat.le_of_ble_eq_true rfl) dX5_drawBrace_33 ⟨Nat.le_of_ble_eq_true rfl, Nat.le_of_ble_eq_true rfl⟩ (fun ir5 Fr5 Gr5 _ locs hp hH hS => ?_)
      obtain ⟨honr5, hs1r5, hs2r5⟩ := hp
      dsimp only at hs1r5 hs2r5
      have hF : Tf17 ir5 Fr5 := Tf17.on (i := i) (F := F) hF honr5 (by decide)
      have hQ : Pp17 600 ir5 Fr5 := Pp17.on (i := i) (F := F) hQ honr5 (by decide)
      have ek_75_1r5 : Int32.toInt (ir5 75 1) = Int32.toInt (i 75 1) := congrArg Int32.toInt (congrFun (honr5.1 75 (by decide)).1 1)
      have ek_4_1r5 : Int32.toInt (ir5 4 1) = Int32.toInt (i 4 1) := congrArg Int32.toInt (congrFun (honr5.1 4 (by decide)).1 1)
      refine lv_aload_n (pc := 36) C0.1 C0.2.1 dX5_drawBrace_36 rfl (lv_at hl 3 rfl) ?_
      refine lv_iload_n (pc := 37) C0.1 C0.2.1 dX5_drawBrace_37 rfl (lv_at hl 2 rfl) ?_
      refine xcVV (pc := 38) 73 [.int x] (g_X3_put_73 l D tA b ir5 Fr5 Gr5 x (show 0 ≤ Int32.toInt (ir5 73 1) ∧ Int32.toInt (ir5 73 1) ≤ 4000 from by omega)) C0 hH hS clX3 rfl ⟨⟨Nat.le_of_ble_eq_true rfl, Nat.le_of_ble_eq_true rfl⟩, rfl, rfl⟩ cw_X5_69 rfl ⟨Nat.le_of_ble_eq_true rfl, Nat.le_of_ble_eq_true rfl⟩ hl.1 rfl (Nat.le_of_ble_eq_true rfl) dX5_drawBrace_38 ⟨Nat.le_of_ble_eq_true rfl, Nat.le_of_ble_eq_true rfl⟩ (fun ir6 Fr6 Gr6 _ locs hp hH hS => ?_)
      obtain ⟨honr6, hs1r6, hs2r6⟩ := hp
      dsimp only at hs1r6 hs2r6
      have hF : Tf17 ir6 Fr6 := Tf17.on (i := ir5) (F := Fr5) hF honr6 (by decide)
      have hQ : Pp17 600 ir6 Fr6 := Pp17.on (i := ir5) (F := Fr5) hQ honr6 (by decide)
      have ek_75_1r6 : Int32.toInt (ir6 75 1) = Int32.toInt (ir5 75 1) := congrArg Int32.toInt (congrFun (honr6.1 75 (by decide)).1 1)
      have ek_4_1r6 : Int32.toInt (ir6 4 1) = Int32.toInt (ir5 4 1) := congrArg Int32.toInt (congrFun (honr6.1 4 (by decide)).1 1)
      exact xvret (pc := 41) C0 hr hH hS dX5_drawBrace_41 ⟨(On.tr (On.tr On.rf honr5 (by decide) (by decide)) honr6 (by decide) (by decide)), (show (0 ≤ Int32.toInt (ir6 73 1) ∧ Int32.toInt (ir6 73 1) ≤ 4000) ∧ (0 ≤ Int32.toInt (ir6 75 1) ∧ Int32.toInt (ir6 75 1) ≤ 4000) from by omega)⟩
set_option maxHeartbeats 4000000 in
set_option maxRecDepth 100000 in
theorem g_X5_endBlocks_73 (l : Launch) (D : va_G) (tA : Nat → ClassId) (b : Nat) (i F : Nat → Nat → Int32) (G : Nat → Nat → Int64) (x : Int32) (hF : Tf17 i F) (hQ : Pp17 600 i F) (hPg : (0 ≤ (i 73 1).toInt ∧ (i 73 1).toInt ≤ 4000) ∧ (0 ≤ (i 75 1).toInt ∧ (i 75 1).toInt ≤ 4000)) : xMV l yX5_endBlocks cX5_endBlocks 5 none 3 64 D tA b 0 78 i F G [.ref (b + 70), .ref (b + 17), .int x, .ref (b + 73)] (fun u => On 70 77 i F G u ∧ (0 ≤ (u.1 73 1).toInt ∧ (u.1 73 1).toInt ≤ 4000) ∧ (0 ≤ (u.1 75 1).toInt ∧ (u.1 75 1).toInt ≤ 4000)) := by
  refine xstart RX5 rfl (by decide) (Nat.le_of_ble_eq_true rfl) ?_
  intro p e s m below meth c ls C0 hr hH hS hl
  have hl : lv_has ls 5 [(0, .ref (b + 70)), (1, .ref (b + 17)), (2, .int x), (3, .ref (b + 73))] := hl
  have rg_x := fb_rng x
  have hL := Tf17.lin hF
  have L3 : ∀ (d : Nat) (k : Int32) (iv Fv : Nat → Nat → Int32) (Gv : Nat → Nat → Int64) (H : Heap) (locs : List Loc) (ls : Array Slot), (0 ≤ k.toInt) → (601 - k.toInt ≤ d) → (On 70 77 i F G (iv, Fv, Gv)) → ((0 ≤ (iv 73 1).toInt ∧ (iv 73 1).toInt ≤ 4000) ∧ (0 ≤ (iv 75 1).toInt ∧ (iv 75 1).toInt ≤ 4000)) → Hd D tA b 0 78 zz iv Fv Gv H → va_S (xA b 0 78) s.heap H locs → lv_has ls 5 [(4, .int k), (0, .ref (b + 70)), (1, .ref (b + 17)), (2, .int x), (3, .ref (b + 73))] → W p l e (xR 3 64) s m ([.ref (b + 70), .ref (b + 17), .int x, .ref (b + 73)] : List Value).toArray below meth c H locs 0 0 (MQ below (va_Qv (fun u => On 70 77 i F G u ∧ (0 ≤ (u.1 73 1).toInt ∧ (u.1 73 1).toInt ≤ 4000) ∧ (0 ≤ (u.1 75 1).toInt ∧ (u.1 75 1).toInt ≤ 4000)) (xB D tA b 0 78 zz) (xA b 0 78)) ([.ref (b + 70), .ref (b + 17), .int x, .ref (b + 73)] : List Value).toArray s 0 0 (xA b 0 78)) (F0 m 3 ls []) := by
    intro d
    induction d with
    | zero =>
      intro k iv Fv Gv H locs ls h1 h2 h3 h4 hH hS hl
      have rg_k := fb_rng k
      have hF : Tf17 iv Fv := Tf17.on hF h3 (by decide)
      have hQ : Pp17 600 iv Fv := Pp17.on hQ h3 (by decide)
      have hL := Tf17.lin hF
      have ek4 : Int32.toInt (iv 4 1) = Int32.toInt (i 4 1) := congrArg Int32.toInt (congrFun (h3.1 4 (by decide)).1 1)
      refine lv_iload (pc := 3) C0.1 C0.2.1 dX5_endBlocks_3 (lv_at hl 0 rfl) ?_
      refine lv_sipush (pc := 5) (v := 601) C0.1 C0.2.1 dX5_endBlocks_5 (by decide) ?_
      have : Int32.toInt 601 = 601 := rfl
      refine lv_icmp_ge (pc := 8) (tgt := 54) C0.1 C0.2.1 dX5_endBlocks_8 (by decide) (fun _ => ?_) (fun c => absurd (Int32.le_iff_toInt_le.mpr (by omega)) c)
      exact xvret (pc := 54) C0 hr hH hS dX5_endBlocks_54 ⟨h3, (show (0 ≤ Int32.toInt (iv 73 1) ∧ Int32.toInt (iv 73 1) ≤ 4000) ∧ (0 ≤ Int32.toInt (iv 75 1) ∧ Int32.toInt (iv 75 1) ≤ 4000) from by omega)⟩
    | succ d ih3 =>
      intro k iv Fv Gv H locs ls h1 h2 h3 h4 hH hS hl
      have rg_k := fb_rng k
      have hF : Tf17 iv Fv := Tf17.on hF h3 (by decide)
      have hQ : Pp17 600 iv Fv := Pp17.on hQ h3 (by decide)
      have hL := Tf17.lin hF
      have ek4 : Int32.toInt (iv 4 1) = Int32.toInt (i 4 1) := congrArg Int32.toInt (congrFun (h3.1 4 (by decide)).1 1)
      refine lv_iload (pc := 3) C0.1 C0.2.1 dX5_endBlocks_3 (lv_at hl 0 rfl) ?_
      refine lv_sipush (pc := 5) (v := 601) C0.1 C0.2.1 dX5_endBlocks_5 (by decide) ?_
      refine lv_icmp_ge (pc := 8) (tgt := 54) C0.1 C0.2.1 dX5_endBlocks_8 (by decide) (fun c201 => ?_) (fun c201 => ?_)
      · have : Int32.toInt 601 = 601 := rfl
        have c201 := Int32.le_iff_toInt_le.mp c201
        exact xvret (pc := 54) C0 hr hH hS dX5_endBlocks_54 ⟨h3, (show (0 ≤ Int32.toInt (iv 73 1) ∧ Int32.toInt (iv 73 1) ≤ 4000) ∧ (0 ≤ Int32.toInt (iv 75 1) ∧ Int32.toInt (iv 75 1) ≤ 4000) from by omega)⟩
      · have : Int32.toInt 601 = 601 := rfl
        have c201 : ¬ _ := fun q => c201 (Int32.le_iff_toInt_le.mpr q)
        refine lv_aload_n (pc := 11) C0.1 C0.2.1 dX5_endBlocks_11 rfl (lv_at hl 1 rfl) ?_
        refine xget (pc := 12) C0 hH 70 3 clX5 ⟨Nat.le_of_ble_eq_true rfl, Nat.le_of_ble_eq_true rfl⟩ ⟨rfl, rfl⟩ (Nat.le_of_ble_eq_true rfl) fl_X5_35 (v := .int (iv 70 3)) rfl dX5_endBlocks_12 ?_
        refine lv_iload_n (pc := 15) C0.1 C0.2.1 dX5_endBlocks_15 rfl (lv_at hl 3 rfl) ?_
        refine lv_icmp_eq (pc := 16) (tgt := 54) C0.1 C0.2.1 dX5_endBlocks_16 (by decide) (fun c202 => ?_) (fun c202 => ?_)
        · have c202 := congrArg Int32.toInt c202
          exact xvret (pc := 54) C0 hr hH hS dX5_endBlocks_54 ⟨h3, (show (0 ≤ Int32.toInt (iv 73 1) ∧ Int32.toInt (iv 73 1) ≤ 4000) ∧ (0 ≤ Int32.toInt (iv 75 1) ∧ Int32.toInt (iv 75 1) ≤ 4000) from by omega)⟩
        · have c202 : ¬ _ := fun q => c202 (Int32.toInt_inj.mp q)
          refine lv_aload_n (pc := 19) C0.1 C0.2.1 dX5_endBlocks_19 rfl (lv_at hl 1 rfl) ?_
          refine xget (pc := 20) C0 hH 70 3 clX5 ⟨Nat.le_of_ble_eq_true rfl, Nat.le_of_ble_eq_true rfl⟩ ⟨rfl, rfl⟩ (Nat.le_of_ble_eq_true rfl) fl_X5_35 (v := .int (iv 70 3)) rfl dX5_endBlocks_20 ?_
          refine lv_bipush (pc := 23) (v := (-9)) C0.1 C0.2.1 dX5_endBlocks_23 (by decide) ?_
          refine lv_icmp_eq (pc := 25) (tgt := 54) C0.1 C0.2.1 dX5_endBlocks_25 (by decide) (fun c203 => ?_) (fun c203 => ?_)
          · have : Int32.toInt (-9) = (-9) := rfl
            have c203 := congrArg Int32.toInt c203
            exact xvret (pc := 54) C0 hr hH hS dX5_endBlocks_54 ⟨h3, (show (0 ≤ Int32.toInt (iv 73 1) ∧ Int32.toInt (iv 73 1) ≤ 4000) ∧ (0 ≤ Int32.toInt (iv 75 1) ∧ Int32.toInt (iv 75 1) ≤ 4000) from by omega)⟩
          · have : Int32.toInt (-9) = (-9) := rfl
            have c203 : ¬ _ := fun q => c203 (Int32.toInt_inj.mp q)
            refine lv_aload_n (pc := 28) C0.1 C0.2.1 dX5_endBlocks_28 rfl (lv_at hl 1 rfl) ?_
            refine lv_aload_n (pc := 29) C0.1 C0.2.1 dX5_endBlocks_29 rfl (lv_at hl 2 rfl) ?_
            refine lv_bipush (pc := 30) (v := 125) C0.1 C0.2.1 dX5_endBlocks_30 (by decide) ?_
            refine lv_aload_n (pc := 32) C0.1 C0.2.1 dX5_endBlocks_32 rfl (lv_at hl 4 rfl) ?_
            refine xcVV (pc := 33) 70 [.ref (b + 17), .int 125, .ref (b + 73)] (g_X5_drawBrace_73 l D tA b iv Fv Gv 125 hF hQ (show (0 ≤ Int32.toInt (iv 73 1) ∧ Int32.toInt (iv 73 1) ≤ 4000) ∧ (0 ≤ Int32.toInt (iv 75 1) ∧ Int32.toInt (iv 75 1) ≤ 4000) from by omega) ) C0 hH hS clX5 rfl ⟨⟨Nat.le_of_ble_eq_true rfl, Nat.le_of_ble_eq_true rfl⟩, rfl, rfl⟩ cw_X5_57 rfl ⟨Nat.le_of_ble_eq_true rfl, Nat.le_of_ble_eq_true rfl⟩ hl.1 rfl (Nat.le_of_ble_eq_true rfl) dX5_endBlocks_33 ⟨Nat.le_of_ble_eq_true rfl, Nat.le_of_ble_eq_true rfl⟩ (fun ir204 Fr204 Gr204 _ locs hp hH hS => ?_)
            obtain ⟨honr204, hs1r204, hs2r204⟩ := hp
            dsimp only at hs1r204 hs2r204
            have hF : Tf17 ir204 Fr204 := Tf17.on (i := iv) (F := Fv) hF honr204 (by decide)
            have hQ : Pp17 600 ir204 Fr204 := Pp17.on (i := iv) (F := Fv) hQ honr204 (by decide)
            have ek_4_1r204 : Int32.toInt (ir204 4 1) = Int32.toInt (iv 4 1) := congrArg Int32.toInt (congrFun (honr204.1 4 (by decide)).1 1)
            refine lv_aload_n (pc := 36) C0.1 C0.2.1 dX5_endBlocks_36 rfl (lv_at hl 1 rfl) ?_
            refine lv_aload_n (pc := 37) C0.1 C0.2.1 dX5_endBlocks_37 rfl (lv_at hl 2 rfl) ?_
            refine lv_aload_n (pc := 38) C0.1 C0.2.1 dX5_endBlocks_38 rfl (lv_at hl 1 rfl) ?_
            refine xget (pc := 39) C0 hH 70 3 clX5 ⟨Nat.le_of_ble_eq_true rfl, Nat.le_of_ble_eq_true rfl⟩ ⟨rfl, rfl⟩ (Nat.le_of_ble_eq_true rfl) fl_X5_35 (v := .int (ir204 70 3)) rfl dX5_endBlocks_39 ?_
            refine xcVI (pc := 42) 17 [.int (ir204 70 3)] (g_X8_blockAround_17 l D tA b ir204 Fr204 Gr204 (ir204 70 3) hF) C0 hH hS clX8 rfl ⟨⟨Nat.le_of_ble_eq_true rfl, Nat.le_of_ble_eq_true rfl⟩, rfl, rfl⟩ cw_X5_89 rfl ⟨Nat.le_of_ble_eq_true rfl, Nat.le_of_ble_eq_true rfl⟩ hl.1 rfl (Nat.le_of_ble_eq_true rfl) dX5_endBlocks_42 ⟨Nat.le_of_ble_eq_true rfl, Nat.le_of_ble_eq_true rfl⟩ (fun r205 ir205 Fr205 Gr205 _ locs hp hH hS => ?_)
            obtain ⟨hu, hpr205⟩ := hp
            cases hu
            refine xputI (pc := 45) C0 (Nat.le_of_ble_eq_true rfl) hH hS 70 3 clX5 ⟨Nat.le_of_ble_eq_true rfl, Nat.le_of_ble_eq_true rfl⟩ ⟨rfl, rfl⟩ ⟨Nat.le_of_ble_eq_true rfl, rfl, rfl⟩ fl_X5_35 (x := r205) ⟨rfl, rfl⟩ dX5_endBlocks_45 (fun _ locs hH hS _ => ?_)
            have hH : Hd D tA b 0 78 zz (up2 ir204 70 3 r205) Fr204 Gr204 _ := hH
            obtain ⟨x206, ex206⟩ : ∃ y_ : Int32, y_ = k + 1 := ⟨_, rfl⟩
            have : Int32.toInt 1 = 1 := rfl
            have hx206 : Int32.toInt x206 = Int32.toInt k + Int32.toInt 1 := by rw [ex206]; exact fb_addI (by omega) (by omega)
            refine lv_iinc (pc := 48) (v := x206) (lv' := [(4, .int x206), (0, .ref (b + 70)), (1, .ref (b + 17)), (2, .int x), (3, .ref (b + 73))]) C0.1 C0.2.1 dX5_endBlocks_48 hl (k := 0) rfl (by rw [ex206]; rfl) (by decide) rfl (fun ls hl => ?_)
            refine lv_goto (pc := 51) (tgt := 3) C0.1 C0.2.1 dX5_endBlocks_51 (by decide) ?_
            exact ih3 x206 (up2 ir204 70 3 r205) Fr204 Gr204 _ _ _ (by omega) (by omega) (On.i (On.tr h3 honr204 (by decide) (by decide)) (by decide)) (show (0 ≤ Int32.toInt (ir204 73 1) ∧ Int32.toInt (ir204 73 1) ≤ 4000) ∧ (0 ≤ Int32.toInt (ir204 75 1) ∧ Int32.toInt (ir204 75 1) ≤ 4000) from by omega) hH hS (lv_sub hl [0, 1, 2, 3, 4] rfl)
  refine lv_iconst (pc := 0) (v := 0) C0.1 C0.2.1 dX5_endBlocks_0 (by decide) ?_
  refine lv_istore (pc := 1) (lv' := [(4, .int 0), (0, .ref (b + 70)), (1, .ref (b + 17)), (2, .int x), (3, .ref (b + 73))]) C0.1 C0.2.1 dX5_endBlocks_1 hl (by decide) rfl (fun ls hl => ?_)
  exact L3 601 0 i F G _ _ _ (by have : Int32.toInt 0 = 0 := rfl; omega) (by have : Int32.toInt 0 = 0 := rfl; omega) On.rf (show (0 ≤ Int32.toInt (i 73 1) ∧ Int32.toInt (i 73 1) ≤ 4000) ∧ (0 ≤ Int32.toInt (i 75 1) ∧ Int32.toInt (i 75 1) ≤ 4000) from by omega) hH hS (lv_sub hl [0, 1, 2, 3, 4] rfl)
set_option maxHeartbeats 4000000 in
set_option maxRecDepth 100000 in
theorem g_X5_leaveTo (l : Launch) (D : va_G) (tA : Nat → ClassId) (b : Nat) (i F : Nat → Nat → Int32) (G : Nat → Nat → Int64) (x : Int32) (hF : Tf17 i F) (hQ : Pp17 600 i F) (hPg : (0 ≤ (i 73 1).toInt ∧ (i 73 1).toInt ≤ 4000) ∧ (0 ≤ (i 75 1).toInt ∧ (i 75 1).toInt ≤ 4000)) : xMI l yX5_leaveTo cX5_leaveTo 5 (some .int) 2 43 D tA b 0 78 i F G [.ref (b + 70), .ref (b + 17), .int x] (fun r u => On 70 77 i F G u ∧ (0 ≤ (u.1 73 1).toInt ∧ (u.1 73 1).toInt ≤ 4000) ∧ (0 ≤ (u.1 75 1).toInt ∧ (u.1 75 1).toInt ≤ 4000)) := by
  refine xstart RX5 rfl (by decide) (Nat.le_of_ble_eq_true rfl) ?_
  intro p e s m below meth c ls C0 hr hH hS hl
  have hl : lv_has ls 5 [(0, .ref (b + 70)), (1, .ref (b + 17)), (2, .int x)] := hl
  have rg_x := fb_rng x
  have hL := Tf17.lin hF
  have L6 : ∀ (d : Nat) (k q : Int32) (iv Fv : Nat → Nat → Int32) (Gv : Nat → Nat → Int64) (H : Heap) (locs : List Loc) (ls : Array Slot), (0 ≤ k.toInt) → (601 - k.toInt ≤ d) → (On 70 77 i F G (iv, Fv, Gv)) → ((0 ≤ (iv 73 1).toInt ∧ (iv 73 1).toInt ≤ 4000) ∧ (0 ≤ (iv 75 1).toInt ∧ (iv 75 1).toInt ≤ 4000)) → Hd D tA b 0 78 zz iv Fv Gv H → va_S (xA b 0 78) s.heap H locs → lv_has ls 5 [(4, .int k), (3, .int q), (0, .ref (b + 70)), (1, .ref (b + 17)), (2, .int x)] → W p l e (xR 2 43) s m ([.ref (b + 70), .ref (b + 17), .int x] : List Value).toArray below meth c H locs 0 0 (MQ below (va_Qi (fun r u => On 70 77 i F G u ∧ (0 ≤ (u.1 73 1).toInt ∧ (u.1 73 1).toInt ≤ 4000) ∧ (0 ≤ (u.1 75 1).toInt ∧ (u.1 75 1).toInt ≤ 4000)) (xB D tA b 0 78 zz) (xA b 0 78)) ([.ref (b + 70), .ref (b + 17), .int x] : List Value).toArray s 0 0 (xA b 0 78)) (F0 m 6 ls []) := by
    intro d
    induction d with
    | zero =>
      intro k q iv Fv Gv H locs ls h1 h2 h3 h4 hH hS hl
      have rg_k := fb_rng k
      have rg_q := fb_rng q
      have hF : Tf17 iv Fv := Tf17.on hF h3 (by decide)
      have hQ : Pp17 600 iv Fv := Pp17.on hQ h3 (by decide)
      have hL := Tf17.lin hF
      have ek4 : Int32.toInt (iv 4 1) = Int32.toInt (i 4 1) := congrArg Int32.toInt (congrFun (h3.1 4 (by decide)).1 1)
      refine lv_iload (pc := 6) C0.1 C0.2.1 dX5_leaveTo_6 (lv_at hl 0 rfl) ?_
      refine lv_sipush (pc := 8) (v := 601) C0.1 C0.2.1 dX5_leaveTo_8 (by decide) ?_
      have : Int32.toInt 601 = 601 := rfl
      refine lv_icmp_ge (pc := 11) (tgt := 54) C0.1 C0.2.1 dX5_leaveTo_11 (by decide) (fun _ => ?_) (fun c => absurd (Int32.le_iff_toInt_le.mpr (by omega)) c)
      refine lv_iload_n (pc := 54) C0.1 C0.2.1 dX5_leaveTo_54 rfl (lv_at hl 1 rfl) ?_
      exact xiret (pc := 55) C0 hr hH hS dX5_leaveTo_55 ⟨h3, (show (0 ≤ Int32.toInt (iv 73 1) ∧ Int32.toInt (iv 73 1) ≤ 4000) ∧ (0 ≤ Int32.toInt (iv 75 1) ∧ Int32.toInt (iv 75 1) ≤ 4000) from by omega)⟩
    | succ d ih6 =>
      intro k q iv Fv Gv H locs ls h1 h2 h3 h4 hH hS hl
      have rg_k := fb_rng k
      have rg_q := fb_rng q
      have hF : Tf17 iv Fv := Tf17.on hF h3 (by decide)
      have hQ : Pp17 600 iv Fv := Pp17.on hQ h3 (by decide)
      have hL := Tf17.lin hF
      have ek4 : Int32.toInt (iv 4 1) = Int32.toInt (i 4 1) := congrArg Int32.toInt (congrFun (h3.1 4 (by decide)).1 1)
      refine lv_iload (pc := 6) C0.1 C0.2.1 dX5_leaveTo_6 (lv_at hl 0 rfl) ?_
      refine lv_sipush (pc := 8) (v := 601) C0.1 C0.2.1 dX5_leaveTo_8 (by decide) ?_
      refine lv_icmp_ge (pc := 11) (tgt := 54) C0.1 C0.2.1 dX5_leaveTo_11 (by decide) (fun c201 => ?_) (fun c201 => ?_)
      · have : Int32.toInt 601 = 601 := rfl
        have c201 := Int32.le_iff_toInt_le.mp c201
        refine lv_iload_n (pc := 54) C0.1 C0.2.1 dX5_leaveTo_54 rfl (lv_at hl 1 rfl) ?_
        exact xiret (pc := 55) C0 hr hH hS dX5_leaveTo_55 ⟨h3, (show (0 ≤ Int32.toInt (iv 73 1) ∧ Int32.toInt (iv 73 1) ≤ 4000) ∧ (0 ≤ Int32.toInt (iv 75 1) ∧ Int32.toInt (iv 75 1) ≤ 4000) from by omega)⟩
      · have : Int32.toInt 601 = 601 := rfl
        have c201 : ¬ _ := fun q => c201 (Int32.le_iff_toInt_le.mpr q)
        refine lv_aload_n (pc := 14) C0.1 C0.2.1 dX5_leaveTo_14 rfl (lv_at hl 2 rfl) ?_
        refine xget (pc := 15) C0 hH 70 3 clX5 ⟨Nat.le_of_ble_eq_true rfl, Nat.le_of_ble_eq_true rfl⟩ ⟨rfl, rfl⟩ (Nat.le_of_ble_eq_true rfl) fl_X5_35 (v := .int (iv 70 3)) rfl dX5_leaveTo_15 ?_
        refine lv_iload_n (pc := 18) C0.1 C0.2.1 dX5_leaveTo_18 rfl (lv_at hl 4 rfl) ?_
        refine lv_icmp_eq (pc := 19) (tgt := 54) C0.1 C0.2.1 dX5_leaveTo_19 (by decide) (fun c202 => ?_) (fun c202 => ?_)
        · have c202 := congrArg Int32.toInt c202
          refine lv_iload_n (pc := 54) C0.1 C0.2.1 dX5_leaveTo_54 rfl (lv_at hl 1 rfl) ?_
          exact xiret (pc := 55) C0 hr hH hS dX5_leaveTo_55 ⟨h3, (show (0 ≤ Int32.toInt (iv 73 1) ∧ Int32.toInt (iv 73 1) ≤ 4000) ∧ (0 ≤ Int32.toInt (iv 75 1) ∧ Int32.toInt (iv 75 1) ≤ 4000) from by omega)⟩
        · have c202 : ¬ _ := fun q => c202 (Int32.toInt_inj.mp q)
          refine lv_aload_n (pc := 22) C0.1 C0.2.1 dX5_leaveTo_22 rfl (lv_at hl 2 rfl) ?_
          refine xget (pc := 23) C0 hH 70 3 clX5 ⟨Nat.le_of_ble_eq_true rfl, Nat.le_of_ble_eq_true rfl⟩ ⟨rfl, rfl⟩ (Nat.le_of_ble_eq_true rfl) fl_X5_35 (v := .int (iv 70 3)) rfl dX5_leaveTo_23 ?_
          refine lv_bipush (pc := 26) (v := (-9)) C0.1 C0.2.1 dX5_leaveTo_26 (by decide) ?_
          refine lv_icmp_eq (pc := 28) (tgt := 54) C0.1 C0.2.1 dX5_leaveTo_28 (by decide) (fun c203 => ?_) (fun c203 => ?_)
          · have : Int32.toInt (-9) = (-9) := rfl
            have c203 := congrArg Int32.toInt c203
            refine lv_iload_n (pc := 54) C0.1 C0.2.1 dX5_leaveTo_54 rfl (lv_at hl 1 rfl) ?_
            exact xiret (pc := 55) C0 hr hH hS dX5_leaveTo_55 ⟨h3, (show (0 ≤ Int32.toInt (iv 73 1) ∧ Int32.toInt (iv 73 1) ≤ 4000) ∧ (0 ≤ Int32.toInt (iv 75 1) ∧ Int32.toInt (iv 75 1) ≤ 4000) from by omega)⟩
          · have : Int32.toInt (-9) = (-9) := rfl
            have c203 : ¬ _ := fun q => c203 (Int32.toInt_inj.mp q)
            refine lv_aload_n (pc := 31) C0.1 C0.2.1 dX5_leaveTo_31 rfl (lv_at hl 2 rfl) ?_
            refine xget (pc := 32) C0 hH 70 3 clX5 ⟨Nat.le_of_ble_eq_true rfl, Nat.le_of_ble_eq_true rfl⟩ ⟨rfl, rfl⟩ (Nat.le_of_ble_eq_true rfl) fl_X5_35 (v := .int (iv 70 3)) rfl dX5_leaveTo_32 ?_
            refine lv_topi (fun x204 ex204 => ?_)
            refine lv_istore_n (pc := 35) (lv' := [(3, .int x204), (4, .int k), (0, .ref (b + 70)), (1, .ref (b + 17)), (2, .int x)]) C0.1 C0.2.1 dX5_leaveTo_35 rfl hl (by decide) rfl (fun ls hl => ?_)
            refine lv_aload_n (pc := 36) C0.1 C0.2.1 dX5_leaveTo_36 rfl (lv_at hl 2 rfl) ?_
            refine lv_aload_n (pc := 37) C0.1 C0.2.1 dX5_leaveTo_37 rfl (lv_at hl 3 rfl) ?_
            refine lv_aload_n (pc := 38) C0.1 C0.2.1 dX5_leaveTo_38 rfl (lv_at hl 2 rfl) ?_
            refine xget (pc := 39) C0 hH 70 3 clX5 ⟨Nat.le_of_ble_eq_true rfl, Nat.le_of_ble_eq_true rfl⟩ ⟨rfl, rfl⟩ (Nat.le_of_ble_eq_true rfl) fl_X5_35 (v := .int (iv 70 3)) rfl dX5_leaveTo_39 ?_
            refine xcVI (pc := 42) 17 [.int (iv 70 3)] (g_X8_blockAround_17 l D tA b iv Fv Gv (iv 70 3) hF) C0 hH hS clX8 rfl ⟨⟨Nat.le_of_ble_eq_true rfl, Nat.le_of_ble_eq_true rfl⟩, rfl, rfl⟩ cw_X5_89 rfl ⟨Nat.le_of_ble_eq_true rfl, Nat.le_of_ble_eq_true rfl⟩ hl.1 rfl (Nat.le_of_ble_eq_true rfl) dX5_leaveTo_42 ⟨Nat.le_of_ble_eq_true rfl, Nat.le_of_ble_eq_true rfl⟩ (fun r205 ir205 Fr205 Gr205 _ locs hp hH hS => ?_)
            obtain ⟨hu, hpr205⟩ := hp
            cases hu
            refine xputI (pc := 45) C0 (Nat.le_of_ble_eq_true rfl) hH hS 70 3 clX5 ⟨Nat.le_of_ble_eq_true rfl, Nat.le_of_ble_eq_true rfl⟩ ⟨rfl, rfl⟩ ⟨Nat.le_of_ble_eq_true rfl, rfl, rfl⟩ fl_X5_35 (x := r205) ⟨rfl, rfl⟩ dX5_leaveTo_45 (fun _ locs hH hS _ => ?_)
            have hH : Hd D tA b 0 78 zz (up2 iv 70 3 r205) Fv Gv _ := hH
            obtain ⟨x206, ex206⟩ : ∃ y_ : Int32, y_ = k + 1 := ⟨_, rfl⟩
            have : Int32.toInt 1 = 1 := rfl
            have hx206 : Int32.toInt x206 = Int32.toInt k + Int32.toInt 1 := by rw [ex206]; exact fb_addI (by omega) (by omega)
            refine lv_iinc (pc := 48) (v := x206) (lv' := [(4, .int x206), (3, .int x204), (0, .ref (b + 70)), (1, .ref (b + 17)), (2, .int x)]) C0.1 C0.2.1 dX5_leaveTo_48 hl (k := 1) rfl (by rw [ex206]; rfl) (by decide) rfl (fun ls hl => ?_)
            refine lv_goto (pc := 51) (tgt := 6) C0.1 C0.2.1 dX5_leaveTo_51 (by decide) ?_
            exact ih6 x206 x204 (up2 iv 70 3 r205) Fv Gv _ _ _ (by omega) (by omega) (On.i h3 (by decide)) (show (0 ≤ Int32.toInt (iv 73 1) ∧ Int32.toInt (iv 73 1) ≤ 4000) ∧ (0 ≤ Int32.toInt (iv 75 1) ∧ Int32.toInt (iv 75 1) ≤ 4000) from by omega) hH hS (lv_sub hl [0, 1, 2, 3, 4] rfl)
  refine lv_bipush (pc := 0) (v := (-9)) C0.1 C0.2.1 dX5_leaveTo_0 (by decide) ?_
  refine lv_istore_n (pc := 2) (lv' := [(3, .int (-9)), (0, .ref (b + 70)), (1, .ref (b + 17)), (2, .int x)]) C0.1 C0.2.1 dX5_leaveTo_2 rfl hl (by decide) rfl (fun ls hl => ?_)
  refine lv_iconst (pc := 3) (v := 0) C0.1 C0.2.1 dX5_leaveTo_3 (by decide) ?_
  refine lv_istore (pc := 4) (lv' := [(4, .int 0), (3, .int (-9)), (0, .ref (b + 70)), (1, .ref (b + 17)), (2, .int x)]) C0.1 C0.2.1 dX5_leaveTo_4 hl (by decide) rfl (fun ls hl => ?_)
  exact L6 601 0 (-9) i F G _ _ _ (by have : Int32.toInt 0 = 0 := rfl; omega) (by have : Int32.toInt 0 = 0 := rfl; omega) On.rf (show (0 ≤ Int32.toInt (i 73 1) ∧ Int32.toInt (i 73 1) ≤ 4000) ∧ (0 ≤ Int32.toInt (i 75 1) ∧ Int32.toInt (i 75 1) ≤ 4000) from by omega) hH hS (lv_sub hl [0, 1, 2, 3, 4] rfl)
set_option maxHeartbeats 4000000 in
set_option maxRecDepth 100000 in
theorem g_X5_enterBlock (l : Launch) (D : va_G) (tA : Nat → ClassId) (b : Nat) (i F : Nat → Nat → Int32) (G : Nat → Nat → Int64) (x : Int32) (hF : Tf17 i F) (hQ : Pp17 600 i F) (hPg : (0 ≤ (i 73 1).toInt ∧ (i 73 1).toInt ≤ 4000) ∧ (0 ≤ (i 75 1).toInt ∧ (i 75 1).toInt ≤ 4000)) : xMV l yX5_enterBlock cX5_enterBlock 2 none 0 0 D tA b 0 78 i F G [.ref (b + 70), .int x] (fun u => On 70 77 i F G u ∧ (0 ≤ (u.1 73 1).toInt ∧ (u.1 73 1).toInt ≤ 4000) ∧ (0 ≤ (u.1 75 1).toInt ∧ (u.1 75 1).toInt ≤ 4000)) := by
  refine xstart RX5 rfl (by decide) (Nat.le_of_ble_eq_true rfl) ?_
  intro p e s m below meth c ls C0 hr hH hS hl
  have hl : lv_has ls 2 [(0, .ref (b + 70)), (1, .int x)] := hl
  have rg_x := fb_rng x
  have hL := Tf17.lin hF
  have h6 : Int32.toInt (nI 601) = 601 := rfl
  refine lv_iload_n (pc := 0) C0.1 C0.2.1 dX5_enterBlock_0 rfl (lv_at hl 1 rfl) ?_
  refine lv_if_lt (pc := 1) (tgt := 28) C0.1 C0.2.1 dX5_enterBlock_1 (by decide) (fun c1 => ?_) (fun c1 => ?_)
  · have : Int32.toInt 0 = 0 := rfl
    have c1 := Int32.lt_iff_toInt_lt.mp c1
    exact xvret (pc := 28) C0 hr hH hS dX5_enterBlock_28 ⟨On.rf, (show (0 ≤ Int32.toInt (i 73 1) ∧ Int32.toInt (i 73 1) ≤ 4000) ∧ (0 ≤ Int32.toInt (i 75 1) ∧ Int32.toInt (i 75 1) ≤ 4000) from by omega)⟩
  · have : Int32.toInt 0 = 0 := rfl
    have c1 : ¬ _ := fun q => c1 (Int32.lt_iff_toInt_lt.mpr q)
    refine lv_iload_n (pc := 4) C0.1 C0.2.1 dX5_enterBlock_4 rfl (lv_at hl 1 rfl) ?_
    refine lv_aload_n (pc := 5) C0.1 C0.2.1 dX5_enterBlock_5 rfl (lv_at hl 0 rfl) ?_
    refine xget (pc := 6) C0 hH 70 0 clX5 ⟨Nat.le_of_ble_eq_true rfl, Nat.le_of_ble_eq_true rfl⟩ ⟨rfl, rfl⟩ (Nat.le_of_ble_eq_true rfl) fl_X5_9 (v := .ref (b + 71)) rfl dX5_enterBlock_6 ?_
    refine xalen (pc := 9) (N := 601) (t := 50) C0 hH 71 ⟨Nat.le_of_ble_eq_true rfl, Nat.le_of_ble_eq_true rfl⟩ ⟨rfl, rfl⟩ (by decide) dX5_enterBlock_9 ?_
    refine lv_icmp_ge (pc := 10) (tgt := 28) C0.1 C0.2.1 dX5_enterBlock_10 (by decide) (fun c2 => ?_) (fun c2 => ?_)
    · have c2 := Int32.le_iff_toInt_le.mp c2
      exact xvret (pc := 28) C0 hr hH hS dX5_enterBlock_28 ⟨On.rf, (show (0 ≤ Int32.toInt (i 73 1) ∧ Int32.toInt (i 73 1) ≤ 4000) ∧ (0 ≤ Int32.toInt (i 75 1) ∧ Int32.toInt (i 75 1) ≤ 4000) from by omega)⟩
    · have c2 : ¬ _ := fun q => c2 (Int32.le_iff_toInt_le.mpr q)
      refine lv_aload_n (pc := 13) C0.1 C0.2.1 dX5_enterBlock_13 rfl (lv_at hl 0 rfl) ?_
      refine xget (pc := 14) C0 hH 70 0 clX5 ⟨Nat.le_of_ble_eq_true rfl, Nat.le_of_ble_eq_true rfl⟩ ⟨rfl, rfl⟩ (Nat.le_of_ble_eq_true rfl) fl_X5_9 (v := .ref (b + 71)) rfl dX5_enterBlock_14 ?_
      refine lv_iload_n (pc := 17) C0.1 C0.2.1 dX5_enterBlock_17 rfl (lv_at hl 1 rfl) ?_
      refine lv_aload_n (pc := 18) C0.1 C0.2.1 dX5_enterBlock_18 rfl (lv_at hl 0 rfl) ?_
      refine xget (pc := 19) C0 hH 70 2 clX5 ⟨Nat.le_of_ble_eq_true rfl, Nat.le_of_ble_eq_true rfl⟩ ⟨rfl, rfl⟩ (Nat.le_of_ble_eq_true rfl) fl_X5_109 (v := .int (i 70 2)) rfl dX5_enterBlock_19 ?_
      refine xiast (pc := 22) (N := 601) C0 (Nat.le_of_ble_eq_true rfl) hH hS 71 ⟨Nat.le_of_ble_eq_true rfl, Nat.le_of_ble_eq_true rfl⟩ ⟨rfl, rfl⟩ (vI (by omega) (by omega)) dX5_enterBlock_22 (fun _ locs hH hS _ => ?_)
      have hH : Hd D tA b 0 78 zz i (va_up F 71 (upd (F 71) (Int32.toNatClampNeg x) (i 70 2))) G _ := hH
      refine lv_aload_n (pc := 23) C0.1 C0.2.1 dX5_enterBlock_23 rfl (lv_at hl 0 rfl) ?_
      refine lv_iload_n (pc := 24) C0.1 C0.2.1 dX5_enterBlock_24 rfl (lv_at hl 1 rfl) ?_
      refine xputI (pc := 25) C0 (Nat.le_of_ble_eq_true rfl) hH hS 70 3 clX5 ⟨Nat.le_of_ble_eq_true rfl, Nat.le_of_ble_eq_true rfl⟩ ⟨rfl, rfl⟩ ⟨Nat.le_of_ble_eq_true rfl, rfl, rfl⟩ fl_X5_35 (x := x) ⟨rfl, rfl⟩ dX5_enterBlock_25 (fun _ locs hH hS _ => ?_)
      have hH : Hd D tA b 0 78 zz (up2 i 70 3 x) (va_up F 71 (upd (F 71) (Int32.toNatClampNeg x) (i 70 2))) G _ := hH
      exact xvret (pc := 28) C0 hr hH hS dX5_enterBlock_28 ⟨(On.f (On.i On.rf (by decide)) (by decide)), (show (0 ≤ Int32.toInt (i 73 1) ∧ Int32.toInt (i 73 1) ≤ 4000) ∧ (0 ≤ Int32.toInt (i 75 1) ∧ Int32.toInt (i 75 1) ≤ 4000) from by omega)⟩
set_option maxHeartbeats 4000000 in
set_option maxRecDepth 100000 in
theorem g_X5_followsEmpty (l : Launch) (D : va_G) (tA : Nat → ClassId) (b : Nat) (i F : Nat → Nat → Int32) (G : Nat → Nat → Int64) (x y : Int32) (hF : Tf17 i F) (hQ : Pp17 600 i F) (hPg : (0 ≤ (i 73 1).toInt ∧ (i 73 1).toInt ≤ 4000) ∧ (0 ≤ (i 75 1).toInt ∧ (i 75 1).toInt ≤ 4000)) (hy : 0 ≤ y.toInt ∧ y.toInt < 600) (hio : 0 ≤ (F 36 y.toNatClampNeg).toInt ∧ (F 36 y.toNatClampNeg).toInt < 1200) : xMI l yX5_followsEmpty cX5_followsEmpty 5 (some .boolean) 1 21 D tA b 0 78 i F G [.ref (b + 70), .ref (b + 8), .int x, .int y] (fun r u => u = (i, F, G) ∧ (r.toInt = 0 ∨ r.toInt = 1)) := by
  refine xstart RX5 rfl (by decide) (Nat.le_of_ble_eq_true rfl) ?_
  intro p e s m below meth c ls C0 hr hH hS hl
  have hl : lv_has ls 5 [(0, .ref (b + 70)), (1, .ref (b + 8)), (2, .int x), (3, .int y)] := hl
  have rg_x := fb_rng x
  have rg_y := fb_rng y
  have hL := Tf17.lin hF
  refine lv_aload_n (pc := 0) C0.1 C0.2.1 dX5_followsEmpty_0 rfl (lv_at hl 1 rfl) ?_
  refine xget (pc := 1) C0 hH 8 1 clX4 ⟨Nat.le_of_ble_eq_true rfl, Nat.le_of_ble_eq_true rfl⟩ ⟨rfl, rfl⟩ (Nat.le_of_ble_eq_true rfl) fl_X5_18 (v := .ref (b + 17)) rfl dX5_followsEmpty_1 ?_
  refine xget (pc := 4) C0 hH 17 0 clX8 ⟨Nat.le_of_ble_eq_true rfl, Nat.le_of_ble_eq_true rfl⟩ ⟨rfl, rfl⟩ (Nat.le_of_ble_eq_true rfl) fl_X5_93 (v := .ref (b + 18)) rfl dX5_followsEmpty_4 ?_
  refine lv_astore (pc := 7) (lv' := [(4, .ref (b + 18)), (0, .ref (b + 70)), (1, .ref (b + 8)), (2, .int x), (3, .int y)]) C0.1 C0.2.1 dX5_followsEmpty_7 hl (by decide) rfl (fun ls hl => ?_)
  refine lv_aload (pc := 9) C0.1 C0.2.1 dX5_followsEmpty_9 (lv_at hl 0 rfl) ?_
  refine lv_iload_n (pc := 11) C0.1 C0.2.1 dX5_followsEmpty_11 rfl (lv_at hl 3 rfl) ?_
  refine xcVI (pc := 12) 18 [.int x] (g_X0_has_18 l D tA b i F G x ) C0 hH hS clX0 rfl ⟨⟨Nat.le_of_ble_eq_true rfl, Nat.le_of_ble_eq_true rfl⟩, rfl, rfl⟩ cw_X5_97 rfl ⟨Nat.le_of_ble_eq_true rfl, Nat.le_of_ble_eq_true rfl⟩ hl.1 rfl (Nat.le_of_ble_eq_true rfl) dX5_followsEmpty_12 ⟨Nat.le_of_ble_eq_true rfl, Nat.le_of_ble_eq_true rfl⟩ (fun r1 ir1 Fr1 Gr1 _ locs hp hH hS => ?_)
  obtain ⟨hu, hpr1⟩ := hp
  cases hu
  refine lv_if_eq (pc := 15) (tgt := 70) C0.1 C0.2.1 dX5_followsEmpty_15 (by decide) (fun c2 => ?_) (fun c2 => ?_)
  · have : Int32.toInt 0 = 0 := rfl
    have c2 := congrArg Int32.toInt c2
    refine lv_iconst (pc := 70) (v := 0) C0.1 C0.2.1 dX5_followsEmpty_70 (by decide) ?_
    exact xzret (pc := 71) C0 hr hH hS dX5_followsEmpty_71 (by decide) ⟨rfl, by decide⟩
  · have : Int32.toInt 0 = 0 := rfl
    have c2 : ¬ _ := fun q => c2 (Int32.toInt_inj.mp q)
    refine lv_iload_n (pc := 18) C0.1 C0.2.1 dX5_followsEmpty_18 rfl (lv_at hl 4 rfl) ?_
    refine lv_aload_n (pc := 19) C0.1 C0.2.1 dX5_followsEmpty_19 rfl (lv_at hl 2 rfl) ?_
    refine xget (pc := 20) C0 hH 8 1 clX4 ⟨Nat.le_of_ble_eq_true rfl, Nat.le_of_ble_eq_true rfl⟩ ⟨rfl, rfl⟩ (Nat.le_of_ble_eq_true rfl) fl_X5_18 (v := .ref (b + 17)) rfl dX5_followsEmpty_20 ?_
    refine xget (pc := 23) C0 hH 17 1 clX8 ⟨Nat.le_of_ble_eq_true rfl, Nat.le_of_ble_eq_true rfl⟩ ⟨rfl, rfl⟩ (Nat.le_of_ble_eq_true rfl) fl_X5_24 (v := .ref (b + 28)) rfl dX5_followsEmpty_23 ?_
    refine xget (pc := 26) C0 hH 28 2 clX2 ⟨Nat.le_of_ble_eq_true rfl, Nat.le_of_ble_eq_true rfl⟩ ⟨rfl, rfl⟩ (Nat.le_of_ble_eq_true rfl) fl_X5_60 (v := .ref (b + 31)) rfl dX5_followsEmpty_26 ?_
    refine lv_aload_n (pc := 29) C0.1 C0.2.1 dX5_followsEmpty_29 rfl (lv_at hl 2 rfl) ?_
    refine xget (pc := 30) C0 hH 8 1 clX4 ⟨Nat.le_of_ble_eq_true rfl, Nat.le_of_ble_eq_true rfl⟩ ⟨rfl, rfl⟩ (Nat.le_of_ble_eq_true rfl) fl_X5_18 (v := .ref (b + 17)) rfl dX5_followsEmpty_30 ?_
    refine xget (pc := 33) C0 hH 17 2 clX8 ⟨Nat.le_of_ble_eq_true rfl, Nat.le_of_ble_eq_true rfl⟩ ⟨rfl, rfl⟩ (Nat.le_of_ble_eq_true rfl) fl_X5_130 (v := .ref (b + 36)) rfl dX5_followsEmpty_33 ?_
    refine lv_iload_n (pc := 36) C0.1 C0.2.1 dX5_followsEmpty_36 rfl (lv_at hl 4 rfl) ?_
    refine xiald (pc := 37) (N := 600) C0 hH 36 ⟨Nat.le_of_ble_eq_true rfl, Nat.le_of_ble_eq_true rfl⟩ ⟨rfl, rfl⟩ (vI (by omega) (by omega)) dX5_followsEmpty_37 ?_
    refine xiald (pc := 38) (N := 1200) C0 hH 31 ⟨Nat.le_of_ble_eq_true rfl, Nat.le_of_ble_eq_true rfl⟩ ⟨rfl, rfl⟩ (vI (by omega) (by omega)) dX5_followsEmpty_38 ?_
    refine lv_icmp_eq (pc := 39) (tgt := 70) C0.1 C0.2.1 dX5_followsEmpty_39 (by decide) (fun c3 => ?_) (fun c3 => ?_)
    · have c3 := congrArg Int32.toInt c3
      refine lv_iconst (pc := 70) (v := 0) C0.1 C0.2.1 dX5_followsEmpty_70 (by decide) ?_
      exact xzret (pc := 71) C0 hr hH hS dX5_followsEmpty_71 (by decide) ⟨rfl, by decide⟩
    · have c3 : ¬ _ := fun q => c3 (Int32.toInt_inj.mp q)
      refine lv_aload (pc := 42) C0.1 C0.2.1 dX5_followsEmpty_42 (lv_at hl 0 rfl) ?_
      refine xget (pc := 44) C0 hH 18 3 clX0 ⟨Nat.le_of_ble_eq_true rfl, Nat.le_of_ble_eq_true rfl⟩ ⟨rfl, rfl⟩ (Nat.le_of_ble_eq_true rfl) fl_X5_133 (v := .ref (b + 22)) rfl dX5_followsEmpty_44 ?_
      refine lv_iload_n (pc := 47) C0.1 C0.2.1 dX5_followsEmpty_47 rfl (lv_at hl 3 rfl) ?_
      refine xiald (pc := 48) (N := 601) C0 hH 22 ⟨Nat.le_of_ble_eq_true rfl, Nat.le_of_ble_eq_true rfl⟩ ⟨rfl, rfl⟩ (vI (by omega) (by omega)) dX5_followsEmpty_48 ?_
      refine lv_if_ne (pc := 49) (tgt := 70) C0.1 C0.2.1 dX5_followsEmpty_49 (by decide) (fun c4 => ?_) (fun c4 => ?_)
      · have : Int32.toInt 0 = 0 := rfl
        have c4 : ¬ _ := fun q => c4 (Int32.toInt_inj.mp q)
        refine lv_iconst (pc := 70) (v := 0) C0.1 C0.2.1 dX5_followsEmpty_70 (by decide) ?_
        exact xzret (pc := 71) C0 hr hH hS dX5_followsEmpty_71 (by decide) ⟨rfl, by decide⟩
      · have : Int32.toInt 0 = 0 := rfl
        have c4 := congrArg Int32.toInt c4
        refine lv_aload_n (pc := 52) C0.1 C0.2.1 dX5_followsEmpty_52 rfl (lv_at hl 2 rfl) ?_
        refine xget (pc := 53) C0 hH 8 0 clX4 ⟨Nat.le_of_ble_eq_true rfl, Nat.le_of_ble_eq_true rfl⟩ ⟨rfl, rfl⟩ (Nat.le_of_ble_eq_true rfl) fl_X5_73 (v := .ref (b + 9)) rfl dX5_followsEmpty_53 ?_
        refine xget (pc := 56) C0 hH 9 5 clX7 ⟨Nat.le_of_ble_eq_true rfl, Nat.le_of_ble_eq_true rfl⟩ ⟨rfl, rfl⟩ (Nat.le_of_ble_eq_true rfl) fl_X5_136 (v := .ref (b + 15)) rfl dX5_followsEmpty_56 ?_
        refine lv_iload_n (pc := 59) C0.1 C0.2.1 dX5_followsEmpty_59 rfl (lv_at hl 4 rfl) ?_
        refine xiald (pc := 60) (N := 600) C0 hH 15 ⟨Nat.le_of_ble_eq_true rfl, Nat.le_of_ble_eq_true rfl⟩ ⟨rfl, rfl⟩ (vI (by omega) (by omega)) dX5_followsEmpty_60 ?_
        refine lv_bipush (pc := 61) (v := 6) C0.1 C0.2.1 dX5_followsEmpty_61 (by decide) ?_
        refine lv_icmp_eq (pc := 63) (tgt := 70) C0.1 C0.2.1 dX5_followsEmpty_63 (by decide) (fun c5 => ?_) (fun c5 => ?_)
        · have : Int32.toInt 6 = 6 := rfl
          have c5 := congrArg Int32.toInt c5
          refine lv_iconst (pc := 70) (v := 0) C0.1 C0.2.1 dX5_followsEmpty_70 (by decide) ?_
          exact xzret (pc := 71) C0 hr hH hS dX5_followsEmpty_71 (by decide) ⟨rfl, by decide⟩
        · have : Int32.toInt 6 = 6 := rfl
          have c5 : ¬ _ := fun q => c5 (Int32.toInt_inj.mp q)
          refine lv_iconst (pc := 66) (v := 1) C0.1 C0.2.1 dX5_followsEmpty_66 (by decide) ?_
          refine lv_goto (pc := 67) (tgt := 71) C0.1 C0.2.1 dX5_followsEmpty_67 (by decide) ?_
          exact xzret (pc := 71) C0 hr hH hS dX5_followsEmpty_71 (by decide) ⟨rfl, by decide⟩
set_option maxHeartbeats 4000000 in
set_option maxRecDepth 100000 in
theorem g_X5_beginLine_73 (l : Launch) (D : va_G) (tA : Nat → ClassId) (b : Nat) (i F : Nat → Nat → Int32) (G : Nat → Nat → Int64) (x : Int32) (hF : Tf17 i F) (hQ : Pp17 600 i F) (hPg : (0 ≤ (i 73 1).toInt ∧ (i 73 1).toInt ≤ 4000) ∧ (0 ≤ (i 75 1).toInt ∧ (i 75 1).toInt ≤ 4000)) : xMV l yX5_beginLine cX5_beginLine 3 none 2 43 D tA b 0 78 i F G [.ref (b + 70), .int x, .ref (b + 73)] (fun u => On 70 77 i F G u ∧ (0 ≤ (u.1 73 1).toInt ∧ (u.1 73 1).toInt ≤ 4000) ∧ (0 ≤ (u.1 75 1).toInt ∧ (u.1 75 1).toInt ≤ 4000)) := by
  refine xstart RX5 rfl (by decide) (Nat.le_of_ble_eq_true rfl) ?_
  intro p e s m below meth c ls C0 hr hH hS hl
  have hl : lv_has ls 3 [(0, .ref (b + 70)), (1, .int x), (2, .ref (b + 73))] := hl
  have rg_x := fb_rng x
  have hL := Tf17.lin hF
  refine lv_aload_n (pc := 0) C0.1 C0.2.1 dX5_beginLine_0 rfl (lv_at hl 2 rfl) ?_
  refine xget (pc := 1) C0 hH 73 1 clX3 ⟨Nat.le_of_ble_eq_true rfl, Nat.le_of_ble_eq_true rfl⟩ ⟨rfl, rfl⟩ (Nat.le_of_ble_eq_true rfl) fl_X5_127 (v := .int (i 73 1)) rfl dX5_beginLine_1 ?_
  refine lv_if_le (pc := 4) (tgt := 13) C0.1 C0.2.1 dX5_beginLine_4 (by decide) (fun c1 => ?_) (fun c1 => ?_)
  · have : Int32.toInt 0 = 0 := rfl
    have c1 := Int32.le_iff_toInt_le.mp c1
    refine lv_aload_n (pc := 13) C0.1 C0.2.1 dX5_beginLine_13 rfl (lv_at hl 2 rfl) ?_
    refine lv_iload_n (pc := 14) C0.1 C0.2.1 dX5_beginLine_14 rfl (lv_at hl 1 rfl) ?_
    refine xcVV (pc := 15) 73 [.int x] (g_X3_putBlanks_73 l D tA b i F G x (show 0 ≤ Int32.toInt (i 73 1) ∧ Int32.toInt (i 73 1) ≤ 4000 from by omega)) C0 hH hS clX3 rfl ⟨⟨Nat.le_of_ble_eq_true rfl, Nat.le_of_ble_eq_true rfl⟩, rfl, rfl⟩ cw_X5_143 rfl ⟨Nat.le_of_ble_eq_true rfl, Nat.le_of_ble_eq_true rfl⟩ hl.1 rfl (Nat.le_of_ble_eq_true rfl) dX5_beginLine_15 ⟨Nat.le_of_ble_eq_true rfl, Nat.le_of_ble_eq_true rfl⟩ (fun ir2 Fr2 Gr2 _ locs hp hH hS => ?_)
    obtain ⟨honr2, hs1r2, hs2r2⟩ := hp
    dsimp only at hs1r2 hs2r2
    have hF : Tf17 ir2 Fr2 := Tf17.on (i := i) (F := F) hF honr2 (by decide)
    have hQ : Pp17 600 ir2 Fr2 := Pp17.on (i := i) (F := F) hQ honr2 (by decide)
    have ek_75_1r2 : Int32.toInt (ir2 75 1) = Int32.toInt (i 75 1) := congrArg Int32.toInt (congrFun (honr2.1 75 (by decide)).1 1)
    have ek_4_1r2 : Int32.toInt (ir2 4 1) = Int32.toInt (i 4 1) := congrArg Int32.toInt (congrFun (honr2.1 4 (by decide)).1 1)
    refine lv_aload_n (pc := 18) C0.1 C0.2.1 dX5_beginLine_18 rfl (lv_at hl 0 rfl) ?_
    refine lv_iload_n (pc := 19) C0.1 C0.2.1 dX5_beginLine_19 rfl (lv_at hl 1 rfl) ?_
    refine xputI (pc := 20) C0 (Nat.le_of_ble_eq_true rfl) hH hS 70 2 clX5 ⟨Nat.le_of_ble_eq_true rfl, Nat.le_of_ble_eq_true rfl⟩ ⟨rfl, rfl⟩ ⟨Nat.le_of_ble_eq_true rfl, rfl, rfl⟩ fl_X5_109 (x := x) ⟨rfl, rfl⟩ dX5_beginLine_20 (fun _ locs hH hS _ => ?_)
    have hH : Hd D tA b 0 78 zz (up2 ir2 70 2 x) Fr2 Gr2 _ := hH
    exact xvret (pc := 23) C0 hr hH hS dX5_beginLine_23 ⟨(On.i (On.tr On.rf honr2 (by decide) (by decide)) (by decide)), (show (0 ≤ Int32.toInt (ir2 73 1) ∧ Int32.toInt (ir2 73 1) ≤ 4000) ∧ (0 ≤ Int32.toInt (ir2 75 1) ∧ Int32.toInt (ir2 75 1) ≤ 4000) from by omega)⟩
  · have : Int32.toInt 0 = 0 := rfl
    have c1 : ¬ _ := fun q => c1 (Int32.le_iff_toInt_le.mpr q)
    refine lv_aload_n (pc := 7) C0.1 C0.2.1 dX5_beginLine_7 rfl (lv_at hl 2 rfl) ?_
    refine lv_bipush (pc := 8) (v := 10) C0.1 C0.2.1 dX5_beginLine_8 (by decide) ?_
    refine xcVV (pc := 10) 73 [.int 10] (g_X3_put_73 l D tA b i F G 10 (show 0 ≤ Int32.toInt (i 73 1) ∧ Int32.toInt (i 73 1) ≤ 4000 from by omega)) C0 hH hS clX3 rfl ⟨⟨Nat.le_of_ble_eq_true rfl, Nat.le_of_ble_eq_true rfl⟩, rfl, rfl⟩ cw_X5_69 rfl ⟨Nat.le_of_ble_eq_true rfl, Nat.le_of_ble_eq_true rfl⟩ hl.1 rfl (Nat.le_of_ble_eq_true rfl) dX5_beginLine_10 ⟨Nat.le_of_ble_eq_true rfl, Nat.le_of_ble_eq_true rfl⟩ (fun ir3 Fr3 Gr3 _ locs hp hH hS => ?_)
    obtain ⟨honr3, hs1r3, hs2r3⟩ := hp
    dsimp only at hs1r3 hs2r3
    have hF : Tf17 ir3 Fr3 := Tf17.on (i := i) (F := F) hF honr3 (by decide)
    have hQ : Pp17 600 ir3 Fr3 := Pp17.on (i := i) (F := F) hQ honr3 (by decide)
    have ek_75_1r3 : Int32.toInt (ir3 75 1) = Int32.toInt (i 75 1) := congrArg Int32.toInt (congrFun (honr3.1 75 (by decide)).1 1)
    have ek_4_1r3 : Int32.toInt (ir3 4 1) = Int32.toInt (i 4 1) := congrArg Int32.toInt (congrFun (honr3.1 4 (by decide)).1 1)
    refine lv_aload_n (pc := 13) C0.1 C0.2.1 dX5_beginLine_13 rfl (lv_at hl 2 rfl) ?_
    refine lv_iload_n (pc := 14) C0.1 C0.2.1 dX5_beginLine_14 rfl (lv_at hl 1 rfl) ?_
    refine xcVV (pc := 15) 73 [.int x] (g_X3_putBlanks_73 l D tA b ir3 Fr3 Gr3 x (show 0 ≤ Int32.toInt (ir3 73 1) ∧ Int32.toInt (ir3 73 1) ≤ 4000 from by omega)) C0 hH hS clX3 rfl ⟨⟨Nat.le_of_ble_eq_true rfl, Nat.le_of_ble_eq_true rfl⟩, rfl, rfl⟩ cw_X5_143 rfl ⟨Nat.le_of_ble_eq_true rfl, Nat.le_of_ble_eq_true rfl⟩ hl.1 rfl (Nat.le_of_ble_eq_true rfl) dX5_beginLine_15 ⟨Nat.le_of_ble_eq_true rfl, Nat.le_of_ble_eq_true rfl⟩ (fun ir4 Fr4 Gr4 _ locs hp hH hS => ?_)
    obtain ⟨honr4, hs1r4, hs2r4⟩ := hp
    dsimp only at hs1r4 hs2r4
    have hF : Tf17 ir4 Fr4 := Tf17.on (i := ir3) (F := Fr3) hF honr4 (by decide)
    have hQ : Pp17 600 ir4 Fr4 := Pp17.on (i := ir3) (F := Fr3) hQ honr4 (by decide)
    have ek_75_1r4 : Int32.toInt (ir4 75 1) = Int32.toInt (ir3 75 1) := congrArg Int32.toInt (congrFun (honr4.1 75 (by decide)).1 1)
    have ek_4_1r4 : Int32.toInt (ir4 4 1) = Int32.toInt (ir3 4 1) := congrArg Int32.toInt (congrFun (honr4.1 4 (by decide)).1 1)
    refine lv_aload_n (pc := 18) C0.1 C0.2.1 dX5_beginLine_18 rfl (lv_at hl 0 rfl) ?_
    refine lv_iload_n (pc := 19) C0.1 C0.2.1 dX5_beginLine_19 rfl (lv_at hl 1 rfl) ?_
    refine xputI (pc := 20) C0 (Nat.le_of_ble_eq_true rfl) hH hS 70 2 clX5 ⟨Nat.le_of_ble_eq_true rfl, Nat.le_of_ble_eq_true rfl⟩ ⟨rfl, rfl⟩ ⟨Nat.le_of_ble_eq_true rfl, rfl, rfl⟩ fl_X5_109 (x := x) ⟨rfl, rfl⟩ dX5_beginLine_20 (fun _ locs hH hS _ => ?_)
    have hH : Hd D tA b 0 78 zz (up2 ir4 70 2 x) Fr4 Gr4 _ := hH
    exact xvret (pc := 23) C0 hr hH hS dX5_beginLine_23 ⟨(On.i (On.tr (On.tr On.rf honr3 (by decide) (by decide)) honr4 (by decide) (by decide)) (by decide)), (show (0 ≤ Int32.toInt (ir4 73 1) ∧ Int32.toInt (ir4 73 1) ≤ 4000) ∧ (0 ≤ Int32.toInt (ir4 75 1) ∧ Int32.toInt (ir4 75 1) ≤ 4000) from by omega)⟩
set_option maxHeartbeats 4000000 in
set_option maxRecDepth 100000 in
theorem g_X5_drawGap_73 (l : Launch) (D : va_G) (tA : Nat → ClassId) (b : Nat) (i F : Nat → Nat → Int32) (G : Nat → Nat → Int64) (x y z w : Int32) (hF : Tf17 i F) (hQ : Pp17 600 i F) (hPg : (0 ≤ (i 73 1).toInt ∧ (i 73 1).toInt ≤ 4000) ∧ (0 ≤ (i 75 1).toInt ∧ (i 75 1).toInt ≤ 4000)) (hx : 0 ≤ x.toInt ∧ x.toInt < 1200) : xMV l yX5_drawGap cX5_drawGap 10 none 3 65 D tA b 0 78 i F G [.ref (b + 70), .ref (b + 17), .int x, .int y, .int z, .ref (b + 73), .int w] (fun u => On 70 77 i F G u ∧ (0 ≤ (u.1 73 1).toInt ∧ (u.1 73 1).toInt ≤ 4000) ∧ (0 ≤ (u.1 75 1).toInt ∧ (u.1 75 1).toInt ≤ 4000)) := by
  refine xstart RX5 rfl (by decide) (Nat.le_of_ble_eq_true rfl) ?_
  intro p e s m below meth c ls C0 hr hH hS hl
  have hl : lv_has ls 10 [(0, .ref (b + 70)), (1, .ref (b + 17)), (2, .int x), (3, .int y), (4, .int z), (5, .ref (b + 73)), (6, .int w)] := hl
  have rg_x := fb_rng x
  have rg_y := fb_rng y
  have rg_z := fb_rng z
  have rg_w := fb_rng w
  have hL := Tf17.lin hF
  refine lv_aload_n (pc := 0) C0.1 C0.2.1 dX5_drawGap_0 rfl (lv_at hl 1 rfl) ?_
  refine xget (pc := 1) C0 hH 17 0 clX8 ⟨Nat.le_of_ble_eq_true rfl, Nat.le_of_ble_eq_true rfl⟩ ⟨rfl, rfl⟩ (Nat.le_of_ble_eq_true rfl) fl_X5_93 (v := .ref (b + 18)) rfl dX5_drawGap_1 ?_
  refine lv_astore (pc := 4) (lv' := [(7, .ref (b + 18)), (0, .ref (b + 70)), (1, .ref (b + 17)), (2, .int x), (3, .int y), (4, .int z), (5, .ref (b + 73)), (6, .int w)]) C0.1 C0.2.1 dX5_drawGap_4 hl (by decide) rfl (fun ls hl => ?_)
  refine lv_aload_n (pc := 6) C0.1 C0.2.1 dX5_drawGap_6 rfl (lv_at hl 2 rfl) ?_
  refine xget (pc := 7) C0 hH 17 1 clX8 ⟨Nat.le_of_ble_eq_true rfl, Nat.le_of_ble_eq_true rfl⟩ ⟨rfl, rfl⟩ (Nat.le_of_ble_eq_true rfl) fl_X5_24 (v := .ref (b + 28)) rfl dX5_drawGap_7 ?_
  refine xget (pc := 10) C0 hH 28 0 clX2 ⟨Nat.le_of_ble_eq_true rfl, Nat.le_of_ble_eq_true rfl⟩ ⟨rfl, rfl⟩ (Nat.le_of_ble_eq_true rfl) fl_X5_50 (v := .ref (b + 29)) rfl dX5_drawGap_10 ?_
  refine lv_iload_n (pc := 13) C0.1 C0.2.1 dX5_drawGap_13 rfl (lv_at hl 3 rfl) ?_
  refine xiald (pc := 14) (N := 1200) C0 hH 29 ⟨Nat.le_of_ble_eq_true rfl, Nat.le_of_ble_eq_true rfl⟩ ⟨rfl, rfl⟩ (vI (by omega) (by omega)) dX5_drawGap_14 ?_
  refine lv_topi (fun x1 ex1 => ?_)
  refine lv_istore (pc := 15) (lv' := [(8, .int x1), (7, .ref (b + 18)), (0, .ref (b + 70)), (1, .ref (b + 17)), (2, .int x), (3, .int y), (4, .int z), (5, .ref (b + 73)), (6, .int w)]) C0.1 C0.2.1 dX5_drawGap_15 hl (by decide) rfl (fun ls hl => ?_)
  have hv8 : 0 ≤ Int32.toInt x1 ∧ Int32.toInt x1 < 601 := by rw [ex1]; exact hF.ow _
  refine lv_aload (pc := 17) C0.1 C0.2.1 dX5_drawGap_17 (lv_at hl 1 rfl) ?_
  refine xget (pc := 19) C0 hH 18 0 clX0 ⟨Nat.le_of_ble_eq_true rfl, Nat.le_of_ble_eq_true rfl⟩ ⟨rfl, rfl⟩ (Nat.le_of_ble_eq_true rfl) fl_X5_103 (v := .ref (b + 19)) rfl dX5_drawGap_19 ?_
  refine lv_iload (pc := 22) C0.1 C0.2.1 dX5_drawGap_22 (lv_at hl 0 rfl) ?_
  refine xiald (pc := 24) (N := 601) C0 hH 19 ⟨Nat.le_of_ble_eq_true rfl, Nat.le_of_ble_eq_true rfl⟩ ⟨rfl, rfl⟩ (vI (by omega) (by omega)) dX5_drawGap_24 ?_
  refine lv_topi (fun x2 ex2 => ?_)
  refine lv_istore (pc := 25) (lv' := [(9, .int x2), (8, .int x1), (7, .ref (b + 18)), (0, .ref (b + 70)), (1, .ref (b + 17)), (2, .int x), (3, .int y), (4, .int z), (5, .ref (b + 73)), (6, .int w)]) C0.1 C0.2.1 dX5_drawGap_25 hl (by decide) rfl (fun ls hl => ?_)
  refine lv_iload_n (pc := 27) C0.1 C0.2.1 dX5_drawGap_27 rfl (lv_at hl 6 rfl) ?_
  refine lv_aload_n (pc := 28) C0.1 C0.2.1 dX5_drawGap_28 rfl (lv_at hl 4 rfl) ?_
  refine xget (pc := 29) C0 hH 17 1 clX8 ⟨Nat.le_of_ble_eq_true rfl, Nat.le_of_ble_eq_true rfl⟩ ⟨rfl, rfl⟩ (Nat.le_of_ble_eq_true rfl) fl_X5_24 (v := .ref (b + 28)) rfl dX5_drawGap_29 ?_
  refine xget (pc := 32) C0 hH 28 2 clX2 ⟨Nat.le_of_ble_eq_true rfl, Nat.le_of_ble_eq_true rfl⟩ ⟨rfl, rfl⟩ (Nat.le_of_ble_eq_true rfl) fl_X5_60 (v := .ref (b + 31)) rfl dX5_drawGap_32 ?_
  refine lv_iload_n (pc := 35) C0.1 C0.2.1 dX5_drawGap_35 rfl (lv_at hl 5 rfl) ?_
  refine xiald (pc := 36) (N := 1200) C0 hH 31 ⟨Nat.le_of_ble_eq_true rfl, Nat.le_of_ble_eq_true rfl⟩ ⟨rfl, rfl⟩ (vI (by omega) (by omega)) dX5_drawGap_36 ?_
  refine lv_icmp_ne (pc := 37) (tgt := 88) C0.1 C0.2.1 dX5_drawGap_37 (by decide) (fun c3 => ?_) (fun c3 => ?_)
  · have c3 : ¬ _ := fun q => c3 (Int32.toInt_inj.mp q)
    refine lv_iload_n (pc := 88) C0.1 C0.2.1 dX5_drawGap_88 rfl (lv_at hl 6 rfl) ?_
    refine lv_aload_n (pc := 89) C0.1 C0.2.1 dX5_drawGap_89 rfl (lv_at hl 4 rfl) ?_
    refine xget (pc := 90) C0 hH 17 1 clX8 ⟨Nat.le_of_ble_eq_true rfl, Nat.le_of_ble_eq_true rfl⟩ ⟨rfl, rfl⟩ (Nat.le_of_ble_eq_true rfl) fl_X5_24 (v := .ref (b + 28)) rfl dX5_drawGap_90 ?_
    refine xget (pc := 93) C0 hH 28 2 clX2 ⟨Nat.le_of_ble_eq_true rfl, Nat.le_of_ble_eq_true rfl⟩ ⟨rfl, rfl⟩ (Nat.le_of_ble_eq_true rfl) fl_X5_60 (v := .ref (b + 31)) rfl dX5_drawGap_93 ?_
    refine lv_iload_n (pc := 96) C0.1 C0.2.1 dX5_drawGap_96 rfl (lv_at hl 5 rfl) ?_
    refine xiald (pc := 97) (N := 1200) C0 hH 31 ⟨Nat.le_of_ble_eq_true rfl, Nat.le_of_ble_eq_true rfl⟩ ⟨rfl, rfl⟩ (vI (by omega) (by omega)) dX5_drawGap_97 ?_
    refine lv_icmp_eq (pc := 98) (tgt := 170) C0.1 C0.2.1 dX5_drawGap_98 (by decide) (fun c4 => ?_) (fun c4 => ?_)
    · have c4 := congrArg Int32.toInt c4
      refine lv_aload (pc := 170) C0.1 C0.2.1 dX5_drawGap_170 (lv_at hl 8 rfl) ?_
      refine lv_bipush (pc := 172) (v := 32) C0.1 C0.2.1 dX5_drawGap_172 (by decide) ?_
      refine xcVV (pc := 174) 73 [.int 32] (g_X3_put_73 l D tA b i F G 32 (show 0 ≤ Int32.toInt (i 73 1) ∧ Int32.toInt (i 73 1) ≤ 4000 from by omega)) C0 hH hS clX3 rfl ⟨⟨Nat.le_of_ble_eq_true rfl, Nat.le_of_ble_eq_true rfl⟩, rfl, rfl⟩ cw_X5_69 rfl ⟨Nat.le_of_ble_eq_true rfl, Nat.le_of_ble_eq_true rfl⟩ hl.1 rfl (Nat.le_of_ble_eq_true rfl) dX5_drawGap_174 ⟨Nat.le_of_ble_eq_true rfl, Nat.le_of_ble_eq_true rfl⟩ (fun ir5 Fr5 Gr5 _ locs hp hH hS => ?_)
      obtain ⟨honr5, hs1r5, hs2r5⟩ := hp
      dsimp only at hs1r5 hs2r5
      have hF : Tf17 ir5 Fr5 := Tf17.on (i := i) (F := F) hF honr5 (by decide)
      have hQ : Pp17 600 ir5 Fr5 := Pp17.on (i := i) (F := F) hQ honr5 (by decide)
      have ek_75_1r5 : Int32.toInt (ir5 75 1) = Int32.toInt (i 75 1) := congrArg Int32.toInt (congrFun (honr5.1 75 (by decide)).1 1)
      have ek_4_1r5 : Int32.toInt (ir5 4 1) = Int32.toInt (i 4 1) := congrArg Int32.toInt (congrFun (honr5.1 4 (by decide)).1 1)
      exact xvret (pc := 177) C0 hr hH hS dX5_drawGap_177 ⟨(On.tr On.rf honr5 (by decide) (by decide)), (show (0 ≤ Int32.toInt (ir5 73 1) ∧ Int32.toInt (ir5 73 1) ≤ 4000) ∧ (0 ≤ Int32.toInt (ir5 75 1) ∧ Int32.toInt (ir5 75 1) ≤ 4000) from by omega)⟩
    · have c4 : ¬ _ := fun q => c4 (Int32.toInt_inj.mp q)
      refine lv_aload (pc := 101) C0.1 C0.2.1 dX5_drawGap_101 (lv_at hl 2 rfl) ?_
      refine lv_iload (pc := 103) C0.1 C0.2.1 dX5_drawGap_103 (lv_at hl 7 rfl) ?_
      refine xcVI (pc := 105) 18 [.int z] (g_X0_has_18 l D tA b i F G z ) C0 hH hS clX0 rfl ⟨⟨Nat.le_of_ble_eq_true rfl, Nat.le_of_ble_eq_true rfl⟩, rfl, rfl⟩ cw_X5_97 rfl ⟨Nat.le_of_ble_eq_true rfl, Nat.le_of_ble_eq_true rfl⟩ hl.1 rfl (Nat.le_of_ble_eq_true rfl) dX5_drawGap_105 ⟨Nat.le_of_ble_eq_true rfl, Nat.le_of_ble_eq_true rfl⟩ (fun r6 ir6 Fr6 Gr6 _ locs hp hH hS => ?_)
      obtain ⟨hu, hpr6⟩ := hp
      cases hu
      refine lv_if_eq (pc := 108) (tgt := 170) C0.1 C0.2.1 dX5_drawGap_108 (by decide) (fun c7 => ?_) (fun c7 => ?_)
      · have : Int32.toInt 0 = 0 := rfl
        have c7 := congrArg Int32.toInt c7
        refine lv_aload (pc := 170) C0.1 C0.2.1 dX5_drawGap_170 (lv_at hl 8 rfl) ?_
        refine lv_bipush (pc := 172) (v := 32) C0.1 C0.2.1 dX5_drawGap_172 (by decide) ?_
        refine xcVV (pc := 174) 73 [.int 32] (g_X3_put_73 l D tA b i F G 32 (show 0 ≤ Int32.toInt (i 73 1) ∧ Int32.toInt (i 73 1) ≤ 4000 from by omega)) C0 hH hS clX3 rfl ⟨⟨Nat.le_of_ble_eq_true rfl, Nat.le_of_ble_eq_true rfl⟩, rfl, rfl⟩ cw_X5_69 rfl ⟨Nat.le_of_ble_eq_true rfl, Nat.le_of_ble_eq_true rfl⟩ hl.1 rfl (Nat.le_of_ble_eq_true rfl) dX5_drawGap_174 ⟨Nat.le_of_ble_eq_true rfl, Nat.le_of_ble_eq_true rfl⟩ (fun ir8 Fr8 Gr8 _ locs hp hH hS => ?_)
        obtain ⟨honr8, hs1r8, hs2r8⟩ := hp
        dsimp only at hs1r8 hs2r8
        have hF : Tf17 ir8 Fr8 := Tf17.on (i := i) (F := F) hF honr8 (by decide)
        have hQ : Pp17 600 ir8 Fr8 := Pp17.on (i := i) (F := F) hQ honr8 (by decide)
        have ek_75_1r8 : Int32.toInt (ir8 75 1) = Int32.toInt (i 75 1) := congrArg Int32.toInt (congrFun (honr8.1 75 (by decide)).1 1)
        have ek_4_1r8 : Int32.toInt (ir8 4 1) = Int32.toInt (i 4 1) := congrArg Int32.toInt (congrFun (honr8.1 4 (by decide)).1 1)
        exact xvret (pc := 177) C0 hr hH hS dX5_drawGap_177 ⟨(On.tr On.rf honr8 (by decide) (by decide)), (show (0 ≤ Int32.toInt (ir8 73 1) ∧ Int32.toInt (ir8 73 1) ≤ 4000) ∧ (0 ≤ Int32.toInt (ir8 75 1) ∧ Int32.toInt (ir8 75 1) ≤ 4000) from by omega)⟩
      · have : Int32.toInt 0 = 0 := rfl
        have c7 : ¬ _ := fun q => c7 (Int32.toInt_inj.mp q)
        refine lv_aload (pc := 111) C0.1 C0.2.1 dX5_drawGap_111 (lv_at hl 2 rfl) ?_
        refine xget (pc := 113) C0 hH 18 0 clX0 ⟨Nat.le_of_ble_eq_true rfl, Nat.le_of_ble_eq_true rfl⟩ ⟨rfl, rfl⟩ (Nat.le_of_ble_eq_true rfl) fl_X5_103 (v := .ref (b + 19)) rfl dX5_drawGap_113 ?_
        refine lv_iload (pc := 116) C0.1 C0.2.1 dX5_drawGap_116 (lv_at hl 7 rfl) ?_
        refine xiald (pc := 118) (N := 601) C0 hH 19 ⟨Nat.le_of_ble_eq_true rfl, Nat.le_of_ble_eq_true rfl⟩ ⟨rfl, rfl⟩ (vI (by omega) (by omega)) dX5_drawGap_118 ?_
        refine xcNI (pc := 119) [.int (F 19 (Int32.toNatClampNeg z))] (c_X9_isStepped l D tA b 0 78 i F G (F 19 (Int32.toNatClampNeg z))) C0 hH hS cw_X5_106 st_X9_isStepped rfl ⟨Nat.le_of_ble_eq_true rfl, Nat.le_of_ble_eq_true rfl⟩ hl.1 rfl (Nat.le_of_ble_eq_true rfl) dX5_drawGap_119 ⟨Nat.le_of_ble_eq_true rfl, Nat.le_of_ble_eq_true rfl⟩ (fun r9 ir9 Fr9 Gr9 _ locs hp hH hS => ?_)
        obtain ⟨hu, rfl⟩ := hp
        cases hu
        refine lv_if_eq (pc := 122) (tgt := 170) C0.1 C0.2.1 dX5_drawGap_122 (by decide) (fun c10 => ?_) (fun c10 => ?_)
        · have c10 := stp_0 c10
          refine lv_aload (pc := 170) C0.1 C0.2.1 dX5_drawGap_170 (lv_at hl 8 rfl) ?_
          refine lv_bipush (pc := 172) (v := 32) C0.1 C0.2.1 dX5_drawGap_172 (by decide) ?_
          refine xcVV (pc := 174) 73 [.int 32] (g_X3_put_73 l D tA b i F G 32 (show 0 ≤ Int32.toInt (i 73 1) ∧ Int32.toInt (i 73 1) ≤ 4000 from by omega)) C0 hH hS clX3 rfl ⟨⟨Nat.le_of_ble_eq_true rfl, Nat.le_of_ble_eq_true rfl⟩, rfl, rfl⟩ cw_X5_69 rfl ⟨Nat.le_of_ble_eq_true rfl, Nat.le_of_ble_eq_true rfl⟩ hl.1 rfl (Nat.le_of_ble_eq_true rfl) dX5_drawGap_174 ⟨Nat.le_of_ble_eq_true rfl, Nat.le_of_ble_eq_true rfl⟩ (fun ir11 Fr11 Gr11 _ locs hp hH hS => ?_)
          obtain ⟨honr11, hs1r11, hs2r11⟩ := hp
          dsimp only at hs1r11 hs2r11
          have hF : Tf17 ir11 Fr11 := Tf17.on (i := i) (F := F) hF honr11 (by decide)
          have hQ : Pp17 600 ir11 Fr11 := Pp17.on (i := i) (F := F) hQ honr11 (by decide)
          have ek_75_1r11 : Int32.toInt (ir11 75 1) = Int32.toInt (i 75 1) := congrArg Int32.toInt (congrFun (honr11.1 75 (by decide)).1 1)
          have ek_4_1r11 : Int32.toInt (ir11 4 1) = Int32.toInt (i 4 1) := congrArg Int32.toInt (congrFun (honr11.1 4 (by decide)).1 1)
          exact xvret (pc := 177) C0 hr hH hS dX5_drawGap_177 ⟨(On.tr On.rf honr11 (by decide) (by decide)), (show (0 ≤ Int32.toInt (ir11 73 1) ∧ Int32.toInt (ir11 73 1) ≤ 4000) ∧ (0 ≤ Int32.toInt (ir11 75 1) ∧ Int32.toInt (ir11 75 1) ≤ 4000) from by omega)⟩
        · have c10 := stp_1 c10
          refine lv_aload (pc := 125) C0.1 C0.2.1 dX5_drawGap_125 (lv_at hl 2 rfl) ?_
          refine xget (pc := 127) C0 hH 18 3 clX0 ⟨Nat.le_of_ble_eq_true rfl, Nat.le_of_ble_eq_true rfl⟩ ⟨rfl, rfl⟩ (Nat.le_of_ble_eq_true rfl) fl_X5_133 (v := .ref (b + 22)) rfl dX5_drawGap_127 ?_
          refine lv_iload (pc := 130) C0.1 C0.2.1 dX5_drawGap_130 (lv_at hl 7 rfl) ?_
          refine xiald (pc := 132) (N := 601) C0 hH 22 ⟨Nat.le_of_ble_eq_true rfl, Nat.le_of_ble_eq_true rfl⟩ ⟨rfl, rfl⟩ (vI (by omega) (by omega)) dX5_drawGap_132 ?_
          refine lv_if_le (pc := 133) (tgt := 170) C0.1 C0.2.1 dX5_drawGap_133 (by decide) (fun c12 => ?_) (fun c12 => ?_)
          · have : Int32.toInt 0 = 0 := rfl
            have c12 := Int32.le_iff_toInt_le.mp c12
            refine lv_aload (pc := 170) C0.1 C0.2.1 dX5_drawGap_170 (lv_at hl 8 rfl) ?_
            refine lv_bipush (pc := 172) (v := 32) C0.1 C0.2.1 dX5_drawGap_172 (by decide) ?_
            refine xcVV (pc := 174) 73 [.int 32] (g_X3_put_73 l D tA b i F G 32 (show 0 ≤ Int32.toInt (i 73 1) ∧ Int32.toInt (i 73 1) ≤ 4000 from by omega)) C0 hH hS clX3 rfl ⟨⟨Nat.le_of_ble_eq_true rfl, Nat.le_of_ble_eq_true rfl⟩, rfl, rfl⟩ cw_X5_69 rfl ⟨Nat.le_of_ble_eq_true rfl, Nat.le_of_ble_eq_true rfl⟩ hl.1 rfl (Nat.le_of_ble_eq_true rfl) dX5_drawGap_174 ⟨Nat.le_of_ble_eq_true rfl, Nat.le_of_ble_eq_true rfl⟩ (fun ir13 Fr13 Gr13 _ locs hp hH hS => ?_)
            obtain ⟨honr13, hs1r13, hs2r13⟩ := hp
            dsimp only at hs1r13 hs2r13
            have hF : Tf17 ir13 Fr13 := Tf17.on (i := i) (F := F) hF honr13 (by decide)
            have hQ : Pp17 600 ir13 Fr13 := Pp17.on (i := i) (F := F) hQ honr13 (by decide)
            have ek_75_1r13 : Int32.toInt (ir13 75 1) = Int32.toInt (i 75 1) := congrArg Int32.toInt (congrFun (honr13.1 75 (by decide)).1 1)
            have ek_4_1r13 : Int32.toInt (ir13 4 1) = Int32.toInt (i 4 1) := congrArg Int32.toInt (congrFun (honr13.1 4 (by decide)).1 1)
            exact xvret (pc := 177) C0 hr hH hS dX5_drawGap_177 ⟨(On.tr On.rf honr13 (by decide) (by decide)), (show (0 ≤ Int32.toInt (ir13 73 1) ∧ Int32.toInt (ir13 73 1) ≤ 4000) ∧ (0 ≤ Int32.toInt (ir13 75 1) ∧ Int32.toInt (ir13 75 1) ≤ 4000) from by omega)⟩
          · have : Int32.toInt 0 = 0 := rfl
            have c12 : ¬ _ := fun q => c12 (Int32.le_iff_toInt_le.mpr q)
            refine lv_aload_n (pc := 136) C0.1 C0.2.1 dX5_drawGap_136 rfl (lv_at hl 3 rfl) ?_
            refine lv_aload_n (pc := 137) C0.1 C0.2.1 dX5_drawGap_137 rfl (lv_at hl 3 rfl) ?_
            refine xget (pc := 138) C0 hH 70 1 clX5 ⟨Nat.le_of_ble_eq_true rfl, Nat.le_of_ble_eq_true rfl⟩ ⟨rfl, rfl⟩ (Nat.le_of_ble_eq_true rfl) fl_X5_15 (v := .ref (b + 72)) rfl dX5_drawGap_138 ?_
            refine lv_iload_n (pc := 141) C0.1 C0.2.1 dX5_drawGap_141 rfl (lv_at hl 5 rfl) ?_
            refine xiald (pc := 142) (N := 1200) C0 hH 72 ⟨Nat.le_of_ble_eq_true rfl, Nat.le_of_ble_eq_true rfl⟩ ⟨rfl, rfl⟩ (vI (by omega) (by omega)) dX5_drawGap_142 ?_
            refine lv_iload (pc := 143) C0.1 C0.2.1 dX5_drawGap_143 (lv_at hl 0 rfl) ?_
            refine lv_iconst (pc := 145) (v := 3) C0.1 C0.2.1 dX5_drawGap_145 (by decide) ?_
            refine lv_icmp_eq (pc := 146) (tgt := 155) C0.1 C0.2.1 dX5_drawGap_146 (by decide) (fun c14 => ?_) (fun c14 => ?_)
            · have : Int32.toInt 3 = 3 := rfl
              have c14 := congrArg Int32.toInt c14
              refine lv_iload (pc := 155) C0.1 C0.2.1 dX5_drawGap_155 (lv_at hl 9 rfl) ?_
              refine lv_goto (pc := 157) (tgt := 161) C0.1 C0.2.1 dX5_drawGap_157 (by decide) ?_
              refine lv_iadd (pc := 161) C0.1 C0.2.1 dX5_drawGap_161 ?_
              refine lv_aload (pc := 162) C0.1 C0.2.1 dX5_drawGap_162 (lv_at hl 8 rfl) ?_
              refine xcVV (pc := 164) 70 [.int ((F 72 (Int32.toNatClampNeg x)) + w), .ref (b + 73)] (g_X5_beginLine_73 l D tA b i F G ((F 72 (Int32.toNatClampNeg x)) + w) hF hQ (show (0 ≤ Int32.toInt (i 73 1) ∧ Int32.toInt (i 73 1) ≤ 4000) ∧ (0 ≤ Int32.toInt (i 75 1) ∧ Int32.toInt (i 75 1) ≤ 4000) from by omega) ) C0 hH hS clX5 rfl ⟨⟨Nat.le_of_ble_eq_true rfl, Nat.le_of_ble_eq_true rfl⟩, rfl, rfl⟩ cw_X5_139 rfl ⟨Nat.le_of_ble_eq_true rfl, Nat.le_of_ble_eq_true rfl⟩ hl.1 rfl (Nat.le_of_ble_eq_true rfl) dX5_drawGap_164 ⟨Nat.le_of_ble_eq_true rfl, Nat.le_of_ble_eq_true rfl⟩ (fun ir15 Fr15 Gr15 _ locs hp hH hS => ?_)
              obtain ⟨honr15, hs1r15, hs2r15⟩ := hp
              dsimp only at hs1r15 hs2r15
              have hF : Tf17 ir15 Fr15 := Tf17.on (i := i) (F := F) hF honr15 (by decide)
              have hQ : Pp17 600 ir15 Fr15 := Pp17.on (i := i) (F := F) hQ honr15 (by decide)
              have ek_4_1r15 : Int32.toInt (ir15 4 1) = Int32.toInt (i 4 1) := congrArg Int32.toInt (congrFun (honr15.1 4 (by decide)).1 1)
              refine lv_goto (pc := 167) (tgt := 177) C0.1 C0.2.1 dX5_drawGap_167 (by decide) ?_
              exact xvret (pc := 177) C0 hr hH hS dX5_drawGap_177 ⟨(On.tr On.rf honr15 (by decide) (by decide)), (show (0 ≤ Int32.toInt (ir15 73 1) ∧ Int32.toInt (ir15 73 1) ≤ 4000) ∧ (0 ≤ Int32.toInt (ir15 75 1) ∧ Int32.toInt (ir15 75 1) ≤ 4000) from by omega)⟩
            · have : Int32.toInt 3 = 3 := rfl
              have c14 : ¬ _ := fun q => c14 (Int32.toInt_inj.mp q)
              refine lv_iload (pc := 149) C0.1 C0.2.1 dX5_drawGap_149 (lv_at hl 0 rfl) ?_
              refine lv_iconst (pc := 151) (v := 5) C0.1 C0.2.1 dX5_drawGap_151 (by decide) ?_
              refine lv_icmp_ne (pc := 152) (tgt := 160) C0.1 C0.2.1 dX5_drawGap_152 (by decide) (fun c16 => ?_) (fun c16 => ?_)
              · have : Int32.toInt 5 = 5 := rfl
                have c16 : ¬ _ := fun q => c16 (Int32.toInt_inj.mp q)
                refine lv_iconst (pc := 160) (v := 0) C0.1 C0.2.1 dX5_drawGap_160 (by decide) ?_
                refine lv_iadd (pc := 161) C0.1 C0.2.1 dX5_drawGap_161 ?_
                refine lv_aload (pc := 162) C0.1 C0.2.1 dX5_drawGap_162 (lv_at hl 8 rfl) ?_
                refine xcVV (pc := 164) 70 [.int ((F 72 (Int32.toNatClampNeg x)) + 0), .ref (b + 73)] (g_X5_beginLine_73 l D tA b i F G ((F 72 (Int32.toNatClampNeg x)) + 0) hF hQ (show (0 ≤ Int32.toInt (i 73 1) ∧ Int32.toInt (i 73 1) ≤ 4000) ∧ (0 ≤ Int32.toInt (i 75 1) ∧ Int32.toInt (i 75 1) ≤ 4000) from by omega) ) C0 hH hS clX5 rfl ⟨⟨Nat.le_of_ble_eq_true rfl, Nat.le_of_ble_eq_true rfl⟩, rfl, rfl⟩ cw_X5_139 rfl ⟨Nat.le_of_ble_eq_true rfl, Nat.le_of_ble_eq_true rfl⟩ hl.1 rfl (Nat.le_of_ble_eq_true rfl) dX5_drawGap_164 ⟨Nat.le_of_ble_eq_true rfl, Nat.le_of_ble_eq_true rfl⟩ (fun ir17 Fr17 Gr17 _ locs hp hH hS => ?_)
                obtain ⟨honr17, hs1r17, hs2r17⟩ := hp
                dsimp only at hs1r17 hs2r17
                have hF : Tf17 ir17 Fr17 := Tf17.on (i := i) (F := F) hF honr17 (by decide)
                have hQ : Pp17 600 ir17 Fr17 := Pp17.on (i := i) (F := F) hQ honr17 (by decide)
                have ek_4_1r17 : Int32.toInt (ir17 4 1) = Int32.toInt (i 4 1) := congrArg Int32.toInt (congrFun (honr17.1 4 (by decide)).1 1)
                refine lv_goto (pc := 167) (tgt := 177) C0.1 C0.2.1 dX5_drawGap_167 (by decide) ?_
                exact xvret (pc := 177) C0 hr hH hS dX5_drawGap_177 ⟨(On.tr On.rf honr17 (by decide) (by decide)), (show (0 ≤ Int32.toInt (ir17 73 1) ∧ Int32.toInt (ir17 73 1) ≤ 4000) ∧ (0 ≤ Int32.toInt (ir17 75 1) ∧ Int32.toInt (ir17 75 1) ≤ 4000) from by omega)⟩
              · have : Int32.toInt 5 = 5 := rfl
                have c16 := congrArg Int32.toInt c16
                refine lv_iload (pc := 155) C0.1 C0.2.1 dX5_drawGap_155 (lv_at hl 9 rfl) ?_
                refine lv_goto (pc := 157) (tgt := 161) C0.1 C0.2.1 dX5_drawGap_157 (by decide) ?_
                refine lv_iadd (pc := 161) C0.1 C0.2.1 dX5_drawGap_161 ?_
                refine lv_aload (pc := 162) C0.1 C0.2.1 dX5_drawGap_162 (lv_at hl 8 rfl) ?_
                refine xcVV (pc := 164) 70 [.int ((F 72 (Int32.toNatClampNeg x)) + w), .ref (b + 73)] (g_X5_beginLine_73 l D tA b i F G ((F 72 (Int32.toNatClampNeg x)) + w) hF hQ (show (0 ≤ Int32.toInt (i 73 1) ∧ Int32.toInt (i 73 1) ≤ 4000) ∧ (0 ≤ Int32.toInt (i 75 1) ∧ Int32.toInt (i 75 1) ≤ 4000) from by omega) ) C0 hH hS clX5 rfl ⟨⟨Nat.le_of_ble_eq_true rfl, Nat.le_of_ble_eq_true rfl⟩, rfl, rfl⟩ cw_X5_139 rfl ⟨Nat.le_of_ble_eq_true rfl, Nat.le_of_ble_eq_true rfl⟩ hl.1 rfl (Nat.le_of_ble_eq_true rfl) dX5_drawGap_164 ⟨Nat.le_of_ble_eq_true rfl, Nat.le_of_ble_eq_true rfl⟩ (fun ir18 Fr18 Gr18 _ locs hp hH hS => ?_)
                obtain ⟨honr18, hs1r18, hs2r18⟩ := hp
                dsimp only at hs1r18 hs2r18
                have hF : Tf17 ir18 Fr18 := Tf17.on (i := i) (F := F) hF honr18 (by decide)
                have hQ : Pp17 600 ir18 Fr18 := Pp17.on (i := i) (F := F) hQ honr18 (by decide)
                have ek_4_1r18 : Int32.toInt (ir18 4 1) = Int32.toInt (i 4 1) := congrArg Int32.toInt (congrFun (honr18.1 4 (by decide)).1 1)
                refine lv_goto (pc := 167) (tgt := 177) C0.1 C0.2.1 dX5_drawGap_167 (by decide) ?_
                exact xvret (pc := 177) C0 hr hH hS dX5_drawGap_177 ⟨(On.tr On.rf honr18 (by decide) (by decide)), (show (0 ≤ Int32.toInt (ir18 73 1) ∧ Int32.toInt (ir18 73 1) ≤ 4000) ∧ (0 ≤ Int32.toInt (ir18 75 1) ∧ Int32.toInt (ir18 75 1) ≤ 4000) from by omega)⟩
  · have c3 := congrArg Int32.toInt c3
    refine lv_iload (pc := 40) C0.1 C0.2.1 dX5_drawGap_40 (lv_at hl 0 rfl) ?_
    refine lv_iconst (pc := 42) (v := 4) C0.1 C0.2.1 dX5_drawGap_42 (by decide) ?_
    refine lv_icmp_eq (pc := 43) (tgt := 88) C0.1 C0.2.1 dX5_drawGap_43 (by decide) (fun c19 => ?_) (fun c19 => ?_)
    · have : Int32.toInt 4 = 4 := rfl
      have c19 := congrArg Int32.toInt c19
      refine lv_iload_n (pc := 88) C0.1 C0.2.1 dX5_drawGap_88 rfl (lv_at hl 6 rfl) ?_
      refine lv_aload_n (pc := 89) C0.1 C0.2.1 dX5_drawGap_89 rfl (lv_at hl 4 rfl) ?_
      refine xget (pc := 90) C0 hH 17 1 clX8 ⟨Nat.le_of_ble_eq_true rfl, Nat.le_of_ble_eq_true rfl⟩ ⟨rfl, rfl⟩ (Nat.le_of_ble_eq_true rfl) fl_X5_24 (v := .ref (b + 28)) rfl dX5_drawGap_90 ?_
      refine xget (pc := 93) C0 hH 28 2 clX2 ⟨Nat.le_of_ble_eq_true rfl, Nat.le_of_ble_eq_true rfl⟩ ⟨rfl, rfl⟩ (Nat.le_of_ble_eq_true rfl) fl_X5_60 (v := .ref (b + 31)) rfl dX5_drawGap_93 ?_
      refine lv_iload_n (pc := 96) C0.1 C0.2.1 dX5_drawGap_96 rfl (lv_at hl 5 rfl) ?_
      refine xiald (pc := 97) (N := 1200) C0 hH 31 ⟨Nat.le_of_ble_eq_true rfl, Nat.le_of_ble_eq_true rfl⟩ ⟨rfl, rfl⟩ (vI (by omega) (by omega)) dX5_drawGap_97 ?_
      refine lv_icmp_eq (pc := 98) (tgt := 170) C0.1 C0.2.1 dX5_drawGap_98 (by decide) (fun c20 => ?_) (fun c20 => ?_)
      · have c20 := congrArg Int32.toInt c20
        refine lv_aload (pc := 170) C0.1 C0.2.1 dX5_drawGap_170 (lv_at hl 8 rfl) ?_
        refine lv_bipush (pc := 172) (v := 32) C0.1 C0.2.1 dX5_drawGap_172 (by decide) ?_
        refine xcVV (pc := 174) 73 [.int 32] (g_X3_put_73 l D tA b i F G 32 (show 0 ≤ Int32.toInt (i 73 1) ∧ Int32.toInt (i 73 1) ≤ 4000 from by omega)) C0 hH hS clX3 rfl ⟨⟨Nat.le_of_ble_eq_true rfl, Nat.le_of_ble_eq_true rfl⟩, rfl, rfl⟩ cw_X5_69 rfl ⟨Nat.le_of_ble_eq_true rfl, Nat.le_of_ble_eq_true rfl⟩ hl.1 rfl (Nat.le_of_ble_eq_true rfl) dX5_drawGap_174 ⟨Nat.le_of_ble_eq_true rfl, Nat.le_of_ble_eq_true rfl⟩ (fun ir21 Fr21 Gr21 _ locs hp hH hS => ?_)
        obtain ⟨honr21, hs1r21, hs2r21⟩ := hp
        dsimp only at hs1r21 hs2r21
        have hF : Tf17 ir21 Fr21 := Tf17.on (i := i) (F := F) hF honr21 (by decide)
        have hQ : Pp17 600 ir21 Fr21 := Pp17.on (i := i) (F := F) hQ honr21 (by decide)
        have ek_75_1r21 : Int32.toInt (ir21 75 1) = Int32.toInt (i 75 1) := congrArg Int32.toInt (congrFun (honr21.1 75 (by decide)).1 1)
        have ek_4_1r21 : Int32.toInt (ir21 4 1) = Int32.toInt (i 4 1) := congrArg Int32.toInt (congrFun (honr21.1 4 (by decide)).1 1)
        exact xvret (pc := 177) C0 hr hH hS dX5_drawGap_177 ⟨(On.tr On.rf honr21 (by decide) (by decide)), (show (0 ≤ Int32.toInt (ir21 73 1) ∧ Int32.toInt (ir21 73 1) ≤ 4000) ∧ (0 ≤ Int32.toInt (ir21 75 1) ∧ Int32.toInt (ir21 75 1) ≤ 4000) from by omega)⟩
      · have c20 : ¬ _ := fun q => c20 (Int32.toInt_inj.mp q)
        refine lv_aload (pc := 101) C0.1 C0.2.1 dX5_drawGap_101 (lv_at hl 2 rfl) ?_
        refine lv_iload (pc := 103) C0.1 C0.2.1 dX5_drawGap_103 (lv_at hl 7 rfl) ?_
        refine xcVI (pc := 105) 18 [.int z] (g_X0_has_18 l D tA b i F G z ) C0 hH hS clX0 rfl ⟨⟨Nat.le_of_ble_eq_true rfl, Nat.le_of_ble_eq_true rfl⟩, rfl, rfl⟩ cw_X5_97 rfl ⟨Nat.le_of_ble_eq_true rfl, Nat.le_of_ble_eq_true rfl⟩ hl.1 rfl (Nat.le_of_ble_eq_true rfl) dX5_drawGap_105 ⟨Nat.le_of_ble_eq_true rfl, Nat.le_of_ble_eq_true rfl⟩ (fun r22 ir22 Fr22 Gr22 _ locs hp hH hS => ?_)
        obtain ⟨hu, hpr22⟩ := hp
        cases hu
        refine lv_if_eq (pc := 108) (tgt := 170) C0.1 C0.2.1 dX5_drawGap_108 (by decide) (fun c23 => ?_) (fun c23 => ?_)
        · have : Int32.toInt 0 = 0 := rfl
          have c23 := congrArg Int32.toInt c23
          refine lv_aload (pc := 170) C0.1 C0.2.1 dX5_drawGap_170 (lv_at hl 8 rfl) ?_
          refine lv_bipush (pc := 172) (v := 32) C0.1 C0.2.1 dX5_drawGap_172 (by decide) ?_
          refine xcVV (pc := 174) 73 [.int 32] (g_X3_put_73 l D tA b i F G 32 (show 0 ≤ Int32.toInt (i 73 1) ∧ Int32.toInt (i 73 1) ≤ 4000 from by omega)) C0 hH hS clX3 rfl ⟨⟨Nat.le_of_ble_eq_true rfl, Nat.le_of_ble_eq_true rfl⟩, rfl, rfl⟩ cw_X5_69 rfl ⟨Nat.le_of_ble_eq_true rfl, Nat.le_of_ble_eq_true rfl⟩ hl.1 rfl (Nat.le_of_ble_eq_true rfl) dX5_drawGap_174 ⟨Nat.le_of_ble_eq_true rfl, Nat.le_of_ble_eq_true rfl⟩ (fun ir24 Fr24 Gr24 _ locs hp hH hS => ?_)
          obtain ⟨honr24, hs1r24, hs2r24⟩ := hp
          dsimp only at hs1r24 hs2r24
          have hF : Tf17 ir24 Fr24 := Tf17.on (i := i) (F := F) hF honr24 (by decide)
          have hQ : Pp17 600 ir24 Fr24 := Pp17.on (i := i) (F := F) hQ honr24 (by decide)
          have ek_75_1r24 : Int32.toInt (ir24 75 1) = Int32.toInt (i 75 1) := congrArg Int32.toInt (congrFun (honr24.1 75 (by decide)).1 1)
          have ek_4_1r24 : Int32.toInt (ir24 4 1) = Int32.toInt (i 4 1) := congrArg Int32.toInt (congrFun (honr24.1 4 (by decide)).1 1)
          exact xvret (pc := 177) C0 hr hH hS dX5_drawGap_177 ⟨(On.tr On.rf honr24 (by decide) (by decide)), (show (0 ≤ Int32.toInt (ir24 73 1) ∧ Int32.toInt (ir24 73 1) ≤ 4000) ∧ (0 ≤ Int32.toInt (ir24 75 1) ∧ Int32.toInt (ir24 75 1) ≤ 4000) from by omega)⟩
        · have : Int32.toInt 0 = 0 := rfl
          have c23 : ¬ _ := fun q => c23 (Int32.toInt_inj.mp q)
          refine lv_aload (pc := 111) C0.1 C0.2.1 dX5_drawGap_111 (lv_at hl 2 rfl) ?_
          refine xget (pc := 113) C0 hH 18 0 clX0 ⟨Nat.le_of_ble_eq_true rfl, Nat.le_of_ble_eq_true rfl⟩ ⟨rfl, rfl⟩ (Nat.le_of_ble_eq_true rfl) fl_X5_103 (v := .ref (b + 19)) rfl dX5_drawGap_113 ?_
          refine lv_iload (pc := 116) C0.1 C0.2.1 dX5_drawGap_116 (lv_at hl 7 rfl) ?_
          refine xiald (pc := 118) (N := 601) C0 hH 19 ⟨Nat.le_of_ble_eq_true rfl, Nat.le_of_ble_eq_true rfl⟩ ⟨rfl, rfl⟩ (vI (by omega) (by omega)) dX5_drawGap_118 ?_
          refine xcNI (pc := 119) [.int (F 19 (Int32.toNatClampNeg z))] (c_X9_isStepped l D tA b 0 78 i F G (F 19 (Int32.toNatClampNeg z))) C0 hH hS cw_X5_106 st_X9_isStepped rfl ⟨Nat.le_of_ble_eq_true rfl, Nat.le_of_ble_eq_true rfl⟩ hl.1 rfl (Nat.le_of_ble_eq_true rfl) dX5_drawGap_119 ⟨Nat.le_of_ble_eq_true rfl, Nat.le_of_ble_eq_true rfl⟩ (fun r25 ir25 Fr25 Gr25 _ locs hp hH hS => ?_)
          obtain ⟨hu, rfl⟩ := hp
          cases hu
          refine lv_if_eq (pc := 122) (tgt := 170) C0.1 C0.2.1 dX5_drawGap_122 (by decide) (fun c26 => ?_) (fun c26 => ?_)
          · have c26 := stp_0 c26
            refine lv_aload (pc := 170) C0.1 C0.2.1 dX5_drawGap_170 (lv_at hl 8 rfl) ?_
            refine lv_bipush (pc := 172) (v := 32) C0.1 C0.2.1 dX5_drawGap_172 (by decide) ?_
            refine xcVV (pc := 174) 73 [.int 32] (g_X3_put_73 l D tA b i F G 32 (show 0 ≤ Int32.toInt (i 73 1) ∧ Int32.toInt (i 73 1) ≤ 4000 from by omega)) C0 hH hS clX3 rfl ⟨⟨Nat.le_of_ble_eq_true rfl, Nat.le_of_ble_eq_true rfl⟩, rfl, rfl⟩ cw_X5_69 rfl ⟨Nat.le_of_ble_eq_true rfl, Nat.le_of_ble_eq_true rfl⟩ hl.1 rfl (Nat.le_of_ble_eq_true rfl) dX5_drawGap_174 ⟨Nat.le_of_ble_eq_true rfl, Nat.le_of_ble_eq_true rfl⟩ (fun ir27 Fr27 Gr27 _ locs hp hH hS => ?_)
            obtain ⟨honr27, hs1r27, hs2r27⟩ := hp
            dsimp only at hs1r27 hs2r27
            have hF : Tf17 ir27 Fr27 := Tf17.on (i := i) (F := F) hF honr27 (by decide)
            have hQ : Pp17 600 ir27 Fr27 := Pp17.on (i := i) (F := F) hQ honr27 (by decide)
            have ek_75_1r27 : Int32.toInt (ir27 75 1) = Int32.toInt (i 75 1) := congrArg Int32.toInt (congrFun (honr27.1 75 (by decide)).1 1)
            have ek_4_1r27 : Int32.toInt (ir27 4 1) = Int32.toInt (i 4 1) := congrArg Int32.toInt (congrFun (honr27.1 4 (by decide)).1 1)
            exact xvret (pc := 177) C0 hr hH hS dX5_drawGap_177 ⟨(On.tr On.rf honr27 (by decide) (by decide)), (show (0 ≤ Int32.toInt (ir27 73 1) ∧ Int32.toInt (ir27 73 1) ≤ 4000) ∧ (0 ≤ Int32.toInt (ir27 75 1) ∧ Int32.toInt (ir27 75 1) ≤ 4000) from by omega)⟩
          · have c26 := stp_1 c26
            refine lv_aload (pc := 125) C0.1 C0.2.1 dX5_drawGap_125 (lv_at hl 2 rfl) ?_
            refine xget (pc := 127) C0 hH 18 3 clX0 ⟨Nat.le_of_ble_eq_true rfl, Nat.le_of_ble_eq_true rfl⟩ ⟨rfl, rfl⟩ (Nat.le_of_ble_eq_true rfl) fl_X5_133 (v := .ref (b + 22)) rfl dX5_drawGap_127 ?_
            refine lv_iload (pc := 130) C0.1 C0.2.1 dX5_drawGap_130 (lv_at hl 7 rfl) ?_
            refine xiald (pc := 132) (N := 601) C0 hH 22 ⟨Nat.le_of_ble_eq_true rfl, Nat.le_of_ble_eq_true rfl⟩ ⟨rfl, rfl⟩ (vI (by omega) (by omega)) dX5_drawGap_132 ?_
            refine lv_if_le (pc := 133) (tgt := 170) C0.1 C0.2.1 dX5_drawGap_133 (by decide) (fun c28 => ?_) (fun c28 => ?_)
            · have : Int32.toInt 0 = 0 := rfl
              have c28 := Int32.le_iff_toInt_le.mp c28
              refine lv_aload (pc := 170) C0.1 C0.2.1 dX5_drawGap_170 (lv_at hl 8 rfl) ?_
              refine lv_bipush (pc := 172) (v := 32) C0.1 C0.2.1 dX5_drawGap_172 (by decide) ?_
              refine xcVV (pc := 174) 73 [.int 32] (g_X3_put_73 l D tA b i F G 32 (show 0 ≤ Int32.toInt (i 73 1) ∧ Int32.toInt (i 73 1) ≤ 4000 from by omega)) C0 hH hS clX3 rfl ⟨⟨Nat.le_of_ble_eq_true rfl, Nat.le_of_ble_eq_true rfl⟩, rfl, rfl⟩ cw_X5_69 rfl ⟨Nat.le_of_ble_eq_true rfl, Nat.le_of_ble_eq_true rfl⟩ hl.1 rfl (Nat.le_of_ble_eq_true rfl) dX5_drawGap_174 ⟨Nat.le_of_ble_eq_true rfl, Nat.le_of_ble_eq_true rfl⟩ (fun ir29 Fr29 Gr29 _ locs hp hH hS => ?_)
              obtain ⟨honr29, hs1r29, hs2r29⟩ := hp
              dsimp only at hs1r29 hs2r29
              have hF : Tf17 ir29 Fr29 := Tf17.on (i := i) (F := F) hF honr29 (by decide)
              have hQ : Pp17 600 ir29 Fr29 := Pp17.on (i := i) (F := F) hQ honr29 (by decide)
              have ek_75_1r29 : Int32.toInt (ir29 75 1) = Int32.toInt (i 75 1) := congrArg Int32.toInt (congrFun (honr29.1 75 (by decide)).1 1)
              have ek_4_1r29 : Int32.toInt (ir29 4 1) = Int32.toInt (i 4 1) := congrArg Int32.toInt (congrFun (honr29.1 4 (by decide)).1 1)
              exact xvret (pc := 177) C0 hr hH hS dX5_drawGap_177 ⟨(On.tr On.rf honr29 (by decide) (by decide)), (show (0 ≤ Int32.toInt (ir29 73 1) ∧ Int32.toInt (ir29 73 1) ≤ 4000) ∧ (0 ≤ Int32.toInt (ir29 75 1) ∧ Int32.toInt (ir29 75 1) ≤ 4000) from by omega)⟩
            · have : Int32.toInt 0 = 0 := rfl
              have c28 : ¬ _ := fun q => c28 (Int32.le_iff_toInt_le.mpr q)
              refine lv_aload_n (pc := 136) C0.1 C0.2.1 dX5_drawGap_136 rfl (lv_at hl 3 rfl) ?_
              refine lv_aload_n (pc := 137) C0.1 C0.2.1 dX5_drawGap_137 rfl (lv_at hl 3 rfl) ?_
              refine xget (pc := 138) C0 hH 70 1 clX5 ⟨Nat.le_of_ble_eq_true rfl, Nat.le_of_ble_eq_true rfl⟩ ⟨rfl, rfl⟩ (Nat.le_of_ble_eq_true rfl) fl_X5_15 (v := .ref (b + 72)) rfl dX5_drawGap_138 ?_
              refine lv_iload_n (pc := 141) C0.1 C0.2.1 dX5_drawGap_141 rfl (lv_at hl 5 rfl) ?_
              refine xiald (pc := 142) (N := 1200) C0 hH 72 ⟨Nat.le_of_ble_eq_true rfl, Nat.le_of_ble_eq_true rfl⟩ ⟨rfl, rfl⟩ (vI (by omega) (by omega)) dX5_drawGap_142 ?_
              refine lv_iload (pc := 143) C0.1 C0.2.1 dX5_drawGap_143 (lv_at hl 0 rfl) ?_
              refine lv_iconst (pc := 145) (v := 3) C0.1 C0.2.1 dX5_drawGap_145 (by decide) ?_
              refine lv_icmp_eq (pc := 146) (tgt := 155) C0.1 C0.2.1 dX5_drawGap_146 (by decide) (fun c30 => ?_) (fun c30 => ?_)
              · have : Int32.toInt 3 = 3 := rfl
                have c30 := congrArg Int32.toInt c30
                refine lv_iload (pc := 155) C0.1 C0.2.1 dX5_drawGap_155 (lv_at hl 9 rfl) ?_
                refine lv_goto (pc := 157) (tgt := 161) C0.1 C0.2.1 dX5_drawGap_157 (by decide) ?_
                refine lv_iadd (pc := 161) C0.1 C0.2.1 dX5_drawGap_161 ?_
                refine lv_aload (pc := 162) C0.1 C0.2.1 dX5_drawGap_162 (lv_at hl 8 rfl) ?_
                refine xcVV (pc := 164) 70 [.int ((F 72 (Int32.toNatClampNeg x)) + w), .ref (b + 73)] (g_X5_beginLine_73 l D tA b i F G ((F 72 (Int32.toNatClampNeg x)) + w) hF hQ (show (0 ≤ Int32.toInt (i 73 1) ∧ Int32.toInt (i 73 1) ≤ 4000) ∧ (0 ≤ Int32.toInt (i 75 1) ∧ Int32.toInt (i 75 1) ≤ 4000) from by omega) ) C0 hH hS clX5 rfl ⟨⟨Nat.le_of_ble_eq_true rfl, Nat.le_of_ble_eq_true rfl⟩, rfl, rfl⟩ cw_X5_139 rfl ⟨Nat.le_of_ble_eq_true rfl, Nat.le_of_ble_eq_true rfl⟩ hl.1 rfl (Nat.le_of_ble_eq_true rfl) dX5_drawGap_164 ⟨Nat.le_of_ble_eq_true rfl, Nat.le_of_ble_eq_true rfl⟩ (fun ir31 Fr31 Gr31 _ locs hp hH hS => ?_)
                obtain ⟨honr31, hs1r31, hs2r31⟩ := hp
                dsimp only at hs1r31 hs2r31
                have hF : Tf17 ir31 Fr31 := Tf17.on (i := i) (F := F) hF honr31 (by decide)
                have hQ : Pp17 600 ir31 Fr31 := Pp17.on (i := i) (F := F) hQ honr31 (by decide)
                have ek_4_1r31 : Int32.toInt (ir31 4 1) = Int32.toInt (i 4 1) := congrArg Int32.toInt (congrFun (honr31.1 4 (by decide)).1 1)
                refine lv_goto (pc := 167) (tgt := 177) C0.1 C0.2.1 dX5_drawGap_167 (by decide) ?_
                exact xvret (pc := 177) C0 hr hH hS dX5_drawGap_177 ⟨(On.tr On.rf honr31 (by decide) (by decide)), (show (0 ≤ Int32.toInt (ir31 73 1) ∧ Int32.toInt (ir31 73 1) ≤ 4000) ∧ (0 ≤ Int32.toInt (ir31 75 1) ∧ Int32.toInt (ir31 75 1) ≤ 4000) from by omega)⟩
              · have : Int32.toInt 3 = 3 := rfl
                have c30 : ¬ _ := fun q => c30 (Int32.toInt_inj.mp q)
                refine lv_iload (pc := 149) C0.1 C0.2.1 dX5_drawGap_149 (lv_at hl 0 rfl) ?_
                refine lv_iconst (pc := 151) (v := 5) C0.1 C0.2.1 dX5_drawGap_151 (by decide) ?_
                refine lv_icmp_ne (pc := 152) (tgt := 160) C0.1 C0.2.1 dX5_drawGap_152 (by decide) (fun c32 => ?_) (fun c32 => ?_)
                · have : Int32.toInt 5 = 5 := rfl
                  have c32 : ¬ _ := fun q => c32 (Int32.toInt_inj.mp q)
                  refine lv_iconst (pc := 160) (v := 0) C0.1 C0.2.1 dX5_drawGap_160 (by decide) ?_
                  refine lv_iadd (pc := 161) C0.1 C0.2.1 dX5_drawGap_161 ?_
                  refine lv_aload (pc := 162) C0.1 C0.2.1 dX5_drawGap_162 (lv_at hl 8 rfl) ?_
                  refine xcVV (pc := 164) 70 [.int ((F 72 (Int32.toNatClampNeg x)) + 0), .ref (b + 73)] (g_X5_beginLine_73 l D tA b i F G ((F 72 (Int32.toNatClampNeg x)) + 0) hF hQ (show (0 ≤ Int32.toInt (i 73 1) ∧ Int32.toInt (i 73 1) ≤ 4000) ∧ (0 ≤ Int32.toInt (i 75 1) ∧ Int32.toInt (i 75 1) ≤ 4000) from by omega) ) C0 hH hS clX5 rfl ⟨⟨Nat.le_of_ble_eq_true rfl, Nat.le_of_ble_eq_true rfl⟩, rfl, rfl⟩ cw_X5_139 rfl ⟨Nat.le_of_ble_eq_true rfl, Nat.le_of_ble_eq_true rfl⟩ hl.1 rfl (Nat.le_of_ble_eq_true rfl) dX5_drawGap_164 ⟨Nat.le_of_ble_eq_true rfl, Nat.le_of_ble_eq_true rfl⟩ (fun ir33 Fr33 Gr33 _ locs hp hH hS => ?_)
                  obtain ⟨honr33, hs1r33, hs2r33⟩ := hp
                  dsimp only at hs1r33 hs2r33
                  have hF : Tf17 ir33 Fr33 := Tf17.on (i := i) (F := F) hF honr33 (by decide)
                  have hQ : Pp17 600 ir33 Fr33 := Pp17.on (i := i) (F := F) hQ honr33 (by decide)
                  have ek_4_1r33 : Int32.toInt (ir33 4 1) = Int32.toInt (i 4 1) := congrArg Int32.toInt (congrFun (honr33.1 4 (by decide)).1 1)
                  refine lv_goto (pc := 167) (tgt := 177) C0.1 C0.2.1 dX5_drawGap_167 (by decide) ?_
                  exact xvret (pc := 177) C0 hr hH hS dX5_drawGap_177 ⟨(On.tr On.rf honr33 (by decide) (by decide)), (show (0 ≤ Int32.toInt (ir33 73 1) ∧ Int32.toInt (ir33 73 1) ≤ 4000) ∧ (0 ≤ Int32.toInt (ir33 75 1) ∧ Int32.toInt (ir33 75 1) ≤ 4000) from by omega)⟩
                · have : Int32.toInt 5 = 5 := rfl
                  have c32 := congrArg Int32.toInt c32
                  refine lv_iload (pc := 155) C0.1 C0.2.1 dX5_drawGap_155 (lv_at hl 9 rfl) ?_
                  refine lv_goto (pc := 157) (tgt := 161) C0.1 C0.2.1 dX5_drawGap_157 (by decide) ?_
                  refine lv_iadd (pc := 161) C0.1 C0.2.1 dX5_drawGap_161 ?_
                  refine lv_aload (pc := 162) C0.1 C0.2.1 dX5_drawGap_162 (lv_at hl 8 rfl) ?_
                  refine xcVV (pc := 164) 70 [.int ((F 72 (Int32.toNatClampNeg x)) + w), .ref (b + 73)] (g_X5_beginLine_73 l D tA b i F G ((F 72 (Int32.toNatClampNeg x)) + w) hF hQ (show (0 ≤ Int32.toInt (i 73 1) ∧ Int32.toInt (i 73 1) ≤ 4000) ∧ (0 ≤ Int32.toInt (i 75 1) ∧ Int32.toInt (i 75 1) ≤ 4000) from by omega) ) C0 hH hS clX5 rfl ⟨⟨Nat.le_of_ble_eq_true rfl, Nat.le_of_ble_eq_true rfl⟩, rfl, rfl⟩ cw_X5_139 rfl ⟨Nat.le_of_ble_eq_true rfl, Nat.le_of_ble_eq_true rfl⟩ hl.1 rfl (Nat.le_of_ble_eq_true rfl) dX5_drawGap_164 ⟨Nat.le_of_ble_eq_true rfl, Nat.le_of_ble_eq_true rfl⟩ (fun ir34 Fr34 Gr34 _ locs hp hH hS => ?_)
                  obtain ⟨honr34, hs1r34, hs2r34⟩ := hp
                  dsimp only at hs1r34 hs2r34
                  have hF : Tf17 ir34 Fr34 := Tf17.on (i := i) (F := F) hF honr34 (by decide)
                  have hQ : Pp17 600 ir34 Fr34 := Pp17.on (i := i) (F := F) hQ honr34 (by decide)
                  have ek_4_1r34 : Int32.toInt (ir34 4 1) = Int32.toInt (i 4 1) := congrArg Int32.toInt (congrFun (honr34.1 4 (by decide)).1 1)
                  refine lv_goto (pc := 167) (tgt := 177) C0.1 C0.2.1 dX5_drawGap_167 (by decide) ?_
                  exact xvret (pc := 177) C0 hr hH hS dX5_drawGap_177 ⟨(On.tr On.rf honr34 (by decide) (by decide)), (show (0 ≤ Int32.toInt (ir34 73 1) ∧ Int32.toInt (ir34 73 1) ≤ 4000) ∧ (0 ≤ Int32.toInt (ir34 75 1) ∧ Int32.toInt (ir34 75 1) ≤ 4000) from by omega)⟩
    · have : Int32.toInt 4 = 4 := rfl
      have c19 : ¬ _ := fun q => c19 (Int32.toInt_inj.mp q)
      refine lv_aload_n (pc := 46) C0.1 C0.2.1 dX5_drawGap_46 rfl (lv_at hl 3 rfl) ?_
      refine xget (pc := 47) C0 hH 70 1 clX5 ⟨Nat.le_of_ble_eq_true rfl, Nat.le_of_ble_eq_true rfl⟩ ⟨rfl, rfl⟩ (Nat.le_of_ble_eq_true rfl) fl_X5_15 (v := .ref (b + 72)) rfl dX5_drawGap_47 ?_
      refine lv_iload_n (pc := 50) C0.1 C0.2.1 dX5_drawGap_50 rfl (lv_at hl 5 rfl) ?_
      refine lv_iload (pc := 51) C0.1 C0.2.1 dX5_drawGap_51 (lv_at hl 0 rfl) ?_
      refine lv_if_ne (pc := 53) (tgt := 60) C0.1 C0.2.1 dX5_drawGap_53 (by decide) (fun c35 => ?_) (fun c35 => ?_)
      · have : Int32.toInt 0 = 0 := rfl
        have c35 : ¬ _ := fun q => c35 (Int32.toInt_inj.mp q)
        refine lv_aload_n (pc := 60) C0.1 C0.2.1 dX5_drawGap_60 rfl (lv_at hl 3 rfl) ?_
        refine xget (pc := 61) C0 hH 70 0 clX5 ⟨Nat.le_of_ble_eq_true rfl, Nat.le_of_ble_eq_true rfl⟩ ⟨rfl, rfl⟩ (Nat.le_of_ble_eq_true rfl) fl_X5_9 (v := .ref (b + 71)) rfl dX5_drawGap_61 ?_
        refine lv_iload (pc := 64) C0.1 C0.2.1 dX5_drawGap_64 (lv_at hl 1 rfl) ?_
        refine xiald (pc := 66) (N := 601) C0 hH 71 ⟨Nat.le_of_ble_eq_true rfl, Nat.le_of_ble_eq_true rfl⟩ ⟨rfl, rfl⟩ (vI (by omega) (by omega)) dX5_drawGap_66 ?_
        refine lv_iconst (pc := 67) (v := 2) C0.1 C0.2.1 dX5_drawGap_67 (by decide) ?_
        refine lv_iload (pc := 68) C0.1 C0.2.1 dX5_drawGap_68 (lv_at hl 9 rfl) ?_
        refine lv_imul (pc := 70) C0.1 C0.2.1 dX5_drawGap_70 ?_
        refine lv_iadd (pc := 71) C0.1 C0.2.1 dX5_drawGap_71 ?_
        refine xiast (pc := 72) (N := 1200) C0 (Nat.le_of_ble_eq_true rfl) hH hS 72 ⟨Nat.le_of_ble_eq_true rfl, Nat.le_of_ble_eq_true rfl⟩ ⟨rfl, rfl⟩ (vI (by omega) (by omega)) dX5_drawGap_72 (fun _ locs hH hS _ => ?_)
        have hH : Hd D tA b 0 78 zz i (va_up F 72 (upd (F 72) (Int32.toNatClampNeg x) ((F 71 (Int32.toNatClampNeg x1)) + (2 * w)))) G _ := hH
        refine lv_aload_n (pc := 73) C0.1 C0.2.1 dX5_drawGap_73 rfl (lv_at hl 3 rfl) ?_
        refine lv_aload_n (pc := 74) C0.1 C0.2.1 dX5_drawGap_74 rfl (lv_at hl 3 rfl) ?_
        refine xget (pc := 75) C0 hH 70 1 clX5 ⟨Nat.le_of_ble_eq_true rfl, Nat.le_of_ble_eq_true rfl⟩ ⟨rfl, rfl⟩ (Nat.le_of_ble_eq_true rfl) fl_X5_15 (v := .ref (b + 72)) rfl dX5_drawGap_75 ?_
        refine lv_iload_n (pc := 78) C0.1 C0.2.1 dX5_drawGap_78 rfl (lv_at hl 5 rfl) ?_
        refine xiald (pc := 79) (N := 1200) C0 hH 72 ⟨Nat.le_of_ble_eq_true rfl, Nat.le_of_ble_eq_true rfl⟩ ⟨rfl, rfl⟩ (vI (by omega) (by omega)) dX5_drawGap_79 ?_
        refine lv_aload (pc := 80) C0.1 C0.2.1 dX5_drawGap_80 (lv_at hl 8 rfl) ?_
        refine xcVV (pc := 82) 70 [.int (upd (F 72) (Int32.toNatClampNeg x) ((F 71 (Int32.toNatClampNeg x1)) + (2 * w)) (Int32.toNatClampNeg x)), .ref (b + 73)] (g_X5_beginLine_73 l D tA b i (va_up F 72 (upd (F 72) (Int32.toNatClampNeg x) ((F 71 (Int32.toNatClampNeg x1)) + (2 * w)))) G (upd (F 72) (Int32.toNatClampNeg x) ((F 71 (Int32.toNatClampNeg x1)) + (2 * w)) (Int32.toNatClampNeg x)) hF hQ (show (0 ≤ Int32.toInt (i 73 1) ∧ Int32.toInt (i 73 1) ≤ 4000) ∧ (0 ≤ Int32.toInt (i 75 1) ∧ Int32.toInt (i 75 1) ≤ 4000) from by omega) ) C0 hH hS clX5 rfl ⟨⟨Nat.le_of_ble_eq_true rfl, Nat.le_of_ble_eq_true rfl⟩, rfl, rfl⟩ cw_X5_139 rfl ⟨Nat.le_of_ble_eq_true rfl, Nat.le_of_ble_eq_true rfl⟩ hl.1 rfl (Nat.le_of_ble_eq_true rfl) dX5_drawGap_82 ⟨Nat.le_of_ble_eq_true rfl, Nat.le_of_ble_eq_true rfl⟩ (fun ir36 Fr36 Gr36 _ locs hp hH hS => ?_)
        obtain ⟨honr36, hs1r36, hs2r36⟩ := hp
        dsimp only at hs1r36 hs2r36
        have hF : Tf17 ir36 Fr36 := Tf17.on (i := i) (F := (va_up F 72 (upd (F 72) (Int32.toNatClampNeg x) ((F 71 (Int32.toNatClampNeg x1)) + (2 * w))))) hF honr36 (by decide)
        have hQ : Pp17 600 ir36 Fr36 := Pp17.on (i := i) (F := (va_up F 72 (upd (F 72) (Int32.toNatClampNeg x) ((F 71 (Int32.toNatClampNeg x1)) + (2 * w))))) hQ honr36 (by decide)
        have ek_4_1r36 : Int32.toInt (ir36 4 1) = Int32.toInt (i 4 1) := congrArg Int32.toInt (congrFun (honr36.1 4 (by decide)).1 1)
        refine lv_goto (pc := 85) (tgt := 177) C0.1 C0.2.1 dX5_drawGap_85 (by decide) ?_
        exact xvret (pc := 177) C0 hr hH hS dX5_drawGap_177 ⟨(On.tr (On.f On.rf (by decide)) honr36 (by decide) (by decide)), (show (0 ≤ Int32.toInt (ir36 73 1) ∧ Int32.toInt (ir36 73 1) ≤ 4000) ∧ (0 ≤ Int32.toInt (ir36 75 1) ∧ Int32.toInt (ir36 75 1) ≤ 4000) from by omega)⟩
      · have : Int32.toInt 0 = 0 := rfl
        have c35 := congrArg Int32.toInt c35
        refine lv_iconst (pc := 56) (v := 0) C0.1 C0.2.1 dX5_drawGap_56 (by decide) ?_
        refine lv_goto (pc := 57) (tgt := 72) C0.1 C0.2.1 dX5_drawGap_57 (by decide) ?_
        refine xiast (pc := 72) (N := 1200) C0 (Nat.le_of_ble_eq_true rfl) hH hS 72 ⟨Nat.le_of_ble_eq_true rfl, Nat.le_of_ble_eq_true rfl⟩ ⟨rfl, rfl⟩ (vI (by omega) (by omega)) dX5_drawGap_72 (fun _ locs hH hS _ => ?_)
        have hH : Hd D tA b 0 78 zz i (va_up F 72 (upd (F 72) (Int32.toNatClampNeg x) 0)) G _ := hH
        refine lv_aload_n (pc := 73) C0.1 C0.2.1 dX5_drawGap_73 rfl (lv_at hl 3 rfl) ?_
        refine lv_aload_n (pc := 74) C0.1 C0.2.1 dX5_drawGap_74 rfl (lv_at hl 3 rfl) ?_
        refine xget (pc := 75) C0 hH 70 1 clX5 ⟨Nat.le_of_ble_eq_true rfl, Nat.le_of_ble_eq_true rfl⟩ ⟨rfl, rfl⟩ (Nat.le_of_ble_eq_true rfl) fl_X5_15 (v := .ref (b + 72)) rfl dX5_drawGap_75 ?_
        refine lv_iload_n (pc := 78) C0.1 C0.2.1 dX5_drawGap_78 rfl (lv_at hl 5 rfl) ?_
        refine xiald (pc := 79) (N := 1200) C0 hH 72 ⟨Nat.le_of_ble_eq_true rfl, Nat.le_of_ble_eq_true rfl⟩ ⟨rfl, rfl⟩ (vI (by omega) (by omega)) dX5_drawGap_79 ?_
        refine lv_aload (pc := 80) C0.1 C0.2.1 dX5_drawGap_80 (lv_at hl 8 rfl) ?_
        refine xcVV (pc := 82) 70 [.int (upd (F 72) (Int32.toNatClampNeg x) 0 (Int32.toNatClampNeg x)), .ref (b + 73)] (g_X5_beginLine_73 l D tA b i (va_up F 72 (upd (F 72) (Int32.toNatClampNeg x) 0)) G (upd (F 72) (Int32.toNatClampNeg x) 0 (Int32.toNatClampNeg x)) hF hQ (show (0 ≤ Int32.toInt (i 73 1) ∧ Int32.toInt (i 73 1) ≤ 4000) ∧ (0 ≤ Int32.toInt (i 75 1) ∧ Int32.toInt (i 75 1) ≤ 4000) from by omega) ) C0 hH hS clX5 rfl ⟨⟨Nat.le_of_ble_eq_true rfl, Nat.le_of_ble_eq_true rfl⟩, rfl, rfl⟩ cw_X5_139 rfl ⟨Nat.le_of_ble_eq_true rfl, Nat.le_of_ble_eq_true rfl⟩ hl.1 rfl (Nat.le_of_ble_eq_true rfl) dX5_drawGap_82 ⟨Nat.le_of_ble_eq_true rfl, Nat.le_of_ble_eq_true rfl⟩ (fun ir37 Fr37 Gr37 _ locs hp hH hS => ?_)
        obtain ⟨honr37, hs1r37, hs2r37⟩ := hp
        dsimp only at hs1r37 hs2r37
        have hF : Tf17 ir37 Fr37 := Tf17.on (i := i) (F := (va_up F 72 (upd (F 72) (Int32.toNatClampNeg x) 0))) hF honr37 (by decide)
        have hQ : Pp17 600 ir37 Fr37 := Pp17.on (i := i) (F := (va_up F 72 (upd (F 72) (Int32.toNatClampNeg x) 0))) hQ honr37 (by decide)
        have ek_4_1r37 : Int32.toInt (ir37 4 1) = Int32.toInt (i 4 1) := congrArg Int32.toInt (congrFun (honr37.1 4 (by decide)).1 1)
        refine lv_goto (pc := 85) (tgt := 177) C0.1 C0.2.1 dX5_drawGap_85 (by decide) ?_
        exact xvret (pc := 177) C0 hr hH hS dX5_drawGap_177 ⟨(On.tr (On.f On.rf (by decide)) honr37 (by decide) (by decide)), (show (0 ≤ Int32.toInt (ir37 73 1) ∧ Int32.toInt (ir37 73 1) ≤ 4000) ∧ (0 ≤ Int32.toInt (ir37 75 1) ∧ Int32.toInt (ir37 75 1) ≤ 4000) from by omega)⟩
set_option maxHeartbeats 4000000 in
set_option maxRecDepth 100000 in
theorem g_X5_drawPlainly_73 (l : Launch) (D : va_G) (tA : Nat → ClassId) (b : Nat) (i F : Nat → Nat → Int32) (G : Nat → Nat → Int64)  (hF : Tf17 i F) (hQ : Pp17 600 i F) (hPg : (0 ≤ (i 73 1).toInt ∧ (i 73 1).toInt ≤ 4000) ∧ (0 ≤ (i 75 1).toInt ∧ (i 75 1).toInt ≤ 4000)) (hsz : 0 ≤ (i 4 1).toInt ∧ (i 4 1).toInt ≤ 600) : xMV l yX5_drawPlainly cX5_drawPlainly 9 none 4 88 D tA b 0 78 i F G [.ref (b + 70), .ref (b + 8), .ref (b + 4), .ref (b + 73)] (fun u => On 70 77 i F G u ∧ (0 ≤ (u.1 73 1).toInt ∧ (u.1 73 1).toInt ≤ 4000) ∧ (0 ≤ (u.1 75 1).toInt ∧ (u.1 75 1).toInt ≤ 4000)) := by
  refine xstart RX5 rfl (by decide) (Nat.le_of_ble_eq_true rfl) ?_
  intro p e s m below meth c ls C0 hr hH hS hl
  have hl : lv_has ls 9 [(0, .ref (b + 70)), (1, .ref (b + 8)), (2, .ref (b + 4)), (3, .ref (b + 73))] := hl
  have hL := Tf17.lin hF
  have L25 : ∀ (d : Nat) (k : Int32) (iv Fv : Nat → Nat → Int32) (Gv : Nat → Nat → Int64) (H : Heap) (locs : List Loc) (ls : Array Slot), (0 ≤ k.toInt) → (1201 - k.toInt ≤ d) → (On 70 77 i F G (iv, Fv, Gv)) → ((0 ≤ (iv 73 1).toInt ∧ (iv 73 1).toInt ≤ 4000) ∧ (0 ≤ (iv 75 1).toInt ∧ (iv 75 1).toInt ≤ 4000)) → Hd D tA b 0 78 zz iv Fv Gv H → va_S (xA b 0 78) s.heap H locs → lv_has ls 9 [(6, .int k), (5, .ref (b + 28)), (4, .ref (b + 17)), (0, .ref (b + 70)), (1, .ref (b + 8)), (2, .ref (b + 4)), (3, .ref (b + 73))] → W p l e (xR 4 88) s m ([.ref (b + 70), .ref (b + 8), .ref (b + 4), .ref (b + 73)] : List Value).toArray below meth c H locs 0 0 (MQ below (va_Qv (fun u => On 70 77 i F G u ∧ (0 ≤ (u.1 73 1).toInt ∧ (u.1 73 1).toInt ≤ 4000) ∧ (0 ≤ (u.1 75 1).toInt ∧ (u.1 75 1).toInt ≤ 4000)) (xB D tA b 0 78 zz) (xA b 0 78)) ([.ref (b + 70), .ref (b + 8), .ref (b + 4), .ref (b + 73)] : List Value).toArray s 0 0 (xA b 0 78)) (F0 m 25 ls []) := by
    intro d
    induction d with
    | zero =>
      intro k iv Fv Gv H locs ls h1 h2 h3 h4 hH hS hl
      have rg_k := fb_rng k
      have hF : Tf17 iv Fv := Tf17.on hF h3 (by decide)
      have hQ : Pp17 600 iv Fv := Pp17.on hQ h3 (by decide)
      have hL := Tf17.lin hF
      have ek4 : Int32.toInt (iv 4 1) = Int32.toInt (i 4 1) := congrArg Int32.toInt (congrFun (h3.1 4 (by decide)).1 1)
      refine lv_iload (pc := 25) C0.1 C0.2.1 dX5_drawPlainly_25 (lv_at hl 0 rfl) ?_
      refine lv_aload (pc := 27) C0.1 C0.2.1 dX5_drawPlainly_27 (lv_at hl 1 rfl) ?_
      refine xget (pc := 29) C0 hH 28 8 clX2 ⟨Nat.le_of_ble_eq_true rfl, Nat.le_of_ble_eq_true rfl⟩ ⟨rfl, rfl⟩ (Nat.le_of_ble_eq_true rfl) fl_X5_39 (v := .int (iv 28 8)) rfl dX5_drawPlainly_29 ?_
      refine lv_icmp_ge (pc := 32) (tgt := 165) C0.1 C0.2.1 dX5_drawPlainly_32 (by decide) (fun _ => ?_) (fun c => absurd (Int32.le_iff_toInt_le.mpr (by omega)) c)
      refine lv_aload_n (pc := 165) C0.1 C0.2.1 dX5_drawPlainly_165 rfl (lv_at hl 3 rfl) ?_
      refine lv_aload (pc := 166) C0.1 C0.2.1 dX5_drawPlainly_166 (lv_at hl 2 rfl) ?_
      refine lv_iconst (pc := 168) (v := 0) C0.1 C0.2.1 dX5_drawPlainly_168 (by decide) ?_
      refine lv_aload_n (pc := 169) C0.1 C0.2.1 dX5_drawPlainly_169 rfl (lv_at hl 6 rfl) ?_
      refine xcVV (pc := 170) 70 [.ref (b + 17), .int 0, .ref (b + 73)] (g_X5_endBlocks_73 l D tA b iv Fv Gv 0 hF hQ (show (0 ≤ Int32.toInt (iv 73 1) ∧ Int32.toInt (iv 73 1) ≤ 4000) ∧ (0 ≤ Int32.toInt (iv 75 1) ∧ Int32.toInt (iv 75 1) ≤ 4000) from by omega) ) C0 hH hS clX5 rfl ⟨⟨Nat.le_of_ble_eq_true rfl, Nat.le_of_ble_eq_true rfl⟩, rfl, rfl⟩ cw_X5_53 rfl ⟨Nat.le_of_ble_eq_true rfl, Nat.le_of_ble_eq_true rfl⟩ hl.1 rfl (Nat.le_of_ble_eq_true rfl) dX5_drawPlainly_170 ⟨Nat.le_of_ble_eq_true rfl, Nat.le_of_ble_eq_true rfl⟩ (fun ir201 Fr201 Gr201 _ locs hp hH hS => ?_)
      obtain ⟨honr201, hs1r201, hs2r201⟩ := hp
      dsimp only at hs1r201 hs2r201
      have hF : Tf17 ir201 Fr201 := Tf17.on (i := iv) (F := Fv) hF honr201 (by decide)
      have hQ : Pp17 600 ir201 Fr201 := Pp17.on (i := iv) (F := Fv) hQ honr201 (by decide)
      have ek_4_1r201 : Int32.toInt (ir201 4 1) = Int32.toInt (iv 4 1) := congrArg Int32.toInt (congrFun (honr201.1 4 (by decide)).1 1)
      exact xvret (pc := 173) C0 hr hH hS dX5_drawPlainly_173 ⟨(On.tr h3 honr201 (by decide) (by decide)), (show (0 ≤ Int32.toInt (ir201 73 1) ∧ Int32.toInt (ir201 73 1) ≤ 4000) ∧ (0 ≤ Int32.toInt (ir201 75 1) ∧ Int32.toInt (ir201 75 1) ≤ 4000) from by omega)⟩
    | succ d ih25 =>
      intro k iv Fv Gv H locs ls h1 h2 h3 h4 hH hS hl
      have rg_k := fb_rng k
      have hF : Tf17 iv Fv := Tf17.on hF h3 (by decide)
      have hQ : Pp17 600 iv Fv := Pp17.on hQ h3 (by decide)
      have hL := Tf17.lin hF
      have ek4 : Int32.toInt (iv 4 1) = Int32.toInt (i 4 1) := congrArg Int32.toInt (congrFun (h3.1 4 (by decide)).1 1)
      refine lv_iload (pc := 25) C0.1 C0.2.1 dX5_drawPlainly_25 (lv_at hl 0 rfl) ?_
      refine lv_aload (pc := 27) C0.1 C0.2.1 dX5_drawPlainly_27 (lv_at hl 1 rfl) ?_
      refine xget (pc := 29) C0 hH 28 8 clX2 ⟨Nat.le_of_ble_eq_true rfl, Nat.le_of_ble_eq_true rfl⟩ ⟨rfl, rfl⟩ (Nat.le_of_ble_eq_true rfl) fl_X5_39 (v := .int (iv 28 8)) rfl dX5_drawPlainly_29 ?_
      refine lv_icmp_ge (pc := 32) (tgt := 165) C0.1 C0.2.1 dX5_drawPlainly_32 (by decide) (fun c201 => ?_) (fun c201 => ?_)
      · have c201 := Int32.le_iff_toInt_le.mp c201
        refine lv_aload_n (pc := 165) C0.1 C0.2.1 dX5_drawPlainly_165 rfl (lv_at hl 3 rfl) ?_
        refine lv_aload (pc := 166) C0.1 C0.2.1 dX5_drawPlainly_166 (lv_at hl 2 rfl) ?_
        refine lv_iconst (pc := 168) (v := 0) C0.1 C0.2.1 dX5_drawPlainly_168 (by decide) ?_
        refine lv_aload_n (pc := 169) C0.1 C0.2.1 dX5_drawPlainly_169 rfl (lv_at hl 6 rfl) ?_
        refine xcVV (pc := 170) 70 [.ref (b + 17), .int 0, .ref (b + 73)] (g_X5_endBlocks_73 l D tA b iv Fv Gv 0 hF hQ (show (0 ≤ Int32.toInt (iv 73 1) ∧ Int32.toInt (iv 73 1) ≤ 4000) ∧ (0 ≤ Int32.toInt (iv 75 1) ∧ Int32.toInt (iv 75 1) ≤ 4000) from by omega) ) C0 hH hS clX5 rfl ⟨⟨Nat.le_of_ble_eq_true rfl, Nat.le_of_ble_eq_true rfl⟩, rfl, rfl⟩ cw_X5_53 rfl ⟨Nat.le_of_ble_eq_true rfl, Nat.le_of_ble_eq_true rfl⟩ hl.1 rfl (Nat.le_of_ble_eq_true rfl) dX5_drawPlainly_170 ⟨Nat.le_of_ble_eq_true rfl, Nat.le_of_ble_eq_true rfl⟩ (fun ir202 Fr202 Gr202 _ locs hp hH hS => ?_)
        obtain ⟨honr202, hs1r202, hs2r202⟩ := hp
        dsimp only at hs1r202 hs2r202
        have hF : Tf17 ir202 Fr202 := Tf17.on (i := iv) (F := Fv) hF honr202 (by decide)
        have hQ : Pp17 600 ir202 Fr202 := Pp17.on (i := iv) (F := Fv) hQ honr202 (by decide)
        have ek_4_1r202 : Int32.toInt (ir202 4 1) = Int32.toInt (iv 4 1) := congrArg Int32.toInt (congrFun (honr202.1 4 (by decide)).1 1)
        exact xvret (pc := 173) C0 hr hH hS dX5_drawPlainly_173 ⟨(On.tr h3 honr202 (by decide) (by decide)), (show (0 ≤ Int32.toInt (ir202 73 1) ∧ Int32.toInt (ir202 73 1) ≤ 4000) ∧ (0 ≤ Int32.toInt (ir202 75 1) ∧ Int32.toInt (ir202 75 1) ≤ 4000) from by omega)⟩
      · have c201 : ¬ _ := fun q => c201 (Int32.le_iff_toInt_le.mpr q)
        refine lv_aload (pc := 35) C0.1 C0.2.1 dX5_drawPlainly_35 (lv_at hl 1 rfl) ?_
        refine xget (pc := 37) C0 hH 28 6 clX2 ⟨Nat.le_of_ble_eq_true rfl, Nat.le_of_ble_eq_true rfl⟩ ⟨rfl, rfl⟩ (Nat.le_of_ble_eq_true rfl) fl_X5_44 (v := .ref (b + 34)) rfl dX5_drawPlainly_37 ?_
        refine lv_iload (pc := 40) C0.1 C0.2.1 dX5_drawPlainly_40 (lv_at hl 0 rfl) ?_
        refine xiald (pc := 42) (N := 1201) C0 hH 34 ⟨Nat.le_of_ble_eq_true rfl, Nat.le_of_ble_eq_true rfl⟩ ⟨rfl, rfl⟩ (vI (by omega) (by omega)) dX5_drawPlainly_42 ?_
        refine lv_topi (fun x203 ex203 => ?_)
        refine lv_istore (pc := 43) (lv' := [(7, .int x203), (6, .int k), (5, .ref (b + 28)), (4, .ref (b + 17)), (0, .ref (b + 70)), (1, .ref (b + 8)), (2, .ref (b + 4)), (3, .ref (b + 73))]) C0.1 C0.2.1 dX5_drawPlainly_43 hl (by decide) rfl (fun ls hl => ?_)
        have hv7 : 0 ≤ Int32.toInt x203 ∧ Int32.toInt x203 < 1200 := by rw [ex203]; exact hF.pi _
        refine lv_aload (pc := 45) C0.1 C0.2.1 dX5_drawPlainly_45 (lv_at hl 2 rfl) ?_
        refine xget (pc := 47) C0 hH 28 7 clX2 ⟨Nat.le_of_ble_eq_true rfl, Nat.le_of_ble_eq_true rfl⟩ ⟨rfl, rfl⟩ (Nat.le_of_ble_eq_true rfl) fl_X5_47 (v := .ref (b + 35)) rfl dX5_drawPlainly_47 ?_
        refine lv_iload (pc := 50) C0.1 C0.2.1 dX5_drawPlainly_50 (lv_at hl 1 rfl) ?_
        refine xiald (pc := 52) (N := 1201) C0 hH 35 ⟨Nat.le_of_ble_eq_true rfl, Nat.le_of_ble_eq_true rfl⟩ ⟨rfl, rfl⟩ (vI (by omega) (by omega)) dX5_drawPlainly_52 ?_
        refine lv_topi (fun x204 ex204 => ?_)
        refine lv_istore (pc := 53) (lv' := [(8, .int x204), (7, .int x203), (6, .int k), (5, .ref (b + 28)), (4, .ref (b + 17)), (0, .ref (b + 70)), (1, .ref (b + 8)), (2, .ref (b + 4)), (3, .ref (b + 73))]) C0.1 C0.2.1 dX5_drawPlainly_53 hl (by decide) rfl (fun ls hl => ?_)
        have hv8 : -2147483648 ≤ Int32.toInt x204 ∧ Int32.toInt x204 < 600 := by rw [ex204]; exact hF.pv _
        refine lv_aload_n (pc := 55) C0.1 C0.2.1 dX5_drawPlainly_55 rfl (lv_at hl 5 rfl) ?_
        refine lv_aload (pc := 56) C0.1 C0.2.1 dX5_drawPlainly_56 (lv_at hl 4 rfl) ?_
        refine lv_aload (pc := 58) C0.1 C0.2.1 dX5_drawPlainly_58 (lv_at hl 3 rfl) ?_
        refine xget (pc := 60) C0 hH 28 0 clX2 ⟨Nat.le_of_ble_eq_true rfl, Nat.le_of_ble_eq_true rfl⟩ ⟨rfl, rfl⟩ (Nat.le_of_ble_eq_true rfl) fl_X5_50 (v := .ref (b + 29)) rfl dX5_drawPlainly_60 ?_
        refine lv_iload (pc := 63) C0.1 C0.2.1 dX5_drawPlainly_63 (lv_at hl 1 rfl) ?_
        refine xiald (pc := 65) (N := 1200) C0 hH 29 ⟨Nat.le_of_ble_eq_true rfl, Nat.le_of_ble_eq_true rfl⟩ ⟨rfl, rfl⟩ (vI (by omega) (by omega)) dX5_drawPlainly_65 ?_
        refine lv_aload_n (pc := 66) C0.1 C0.2.1 dX5_drawPlainly_66 rfl (lv_at hl 8 rfl) ?_
        refine xcVV (pc := 67) 70 [.ref (b + 17), .int (Fv 29 (Int32.toNatClampNeg x203)), .ref (b + 73)] (g_X5_endBlocks_73 l D tA b iv Fv Gv (Fv 29 (Int32.toNatClampNeg x203)) hF hQ (show (0 ≤ Int32.toInt (iv 73 1) ∧ Int32.toInt (iv 73 1) ≤ 4000) ∧ (0 ≤ Int32.toInt (iv 75 1) ∧ Int32.toInt (iv 75 1) ≤ 4000) from by omega) ) C0 hH hS clX5 rfl ⟨⟨Nat.le_of_ble_eq_true rfl, Nat.le_of_ble_eq_true rfl⟩, rfl, rfl⟩ cw_X5_53 rfl ⟨Nat.le_of_ble_eq_true rfl, Nat.le_of_ble_eq_true rfl⟩ hl.1 rfl (Nat.le_of_ble_eq_true rfl) dX5_drawPlainly_67 ⟨Nat.le_of_ble_eq_true rfl, Nat.le_of_ble_eq_true rfl⟩ (fun ir205 Fr205 Gr205 _ locs hp hH hS => ?_)
        obtain ⟨honr205, hs1r205, hs2r205⟩ := hp
        dsimp only at hs1r205 hs2r205
        have hF : Tf17 ir205 Fr205 := Tf17.on (i := iv) (F := Fv) hF honr205 (by decide)
        have hQ : Pp17 600 ir205 Fr205 := Pp17.on (i := iv) (F := Fv) hQ honr205 (by decide)
        have ek_4_1r205 : Int32.toInt (ir205 4 1) = Int32.toInt (iv 4 1) := congrArg Int32.toInt (congrFun (honr205.1 4 (by decide)).1 1)
        refine lv_iload (pc := 70) C0.1 C0.2.1 dX5_drawPlainly_70 (lv_at hl 0 rfl) ?_
        refine lv_if_ge (pc := 72) (tgt := 96) C0.1 C0.2.1 dX5_drawPlainly_72 (by decide) (fun c206 => ?_) (fun c206 => ?_)
        · have : Int32.toInt 0 = 0 := rfl
          have c206 := Int32.le_iff_toInt_le.mp c206
          refine lv_iload (pc := 96) C0.1 C0.2.1 dX5_drawPlainly_96 (lv_at hl 0 rfl) ?_
          refine lv_aload (pc := 98) C0.1 C0.2.1 dX5_drawPlainly_98 (lv_at hl 3 rfl) ?_
          refine xget (pc := 100) C0 hH 28 2 clX2 ⟨Nat.le_of_ble_eq_true rfl, Nat.le_of_ble_eq_true rfl⟩ ⟨rfl, rfl⟩ (Nat.le_of_ble_eq_true rfl) fl_X5_60 (v := .ref (b + 31)) rfl dX5_drawPlainly_100 ?_
          refine lv_iload (pc := 103) C0.1 C0.2.1 dX5_drawPlainly_103 (lv_at hl 1 rfl) ?_
          refine xiald (pc := 105) (N := 1200) C0 hH 31 ⟨Nat.le_of_ble_eq_true rfl, Nat.le_of_ble_eq_true rfl⟩ ⟨rfl, rfl⟩ (vI (by omega) (by omega)) dX5_drawPlainly_105 ?_
          refine lv_icmp_ne (pc := 106) (tgt := 130) C0.1 C0.2.1 dX5_drawPlainly_106 (by decide) (fun c207 => ?_) (fun c207 => ?_)
          · have c207 : ¬ _ := fun q => c207 (Int32.toInt_inj.mp q)
            refine lv_aload_n (pc := 130) C0.1 C0.2.1 dX5_drawPlainly_130 rfl (lv_at hl 8 rfl) ?_
            refine xcVV (pc := 131) 73 [] (g_X3_putApart_73 l D tA b ir205 Fr205 Gr205  (show 0 ≤ Int32.toInt (ir205 73 1) ∧ Int32.toInt (ir205 73 1) ≤ 4000 from by omega)) C0 hH hS clX3 rfl ⟨⟨Nat.le_of_ble_eq_true rfl, Nat.le_of_ble_eq_true rfl⟩, rfl, rfl⟩ cw_X5_66 rfl ⟨Nat.le_of_ble_eq_true rfl, Nat.le_of_ble_eq_true rfl⟩ hl.1 rfl (Nat.le_of_ble_eq_true rfl) dX5_drawPlainly_131 ⟨Nat.le_of_ble_eq_true rfl, Nat.le_of_ble_eq_true rfl⟩ (fun ir208 Fr208 Gr208 _ locs hp hH hS => ?_)
            obtain ⟨honr208, hs1r208, hs2r208⟩ := hp
            dsimp only at hs1r208 hs2r208
            have hF : Tf17 ir208 Fr208 := Tf17.on (i := ir205) (F := Fr205) hF honr208 (by decide)
            have hQ : Pp17 600 ir208 Fr208 := Pp17.on (i := ir205) (F := Fr205) hQ honr208 (by decide)
            have ek_75_1r208 : Int32.toInt (ir208 75 1) = Int32.toInt (ir205 75 1) := congrArg Int32.toInt (congrFun (honr208.1 75 (by decide)).1 1)
            have ek_4_1r208 : Int32.toInt (ir208 4 1) = Int32.toInt (ir205 4 1) := congrArg Int32.toInt (congrFun (honr208.1 4 (by decide)).1 1)
            refine lv_aload_n (pc := 134) C0.1 C0.2.1 dX5_drawPlainly_134 rfl (lv_at hl 8 rfl) ?_
            refine lv_aload_n (pc := 135) C0.1 C0.2.1 dX5_drawPlainly_135 rfl (lv_at hl 7 rfl) ?_
            refine lv_aload_n (pc := 136) C0.1 C0.2.1 dX5_drawPlainly_136 rfl (lv_at hl 6 rfl) ?_
            refine xget (pc := 137) C0 hH 8 0 clX4 ⟨Nat.le_of_ble_eq_true rfl, Nat.le_of_ble_eq_true rfl⟩ ⟨rfl, rfl⟩ (Nat.le_of_ble_eq_true rfl) fl_X5_73 (v := .ref (b + 9)) rfl dX5_drawPlainly_137 ?_
            refine xget (pc := 140) C0 hH 9 1 clX7 ⟨Nat.le_of_ble_eq_true rfl, Nat.le_of_ble_eq_true rfl⟩ ⟨rfl, rfl⟩ (Nat.le_of_ble_eq_true rfl) fl_X5_77 (v := .ref (b + 11)) rfl dX5_drawPlainly_140 ?_
            refine lv_iload (pc := 143) C0.1 C0.2.1 dX5_drawPlainly_143 (lv_at hl 0 rfl) ?_
            refine xiald (pc := 145) (N := 600) C0 hH 11 ⟨Nat.le_of_ble_eq_true rfl, Nat.le_of_ble_eq_true rfl⟩ ⟨rfl, rfl⟩ (vI (by omega) (by omega)) dX5_drawPlainly_145 ?_
            refine lv_aload_n (pc := 146) C0.1 C0.2.1 dX5_drawPlainly_146 rfl (lv_at hl 6 rfl) ?_
            refine xget (pc := 147) C0 hH 8 0 clX4 ⟨Nat.le_of_ble_eq_true rfl, Nat.le_of_ble_eq_true rfl⟩ ⟨rfl, rfl⟩ (Nat.le_of_ble_eq_true rfl) fl_X5_73 (v := .ref (b + 9)) rfl dX5_drawPlainly_147 ?_
            refine xget (pc := 150) C0 hH 9 2 clX7 ⟨Nat.le_of_ble_eq_true rfl, Nat.le_of_ble_eq_true rfl⟩ ⟨rfl, rfl⟩ (Nat.le_of_ble_eq_true rfl) fl_X5_82 (v := .ref (b + 12)) rfl dX5_drawPlainly_150 ?_
            refine lv_iload (pc := 153) C0.1 C0.2.1 dX5_drawPlainly_153 (lv_at hl 0 rfl) ?_
            refine xiald (pc := 155) (N := 600) C0 hH 12 ⟨Nat.le_of_ble_eq_true rfl, Nat.le_of_ble_eq_true rfl⟩ ⟨rfl, rfl⟩ (vI (by omega) (by omega)) dX5_drawPlainly_155 ?_
            refine xcVV (pc := 156) 73 [.ref (b + 4), .int (Fr208 11 (Int32.toNatClampNeg x204)), .int (Fr208 12 (Int32.toNatClampNeg x204))] (g_X3_putToken_73 l D tA b ir208 Fr208 Gr208 (Fr208 11 (Int32.toNatClampNeg x204)) (Fr208 12 (Int32.toNatClampNeg x204)) (show 0 ≤ Int32.toInt (ir208 73 1) ∧ Int32.toInt (ir208 73 1) ≤ 4000 from by omega) (show 0 ≤ Int32.toInt (ir208 4 1) ∧ Int32.toInt (ir208 4 1) ≤ 600 from by omega)) C0 hH hS clX3 rfl ⟨⟨Nat.le_of_ble_eq_true rfl, Nat.le_of_ble_eq_true rfl⟩, rfl, rfl⟩ cw_X5_85 rfl ⟨Nat.le_of_ble_eq_true rfl, Nat.le_of_ble_eq_true rfl⟩ hl.1 rfl (Nat.le_of_ble_eq_true rfl) dX5_drawPlainly_156 ⟨Nat.le_of_ble_eq_true rfl, Nat.le_of_ble_eq_true rfl⟩ (fun ir209 Fr209 Gr209 _ locs hp hH hS => ?_)
            obtain ⟨honr209, hs1r209, hs2r209⟩ := hp
            dsimp only at hs1r209 hs2r209
            have hF : Tf17 ir209 Fr209 := Tf17.on (i := ir208) (F := Fr208) hF honr209 (by decide)
            have hQ : Pp17 600 ir209 Fr209 := Pp17.on (i := ir208) (F := Fr208) hQ honr209 (by decide)
            have ek_75_1r209 : Int32.toInt (ir209 75 1) = Int32.toInt (ir208 75 1) := congrArg Int32.toInt (congrFun (honr209.1 75 (by decide)).1 1)
            have ek_4_1r209 : Int32.toInt (ir209 4 1) = Int32.toInt (ir208 4 1) := congrArg Int32.toInt (congrFun (honr209.1 4 (by decide)).1 1)
            obtain ⟨x210, ex210⟩ : ∃ y_ : Int32, y_ = k + 1 := ⟨_, rfl⟩
            have : Int32.toInt 1 = 1 := rfl
            have hx210 : Int32.toInt x210 = Int32.toInt k + Int32.toInt 1 := by rw [ex210]; exact fb_addI (by omega) (by omega)
            refine lv_iinc (pc := 159) (v := x210) (lv' := [(6, .int x210), (8, .int x204), (7, .int x203), (5, .ref (b + 28)), (4, .ref (b + 17)), (0, .ref (b + 70)), (1, .ref (b + 8)), (2, .ref (b + 4)), (3, .ref (b + 73))]) C0.1 C0.2.1 dX5_drawPlainly_159 hl (k := 2) rfl (by rw [ex210]; rfl) (by decide) rfl (fun ls hl => ?_)
            refine lv_goto (pc := 162) (tgt := 25) C0.1 C0.2.1 dX5_drawPlainly_162 (by decide) ?_
            exact ih25 x210 ir209 Fr209 Gr209 _ _ _ (by omega) (by omega) (On.tr (On.tr (On.tr h3 honr205 (by decide) (by decide)) honr208 (by decide) (by decide)) honr209 (by decide) (by decide)) (show (0 ≤ Int32.toInt (ir209 73 1) ∧ Int32.toInt (ir209 73 1) ≤ 4000) ∧ (0 ≤ Int32.toInt (ir209 75 1) ∧ Int32.toInt (ir209 75 1) ≤ 4000) from by omega) hH hS (lv_sub hl [0, 3, 4, 5, 6, 7, 8] rfl)
          · have c207 := congrArg Int32.toInt c207
            refine lv_aload (pc := 109) C0.1 C0.2.1 dX5_drawPlainly_109 (lv_at hl 3 rfl) ?_
            refine xget (pc := 111) C0 hH 28 1 clX2 ⟨Nat.le_of_ble_eq_true rfl, Nat.le_of_ble_eq_true rfl⟩ ⟨rfl, rfl⟩ (Nat.le_of_ble_eq_true rfl) fl_X5_63 (v := .ref (b + 30)) rfl dX5_drawPlainly_111 ?_
            refine lv_iload (pc := 114) C0.1 C0.2.1 dX5_drawPlainly_114 (lv_at hl 1 rfl) ?_
            refine xiald (pc := 116) (N := 1200) C0 hH 30 ⟨Nat.le_of_ble_eq_true rfl, Nat.le_of_ble_eq_true rfl⟩ ⟨rfl, rfl⟩ (vI (by omega) (by omega)) dX5_drawPlainly_116 ?_
            refine lv_if_le (pc := 117) (tgt := 130) C0.1 C0.2.1 dX5_drawPlainly_117 (by decide) (fun c211 => ?_) (fun c211 => ?_)
            · have : Int32.toInt 0 = 0 := rfl
              have c211 := Int32.le_iff_toInt_le.mp c211
              refine lv_aload_n (pc := 130) C0.1 C0.2.1 dX5_drawPlainly_130 rfl (lv_at hl 8 rfl) ?_
              refine xcVV (pc := 131) 73 [] (g_X3_putApart_73 l D tA b ir205 Fr205 Gr205  (show 0 ≤ Int32.toInt (ir205 73 1) ∧ Int32.toInt (ir205 73 1) ≤ 4000 from by omega)) C0 hH hS clX3 rfl ⟨⟨Nat.le_of_ble_eq_true rfl, Nat.le_of_ble_eq_true rfl⟩, rfl, rfl⟩ cw_X5_66 rfl ⟨Nat.le_of_ble_eq_true rfl, Nat.le_of_ble_eq_true rfl⟩ hl.1 rfl (Nat.le_of_ble_eq_true rfl) dX5_drawPlainly_131 ⟨Nat.le_of_ble_eq_true rfl, Nat.le_of_ble_eq_true rfl⟩ (fun ir212 Fr212 Gr212 _ locs hp hH hS => ?_)
              obtain ⟨honr212, hs1r212, hs2r212⟩ := hp
              dsimp only at hs1r212 hs2r212
              have hF : Tf17 ir212 Fr212 := Tf17.on (i := ir205) (F := Fr205) hF honr212 (by decide)
              have hQ : Pp17 600 ir212 Fr212 := Pp17.on (i := ir205) (F := Fr205) hQ honr212 (by decide)
              have ek_75_1r212 : Int32.toInt (ir212 75 1) = Int32.toInt (ir205 75 1) := congrArg Int32.toInt (congrFun (honr212.1 75 (by decide)).1 1)
              have ek_4_1r212 : Int32.toInt (ir212 4 1) = Int32.toInt (ir205 4 1) := congrArg Int32.toInt (congrFun (honr212.1 4 (by decide)).1 1)
              refine lv_aload_n (pc := 134) C0.1 C0.2.1 dX5_drawPlainly_134 rfl (lv_at hl 8 rfl) ?_
              refine lv_aload_n (pc := 135) C0.1 C0.2.1 dX5_drawPlainly_135 rfl (lv_at hl 7 rfl) ?_
              refine lv_aload_n (pc := 136) C0.1 C0.2.1 dX5_drawPlainly_136 rfl (lv_at hl 6 rfl) ?_
              refine xget (pc := 137) C0 hH 8 0 clX4 ⟨Nat.le_of_ble_eq_true rfl, Nat.le_of_ble_eq_true rfl⟩ ⟨rfl, rfl⟩ (Nat.le_of_ble_eq_true rfl) fl_X5_73 (v := .ref (b + 9)) rfl dX5_drawPlainly_137 ?_
              refine xget (pc := 140) C0 hH 9 1 clX7 ⟨Nat.le_of_ble_eq_true rfl, Nat.le_of_ble_eq_true rfl⟩ ⟨rfl, rfl⟩ (Nat.le_of_ble_eq_true rfl) fl_X5_77 (v := .ref (b + 11)) rfl dX5_drawPlainly_140 ?_
              refine lv_iload (pc := 143) C0.1 C0.2.1 dX5_drawPlainly_143 (lv_at hl 0 rfl) ?_
              refine xiald (pc := 145) (N := 600) C0 hH 11 ⟨Nat.le_of_ble_eq_true rfl, Nat.le_of_ble_eq_true rfl⟩ ⟨rfl, rfl⟩ (vI (by omega) (by omega)) dX5_drawPlainly_145 ?_
              refine lv_aload_n (pc := 146) C0.1 C0.2.1 dX5_drawPlainly_146 rfl (lv_at hl 6 rfl) ?_
              refine xget (pc := 147) C0 hH 8 0 clX4 ⟨Nat.le_of_ble_eq_true rfl, Nat.le_of_ble_eq_true rfl⟩ ⟨rfl, rfl⟩ (Nat.le_of_ble_eq_true rfl) fl_X5_73 (v := .ref (b + 9)) rfl dX5_drawPlainly_147 ?_
              refine xget (pc := 150) C0 hH 9 2 clX7 ⟨Nat.le_of_ble_eq_true rfl, Nat.le_of_ble_eq_true rfl⟩ ⟨rfl, rfl⟩ (Nat.le_of_ble_eq_true rfl) fl_X5_82 (v := .ref (b + 12)) rfl dX5_drawPlainly_150 ?_
              refine lv_iload (pc := 153) C0.1 C0.2.1 dX5_drawPlainly_153 (lv_at hl 0 rfl) ?_
              refine xiald (pc := 155) (N := 600) C0 hH 12 ⟨Nat.le_of_ble_eq_true rfl, Nat.le_of_ble_eq_true rfl⟩ ⟨rfl, rfl⟩ (vI (by omega) (by omega)) dX5_drawPlainly_155 ?_
              refine xcVV (pc := 156) 73 [.ref (b + 4), .int (Fr212 11 (Int32.toNatClampNeg x204)), .int (Fr212 12 (Int32.toNatClampNeg x204))] (g_X3_putToken_73 l D tA b ir212 Fr212 Gr212 (Fr212 11 (Int32.toNatClampNeg x204)) (Fr212 12 (Int32.toNatClampNeg x204)) (show 0 ≤ Int32.toInt (ir212 73 1) ∧ Int32.toInt (ir212 73 1) ≤ 4000 from by omega) (show 0 ≤ Int32.toInt (ir212 4 1) ∧ Int32.toInt (ir212 4 1) ≤ 600 from by omega)) C0 hH hS clX3 rfl ⟨⟨Nat.le_of_ble_eq_true rfl, Nat.le_of_ble_eq_true rfl⟩, rfl, rfl⟩ cw_X5_85 rfl ⟨Nat.le_of_ble_eq_true rfl, Nat.le_of_ble_eq_true rfl⟩ hl.1 rfl (Nat.le_of_ble_eq_true rfl) dX5_drawPlainly_156 ⟨Nat.le_of_ble_eq_true rfl, Nat.le_of_ble_eq_true rfl⟩ (fun ir213 Fr213 Gr213 _ locs hp hH hS => ?_)
              obtain ⟨honr213, hs1r213, hs2r213⟩ := hp
              dsimp only at hs1r213 hs2r213
              have hF : Tf17 ir213 Fr213 := Tf17.on (i := ir212) (F := Fr212) hF honr213 (by decide)
              have hQ : Pp17 600 ir213 Fr213 := Pp17.on (i := ir212) (F := Fr212) hQ honr213 (by decide)
              have ek_75_1r213 : Int32.toInt (ir213 75 1) = Int32.toInt (ir212 75 1) := congrArg Int32.toInt (congrFun (honr213.1 75 (by decide)).1 1)
              have ek_4_1r213 : Int32.toInt (ir213 4 1) = Int32.toInt (ir212 4 1) := congrArg Int32.toInt (congrFun (honr213.1 4 (by decide)).1 1)
              obtain ⟨x214, ex214⟩ : ∃ y_ : Int32, y_ = k + 1 := ⟨_, rfl⟩
              have : Int32.toInt 1 = 1 := rfl
              have hx214 : Int32.toInt x214 = Int32.toInt k + Int32.toInt 1 := by rw [ex214]; exact fb_addI (by omega) (by omega)
              refine lv_iinc (pc := 159) (v := x214) (lv' := [(6, .int x214), (8, .int x204), (7, .int x203), (5, .ref (b + 28)), (4, .ref (b + 17)), (0, .ref (b + 70)), (1, .ref (b + 8)), (2, .ref (b + 4)), (3, .ref (b + 73))]) C0.1 C0.2.1 dX5_drawPlainly_159 hl (k := 2) rfl (by rw [ex214]; rfl) (by decide) rfl (fun ls hl => ?_)
              refine lv_goto (pc := 162) (tgt := 25) C0.1 C0.2.1 dX5_drawPlainly_162 (by decide) ?_
              exact ih25 x214 ir213 Fr213 Gr213 _ _ _ (by omega) (by omega) (On.tr (On.tr (On.tr h3 honr205 (by decide) (by decide)) honr212 (by decide) (by decide)) honr213 (by decide) (by decide)) (show (0 ≤ Int32.toInt (ir213 73 1) ∧ Int32.toInt (ir213 73 1) ≤ 4000) ∧ (0 ≤ Int32.toInt (ir213 75 1) ∧ Int32.toInt (ir213 75 1) ≤ 4000) from by omega) hH hS (lv_sub hl [0, 3, 4, 5, 6, 7, 8] rfl)
            · have : Int32.toInt 0 = 0 := rfl
              have c211 : ¬ _ := fun q => c211 (Int32.le_iff_toInt_le.mpr q)
              refine lv_aload_n (pc := 120) C0.1 C0.2.1 dX5_drawPlainly_120 rfl (lv_at hl 8 rfl) ?_
              refine xcVV (pc := 121) 73 [] (g_X3_putApart_73 l D tA b ir205 Fr205 Gr205  (show 0 ≤ Int32.toInt (ir205 73 1) ∧ Int32.toInt (ir205 73 1) ≤ 4000 from by omega)) C0 hH hS clX3 rfl ⟨⟨Nat.le_of_ble_eq_true rfl, Nat.le_of_ble_eq_true rfl⟩, rfl, rfl⟩ cw_X5_66 rfl ⟨Nat.le_of_ble_eq_true rfl, Nat.le_of_ble_eq_true rfl⟩ hl.1 rfl (Nat.le_of_ble_eq_true rfl) dX5_drawPlainly_121 ⟨Nat.le_of_ble_eq_true rfl, Nat.le_of_ble_eq_true rfl⟩ (fun ir215 Fr215 Gr215 _ locs hp hH hS => ?_)
              obtain ⟨honr215, hs1r215, hs2r215⟩ := hp
              dsimp only at hs1r215 hs2r215
              have hF : Tf17 ir215 Fr215 := Tf17.on (i := ir205) (F := Fr205) hF honr215 (by decide)
              have hQ : Pp17 600 ir215 Fr215 := Pp17.on (i := ir205) (F := Fr205) hQ honr215 (by decide)
              have ek_75_1r215 : Int32.toInt (ir215 75 1) = Int32.toInt (ir205 75 1) := congrArg Int32.toInt (congrFun (honr215.1 75 (by decide)).1 1)
              have ek_4_1r215 : Int32.toInt (ir215 4 1) = Int32.toInt (ir205 4 1) := congrArg Int32.toInt (congrFun (honr215.1 4 (by decide)).1 1)
              refine lv_aload_n (pc := 124) C0.1 C0.2.1 dX5_drawPlainly_124 rfl (lv_at hl 8 rfl) ?_
              refine lv_bipush (pc := 125) (v := 59) C0.1 C0.2.1 dX5_drawPlainly_125 (by decide) ?_
              refine xcVV (pc := 127) 73 [.int 59] (g_X3_put_73 l D tA b ir215 Fr215 Gr215 59 (show 0 ≤ Int32.toInt (ir215 73 1) ∧ Int32.toInt (ir215 73 1) ≤ 4000 from by omega)) C0 hH hS clX3 rfl ⟨⟨Nat.le_of_ble_eq_true rfl, Nat.le_of_ble_eq_true rfl⟩, rfl, rfl⟩ cw_X5_69 rfl ⟨Nat.le_of_ble_eq_true rfl, Nat.le_of_ble_eq_true rfl⟩ hl.1 rfl (Nat.le_of_ble_eq_true rfl) dX5_drawPlainly_127 ⟨Nat.le_of_ble_eq_true rfl, Nat.le_of_ble_eq_true rfl⟩ (fun ir216 Fr216 Gr216 _ locs hp hH hS => ?_)
              obtain ⟨honr216, hs1r216, hs2r216⟩ := hp
              dsimp only at hs1r216 hs2r216
              have hF : Tf17 ir216 Fr216 := Tf17.on (i := ir215) (F := Fr215) hF honr216 (by decide)
              have hQ : Pp17 600 ir216 Fr216 := Pp17.on (i := ir215) (F := Fr215) hQ honr216 (by decide)
              have ek_75_1r216 : Int32.toInt (ir216 75 1) = Int32.toInt (ir215 75 1) := congrArg Int32.toInt (congrFun (honr216.1 75 (by decide)).1 1)
              have ek_4_1r216 : Int32.toInt (ir216 4 1) = Int32.toInt (ir215 4 1) := congrArg Int32.toInt (congrFun (honr216.1 4 (by decide)).1 1)
              refine lv_aload_n (pc := 130) C0.1 C0.2.1 dX5_drawPlainly_130 rfl (lv_at hl 8 rfl) ?_
              refine xcVV (pc := 131) 73 [] (g_X3_putApart_73 l D tA b ir216 Fr216 Gr216  (show 0 ≤ Int32.toInt (ir216 73 1) ∧ Int32.toInt (ir216 73 1) ≤ 4000 from by omega)) C0 hH hS clX3 rfl ⟨⟨Nat.le_of_ble_eq_true rfl, Nat.le_of_ble_eq_true rfl⟩, rfl, rfl⟩ cw_X5_66 rfl ⟨Nat.le_of_ble_eq_true rfl, Nat.le_of_ble_eq_true rfl⟩ hl.1 rfl (Nat.le_of_ble_eq_true rfl) dX5_drawPlainly_131 ⟨Nat.le_of_ble_eq_true rfl, Nat.le_of_ble_eq_true rfl⟩ (fun ir217 Fr217 Gr217 _ locs hp hH hS => ?_)
              obtain ⟨honr217, hs1r217, hs2r217⟩ := hp
              dsimp only at hs1r217 hs2r217
              have hF : Tf17 ir217 Fr217 := Tf17.on (i := ir216) (F := Fr216) hF honr217 (by decide)
              have hQ : Pp17 600 ir217 Fr217 := Pp17.on (i := ir216) (F := Fr216) hQ honr217 (by decide)
              have ek_75_1r217 : Int32.toInt (ir217 75 1) = Int32.toInt (ir216 75 1) := congrArg Int32.toInt (congrFun (honr217.1 75 (by decide)).1 1)
              have ek_4_1r217 : Int32.toInt (ir217 4 1) = Int32.toInt (ir216 4 1) := congrArg Int32.toInt (congrFun (honr217.1 4 (by decide)).1 1)
              refine lv_aload_n (pc := 134) C0.1 C0.2.1 dX5_drawPlainly_134 rfl (lv_at hl 8 rfl) ?_
              refine lv_aload_n (pc := 135) C0.1 C0.2.1 dX5_drawPlainly_135 rfl (lv_at hl 7 rfl) ?_
              refine lv_aload_n (pc := 136) C0.1 C0.2.1 dX5_drawPlainly_136 rfl (lv_at hl 6 rfl) ?_
              refine xget (pc := 137) C0 hH 8 0 clX4 ⟨Nat.le_of_ble_eq_true rfl, Nat.le_of_ble_eq_true rfl⟩ ⟨rfl, rfl⟩ (Nat.le_of_ble_eq_true rfl) fl_X5_73 (v := .ref (b + 9)) rfl dX5_drawPlainly_137 ?_
              refine xget (pc := 140) C0 hH 9 1 clX7 ⟨Nat.le_of_ble_eq_true rfl, Nat.le_of_ble_eq_true rfl⟩ ⟨rfl, rfl⟩ (Nat.le_of_ble_eq_true rfl) fl_X5_77 (v := .ref (b + 11)) rfl dX5_drawPlainly_140 ?_
              refine lv_iload (pc := 143) C0.1 C0.2.1 dX5_drawPlainly_143 (lv_at hl 0 rfl) ?_
              refine xiald (pc := 145) (N := 600) C0 hH 11 ⟨Nat.le_of_ble_eq_true rfl, Nat.le_of_ble_eq_true rfl⟩ ⟨rfl, rfl⟩ (vI (by omega) (by omega)) dX5_drawPlainly_145 ?_
              refine lv_aload_n (pc := 146) C0.1 C0.2.1 dX5_drawPlainly_146 rfl (lv_at hl 6 rfl) ?_
              refine xget (pc := 147) C0 hH 8 0 clX4 ⟨Nat.le_of_ble_eq_true rfl, Nat.le_of_ble_eq_true rfl⟩ ⟨rfl, rfl⟩ (Nat.le_of_ble_eq_true rfl) fl_X5_73 (v := .ref (b + 9)) rfl dX5_drawPlainly_147 ?_
              refine xget (pc := 150) C0 hH 9 2 clX7 ⟨Nat.le_of_ble_eq_true rfl, Nat.le_of_ble_eq_true rfl⟩ ⟨rfl, rfl⟩ (Nat.le_of_ble_eq_true rfl) fl_X5_82 (v := .ref (b + 12)) rfl dX5_drawPlainly_150 ?_
              refine lv_iload (pc := 153) C0.1 C0.2.1 dX5_drawPlainly_153 (lv_at hl 0 rfl) ?_
              refine xiald (pc := 155) (N := 600) C0 hH 12 ⟨Nat.le_of_ble_eq_true rfl, Nat.le_of_ble_eq_true rfl⟩ ⟨rfl, rfl⟩ (vI (by omega) (by omega)) dX5_drawPlainly_155 ?_
              refine xcVV (pc := 156) 73 [.ref (b + 4), .int (Fr217 11 (Int32.toNatClampNeg x204)), .int (Fr217 12 (Int32.toNatClampNeg x204))] (g_X3_putToken_73 l D tA b ir217 Fr217 Gr217 (Fr217 11 (Int32.toNatClampNeg x204)) (Fr217 12 (Int32.toNatClampNeg x204)) (show 0 ≤ Int32.toInt (ir217 73 1) ∧ Int32.toInt (ir217 73 1) ≤ 4000 from by omega) (show 0 ≤ Int32.toInt (ir217 4 1) ∧ Int32.toInt (ir217 4 1) ≤ 600 from by omega)) C0 hH hS clX3 rfl ⟨⟨Nat.le_of_ble_eq_true rfl, Nat.le_of_ble_eq_true rfl⟩, rfl, rfl⟩ cw_X5_85 rfl ⟨Nat.le_of_ble_eq_true rfl, Nat.le_of_ble_eq_true rfl⟩ hl.1 rfl (Nat.le_of_ble_eq_true rfl) dX5_drawPlainly_156 ⟨Nat.le_of_ble_eq_true rfl, Nat.le_of_ble_eq_true rfl⟩ (fun ir218 Fr218 Gr218 _ locs hp hH hS => ?_)
              obtain ⟨honr218, hs1r218, hs2r218⟩ := hp
              dsimp only at hs1r218 hs2r218
              have hF : Tf17 ir218 Fr218 := Tf17.on (i := ir217) (F := Fr217) hF honr218 (by decide)
              have hQ : Pp17 600 ir218 Fr218 := Pp17.on (i := ir217) (F := Fr217) hQ honr218 (by decide)
              have ek_75_1r218 : Int32.toInt (ir218 75 1) = Int32.toInt (ir217 75 1) := congrArg Int32.toInt (congrFun (honr218.1 75 (by decide)).1 1)
              have ek_4_1r218 : Int32.toInt (ir218 4 1) = Int32.toInt (ir217 4 1) := congrArg Int32.toInt (congrFun (honr218.1 4 (by decide)).1 1)
              obtain ⟨x219, ex219⟩ : ∃ y_ : Int32, y_ = k + 1 := ⟨_, rfl⟩
              have : Int32.toInt 1 = 1 := rfl
              have hx219 : Int32.toInt x219 = Int32.toInt k + Int32.toInt 1 := by rw [ex219]; exact fb_addI (by omega) (by omega)
              refine lv_iinc (pc := 159) (v := x219) (lv' := [(6, .int x219), (8, .int x204), (7, .int x203), (5, .ref (b + 28)), (4, .ref (b + 17)), (0, .ref (b + 70)), (1, .ref (b + 8)), (2, .ref (b + 4)), (3, .ref (b + 73))]) C0.1 C0.2.1 dX5_drawPlainly_159 hl (k := 2) rfl (by rw [ex219]; rfl) (by decide) rfl (fun ls hl => ?_)
              refine lv_goto (pc := 162) (tgt := 25) C0.1 C0.2.1 dX5_drawPlainly_162 (by decide) ?_
              exact ih25 x219 ir218 Fr218 Gr218 _ _ _ (by omega) (by omega) (On.tr (On.tr (On.tr (On.tr (On.tr h3 honr205 (by decide) (by decide)) honr215 (by decide) (by decide)) honr216 (by decide) (by decide)) honr217 (by decide) (by decide)) honr218 (by decide) (by decide)) (show (0 ≤ Int32.toInt (ir218 73 1) ∧ Int32.toInt (ir218 73 1) ≤ 4000) ∧ (0 ≤ Int32.toInt (ir218 75 1) ∧ Int32.toInt (ir218 75 1) ≤ 4000) from by omega) hH hS (lv_sub hl [0, 3, 4, 5, 6, 7, 8] rfl)
        · have : Int32.toInt 0 = 0 := rfl
          have c206 : ¬ _ := fun q => c206 (Int32.le_iff_toInt_le.mpr q)
          refine lv_aload_n (pc := 75) C0.1 C0.2.1 dX5_drawPlainly_75 rfl (lv_at hl 5 rfl) ?_
          refine lv_bipush (pc := 76) (v := (-100)) C0.1 C0.2.1 dX5_drawPlainly_76 (by decide) ?_
          refine lv_iload (pc := 78) C0.1 C0.2.1 dX5_drawPlainly_78 (lv_at hl 0 rfl) ?_
          refine lv_isub (pc := 80) C0.1 C0.2.1 dX5_drawPlainly_80 ?_
          refine lv_topi (fun x220 ex220 => ?_)
          refine xputI (pc := 81) C0 (Nat.le_of_ble_eq_true rfl) hH hS 70 3 clX5 ⟨Nat.le_of_ble_eq_true rfl, Nat.le_of_ble_eq_true rfl⟩ ⟨rfl, rfl⟩ ⟨Nat.le_of_ble_eq_true rfl, rfl, rfl⟩ fl_X5_35 (x := x220) ⟨rfl, rfl⟩ dX5_drawPlainly_81 (fun _ locs hH hS _ => ?_)
          have hH : Hd D tA b 0 78 zz (up2 ir205 70 3 x220) Fr205 Gr205 _ := hH
          refine lv_aload_n (pc := 84) C0.1 C0.2.1 dX5_drawPlainly_84 rfl (lv_at hl 5 rfl) ?_
          refine lv_aload (pc := 85) C0.1 C0.2.1 dX5_drawPlainly_85 (lv_at hl 4 rfl) ?_
          refine lv_bipush (pc := 87) (v := 123) C0.1 C0.2.1 dX5_drawPlainly_87 (by decide) ?_
          refine lv_aload_n (pc := 89) C0.1 C0.2.1 dX5_drawPlainly_89 rfl (lv_at hl 8 rfl) ?_
          refine xcVV (pc := 90) 70 [.ref (b + 17), .int 123, .ref (b + 73)] (g_X5_drawBrace_73 l D tA b (up2 ir205 70 3 x220) Fr205 Gr205 123 hF hQ (show (0 ≤ Int32.toInt (ir205 73 1) ∧ Int32.toInt (ir205 73 1) ≤ 4000) ∧ (0 ≤ Int32.toInt (ir205 75 1) ∧ Int32.toInt (ir205 75 1) ≤ 4000) from by omega) ) C0 hH hS clX5 rfl ⟨⟨Nat.le_of_ble_eq_true rfl, Nat.le_of_ble_eq_true rfl⟩, rfl, rfl⟩ cw_X5_57 rfl ⟨Nat.le_of_ble_eq_true rfl, Nat.le_of_ble_eq_true rfl⟩ hl.1 rfl (Nat.le_of_ble_eq_true rfl) dX5_drawPlainly_90 ⟨Nat.le_of_ble_eq_true rfl, Nat.le_of_ble_eq_true rfl⟩ (fun ir221 Fr221 Gr221 _ locs hp hH hS => ?_)
          obtain ⟨honr221, hs1r221, hs2r221⟩ := hp
          dsimp only at hs1r221 hs2r221
          have hF : Tf17 ir221 Fr221 := Tf17.on (i := (up2 ir205 70 3 x220)) (F := Fr205) hF honr221 (by decide)
          have hQ : Pp17 600 ir221 Fr221 := Pp17.on (i := (up2 ir205 70 3 x220)) (F := Fr205) hQ honr221 (by decide)
          have ek_4_1r221 : Int32.toInt (ir221 4 1) = Int32.toInt (ir205 4 1) := congrArg Int32.toInt (congrFun (honr221.1 4 (by decide)).1 1)
          refine lv_goto (pc := 93) (tgt := 159) C0.1 C0.2.1 dX5_drawPlainly_93 (by decide) ?_
          obtain ⟨x222, ex222⟩ : ∃ y_ : Int32, y_ = k + 1 := ⟨_, rfl⟩
          have : Int32.toInt 1 = 1 := rfl
          have hx222 : Int32.toInt x222 = Int32.toInt k + Int32.toInt 1 := by rw [ex222]; exact fb_addI (by omega) (by omega)
          refine lv_iinc (pc := 159) (v := x222) (lv' := [(6, .int x222), (8, .int x204), (7, .int x203), (5, .ref (b + 28)), (4, .ref (b + 17)), (0, .ref (b + 70)), (1, .ref (b + 8)), (2, .ref (b + 4)), (3, .ref (b + 73))]) C0.1 C0.2.1 dX5_drawPlainly_159 hl (k := 2) rfl (by rw [ex222]; rfl) (by decide) rfl (fun ls hl => ?_)
          refine lv_goto (pc := 162) (tgt := 25) C0.1 C0.2.1 dX5_drawPlainly_162 (by decide) ?_
          exact ih25 x222 ir221 Fr221 Gr221 _ _ _ (by omega) (by omega) (On.tr (On.i (On.tr h3 honr205 (by decide) (by decide)) (by decide)) honr221 (by decide) (by decide)) (show (0 ≤ Int32.toInt (ir221 73 1) ∧ Int32.toInt (ir221 73 1) ≤ 4000) ∧ (0 ≤ Int32.toInt (ir221 75 1) ∧ Int32.toInt (ir221 75 1) ≤ 4000) from by omega) hH hS (lv_sub hl [0, 3, 4, 5, 6, 7, 8] rfl)
  refine lv_aload_n (pc := 0) C0.1 C0.2.1 dX5_drawPlainly_0 rfl (lv_at hl 1 rfl) ?_
  refine xget (pc := 1) C0 hH 8 1 clX4 ⟨Nat.le_of_ble_eq_true rfl, Nat.le_of_ble_eq_true rfl⟩ ⟨rfl, rfl⟩ (Nat.le_of_ble_eq_true rfl) fl_X5_18 (v := .ref (b + 17)) rfl dX5_drawPlainly_1 ?_
  refine lv_astore (pc := 4) (lv' := [(4, .ref (b + 17)), (0, .ref (b + 70)), (1, .ref (b + 8)), (2, .ref (b + 4)), (3, .ref (b + 73))]) C0.1 C0.2.1 dX5_drawPlainly_4 hl (by decide) rfl (fun ls hl => ?_)
  refine lv_aload (pc := 6) C0.1 C0.2.1 dX5_drawPlainly_6 (lv_at hl 0 rfl) ?_
  refine xget (pc := 8) C0 hH 17 1 clX8 ⟨Nat.le_of_ble_eq_true rfl, Nat.le_of_ble_eq_true rfl⟩ ⟨rfl, rfl⟩ (Nat.le_of_ble_eq_true rfl) fl_X5_24 (v := .ref (b + 28)) rfl dX5_drawPlainly_8 ?_
  refine lv_astore (pc := 11) (lv' := [(5, .ref (b + 28)), (4, .ref (b + 17)), (0, .ref (b + 70)), (1, .ref (b + 8)), (2, .ref (b + 4)), (3, .ref (b + 73))]) C0.1 C0.2.1 dX5_drawPlainly_11 hl (by decide) rfl (fun ls hl => ?_)
  refine lv_aload_n (pc := 13) C0.1 C0.2.1 dX5_drawPlainly_13 rfl (lv_at hl 5 rfl) ?_
  refine xcVV (pc := 14) 73 [] (g_X3_clear_73 l D tA b i F G  ) C0 hH hS clX3 rfl ⟨⟨Nat.le_of_ble_eq_true rfl, Nat.le_of_ble_eq_true rfl⟩, rfl, rfl⟩ cw_X5_30 rfl ⟨Nat.le_of_ble_eq_true rfl, Nat.le_of_ble_eq_true rfl⟩ hl.1 rfl (Nat.le_of_ble_eq_true rfl) dX5_drawPlainly_14 ⟨Nat.le_of_ble_eq_true rfl, Nat.le_of_ble_eq_true rfl⟩ (fun ir1 Fr1 Gr1 _ locs hp hH hS => ?_)
  obtain ⟨honr1, hs1r1, hs2r1⟩ := hp
  dsimp only at hs1r1 hs2r1
  have hF : Tf17 ir1 Fr1 := Tf17.on (i := i) (F := F) hF honr1 (by decide)
  have hQ : Pp17 600 ir1 Fr1 := Pp17.on (i := i) (F := F) hQ honr1 (by decide)
  have ek_75_1r1 : Int32.toInt (ir1 75 1) = Int32.toInt (i 75 1) := congrArg Int32.toInt (congrFun (honr1.1 75 (by decide)).1 1)
  have ek_4_1r1 : Int32.toInt (ir1 4 1) = Int32.toInt (i 4 1) := congrArg Int32.toInt (congrFun (honr1.1 4 (by decide)).1 1)
  refine lv_aload_n (pc := 17) C0.1 C0.2.1 dX5_drawPlainly_17 rfl (lv_at hl 2 rfl) ?_
  refine lv_iconst (pc := 18) (v := 0) C0.1 C0.2.1 dX5_drawPlainly_18 (by decide) ?_
  refine xputI (pc := 19) C0 (Nat.le_of_ble_eq_true rfl) hH hS 70 3 clX5 ⟨Nat.le_of_ble_eq_true rfl, Nat.le_of_ble_eq_true rfl⟩ ⟨rfl, rfl⟩ ⟨Nat.le_of_ble_eq_true rfl, rfl, rfl⟩ fl_X5_35 (x := 0) ⟨rfl, rfl⟩ dX5_drawPlainly_19 (fun _ locs hH hS _ => ?_)
  have hH : Hd D tA b 0 78 zz (up2 ir1 70 3 0) Fr1 Gr1 _ := hH
  refine lv_iconst (pc := 22) (v := 0) C0.1 C0.2.1 dX5_drawPlainly_22 (by decide) ?_
  refine lv_istore (pc := 23) (lv' := [(6, .int 0), (5, .ref (b + 28)), (4, .ref (b + 17)), (0, .ref (b + 70)), (1, .ref (b + 8)), (2, .ref (b + 4)), (3, .ref (b + 73))]) C0.1 C0.2.1 dX5_drawPlainly_23 hl (by decide) rfl (fun ls hl => ?_)
  exact L25 1201 0 (up2 ir1 70 3 0) Fr1 Gr1 _ _ _ (by have : Int32.toInt 0 = 0 := rfl; omega) (by have : Int32.toInt 0 = 0 := rfl; omega) (On.i (On.tr On.rf honr1 (by decide) (by decide)) (by decide)) (show (0 ≤ Int32.toInt (ir1 73 1) ∧ Int32.toInt (ir1 73 1) ≤ 4000) ∧ (0 ≤ Int32.toInt (ir1 75 1) ∧ Int32.toInt (ir1 75 1) ≤ 4000) from by omega) hH hS (lv_sub hl [0, 1, 2, 3, 4, 5, 6] rfl)
set_option maxHeartbeats 4000000 in
set_option maxRecDepth 100000 in
theorem g_X5_drawAnew_73 (l : Launch) (D : va_G) (tA : Nat → ClassId) (b : Nat) (i F : Nat → Nat → Int32) (G : Nat → Nat → Int64) (w : Int32) (hF : Tf17 i F) (hQ : Pp17 600 i F) (hPg : (0 ≤ (i 73 1).toInt ∧ (i 73 1).toInt ≤ 4000) ∧ (0 ≤ (i 75 1).toInt ∧ (i 75 1).toInt ≤ 4000)) (hsz : 0 ≤ (i 4 1).toInt ∧ (i 4 1).toInt ≤ 600) : xMI l yX5_drawAnew cX5_drawAnew 10 (some .boolean) 4 94 D tA b 0 78 i F G [.ref (b + 70), .ref (b + 8), .ref (b + 4), .ref (b + 73), .int w] (fun r u => On 70 77 i F G u ∧ (0 ≤ (u.1 73 1).toInt ∧ (u.1 73 1).toInt ≤ 4000) ∧ (0 ≤ (u.1 75 1).toInt ∧ (u.1 75 1).toInt ≤ 4000)) := by
  refine xstart RX5 rfl (by decide) (Nat.le_of_ble_eq_true rfl) ?_
  intro p e s m below meth c ls C0 hr hH hS hl
  have hl : lv_has ls 10 [(0, .ref (b + 70)), (1, .ref (b + 8)), (2, .ref (b + 4)), (3, .ref (b + 73)), (4, .int w)] := hl
  have rg_w := fb_rng w
  have hL := Tf17.lin hF
  have L29 : ∀ (d : Nat) (k cl : Int32) (iv Fv : Nat → Nat → Int32) (Gv : Nat → Nat → Int64) (H : Heap) (locs : List Loc) (ls : Array Slot), (0 ≤ k.toInt) → (1201 - k.toInt ≤ d) → (On 70 77 i F G (iv, Fv, Gv)) → ((0 ≤ (iv 73 1).toInt ∧ (iv 73 1).toInt ≤ 4000) ∧ (0 ≤ (iv 75 1).toInt ∧ (iv 75 1).toInt ≤ 4000)) → (cl = 0 ∨ cl = 1) → Hd D tA b 0 78 zz iv Fv Gv H → va_S (xA b 0 78) s.heap H locs → lv_has ls 10 [(7, .int k), (6, .int cl), (5, .ref (b + 28)), (0, .ref (b + 70)), (1, .ref (b + 8)), (2, .ref (b + 4)), (3, .ref (b + 73)), (4, .int w)] → W p l e (xR 4 94) s m ([.ref (b + 70), .ref (b + 8), .ref (b + 4), .ref (b + 73), .int w] : List Value).toArray below meth c H locs 0 0 (MQ below (va_Qi (fun r u => On 70 77 i F G u ∧ (0 ≤ (u.1 73 1).toInt ∧ (u.1 73 1).toInt ≤ 4000) ∧ (0 ≤ (u.1 75 1).toInt ∧ (u.1 75 1).toInt ≤ 4000)) (xB D tA b 0 78 zz) (xA b 0 78)) ([.ref (b + 70), .ref (b + 8), .ref (b + 4), .ref (b + 73), .int w] : List Value).toArray s 0 0 (xA b 0 78)) (F0 m 29 ls []) := by
    intro d
    induction d with
    | zero =>
      intro k cl iv Fv Gv H locs ls h1 h2 h3 h4 h5 hH hS hl
      have rg_k := fb_rng k
      have rg_cl := fb_rng cl
      have hF : Tf17 iv Fv := Tf17.on hF h3 (by decide)
      have hQ : Pp17 600 iv Fv := Pp17.on hQ h3 (by decide)
      have hL := Tf17.lin hF
      have ek4 : Int32.toInt (iv 4 1) = Int32.toInt (i 4 1) := congrArg Int32.toInt (congrFun (h3.1 4 (by decide)).1 1)
      refine lv_iload (pc := 29) C0.1 C0.2.1 dX5_drawAnew_29 (lv_at hl 0 rfl) ?_
      refine lv_aload (pc := 31) C0.1 C0.2.1 dX5_drawAnew_31 (lv_at hl 2 rfl) ?_
      refine xget (pc := 33) C0 hH 28 8 clX2 ⟨Nat.le_of_ble_eq_true rfl, Nat.le_of_ble_eq_true rfl⟩ ⟨rfl, rfl⟩ (Nat.le_of_ble_eq_true rfl) fl_X5_39 (v := .int (iv 28 8)) rfl dX5_drawAnew_33 ?_
      refine lv_icmp_ge (pc := 36) (tgt := 168) C0.1 C0.2.1 dX5_drawAnew_36 (by decide) (fun _ => ?_) (fun c => absurd (Int32.le_iff_toInt_le.mpr (by omega)) c)
      refine lv_aload_n (pc := 168) C0.1 C0.2.1 dX5_drawAnew_168 rfl (lv_at hl 6 rfl) ?_
      refine xget (pc := 169) C0 hH 73 1 clX3 ⟨Nat.le_of_ble_eq_true rfl, Nat.le_of_ble_eq_true rfl⟩ ⟨rfl, rfl⟩ (Nat.le_of_ble_eq_true rfl) fl_X5_127 (v := .int (iv 73 1)) rfl dX5_drawAnew_169 ?_
      refine lv_if_le (pc := 172) (tgt := 181) C0.1 C0.2.1 dX5_drawAnew_172 (by decide) (fun c201 => ?_) (fun c201 => ?_)
      · have : Int32.toInt 0 = 0 := rfl
        have c201 := Int32.le_iff_toInt_le.mp c201
        refine lv_iload (pc := 181) C0.1 C0.2.1 dX5_drawAnew_181 (lv_at hl 1 rfl) ?_
        exact xzret (pc := 183) C0 hr hH hS dX5_drawAnew_183 h5 ⟨h3, (show (0 ≤ Int32.toInt (iv 73 1) ∧ Int32.toInt (iv 73 1) ≤ 4000) ∧ (0 ≤ Int32.toInt (iv 75 1) ∧ Int32.toInt (iv 75 1) ≤ 4000) from by omega)⟩
      · have : Int32.toInt 0 = 0 := rfl
        have c201 : ¬ _ := fun q => c201 (Int32.le_iff_toInt_le.mpr q)
        refine lv_aload_n (pc := 175) C0.1 C0.2.1 dX5_drawAnew_175 rfl (lv_at hl 6 rfl) ?_
        refine lv_bipush (pc := 176) (v := 10) C0.1 C0.2.1 dX5_drawAnew_176 (by decide) ?_
        refine xcVV (pc := 178) 73 [.int 10] (g_X3_put_73 l D tA b iv Fv Gv 10 (show 0 ≤ Int32.toInt (iv 73 1) ∧ Int32.toInt (iv 73 1) ≤ 4000 from by omega)) C0 hH hS clX3 rfl ⟨⟨Nat.le_of_ble_eq_true rfl, Nat.le_of_ble_eq_true rfl⟩, rfl, rfl⟩ cw_X5_69 rfl ⟨Nat.le_of_ble_eq_true rfl, Nat.le_of_ble_eq_true rfl⟩ hl.1 rfl (Nat.le_of_ble_eq_true rfl) dX5_drawAnew_178 ⟨Nat.le_of_ble_eq_true rfl, Nat.le_of_ble_eq_true rfl⟩ (fun ir202 Fr202 Gr202 _ locs hp hH hS => ?_)
        obtain ⟨honr202, hs1r202, hs2r202⟩ := hp
        dsimp only at hs1r202 hs2r202
        have hF : Tf17 ir202 Fr202 := Tf17.on (i := iv) (F := Fv) hF honr202 (by decide)
        have hQ : Pp17 600 ir202 Fr202 := Pp17.on (i := iv) (F := Fv) hQ honr202 (by decide)
        have ek_75_1r202 : Int32.toInt (ir202 75 1) = Int32.toInt (iv 75 1) := congrArg Int32.toInt (congrFun (honr202.1 75 (by decide)).1 1)
        have ek_4_1r202 : Int32.toInt (ir202 4 1) = Int32.toInt (iv 4 1) := congrArg Int32.toInt (congrFun (honr202.1 4 (by decide)).1 1)
        refine lv_iload (pc := 181) C0.1 C0.2.1 dX5_drawAnew_181 (lv_at hl 1 rfl) ?_
        exact xzret (pc := 183) C0 hr hH hS dX5_drawAnew_183 h5 ⟨(On.tr h3 honr202 (by decide) (by decide)), (show (0 ≤ Int32.toInt (ir202 73 1) ∧ Int32.toInt (ir202 73 1) ≤ 4000) ∧ (0 ≤ Int32.toInt (ir202 75 1) ∧ Int32.toInt (ir202 75 1) ≤ 4000) from by omega)⟩
    | succ d ih29 =>
      intro k cl iv Fv Gv H locs ls h1 h2 h3 h4 h5 hH hS hl
      have rg_k := fb_rng k
      have rg_cl := fb_rng cl
      have hF : Tf17 iv Fv := Tf17.on hF h3 (by decide)
      have hQ : Pp17 600 iv Fv := Pp17.on hQ h3 (by decide)
      have hL := Tf17.lin hF
      have ek4 : Int32.toInt (iv 4 1) = Int32.toInt (i 4 1) := congrArg Int32.toInt (congrFun (h3.1 4 (by decide)).1 1)
      refine lv_iload (pc := 29) C0.1 C0.2.1 dX5_drawAnew_29 (lv_at hl 0 rfl) ?_
      refine lv_aload (pc := 31) C0.1 C0.2.1 dX5_drawAnew_31 (lv_at hl 2 rfl) ?_
      refine xget (pc := 33) C0 hH 28 8 clX2 ⟨Nat.le_of_ble_eq_true rfl, Nat.le_of_ble_eq_true rfl⟩ ⟨rfl, rfl⟩ (Nat.le_of_ble_eq_true rfl) fl_X5_39 (v := .int (iv 28 8)) rfl dX5_drawAnew_33 ?_
      refine lv_icmp_ge (pc := 36) (tgt := 168) C0.1 C0.2.1 dX5_drawAnew_36 (by decide) (fun c201 => ?_) (fun c201 => ?_)
      · have c201 := Int32.le_iff_toInt_le.mp c201
        refine lv_aload_n (pc := 168) C0.1 C0.2.1 dX5_drawAnew_168 rfl (lv_at hl 6 rfl) ?_
        refine xget (pc := 169) C0 hH 73 1 clX3 ⟨Nat.le_of_ble_eq_true rfl, Nat.le_of_ble_eq_true rfl⟩ ⟨rfl, rfl⟩ (Nat.le_of_ble_eq_true rfl) fl_X5_127 (v := .int (iv 73 1)) rfl dX5_drawAnew_169 ?_
        refine lv_if_le (pc := 172) (tgt := 181) C0.1 C0.2.1 dX5_drawAnew_172 (by decide) (fun c202 => ?_) (fun c202 => ?_)
        · have : Int32.toInt 0 = 0 := rfl
          have c202 := Int32.le_iff_toInt_le.mp c202
          refine lv_iload (pc := 181) C0.1 C0.2.1 dX5_drawAnew_181 (lv_at hl 1 rfl) ?_
          exact xzret (pc := 183) C0 hr hH hS dX5_drawAnew_183 h5 ⟨h3, (show (0 ≤ Int32.toInt (iv 73 1) ∧ Int32.toInt (iv 73 1) ≤ 4000) ∧ (0 ≤ Int32.toInt (iv 75 1) ∧ Int32.toInt (iv 75 1) ≤ 4000) from by omega)⟩
        · have : Int32.toInt 0 = 0 := rfl
          have c202 : ¬ _ := fun q => c202 (Int32.le_iff_toInt_le.mpr q)
          refine lv_aload_n (pc := 175) C0.1 C0.2.1 dX5_drawAnew_175 rfl (lv_at hl 6 rfl) ?_
          refine lv_bipush (pc := 176) (v := 10) C0.1 C0.2.1 dX5_drawAnew_176 (by decide) ?_
          refine xcVV (pc := 178) 73 [.int 10] (g_X3_put_73 l D tA b iv Fv Gv 10 (show 0 ≤ Int32.toInt (iv 73 1) ∧ Int32.toInt (iv 73 1) ≤ 4000 from by omega)) C0 hH hS clX3 rfl ⟨⟨Nat.le_of_ble_eq_true rfl, Nat.le_of_ble_eq_true rfl⟩, rfl, rfl⟩ cw_X5_69 rfl ⟨Nat.le_of_ble_eq_true rfl, Nat.le_of_ble_eq_true rfl⟩ hl.1 rfl (Nat.le_of_ble_eq_true rfl) dX5_drawAnew_178 ⟨Nat.le_of_ble_eq_true rfl, Nat.le_of_ble_eq_true rfl⟩ (fun ir203 Fr203 Gr203 _ locs hp hH hS => ?_)
          obtain ⟨honr203, hs1r203, hs2r203⟩ := hp
          dsimp only at hs1r203 hs2r203
          have hF : Tf17 ir203 Fr203 := Tf17.on (i := iv) (F := Fv) hF honr203 (by decide)
          have hQ : Pp17 600 ir203 Fr203 := Pp17.on (i := iv) (F := Fv) hQ honr203 (by decide)
          have ek_75_1r203 : Int32.toInt (ir203 75 1) = Int32.toInt (iv 75 1) := congrArg Int32.toInt (congrFun (honr203.1 75 (by decide)).1 1)
          have ek_4_1r203 : Int32.toInt (ir203 4 1) = Int32.toInt (iv 4 1) := congrArg Int32.toInt (congrFun (honr203.1 4 (by decide)).1 1)
          refine lv_iload (pc := 181) C0.1 C0.2.1 dX5_drawAnew_181 (lv_at hl 1 rfl) ?_
          exact xzret (pc := 183) C0 hr hH hS dX5_drawAnew_183 h5 ⟨(On.tr h3 honr203 (by decide) (by decide)), (show (0 ≤ Int32.toInt (ir203 73 1) ∧ Int32.toInt (ir203 73 1) ≤ 4000) ∧ (0 ≤ Int32.toInt (ir203 75 1) ∧ Int32.toInt (ir203 75 1) ≤ 4000) from by omega)⟩
      · have c201 : ¬ _ := fun q => c201 (Int32.le_iff_toInt_le.mpr q)
        refine lv_aload (pc := 39) C0.1 C0.2.1 dX5_drawAnew_39 (lv_at hl 2 rfl) ?_
        refine xget (pc := 41) C0 hH 28 7 clX2 ⟨Nat.le_of_ble_eq_true rfl, Nat.le_of_ble_eq_true rfl⟩ ⟨rfl, rfl⟩ (Nat.le_of_ble_eq_true rfl) fl_X5_47 (v := .ref (b + 35)) rfl dX5_drawAnew_41 ?_
        refine lv_iload (pc := 44) C0.1 C0.2.1 dX5_drawAnew_44 (lv_at hl 0 rfl) ?_
        refine xiald (pc := 46) (N := 1201) C0 hH 35 ⟨Nat.le_of_ble_eq_true rfl, Nat.le_of_ble_eq_true rfl⟩ ⟨rfl, rfl⟩ (vI (by omega) (by omega)) dX5_drawAnew_46 ?_
        refine lv_topi (fun x204 ex204 => ?_)
        refine lv_istore (pc := 47) (lv' := [(8, .int x204), (7, .int k), (6, .int cl), (5, .ref (b + 28)), (0, .ref (b + 70)), (1, .ref (b + 8)), (2, .ref (b + 4)), (3, .ref (b + 73)), (4, .int w)]) C0.1 C0.2.1 dX5_drawAnew_47 hl (by decide) rfl (fun ls hl => ?_)
        have hv8 : -2147483648 ≤ Int32.toInt x204 ∧ Int32.toInt x204 < 600 := by rw [ex204]; exact hF.pv _
        have hcK := clI (x := k) (by omega)
        have hio_ : 0 ≤ Int32.toInt x204 → 0 ≤ (Fv 36 (Int32.toNatClampNeg x204)).toInt ∧ (Fv 36 (Int32.toNatClampNeg x204)).toInt < 1200 := by rw [ex204]; exact (hQ (Int32.toNatClampNeg k) (by omega)).2
        refine lv_aload_n (pc := 49) C0.1 C0.2.1 dX5_drawAnew_49 rfl (lv_at hl 4 rfl) ?_
        refine lv_aload_n (pc := 50) C0.1 C0.2.1 dX5_drawAnew_50 rfl (lv_at hl 5 rfl) ?_
        refine xget (pc := 51) C0 hH 8 1 clX4 ⟨Nat.le_of_ble_eq_true rfl, Nat.le_of_ble_eq_true rfl⟩ ⟨rfl, rfl⟩ (Nat.le_of_ble_eq_true rfl) fl_X5_18 (v := .ref (b + 17)) rfl dX5_drawAnew_51 ?_
        refine lv_aload (pc := 54) C0.1 C0.2.1 dX5_drawAnew_54 (lv_at hl 3 rfl) ?_
        refine xget (pc := 56) C0 hH 28 0 clX2 ⟨Nat.le_of_ble_eq_true rfl, Nat.le_of_ble_eq_true rfl⟩ ⟨rfl, rfl⟩ (Nat.le_of_ble_eq_true rfl) fl_X5_50 (v := .ref (b + 29)) rfl dX5_drawAnew_56 ?_
        refine lv_aload (pc := 59) C0.1 C0.2.1 dX5_drawAnew_59 (lv_at hl 3 rfl) ?_
        refine xget (pc := 61) C0 hH 28 6 clX2 ⟨Nat.le_of_ble_eq_true rfl, Nat.le_of_ble_eq_true rfl⟩ ⟨rfl, rfl⟩ (Nat.le_of_ble_eq_true rfl) fl_X5_44 (v := .ref (b + 34)) rfl dX5_drawAnew_61 ?_
        refine lv_iload (pc := 64) C0.1 C0.2.1 dX5_drawAnew_64 (lv_at hl 1 rfl) ?_
        refine xiald (pc := 66) (N := 1201) C0 hH 34 ⟨Nat.le_of_ble_eq_true rfl, Nat.le_of_ble_eq_true rfl⟩ ⟨rfl, rfl⟩ (vI (by omega) (by omega)) dX5_drawAnew_66 ?_
        refine xiald (pc := 67) (N := 1200) C0 hH 29 ⟨Nat.le_of_ble_eq_true rfl, Nat.le_of_ble_eq_true rfl⟩ ⟨rfl, rfl⟩ (vI (hF.pi _).1 (hF.pi _).2) dX5_drawAnew_67 ?_
        refine xcVI (pc := 68) 70 [.ref (b + 17), .int (Fv 29 (Int32.toNatClampNeg (Fv 34 (Int32.toNatClampNeg k))))] (g_X5_leaveTo l D tA b iv Fv Gv (Fv 29 (Int32.toNatClampNeg (Fv 34 (Int32.toNatClampNeg k)))) hF hQ (show (0 ≤ Int32.toInt (iv 73 1) ∧ Int32.toInt (iv 73 1) ≤ 4000) ∧ (0 ≤ Int32.toInt (iv 75 1) ∧ Int32.toInt (iv 75 1) ≤ 4000) from by omega) ) C0 hH hS clX5 rfl ⟨⟨Nat.le_of_ble_eq_true rfl, Nat.le_of_ble_eq_true rfl⟩, rfl, rfl⟩ cw_X5_112 rfl ⟨Nat.le_of_ble_eq_true rfl, Nat.le_of_ble_eq_true rfl⟩ hl.1 rfl (Nat.le_of_ble_eq_true rfl) dX5_drawAnew_68 ⟨Nat.le_of_ble_eq_true rfl, Nat.le_of_ble_eq_true rfl⟩ (fun r205 ir205 Fr205 Gr205 _ locs hp hH hS => ?_)
        obtain ⟨honr205, hs1r205, hs2r205⟩ := hp
        dsimp only at hs1r205 hs2r205
        have hF : Tf17 ir205 Fr205 := Tf17.on (i := iv) (F := Fv) hF honr205 (by decide)
        have hQ : Pp17 600 ir205 Fr205 := Pp17.on (i := iv) (F := Fv) hQ honr205 (by decide)
        have ek_4_1r205 : Int32.toInt (ir205 4 1) = Int32.toInt (iv 4 1) := congrArg Int32.toInt (congrFun (honr205.1 4 (by decide)).1 1)
        refine lv_istore (pc := 71) (lv' := [(9, .int r205), (8, .int x204), (7, .int k), (6, .int cl), (5, .ref (b + 28)), (0, .ref (b + 70)), (1, .ref (b + 8)), (2, .ref (b + 4)), (3, .ref (b + 73)), (4, .int w)]) C0.1 C0.2.1 dX5_drawAnew_71 hl (by decide) rfl (fun ls hl => ?_)
        refine lv_iload (pc := 73) C0.1 C0.2.1 dX5_drawAnew_73 (lv_at hl 1 rfl) ?_
        refine lv_if_ge (pc := 75) (tgt := 90) C0.1 C0.2.1 dX5_drawAnew_75 (by decide) (fun c206 => ?_) (fun c206 => ?_)
        · have : Int32.toInt 0 = 0 := rfl
          have c206 := Int32.le_iff_toInt_le.mp c206
          have hio : 0 ≤ (Fr205 36 (Int32.toNatClampNeg x204)).toInt ∧ (Fr205 36 (Int32.toNatClampNeg x204)).toInt < 1200 := by rw [show Fr205 36 = Fv 36 from (honr205.1 36 (by decide)).2]; exact hio_ (by omega)
          refine lv_iload (pc := 90) C0.1 C0.2.1 dX5_drawAnew_90 (lv_at hl 3 rfl) ?_
          refine lv_if_eq (pc := 92) (tgt := 111) C0.1 C0.2.1 dX5_drawAnew_92 (by decide) (fun c207 => ?_) (fun c207 => ?_)
          · have : Int32.toInt 0 = 0 := rfl
            have c207 := congrArg Int32.toInt c207
            refine lv_iconst (pc := 111) (v := 0) C0.1 C0.2.1 dX5_drawAnew_111 (by decide) ?_
            refine lv_istore (pc := 112) (lv' := [(6, .int 0), (9, .int r205), (8, .int x204), (7, .int k), (5, .ref (b + 28)), (0, .ref (b + 70)), (1, .ref (b + 8)), (2, .ref (b + 4)), (3, .ref (b + 73)), (4, .int w)]) C0.1 C0.2.1 dX5_drawAnew_112 hl (by decide) rfl (fun ls hl => ?_)
            have hit := hF.pi (Int32.toNatClampNeg k)
            refine lv_aload_n (pc := 114) C0.1 C0.2.1 dX5_drawAnew_114 rfl (lv_at hl 5 rfl) ?_
            refine lv_aload_n (pc := 115) C0.1 C0.2.1 dX5_drawAnew_115 rfl (lv_at hl 6 rfl) ?_
            refine xget (pc := 116) C0 hH 8 1 clX4 ⟨Nat.le_of_ble_eq_true rfl, Nat.le_of_ble_eq_true rfl⟩ ⟨rfl, rfl⟩ (Nat.le_of_ble_eq_true rfl) fl_X5_18 (v := .ref (b + 17)) rfl dX5_drawAnew_116 ?_
            refine lv_aload (pc := 119) C0.1 C0.2.1 dX5_drawAnew_119 (lv_at hl 4 rfl) ?_
            refine xget (pc := 121) C0 hH 28 6 clX2 ⟨Nat.le_of_ble_eq_true rfl, Nat.le_of_ble_eq_true rfl⟩ ⟨rfl, rfl⟩ (Nat.le_of_ble_eq_true rfl) fl_X5_44 (v := .ref (b + 34)) rfl dX5_drawAnew_121 ?_
            refine lv_iload (pc := 124) C0.1 C0.2.1 dX5_drawAnew_124 (lv_at hl 3 rfl) ?_
            refine xiald (pc := 126) (N := 1201) C0 hH 34 ⟨Nat.le_of_ble_eq_true rfl, Nat.le_of_ble_eq_true rfl⟩ ⟨rfl, rfl⟩ (vI (by omega) (by omega)) dX5_drawAnew_126 ?_
            refine lv_iload (pc := 127) C0.1 C0.2.1 dX5_drawAnew_127 (lv_at hl 2 rfl) ?_
            refine lv_iload (pc := 129) C0.1 C0.2.1 dX5_drawAnew_129 (lv_at hl 1 rfl) ?_
            refine lv_aload_n (pc := 131) C0.1 C0.2.1 dX5_drawAnew_131 rfl (lv_at hl 8 rfl) ?_
            refine lv_iload (pc := 132) C0.1 C0.2.1 dX5_drawAnew_132 (lv_at hl 9 rfl) ?_
            refine xcVV (pc := 134) 70 [.ref (b + 17), .int (Fr205 34 (Int32.toNatClampNeg k)), .int x204, .int r205, .ref (b + 73), .int w] (g_X5_drawGap_73 l D tA b ir205 Fr205 Gr205 (Fr205 34 (Int32.toNatClampNeg k)) x204 r205 w hF hQ (show (0 ≤ Int32.toInt (ir205 73 1) ∧ Int32.toInt (ir205 73 1) ≤ 4000) ∧ (0 ≤ Int32.toInt (ir205 75 1) ∧ Int32.toInt (ir205 75 1) ≤ 4000) from by omega) (by omega)) C0 hH hS clX5 rfl ⟨⟨Nat.le_of_ble_eq_true rfl, Nat.le_of_ble_eq_true rfl⟩, rfl, rfl⟩ cw_X5_123 rfl ⟨Nat.le_of_ble_eq_true rfl, Nat.le_of_ble_eq_true rfl⟩ hl.1 rfl (Nat.le_of_ble_eq_true rfl) dX5_drawAnew_134 ⟨Nat.le_of_ble_eq_true rfl, Nat.le_of_ble_eq_true rfl⟩ (fun ir208 Fr208 Gr208 _ locs hp hH hS => ?_)
            obtain ⟨honr208, hs1r208, hs2r208⟩ := hp
            dsimp only at hs1r208 hs2r208
            have hF : Tf17 ir208 Fr208 := Tf17.on (i := ir205) (F := Fr205) hF honr208 (by decide)
            have hQ : Pp17 600 ir208 Fr208 := Pp17.on (i := ir205) (F := Fr205) hQ honr208 (by decide)
            have ek_4_1r208 : Int32.toInt (ir208 4 1) = Int32.toInt (ir205 4 1) := congrArg Int32.toInt (congrFun (honr208.1 4 (by decide)).1 1)
            refine lv_aload_n (pc := 137) C0.1 C0.2.1 dX5_drawAnew_137 rfl (lv_at hl 8 rfl) ?_
            refine lv_aload_n (pc := 138) C0.1 C0.2.1 dX5_drawAnew_138 rfl (lv_at hl 7 rfl) ?_
            refine lv_aload_n (pc := 139) C0.1 C0.2.1 dX5_drawAnew_139 rfl (lv_at hl 6 rfl) ?_
            refine xget (pc := 140) C0 hH 8 0 clX4 ⟨Nat.le_of_ble_eq_true rfl, Nat.le_of_ble_eq_true rfl⟩ ⟨rfl, rfl⟩ (Nat.le_of_ble_eq_true rfl) fl_X5_73 (v := .ref (b + 9)) rfl dX5_drawAnew_140 ?_
            refine xget (pc := 143) C0 hH 9 1 clX7 ⟨Nat.le_of_ble_eq_true rfl, Nat.le_of_ble_eq_true rfl⟩ ⟨rfl, rfl⟩ (Nat.le_of_ble_eq_true rfl) fl_X5_77 (v := .ref (b + 11)) rfl dX5_drawAnew_143 ?_
            refine lv_iload (pc := 146) C0.1 C0.2.1 dX5_drawAnew_146 (lv_at hl 2 rfl) ?_
            refine xiald (pc := 148) (N := 600) C0 hH 11 ⟨Nat.le_of_ble_eq_true rfl, Nat.le_of_ble_eq_true rfl⟩ ⟨rfl, rfl⟩ (vI (by omega) (by omega)) dX5_drawAnew_148 ?_
            refine lv_aload_n (pc := 149) C0.1 C0.2.1 dX5_drawAnew_149 rfl (lv_at hl 6 rfl) ?_
            refine xget (pc := 150) C0 hH 8 0 clX4 ⟨Nat.le_of_ble_eq_true rfl, Nat.le_of_ble_eq_true rfl⟩ ⟨rfl, rfl⟩ (Nat.le_of_ble_eq_true rfl) fl_X5_73 (v := .ref (b + 9)) rfl dX5_drawAnew_150 ?_
            refine xget (pc := 153) C0 hH 9 2 clX7 ⟨Nat.le_of_ble_eq_true rfl, Nat.le_of_ble_eq_true rfl⟩ ⟨rfl, rfl⟩ (Nat.le_of_ble_eq_true rfl) fl_X5_82 (v := .ref (b + 12)) rfl dX5_drawAnew_153 ?_
            refine lv_iload (pc := 156) C0.1 C0.2.1 dX5_drawAnew_156 (lv_at hl 2 rfl) ?_
            refine xiald (pc := 158) (N := 600) C0 hH 12 ⟨Nat.le_of_ble_eq_true rfl, Nat.le_of_ble_eq_true rfl⟩ ⟨rfl, rfl⟩ (vI (by omega) (by omega)) dX5_drawAnew_158 ?_
            refine xcVV (pc := 159) 73 [.ref (b + 4), .int (Fr208 11 (Int32.toNatClampNeg x204)), .int (Fr208 12 (Int32.toNatClampNeg x204))] (g_X3_putToken_73 l D tA b ir208 Fr208 Gr208 (Fr208 11 (Int32.toNatClampNeg x204)) (Fr208 12 (Int32.toNatClampNeg x204)) (show 0 ≤ Int32.toInt (ir208 73 1) ∧ Int32.toInt (ir208 73 1) ≤ 4000 from by omega) (show 0 ≤ Int32.toInt (ir208 4 1) ∧ Int32.toInt (ir208 4 1) ≤ 600 from by omega)) C0 hH hS clX3 rfl ⟨⟨Nat.le_of_ble_eq_true rfl, Nat.le_of_ble_eq_true rfl⟩, rfl, rfl⟩ cw_X5_85 rfl ⟨Nat.le_of_ble_eq_true rfl, Nat.le_of_ble_eq_true rfl⟩ hl.1 rfl (Nat.le_of_ble_eq_true rfl) dX5_drawAnew_159 ⟨Nat.le_of_ble_eq_true rfl, Nat.le_of_ble_eq_true rfl⟩ (fun ir209 Fr209 Gr209 _ locs hp hH hS => ?_)
            obtain ⟨honr209, hs1r209, hs2r209⟩ := hp
            dsimp only at hs1r209 hs2r209
            have hF : Tf17 ir209 Fr209 := Tf17.on (i := ir208) (F := Fr208) hF honr209 (by decide)
            have hQ : Pp17 600 ir209 Fr209 := Pp17.on (i := ir208) (F := Fr208) hQ honr209 (by decide)
            have ek_75_1r209 : Int32.toInt (ir209 75 1) = Int32.toInt (ir208 75 1) := congrArg Int32.toInt (congrFun (honr209.1 75 (by decide)).1 1)
            have ek_4_1r209 : Int32.toInt (ir209 4 1) = Int32.toInt (ir208 4 1) := congrArg Int32.toInt (congrFun (honr209.1 4 (by decide)).1 1)
            obtain ⟨x210, ex210⟩ : ∃ y_ : Int32, y_ = k + 1 := ⟨_, rfl⟩
            have : Int32.toInt 1 = 1 := rfl
            have hx210 : Int32.toInt x210 = Int32.toInt k + Int32.toInt 1 := by rw [ex210]; exact fb_addI (by omega) (by omega)
            refine lv_iinc (pc := 162) (v := x210) (lv' := [(7, .int x210), (6, .int 0), (9, .int r205), (8, .int x204), (5, .ref (b + 28)), (0, .ref (b + 70)), (1, .ref (b + 8)), (2, .ref (b + 4)), (3, .ref (b + 73)), (4, .int w)]) C0.1 C0.2.1 dX5_drawAnew_162 hl (k := 3) rfl (by rw [ex210]; rfl) (by decide) rfl (fun ls hl => ?_)
            refine lv_goto (pc := 165) (tgt := 29) C0.1 C0.2.1 dX5_drawAnew_165 (by decide) ?_
            exact ih29 x210 0 ir209 Fr209 Gr209 _ _ _ (by omega) (by omega) (On.tr (On.tr (On.tr h3 honr205 (by decide) (by decide)) honr208 (by decide) (by decide)) honr209 (by decide) (by decide)) (show (0 ≤ Int32.toInt (ir209 73 1) ∧ Int32.toInt (ir209 73 1) ≤ 4000) ∧ (0 ≤ Int32.toInt (ir209 75 1) ∧ Int32.toInt (ir209 75 1) ≤ 4000) from by omega) (by decide) hH hS (lv_sub hl [0, 1, 4, 5, 6, 7, 8, 9] rfl)
          · have : Int32.toInt 0 = 0 := rfl
            have c207 : ¬ _ := fun q => c207 (Int32.toInt_inj.mp q)
            refine lv_aload_n (pc := 95) C0.1 C0.2.1 dX5_drawAnew_95 rfl (lv_at hl 5 rfl) ?_
            refine lv_aload_n (pc := 96) C0.1 C0.2.1 dX5_drawAnew_96 rfl (lv_at hl 6 rfl) ?_
            refine lv_iload (pc := 97) C0.1 C0.2.1 dX5_drawAnew_97 (lv_at hl 0 rfl) ?_
            refine lv_iload (pc := 99) C0.1 C0.2.1 dX5_drawAnew_99 (lv_at hl 1 rfl) ?_
            refine xcVI (pc := 101) 70 [.ref (b + 8), .int r205, .int x204] (g_X5_followsEmpty l D tA b ir205 Fr205 Gr205 r205 x204 hF hQ (show (0 ≤ Int32.toInt (ir205 73 1) ∧ Int32.toInt (ir205 73 1) ≤ 4000) ∧ (0 ≤ Int32.toInt (ir205 75 1) ∧ Int32.toInt (ir205 75 1) ≤ 4000) from by omega) (by omega) hio) C0 hH hS clX5 rfl ⟨⟨Nat.le_of_ble_eq_true rfl, Nat.le_of_ble_eq_true rfl⟩, rfl, rfl⟩ cw_X5_119 rfl ⟨Nat.le_of_ble_eq_true rfl, Nat.le_of_ble_eq_true rfl⟩ hl.1 rfl (Nat.le_of_ble_eq_true rfl) dX5_drawAnew_101 ⟨Nat.le_of_ble_eq_true rfl, Nat.le_of_ble_eq_true rfl⟩ (fun r211 ir211 Fr211 Gr211 _ locs hp hH hS => ?_)
            obtain ⟨hu, hpr211⟩ := hp
            cases hu
            refine lv_if_ne (pc := 104) (tgt := 111) C0.1 C0.2.1 dX5_drawAnew_104 (by decide) (fun c212 => ?_) (fun c212 => ?_)
            · have : Int32.toInt 0 = 0 := rfl
              have c212 : ¬ _ := fun q => c212 (Int32.toInt_inj.mp q)
              refine lv_iconst (pc := 111) (v := 0) C0.1 C0.2.1 dX5_drawAnew_111 (by decide) ?_
              refine lv_istore (pc := 112) (lv' := [(6, .int 0), (9, .int r205), (8, .int x204), (7, .int k), (5, .ref (b + 28)), (0, .ref (b + 70)), (1, .ref (b + 8)), (2, .ref (b + 4)), (3, .ref (b + 73)), (4, .int w)]) C0.1 C0.2.1 dX5_drawAnew_112 hl (by decide) rfl (fun ls hl => ?_)
              have hit := hF.pi (Int32.toNatClampNeg k)
              refine lv_aload_n (pc := 114) C0.1 C0.2.1 dX5_drawAnew_114 rfl (lv_at hl 5 rfl) ?_
              refine lv_aload_n (pc := 115) C0.1 C0.2.1 dX5_drawAnew_115 rfl (lv_at hl 6 rfl) ?_
              refine xget (pc := 116) C0 hH 8 1 clX4 ⟨Nat.le_of_ble_eq_true rfl, Nat.le_of_ble_eq_true rfl⟩ ⟨rfl, rfl⟩ (Nat.le_of_ble_eq_true rfl) fl_X5_18 (v := .ref (b + 17)) rfl dX5_drawAnew_116 ?_
              refine lv_aload (pc := 119) C0.1 C0.2.1 dX5_drawAnew_119 (lv_at hl 4 rfl) ?_
              refine xget (pc := 121) C0 hH 28 6 clX2 ⟨Nat.le_of_ble_eq_true rfl, Nat.le_of_ble_eq_true rfl⟩ ⟨rfl, rfl⟩ (Nat.le_of_ble_eq_true rfl) fl_X5_44 (v := .ref (b + 34)) rfl dX5_drawAnew_121 ?_
              refine lv_iload (pc := 124) C0.1 C0.2.1 dX5_drawAnew_124 (lv_at hl 3 rfl) ?_
              refine xiald (pc := 126) (N := 1201) C0 hH 34 ⟨Nat.le_of_ble_eq_true rfl, Nat.le_of_ble_eq_true rfl⟩ ⟨rfl, rfl⟩ (vI (by omega) (by omega)) dX5_drawAnew_126 ?_
              refine lv_iload (pc := 127) C0.1 C0.2.1 dX5_drawAnew_127 (lv_at hl 2 rfl) ?_
              refine lv_iload (pc := 129) C0.1 C0.2.1 dX5_drawAnew_129 (lv_at hl 1 rfl) ?_
              refine lv_aload_n (pc := 131) C0.1 C0.2.1 dX5_drawAnew_131 rfl (lv_at hl 8 rfl) ?_
              refine lv_iload (pc := 132) C0.1 C0.2.1 dX5_drawAnew_132 (lv_at hl 9 rfl) ?_
              refine xcVV (pc := 134) 70 [.ref (b + 17), .int (Fr205 34 (Int32.toNatClampNeg k)), .int x204, .int r205, .ref (b + 73), .int w] (g_X5_drawGap_73 l D tA b ir205 Fr205 Gr205 (Fr205 34 (Int32.toNatClampNeg k)) x204 r205 w hF hQ (show (0 ≤ Int32.toInt (ir205 73 1) ∧ Int32.toInt (ir205 73 1) ≤ 4000) ∧ (0 ≤ Int32.toInt (ir205 75 1) ∧ Int32.toInt (ir205 75 1) ≤ 4000) from by omega) (by omega)) C0 hH hS clX5 rfl ⟨⟨Nat.le_of_ble_eq_true rfl, Nat.le_of_ble_eq_true rfl⟩, rfl, rfl⟩ cw_X5_123 rfl ⟨Nat.le_of_ble_eq_true rfl, Nat.le_of_ble_eq_true rfl⟩ hl.1 rfl (Nat.le_of_ble_eq_true rfl) dX5_drawAnew_134 ⟨Nat.le_of_ble_eq_true rfl, Nat.le_of_ble_eq_true rfl⟩ (fun ir213 Fr213 Gr213 _ locs hp hH hS => ?_)
              obtain ⟨honr213, hs1r213, hs2r213⟩ := hp
              dsimp only at hs1r213 hs2r213
              have hF : Tf17 ir213 Fr213 := Tf17.on (i := ir205) (F := Fr205) hF honr213 (by decide)
              have hQ : Pp17 600 ir213 Fr213 := Pp17.on (i := ir205) (F := Fr205) hQ honr213 (by decide)
              have ek_4_1r213 : Int32.toInt (ir213 4 1) = Int32.toInt (ir205 4 1) := congrArg Int32.toInt (congrFun (honr213.1 4 (by decide)).1 1)
              refine lv_aload_n (pc := 137) C0.1 C0.2.1 dX5_drawAnew_137 rfl (lv_at hl 8 rfl) ?_
              refine lv_aload_n (pc := 138) C0.1 C0.2.1 dX5_drawAnew_138 rfl (lv_at hl 7 rfl) ?_
              refine lv_aload_n (pc := 139) C0.1 C0.2.1 dX5_drawAnew_139 rfl (lv_at hl 6 rfl) ?_
              refine xget (pc := 140) C0 hH 8 0 clX4 ⟨Nat.le_of_ble_eq_true rfl, Nat.le_of_ble_eq_true rfl⟩ ⟨rfl, rfl⟩ (Nat.le_of_ble_eq_true rfl) fl_X5_73 (v := .ref (b + 9)) rfl dX5_drawAnew_140 ?_
              refine xget (pc := 143) C0 hH 9 1 clX7 ⟨Nat.le_of_ble_eq_true rfl, Nat.le_of_ble_eq_true rfl⟩ ⟨rfl, rfl⟩ (Nat.le_of_ble_eq_true rfl) fl_X5_77 (v := .ref (b + 11)) rfl dX5_drawAnew_143 ?_
              refine lv_iload (pc := 146) C0.1 C0.2.1 dX5_drawAnew_146 (lv_at hl 2 rfl) ?_
              refine xiald (pc := 148) (N := 600) C0 hH 11 ⟨Nat.le_of_ble_eq_true rfl, Nat.le_of_ble_eq_true rfl⟩ ⟨rfl, rfl⟩ (vI (by omega) (by omega)) dX5_drawAnew_148 ?_
              refine lv_aload_n (pc := 149) C0.1 C0.2.1 dX5_drawAnew_149 rfl (lv_at hl 6 rfl) ?_
              refine xget (pc := 150) C0 hH 8 0 clX4 ⟨Nat.le_of_ble_eq_true rfl, Nat.le_of_ble_eq_true rfl⟩ ⟨rfl, rfl⟩ (Nat.le_of_ble_eq_true rfl) fl_X5_73 (v := .ref (b + 9)) rfl dX5_drawAnew_150 ?_
              refine xget (pc := 153) C0 hH 9 2 clX7 ⟨Nat.le_of_ble_eq_true rfl, Nat.le_of_ble_eq_true rfl⟩ ⟨rfl, rfl⟩ (Nat.le_of_ble_eq_true rfl) fl_X5_82 (v := .ref (b + 12)) rfl dX5_drawAnew_153 ?_
              refine lv_iload (pc := 156) C0.1 C0.2.1 dX5_drawAnew_156 (lv_at hl 2 rfl) ?_
              refine xiald (pc := 158) (N := 600) C0 hH 12 ⟨Nat.le_of_ble_eq_true rfl, Nat.le_of_ble_eq_true rfl⟩ ⟨rfl, rfl⟩ (vI (by omega) (by omega)) dX5_drawAnew_158 ?_
              refine xcVV (pc := 159) 73 [.ref (b + 4), .int (Fr213 11 (Int32.toNatClampNeg x204)), .int (Fr213 12 (Int32.toNatClampNeg x204))] (g_X3_putToken_73 l D tA b ir213 Fr213 Gr213 (Fr213 11 (Int32.toNatClampNeg x204)) (Fr213 12 (Int32.toNatClampNeg x204)) (show 0 ≤ Int32.toInt (ir213 73 1) ∧ Int32.toInt (ir213 73 1) ≤ 4000 from by omega) (show 0 ≤ Int32.toInt (ir213 4 1) ∧ Int32.toInt (ir213 4 1) ≤ 600 from by omega)) C0 hH hS clX3 rfl ⟨⟨Nat.le_of_ble_eq_true rfl, Nat.le_of_ble_eq_true rfl⟩, rfl, rfl⟩ cw_X5_85 rfl ⟨Nat.le_of_ble_eq_true rfl, Nat.le_of_ble_eq_true rfl⟩ hl.1 rfl (Nat.le_of_ble_eq_true rfl) dX5_drawAnew_159 ⟨Nat.le_of_ble_eq_true rfl, Nat.le_of_ble_eq_true rfl⟩ (fun ir214 Fr214 Gr214 _ locs hp hH hS => ?_)
              obtain ⟨honr214, hs1r214, hs2r214⟩ := hp
              dsimp only at hs1r214 hs2r214
              have hF : Tf17 ir214 Fr214 := Tf17.on (i := ir213) (F := Fr213) hF honr214 (by decide)
              have hQ : Pp17 600 ir214 Fr214 := Pp17.on (i := ir213) (F := Fr213) hQ honr214 (by decide)
              have ek_75_1r214 : Int32.toInt (ir214 75 1) = Int32.toInt (ir213 75 1) := congrArg Int32.toInt (congrFun (honr214.1 75 (by decide)).1 1)
              have ek_4_1r214 : Int32.toInt (ir214 4 1) = Int32.toInt (ir213 4 1) := congrArg Int32.toInt (congrFun (honr214.1 4 (by decide)).1 1)
              obtain ⟨x215, ex215⟩ : ∃ y_ : Int32, y_ = k + 1 := ⟨_, rfl⟩
              have : Int32.toInt 1 = 1 := rfl
              have hx215 : Int32.toInt x215 = Int32.toInt k + Int32.toInt 1 := by rw [ex215]; exact fb_addI (by omega) (by omega)
              refine lv_iinc (pc := 162) (v := x215) (lv' := [(7, .int x215), (6, .int 0), (9, .int r205), (8, .int x204), (5, .ref (b + 28)), (0, .ref (b + 70)), (1, .ref (b + 8)), (2, .ref (b + 4)), (3, .ref (b + 73)), (4, .int w)]) C0.1 C0.2.1 dX5_drawAnew_162 hl (k := 3) rfl (by rw [ex215]; rfl) (by decide) rfl (fun ls hl => ?_)
              refine lv_goto (pc := 165) (tgt := 29) C0.1 C0.2.1 dX5_drawAnew_165 (by decide) ?_
              exact ih29 x215 0 ir214 Fr214 Gr214 _ _ _ (by omega) (by omega) (On.tr (On.tr (On.tr h3 honr205 (by decide) (by decide)) honr213 (by decide) (by decide)) honr214 (by decide) (by decide)) (show (0 ≤ Int32.toInt (ir214 73 1) ∧ Int32.toInt (ir214 73 1) ≤ 4000) ∧ (0 ≤ Int32.toInt (ir214 75 1) ∧ Int32.toInt (ir214 75 1) ≤ 4000) from by omega) (by decide) hH hS (lv_sub hl [0, 1, 4, 5, 6, 7, 8, 9] rfl)
            · have : Int32.toInt 0 = 0 := rfl
              have c212 := congrArg Int32.toInt c212
              refine lv_iconst (pc := 107) (v := 1) C0.1 C0.2.1 dX5_drawAnew_107 (by decide) ?_
              refine lv_goto (pc := 108) (tgt := 112) C0.1 C0.2.1 dX5_drawAnew_108 (by decide) ?_
              refine lv_istore (pc := 112) (lv' := [(6, .int 1), (9, .int r205), (8, .int x204), (7, .int k), (5, .ref (b + 28)), (0, .ref (b + 70)), (1, .ref (b + 8)), (2, .ref (b + 4)), (3, .ref (b + 73)), (4, .int w)]) C0.1 C0.2.1 dX5_drawAnew_112 hl (by decide) rfl (fun ls hl => ?_)
              have hit := hF.pi (Int32.toNatClampNeg k)
              refine lv_aload_n (pc := 114) C0.1 C0.2.1 dX5_drawAnew_114 rfl (lv_at hl 5 rfl) ?_
              refine lv_aload_n (pc := 115) C0.1 C0.2.1 dX5_drawAnew_115 rfl (lv_at hl 6 rfl) ?_
              refine xget (pc := 116) C0 hH 8 1 clX4 ⟨Nat.le_of_ble_eq_true rfl, Nat.le_of_ble_eq_true rfl⟩ ⟨rfl, rfl⟩ (Nat.le_of_ble_eq_true rfl) fl_X5_18 (v := .ref (b + 17)) rfl dX5_drawAnew_116 ?_
              refine lv_aload (pc := 119) C0.1 C0.2.1 dX5_drawAnew_119 (lv_at hl 4 rfl) ?_
              refine xget (pc := 121) C0 hH 28 6 clX2 ⟨Nat.le_of_ble_eq_true rfl, Nat.le_of_ble_eq_true rfl⟩ ⟨rfl, rfl⟩ (Nat.le_of_ble_eq_true rfl) fl_X5_44 (v := .ref (b + 34)) rfl dX5_drawAnew_121 ?_
              refine lv_iload (pc := 124) C0.1 C0.2.1 dX5_drawAnew_124 (lv_at hl 3 rfl) ?_
              refine xiald (pc := 126) (N := 1201) C0 hH 34 ⟨Nat.le_of_ble_eq_true rfl, Nat.le_of_ble_eq_true rfl⟩ ⟨rfl, rfl⟩ (vI (by omega) (by omega)) dX5_drawAnew_126 ?_
              refine lv_iload (pc := 127) C0.1 C0.2.1 dX5_drawAnew_127 (lv_at hl 2 rfl) ?_
              refine lv_iload (pc := 129) C0.1 C0.2.1 dX5_drawAnew_129 (lv_at hl 1 rfl) ?_
              refine lv_aload_n (pc := 131) C0.1 C0.2.1 dX5_drawAnew_131 rfl (lv_at hl 8 rfl) ?_
              refine lv_iload (pc := 132) C0.1 C0.2.1 dX5_drawAnew_132 (lv_at hl 9 rfl) ?_
              refine xcVV (pc := 134) 70 [.ref (b + 17), .int (Fr205 34 (Int32.toNatClampNeg k)), .int x204, .int r205, .ref (b + 73), .int w] (g_X5_drawGap_73 l D tA b ir205 Fr205 Gr205 (Fr205 34 (Int32.toNatClampNeg k)) x204 r205 w hF hQ (show (0 ≤ Int32.toInt (ir205 73 1) ∧ Int32.toInt (ir205 73 1) ≤ 4000) ∧ (0 ≤ Int32.toInt (ir205 75 1) ∧ Int32.toInt (ir205 75 1) ≤ 4000) from by omega) (by omega)) C0 hH hS clX5 rfl ⟨⟨Nat.le_of_ble_eq_true rfl, Nat.le_of_ble_eq_true rfl⟩, rfl, rfl⟩ cw_X5_123 rfl ⟨Nat.le_of_ble_eq_true rfl, Nat.le_of_ble_eq_true rfl⟩ hl.1 rfl (Nat.le_of_ble_eq_true rfl) dX5_drawAnew_134 ⟨Nat.le_of_ble_eq_true rfl, Nat.le_of_ble_eq_true rfl⟩ (fun ir216 Fr216 Gr216 _ locs hp hH hS => ?_)
              obtain ⟨honr216, hs1r216, hs2r216⟩ := hp
              dsimp only at hs1r216 hs2r216
              have hF : Tf17 ir216 Fr216 := Tf17.on (i := ir205) (F := Fr205) hF honr216 (by decide)
              have hQ : Pp17 600 ir216 Fr216 := Pp17.on (i := ir205) (F := Fr205) hQ honr216 (by decide)
              have ek_4_1r216 : Int32.toInt (ir216 4 1) = Int32.toInt (ir205 4 1) := congrArg Int32.toInt (congrFun (honr216.1 4 (by decide)).1 1)
              refine lv_aload_n (pc := 137) C0.1 C0.2.1 dX5_drawAnew_137 rfl (lv_at hl 8 rfl) ?_
              refine lv_aload_n (pc := 138) C0.1 C0.2.1 dX5_drawAnew_138 rfl (lv_at hl 7 rfl) ?_
              refine lv_aload_n (pc := 139) C0.1 C0.2.1 dX5_drawAnew_139 rfl (lv_at hl 6 rfl) ?_
              refine xget (pc := 140) C0 hH 8 0 clX4 ⟨Nat.le_of_ble_eq_true rfl, Nat.le_of_ble_eq_true rfl⟩ ⟨rfl, rfl⟩ (Nat.le_of_ble_eq_true rfl) fl_X5_73 (v := .ref (b + 9)) rfl dX5_drawAnew_140 ?_
              refine xget (pc := 143) C0 hH 9 1 clX7 ⟨Nat.le_of_ble_eq_true rfl, Nat.le_of_ble_eq_true rfl⟩ ⟨rfl, rfl⟩ (Nat.le_of_ble_eq_true rfl) fl_X5_77 (v := .ref (b + 11)) rfl dX5_drawAnew_143 ?_
              refine lv_iload (pc := 146) C0.1 C0.2.1 dX5_drawAnew_146 (lv_at hl 2 rfl) ?_
              refine xiald (pc := 148) (N := 600) C0 hH 11 ⟨Nat.le_of_ble_eq_true rfl, Nat.le_of_ble_eq_true rfl⟩ ⟨rfl, rfl⟩ (vI (by omega) (by omega)) dX5_drawAnew_148 ?_
              refine lv_aload_n (pc := 149) C0.1 C0.2.1 dX5_drawAnew_149 rfl (lv_at hl 6 rfl) ?_
              refine xget (pc := 150) C0 hH 8 0 clX4 ⟨Nat.le_of_ble_eq_true rfl, Nat.le_of_ble_eq_true rfl⟩ ⟨rfl, rfl⟩ (Nat.le_of_ble_eq_true rfl) fl_X5_73 (v := .ref (b + 9)) rfl dX5_drawAnew_150 ?_
              refine xget (pc := 153) C0 hH 9 2 clX7 ⟨Nat.le_of_ble_eq_true rfl, Nat.le_of_ble_eq_true rfl⟩ ⟨rfl, rfl⟩ (Nat.le_of_ble_eq_true rfl) fl_X5_82 (v := .ref (b + 12)) rfl dX5_drawAnew_153 ?_
              refine lv_iload (pc := 156) C0.1 C0.2.1 dX5_drawAnew_156 (lv_at hl 2 rfl) ?_
              refine xiald (pc := 158) (N := 600) C0 hH 12 ⟨Nat.le_of_ble_eq_true rfl, Nat.le_of_ble_eq_true rfl⟩ ⟨rfl, rfl⟩ (vI (by omega) (by omega)) dX5_drawAnew_158 ?_
              refine xcVV (pc := 159) 73 [.ref (b + 4), .int (Fr216 11 (Int32.toNatClampNeg x204)), .int (Fr216 12 (Int32.toNatClampNeg x204))] (g_X3_putToken_73 l D tA b ir216 Fr216 Gr216 (Fr216 11 (Int32.toNatClampNeg x204)) (Fr216 12 (Int32.toNatClampNeg x204)) (show 0 ≤ Int32.toInt (ir216 73 1) ∧ Int32.toInt (ir216 73 1) ≤ 4000 from by omega) (show 0 ≤ Int32.toInt (ir216 4 1) ∧ Int32.toInt (ir216 4 1) ≤ 600 from by omega)) C0 hH hS clX3 rfl ⟨⟨Nat.le_of_ble_eq_true rfl, Nat.le_of_ble_eq_true rfl⟩, rfl, rfl⟩ cw_X5_85 rfl ⟨Nat.le_of_ble_eq_true rfl, Nat.le_of_ble_eq_true rfl⟩ hl.1 rfl (Nat.le_of_ble_eq_true rfl) dX5_drawAnew_159 ⟨Nat.le_of_ble_eq_true rfl, Nat.le_of_ble_eq_true rfl⟩ (fun ir217 Fr217 Gr217 _ locs hp hH hS => ?_)
              obtain ⟨honr217, hs1r217, hs2r217⟩ := hp
              dsimp only at hs1r217 hs2r217
              have hF : Tf17 ir217 Fr217 := Tf17.on (i := ir216) (F := Fr216) hF honr217 (by decide)
              have hQ : Pp17 600 ir217 Fr217 := Pp17.on (i := ir216) (F := Fr216) hQ honr217 (by decide)
              have ek_75_1r217 : Int32.toInt (ir217 75 1) = Int32.toInt (ir216 75 1) := congrArg Int32.toInt (congrFun (honr217.1 75 (by decide)).1 1)
              have ek_4_1r217 : Int32.toInt (ir217 4 1) = Int32.toInt (ir216 4 1) := congrArg Int32.toInt (congrFun (honr217.1 4 (by decide)).1 1)
              obtain ⟨x218, ex218⟩ : ∃ y_ : Int32, y_ = k + 1 := ⟨_, rfl⟩
              have : Int32.toInt 1 = 1 := rfl
              have hx218 : Int32.toInt x218 = Int32.toInt k + Int32.toInt 1 := by rw [ex218]; exact fb_addI (by omega) (by omega)
              refine lv_iinc (pc := 162) (v := x218) (lv' := [(7, .int x218), (6, .int 1), (9, .int r205), (8, .int x204), (5, .ref (b + 28)), (0, .ref (b + 70)), (1, .ref (b + 8)), (2, .ref (b + 4)), (3, .ref (b + 73)), (4, .int w)]) C0.1 C0.2.1 dX5_drawAnew_162 hl (k := 3) rfl (by rw [ex218]; rfl) (by decide) rfl (fun ls hl => ?_)
              refine lv_goto (pc := 165) (tgt := 29) C0.1 C0.2.1 dX5_drawAnew_165 (by decide) ?_
              exact ih29 x218 1 ir217 Fr217 Gr217 _ _ _ (by omega) (by omega) (On.tr (On.tr (On.tr h3 honr205 (by decide) (by decide)) honr216 (by decide) (by decide)) honr217 (by decide) (by decide)) (show (0 ≤ Int32.toInt (ir217 73 1) ∧ Int32.toInt (ir217 73 1) ≤ 4000) ∧ (0 ≤ Int32.toInt (ir217 75 1) ∧ Int32.toInt (ir217 75 1) ≤ 4000) from by omega) (by decide) hH hS (lv_sub hl [0, 1, 4, 5, 6, 7, 8, 9] rfl)
        · have : Int32.toInt 0 = 0 := rfl
          have c206 : ¬ _ := fun q => c206 (Int32.le_iff_toInt_le.mpr q)
          refine lv_aload_n (pc := 78) C0.1 C0.2.1 dX5_drawAnew_78 rfl (lv_at hl 5 rfl) ?_
          refine lv_bipush (pc := 79) (v := (-100)) C0.1 C0.2.1 dX5_drawAnew_79 (by decide) ?_
          refine lv_iload (pc := 81) C0.1 C0.2.1 dX5_drawAnew_81 (lv_at hl 1 rfl) ?_
          refine lv_isub (pc := 83) C0.1 C0.2.1 dX5_drawAnew_83 ?_
          refine xcVV (pc := 84) 70 [.int ((-100) - x204)] (g_X5_enterBlock l D tA b ir205 Fr205 Gr205 ((-100) - x204) hF hQ (show (0 ≤ Int32.toInt (ir205 73 1) ∧ Int32.toInt (ir205 73 1) ≤ 4000) ∧ (0 ≤ Int32.toInt (ir205 75 1) ∧ Int32.toInt (ir205 75 1) ≤ 4000) from by omega) ) C0 hH hS clX5 rfl ⟨⟨Nat.le_of_ble_eq_true rfl, Nat.le_of_ble_eq_true rfl⟩, rfl, rfl⟩ cw_X5_116 rfl ⟨Nat.le_of_ble_eq_true rfl, Nat.le_of_ble_eq_true rfl⟩ hl.1 rfl (Nat.le_of_ble_eq_true rfl) dX5_drawAnew_84 ⟨Nat.le_of_ble_eq_true rfl, Nat.le_of_ble_eq_true rfl⟩ (fun ir219 Fr219 Gr219 _ locs hp hH hS => ?_)
          obtain ⟨honr219, hs1r219, hs2r219⟩ := hp
          dsimp only at hs1r219 hs2r219
          have hF : Tf17 ir219 Fr219 := Tf17.on (i := ir205) (F := Fr205) hF honr219 (by decide)
          have hQ : Pp17 600 ir219 Fr219 := Pp17.on (i := ir205) (F := Fr205) hQ honr219 (by decide)
          have ek_4_1r219 : Int32.toInt (ir219 4 1) = Int32.toInt (ir205 4 1) := congrArg Int32.toInt (congrFun (honr219.1 4 (by decide)).1 1)
          refine lv_goto (pc := 87) (tgt := 162) C0.1 C0.2.1 dX5_drawAnew_87 (by decide) ?_
          obtain ⟨x220, ex220⟩ : ∃ y_ : Int32, y_ = k + 1 := ⟨_, rfl⟩
          have : Int32.toInt 1 = 1 := rfl
          have hx220 : Int32.toInt x220 = Int32.toInt k + Int32.toInt 1 := by rw [ex220]; exact fb_addI (by omega) (by omega)
          refine lv_iinc (pc := 162) (v := x220) (lv' := [(7, .int x220), (9, .int r205), (8, .int x204), (6, .int cl), (5, .ref (b + 28)), (0, .ref (b + 70)), (1, .ref (b + 8)), (2, .ref (b + 4)), (3, .ref (b + 73)), (4, .int w)]) C0.1 C0.2.1 dX5_drawAnew_162 hl (k := 2) rfl (by rw [ex220]; rfl) (by decide) rfl (fun ls hl => ?_)
          refine lv_goto (pc := 165) (tgt := 29) C0.1 C0.2.1 dX5_drawAnew_165 (by decide) ?_
          exact ih29 x220 cl ir219 Fr219 Gr219 _ _ _ (by omega) (by omega) (On.tr (On.tr h3 honr205 (by decide) (by decide)) honr219 (by decide) (by decide)) (show (0 ≤ Int32.toInt (ir219 73 1) ∧ Int32.toInt (ir219 73 1) ≤ 4000) ∧ (0 ≤ Int32.toInt (ir219 75 1) ∧ Int32.toInt (ir219 75 1) ≤ 4000) from by omega) h5 hH hS (lv_sub hl [0, 3, 4, 5, 6, 7, 8, 9] rfl)
  refine lv_aload_n (pc := 0) C0.1 C0.2.1 dX5_drawAnew_0 rfl (lv_at hl 1 rfl) ?_
  refine xget (pc := 1) C0 hH 8 1 clX4 ⟨Nat.le_of_ble_eq_true rfl, Nat.le_of_ble_eq_true rfl⟩ ⟨rfl, rfl⟩ (Nat.le_of_ble_eq_true rfl) fl_X5_18 (v := .ref (b + 17)) rfl dX5_drawAnew_1 ?_
  refine xget (pc := 4) C0 hH 17 1 clX8 ⟨Nat.le_of_ble_eq_true rfl, Nat.le_of_ble_eq_true rfl⟩ ⟨rfl, rfl⟩ (Nat.le_of_ble_eq_true rfl) fl_X5_24 (v := .ref (b + 28)) rfl dX5_drawAnew_4 ?_
  refine lv_astore (pc := 7) (lv' := [(5, .ref (b + 28)), (0, .ref (b + 70)), (1, .ref (b + 8)), (2, .ref (b + 4)), (3, .ref (b + 73)), (4, .int w)]) C0.1 C0.2.1 dX5_drawAnew_7 hl (by decide) rfl (fun ls hl => ?_)
  refine lv_aload_n (pc := 9) C0.1 C0.2.1 dX5_drawAnew_9 rfl (lv_at hl 4 rfl) ?_
  refine xcVV (pc := 10) 73 [] (g_X3_clear_73 l D tA b i F G  ) C0 hH hS clX3 rfl ⟨⟨Nat.le_of_ble_eq_true rfl, Nat.le_of_ble_eq_true rfl⟩, rfl, rfl⟩ cw_X5_30 rfl ⟨Nat.le_of_ble_eq_true rfl, Nat.le_of_ble_eq_true rfl⟩ hl.1 rfl (Nat.le_of_ble_eq_true rfl) dX5_drawAnew_10 ⟨Nat.le_of_ble_eq_true rfl, Nat.le_of_ble_eq_true rfl⟩ (fun ir1 Fr1 Gr1 _ locs hp hH hS => ?_)
  obtain ⟨honr1, hs1r1, hs2r1⟩ := hp
  dsimp only at hs1r1 hs2r1
  have hF : Tf17 ir1 Fr1 := Tf17.on (i := i) (F := F) hF honr1 (by decide)
  have hQ : Pp17 600 ir1 Fr1 := Pp17.on (i := i) (F := F) hQ honr1 (by decide)
  have ek_75_1r1 : Int32.toInt (ir1 75 1) = Int32.toInt (i 75 1) := congrArg Int32.toInt (congrFun (honr1.1 75 (by decide)).1 1)
  have ek_4_1r1 : Int32.toInt (ir1 4 1) = Int32.toInt (i 4 1) := congrArg Int32.toInt (congrFun (honr1.1 4 (by decide)).1 1)
  refine lv_aload_n (pc := 13) C0.1 C0.2.1 dX5_drawAnew_13 rfl (lv_at hl 1 rfl) ?_
  refine lv_iconst (pc := 14) (v := 0) C0.1 C0.2.1 dX5_drawAnew_14 (by decide) ?_
  refine xputI (pc := 15) C0 (Nat.le_of_ble_eq_true rfl) hH hS 70 3 clX5 ⟨Nat.le_of_ble_eq_true rfl, Nat.le_of_ble_eq_true rfl⟩ ⟨rfl, rfl⟩ ⟨Nat.le_of_ble_eq_true rfl, rfl, rfl⟩ fl_X5_35 (x := 0) ⟨rfl, rfl⟩ dX5_drawAnew_15 (fun _ locs hH hS _ => ?_)
  have hH : Hd D tA b 0 78 zz (up2 ir1 70 3 0) Fr1 Gr1 _ := hH
  refine lv_aload_n (pc := 18) C0.1 C0.2.1 dX5_drawAnew_18 rfl (lv_at hl 1 rfl) ?_
  refine lv_iconst (pc := 19) (v := 0) C0.1 C0.2.1 dX5_drawAnew_19 (by decide) ?_
  refine xputI (pc := 20) C0 (Nat.le_of_ble_eq_true rfl) hH hS 70 2 clX5 ⟨Nat.le_of_ble_eq_true rfl, Nat.le_of_ble_eq_true rfl⟩ ⟨rfl, rfl⟩ ⟨Nat.le_of_ble_eq_true rfl, rfl, rfl⟩ fl_X5_109 (x := 0) ⟨rfl, rfl⟩ dX5_drawAnew_20 (fun _ locs hH hS _ => ?_)
  have hH : Hd D tA b 0 78 zz (up2 (up2 ir1 70 3 0) 70 2 0) Fr1 Gr1 _ := hH
  refine lv_iconst (pc := 23) (v := 1) C0.1 C0.2.1 dX5_drawAnew_23 (by decide) ?_
  refine lv_istore (pc := 24) (lv' := [(6, .int 1), (5, .ref (b + 28)), (0, .ref (b + 70)), (1, .ref (b + 8)), (2, .ref (b + 4)), (3, .ref (b + 73)), (4, .int w)]) C0.1 C0.2.1 dX5_drawAnew_24 hl (by decide) rfl (fun ls hl => ?_)
  refine lv_iconst (pc := 26) (v := 0) C0.1 C0.2.1 dX5_drawAnew_26 (by decide) ?_
  refine lv_istore (pc := 27) (lv' := [(7, .int 0), (6, .int 1), (5, .ref (b + 28)), (0, .ref (b + 70)), (1, .ref (b + 8)), (2, .ref (b + 4)), (3, .ref (b + 73)), (4, .int w)]) C0.1 C0.2.1 dX5_drawAnew_27 hl (by decide) rfl (fun ls hl => ?_)
  exact L29 1201 0 1 (up2 (up2 ir1 70 3 0) 70 2 0) Fr1 Gr1 _ _ _ (by have : Int32.toInt 0 = 0 := rfl; omega) (by have : Int32.toInt 0 = 0 := rfl; omega) (On.i (On.i (On.tr On.rf honr1 (by decide) (by decide)) (by decide)) (by decide)) (show (0 ≤ Int32.toInt (ir1 73 1) ∧ Int32.toInt (ir1 73 1) ≤ 4000) ∧ (0 ≤ Int32.toInt (ir1 75 1) ∧ Int32.toInt (ir1 75 1) ≤ 4000) from by omega) (Or.inr rfl) hH hS (lv_sub hl [0, 1, 2, 3, 4, 5, 6, 7] rfl)
set_option maxHeartbeats 4000000 in
set_option maxRecDepth 100000 in
theorem g_X5_drawBrace_75 (l : Launch) (D : va_G) (tA : Nat → ClassId) (b : Nat) (i F : Nat → Nat → Int32) (G : Nat → Nat → Int64) (x : Int32) (hF : Tf17 i F) (hQ : Pp17 600 i F) (hPg : (0 ≤ (i 73 1).toInt ∧ (i 73 1).toInt ≤ 4000) ∧ (0 ≤ (i 75 1).toInt ∧ (i 75 1).toInt ≤ 4000)) : xMV l yX5_drawBrace cX5_drawBrace 4 none 2 41 D tA b 0 78 i F G [.ref (b + 70), .ref (b + 17), .int x, .ref (b + 75)] (fun u => On 70 77 i F G u ∧ (0 ≤ (u.1 73 1).toInt ∧ (u.1 73 1).toInt ≤ 4000) ∧ (0 ≤ (u.1 75 1).toInt ∧ (u.1 75 1).toInt ≤ 4000)) := by
  refine xstart RX5 rfl (by decide) (Nat.le_of_ble_eq_true rfl) ?_
  intro p e s m below meth c ls C0 hr hH hS hl
  have hl : lv_has ls 4 [(0, .ref (b + 70)), (1, .ref (b + 17)), (2, .int x), (3, .ref (b + 75))] := hl
  have rg_x := fb_rng x
  have hL := Tf17.lin hF
  refine lv_aload_n (pc := 0) C0.1 C0.2.1 dX5_drawBrace_0 rfl (lv_at hl 1 rfl) ?_
  refine xget (pc := 1) C0 hH 17 0 clX8 ⟨Nat.le_of_ble_eq_true rfl, Nat.le_of_ble_eq_true rfl⟩ ⟨rfl, rfl⟩ (Nat.le_of_ble_eq_true rfl) fl_X5_93 (v := .ref (b + 18)) rfl dX5_drawBrace_1 ?_
  refine lv_aload_n (pc := 4) C0.1 C0.2.1 dX5_drawBrace_4 rfl (lv_at hl 0 rfl) ?_
  refine xget (pc := 5) C0 hH 70 3 clX5 ⟨Nat.le_of_ble_eq_true rfl, Nat.le_of_ble_eq_true rfl⟩ ⟨rfl, rfl⟩ (Nat.le_of_ble_eq_true rfl) fl_X5_35 (v := .int (i 70 3)) rfl dX5_drawBrace_5 ?_
  refine xcVI (pc := 8) 18 [.int (i 70 3)] (g_X0_has_18 l D tA b i F G (i 70 3) ) C0 hH hS clX0 rfl ⟨⟨Nat.le_of_ble_eq_true rfl, Nat.le_of_ble_eq_true rfl⟩, rfl, rfl⟩ cw_X5_97 rfl ⟨Nat.le_of_ble_eq_true rfl, Nat.le_of_ble_eq_true rfl⟩ hl.1 rfl (Nat.le_of_ble_eq_true rfl) dX5_drawBrace_8 ⟨Nat.le_of_ble_eq_true rfl, Nat.le_of_ble_eq_true rfl⟩ (fun r1 ir1 Fr1 Gr1 _ locs hp hH hS => ?_)
  obtain ⟨hu, hpr1⟩ := hp
  cases hu
  refine lv_if_eq (pc := 11) (tgt := 41) C0.1 C0.2.1 dX5_drawBrace_11 (by decide) (fun c2 => ?_) (fun c2 => ?_)
  · have : Int32.toInt 0 = 0 := rfl
    have c2 := congrArg Int32.toInt c2
    exact xvret (pc := 41) C0 hr hH hS dX5_drawBrace_41 ⟨On.rf, (show (0 ≤ Int32.toInt (i 73 1) ∧ Int32.toInt (i 73 1) ≤ 4000) ∧ (0 ≤ Int32.toInt (i 75 1) ∧ Int32.toInt (i 75 1) ≤ 4000) from by omega)⟩
  · have : Int32.toInt 0 = 0 := rfl
    have c2 : ¬ _ := fun q => c2 (Int32.toInt_inj.mp q)
    refine lv_aload_n (pc := 14) C0.1 C0.2.1 dX5_drawBrace_14 rfl (lv_at hl 1 rfl) ?_
    refine xget (pc := 15) C0 hH 17 0 clX8 ⟨Nat.le_of_ble_eq_true rfl, Nat.le_of_ble_eq_true rfl⟩ ⟨rfl, rfl⟩ (Nat.le_of_ble_eq_true rfl) fl_X5_93 (v := .ref (b + 18)) rfl dX5_drawBrace_15 ?_
    refine xget (pc := 18) C0 hH 18 0 clX0 ⟨Nat.le_of_ble_eq_true rfl, Nat.le_of_ble_eq_true rfl⟩ ⟨rfl, rfl⟩ (Nat.le_of_ble_eq_true rfl) fl_X5_103 (v := .ref (b + 19)) rfl dX5_drawBrace_18 ?_
    refine lv_aload_n (pc := 21) C0.1 C0.2.1 dX5_drawBrace_21 rfl (lv_at hl 0 rfl) ?_
    refine xget (pc := 22) C0 hH 70 3 clX5 ⟨Nat.le_of_ble_eq_true rfl, Nat.le_of_ble_eq_true rfl⟩ ⟨rfl, rfl⟩ (Nat.le_of_ble_eq_true rfl) fl_X5_35 (v := .int (i 70 3)) rfl dX5_drawBrace_22 ?_
    refine xiald (pc := 25) (N := 601) C0 hH 19 ⟨Nat.le_of_ble_eq_true rfl, Nat.le_of_ble_eq_true rfl⟩ ⟨rfl, rfl⟩ (vI (by omega) (by omega)) dX5_drawBrace_25 ?_
    refine xcNI (pc := 26) [.int (F 19 (Int32.toNatClampNeg (i 70 3)))] (c_X9_isStepped l D tA b 0 78 i F G (F 19 (Int32.toNatClampNeg (i 70 3)))) C0 hH hS cw_X5_106 st_X9_isStepped rfl ⟨Nat.le_of_ble_eq_true rfl, Nat.le_of_ble_eq_true rfl⟩ hl.1 rfl (Nat.le_of_ble_eq_true rfl) dX5_drawBrace_26 ⟨Nat.le_of_ble_eq_true rfl, Nat.le_of_ble_eq_true rfl⟩ (fun r3 ir3 Fr3 Gr3 _ locs hp hH hS => ?_)
    obtain ⟨hu, rfl⟩ := hp
    cases hu
    refine lv_if_eq (pc := 29) (tgt := 41) C0.1 C0.2.1 dX5_drawBrace_29 (by decide) (fun c4 => ?_) (fun c4 => ?_)
    · have c4 := stp_0 c4
      exact xvret (pc := 41) C0 hr hH hS dX5_drawBrace_41 ⟨On.rf, (show (0 ≤ Int32.toInt (i 73 1) ∧ Int32.toInt (i 73 1) ≤ 4000) ∧ (0 ≤ Int32.toInt (i 75 1) ∧ Int32.toInt (i 75 1) ≤ 4000) from by omega)⟩
    · have c4 := stp_1 c4
      refine lv_aload_n (pc := 32) C0.1 C0.2.1 dX5_drawBrace_32 rfl (lv_at hl 3 rfl) ?_
      refine xcVV (pc := 33) 75 [] (g_X3_putApart_75 l D tA b i F G  (show 0 ≤ Int32.toInt (i 75 1) ∧ Int32.toInt (i 75 1) ≤ 4000 from by omega)) C0 hH hS clX3 rfl ⟨⟨Nat.le_of_ble_eq_true rfl, Nat.le_of_ble_eq_true rfl⟩, rfl, rfl⟩ cw_X5_66 rfl ⟨Nat.le_of_ble_eq_true rfl, Nat.le_of_ble_eq_true rfl⟩ hl.1 rfl (Nat.le_of_ble_eq_true rfl) dX5_drawBrace_33 ⟨Nat.le_of_ble_eq_true rfl, Nat.le_of_ble_eq_true rfl⟩ (fun ir5 Fr5 Gr5 _ locs hp hH hS => ?_)
      obtain ⟨honr5, hs1r5, hs2r5⟩ := hp
      dsimp only at hs1r5 hs2r5
      have hF : Tf17 ir5 Fr5 := Tf17.on (i := i) (F := F) hF honr5 (by decide)
      have hQ : Pp17 600 ir5 Fr5 := Pp17.on (i := i) (F := F) hQ honr5 (by decide)
      have ek_73_1r5 : Int32.toInt (ir5 73 1) = Int32.toInt (i 73 1) := congrArg Int32.toInt (congrFun (honr5.1 73 (by decide)).1 1)
      have ek_4_1r5 : Int32.toInt (ir5 4 1) = Int32.toInt (i 4 1) := congrArg Int32.toInt (congrFun (honr5.1 4 (by decide)).1 1)
      refine lv_aload_n (pc := 36) C0.1 C0.2.1 dX5_drawBrace_36 rfl (lv_at hl 3 rfl) ?_
      refine lv_iload_n (pc := 37) C0.1 C0.2.1 dX5_drawBrace_37 rfl (lv_at hl 2 rfl) ?_
      refine xcVV (pc := 38) 75 [.int x] (g_X3_put_75 l D tA b ir5 Fr5 Gr5 x (show 0 ≤ Int32.toInt (ir5 75 1) ∧ Int32.toInt (ir5 75 1) ≤ 4000 from by omega)) C0 hH hS clX3 rfl ⟨⟨Nat.le_of_ble_eq_true rfl, Nat.le_of_ble_eq_true rfl⟩, rfl, rfl⟩ cw_X5_69 rfl ⟨Nat.le_of_ble_eq_true rfl, Nat.le_of_ble_eq_true rfl⟩ hl.1 rfl (Nat.le_of_ble_eq_true rfl) dX5_drawBrace_38 ⟨Nat.le_of_ble_eq_true rfl, Nat.le_of_ble_eq_true rfl⟩ (fun ir6 Fr6 Gr6 _ locs hp hH hS => ?_)
      obtain ⟨honr6, hs1r6, hs2r6⟩ := hp
      dsimp only at hs1r6 hs2r6
      have hF : Tf17 ir6 Fr6 := Tf17.on (i := ir5) (F := Fr5) hF honr6 (by decide)
      have hQ : Pp17 600 ir6 Fr6 := Pp17.on (i := ir5) (F := Fr5) hQ honr6 (by decide)
      have ek_73_1r6 : Int32.toInt (ir6 73 1) = Int32.toInt (ir5 73 1) := congrArg Int32.toInt (congrFun (honr6.1 73 (by decide)).1 1)
      have ek_4_1r6 : Int32.toInt (ir6 4 1) = Int32.toInt (ir5 4 1) := congrArg Int32.toInt (congrFun (honr6.1 4 (by decide)).1 1)
      exact xvret (pc := 41) C0 hr hH hS dX5_drawBrace_41 ⟨(On.tr (On.tr On.rf honr5 (by decide) (by decide)) honr6 (by decide) (by decide)), (show (0 ≤ Int32.toInt (ir6 73 1) ∧ Int32.toInt (ir6 73 1) ≤ 4000) ∧ (0 ≤ Int32.toInt (ir6 75 1) ∧ Int32.toInt (ir6 75 1) ≤ 4000) from by omega)⟩
set_option maxHeartbeats 4000000 in
set_option maxRecDepth 100000 in
theorem g_X5_endBlocks_75 (l : Launch) (D : va_G) (tA : Nat → ClassId) (b : Nat) (i F : Nat → Nat → Int32) (G : Nat → Nat → Int64) (x : Int32) (hF : Tf17 i F) (hQ : Pp17 600 i F) (hPg : (0 ≤ (i 73 1).toInt ∧ (i 73 1).toInt ≤ 4000) ∧ (0 ≤ (i 75 1).toInt ∧ (i 75 1).toInt ≤ 4000)) : xMV l yX5_endBlocks cX5_endBlocks 5 none 3 64 D tA b 0 78 i F G [.ref (b + 70), .ref (b + 17), .int x, .ref (b + 75)] (fun u => On 70 77 i F G u ∧ (0 ≤ (u.1 73 1).toInt ∧ (u.1 73 1).toInt ≤ 4000) ∧ (0 ≤ (u.1 75 1).toInt ∧ (u.1 75 1).toInt ≤ 4000)) := by
  refine xstart RX5 rfl (by decide) (Nat.le_of_ble_eq_true rfl) ?_
  intro p e s m below meth c ls C0 hr hH hS hl
  have hl : lv_has ls 5 [(0, .ref (b + 70)), (1, .ref (b + 17)), (2, .int x), (3, .ref (b + 75))] := hl
  have rg_x := fb_rng x
  have hL := Tf17.lin hF
  have L3 : ∀ (d : Nat) (k : Int32) (iv Fv : Nat → Nat → Int32) (Gv : Nat → Nat → Int64) (H : Heap) (locs : List Loc) (ls : Array Slot), (0 ≤ k.toInt) → (601 - k.toInt ≤ d) → (On 70 77 i F G (iv, Fv, Gv)) → ((0 ≤ (iv 73 1).toInt ∧ (iv 73 1).toInt ≤ 4000) ∧ (0 ≤ (iv 75 1).toInt ∧ (iv 75 1).toInt ≤ 4000)) → Hd D tA b 0 78 zz iv Fv Gv H → va_S (xA b 0 78) s.heap H locs → lv_has ls 5 [(4, .int k), (0, .ref (b + 70)), (1, .ref (b + 17)), (2, .int x), (3, .ref (b + 75))] → W p l e (xR 3 64) s m ([.ref (b + 70), .ref (b + 17), .int x, .ref (b + 75)] : List Value).toArray below meth c H locs 0 0 (MQ below (va_Qv (fun u => On 70 77 i F G u ∧ (0 ≤ (u.1 73 1).toInt ∧ (u.1 73 1).toInt ≤ 4000) ∧ (0 ≤ (u.1 75 1).toInt ∧ (u.1 75 1).toInt ≤ 4000)) (xB D tA b 0 78 zz) (xA b 0 78)) ([.ref (b + 70), .ref (b + 17), .int x, .ref (b + 75)] : List Value).toArray s 0 0 (xA b 0 78)) (F0 m 3 ls []) := by
    intro d
    induction d with
    | zero =>
      intro k iv Fv Gv H locs ls h1 h2 h3 h4 hH hS hl
      have rg_k := fb_rng k
      have hF : Tf17 iv Fv := Tf17.on hF h3 (by decide)
      have hQ : Pp17 600 iv Fv := Pp17.on hQ h3 (by decide)
      have hL := Tf17.lin hF
      have ek4 : Int32.toInt (iv 4 1) = Int32.toInt (i 4 1) := congrArg Int32.toInt (congrFun (h3.1 4 (by decide)).1 1)
      refine lv_iload (pc := 3) C0.1 C0.2.1 dX5_endBlocks_3 (lv_at hl 0 rfl) ?_
      refine lv_sipush (pc := 5) (v := 601) C0.1 C0.2.1 dX5_endBlocks_5 (by decide) ?_
      have : Int32.toInt 601 = 601 := rfl
      refine lv_icmp_ge (pc := 8) (tgt := 54) C0.1 C0.2.1 dX5_endBlocks_8 (by decide) (fun _ => ?_) (fun c => absurd (Int32.le_iff_toInt_le.mpr (by omega)) c)
      exact xvret (pc := 54) C0 hr hH hS dX5_endBlocks_54 ⟨h3, (show (0 ≤ Int32.toInt (iv 73 1) ∧ Int32.toInt (iv 73 1) ≤ 4000) ∧ (0 ≤ Int32.toInt (iv 75 1) ∧ Int32.toInt (iv 75 1) ≤ 4000) from by omega)⟩
    | succ d ih3 =>
      intro k iv Fv Gv H locs ls h1 h2 h3 h4 hH hS hl
      have rg_k := fb_rng k
      have hF : Tf17 iv Fv := Tf17.on hF h3 (by decide)
      have hQ : Pp17 600 iv Fv := Pp17.on hQ h3 (by decide)
      have hL := Tf17.lin hF
      have ek4 : Int32.toInt (iv 4 1) = Int32.toInt (i 4 1) := congrArg Int32.toInt (congrFun (h3.1 4 (by decide)).1 1)
      refine lv_iload (pc := 3) C0.1 C0.2.1 dX5_endBlocks_3 (lv_at hl 0 rfl) ?_
      refine lv_sipush (pc := 5) (v := 601) C0.1 C0.2.1 dX5_endBlocks_5 (by decide) ?_
      refine lv_icmp_ge (pc := 8) (tgt := 54) C0.1 C0.2.1 dX5_endBlocks_8 (by decide) (fun c201 => ?_) (fun c201 => ?_)
      · have : Int32.toInt 601 = 601 := rfl
        have c201 := Int32.le_iff_toInt_le.mp c201
        exact xvret (pc := 54) C0 hr hH hS dX5_endBlocks_54 ⟨h3, (show (0 ≤ Int32.toInt (iv 73 1) ∧ Int32.toInt (iv 73 1) ≤ 4000) ∧ (0 ≤ Int32.toInt (iv 75 1) ∧ Int32.toInt (iv 75 1) ≤ 4000) from by omega)⟩
      · have : Int32.toInt 601 = 601 := rfl
        have c201 : ¬ _ := fun q => c201 (Int32.le_iff_toInt_le.mpr q)
        refine lv_aload_n (pc := 11) C0.1 C0.2.1 dX5_endBlocks_11 rfl (lv_at hl 1 rfl) ?_
        refine xget (pc := 12) C0 hH 70 3 clX5 ⟨Nat.le_of_ble_eq_true rfl, Nat.le_of_ble_eq_true rfl⟩ ⟨rfl, rfl⟩ (Nat.le_of_ble_eq_true rfl) fl_X5_35 (v := .int (iv 70 3)) rfl dX5_endBlocks_12 ?_
        refine lv_iload_n (pc := 15) C0.1 C0.2.1 dX5_endBlocks_15 rfl (lv_at hl 3 rfl) ?_
        refine lv_icmp_eq (pc := 16) (tgt := 54) C0.1 C0.2.1 dX5_endBlocks_16 (by decide) (fun c202 => ?_) (fun c202 => ?_)
        · have c202 := congrArg Int32.toInt c202
          exact xvret (pc := 54) C0 hr hH hS dX5_endBlocks_54 ⟨h3, (show (0 ≤ Int32.toInt (iv 73 1) ∧ Int32.toInt (iv 73 1) ≤ 4000) ∧ (0 ≤ Int32.toInt (iv 75 1) ∧ Int32.toInt (iv 75 1) ≤ 4000) from by omega)⟩
        · have c202 : ¬ _ := fun q => c202 (Int32.toInt_inj.mp q)
          refine lv_aload_n (pc := 19) C0.1 C0.2.1 dX5_endBlocks_19 rfl (lv_at hl 1 rfl) ?_
          refine xget (pc := 20) C0 hH 70 3 clX5 ⟨Nat.le_of_ble_eq_true rfl, Nat.le_of_ble_eq_true rfl⟩ ⟨rfl, rfl⟩ (Nat.le_of_ble_eq_true rfl) fl_X5_35 (v := .int (iv 70 3)) rfl dX5_endBlocks_20 ?_
          refine lv_bipush (pc := 23) (v := (-9)) C0.1 C0.2.1 dX5_endBlocks_23 (by decide) ?_
          refine lv_icmp_eq (pc := 25) (tgt := 54) C0.1 C0.2.1 dX5_endBlocks_25 (by decide) (fun c203 => ?_) (fun c203 => ?_)
          · have : Int32.toInt (-9) = (-9) := rfl
            have c203 := congrArg Int32.toInt c203
            exact xvret (pc := 54) C0 hr hH hS dX5_endBlocks_54 ⟨h3, (show (0 ≤ Int32.toInt (iv 73 1) ∧ Int32.toInt (iv 73 1) ≤ 4000) ∧ (0 ≤ Int32.toInt (iv 75 1) ∧ Int32.toInt (iv 75 1) ≤ 4000) from by omega)⟩
          · have : Int32.toInt (-9) = (-9) := rfl
            have c203 : ¬ _ := fun q => c203 (Int32.toInt_inj.mp q)
            refine lv_aload_n (pc := 28) C0.1 C0.2.1 dX5_endBlocks_28 rfl (lv_at hl 1 rfl) ?_
            refine lv_aload_n (pc := 29) C0.1 C0.2.1 dX5_endBlocks_29 rfl (lv_at hl 2 rfl) ?_
            refine lv_bipush (pc := 30) (v := 125) C0.1 C0.2.1 dX5_endBlocks_30 (by decide) ?_
            refine lv_aload_n (pc := 32) C0.1 C0.2.1 dX5_endBlocks_32 rfl (lv_at hl 4 rfl) ?_
            refine xcVV (pc := 33) 70 [.ref (b + 17), .int 125, .ref (b + 75)] (g_X5_drawBrace_75 l D tA b iv Fv Gv 125 hF hQ (show (0 ≤ Int32.toInt (iv 73 1) ∧ Int32.toInt (iv 73 1) ≤ 4000) ∧ (0 ≤ Int32.toInt (iv 75 1) ∧ Int32.toInt (iv 75 1) ≤ 4000) from by omega) ) C0 hH hS clX5 rfl ⟨⟨Nat.le_of_ble_eq_true rfl, Nat.le_of_ble_eq_true rfl⟩, rfl, rfl⟩ cw_X5_57 rfl ⟨Nat.le_of_ble_eq_true rfl, Nat.le_of_ble_eq_true rfl⟩ hl.1 rfl (Nat.le_of_ble_eq_true rfl) dX5_endBlocks_33 ⟨Nat.le_of_ble_eq_true rfl, Nat.le_of_ble_eq_true rfl⟩ (fun ir204 Fr204 Gr204 _ locs hp hH hS => ?_)
            obtain ⟨honr204, hs1r204, hs2r204⟩ := hp
            dsimp only at hs1r204 hs2r204
            have hF : Tf17 ir204 Fr204 := Tf17.on (i := iv) (F := Fv) hF honr204 (by decide)
            have hQ : Pp17 600 ir204 Fr204 := Pp17.on (i := iv) (F := Fv) hQ honr204 (by decide)
            have ek_4_1r204 : Int32.toInt (ir204 4 1) = Int32.toInt (iv 4 1) := congrArg Int32.toInt (congrFun (honr204.1 4 (by decide)).1 1)
            refine lv_aload_n (pc := 36) C0.1 C0.2.1 dX5_endBlocks_36 rfl (lv_at hl 1 rfl) ?_
            refine lv_aload_n (pc := 37) C0.1 C0.2.1 dX5_endBlocks_37 rfl (lv_at hl 2 rfl) ?_
            refine lv_aload_n (pc := 38) C0.1 C0.2.1 dX5_endBlocks_38 rfl (lv_at hl 1 rfl) ?_
            refine xget (pc := 39) C0 hH 70 3 clX5 ⟨Nat.le_of_ble_eq_true rfl, Nat.le_of_ble_eq_true rfl⟩ ⟨rfl, rfl⟩ (Nat.le_of_ble_eq_true rfl) fl_X5_35 (v := .int (ir204 70 3)) rfl dX5_endBlocks_39 ?_
            refine xcVI (pc := 42) 17 [.int (ir204 70 3)] (g_X8_blockAround_17 l D tA b ir204 Fr204 Gr204 (ir204 70 3) hF) C0 hH hS clX8 rfl ⟨⟨Nat.le_of_ble_eq_true rfl, Nat.le_of_ble_eq_true rfl⟩, rfl, rfl⟩ cw_X5_89 rfl ⟨Nat.le_of_ble_eq_true rfl, Nat.le_of_ble_eq_true rfl⟩ hl.1 rfl (Nat.le_of_ble_eq_true rfl) dX5_endBlocks_42 ⟨Nat.le_of_ble_eq_true rfl, Nat.le_of_ble_eq_true rfl⟩ (fun r205 ir205 Fr205 Gr205 _ locs hp hH hS => ?_)
            obtain ⟨hu, hpr205⟩ := hp
            cases hu
            refine xputI (pc := 45) C0 (Nat.le_of_ble_eq_true rfl) hH hS 70 3 clX5 ⟨Nat.le_of_ble_eq_true rfl, Nat.le_of_ble_eq_true rfl⟩ ⟨rfl, rfl⟩ ⟨Nat.le_of_ble_eq_true rfl, rfl, rfl⟩ fl_X5_35 (x := r205) ⟨rfl, rfl⟩ dX5_endBlocks_45 (fun _ locs hH hS _ => ?_)
            have hH : Hd D tA b 0 78 zz (up2 ir204 70 3 r205) Fr204 Gr204 _ := hH
            obtain ⟨x206, ex206⟩ : ∃ y_ : Int32, y_ = k + 1 := ⟨_, rfl⟩
            have : Int32.toInt 1 = 1 := rfl
            have hx206 : Int32.toInt x206 = Int32.toInt k + Int32.toInt 1 := by rw [ex206]; exact fb_addI (by omega) (by omega)
            refine lv_iinc (pc := 48) (v := x206) (lv' := [(4, .int x206), (0, .ref (b + 70)), (1, .ref (b + 17)), (2, .int x), (3, .ref (b + 75))]) C0.1 C0.2.1 dX5_endBlocks_48 hl (k := 0) rfl (by rw [ex206]; rfl) (by decide) rfl (fun ls hl => ?_)
            refine lv_goto (pc := 51) (tgt := 3) C0.1 C0.2.1 dX5_endBlocks_51 (by decide) ?_
            exact ih3 x206 (up2 ir204 70 3 r205) Fr204 Gr204 _ _ _ (by omega) (by omega) (On.i (On.tr h3 honr204 (by decide) (by decide)) (by decide)) (show (0 ≤ Int32.toInt (ir204 73 1) ∧ Int32.toInt (ir204 73 1) ≤ 4000) ∧ (0 ≤ Int32.toInt (ir204 75 1) ∧ Int32.toInt (ir204 75 1) ≤ 4000) from by omega) hH hS (lv_sub hl [0, 1, 2, 3, 4] rfl)
  refine lv_iconst (pc := 0) (v := 0) C0.1 C0.2.1 dX5_endBlocks_0 (by decide) ?_
  refine lv_istore (pc := 1) (lv' := [(4, .int 0), (0, .ref (b + 70)), (1, .ref (b + 17)), (2, .int x), (3, .ref (b + 75))]) C0.1 C0.2.1 dX5_endBlocks_1 hl (by decide) rfl (fun ls hl => ?_)
  exact L3 601 0 i F G _ _ _ (by have : Int32.toInt 0 = 0 := rfl; omega) (by have : Int32.toInt 0 = 0 := rfl; omega) On.rf (show (0 ≤ Int32.toInt (i 73 1) ∧ Int32.toInt (i 73 1) ≤ 4000) ∧ (0 ≤ Int32.toInt (i 75 1) ∧ Int32.toInt (i 75 1) ≤ 4000) from by omega) hH hS (lv_sub hl [0, 1, 2, 3, 4] rfl)
set_option maxHeartbeats 4000000 in
set_option maxRecDepth 100000 in
theorem g_X5_beginLine_75 (l : Launch) (D : va_G) (tA : Nat → ClassId) (b : Nat) (i F : Nat → Nat → Int32) (G : Nat → Nat → Int64) (x : Int32) (hF : Tf17 i F) (hQ : Pp17 600 i F) (hPg : (0 ≤ (i 73 1).toInt ∧ (i 73 1).toInt ≤ 4000) ∧ (0 ≤ (i 75 1).toInt ∧ (i 75 1).toInt ≤ 4000)) : xMV l yX5_beginLine cX5_beginLine 3 none 2 43 D tA b 0 78 i F G [.ref (b + 70), .int x, .ref (b + 75)] (fun u => On 70 77 i F G u ∧ (0 ≤ (u.1 73 1).toInt ∧ (u.1 73 1).toInt ≤ 4000) ∧ (0 ≤ (u.1 75 1).toInt ∧ (u.1 75 1).toInt ≤ 4000)) := by
  refine xstart RX5 rfl (by decide) (Nat.le_of_ble_eq_true rfl) ?_
  intro p e s m below meth c ls C0 hr hH hS hl
  have hl : lv_has ls 3 [(0, .ref (b + 70)), (1, .int x), (2, .ref (b + 75))] := hl
  have rg_x := fb_rng x
  have hL := Tf17.lin hF
  refine lv_aload_n (pc := 0) C0.1 C0.2.1 dX5_beginLine_0 rfl (lv_at hl 2 rfl) ?_
  refine xget (pc := 1) C0 hH 75 1 clX3 ⟨Nat.le_of_ble_eq_true rfl, Nat.le_of_ble_eq_true rfl⟩ ⟨rfl, rfl⟩ (Nat.le_of_ble_eq_true rfl) fl_X5_127 (v := .int (i 75 1)) rfl dX5_beginLine_1 ?_
  refine lv_if_le (pc := 4) (tgt := 13) C0.1 C0.2.1 dX5_beginLine_4 (by decide) (fun c1 => ?_) (fun c1 => ?_)
  · have : Int32.toInt 0 = 0 := rfl
    have c1 := Int32.le_iff_toInt_le.mp c1
    refine lv_aload_n (pc := 13) C0.1 C0.2.1 dX5_beginLine_13 rfl (lv_at hl 2 rfl) ?_
    refine lv_iload_n (pc := 14) C0.1 C0.2.1 dX5_beginLine_14 rfl (lv_at hl 1 rfl) ?_
    refine xcVV (pc := 15) 75 [.int x] (g_X3_putBlanks_75 l D tA b i F G x (show 0 ≤ Int32.toInt (i 75 1) ∧ Int32.toInt (i 75 1) ≤ 4000 from by omega)) C0 hH hS clX3 rfl ⟨⟨Nat.le_of_ble_eq_true rfl, Nat.le_of_ble_eq_true rfl⟩, rfl, rfl⟩ cw_X5_143 rfl ⟨Nat.le_of_ble_eq_true rfl, Nat.le_of_ble_eq_true rfl⟩ hl.1 rfl (Nat.le_of_ble_eq_true rfl) dX5_beginLine_15 ⟨Nat.le_of_ble_eq_true rfl, Nat.le_of_ble_eq_true rfl⟩ (fun ir2 Fr2 Gr2 _ locs hp hH hS => ?_)
    obtain ⟨honr2, hs1r2, hs2r2⟩ := hp
    dsimp only at hs1r2 hs2r2
    have hF : Tf17 ir2 Fr2 := Tf17.on (i := i) (F := F) hF honr2 (by decide)
    have hQ : Pp17 600 ir2 Fr2 := Pp17.on (i := i) (F := F) hQ honr2 (by decide)
    have ek_73_1r2 : Int32.toInt (ir2 73 1) = Int32.toInt (i 73 1) := congrArg Int32.toInt (congrFun (honr2.1 73 (by decide)).1 1)
    have ek_4_1r2 : Int32.toInt (ir2 4 1) = Int32.toInt (i 4 1) := congrArg Int32.toInt (congrFun (honr2.1 4 (by decide)).1 1)
    refine lv_aload_n (pc := 18) C0.1 C0.2.1 dX5_beginLine_18 rfl (lv_at hl 0 rfl) ?_
    refine lv_iload_n (pc := 19) C0.1 C0.2.1 dX5_beginLine_19 rfl (lv_at hl 1 rfl) ?_
    refine xputI (pc := 20) C0 (Nat.le_of_ble_eq_true rfl) hH hS 70 2 clX5 ⟨Nat.le_of_ble_eq_true rfl, Nat.le_of_ble_eq_true rfl⟩ ⟨rfl, rfl⟩ ⟨Nat.le_of_ble_eq_true rfl, rfl, rfl⟩ fl_X5_109 (x := x) ⟨rfl, rfl⟩ dX5_beginLine_20 (fun _ locs hH hS _ => ?_)
    have hH : Hd D tA b 0 78 zz (up2 ir2 70 2 x) Fr2 Gr2 _ := hH
    exact xvret (pc := 23) C0 hr hH hS dX5_beginLine_23 ⟨(On.i (On.tr On.rf honr2 (by decide) (by decide)) (by decide)), (show (0 ≤ Int32.toInt (ir2 73 1) ∧ Int32.toInt (ir2 73 1) ≤ 4000) ∧ (0 ≤ Int32.toInt (ir2 75 1) ∧ Int32.toInt (ir2 75 1) ≤ 4000) from by omega)⟩
  · have : Int32.toInt 0 = 0 := rfl
    have c1 : ¬ _ := fun q => c1 (Int32.le_iff_toInt_le.mpr q)
    refine lv_aload_n (pc := 7) C0.1 C0.2.1 dX5_beginLine_7 rfl (lv_at hl 2 rfl) ?_
    refine lv_bipush (pc := 8) (v := 10) C0.1 C0.2.1 dX5_beginLine_8 (by decide) ?_
    refine xcVV (pc := 10) 75 [.int 10] (g_X3_put_75 l D tA b i F G 10 (show 0 ≤ Int32.toInt (i 75 1) ∧ Int32.toInt (i 75 1) ≤ 4000 from by omega)) C0 hH hS clX3 rfl ⟨⟨Nat.le_of_ble_eq_true rfl, Nat.le_of_ble_eq_true rfl⟩, rfl, rfl⟩ cw_X5_69 rfl ⟨Nat.le_of_ble_eq_true rfl, Nat.le_of_ble_eq_true rfl⟩ hl.1 rfl (Nat.le_of_ble_eq_true rfl) dX5_beginLine_10 ⟨Nat.le_of_ble_eq_true rfl, Nat.le_of_ble_eq_true rfl⟩ (fun ir3 Fr3 Gr3 _ locs hp hH hS => ?_)
    obtain ⟨honr3, hs1r3, hs2r3⟩ := hp
    dsimp only at hs1r3 hs2r3
    have hF : Tf17 ir3 Fr3 := Tf17.on (i := i) (F := F) hF honr3 (by decide)
    have hQ : Pp17 600 ir3 Fr3 := Pp17.on (i := i) (F := F) hQ honr3 (by decide)
    have ek_73_1r3 : Int32.toInt (ir3 73 1) = Int32.toInt (i 73 1) := congrArg Int32.toInt (congrFun (honr3.1 73 (by decide)).1 1)
    have ek_4_1r3 : Int32.toInt (ir3 4 1) = Int32.toInt (i 4 1) := congrArg Int32.toInt (congrFun (honr3.1 4 (by decide)).1 1)
    refine lv_aload_n (pc := 13) C0.1 C0.2.1 dX5_beginLine_13 rfl (lv_at hl 2 rfl) ?_
    refine lv_iload_n (pc := 14) C0.1 C0.2.1 dX5_beginLine_14 rfl (lv_at hl 1 rfl) ?_
    refine xcVV (pc := 15) 75 [.int x] (g_X3_putBlanks_75 l D tA b ir3 Fr3 Gr3 x (show 0 ≤ Int32.toInt (ir3 75 1) ∧ Int32.toInt (ir3 75 1) ≤ 4000 from by omega)) C0 hH hS clX3 rfl ⟨⟨Nat.le_of_ble_eq_true rfl, Nat.le_of_ble_eq_true rfl⟩, rfl, rfl⟩ cw_X5_143 rfl ⟨Nat.le_of_ble_eq_true rfl, Nat.le_of_ble_eq_true rfl⟩ hl.1 rfl (Nat.le_of_ble_eq_true rfl) dX5_beginLine_15 ⟨Nat.le_of_ble_eq_true rfl, Nat.le_of_ble_eq_true rfl⟩ (fun ir4 Fr4 Gr4 _ locs hp hH hS => ?_)
    obtain ⟨honr4, hs1r4, hs2r4⟩ := hp
    dsimp only at hs1r4 hs2r4
    have hF : Tf17 ir4 Fr4 := Tf17.on (i := ir3) (F := Fr3) hF honr4 (by decide)
    have hQ : Pp17 600 ir4 Fr4 := Pp17.on (i := ir3) (F := Fr3) hQ honr4 (by decide)
    have ek_73_1r4 : Int32.toInt (ir4 73 1) = Int32.toInt (ir3 73 1) := congrArg Int32.toInt (congrFun (honr4.1 73 (by decide)).1 1)
    have ek_4_1r4 : Int32.toInt (ir4 4 1) = Int32.toInt (ir3 4 1) := congrArg Int32.toInt (congrFun (honr4.1 4 (by decide)).1 1)
    refine lv_aload_n (pc := 18) C0.1 C0.2.1 dX5_beginLine_18 rfl (lv_at hl 0 rfl) ?_
    refine lv_iload_n (pc := 19) C0.1 C0.2.1 dX5_beginLine_19 rfl (lv_at hl 1 rfl) ?_
    refine xputI (pc := 20) C0 (Nat.le_of_ble_eq_true rfl) hH hS 70 2 clX5 ⟨Nat.le_of_ble_eq_true rfl, Nat.le_of_ble_eq_true rfl⟩ ⟨rfl, rfl⟩ ⟨Nat.le_of_ble_eq_true rfl, rfl, rfl⟩ fl_X5_109 (x := x) ⟨rfl, rfl⟩ dX5_beginLine_20 (fun _ locs hH hS _ => ?_)
    have hH : Hd D tA b 0 78 zz (up2 ir4 70 2 x) Fr4 Gr4 _ := hH
    exact xvret (pc := 23) C0 hr hH hS dX5_beginLine_23 ⟨(On.i (On.tr (On.tr On.rf honr3 (by decide) (by decide)) honr4 (by decide) (by decide)) (by decide)), (show (0 ≤ Int32.toInt (ir4 73 1) ∧ Int32.toInt (ir4 73 1) ≤ 4000) ∧ (0 ≤ Int32.toInt (ir4 75 1) ∧ Int32.toInt (ir4 75 1) ≤ 4000) from by omega)⟩
set_option maxHeartbeats 4000000 in
set_option maxRecDepth 100000 in
theorem g_X5_drawGap_75 (l : Launch) (D : va_G) (tA : Nat → ClassId) (b : Nat) (i F : Nat → Nat → Int32) (G : Nat → Nat → Int64) (x y z w : Int32) (hF : Tf17 i F) (hQ : Pp17 600 i F) (hPg : (0 ≤ (i 73 1).toInt ∧ (i 73 1).toInt ≤ 4000) ∧ (0 ≤ (i 75 1).toInt ∧ (i 75 1).toInt ≤ 4000)) (hx : 0 ≤ x.toInt ∧ x.toInt < 1200) : xMV l yX5_drawGap cX5_drawGap 10 none 3 65 D tA b 0 78 i F G [.ref (b + 70), .ref (b + 17), .int x, .int y, .int z, .ref (b + 75), .int w] (fun u => On 70 77 i F G u ∧ (0 ≤ (u.1 73 1).toInt ∧ (u.1 73 1).toInt ≤ 4000) ∧ (0 ≤ (u.1 75 1).toInt ∧ (u.1 75 1).toInt ≤ 4000)) := by
  refine xstart RX5 rfl (by decide) (Nat.le_of_ble_eq_true rfl) ?_
  intro p e s m below meth c ls C0 hr hH hS hl
  have hl : lv_has ls 10 [(0, .ref (b + 70)), (1, .ref (b + 17)), (2, .int x), (3, .int y), (4, .int z), (5, .ref (b + 75)), (6, .int w)] := hl
  have rg_x := fb_rng x
  have rg_y := fb_rng y
  have rg_z := fb_rng z
  have rg_w := fb_rng w
  have hL := Tf17.lin hF
  refine lv_aload_n (pc := 0) C0.1 C0.2.1 dX5_drawGap_0 rfl (lv_at hl 1 rfl) ?_
  refine xget (pc := 1) C0 hH 17 0 clX8 ⟨Nat.le_of_ble_eq_true rfl, Nat.le_of_ble_eq_true rfl⟩ ⟨rfl, rfl⟩ (Nat.le_of_ble_eq_true rfl) fl_X5_93 (v := .ref (b + 18)) rfl dX5_drawGap_1 ?_
  refine lv_astore (pc := 4) (lv' := [(7, .ref (b + 18)), (0, .ref (b + 70)), (1, .ref (b + 17)), (2, .int x), (3, .int y), (4, .int z), (5, .ref (b + 75)), (6, .int w)]) C0.1 C0.2.1 dX5_drawGap_4 hl (by decide) rfl (fun ls hl => ?_)
  refine lv_aload_n (pc := 6) C0.1 C0.2.1 dX5_drawGap_6 rfl (lv_at hl 2 rfl) ?_
  refine xget (pc := 7) C0 hH 17 1 clX8 ⟨Nat.le_of_ble_eq_true rfl, Nat.le_of_ble_eq_true rfl⟩ ⟨rfl, rfl⟩ (Nat.le_of_ble_eq_true rfl) fl_X5_24 (v := .ref (b + 28)) rfl dX5_drawGap_7 ?_
  refine xget (pc := 10) C0 hH 28 0 clX2 ⟨Nat.le_of_ble_eq_true rfl, Nat.le_of_ble_eq_true rfl⟩ ⟨rfl, rfl⟩ (Nat.le_of_ble_eq_true rfl) fl_X5_50 (v := .ref (b + 29)) rfl dX5_drawGap_10 ?_
  refine lv_iload_n (pc := 13) C0.1 C0.2.1 dX5_drawGap_13 rfl (lv_at hl 3 rfl) ?_
  refine xiald (pc := 14) (N := 1200) C0 hH 29 ⟨Nat.le_of_ble_eq_true rfl, Nat.le_of_ble_eq_true rfl⟩ ⟨rfl, rfl⟩ (vI (by omega) (by omega)) dX5_drawGap_14 ?_
  refine lv_topi (fun x1 ex1 => ?_)
  refine lv_istore (pc := 15) (lv' := [(8, .int x1), (7, .ref (b + 18)), (0, .ref (b + 70)), (1, .ref (b + 17)), (2, .int x), (3, .int y), (4, .int z), (5, .ref (b + 75)), (6, .int w)]) C0.1 C0.2.1 dX5_drawGap_15 hl (by decide) rfl (fun ls hl => ?_)
  have hv8 : 0 ≤ Int32.toInt x1 ∧ Int32.toInt x1 < 601 := by rw [ex1]; exact hF.ow _
  refine lv_aload (pc := 17) C0.1 C0.2.1 dX5_drawGap_17 (lv_at hl 1 rfl) ?_
  refine xget (pc := 19) C0 hH 18 0 clX0 ⟨Nat.le_of_ble_eq_true rfl, Nat.le_of_ble_eq_true rfl⟩ ⟨rfl, rfl⟩ (Nat.le_of_ble_eq_true rfl) fl_X5_103 (v := .ref (b + 19)) rfl dX5_drawGap_19 ?_
  refine lv_iload (pc := 22) C0.1 C0.2.1 dX5_drawGap_22 (lv_at hl 0 rfl) ?_
  refine xiald (pc := 24) (N := 601) C0 hH 19 ⟨Nat.le_of_ble_eq_true rfl, Nat.le_of_ble_eq_true rfl⟩ ⟨rfl, rfl⟩ (vI (by omega) (by omega)) dX5_drawGap_24 ?_
  refine lv_topi (fun x2 ex2 => ?_)
  refine lv_istore (pc := 25) (lv' := [(9, .int x2), (8, .int x1), (7, .ref (b + 18)), (0, .ref (b + 70)), (1, .ref (b + 17)), (2, .int x), (3, .int y), (4, .int z), (5, .ref (b + 75)), (6, .int w)]) C0.1 C0.2.1 dX5_drawGap_25 hl (by decide) rfl (fun ls hl => ?_)
  refine lv_iload_n (pc := 27) C0.1 C0.2.1 dX5_drawGap_27 rfl (lv_at hl 6 rfl) ?_
  refine lv_aload_n (pc := 28) C0.1 C0.2.1 dX5_drawGap_28 rfl (lv_at hl 4 rfl) ?_
  refine xget (pc := 29) C0 hH 17 1 clX8 ⟨Nat.le_of_ble_eq_true rfl, Nat.le_of_ble_eq_true rfl⟩ ⟨rfl, rfl⟩ (Nat.le_of_ble_eq_true rfl) fl_X5_24 (v := .ref (b + 28)) rfl dX5_drawGap_29 ?_
  refine xget (pc := 32) C0 hH 28 2 clX2 ⟨Nat.le_of_ble_eq_true rfl, Nat.le_of_ble_eq_true rfl⟩ ⟨rfl, rfl⟩ (Nat.le_of_ble_eq_true rfl) fl_X5_60 (v := .ref (b + 31)) rfl dX5_drawGap_32 ?_
  refine lv_iload_n (pc := 35) C0.1 C0.2.1 dX5_drawGap_35 rfl (lv_at hl 5 rfl) ?_
  refine xiald (pc := 36) (N := 1200) C0 hH 31 ⟨Nat.le_of_ble_eq_true rfl, Nat.le_of_ble_eq_true rfl⟩ ⟨rfl, rfl⟩ (vI (by omega) (by omega)) dX5_drawGap_36 ?_
  refine lv_icmp_ne (pc := 37) (tgt := 88) C0.1 C0.2.1 dX5_drawGap_37 (by decide) (fun c3 => ?_) (fun c3 => ?_)
  · have c3 : ¬ _ := fun q => c3 (Int32.toInt_inj.mp q)
    refine lv_iload_n (pc := 88) C0.1 C0.2.1 dX5_drawGap_88 rfl (lv_at hl 6 rfl) ?_
    refine lv_aload_n (pc := 89) C0.1 C0.2.1 dX5_drawGap_89 rfl (lv_at hl 4 rfl) ?_
    refine xget (pc := 90) C0 hH 17 1 clX8 ⟨Nat.le_of_ble_eq_true rfl, Nat.le_of_ble_eq_true rfl⟩ ⟨rfl, rfl⟩ (Nat.le_of_ble_eq_true rfl) fl_X5_24 (v := .ref (b + 28)) rfl dX5_drawGap_90 ?_
    refine xget (pc := 93) C0 hH 28 2 clX2 ⟨Nat.le_of_ble_eq_true rfl, Nat.le_of_ble_eq_true rfl⟩ ⟨rfl, rfl⟩ (Nat.le_of_ble_eq_true rfl) fl_X5_60 (v := .ref (b + 31)) rfl dX5_drawGap_93 ?_
    refine lv_iload_n (pc := 96) C0.1 C0.2.1 dX5_drawGap_96 rfl (lv_at hl 5 rfl) ?_
    refine xiald (pc := 97) (N := 1200) C0 hH 31 ⟨Nat.le_of_ble_eq_true rfl, Nat.le_of_ble_eq_true rfl⟩ ⟨rfl, rfl⟩ (vI (by omega) (by omega)) dX5_drawGap_97 ?_
    refine lv_icmp_eq (pc := 98) (tgt := 170) C0.1 C0.2.1 dX5_drawGap_98 (by decide) (fun c4 => ?_) (fun c4 => ?_)
    · have c4 := congrArg Int32.toInt c4
      refine lv_aload (pc := 170) C0.1 C0.2.1 dX5_drawGap_170 (lv_at hl 8 rfl) ?_
      refine lv_bipush (pc := 172) (v := 32) C0.1 C0.2.1 dX5_drawGap_172 (by decide) ?_
      refine xcVV (pc := 174) 75 [.int 32] (g_X3_put_75 l D tA b i F G 32 (show 0 ≤ Int32.toInt (i 75 1) ∧ Int32.toInt (i 75 1) ≤ 4000 from by omega)) C0 hH hS clX3 rfl ⟨⟨Nat.le_of_ble_eq_true rfl, Nat.le_of_ble_eq_true rfl⟩, rfl, rfl⟩ cw_X5_69 rfl ⟨Nat.le_of_ble_eq_true rfl, Nat.le_of_ble_eq_true rfl⟩ hl.1 rfl (Nat.le_of_ble_eq_true rfl) dX5_drawGap_174 ⟨Nat.le_of_ble_eq_true rfl, Nat.le_of_ble_eq_true rfl⟩ (fun ir5 Fr5 Gr5 _ locs hp hH hS => ?_)
      obtain ⟨honr5, hs1r5, hs2r5⟩ := hp
      dsimp only at hs1r5 hs2r5
      have hF : Tf17 ir5 Fr5 := Tf17.on (i := i) (F := F) hF honr5 (by decide)
      have hQ : Pp17 600 ir5 Fr5 := Pp17.on (i := i) (F := F) hQ honr5 (by decide)
      have ek_73_1r5 : Int32.toInt (ir5 73 1) = Int32.toInt (i 73 1) := congrArg Int32.toInt (congrFun (honr5.1 73 (by decide)).1 1)
      have ek_4_1r5 : Int32.toInt (ir5 4 1) = Int32.toInt (i 4 1) := congrArg Int32.toInt (congrFun (honr5.1 4 (by decide)).1 1)
      exact xvret (pc := 177) C0 hr hH hS dX5_drawGap_177 ⟨(On.tr On.rf honr5 (by decide) (by decide)), (show (0 ≤ Int32.toInt (ir5 73 1) ∧ Int32.toInt (ir5 73 1) ≤ 4000) ∧ (0 ≤ Int32.toInt (ir5 75 1) ∧ Int32.toInt (ir5 75 1) ≤ 4000) from by omega)⟩
    · have c4 : ¬ _ := fun q => c4 (Int32.toInt_inj.mp q)
      refine lv_aload (pc := 101) C0.1 C0.2.1 dX5_drawGap_101 (lv_at hl 2 rfl) ?_
      refine lv_iload (pc := 103) C0.1 C0.2.1 dX5_drawGap_103 (lv_at hl 7 rfl) ?_
      refine xcVI (pc := 105) 18 [.int z] (g_X0_has_18 l D tA b i F G z ) C0 hH hS clX0 rfl ⟨⟨Nat.le_of_ble_eq_true rfl, Nat.le_of_ble_eq_true rfl⟩, rfl, rfl⟩ cw_X5_97 rfl ⟨Nat.le_of_ble_eq_true rfl, Nat.le_of_ble_eq_true rfl⟩ hl.1 rfl (Nat.le_of_ble_eq_true rfl) dX5_drawGap_105 ⟨Nat.le_of_ble_eq_true rfl, Nat.le_of_ble_eq_true rfl⟩ (fun r6 ir6 Fr6 Gr6 _ locs hp hH hS => ?_)
      obtain ⟨hu, hpr6⟩ := hp
      cases hu
      refine lv_if_eq (pc := 108) (tgt := 170) C0.1 C0.2.1 dX5_drawGap_108 (by decide) (fun c7 => ?_) (fun c7 => ?_)
      · have : Int32.toInt 0 = 0 := rfl
        have c7 := congrArg Int32.toInt c7
        refine lv_aload (pc := 170) C0.1 C0.2.1 dX5_drawGap_170 (lv_at hl 8 rfl) ?_
        refine lv_bipush (pc := 172) (v := 32) C0.1 C0.2.1 dX5_drawGap_172 (by decide) ?_
        refine xcVV (pc := 174) 75 [.int 32] (g_X3_put_75 l D tA b i F G 32 (show 0 ≤ Int32.toInt (i 75 1) ∧ Int32.toInt (i 75 1) ≤ 4000 from by omega)) C0 hH hS clX3 rfl ⟨⟨Nat.le_of_ble_eq_true rfl, Nat.le_of_ble_eq_true rfl⟩, rfl, rfl⟩ cw_X5_69 rfl ⟨Nat.le_of_ble_eq_true rfl, Nat.le_of_ble_eq_true rfl⟩ hl.1 rfl (Nat.le_of_ble_eq_true rfl) dX5_drawGap_174 ⟨Nat.le_of_ble_eq_true rfl, Nat.le_of_ble_eq_true rfl⟩ (fun ir8 Fr8 Gr8 _ locs hp hH hS => ?_)
        obtain ⟨honr8, hs1r8, hs2r8⟩ := hp
        dsimp only at hs1r8 hs2r8
        have hF : Tf17 ir8 Fr8 := Tf17.on (i := i) (F := F) hF honr8 (by decide)
        have hQ : Pp17 600 ir8 Fr8 := Pp17.on (i := i) (F := F) hQ honr8 (by decide)
        have ek_73_1r8 : Int32.toInt (ir8 73 1) = Int32.toInt (i 73 1) := congrArg Int32.toInt (congrFun (honr8.1 73 (by decide)).1 1)
        have ek_4_1r8 : Int32.toInt (ir8 4 1) = Int32.toInt (i 4 1) := congrArg Int32.toInt (congrFun (honr8.1 4 (by decide)).1 1)
        exact xvret (pc := 177) C0 hr hH hS dX5_drawGap_177 ⟨(On.tr On.rf honr8 (by decide) (by decide)), (show (0 ≤ Int32.toInt (ir8 73 1) ∧ Int32.toInt (ir8 73 1) ≤ 4000) ∧ (0 ≤ Int32.toInt (ir8 75 1) ∧ Int32.toInt (ir8 75 1) ≤ 4000) from by omega)⟩
      · have : Int32.toInt 0 = 0 := rfl
        have c7 : ¬ _ := fun q => c7 (Int32.toInt_inj.mp q)
        refine lv_aload (pc := 111) C0.1 C0.2.1 dX5_drawGap_111 (lv_at hl 2 rfl) ?_
        refine xget (pc := 113) C0 hH 18 0 clX0 ⟨Nat.le_of_ble_eq_true rfl, Nat.le_of_ble_eq_true rfl⟩ ⟨rfl, rfl⟩ (Nat.le_of_ble_eq_true rfl) fl_X5_103 (v := .ref (b + 19)) rfl dX5_drawGap_113 ?_
        refine lv_iload (pc := 116) C0.1 C0.2.1 dX5_drawGap_116 (lv_at hl 7 rfl) ?_
        refine xiald (pc := 118) (N := 601) C0 hH 19 ⟨Nat.le_of_ble_eq_true rfl, Nat.le_of_ble_eq_true rfl⟩ ⟨rfl, rfl⟩ (vI (by omega) (by omega)) dX5_drawGap_118 ?_
        refine xcNI (pc := 119) [.int (F 19 (Int32.toNatClampNeg z))] (c_X9_isStepped l D tA b 0 78 i F G (F 19 (Int32.toNatClampNeg z))) C0 hH hS cw_X5_106 st_X9_isStepped rfl ⟨Nat.le_of_ble_eq_true rfl, Nat.le_of_ble_eq_true rfl⟩ hl.1 rfl (Nat.le_of_ble_eq_true rfl) dX5_drawGap_119 ⟨Nat.le_of_ble_eq_true rfl, Nat.le_of_ble_eq_true rfl⟩ (fun r9 ir9 Fr9 Gr9 _ locs hp hH hS => ?_)
        obtain ⟨hu, rfl⟩ := hp
        cases hu
        refine lv_if_eq (pc := 122) (tgt := 170) C0.1 C0.2.1 dX5_drawGap_122 (by decide) (fun c10 => ?_) (fun c10 => ?_)
        · have c10 := stp_0 c10
          refine lv_aload (pc := 170) C0.1 C0.2.1 dX5_drawGap_170 (lv_at hl 8 rfl) ?_
          refine lv_bipush (pc := 172) (v := 32) C0.1 C0.2.1 dX5_drawGap_172 (by decide) ?_
          refine xcVV (pc := 174) 75 [.int 32] (g_X3_put_75 l D tA b i F G 32 (show 0 ≤ Int32.toInt (i 75 1) ∧ Int32.toInt (i 75 1) ≤ 4000 from by omega)) C0 hH hS clX3 rfl ⟨⟨Nat.le_of_ble_eq_true rfl, Nat.le_of_ble_eq_true rfl⟩, rfl, rfl⟩ cw_X5_69 rfl ⟨Nat.le_of_ble_eq_true rfl, Nat.le_of_ble_eq_true rfl⟩ hl.1 rfl (Nat.le_of_ble_eq_true rfl) dX5_drawGap_174 ⟨Nat.le_of_ble_eq_true rfl, Nat.le_of_ble_eq_true rfl⟩ (fun ir11 Fr11 Gr11 _ locs hp hH hS => ?_)
          obtain ⟨honr11, hs1r11, hs2r11⟩ := hp
          dsimp only at hs1r11 hs2r11
          have hF : Tf17 ir11 Fr11 := Tf17.on (i := i) (F := F) hF honr11 (by decide)
          have hQ : Pp17 600 ir11 Fr11 := Pp17.on (i := i) (F := F) hQ honr11 (by decide)
          have ek_73_1r11 : Int32.toInt (ir11 73 1) = Int32.toInt (i 73 1) := congrArg Int32.toInt (congrFun (honr11.1 73 (by decide)).1 1)
          have ek_4_1r11 : Int32.toInt (ir11 4 1) = Int32.toInt (i 4 1) := congrArg Int32.toInt (congrFun (honr11.1 4 (by decide)).1 1)
          exact xvret (pc := 177) C0 hr hH hS dX5_drawGap_177 ⟨(On.tr On.rf honr11 (by decide) (by decide)), (show (0 ≤ Int32.toInt (ir11 73 1) ∧ Int32.toInt (ir11 73 1) ≤ 4000) ∧ (0 ≤ Int32.toInt (ir11 75 1) ∧ Int32.toInt (ir11 75 1) ≤ 4000) from by omega)⟩
        · have c10 := stp_1 c10
          refine lv_aload (pc := 125) C0.1 C0.2.1 dX5_drawGap_125 (lv_at hl 2 rfl) ?_
          refine xget (pc := 127) C0 hH 18 3 clX0 ⟨Nat.le_of_ble_eq_true rfl, Nat.le_of_ble_eq_true rfl⟩ ⟨rfl, rfl⟩ (Nat.le_of_ble_eq_true rfl) fl_X5_133 (v := .ref (b + 22)) rfl dX5_drawGap_127 ?_
          refine lv_iload (pc := 130) C0.1 C0.2.1 dX5_drawGap_130 (lv_at hl 7 rfl) ?_
          refine xiald (pc := 132) (N := 601) C0 hH 22 ⟨Nat.le_of_ble_eq_true rfl, Nat.le_of_ble_eq_true rfl⟩ ⟨rfl, rfl⟩ (vI (by omega) (by omega)) dX5_drawGap_132 ?_
          refine lv_if_le (pc := 133) (tgt := 170) C0.1 C0.2.1 dX5_drawGap_133 (by decide) (fun c12 => ?_) (fun c12 => ?_)
          · have : Int32.toInt 0 = 0 := rfl
            have c12 := Int32.le_iff_toInt_le.mp c12
            refine lv_aload (pc := 170) C0.1 C0.2.1 dX5_drawGap_170 (lv_at hl 8 rfl) ?_
            refine lv_bipush (pc := 172) (v := 32) C0.1 C0.2.1 dX5_drawGap_172 (by decide) ?_
            refine xcVV (pc := 174) 75 [.int 32] (g_X3_put_75 l D tA b i F G 32 (show 0 ≤ Int32.toInt (i 75 1) ∧ Int32.toInt (i 75 1) ≤ 4000 from by omega)) C0 hH hS clX3 rfl ⟨⟨Nat.le_of_ble_eq_true rfl, Nat.le_of_ble_eq_true rfl⟩, rfl, rfl⟩ cw_X5_69 rfl ⟨Nat.le_of_ble_eq_true rfl, Nat.le_of_ble_eq_true rfl⟩ hl.1 rfl (Nat.le_of_ble_eq_true rfl) dX5_drawGap_174 ⟨Nat.le_of_ble_eq_true rfl, Nat.le_of_ble_eq_true rfl⟩ (fun ir13 Fr13 Gr13 _ locs hp hH hS => ?_)
            obtain ⟨honr13, hs1r13, hs2r13⟩ := hp
            dsimp only at hs1r13 hs2r13
            have hF : Tf17 ir13 Fr13 := Tf17.on (i := i) (F := F) hF honr13 (by decide)
            have hQ : Pp17 600 ir13 Fr13 := Pp17.on (i := i) (F := F) hQ honr13 (by decide)
            have ek_73_1r13 : Int32.toInt (ir13 73 1) = Int32.toInt (i 73 1) := congrArg Int32.toInt (congrFun (honr13.1 73 (by decide)).1 1)
            have ek_4_1r13 : Int32.toInt (ir13 4 1) = Int32.toInt (i 4 1) := congrArg Int32.toInt (congrFun (honr13.1 4 (by decide)).1 1)
            exact xvret (pc := 177) C0 hr hH hS dX5_drawGap_177 ⟨(On.tr On.rf honr13 (by decide) (by decide)), (show (0 ≤ Int32.toInt (ir13 73 1) ∧ Int32.toInt (ir13 73 1) ≤ 4000) ∧ (0 ≤ Int32.toInt (ir13 75 1) ∧ Int32.toInt (ir13 75 1) ≤ 4000) from by omega)⟩
          · have : Int32.toInt 0 = 0 := rfl
            have c12 : ¬ _ := fun q => c12 (Int32.le_iff_toInt_le.mpr q)
            refine lv_aload_n (pc := 136) C0.1 C0.2.1 dX5_drawGap_136 rfl (lv_at hl 3 rfl) ?_
            refine lv_aload_n (pc := 137) C0.1 C0.2.1 dX5_drawGap_137 rfl (lv_at hl 3 rfl) ?_
            refine xget (pc := 138) C0 hH 70 1 clX5 ⟨Nat.le_of_ble_eq_true rfl, Nat.le_of_ble_eq_true rfl⟩ ⟨rfl, rfl⟩ (Nat.le_of_ble_eq_true rfl) fl_X5_15 (v := .ref (b + 72)) rfl dX5_drawGap_138 ?_
            refine lv_iload_n (pc := 141) C0.1 C0.2.1 dX5_drawGap_141 rfl (lv_at hl 5 rfl) ?_
            refine xiald (pc := 142) (N := 1200) C0 hH 72 ⟨Nat.le_of_ble_eq_true rfl, Nat.le_of_ble_eq_true rfl⟩ ⟨rfl, rfl⟩ (vI (by omega) (by omega)) dX5_drawGap_142 ?_
            refine lv_iload (pc := 143) C0.1 C0.2.1 dX5_drawGap_143 (lv_at hl 0 rfl) ?_
            refine lv_iconst (pc := 145) (v := 3) C0.1 C0.2.1 dX5_drawGap_145 (by decide) ?_
            refine lv_icmp_eq (pc := 146) (tgt := 155) C0.1 C0.2.1 dX5_drawGap_146 (by decide) (fun c14 => ?_) (fun c14 => ?_)
            · have : Int32.toInt 3 = 3 := rfl
              have c14 := congrArg Int32.toInt c14
              refine lv_iload (pc := 155) C0.1 C0.2.1 dX5_drawGap_155 (lv_at hl 9 rfl) ?_
              refine lv_goto (pc := 157) (tgt := 161) C0.1 C0.2.1 dX5_drawGap_157 (by decide) ?_
              refine lv_iadd (pc := 161) C0.1 C0.2.1 dX5_drawGap_161 ?_
              refine lv_aload (pc := 162) C0.1 C0.2.1 dX5_drawGap_162 (lv_at hl 8 rfl) ?_
              refine xcVV (pc := 164) 70 [.int ((F 72 (Int32.toNatClampNeg x)) + w), .ref (b + 75)] (g_X5_beginLine_75 l D tA b i F G ((F 72 (Int32.toNatClampNeg x)) + w) hF hQ (show (0 ≤ Int32.toInt (i 73 1) ∧ Int32.toInt (i 73 1) ≤ 4000) ∧ (0 ≤ Int32.toInt (i 75 1) ∧ Int32.toInt (i 75 1) ≤ 4000) from by omega) ) C0 hH hS clX5 rfl ⟨⟨Nat.le_of_ble_eq_true rfl, Nat.le_of_ble_eq_true rfl⟩, rfl, rfl⟩ cw_X5_139 rfl ⟨Nat.le_of_ble_eq_true rfl, Nat.le_of_ble_eq_true rfl⟩ hl.1 rfl (Nat.le_of_ble_eq_true rfl) dX5_drawGap_164 ⟨Nat.le_of_ble_eq_true rfl, Nat.le_of_ble_eq_true rfl⟩ (fun ir15 Fr15 Gr15 _ locs hp hH hS => ?_)
              obtain ⟨honr15, hs1r15, hs2r15⟩ := hp
              dsimp only at hs1r15 hs2r15
              have hF : Tf17 ir15 Fr15 := Tf17.on (i := i) (F := F) hF honr15 (by decide)
              have hQ : Pp17 600 ir15 Fr15 := Pp17.on (i := i) (F := F) hQ honr15 (by decide)
              have ek_4_1r15 : Int32.toInt (ir15 4 1) = Int32.toInt (i 4 1) := congrArg Int32.toInt (congrFun (honr15.1 4 (by decide)).1 1)
              refine lv_goto (pc := 167) (tgt := 177) C0.1 C0.2.1 dX5_drawGap_167 (by decide) ?_
              exact xvret (pc := 177) C0 hr hH hS dX5_drawGap_177 ⟨(On.tr On.rf honr15 (by decide) (by decide)), (show (0 ≤ Int32.toInt (ir15 73 1) ∧ Int32.toInt (ir15 73 1) ≤ 4000) ∧ (0 ≤ Int32.toInt (ir15 75 1) ∧ Int32.toInt (ir15 75 1) ≤ 4000) from by omega)⟩
            · have : Int32.toInt 3 = 3 := rfl
              have c14 : ¬ _ := fun q => c14 (Int32.toInt_inj.mp q)
              refine lv_iload (pc := 149) C0.1 C0.2.1 dX5_drawGap_149 (lv_at hl 0 rfl) ?_
              refine lv_iconst (pc := 151) (v := 5) C0.1 C0.2.1 dX5_drawGap_151 (by decide) ?_
              refine lv_icmp_ne (pc := 152) (tgt := 160) C0.1 C0.2.1 dX5_drawGap_152 (by decide) (fun c16 => ?_) (fun c16 => ?_)
              · have : Int32.toInt 5 = 5 := rfl
                have c16 : ¬ _ := fun q => c16 (Int32.toInt_inj.mp q)
                refine lv_iconst (pc := 160) (v := 0) C0.1 C0.2.1 dX5_drawGap_160 (by decide) ?_
                refine lv_iadd (pc := 161) C0.1 C0.2.1 dX5_drawGap_161 ?_
                refine lv_aload (pc := 162) C0.1 C0.2.1 dX5_drawGap_162 (lv_at hl 8 rfl) ?_
                refine xcVV (pc := 164) 70 [.int ((F 72 (Int32.toNatClampNeg x)) + 0), .ref (b + 75)] (g_X5_beginLine_75 l D tA b i F G ((F 72 (Int32.toNatClampNeg x)) + 0) hF hQ (show (0 ≤ Int32.toInt (i 73 1) ∧ Int32.toInt (i 73 1) ≤ 4000) ∧ (0 ≤ Int32.toInt (i 75 1) ∧ Int32.toInt (i 75 1) ≤ 4000) from by omega) ) C0 hH hS clX5 rfl ⟨⟨Nat.le_of_ble_eq_true rfl, Nat.le_of_ble_eq_true rfl⟩, rfl, rfl⟩ cw_X5_139 rfl ⟨Nat.le_of_ble_eq_true rfl, Nat.le_of_ble_eq_true rfl⟩ hl.1 rfl (Nat.le_of_ble_eq_true rfl) dX5_drawGap_164 ⟨Nat.le_of_ble_eq_true rfl, Nat.le_of_ble_eq_true rfl⟩ (fun ir17 Fr17 Gr17 _ locs hp hH hS => ?_)
                obtain ⟨honr17, hs1r17, hs2r17⟩ := hp
                dsimp only at hs1r17 hs2r17
                have hF : Tf17 ir17 Fr17 := Tf17.on (i := i) (F := F) hF honr17 (by decide)
                have hQ : Pp17 600 ir17 Fr17 := Pp17.on (i := i) (F := F) hQ honr17 (by decide)
                have ek_4_1r17 : Int32.toInt (ir17 4 1) = Int32.toInt (i 4 1) := congrArg Int32.toInt (congrFun (honr17.1 4 (by decide)).1 1)
                refine lv_goto (pc := 167) (tgt := 177) C0.1 C0.2.1 dX5_drawGap_167 (by decide) ?_
                exact xvret (pc := 177) C0 hr hH hS dX5_drawGap_177 ⟨(On.tr On.rf honr17 (by decide) (by decide)), (show (0 ≤ Int32.toInt (ir17 73 1) ∧ Int32.toInt (ir17 73 1) ≤ 4000) ∧ (0 ≤ Int32.toInt (ir17 75 1) ∧ Int32.toInt (ir17 75 1) ≤ 4000) from by omega)⟩
              · have : Int32.toInt 5 = 5 := rfl
                have c16 := congrArg Int32.toInt c16
                refine lv_iload (pc := 155) C0.1 C0.2.1 dX5_drawGap_155 (lv_at hl 9 rfl) ?_
                refine lv_goto (pc := 157) (tgt := 161) C0.1 C0.2.1 dX5_drawGap_157 (by decide) ?_
                refine lv_iadd (pc := 161) C0.1 C0.2.1 dX5_drawGap_161 ?_
                refine lv_aload (pc := 162) C0.1 C0.2.1 dX5_drawGap_162 (lv_at hl 8 rfl) ?_
                refine xcVV (pc := 164) 70 [.int ((F 72 (Int32.toNatClampNeg x)) + w), .ref (b + 75)] (g_X5_beginLine_75 l D tA b i F G ((F 72 (Int32.toNatClampNeg x)) + w) hF hQ (show (0 ≤ Int32.toInt (i 73 1) ∧ Int32.toInt (i 73 1) ≤ 4000) ∧ (0 ≤ Int32.toInt (i 75 1) ∧ Int32.toInt (i 75 1) ≤ 4000) from by omega) ) C0 hH hS clX5 rfl ⟨⟨Nat.le_of_ble_eq_true rfl, Nat.le_of_ble_eq_true rfl⟩, rfl, rfl⟩ cw_X5_139 rfl ⟨Nat.le_of_ble_eq_true rfl, Nat.le_of_ble_eq_true rfl⟩ hl.1 rfl (Nat.le_of_ble_eq_true rfl) dX5_drawGap_164 ⟨Nat.le_of_ble_eq_true rfl, Nat.le_of_ble_eq_true rfl⟩ (fun ir18 Fr18 Gr18 _ locs hp hH hS => ?_)
                obtain ⟨honr18, hs1r18, hs2r18⟩ := hp
                dsimp only at hs1r18 hs2r18
                have hF : Tf17 ir18 Fr18 := Tf17.on (i := i) (F := F) hF honr18 (by decide)
                have hQ : Pp17 600 ir18 Fr18 := Pp17.on (i := i) (F := F) hQ honr18 (by decide)
                have ek_4_1r18 : Int32.toInt (ir18 4 1) = Int32.toInt (i 4 1) := congrArg Int32.toInt (congrFun (honr18.1 4 (by decide)).1 1)
                refine lv_goto (pc := 167) (tgt := 177) C0.1 C0.2.1 dX5_drawGap_167 (by decide) ?_
                exact xvret (pc := 177) C0 hr hH hS dX5_drawGap_177 ⟨(On.tr On.rf honr18 (by decide) (by decide)), (show (0 ≤ Int32.toInt (ir18 73 1) ∧ Int32.toInt (ir18 73 1) ≤ 4000) ∧ (0 ≤ Int32.toInt (ir18 75 1) ∧ Int32.toInt (ir18 75 1) ≤ 4000) from by omega)⟩
  · have c3 := congrArg Int32.toInt c3
    refine lv_iload (pc := 40) C0.1 C0.2.1 dX5_drawGap_40 (lv_at hl 0 rfl) ?_
    refine lv_iconst (pc := 42) (v := 4) C0.1 C0.2.1 dX5_drawGap_42 (by decide) ?_
    refine lv_icmp_eq (pc := 43) (tgt := 88) C0.1 C0.2.1 dX5_drawGap_43 (by decide) (fun c19 => ?_) (fun c19 => ?_)
    · have : Int32.toInt 4 = 4 := rfl
      have c19 := congrArg Int32.toInt c19
      refine lv_iload_n (pc := 88) C0.1 C0.2.1 dX5_drawGap_88 rfl (lv_at hl 6 rfl) ?_
      refine lv_aload_n (pc := 89) C0.1 C0.2.1 dX5_drawGap_89 rfl (lv_at hl 4 rfl) ?_
      refine xget (pc := 90) C0 hH 17 1 clX8 ⟨Nat.le_of_ble_eq_true rfl, Nat.le_of_ble_eq_true rfl⟩ ⟨rfl, rfl⟩ (Nat.le_of_ble_eq_true rfl) fl_X5_24 (v := .ref (b + 28)) rfl dX5_drawGap_90 ?_
      refine xget (pc := 93) C0 hH 28 2 clX2 ⟨Nat.le_of_ble_eq_true rfl, Nat.le_of_ble_eq_true rfl⟩ ⟨rfl, rfl⟩ (Nat.le_of_ble_eq_true rfl) fl_X5_60 (v := .ref (b + 31)) rfl dX5_drawGap_93 ?_
      refine lv_iload_n (pc := 96) C0.1 C0.2.1 dX5_drawGap_96 rfl (lv_at hl 5 rfl) ?_
      refine xiald (pc := 97) (N := 1200) C0 hH 31 ⟨Nat.le_of_ble_eq_true rfl, Nat.le_of_ble_eq_true rfl⟩ ⟨rfl, rfl⟩ (vI (by omega) (by omega)) dX5_drawGap_97 ?_
      refine lv_icmp_eq (pc := 98) (tgt := 170) C0.1 C0.2.1 dX5_drawGap_98 (by decide) (fun c20 => ?_) (fun c20 => ?_)
      · have c20 := congrArg Int32.toInt c20
        refine lv_aload (pc := 170) C0.1 C0.2.1 dX5_drawGap_170 (lv_at hl 8 rfl) ?_
        refine lv_bipush (pc := 172) (v := 32) C0.1 C0.2.1 dX5_drawGap_172 (by decide) ?_
        refine xcVV (pc := 174) 75 [.int 32] (g_X3_put_75 l D tA b i F G 32 (show 0 ≤ Int32.toInt (i 75 1) ∧ Int32.toInt (i 75 1) ≤ 4000 from by omega)) C0 hH hS clX3 rfl ⟨⟨Nat.le_of_ble_eq_true rfl, Nat.le_of_ble_eq_true rfl⟩, rfl, rfl⟩ cw_X5_69 rfl ⟨Nat.le_of_ble_eq_true rfl, Nat.le_of_ble_eq_true rfl⟩ hl.1 rfl (Nat.le_of_ble_eq_true rfl) dX5_drawGap_174 ⟨Nat.le_of_ble_eq_true rfl, Nat.le_of_ble_eq_true rfl⟩ (fun ir21 Fr21 Gr21 _ locs hp hH hS => ?_)
        obtain ⟨honr21, hs1r21, hs2r21⟩ := hp
        dsimp only at hs1r21 hs2r21
        have hF : Tf17 ir21 Fr21 := Tf17.on (i := i) (F := F) hF honr21 (by decide)
        have hQ : Pp17 600 ir21 Fr21 := Pp17.on (i := i) (F := F) hQ honr21 (by decide)
        have ek_73_1r21 : Int32.toInt (ir21 73 1) = Int32.toInt (i 73 1) := congrArg Int32.toInt (congrFun (honr21.1 73 (by decide)).1 1)
        have ek_4_1r21 : Int32.toInt (ir21 4 1) = Int32.toInt (i 4 1) := congrArg Int32.toInt (congrFun (honr21.1 4 (by decide)).1 1)
        exact xvret (pc := 177) C0 hr hH hS dX5_drawGap_177 ⟨(On.tr On.rf honr21 (by decide) (by decide)), (show (0 ≤ Int32.toInt (ir21 73 1) ∧ Int32.toInt (ir21 73 1) ≤ 4000) ∧ (0 ≤ Int32.toInt (ir21 75 1) ∧ Int32.toInt (ir21 75 1) ≤ 4000) from by omega)⟩
      · have c20 : ¬ _ := fun q => c20 (Int32.toInt_inj.mp q)
        refine lv_aload (pc := 101) C0.1 C0.2.1 dX5_drawGap_101 (lv_at hl 2 rfl) ?_
        refine lv_iload (pc := 103) C0.1 C0.2.1 dX5_drawGap_103 (lv_at hl 7 rfl) ?_
        refine xcVI (pc := 105) 18 [.int z] (g_X0_has_18 l D tA b i F G z ) C0 hH hS clX0 rfl ⟨⟨Nat.le_of_ble_eq_true rfl, Nat.le_of_ble_eq_true rfl⟩, rfl, rfl⟩ cw_X5_97 rfl ⟨Nat.le_of_ble_eq_true rfl, Nat.le_of_ble_eq_true rfl⟩ hl.1 rfl (Nat.le_of_ble_eq_true rfl) dX5_drawGap_105 ⟨Nat.le_of_ble_eq_true rfl, Nat.le_of_ble_eq_true rfl⟩ (fun r22 ir22 Fr22 Gr22 _ locs hp hH hS => ?_)
        obtain ⟨hu, hpr22⟩ := hp
        cases hu
        refine lv_if_eq (pc := 108) (tgt := 170) C0.1 C0.2.1 dX5_drawGap_108 (by decide) (fun c23 => ?_) (fun c23 => ?_)
        · have : Int32.toInt 0 = 0 := rfl
          have c23 := congrArg Int32.toInt c23
          refine lv_aload (pc := 170) C0.1 C0.2.1 dX5_drawGap_170 (lv_at hl 8 rfl) ?_
          refine lv_bipush (pc := 172) (v := 32) C0.1 C0.2.1 dX5_drawGap_172 (by decide) ?_
          refine xcVV (pc := 174) 75 [.int 32] (g_X3_put_75 l D tA b i F G 32 (show 0 ≤ Int32.toInt (i 75 1) ∧ Int32.toInt (i 75 1) ≤ 4000 from by omega)) C0 hH hS clX3 rfl ⟨⟨Nat.le_of_ble_eq_true rfl, Nat.le_of_ble_eq_true rfl⟩, rfl, rfl⟩ cw_X5_69 rfl ⟨Nat.le_of_ble_eq_true rfl, Nat.le_of_ble_eq_true rfl⟩ hl.1 rfl (Nat.le_of_ble_eq_true rfl) dX5_drawGap_174 ⟨Nat.le_of_ble_eq_true rfl, Nat.le_of_ble_eq_true rfl⟩ (fun ir24 Fr24 Gr24 _ locs hp hH hS => ?_)
          obtain ⟨honr24, hs1r24, hs2r24⟩ := hp
          dsimp only at hs1r24 hs2r24
          have hF : Tf17 ir24 Fr24 := Tf17.on (i := i) (F := F) hF honr24 (by decide)
          have hQ : Pp17 600 ir24 Fr24 := Pp17.on (i := i) (F := F) hQ honr24 (by decide)
          have ek_73_1r24 : Int32.toInt (ir24 73 1) = Int32.toInt (i 73 1) := congrArg Int32.toInt (congrFun (honr24.1 73 (by decide)).1 1)
          have ek_4_1r24 : Int32.toInt (ir24 4 1) = Int32.toInt (i 4 1) := congrArg Int32.toInt (congrFun (honr24.1 4 (by decide)).1 1)
          exact xvret (pc := 177) C0 hr hH hS dX5_drawGap_177 ⟨(On.tr On.rf honr24 (by decide) (by decide)), (show (0 ≤ Int32.toInt (ir24 73 1) ∧ Int32.toInt (ir24 73 1) ≤ 4000) ∧ (0 ≤ Int32.toInt (ir24 75 1) ∧ Int32.toInt (ir24 75 1) ≤ 4000) from by omega)⟩
        · have : Int32.toInt 0 = 0 := rfl
          have c23 : ¬ _ := fun q => c23 (Int32.toInt_inj.mp q)
          refine lv_aload (pc := 111) C0.1 C0.2.1 dX5_drawGap_111 (lv_at hl 2 rfl) ?_
          refine xget (pc := 113) C0 hH 18 0 clX0 ⟨Nat.le_of_ble_eq_true rfl, Nat.le_of_ble_eq_true rfl⟩ ⟨rfl, rfl⟩ (Nat.le_of_ble_eq_true rfl) fl_X5_103 (v := .ref (b + 19)) rfl dX5_drawGap_113 ?_
          refine lv_iload (pc := 116) C0.1 C0.2.1 dX5_drawGap_116 (lv_at hl 7 rfl) ?_
          refine xiald (pc := 118) (N := 601) C0 hH 19 ⟨Nat.le_of_ble_eq_true rfl, Nat.le_of_ble_eq_true rfl⟩ ⟨rfl, rfl⟩ (vI (by omega) (by omega)) dX5_drawGap_118 ?_
          refine xcNI (pc := 119) [.int (F 19 (Int32.toNatClampNeg z))] (c_X9_isStepped l D tA b 0 78 i F G (F 19 (Int32.toNatClampNeg z))) C0 hH hS cw_X5_106 st_X9_isStepped rfl ⟨Nat.le_of_ble_eq_true rfl, Nat.le_of_ble_eq_true rfl⟩ hl.1 rfl (Nat.le_of_ble_eq_true rfl) dX5_drawGap_119 ⟨Nat.le_of_ble_eq_true rfl, Nat.le_of_ble_eq_true rfl⟩ (fun r25 ir25 Fr25 Gr25 _ locs hp hH hS => ?_)
          obtain ⟨hu, rfl⟩ := hp
          cases hu
          refine lv_if_eq (pc := 122) (tgt := 170) C0.1 C0.2.1 dX5_drawGap_122 (by decide) (fun c26 => ?_) (fun c26 => ?_)
          · have c26 := stp_0 c26
            refine lv_aload (pc := 170) C0.1 C0.2.1 dX5_drawGap_170 (lv_at hl 8 rfl) ?_
            refine lv_bipush (pc := 172) (v := 32) C0.1 C0.2.1 dX5_drawGap_172 (by decide) ?_
            refine xcVV (pc := 174) 75 [.int 32] (g_X3_put_75 l D tA b i F G 32 (show 0 ≤ Int32.toInt (i 75 1) ∧ Int32.toInt (i 75 1) ≤ 4000 from by omega)) C0 hH hS clX3 rfl ⟨⟨Nat.le_of_ble_eq_true rfl, Nat.le_of_ble_eq_true rfl⟩, rfl, rfl⟩ cw_X5_69 rfl ⟨Nat.le_of_ble_eq_true rfl, Nat.le_of_ble_eq_true rfl⟩ hl.1 rfl (Nat.le_of_ble_eq_true rfl) dX5_drawGap_174 ⟨Nat.le_of_ble_eq_true rfl, Nat.le_of_ble_eq_true rfl⟩ (fun ir27 Fr27 Gr27 _ locs hp hH hS => ?_)
            obtain ⟨honr27, hs1r27, hs2r27⟩ := hp
            dsimp only at hs1r27 hs2r27
            have hF : Tf17 ir27 Fr27 := Tf17.on (i := i) (F := F) hF honr27 (by decide)
            have hQ : Pp17 600 ir27 Fr27 := Pp17.on (i := i) (F := F) hQ honr27 (by decide)
            have ek_73_1r27 : Int32.toInt (ir27 73 1) = Int32.toInt (i 73 1) := congrArg Int32.toInt (congrFun (honr27.1 73 (by decide)).1 1)
            have ek_4_1r27 : Int32.toInt (ir27 4 1) = Int32.toInt (i 4 1) := congrArg Int32.toInt (congrFun (honr27.1 4 (by decide)).1 1)
            exact xvret (pc := 177) C0 hr hH hS dX5_drawGap_177 ⟨(On.tr On.rf honr27 (by decide) (by decide)), (show (0 ≤ Int32.toInt (ir27 73 1) ∧ Int32.toInt (ir27 73 1) ≤ 4000) ∧ (0 ≤ Int32.toInt (ir27 75 1) ∧ Int32.toInt (ir27 75 1) ≤ 4000) from by omega)⟩
          · have c26 := stp_1 c26
            refine lv_aload (pc := 125) C0.1 C0.2.1 dX5_drawGap_125 (lv_at hl 2 rfl) ?_
            refine xget (pc := 127) C0 hH 18 3 clX0 ⟨Nat.le_of_ble_eq_true rfl, Nat.le_of_ble_eq_true rfl⟩ ⟨rfl, rfl⟩ (Nat.le_of_ble_eq_true rfl) fl_X5_133 (v := .ref (b + 22)) rfl dX5_drawGap_127 ?_
            refine lv_iload (pc := 130) C0.1 C0.2.1 dX5_drawGap_130 (lv_at hl 7 rfl) ?_
            refine xiald (pc := 132) (N := 601) C0 hH 22 ⟨Nat.le_of_ble_eq_true rfl, Nat.le_of_ble_eq_true rfl⟩ ⟨rfl, rfl⟩ (vI (by omega) (by omega)) dX5_drawGap_132 ?_
            refine lv_if_le (pc := 133) (tgt := 170) C0.1 C0.2.1 dX5_drawGap_133 (by decide) (fun c28 => ?_) (fun c28 => ?_)
            · have : Int32.toInt 0 = 0 := rfl
              have c28 := Int32.le_iff_toInt_le.mp c28
              refine lv_aload (pc := 170) C0.1 C0.2.1 dX5_drawGap_170 (lv_at hl 8 rfl) ?_
              refine lv_bipush (pc := 172) (v := 32) C0.1 C0.2.1 dX5_drawGap_172 (by decide) ?_
              refine xcVV (pc := 174) 75 [.int 32] (g_X3_put_75 l D tA b i F G 32 (show 0 ≤ Int32.toInt (i 75 1) ∧ Int32.toInt (i 75 1) ≤ 4000 from by omega)) C0 hH hS clX3 rfl ⟨⟨Nat.le_of_ble_eq_true rfl, Nat.le_of_ble_eq_true rfl⟩, rfl, rfl⟩ cw_X5_69 rfl ⟨Nat.le_of_ble_eq_true rfl, Nat.le_of_ble_eq_true rfl⟩ hl.1 rfl (Nat.le_of_ble_eq_true rfl) dX5_drawGap_174 ⟨Nat.le_of_ble_eq_true rfl, Nat.le_of_ble_eq_true rfl⟩ (fun ir29 Fr29 Gr29 _ locs hp hH hS => ?_)
              obtain ⟨honr29, hs1r29, hs2r29⟩ := hp
              dsimp only at hs1r29 hs2r29
              have hF : Tf17 ir29 Fr29 := Tf17.on (i := i) (F := F) hF honr29 (by decide)
              have hQ : Pp17 600 ir29 Fr29 := Pp17.on (i := i) (F := F) hQ honr29 (by decide)
              have ek_73_1r29 : Int32.toInt (ir29 73 1) = Int32.toInt (i 73 1) := congrArg Int32.toInt (congrFun (honr29.1 73 (by decide)).1 1)
              have ek_4_1r29 : Int32.toInt (ir29 4 1) = Int32.toInt (i 4 1) := congrArg Int32.toInt (congrFun (honr29.1 4 (by decide)).1 1)
              exact xvret (pc := 177) C0 hr hH hS dX5_drawGap_177 ⟨(On.tr On.rf honr29 (by decide) (by decide)), (show (0 ≤ Int32.toInt (ir29 73 1) ∧ Int32.toInt (ir29 73 1) ≤ 4000) ∧ (0 ≤ Int32.toInt (ir29 75 1) ∧ Int32.toInt (ir29 75 1) ≤ 4000) from by omega)⟩
            · have : Int32.toInt 0 = 0 := rfl
              have c28 : ¬ _ := fun q => c28 (Int32.le_iff_toInt_le.mpr q)
              refine lv_aload_n (pc := 136) C0.1 C0.2.1 dX5_drawGap_136 rfl (lv_at hl 3 rfl) ?_
              refine lv_aload_n (pc := 137) C0.1 C0.2.1 dX5_drawGap_137 rfl (lv_at hl 3 rfl) ?_
              refine xget (pc := 138) C0 hH 70 1 clX5 ⟨Nat.le_of_ble_eq_true rfl, Nat.le_of_ble_eq_true rfl⟩ ⟨rfl, rfl⟩ (Nat.le_of_ble_eq_true rfl) fl_X5_15 (v := .ref (b + 72)) rfl dX5_drawGap_138 ?_
              refine lv_iload_n (pc := 141) C0.1 C0.2.1 dX5_drawGap_141 rfl (lv_at hl 5 rfl) ?_
              refine xiald (pc := 142) (N := 1200) C0 hH 72 ⟨Nat.le_of_ble_eq_true rfl, Nat.le_of_ble_eq_true rfl⟩ ⟨rfl, rfl⟩ (vI (by omega) (by omega)) dX5_drawGap_142 ?_
              refine lv_iload (pc := 143) C0.1 C0.2.1 dX5_drawGap_143 (lv_at hl 0 rfl) ?_
              refine lv_iconst (pc := 145) (v := 3) C0.1 C0.2.1 dX5_drawGap_145 (by decide) ?_
              refine lv_icmp_eq (pc := 146) (tgt := 155) C0.1 C0.2.1 dX5_drawGap_146 (by decide) (fun c30 => ?_) (fun c30 => ?_)
              · have : Int32.toInt 3 = 3 := rfl
                have c30 := congrArg Int32.toInt c30
                refine lv_iload (pc := 155) C0.1 C0.2.1 dX5_drawGap_155 (lv_at hl 9 rfl) ?_
                refine lv_goto (pc := 157) (tgt := 161) C0.1 C0.2.1 dX5_drawGap_157 (by decide) ?_
                refine lv_iadd (pc := 161) C0.1 C0.2.1 dX5_drawGap_161 ?_
                refine lv_aload (pc := 162) C0.1 C0.2.1 dX5_drawGap_162 (lv_at hl 8 rfl) ?_
                refine xcVV (pc := 164) 70 [.int ((F 72 (Int32.toNatClampNeg x)) + w), .ref (b + 75)] (g_X5_beginLine_75 l D tA b i F G ((F 72 (Int32.toNatClampNeg x)) + w) hF hQ (show (0 ≤ Int32.toInt (i 73 1) ∧ Int32.toInt (i 73 1) ≤ 4000) ∧ (0 ≤ Int32.toInt (i 75 1) ∧ Int32.toInt (i 75 1) ≤ 4000) from by omega) ) C0 hH hS clX5 rfl ⟨⟨Nat.le_of_ble_eq_true rfl, Nat.le_of_ble_eq_true rfl⟩, rfl, rfl⟩ cw_X5_139 rfl ⟨Nat.le_of_ble_eq_true rfl, Nat.le_of_ble_eq_true rfl⟩ hl.1 rfl (Nat.le_of_ble_eq_true rfl) dX5_drawGap_164 ⟨Nat.le_of_ble_eq_true rfl, Nat.le_of_ble_eq_true rfl⟩ (fun ir31 Fr31 Gr31 _ locs hp hH hS => ?_)
                obtain ⟨honr31, hs1r31, hs2r31⟩ := hp
                dsimp only at hs1r31 hs2r31
                have hF : Tf17 ir31 Fr31 := Tf17.on (i := i) (F := F) hF honr31 (by decide)
                have hQ : Pp17 600 ir31 Fr31 := Pp17.on (i := i) (F := F) hQ honr31 (by decide)
                have ek_4_1r31 : Int32.toInt (ir31 4 1) = Int32.toInt (i 4 1) := congrArg Int32.toInt (congrFun (honr31.1 4 (by decide)).1 1)
                refine lv_goto (pc := 167) (tgt := 177) C0.1 C0.2.1 dX5_drawGap_167 (by decide) ?_
                exact xvret (pc := 177) C0 hr hH hS dX5_drawGap_177 ⟨(On.tr On.rf honr31 (by decide) (by decide)), (show (0 ≤ Int32.toInt (ir31 73 1) ∧ Int32.toInt (ir31 73 1) ≤ 4000) ∧ (0 ≤ Int32.toInt (ir31 75 1) ∧ Int32.toInt (ir31 75 1) ≤ 4000) from by omega)⟩
              · have : Int32.toInt 3 = 3 := rfl
                have c30 : ¬ _ := fun q => c30 (Int32.toInt_inj.mp q)
                refine lv_iload (pc := 149) C0.1 C0.2.1 dX5_drawGap_149 (lv_at hl 0 rfl) ?_
                refine lv_iconst (pc := 151) (v := 5) C0.1 C0.2.1 dX5_drawGap_151 (by decide) ?_
                refine lv_icmp_ne (pc := 152) (tgt := 160) C0.1 C0.2.1 dX5_drawGap_152 (by decide) (fun c32 => ?_) (fun c32 => ?_)
                · have : Int32.toInt 5 = 5 := rfl
                  have c32 : ¬ _ := fun q => c32 (Int32.toInt_inj.mp q)
                  refine lv_iconst (pc := 160) (v := 0) C0.1 C0.2.1 dX5_drawGap_160 (by decide) ?_
                  refine lv_iadd (pc := 161) C0.1 C0.2.1 dX5_drawGap_161 ?_
                  refine lv_aload (pc := 162) C0.1 C0.2.1 dX5_drawGap_162 (lv_at hl 8 rfl) ?_
                  refine xcVV (pc := 164) 70 [.int ((F 72 (Int32.toNatClampNeg x)) + 0), .ref (b + 75)] (g_X5_beginLine_75 l D tA b i F G ((F 72 (Int32.toNatClampNeg x)) + 0) hF hQ (show (0 ≤ Int32.toInt (i 73 1) ∧ Int32.toInt (i 73 1) ≤ 4000) ∧ (0 ≤ Int32.toInt (i 75 1) ∧ Int32.toInt (i 75 1) ≤ 4000) from by omega) ) C0 hH hS clX5 rfl ⟨⟨Nat.le_of_ble_eq_true rfl, Nat.le_of_ble_eq_true rfl⟩, rfl, rfl⟩ cw_X5_139 rfl ⟨Nat.le_of_ble_eq_true rfl, Nat.le_of_ble_eq_true rfl⟩ hl.1 rfl (Nat.le_of_ble_eq_true rfl) dX5_drawGap_164 ⟨Nat.le_of_ble_eq_true rfl, Nat.le_of_ble_eq_true rfl⟩ (fun ir33 Fr33 Gr33 _ locs hp hH hS => ?_)
                  obtain ⟨honr33, hs1r33, hs2r33⟩ := hp
                  dsimp only at hs1r33 hs2r33
                  have hF : Tf17 ir33 Fr33 := Tf17.on (i := i) (F := F) hF honr33 (by decide)
                  have hQ : Pp17 600 ir33 Fr33 := Pp17.on (i := i) (F := F) hQ honr33 (by decide)
                  have ek_4_1r33 : Int32.toInt (ir33 4 1) = Int32.toInt (i 4 1) := congrArg Int32.toInt (congrFun (honr33.1 4 (by decide)).1 1)
                  refine lv_goto (pc := 167) (tgt := 177) C0.1 C0.2.1 dX5_drawGap_167 (by decide) ?_
                  exact xvret (pc := 177) C0 hr hH hS dX5_drawGap_177 ⟨(On.tr On.rf honr33 (by decide) (by decide)), (show (0 ≤ Int32.toInt (ir33 73 1) ∧ Int32.toInt (ir33 73 1) ≤ 4000) ∧ (0 ≤ Int32.toInt (ir33 75 1) ∧ Int32.toInt (ir33 75 1) ≤ 4000) from by omega)⟩
                · have : Int32.toInt 5 = 5 := rfl
                  have c32 := congrArg Int32.toInt c32
                  refine lv_iload (pc := 155) C0.1 C0.2.1 dX5_drawGap_155 (lv_at hl 9 rfl) ?_
                  refine lv_goto (pc := 157) (tgt := 161) C0.1 C0.2.1 dX5_drawGap_157 (by decide) ?_
                  refine lv_iadd (pc := 161) C0.1 C0.2.1 dX5_drawGap_161 ?_
                  refine lv_aload (pc := 162) C0.1 C0.2.1 dX5_drawGap_162 (lv_at hl 8 rfl) ?_
                  refine xcVV (pc := 164) 70 [.int ((F 72 (Int32.toNatClampNeg x)) + w), .ref (b + 75)] (g_X5_beginLine_75 l D tA b i F G ((F 72 (Int32.toNatClampNeg x)) + w) hF hQ (show (0 ≤ Int32.toInt (i 73 1) ∧ Int32.toInt (i 73 1) ≤ 4000) ∧ (0 ≤ Int32.toInt (i 75 1) ∧ Int32.toInt (i 75 1) ≤ 4000) from by omega) ) C0 hH hS clX5 rfl ⟨⟨Nat.le_of_ble_eq_true rfl, Nat.le_of_ble_eq_true rfl⟩, rfl, rfl⟩ cw_X5_139 rfl ⟨Nat.le_of_ble_eq_true rfl, Nat.le_of_ble_eq_true rfl⟩ hl.1 rfl (Nat.le_of_ble_eq_true rfl) dX5_drawGap_164 ⟨Nat.le_of_ble_eq_true rfl, Nat.le_of_ble_eq_true rfl⟩ (fun ir34 Fr34 Gr34 _ locs hp hH hS => ?_)
                  obtain ⟨honr34, hs1r34, hs2r34⟩ := hp
                  dsimp only at hs1r34 hs2r34
                  have hF : Tf17 ir34 Fr34 := Tf17.on (i := i) (F := F) hF honr34 (by decide)
                  have hQ : Pp17 600 ir34 Fr34 := Pp17.on (i := i) (F := F) hQ honr34 (by decide)
                  have ek_4_1r34 : Int32.toInt (ir34 4 1) = Int32.toInt (i 4 1) := congrArg Int32.toInt (congrFun (honr34.1 4 (by decide)).1 1)
                  refine lv_goto (pc := 167) (tgt := 177) C0.1 C0.2.1 dX5_drawGap_167 (by decide) ?_
                  exact xvret (pc := 177) C0 hr hH hS dX5_drawGap_177 ⟨(On.tr On.rf honr34 (by decide) (by decide)), (show (0 ≤ Int32.toInt (ir34 73 1) ∧ Int32.toInt (ir34 73 1) ≤ 4000) ∧ (0 ≤ Int32.toInt (ir34 75 1) ∧ Int32.toInt (ir34 75 1) ≤ 4000) from by omega)⟩
    · have : Int32.toInt 4 = 4 := rfl
      have c19 : ¬ _ := fun q => c19 (Int32.toInt_inj.mp q)
      refine lv_aload_n (pc := 46) C0.1 C0.2.1 dX5_drawGap_46 rfl (lv_at hl 3 rfl) ?_
      refine xget (pc := 47) C0 hH 70 1 clX5 ⟨Nat.le_of_ble_eq_true rfl, Nat.le_of_ble_eq_true rfl⟩ ⟨rfl, rfl⟩ (Nat.le_of_ble_eq_true rfl) fl_X5_15 (v := .ref (b + 72)) rfl dX5_drawGap_47 ?_
      refine lv_iload_n (pc := 50) C0.1 C0.2.1 dX5_drawGap_50 rfl (lv_at hl 5 rfl) ?_
      refine lv_iload (pc := 51) C0.1 C0.2.1 dX5_drawGap_51 (lv_at hl 0 rfl) ?_
      refine lv_if_ne (pc := 53) (tgt := 60) C0.1 C0.2.1 dX5_drawGap_53 (by decide) (fun c35 => ?_) (fun c35 => ?_)
      · have : Int32.toInt 0 = 0 := rfl
        have c35 : ¬ _ := fun q => c35 (Int32.toInt_inj.mp q)
        refine lv_aload_n (pc := 60) C0.1 C0.2.1 dX5_drawGap_60 rfl (lv_at hl 3 rfl) ?_
        refine xget (pc := 61) C0 hH 70 0 clX5 ⟨Nat.le_of_ble_eq_true rfl, Nat.le_of_ble_eq_true rfl⟩ ⟨rfl, rfl⟩ (Nat.le_of_ble_eq_true rfl) fl_X5_9 (v := .ref (b + 71)) rfl dX5_drawGap_61 ?_
        refine lv_iload (pc := 64) C0.1 C0.2.1 dX5_drawGap_64 (lv_at hl 1 rfl) ?_
        refine xiald (pc := 66) (N := 601) C0 hH 71 ⟨Nat.le_of_ble_eq_true rfl, Nat.le_of_ble_eq_true rfl⟩ ⟨rfl, rfl⟩ (vI (by omega) (by omega)) dX5_drawGap_66 ?_
        refine lv_iconst (pc := 67) (v := 2) C0.1 C0.2.1 dX5_drawGap_67 (by decide) ?_
        refine lv_iload (pc := 68) C0.1 C0.2.1 dX5_drawGap_68 (lv_at hl 9 rfl) ?_
        refine lv_imul (pc := 70) C0.1 C0.2.1 dX5_drawGap_70 ?_
        refine lv_iadd (pc := 71) C0.1 C0.2.1 dX5_drawGap_71 ?_
        refine xiast (pc := 72) (N := 1200) C0 (Nat.le_of_ble_eq_true rfl) hH hS 72 ⟨Nat.le_of_ble_eq_true rfl, Nat.le_of_ble_eq_true rfl⟩ ⟨rfl, rfl⟩ (vI (by omega) (by omega)) dX5_drawGap_72 (fun _ locs hH hS _ => ?_)
        have hH : Hd D tA b 0 78 zz i (va_up F 72 (upd (F 72) (Int32.toNatClampNeg x) ((F 71 (Int32.toNatClampNeg x1)) + (2 * w)))) G _ := hH
        refine lv_aload_n (pc := 73) C0.1 C0.2.1 dX5_drawGap_73 rfl (lv_at hl 3 rfl) ?_
        refine lv_aload_n (pc := 74) C0.1 C0.2.1 dX5_drawGap_74 rfl (lv_at hl 3 rfl) ?_
        refine xget (pc := 75) C0 hH 70 1 clX5 ⟨Nat.le_of_ble_eq_true rfl, Nat.le_of_ble_eq_true rfl⟩ ⟨rfl, rfl⟩ (Nat.le_of_ble_eq_true rfl) fl_X5_15 (v := .ref (b + 72)) rfl dX5_drawGap_75 ?_
        refine lv_iload_n (pc := 78) C0.1 C0.2.1 dX5_drawGap_78 rfl (lv_at hl 5 rfl) ?_
        refine xiald (pc := 79) (N := 1200) C0 hH 72 ⟨Nat.le_of_ble_eq_true rfl, Nat.le_of_ble_eq_true rfl⟩ ⟨rfl, rfl⟩ (vI (by omega) (by omega)) dX5_drawGap_79 ?_
        refine lv_aload (pc := 80) C0.1 C0.2.1 dX5_drawGap_80 (lv_at hl 8 rfl) ?_
        refine xcVV (pc := 82) 70 [.int (upd (F 72) (Int32.toNatClampNeg x) ((F 71 (Int32.toNatClampNeg x1)) + (2 * w)) (Int32.toNatClampNeg x)), .ref (b + 75)] (g_X5_beginLine_75 l D tA b i (va_up F 72 (upd (F 72) (Int32.toNatClampNeg x) ((F 71 (Int32.toNatClampNeg x1)) + (2 * w)))) G (upd (F 72) (Int32.toNatClampNeg x) ((F 71 (Int32.toNatClampNeg x1)) + (2 * w)) (Int32.toNatClampNeg x)) hF hQ (show (0 ≤ Int32.toInt (i 73 1) ∧ Int32.toInt (i 73 1) ≤ 4000) ∧ (0 ≤ Int32.toInt (i 75 1) ∧ Int32.toInt (i 75 1) ≤ 4000) from by omega) ) C0 hH hS clX5 rfl ⟨⟨Nat.le_of_ble_eq_true rfl, Nat.le_of_ble_eq_true rfl⟩, rfl, rfl⟩ cw_X5_139 rfl ⟨Nat.le_of_ble_eq_true rfl, Nat.le_of_ble_eq_true rfl⟩ hl.1 rfl (Nat.le_of_ble_eq_true rfl) dX5_drawGap_82 ⟨Nat.le_of_ble_eq_true rfl, Nat.le_of_ble_eq_true rfl⟩ (fun ir36 Fr36 Gr36 _ locs hp hH hS => ?_)
        obtain ⟨honr36, hs1r36, hs2r36⟩ := hp
        dsimp only at hs1r36 hs2r36
        have hF : Tf17 ir36 Fr36 := Tf17.on (i := i) (F := (va_up F 72 (upd (F 72) (Int32.toNatClampNeg x) ((F 71 (Int32.toNatClampNeg x1)) + (2 * w))))) hF honr36 (by decide)
        have hQ : Pp17 600 ir36 Fr36 := Pp17.on (i := i) (F := (va_up F 72 (upd (F 72) (Int32.toNatClampNeg x) ((F 71 (Int32.toNatClampNeg x1)) + (2 * w))))) hQ honr36 (by decide)
        have ek_4_1r36 : Int32.toInt (ir36 4 1) = Int32.toInt (i 4 1) := congrArg Int32.toInt (congrFun (honr36.1 4 (by decide)).1 1)
        refine lv_goto (pc := 85) (tgt := 177) C0.1 C0.2.1 dX5_drawGap_85 (by decide) ?_
        exact xvret (pc := 177) C0 hr hH hS dX5_drawGap_177 ⟨(On.tr (On.f On.rf (by decide)) honr36 (by decide) (by decide)), (show (0 ≤ Int32.toInt (ir36 73 1) ∧ Int32.toInt (ir36 73 1) ≤ 4000) ∧ (0 ≤ Int32.toInt (ir36 75 1) ∧ Int32.toInt (ir36 75 1) ≤ 4000) from by omega)⟩
      · have : Int32.toInt 0 = 0 := rfl
        have c35 := congrArg Int32.toInt c35
        refine lv_iconst (pc := 56) (v := 0) C0.1 C0.2.1 dX5_drawGap_56 (by decide) ?_
        refine lv_goto (pc := 57) (tgt := 72) C0.1 C0.2.1 dX5_drawGap_57 (by decide) ?_
        refine xiast (pc := 72) (N := 1200) C0 (Nat.le_of_ble_eq_true rfl) hH hS 72 ⟨Nat.le_of_ble_eq_true rfl, Nat.le_of_ble_eq_true rfl⟩ ⟨rfl, rfl⟩ (vI (by omega) (by omega)) dX5_drawGap_72 (fun _ locs hH hS _ => ?_)
        have hH : Hd D tA b 0 78 zz i (va_up F 72 (upd (F 72) (Int32.toNatClampNeg x) 0)) G _ := hH
        refine lv_aload_n (pc := 73) C0.1 C0.2.1 dX5_drawGap_73 rfl (lv_at hl 3 rfl) ?_
        refine lv_aload_n (pc := 74) C0.1 C0.2.1 dX5_drawGap_74 rfl (lv_at hl 3 rfl) ?_
        refine xget (pc := 75) C0 hH 70 1 clX5 ⟨Nat.le_of_ble_eq_true rfl, Nat.le_of_ble_eq_true rfl⟩ ⟨rfl, rfl⟩ (Nat.le_of_ble_eq_true rfl) fl_X5_15 (v := .ref (b + 72)) rfl dX5_drawGap_75 ?_
        refine lv_iload_n (pc := 78) C0.1 C0.2.1 dX5_drawGap_78 rfl (lv_at hl 5 rfl) ?_
        refine xiald (pc := 79) (N := 1200) C0 hH 72 ⟨Nat.le_of_ble_eq_true rfl, Nat.le_of_ble_eq_true rfl⟩ ⟨rfl, rfl⟩ (vI (by omega) (by omega)) dX5_drawGap_79 ?_
        refine lv_aload (pc := 80) C0.1 C0.2.1 dX5_drawGap_80 (lv_at hl 8 rfl) ?_
        refine xcVV (pc := 82) 70 [.int (upd (F 72) (Int32.toNatClampNeg x) 0 (Int32.toNatClampNeg x)), .ref (b + 75)] (g_X5_beginLine_75 l D tA b i (va_up F 72 (upd (F 72) (Int32.toNatClampNeg x) 0)) G (upd (F 72) (Int32.toNatClampNeg x) 0 (Int32.toNatClampNeg x)) hF hQ (show (0 ≤ Int32.toInt (i 73 1) ∧ Int32.toInt (i 73 1) ≤ 4000) ∧ (0 ≤ Int32.toInt (i 75 1) ∧ Int32.toInt (i 75 1) ≤ 4000) from by omega) ) C0 hH hS clX5 rfl ⟨⟨Nat.le_of_ble_eq_true rfl, Nat.le_of_ble_eq_true rfl⟩, rfl, rfl⟩ cw_X5_139 rfl ⟨Nat.le_of_ble_eq_true rfl, Nat.le_of_ble_eq_true rfl⟩ hl.1 rfl (Nat.le_of_ble_eq_true rfl) dX5_drawGap_82 ⟨Nat.le_of_ble_eq_true rfl, Nat.le_of_ble_eq_true rfl⟩ (fun ir37 Fr37 Gr37 _ locs hp hH hS => ?_)
        obtain ⟨honr37, hs1r37, hs2r37⟩ := hp
        dsimp only at hs1r37 hs2r37
        have hF : Tf17 ir37 Fr37 := Tf17.on (i := i) (F := (va_up F 72 (upd (F 72) (Int32.toNatClampNeg x) 0))) hF honr37 (by decide)
        have hQ : Pp17 600 ir37 Fr37 := Pp17.on (i := i) (F := (va_up F 72 (upd (F 72) (Int32.toNatClampNeg x) 0))) hQ honr37 (by decide)
        have ek_4_1r37 : Int32.toInt (ir37 4 1) = Int32.toInt (i 4 1) := congrArg Int32.toInt (congrFun (honr37.1 4 (by decide)).1 1)
        refine lv_goto (pc := 85) (tgt := 177) C0.1 C0.2.1 dX5_drawGap_85 (by decide) ?_
        exact xvret (pc := 177) C0 hr hH hS dX5_drawGap_177 ⟨(On.tr (On.f On.rf (by decide)) honr37 (by decide) (by decide)), (show (0 ≤ Int32.toInt (ir37 73 1) ∧ Int32.toInt (ir37 73 1) ≤ 4000) ∧ (0 ≤ Int32.toInt (ir37 75 1) ∧ Int32.toInt (ir37 75 1) ≤ 4000) from by omega)⟩
set_option maxHeartbeats 4000000 in
set_option maxRecDepth 100000 in
theorem g_X5_drawPlainly_75 (l : Launch) (D : va_G) (tA : Nat → ClassId) (b : Nat) (i F : Nat → Nat → Int32) (G : Nat → Nat → Int64)  (hF : Tf17 i F) (hQ : Pp17 600 i F) (hPg : (0 ≤ (i 73 1).toInt ∧ (i 73 1).toInt ≤ 4000) ∧ (0 ≤ (i 75 1).toInt ∧ (i 75 1).toInt ≤ 4000)) (hsz : 0 ≤ (i 4 1).toInt ∧ (i 4 1).toInt ≤ 600) : xMV l yX5_drawPlainly cX5_drawPlainly 9 none 4 88 D tA b 0 78 i F G [.ref (b + 70), .ref (b + 8), .ref (b + 4), .ref (b + 75)] (fun u => On 70 77 i F G u ∧ (0 ≤ (u.1 73 1).toInt ∧ (u.1 73 1).toInt ≤ 4000) ∧ (0 ≤ (u.1 75 1).toInt ∧ (u.1 75 1).toInt ≤ 4000)) := by
  refine xstart RX5 rfl (by decide) (Nat.le_of_ble_eq_true rfl) ?_
  intro p e s m below meth c ls C0 hr hH hS hl
  have hl : lv_has ls 9 [(0, .ref (b + 70)), (1, .ref (b + 8)), (2, .ref (b + 4)), (3, .ref (b + 75))] := hl
  have hL := Tf17.lin hF
  have L25 : ∀ (d : Nat) (k : Int32) (iv Fv : Nat → Nat → Int32) (Gv : Nat → Nat → Int64) (H : Heap) (locs : List Loc) (ls : Array Slot), (0 ≤ k.toInt) → (1201 - k.toInt ≤ d) → (On 70 77 i F G (iv, Fv, Gv)) → ((0 ≤ (iv 73 1).toInt ∧ (iv 73 1).toInt ≤ 4000) ∧ (0 ≤ (iv 75 1).toInt ∧ (iv 75 1).toInt ≤ 4000)) → Hd D tA b 0 78 zz iv Fv Gv H → va_S (xA b 0 78) s.heap H locs → lv_has ls 9 [(6, .int k), (5, .ref (b + 28)), (4, .ref (b + 17)), (0, .ref (b + 70)), (1, .ref (b + 8)), (2, .ref (b + 4)), (3, .ref (b + 75))] → W p l e (xR 4 88) s m ([.ref (b + 70), .ref (b + 8), .ref (b + 4), .ref (b + 75)] : List Value).toArray below meth c H locs 0 0 (MQ below (va_Qv (fun u => On 70 77 i F G u ∧ (0 ≤ (u.1 73 1).toInt ∧ (u.1 73 1).toInt ≤ 4000) ∧ (0 ≤ (u.1 75 1).toInt ∧ (u.1 75 1).toInt ≤ 4000)) (xB D tA b 0 78 zz) (xA b 0 78)) ([.ref (b + 70), .ref (b + 8), .ref (b + 4), .ref (b + 75)] : List Value).toArray s 0 0 (xA b 0 78)) (F0 m 25 ls []) := by
    intro d
    induction d with
    | zero =>
      intro k iv Fv Gv H locs ls h1 h2 h3 h4 hH hS hl
      have rg_k := fb_rng k
      have hF : Tf17 iv Fv := Tf17.on hF h3 (by decide)
      have hQ : Pp17 600 iv Fv := Pp17.on hQ h3 (by decide)
      have hL := Tf17.lin hF
      have ek4 : Int32.toInt (iv 4 1) = Int32.toInt (i 4 1) := congrArg Int32.toInt (congrFun (h3.1 4 (by decide)).1 1)
      refine lv_iload (pc := 25) C0.1 C0.2.1 dX5_drawPlainly_25 (lv_at hl 0 rfl) ?_
      refine lv_aload (pc := 27) C0.1 C0.2.1 dX5_drawPlainly_27 (lv_at hl 1 rfl) ?_
      refine xget (pc := 29) C0 hH 28 8 clX2 ⟨Nat.le_of_ble_eq_true rfl, Nat.le_of_ble_eq_true rfl⟩ ⟨rfl, rfl⟩ (Nat.le_of_ble_eq_true rfl) fl_X5_39 (v := .int (iv 28 8)) rfl dX5_drawPlainly_29 ?_
      refine lv_icmp_ge (pc := 32) (tgt := 165) C0.1 C0.2.1 dX5_drawPlainly_32 (by decide) (fun _ => ?_) (fun c => absurd (Int32.le_iff_toInt_le.mpr (by omega)) c)
      refine lv_aload_n (pc := 165) C0.1 C0.2.1 dX5_drawPlainly_165 rfl (lv_at hl 3 rfl) ?_
      refine lv_aload (pc := 166) C0.1 C0.2.1 dX5_drawPlainly_166 (lv_at hl 2 rfl) ?_
      refine lv_iconst (pc := 168) (v := 0) C0.1 C0.2.1 dX5_drawPlainly_168 (by decide) ?_
      refine lv_aload_n (pc := 169) C0.1 C0.2.1 dX5_drawPlainly_169 rfl (lv_at hl 6 rfl) ?_
      refine xcVV (pc := 170) 70 [.ref (b + 17), .int 0, .ref (b + 75)] (g_X5_endBlocks_75 l D tA b iv Fv Gv 0 hF hQ (show (0 ≤ Int32.toInt (iv 73 1) ∧ Int32.toInt (iv 73 1) ≤ 4000) ∧ (0 ≤ Int32.toInt (iv 75 1) ∧ Int32.toInt (iv 75 1) ≤ 4000) from by omega) ) C0 hH hS clX5 rfl ⟨⟨Nat.le_of_ble_eq_true rfl, Nat.le_of_ble_eq_true rfl⟩, rfl, rfl⟩ cw_X5_53 rfl ⟨Nat.le_of_ble_eq_true rfl, Nat.le_of_ble_eq_true rfl⟩ hl.1 rfl (Nat.le_of_ble_eq_true rfl) dX5_drawPlainly_170 ⟨Nat.le_of_ble_eq_true rfl, Nat.le_of_ble_eq_true rfl⟩ (fun ir201 Fr201 Gr201 _ locs hp hH hS => ?_)
      obtain ⟨honr201, hs1r201, hs2r201⟩ := hp
      dsimp only at hs1r201 hs2r201
      have hF : Tf17 ir201 Fr201 := Tf17.on (i := iv) (F := Fv) hF honr201 (by decide)
      have hQ : Pp17 600 ir201 Fr201 := Pp17.on (i := iv) (F := Fv) hQ honr201 (by decide)
      have ek_4_1r201 : Int32.toInt (ir201 4 1) = Int32.toInt (iv 4 1) := congrArg Int32.toInt (congrFun (honr201.1 4 (by decide)).1 1)
      exact xvret (pc := 173) C0 hr hH hS dX5_drawPlainly_173 ⟨(On.tr h3 honr201 (by decide) (by decide)), (show (0 ≤ Int32.toInt (ir201 73 1) ∧ Int32.toInt (ir201 73 1) ≤ 4000) ∧ (0 ≤ Int32.toInt (ir201 75 1) ∧ Int32.toInt (ir201 75 1) ≤ 4000) from by omega)⟩
    | succ d ih25 =>
      intro k iv Fv Gv H locs ls h1 h2 h3 h4 hH hS hl
      have rg_k := fb_rng k
      have hF : Tf17 iv Fv := Tf17.on hF h3 (by decide)
      have hQ : Pp17 600 iv Fv := Pp17.on hQ h3 (by decide)
      have hL := Tf17.lin hF
      have ek4 : Int32.toInt (iv 4 1) = Int32.toInt (i 4 1) := congrArg Int32.toInt (congrFun (h3.1 4 (by decide)).1 1)
      refine lv_iload (pc := 25) C0.1 C0.2.1 dX5_drawPlainly_25 (lv_at hl 0 rfl) ?_
      refine lv_aload (pc := 27) C0.1 C0.2.1 dX5_drawPlainly_27 (lv_at hl 1 rfl) ?_
      refine xget (pc := 29) C0 hH 28 8 clX2 ⟨Nat.le_of_ble_eq_true rfl, Nat.le_of_ble_eq_true rfl⟩ ⟨rfl, rfl⟩ (Nat.le_of_ble_eq_true rfl) fl_X5_39 (v := .int (iv 28 8)) rfl dX5_drawPlainly_29 ?_
      refine lv_icmp_ge (pc := 32) (tgt := 165) C0.1 C0.2.1 dX5_drawPlainly_32 (by decide) (fun c201 => ?_) (fun c201 => ?_)
      · have c201 := Int32.le_iff_toInt_le.mp c201
        refine lv_aload_n (pc := 165) C0.1 C0.2.1 dX5_drawPlainly_165 rfl (lv_at hl 3 rfl) ?_
        refine lv_aload (pc := 166) C0.1 C0.2.1 dX5_drawPlainly_166 (lv_at hl 2 rfl) ?_
        refine lv_iconst (pc := 168) (v := 0) C0.1 C0.2.1 dX5_drawPlainly_168 (by decide) ?_
        refine lv_aload_n (pc := 169) C0.1 C0.2.1 dX5_drawPlainly_169 rfl (lv_at hl 6 rfl) ?_
        refine xcVV (pc := 170) 70 [.ref (b + 17), .int 0, .ref (b + 75)] (g_X5_endBlocks_75 l D tA b iv Fv Gv 0 hF hQ (show (0 ≤ Int32.toInt (iv 73 1) ∧ Int32.toInt (iv 73 1) ≤ 4000) ∧ (0 ≤ Int32.toInt (iv 75 1) ∧ Int32.toInt (iv 75 1) ≤ 4000) from by omega) ) C0 hH hS clX5 rfl ⟨⟨Nat.le_of_ble_eq_true rfl, Nat.le_of_ble_eq_true rfl⟩, rfl, rfl⟩ cw_X5_53 rfl ⟨Nat.le_of_ble_eq_true rfl, Nat.le_of_ble_eq_true rfl⟩ hl.1 rfl (Nat.le_of_ble_eq_true rfl) dX5_drawPlainly_170 ⟨Nat.le_of_ble_eq_true rfl, Nat.le_of_ble_eq_true rfl⟩ (fun ir202 Fr202 Gr202 _ locs hp hH hS => ?_)
        obtain ⟨honr202, hs1r202, hs2r202⟩ := hp
        dsimp only at hs1r202 hs2r202
        have hF : Tf17 ir202 Fr202 := Tf17.on (i := iv) (F := Fv) hF honr202 (by decide)
        have hQ : Pp17 600 ir202 Fr202 := Pp17.on (i := iv) (F := Fv) hQ honr202 (by decide)
        have ek_4_1r202 : Int32.toInt (ir202 4 1) = Int32.toInt (iv 4 1) := congrArg Int32.toInt (congrFun (honr202.1 4 (by decide)).1 1)
        exact xvret (pc := 173) C0 hr hH hS dX5_drawPlainly_173 ⟨(On.tr h3 honr202 (by decide) (by decide)), (show (0 ≤ Int32.toInt (ir202 73 1) ∧ Int32.toInt (ir202 73 1) ≤ 4000) ∧ (0 ≤ Int32.toInt (ir202 75 1) ∧ Int32.toInt (ir202 75 1) ≤ 4000) from by omega)⟩
      · have c201 : ¬ _ := fun q => c201 (Int32.le_iff_toInt_le.mpr q)
        refine lv_aload (pc := 35) C0.1 C0.2.1 dX5_drawPlainly_35 (lv_at hl 1 rfl) ?_
        refine xget (pc := 37) C0 hH 28 6 clX2 ⟨Nat.le_of_ble_eq_true rfl, Nat.le_of_ble_eq_true rfl⟩ ⟨rfl, rfl⟩ (Nat.le_of_ble_eq_true rfl) fl_X5_44 (v := .ref (b + 34)) rfl dX5_drawPlainly_37 ?_
        refine lv_iload (pc := 40) C0.1 C0.2.1 dX5_drawPlainly_40 (lv_at hl 0 rfl) ?_
        refine xiald (pc := 42) (N := 1201) C0 hH 34 ⟨Nat.le_of_ble_eq_true rfl, Nat.le_of_ble_eq_true rfl⟩ ⟨rfl, rfl⟩ (vI (by omega) (by omega)) dX5_drawPlainly_42 ?_
        refine lv_topi (fun x203 ex203 => ?_)
        refine lv_istore (pc := 43) (lv' := [(7, .int x203), (6, .int k), (5, .ref (b + 28)), (4, .ref (b + 17)), (0, .ref (b + 70)), (1, .ref (b + 8)), (2, .ref (b + 4)), (3, .ref (b + 75))]) C0.1 C0.2.1 dX5_drawPlainly_43 hl (by decide) rfl (fun ls hl => ?_)
        have hv7 : 0 ≤ Int32.toInt x203 ∧ Int32.toInt x203 < 1200 := by rw [ex203]; exact hF.pi _
        refine lv_aload (pc := 45) C0.1 C0.2.1 dX5_drawPlainly_45 (lv_at hl 2 rfl) ?_
        refine xget (pc := 47) C0 hH 28 7 clX2 ⟨Nat.le_of_ble_eq_true rfl, Nat.le_of_ble_eq_true rfl⟩ ⟨rfl, rfl⟩ (Nat.le_of_ble_eq_true rfl) fl_X5_47 (v := .ref (b + 35)) rfl dX5_drawPlainly_47 ?_
        refine lv_iload (pc := 50) C0.1 C0.2.1 dX5_drawPlainly_50 (lv_at hl 1 rfl) ?_
        refine xiald (pc := 52) (N := 1201) C0 hH 35 ⟨Nat.le_of_ble_eq_true rfl, Nat.le_of_ble_eq_true rfl⟩ ⟨rfl, rfl⟩ (vI (by omega) (by omega)) dX5_drawPlainly_52 ?_
        refine lv_topi (fun x204 ex204 => ?_)
        refine lv_istore (pc := 53) (lv' := [(8, .int x204), (7, .int x203), (6, .int k), (5, .ref (b + 28)), (4, .ref (b + 17)), (0, .ref (b + 70)), (1, .ref (b + 8)), (2, .ref (b + 4)), (3, .ref (b + 75))]) C0.1 C0.2.1 dX5_drawPlainly_53 hl (by decide) rfl (fun ls hl => ?_)
        have hv8 : -2147483648 ≤ Int32.toInt x204 ∧ Int32.toInt x204 < 600 := by rw [ex204]; exact hF.pv _
        refine lv_aload_n (pc := 55) C0.1 C0.2.1 dX5_drawPlainly_55 rfl (lv_at hl 5 rfl) ?_
        refine lv_aload (pc := 56) C0.1 C0.2.1 dX5_drawPlainly_56 (lv_at hl 4 rfl) ?_
        refine lv_aload (pc := 58) C0.1 C0.2.1 dX5_drawPlainly_58 (lv_at hl 3 rfl) ?_
        refine xget (pc := 60) C0 hH 28 0 clX2 ⟨Nat.le_of_ble_eq_true rfl, Nat.le_of_ble_eq_true rfl⟩ ⟨rfl, rfl⟩ (Nat.le_of_ble_eq_true rfl) fl_X5_50 (v := .ref (b + 29)) rfl dX5_drawPlainly_60 ?_
        refine lv_iload (pc := 63) C0.1 C0.2.1 dX5_drawPlainly_63 (lv_at hl 1 rfl) ?_
        refine xiald (pc := 65) (N := 1200) C0 hH 29 ⟨Nat.le_of_ble_eq_true rfl, Nat.le_of_ble_eq_true rfl⟩ ⟨rfl, rfl⟩ (vI (by omega) (by omega)) dX5_drawPlainly_65 ?_
        refine lv_aload_n (pc := 66) C0.1 C0.2.1 dX5_drawPlainly_66 rfl (lv_at hl 8 rfl) ?_
        refine xcVV (pc := 67) 70 [.ref (b + 17), .int (Fv 29 (Int32.toNatClampNeg x203)), .ref (b + 75)] (g_X5_endBlocks_75 l D tA b iv Fv Gv (Fv 29 (Int32.toNatClampNeg x203)) hF hQ (show (0 ≤ Int32.toInt (iv 73 1) ∧ Int32.toInt (iv 73 1) ≤ 4000) ∧ (0 ≤ Int32.toInt (iv 75 1) ∧ Int32.toInt (iv 75 1) ≤ 4000) from by omega) ) C0 hH hS clX5 rfl ⟨⟨Nat.le_of_ble_eq_true rfl, Nat.le_of_ble_eq_true rfl⟩, rfl, rfl⟩ cw_X5_53 rfl ⟨Nat.le_of_ble_eq_true rfl, Nat.le_of_ble_eq_true rfl⟩ hl.1 rfl (Nat.le_of_ble_eq_true rfl) dX5_drawPlainly_67 ⟨Nat.le_of_ble_eq_true rfl, Nat.le_of_ble_eq_true rfl⟩ (fun ir205 Fr205 Gr205 _ locs hp hH hS => ?_)
        obtain ⟨honr205, hs1r205, hs2r205⟩ := hp
        dsimp only at hs1r205 hs2r205
        have hF : Tf17 ir205 Fr205 := Tf17.on (i := iv) (F := Fv) hF honr205 (by decide)
        have hQ : Pp17 600 ir205 Fr205 := Pp17.on (i := iv) (F := Fv) hQ honr205 (by decide)
        have ek_4_1r205 : Int32.toInt (ir205 4 1) = Int32.toInt (iv 4 1) := congrArg Int32.toInt (congrFun (honr205.1 4 (by decide)).1 1)
        refine lv_iload (pc := 70) C0.1 C0.2.1 dX5_drawPlainly_70 (lv_at hl 0 rfl) ?_
        refine lv_if_ge (pc := 72) (tgt := 96) C0.1 C0.2.1 dX5_drawPlainly_72 (by decide) (fun c206 => ?_) (fun c206 => ?_)
        · have : Int32.toInt 0 = 0 := rfl
          have c206 := Int32.le_iff_toInt_le.mp c206
          refine lv_iload (pc := 96) C0.1 C0.2.1 dX5_drawPlainly_96 (lv_at hl 0 rfl) ?_
          refine lv_aload (pc := 98) C0.1 C0.2.1 dX5_drawPlainly_98 (lv_at hl 3 rfl) ?_
          refine xget (pc := 100) C0 hH 28 2 clX2 ⟨Nat.le_of_ble_eq_true rfl, Nat.le_of_ble_eq_true rfl⟩ ⟨rfl, rfl⟩ (Nat.le_of_ble_eq_true rfl) fl_X5_60 (v := .ref (b + 31)) rfl dX5_drawPlainly_100 ?_
          refine lv_iload (pc := 103) C0.1 C0.2.1 dX5_drawPlainly_103 (lv_at hl 1 rfl) ?_
          refine xiald (pc := 105) (N := 1200) C0 hH 31 ⟨Nat.le_of_ble_eq_true rfl, Nat.le_of_ble_eq_true rfl⟩ ⟨rfl, rfl⟩ (vI (by omega) (by omega)) dX5_drawPlainly_105 ?_
          refine lv_icmp_ne (pc := 106) (tgt := 130) C0.1 C0.2.1 dX5_drawPlainly_106 (by decide) (fun c207 => ?_) (fun c207 => ?_)
          · have c207 : ¬ _ := fun q => c207 (Int32.toInt_inj.mp q)
            refine lv_aload_n (pc := 130) C0.1 C0.2.1 dX5_drawPlainly_130 rfl (lv_at hl 8 rfl) ?_
            refine xcVV (pc := 131) 75 [] (g_X3_putApart_75 l D tA b ir205 Fr205 Gr205  (show 0 ≤ Int32.toInt (ir205 75 1) ∧ Int32.toInt (ir205 75 1) ≤ 4000 from by omega)) C0 hH hS clX3 rfl ⟨⟨Nat.le_of_ble_eq_true rfl, Nat.le_of_ble_eq_true rfl⟩, rfl, rfl⟩ cw_X5_66 rfl ⟨Nat.le_of_ble_eq_true rfl, Nat.le_of_ble_eq_true rfl⟩ hl.1 rfl (Nat.le_of_ble_eq_true rfl) dX5_drawPlainly_131 ⟨Nat.le_of_ble_eq_true rfl, Nat.le_of_ble_eq_true rfl⟩ (fun ir208 Fr208 Gr208 _ locs hp hH hS => ?_)
            obtain ⟨honr208, hs1r208, hs2r208⟩ := hp
            dsimp only at hs1r208 hs2r208
            have hF : Tf17 ir208 Fr208 := Tf17.on (i := ir205) (F := Fr205) hF honr208 (by decide)
            have hQ : Pp17 600 ir208 Fr208 := Pp17.on (i := ir205) (F := Fr205) hQ honr208 (by decide)
            have ek_73_1r208 : Int32.toInt (ir208 73 1) = Int32.toInt (ir205 73 1) := congrArg Int32.toInt (congrFun (honr208.1 73 (by decide)).1 1)
            have ek_4_1r208 : Int32.toInt (ir208 4 1) = Int32.toInt (ir205 4 1) := congrArg Int32.toInt (congrFun (honr208.1 4 (by decide)).1 1)
            refine lv_aload_n (pc := 134) C0.1 C0.2.1 dX5_drawPlainly_134 rfl (lv_at hl 8 rfl) ?_
            refine lv_aload_n (pc := 135) C0.1 C0.2.1 dX5_drawPlainly_135 rfl (lv_at hl 7 rfl) ?_
            refine lv_aload_n (pc := 136) C0.1 C0.2.1 dX5_drawPlainly_136 rfl (lv_at hl 6 rfl) ?_
            refine xget (pc := 137) C0 hH 8 0 clX4 ⟨Nat.le_of_ble_eq_true rfl, Nat.le_of_ble_eq_true rfl⟩ ⟨rfl, rfl⟩ (Nat.le_of_ble_eq_true rfl) fl_X5_73 (v := .ref (b + 9)) rfl dX5_drawPlainly_137 ?_
            refine xget (pc := 140) C0 hH 9 1 clX7 ⟨Nat.le_of_ble_eq_true rfl, Nat.le_of_ble_eq_true rfl⟩ ⟨rfl, rfl⟩ (Nat.le_of_ble_eq_true rfl) fl_X5_77 (v := .ref (b + 11)) rfl dX5_drawPlainly_140 ?_
            refine lv_iload (pc := 143) C0.1 C0.2.1 dX5_drawPlainly_143 (lv_at hl 0 rfl) ?_
            refine xiald (pc := 145) (N := 600) C0 hH 11 ⟨Nat.le_of_ble_eq_true rfl, Nat.le_of_ble_eq_true rfl⟩ ⟨rfl, rfl⟩ (vI (by omega) (by omega)) dX5_drawPlainly_145 ?_
            refine lv_aload_n (pc := 146) C0.1 C0.2.1 dX5_drawPlainly_146 rfl (lv_at hl 6 rfl) ?_
            refine xget (pc := 147) C0 hH 8 0 clX4 ⟨Nat.le_of_ble_eq_true rfl, Nat.le_of_ble_eq_true rfl⟩ ⟨rfl, rfl⟩ (Nat.le_of_ble_eq_true rfl) fl_X5_73 (v := .ref (b + 9)) rfl dX5_drawPlainly_147 ?_
            refine xget (pc := 150) C0 hH 9 2 clX7 ⟨Nat.le_of_ble_eq_true rfl, Nat.le_of_ble_eq_true rfl⟩ ⟨rfl, rfl⟩ (Nat.le_of_ble_eq_true rfl) fl_X5_82 (v := .ref (b + 12)) rfl dX5_drawPlainly_150 ?_
            refine lv_iload (pc := 153) C0.1 C0.2.1 dX5_drawPlainly_153 (lv_at hl 0 rfl) ?_
            refine xiald (pc := 155) (N := 600) C0 hH 12 ⟨Nat.le_of_ble_eq_true rfl, Nat.le_of_ble_eq_true rfl⟩ ⟨rfl, rfl⟩ (vI (by omega) (by omega)) dX5_drawPlainly_155 ?_
            refine xcVV (pc := 156) 75 [.ref (b + 4), .int (Fr208 11 (Int32.toNatClampNeg x204)), .int (Fr208 12 (Int32.toNatClampNeg x204))] (g_X3_putToken_75 l D tA b ir208 Fr208 Gr208 (Fr208 11 (Int32.toNatClampNeg x204)) (Fr208 12 (Int32.toNatClampNeg x204)) (show 0 ≤ Int32.toInt (ir208 75 1) ∧ Int32.toInt (ir208 75 1) ≤ 4000 from by omega) (show 0 ≤ Int32.toInt (ir208 4 1) ∧ Int32.toInt (ir208 4 1) ≤ 600 from by omega)) C0 hH hS clX3 rfl ⟨⟨Nat.le_of_ble_eq_true rfl, Nat.le_of_ble_eq_true rfl⟩, rfl, rfl⟩ cw_X5_85 rfl ⟨Nat.le_of_ble_eq_true rfl, Nat.le_of_ble_eq_true rfl⟩ hl.1 rfl (Nat.le_of_ble_eq_true rfl) dX5_drawPlainly_156 ⟨Nat.le_of_ble_eq_true rfl, Nat.le_of_ble_eq_true rfl⟩ (fun ir209 Fr209 Gr209 _ locs hp hH hS => ?_)
            obtain ⟨honr209, hs1r209, hs2r209⟩ := hp
            dsimp only at hs1r209 hs2r209
            have hF : Tf17 ir209 Fr209 := Tf17.on (i := ir208) (F := Fr208) hF honr209 (by decide)
            have hQ : Pp17 600 ir209 Fr209 := Pp17.on (i := ir208) (F := Fr208) hQ honr209 (by decide)
            have ek_73_1r209 : Int32.toInt (ir209 73 1) = Int32.toInt (ir208 73 1) := congrArg Int32.toInt (congrFun (honr209.1 73 (by decide)).1 1)
            have ek_4_1r209 : Int32.toInt (ir209 4 1) = Int32.toInt (ir208 4 1) := congrArg Int32.toInt (congrFun (honr209.1 4 (by decide)).1 1)
            obtain ⟨x210, ex210⟩ : ∃ y_ : Int32, y_ = k + 1 := ⟨_, rfl⟩
            have : Int32.toInt 1 = 1 := rfl
            have hx210 : Int32.toInt x210 = Int32.toInt k + Int32.toInt 1 := by rw [ex210]; exact fb_addI (by omega) (by omega)
            refine lv_iinc (pc := 159) (v := x210) (lv' := [(6, .int x210), (8, .int x204), (7, .int x203), (5, .ref (b + 28)), (4, .ref (b + 17)), (0, .ref (b + 70)), (1, .ref (b + 8)), (2, .ref (b + 4)), (3, .ref (b + 75))]) C0.1 C0.2.1 dX5_drawPlainly_159 hl (k := 2) rfl (by rw [ex210]; rfl) (by decide) rfl (fun ls hl => ?_)
            refine lv_goto (pc := 162) (tgt := 25) C0.1 C0.2.1 dX5_drawPlainly_162 (by decide) ?_
            exact ih25 x210 ir209 Fr209 Gr209 _ _ _ (by omega) (by omega) (On.tr (On.tr (On.tr h3 honr205 (by decide) (by decide)) honr208 (by decide) (by decide)) honr209 (by decide) (by decide)) (show (0 ≤ Int32.toInt (ir209 73 1) ∧ Int32.toInt (ir209 73 1) ≤ 4000) ∧ (0 ≤ Int32.toInt (ir209 75 1) ∧ Int32.toInt (ir209 75 1) ≤ 4000) from by omega) hH hS (lv_sub hl [0, 3, 4, 5, 6, 7, 8] rfl)
          · have c207 := congrArg Int32.toInt c207
            refine lv_aload (pc := 109) C0.1 C0.2.1 dX5_drawPlainly_109 (lv_at hl 3 rfl) ?_
            refine xget (pc := 111) C0 hH 28 1 clX2 ⟨Nat.le_of_ble_eq_true rfl, Nat.le_of_ble_eq_true rfl⟩ ⟨rfl, rfl⟩ (Nat.le_of_ble_eq_true rfl) fl_X5_63 (v := .ref (b + 30)) rfl dX5_drawPlainly_111 ?_
            refine lv_iload (pc := 114) C0.1 C0.2.1 dX5_drawPlainly_114 (lv_at hl 1 rfl) ?_
            refine xiald (pc := 116) (N := 1200) C0 hH 30 ⟨Nat.le_of_ble_eq_true rfl, Nat.le_of_ble_eq_true rfl⟩ ⟨rfl, rfl⟩ (vI (by omega) (by omega)) dX5_drawPlainly_116 ?_
            refine lv_if_le (pc := 117) (tgt := 130) C0.1 C0.2.1 dX5_drawPlainly_117 (by decide) (fun c211 => ?_) (fun c211 => ?_)
            · have : Int32.toInt 0 = 0 := rfl
              have c211 := Int32.le_iff_toInt_le.mp c211
              refine lv_aload_n (pc := 130) C0.1 C0.2.1 dX5_drawPlainly_130 rfl (lv_at hl 8 rfl) ?_
              refine xcVV (pc := 131) 75 [] (g_X3_putApart_75 l D tA b ir205 Fr205 Gr205  (show 0 ≤ Int32.toInt (ir205 75 1) ∧ Int32.toInt (ir205 75 1) ≤ 4000 from by omega)) C0 hH hS clX3 rfl ⟨⟨Nat.le_of_ble_eq_true rfl, Nat.le_of_ble_eq_true rfl⟩, rfl, rfl⟩ cw_X5_66 rfl ⟨Nat.le_of_ble_eq_true rfl, Nat.le_of_ble_eq_true rfl⟩ hl.1 rfl (Nat.le_of_ble_eq_true rfl) dX5_drawPlainly_131 ⟨Nat.le_of_ble_eq_true rfl, Nat.le_of_ble_eq_true rfl⟩ (fun ir212 Fr212 Gr212 _ locs hp hH hS => ?_)
              obtain ⟨honr212, hs1r212, hs2r212⟩ := hp
              dsimp only at hs1r212 hs2r212
              have hF : Tf17 ir212 Fr212 := Tf17.on (i := ir205) (F := Fr205) hF honr212 (by decide)
              have hQ : Pp17 600 ir212 Fr212 := Pp17.on (i := ir205) (F := Fr205) hQ honr212 (by decide)
              have ek_73_1r212 : Int32.toInt (ir212 73 1) = Int32.toInt (ir205 73 1) := congrArg Int32.toInt (congrFun (honr212.1 73 (by decide)).1 1)
              have ek_4_1r212 : Int32.toInt (ir212 4 1) = Int32.toInt (ir205 4 1) := congrArg Int32.toInt (congrFun (honr212.1 4 (by decide)).1 1)
              refine lv_aload_n (pc := 134) C0.1 C0.2.1 dX5_drawPlainly_134 rfl (lv_at hl 8 rfl) ?_
              refine lv_aload_n (pc := 135) C0.1 C0.2.1 dX5_drawPlainly_135 rfl (lv_at hl 7 rfl) ?_
              refine lv_aload_n (pc := 136) C0.1 C0.2.1 dX5_drawPlainly_136 rfl (lv_at hl 6 rfl) ?_
              refine xget (pc := 137) C0 hH 8 0 clX4 ⟨Nat.le_of_ble_eq_true rfl, Nat.le_of_ble_eq_true rfl⟩ ⟨rfl, rfl⟩ (Nat.le_of_ble_eq_true rfl) fl_X5_73 (v := .ref (b + 9)) rfl dX5_drawPlainly_137 ?_
              refine xget (pc := 140) C0 hH 9 1 clX7 ⟨Nat.le_of_ble_eq_true rfl, Nat.le_of_ble_eq_true rfl⟩ ⟨rfl, rfl⟩ (Nat.le_of_ble_eq_true rfl) fl_X5_77 (v := .ref (b + 11)) rfl dX5_drawPlainly_140 ?_
              refine lv_iload (pc := 143) C0.1 C0.2.1 dX5_drawPlainly_143 (lv_at hl 0 rfl) ?_
              refine xiald (pc := 145) (N := 600) C0 hH 11 ⟨Nat.le_of_ble_eq_true rfl, Nat.le_of_ble_eq_true rfl⟩ ⟨rfl, rfl⟩ (vI (by omega) (by omega)) dX5_drawPlainly_145 ?_
              refine lv_aload_n (pc := 146) C0.1 C0.2.1 dX5_drawPlainly_146 rfl (lv_at hl 6 rfl) ?_
              refine xget (pc := 147) C0 hH 8 0 clX4 ⟨Nat.le_of_ble_eq_true rfl, Nat.le_of_ble_eq_true rfl⟩ ⟨rfl, rfl⟩ (Nat.le_of_ble_eq_true rfl) fl_X5_73 (v := .ref (b + 9)) rfl dX5_drawPlainly_147 ?_
              refine xget (pc := 150) C0 hH 9 2 clX7 ⟨Nat.le_of_ble_eq_true rfl, Nat.le_of_ble_eq_true rfl⟩ ⟨rfl, rfl⟩ (Nat.le_of_ble_eq_true rfl) fl_X5_82 (v := .ref (b + 12)) rfl dX5_drawPlainly_150 ?_
              refine lv_iload (pc := 153) C0.1 C0.2.1 dX5_drawPlainly_153 (lv_at hl 0 rfl) ?_
              refine xiald (pc := 155) (N := 600) C0 hH 12 ⟨Nat.le_of_ble_eq_true rfl, Nat.le_of_ble_eq_true rfl⟩ ⟨rfl, rfl⟩ (vI (by omega) (by omega)) dX5_drawPlainly_155 ?_
              refine xcVV (pc := 156) 75 [.ref (b + 4), .int (Fr212 11 (Int32.toNatClampNeg x204)), .int (Fr212 12 (Int32.toNatClampNeg x204))] (g_X3_putToken_75 l D tA b ir212 Fr212 Gr212 (Fr212 11 (Int32.toNatClampNeg x204)) (Fr212 12 (Int32.toNatClampNeg x204)) (show 0 ≤ Int32.toInt (ir212 75 1) ∧ Int32.toInt (ir212 75 1) ≤ 4000 from by omega) (show 0 ≤ Int32.toInt (ir212 4 1) ∧ Int32.toInt (ir212 4 1) ≤ 600 from by omega)) C0 hH hS clX3 rfl ⟨⟨Nat.le_of_ble_eq_true rfl, Nat.le_of_ble_eq_true rfl⟩, rfl, rfl⟩ cw_X5_85 rfl ⟨Nat.le_of_ble_eq_true rfl, Nat.le_of_ble_eq_true rfl⟩ hl.1 rfl (Nat.le_of_ble_eq_true rfl) dX5_drawPlainly_156 ⟨Nat.le_of_ble_eq_true rfl, Nat.le_of_ble_eq_true rfl⟩ (fun ir213 Fr213 Gr213 _ locs hp hH hS => ?_)
              obtain ⟨honr213, hs1r213, hs2r213⟩ := hp
              dsimp only at hs1r213 hs2r213
              have hF : Tf17 ir213 Fr213 := Tf17.on (i := ir212) (F := Fr212) hF honr213 (by decide)
              have hQ : Pp17 600 ir213 Fr213 := Pp17.on (i := ir212) (F := Fr212) hQ honr213 (by decide)
              have ek_73_1r213 : Int32.toInt (ir213 73 1) = Int32.toInt (ir212 73 1) := congrArg Int32.toInt (congrFun (honr213.1 73 (by decide)).1 1)
              have ek_4_1r213 : Int32.toInt (ir213 4 1) = Int32.toInt (ir212 4 1) := congrArg Int32.toInt (congrFun (honr213.1 4 (by decide)).1 1)
              obtain ⟨x214, ex214⟩ : ∃ y_ : Int32, y_ = k + 1 := ⟨_, rfl⟩
              have : Int32.toInt 1 = 1 := rfl
              have hx214 : Int32.toInt x214 = Int32.toInt k + Int32.toInt 1 := by rw [ex214]; exact fb_addI (by omega) (by omega)
              refine lv_iinc (pc := 159) (v := x214) (lv' := [(6, .int x214), (8, .int x204), (7, .int x203), (5, .ref (b + 28)), (4, .ref (b + 17)), (0, .ref (b + 70)), (1, .ref (b + 8)), (2, .ref (b + 4)), (3, .ref (b + 75))]) C0.1 C0.2.1 dX5_drawPlainly_159 hl (k := 2) rfl (by rw [ex214]; rfl) (by decide) rfl (fun ls hl => ?_)
              refine lv_goto (pc := 162) (tgt := 25) C0.1 C0.2.1 dX5_drawPlainly_162 (by decide) ?_
              exact ih25 x214 ir213 Fr213 Gr213 _ _ _ (by omega) (by omega) (On.tr (On.tr (On.tr h3 honr205 (by decide) (by decide)) honr212 (by decide) (by decide)) honr213 (by decide) (by decide)) (show (0 ≤ Int32.toInt (ir213 73 1) ∧ Int32.toInt (ir213 73 1) ≤ 4000) ∧ (0 ≤ Int32.toInt (ir213 75 1) ∧ Int32.toInt (ir213 75 1) ≤ 4000) from by omega) hH hS (lv_sub hl [0, 3, 4, 5, 6, 7, 8] rfl)
            · have : Int32.toInt 0 = 0 := rfl
              have c211 : ¬ _ := fun q => c211 (Int32.le_iff_toInt_le.mpr q)
              refine lv_aload_n (pc := 120) C0.1 C0.2.1 dX5_drawPlainly_120 rfl (lv_at hl 8 rfl) ?_
              refine xcVV (pc := 121) 75 [] (g_X3_putApart_75 l D tA b ir205 Fr205 Gr205  (show 0 ≤ Int32.toInt (ir205 75 1) ∧ Int32.toInt (ir205 75 1) ≤ 4000 from by omega)) C0 hH hS clX3 rfl ⟨⟨Nat.le_of_ble_eq_true rfl, Nat.le_of_ble_eq_true rfl⟩, rfl, rfl⟩ cw_X5_66 rfl ⟨Nat.le_of_ble_eq_true rfl, Nat.le_of_ble_eq_true rfl⟩ hl.1 rfl (Nat.le_of_ble_eq_true rfl) dX5_drawPlainly_121 ⟨Nat.le_of_ble_eq_true rfl, Nat.le_of_ble_eq_true rfl⟩ (fun ir215 Fr215 Gr215 _ locs hp hH hS => ?_)
              obtain ⟨honr215, hs1r215, hs2r215⟩ := hp
              dsimp only at hs1r215 hs2r215
              have hF : Tf17 ir215 Fr215 := Tf17.on (i := ir205) (F := Fr205) hF honr215 (by decide)
              have hQ : Pp17 600 ir215 Fr215 := Pp17.on (i := ir205) (F := Fr205) hQ honr215 (by decide)
              have ek_73_1r215 : Int32.toInt (ir215 73 1) = Int32.toInt (ir205 73 1) := congrArg Int32.toInt (congrFun (honr215.1 73 (by decide)).1 1)
              have ek_4_1r215 : Int32.toInt (ir215 4 1) = Int32.toInt (ir205 4 1) := congrArg Int32.toInt (congrFun (honr215.1 4 (by decide)).1 1)
              refine lv_aload_n (pc := 124) C0.1 C0.2.1 dX5_drawPlainly_124 rfl (lv_at hl 8 rfl) ?_
              refine lv_bipush (pc := 125) (v := 59) C0.1 C0.2.1 dX5_drawPlainly_125 (by decide) ?_
              refine xcVV (pc := 127) 75 [.int 59] (g_X3_put_75 l D tA b ir215 Fr215 Gr215 59 (show 0 ≤ Int32.toInt (ir215 75 1) ∧ Int32.toInt (ir215 75 1) ≤ 4000 from by omega)) C0 hH hS clX3 rfl ⟨⟨Nat.le_of_ble_eq_true rfl, Nat.le_of_ble_eq_true rfl⟩, rfl, rfl⟩ cw_X5_69 rfl ⟨Nat.le_of_ble_eq_true rfl, Nat.le_of_ble_eq_true rfl⟩ hl.1 rfl (Nat.le_of_ble_eq_true rfl) dX5_drawPlainly_127 ⟨Nat.le_of_ble_eq_true rfl, Nat.le_of_ble_eq_true rfl⟩ (fun ir216 Fr216 Gr216 _ locs hp hH hS => ?_)
              obtain ⟨honr216, hs1r216, hs2r216⟩ := hp
              dsimp only at hs1r216 hs2r216
              have hF : Tf17 ir216 Fr216 := Tf17.on (i := ir215) (F := Fr215) hF honr216 (by decide)
              have hQ : Pp17 600 ir216 Fr216 := Pp17.on (i := ir215) (F := Fr215) hQ honr216 (by decide)
              have ek_73_1r216 : Int32.toInt (ir216 73 1) = Int32.toInt (ir215 73 1) := congrArg Int32.toInt (congrFun (honr216.1 73 (by decide)).1 1)
              have ek_4_1r216 : Int32.toInt (ir216 4 1) = Int32.toInt (ir215 4 1) := congrArg Int32.toInt (congrFun (honr216.1 4 (by decide)).1 1)
              refine lv_aload_n (pc := 130) C0.1 C0.2.1 dX5_drawPlainly_130 rfl (lv_at hl 8 rfl) ?_
              refine xcVV (pc := 131) 75 [] (g_X3_putApart_75 l D tA b ir216 Fr216 Gr216  (show 0 ≤ Int32.toInt (ir216 75 1) ∧ Int32.toInt (ir216 75 1) ≤ 4000 from by omega)) C0 hH hS clX3 rfl ⟨⟨Nat.le_of_ble_eq_true rfl, Nat.le_of_ble_eq_true rfl⟩, rfl, rfl⟩ cw_X5_66 rfl ⟨Nat.le_of_ble_eq_true rfl, Nat.le_of_ble_eq_true rfl⟩ hl.1 rfl (Nat.le_of_ble_eq_true rfl) dX5_drawPlainly_131 ⟨Nat.le_of_ble_eq_true rfl, Nat.le_of_ble_eq_true rfl⟩ (fun ir217 Fr217 Gr217 _ locs hp hH hS => ?_)
              obtain ⟨honr217, hs1r217, hs2r217⟩ := hp
              dsimp only at hs1r217 hs2r217
              have hF : Tf17 ir217 Fr217 := Tf17.on (i := ir216) (F := Fr216) hF honr217 (by decide)
              have hQ : Pp17 600 ir217 Fr217 := Pp17.on (i := ir216) (F := Fr216) hQ honr217 (by decide)
              have ek_73_1r217 : Int32.toInt (ir217 73 1) = Int32.toInt (ir216 73 1) := congrArg Int32.toInt (congrFun (honr217.1 73 (by decide)).1 1)
              have ek_4_1r217 : Int32.toInt (ir217 4 1) = Int32.toInt (ir216 4 1) := congrArg Int32.toInt (congrFun (honr217.1 4 (by decide)).1 1)
              refine lv_aload_n (pc := 134) C0.1 C0.2.1 dX5_drawPlainly_134 rfl (lv_at hl 8 rfl) ?_
              refine lv_aload_n (pc := 135) C0.1 C0.2.1 dX5_drawPlainly_135 rfl (lv_at hl 7 rfl) ?_
              refine lv_aload_n (pc := 136) C0.1 C0.2.1 dX5_drawPlainly_136 rfl (lv_at hl 6 rfl) ?_
              refine xget (pc := 137) C0 hH 8 0 clX4 ⟨Nat.le_of_ble_eq_true rfl, Nat.le_of_ble_eq_true rfl⟩ ⟨rfl, rfl⟩ (Nat.le_of_ble_eq_true rfl) fl_X5_73 (v := .ref (b + 9)) rfl dX5_drawPlainly_137 ?_
              refine xget (pc := 140) C0 hH 9 1 clX7 ⟨Nat.le_of_ble_eq_true rfl, Nat.le_of_ble_eq_true rfl⟩ ⟨rfl, rfl⟩ (Nat.le_of_ble_eq_true rfl) fl_X5_77 (v := .ref (b + 11)) rfl dX5_drawPlainly_140 ?_
              refine lv_iload (pc := 143) C0.1 C0.2.1 dX5_drawPlainly_143 (lv_at hl 0 rfl) ?_
              refine xiald (pc := 145) (N := 600) C0 hH 11 ⟨Nat.le_of_ble_eq_true rfl, Nat.le_of_ble_eq_true rfl⟩ ⟨rfl, rfl⟩ (vI (by omega) (by omega)) dX5_drawPlainly_145 ?_
              refine lv_aload_n (pc := 146) C0.1 C0.2.1 dX5_drawPlainly_146 rfl (lv_at hl 6 rfl) ?_
              refine xget (pc := 147) C0 hH 8 0 clX4 ⟨Nat.le_of_ble_eq_true rfl, Nat.le_of_ble_eq_true rfl⟩ ⟨rfl, rfl⟩ (Nat.le_of_ble_eq_true rfl) fl_X5_73 (v := .ref (b + 9)) rfl dX5_drawPlainly_147 ?_
              refine xget (pc := 150) C0 hH 9 2 clX7 ⟨Nat.le_of_ble_eq_true rfl, Nat.le_of_ble_eq_true rfl⟩ ⟨rfl, rfl⟩ (Nat.le_of_ble_eq_true rfl) fl_X5_82 (v := .ref (b + 12)) rfl dX5_drawPlainly_150 ?_
              refine lv_iload (pc := 153) C0.1 C0.2.1 dX5_drawPlainly_153 (lv_at hl 0 rfl) ?_
              refine xiald (pc := 155) (N := 600) C0 hH 12 ⟨Nat.le_of_ble_eq_true rfl, Nat.le_of_ble_eq_true rfl⟩ ⟨rfl, rfl⟩ (vI (by omega) (by omega)) dX5_drawPlainly_155 ?_
              refine xcVV (pc := 156) 75 [.ref (b + 4), .int (Fr217 11 (Int32.toNatClampNeg x204)), .int (Fr217 12 (Int32.toNatClampNeg x204))] (g_X3_putToken_75 l D tA b ir217 Fr217 Gr217 (Fr217 11 (Int32.toNatClampNeg x204)) (Fr217 12 (Int32.toNatClampNeg x204)) (show 0 ≤ Int32.toInt (ir217 75 1) ∧ Int32.toInt (ir217 75 1) ≤ 4000 from by omega) (show 0 ≤ Int32.toInt (ir217 4 1) ∧ Int32.toInt (ir217 4 1) ≤ 600 from by omega)) C0 hH hS clX3 rfl ⟨⟨Nat.le_of_ble_eq_true rfl, Nat.le_of_ble_eq_true rfl⟩, rfl, rfl⟩ cw_X5_85 rfl ⟨Nat.le_of_ble_eq_true rfl, Nat.le_of_ble_eq_true rfl⟩ hl.1 rfl (Nat.le_of_ble_eq_true rfl) dX5_drawPlainly_156 ⟨Nat.le_of_ble_eq_true rfl, Nat.le_of_ble_eq_true rfl⟩ (fun ir218 Fr218 Gr218 _ locs hp hH hS => ?_)
              obtain ⟨honr218, hs1r218, hs2r218⟩ := hp
              dsimp only at hs1r218 hs2r218
              have hF : Tf17 ir218 Fr218 := Tf17.on (i := ir217) (F := Fr217) hF honr218 (by decide)
              have hQ : Pp17 600 ir218 Fr218 := Pp17.on (i := ir217) (F := Fr217) hQ honr218 (by decide)
              have ek_73_1r218 : Int32.toInt (ir218 73 1) = Int32.toInt (ir217 73 1) := congrArg Int32.toInt (congrFun (honr218.1 73 (by decide)).1 1)
              have ek_4_1r218 : Int32.toInt (ir218 4 1) = Int32.toInt (ir217 4 1) := congrArg Int32.toInt (congrFun (honr218.1 4 (by decide)).1 1)
              obtain ⟨x219, ex219⟩ : ∃ y_ : Int32, y_ = k + 1 := ⟨_, rfl⟩
              have : Int32.toInt 1 = 1 := rfl
              have hx219 : Int32.toInt x219 = Int32.toInt k + Int32.toInt 1 := by rw [ex219]; exact fb_addI (by omega) (by omega)
              refine lv_iinc (pc := 159) (v := x219) (lv' := [(6, .int x219), (8, .int x204), (7, .int x203), (5, .ref (b + 28)), (4, .ref (b + 17)), (0, .ref (b + 70)), (1, .ref (b + 8)), (2, .ref (b + 4)), (3, .ref (b + 75))]) C0.1 C0.2.1 dX5_drawPlainly_159 hl (k := 2) rfl (by rw [ex219]; rfl) (by decide) rfl (fun ls hl => ?_)
              refine lv_goto (pc := 162) (tgt := 25) C0.1 C0.2.1 dX5_drawPlainly_162 (by decide) ?_
              exact ih25 x219 ir218 Fr218 Gr218 _ _ _ (by omega) (by omega) (On.tr (On.tr (On.tr (On.tr (On.tr h3 honr205 (by decide) (by decide)) honr215 (by decide) (by decide)) honr216 (by decide) (by decide)) honr217 (by decide) (by decide)) honr218 (by decide) (by decide)) (show (0 ≤ Int32.toInt (ir218 73 1) ∧ Int32.toInt (ir218 73 1) ≤ 4000) ∧ (0 ≤ Int32.toInt (ir218 75 1) ∧ Int32.toInt (ir218 75 1) ≤ 4000) from by omega) hH hS (lv_sub hl [0, 3, 4, 5, 6, 7, 8] rfl)
        · have : Int32.toInt 0 = 0 := rfl
          have c206 : ¬ _ := fun q => c206 (Int32.le_iff_toInt_le.mpr q)
          refine lv_aload_n (pc := 75) C0.1 C0.2.1 dX5_drawPlainly_75 rfl (lv_at hl 5 rfl) ?_
          refine lv_bipush (pc := 76) (v := (-100)) C0.1 C0.2.1 dX5_drawPlainly_76 (by decide) ?_
          refine lv_iload (pc := 78) C0.1 C0.2.1 dX5_drawPlainly_78 (lv_at hl 0 rfl) ?_
          refine lv_isub (pc := 80) C0.1 C0.2.1 dX5_drawPlainly_80 ?_
          refine lv_topi (fun x220 ex220 => ?_)
          refine xputI (pc := 81) C0 (Nat.le_of_ble_eq_true rfl) hH hS 70 3 clX5 ⟨Nat.le_of_ble_eq_true rfl, Nat.le_of_ble_eq_true rfl⟩ ⟨rfl, rfl⟩ ⟨Nat.le_of_ble_eq_true rfl, rfl, rfl⟩ fl_X5_35 (x := x220) ⟨rfl, rfl⟩ dX5_drawPlainly_81 (fun _ locs hH hS _ => ?_)
          have hH : Hd D tA b 0 78 zz (up2 ir205 70 3 x220) Fr205 Gr205 _ := hH
          refine lv_aload_n (pc := 84) C0.1 C0.2.1 dX5_drawPlainly_84 rfl (lv_at hl 5 rfl) ?_
          refine lv_aload (pc := 85) C0.1 C0.2.1 dX5_drawPlainly_85 (lv_at hl 4 rfl) ?_
          refine lv_bipush (pc := 87) (v := 123) C0.1 C0.2.1 dX5_drawPlainly_87 (by decide) ?_
          refine lv_aload_n (pc := 89) C0.1 C0.2.1 dX5_drawPlainly_89 rfl (lv_at hl 8 rfl) ?_
          refine xcVV (pc := 90) 70 [.ref (b + 17), .int 123, .ref (b + 75)] (g_X5_drawBrace_75 l D tA b (up2 ir205 70 3 x220) Fr205 Gr205 123 hF hQ (show (0 ≤ Int32.toInt (ir205 73 1) ∧ Int32.toInt (ir205 73 1) ≤ 4000) ∧ (0 ≤ Int32.toInt (ir205 75 1) ∧ Int32.toInt (ir205 75 1) ≤ 4000) from by omega) ) C0 hH hS clX5 rfl ⟨⟨Nat.le_of_ble_eq_true rfl, Nat.le_of_ble_eq_true rfl⟩, rfl, rfl⟩ cw_X5_57 rfl ⟨Nat.le_of_ble_eq_true rfl, Nat.le_of_ble_eq_true rfl⟩ hl.1 rfl (Nat.le_of_ble_eq_true rfl) dX5_drawPlainly_90 ⟨Nat.le_of_ble_eq_true rfl, Nat.le_of_ble_eq_true rfl⟩ (fun ir221 Fr221 Gr221 _ locs hp hH hS => ?_)
          obtain ⟨honr221, hs1r221, hs2r221⟩ := hp
          dsimp only at hs1r221 hs2r221
          have hF : Tf17 ir221 Fr221 := Tf17.on (i := (up2 ir205 70 3 x220)) (F := Fr205) hF honr221 (by decide)
          have hQ : Pp17 600 ir221 Fr221 := Pp17.on (i := (up2 ir205 70 3 x220)) (F := Fr205) hQ honr221 (by decide)
          have ek_4_1r221 : Int32.toInt (ir221 4 1) = Int32.toInt (ir205 4 1) := congrArg Int32.toInt (congrFun (honr221.1 4 (by decide)).1 1)
          refine lv_goto (pc := 93) (tgt := 159) C0.1 C0.2.1 dX5_drawPlainly_93 (by decide) ?_
          obtain ⟨x222, ex222⟩ : ∃ y_ : Int32, y_ = k + 1 := ⟨_, rfl⟩
          have : Int32.toInt 1 = 1 := rfl
          have hx222 : Int32.toInt x222 = Int32.toInt k + Int32.toInt 1 := by rw [ex222]; exact fb_addI (by omega) (by omega)
          refine lv_iinc (pc := 159) (v := x222) (lv' := [(6, .int x222), (8, .int x204), (7, .int x203), (5, .ref (b + 28)), (4, .ref (b + 17)), (0, .ref (b + 70)), (1, .ref (b + 8)), (2, .ref (b + 4)), (3, .ref (b + 75))]) C0.1 C0.2.1 dX5_drawPlainly_159 hl (k := 2) rfl (by rw [ex222]; rfl) (by decide) rfl (fun ls hl => ?_)
          refine lv_goto (pc := 162) (tgt := 25) C0.1 C0.2.1 dX5_drawPlainly_162 (by decide) ?_
          exact ih25 x222 ir221 Fr221 Gr221 _ _ _ (by omega) (by omega) (On.tr (On.i (On.tr h3 honr205 (by decide) (by decide)) (by decide)) honr221 (by decide) (by decide)) (show (0 ≤ Int32.toInt (ir221 73 1) ∧ Int32.toInt (ir221 73 1) ≤ 4000) ∧ (0 ≤ Int32.toInt (ir221 75 1) ∧ Int32.toInt (ir221 75 1) ≤ 4000) from by omega) hH hS (lv_sub hl [0, 3, 4, 5, 6, 7, 8] rfl)
  refine lv_aload_n (pc := 0) C0.1 C0.2.1 dX5_drawPlainly_0 rfl (lv_at hl 1 rfl) ?_
  refine xget (pc := 1) C0 hH 8 1 clX4 ⟨Nat.le_of_ble_eq_true rfl, Nat.le_of_ble_eq_true rfl⟩ ⟨rfl, rfl⟩ (Nat.le_of_ble_eq_true rfl) fl_X5_18 (v := .ref (b + 17)) rfl dX5_drawPlainly_1 ?_
  refine lv_astore (pc := 4) (lv' := [(4, .ref (b + 17)), (0, .ref (b + 70)), (1, .ref (b + 8)), (2, .ref (b + 4)), (3, .ref (b + 75))]) C0.1 C0.2.1 dX5_drawPlainly_4 hl (by decide) rfl (fun ls hl => ?_)
  refine lv_aload (pc := 6) C0.1 C0.2.1 dX5_drawPlainly_6 (lv_at hl 0 rfl) ?_
  refine xget (pc := 8) C0 hH 17 1 clX8 ⟨Nat.le_of_ble_eq_true rfl, Nat.le_of_ble_eq_true rfl⟩ ⟨rfl, rfl⟩ (Nat.le_of_ble_eq_true rfl) fl_X5_24 (v := .ref (b + 28)) rfl dX5_drawPlainly_8 ?_
  refine lv_astore (pc := 11) (lv' := [(5, .ref (b + 28)), (4, .ref (b + 17)), (0, .ref (b + 70)), (1, .ref (b + 8)), (2, .ref (b + 4)), (3, .ref (b + 75))]) C0.1 C0.2.1 dX5_drawPlainly_11 hl (by decide) rfl (fun ls hl => ?_)
  refine lv_aload_n (pc := 13) C0.1 C0.2.1 dX5_drawPlainly_13 rfl (lv_at hl 5 rfl) ?_
  refine xcVV (pc := 14) 75 [] (g_X3_clear_75 l D tA b i F G  ) C0 hH hS clX3 rfl ⟨⟨Nat.le_of_ble_eq_true rfl, Nat.le_of_ble_eq_true rfl⟩, rfl, rfl⟩ cw_X5_30 rfl ⟨Nat.le_of_ble_eq_true rfl, Nat.le_of_ble_eq_true rfl⟩ hl.1 rfl (Nat.le_of_ble_eq_true rfl) dX5_drawPlainly_14 ⟨Nat.le_of_ble_eq_true rfl, Nat.le_of_ble_eq_true rfl⟩ (fun ir1 Fr1 Gr1 _ locs hp hH hS => ?_)
  obtain ⟨honr1, hs1r1, hs2r1⟩ := hp
  dsimp only at hs1r1 hs2r1
  have hF : Tf17 ir1 Fr1 := Tf17.on (i := i) (F := F) hF honr1 (by decide)
  have hQ : Pp17 600 ir1 Fr1 := Pp17.on (i := i) (F := F) hQ honr1 (by decide)
  have ek_73_1r1 : Int32.toInt (ir1 73 1) = Int32.toInt (i 73 1) := congrArg Int32.toInt (congrFun (honr1.1 73 (by decide)).1 1)
  have ek_4_1r1 : Int32.toInt (ir1 4 1) = Int32.toInt (i 4 1) := congrArg Int32.toInt (congrFun (honr1.1 4 (by decide)).1 1)
  refine lv_aload_n (pc := 17) C0.1 C0.2.1 dX5_drawPlainly_17 rfl (lv_at hl 2 rfl) ?_
  refine lv_iconst (pc := 18) (v := 0) C0.1 C0.2.1 dX5_drawPlainly_18 (by decide) ?_
  refine xputI (pc := 19) C0 (Nat.le_of_ble_eq_true rfl) hH hS 70 3 clX5 ⟨Nat.le_of_ble_eq_true rfl, Nat.le_of_ble_eq_true rfl⟩ ⟨rfl, rfl⟩ ⟨Nat.le_of_ble_eq_true rfl, rfl, rfl⟩ fl_X5_35 (x := 0) ⟨rfl, rfl⟩ dX5_drawPlainly_19 (fun _ locs hH hS _ => ?_)
  have hH : Hd D tA b 0 78 zz (up2 ir1 70 3 0) Fr1 Gr1 _ := hH
  refine lv_iconst (pc := 22) (v := 0) C0.1 C0.2.1 dX5_drawPlainly_22 (by decide) ?_
  refine lv_istore (pc := 23) (lv' := [(6, .int 0), (5, .ref (b + 28)), (4, .ref (b + 17)), (0, .ref (b + 70)), (1, .ref (b + 8)), (2, .ref (b + 4)), (3, .ref (b + 75))]) C0.1 C0.2.1 dX5_drawPlainly_23 hl (by decide) rfl (fun ls hl => ?_)
  exact L25 1201 0 (up2 ir1 70 3 0) Fr1 Gr1 _ _ _ (by have : Int32.toInt 0 = 0 := rfl; omega) (by have : Int32.toInt 0 = 0 := rfl; omega) (On.i (On.tr On.rf honr1 (by decide) (by decide)) (by decide)) (show (0 ≤ Int32.toInt (ir1 73 1) ∧ Int32.toInt (ir1 73 1) ≤ 4000) ∧ (0 ≤ Int32.toInt (ir1 75 1) ∧ Int32.toInt (ir1 75 1) ≤ 4000) from by omega) hH hS (lv_sub hl [0, 1, 2, 3, 4, 5, 6] rfl)
set_option maxHeartbeats 4000000 in
set_option maxRecDepth 100000 in
theorem g_X5_drawAnew_75 (l : Launch) (D : va_G) (tA : Nat → ClassId) (b : Nat) (i F : Nat → Nat → Int32) (G : Nat → Nat → Int64) (w : Int32) (hF : Tf17 i F) (hQ : Pp17 600 i F) (hPg : (0 ≤ (i 73 1).toInt ∧ (i 73 1).toInt ≤ 4000) ∧ (0 ≤ (i 75 1).toInt ∧ (i 75 1).toInt ≤ 4000)) (hsz : 0 ≤ (i 4 1).toInt ∧ (i 4 1).toInt ≤ 600) : xMI l yX5_drawAnew cX5_drawAnew 10 (some .boolean) 4 94 D tA b 0 78 i F G [.ref (b + 70), .ref (b + 8), .ref (b + 4), .ref (b + 75), .int w] (fun r u => On 70 77 i F G u ∧ (0 ≤ (u.1 73 1).toInt ∧ (u.1 73 1).toInt ≤ 4000) ∧ (0 ≤ (u.1 75 1).toInt ∧ (u.1 75 1).toInt ≤ 4000)) := by
  refine xstart RX5 rfl (by decide) (Nat.le_of_ble_eq_true rfl) ?_
  intro p e s m below meth c ls C0 hr hH hS hl
  have hl : lv_has ls 10 [(0, .ref (b + 70)), (1, .ref (b + 8)), (2, .ref (b + 4)), (3, .ref (b + 75)), (4, .int w)] := hl
  have rg_w := fb_rng w
  have hL := Tf17.lin hF
  have L29 : ∀ (d : Nat) (k cl : Int32) (iv Fv : Nat → Nat → Int32) (Gv : Nat → Nat → Int64) (H : Heap) (locs : List Loc) (ls : Array Slot), (0 ≤ k.toInt) → (1201 - k.toInt ≤ d) → (On 70 77 i F G (iv, Fv, Gv)) → ((0 ≤ (iv 73 1).toInt ∧ (iv 73 1).toInt ≤ 4000) ∧ (0 ≤ (iv 75 1).toInt ∧ (iv 75 1).toInt ≤ 4000)) → (cl = 0 ∨ cl = 1) → Hd D tA b 0 78 zz iv Fv Gv H → va_S (xA b 0 78) s.heap H locs → lv_has ls 10 [(7, .int k), (6, .int cl), (5, .ref (b + 28)), (0, .ref (b + 70)), (1, .ref (b + 8)), (2, .ref (b + 4)), (3, .ref (b + 75)), (4, .int w)] → W p l e (xR 4 94) s m ([.ref (b + 70), .ref (b + 8), .ref (b + 4), .ref (b + 75), .int w] : List Value).toArray below meth c H locs 0 0 (MQ below (va_Qi (fun r u => On 70 77 i F G u ∧ (0 ≤ (u.1 73 1).toInt ∧ (u.1 73 1).toInt ≤ 4000) ∧ (0 ≤ (u.1 75 1).toInt ∧ (u.1 75 1).toInt ≤ 4000)) (xB D tA b 0 78 zz) (xA b 0 78)) ([.ref (b + 70), .ref (b + 8), .ref (b + 4), .ref (b + 75), .int w] : List Value).toArray s 0 0 (xA b 0 78)) (F0 m 29 ls []) := by
    intro d
    induction d with
    | zero =>
      intro k cl iv Fv Gv H locs ls h1 h2 h3 h4 h5 hH hS hl
      have rg_k := fb_rng k
      have rg_cl := fb_rng cl
      have hF : Tf17 iv Fv := Tf17.on hF h3 (by decide)
      have hQ : Pp17 600 iv Fv := Pp17.on hQ h3 (by decide)
      have hL := Tf17.lin hF
      have ek4 : Int32.toInt (iv 4 1) = Int32.toInt (i 4 1) := congrArg Int32.toInt (congrFun (h3.1 4 (by decide)).1 1)
      refine lv_iload (pc := 29) C0.1 C0.2.1 dX5_drawAnew_29 (lv_at hl 0 rfl) ?_
      refine lv_aload (pc := 31) C0.1 C0.2.1 dX5_drawAnew_31 (lv_at hl 2 rfl) ?_
      refine xget (pc := 33) C0 hH 28 8 clX2 ⟨Nat.le_of_ble_eq_true rfl, Nat.le_of_ble_eq_true rfl⟩ ⟨rfl, rfl⟩ (Nat.le_of_ble_eq_true rfl) fl_X5_39 (v := .int (iv 28 8)) rfl dX5_drawAnew_33 ?_
      refine lv_icmp_ge (pc := 36) (tgt := 168) C0.1 C0.2.1 dX5_drawAnew_36 (by decide) (fun _ => ?_) (fun c => absurd (Int32.le_iff_toInt_le.mpr (by omega)) c)
      refine lv_aload_n (pc := 168) C0.1 C0.2.1 dX5_drawAnew_168 rfl (lv_at hl 6 rfl) ?_
      refine xget (pc := 169) C0 hH 75 1 clX3 ⟨Nat.le_of_ble_eq_true rfl, Nat.le_of_ble_eq_true rfl⟩ ⟨rfl, rfl⟩ (Nat.le_of_ble_eq_true rfl) fl_X5_127 (v := .int (iv 75 1)) rfl dX5_drawAnew_169 ?_
      refine lv_if_le (pc := 172) (tgt := 181) C0.1 C0.2.1 dX5_drawAnew_172 (by decide) (fun c201 => ?_) (fun c201 => ?_)
      · have : Int32.toInt 0 = 0 := rfl
        have c201 := Int32.le_iff_toInt_le.mp c201
        refine lv_iload (pc := 181) C0.1 C0.2.1 dX5_drawAnew_181 (lv_at hl 1 rfl) ?_
        exact xzret (pc := 183) C0 hr hH hS dX5_drawAnew_183 h5 ⟨h3, (show (0 ≤ Int32.toInt (iv 73 1) ∧ Int32.toInt (iv 73 1) ≤ 4000) ∧ (0 ≤ Int32.toInt (iv 75 1) ∧ Int32.toInt (iv 75 1) ≤ 4000) from by omega)⟩
      · have : Int32.toInt 0 = 0 := rfl
        have c201 : ¬ _ := fun q => c201 (Int32.le_iff_toInt_le.mpr q)
        refine lv_aload_n (pc := 175) C0.1 C0.2.1 dX5_drawAnew_175 rfl (lv_at hl 6 rfl) ?_
        refine lv_bipush (pc := 176) (v := 10) C0.1 C0.2.1 dX5_drawAnew_176 (by decide) ?_
        refine xcVV (pc := 178) 75 [.int 10] (g_X3_put_75 l D tA b iv Fv Gv 10 (show 0 ≤ Int32.toInt (iv 75 1) ∧ Int32.toInt (iv 75 1) ≤ 4000 from by omega)) C0 hH hS clX3 rfl ⟨⟨Nat.le_of_ble_eq_true rfl, Nat.le_of_ble_eq_true rfl⟩, rfl, rfl⟩ cw_X5_69 rfl ⟨Nat.le_of_ble_eq_true rfl, Nat.le_of_ble_eq_true rfl⟩ hl.1 rfl (Nat.le_of_ble_eq_true rfl) dX5_drawAnew_178 ⟨Nat.le_of_ble_eq_true rfl, Nat.le_of_ble_eq_true rfl⟩ (fun ir202 Fr202 Gr202 _ locs hp hH hS => ?_)
        obtain ⟨honr202, hs1r202, hs2r202⟩ := hp
        dsimp only at hs1r202 hs2r202
        have hF : Tf17 ir202 Fr202 := Tf17.on (i := iv) (F := Fv) hF honr202 (by decide)
        have hQ : Pp17 600 ir202 Fr202 := Pp17.on (i := iv) (F := Fv) hQ honr202 (by decide)
        have ek_73_1r202 : Int32.toInt (ir202 73 1) = Int32.toInt (iv 73 1) := congrArg Int32.toInt (congrFun (honr202.1 73 (by decide)).1 1)
        have ek_4_1r202 : Int32.toInt (ir202 4 1) = Int32.toInt (iv 4 1) := congrArg Int32.toInt (congrFun (honr202.1 4 (by decide)).1 1)
        refine lv_iload (pc := 181) C0.1 C0.2.1 dX5_drawAnew_181 (lv_at hl 1 rfl) ?_
        exact xzret (pc := 183) C0 hr hH hS dX5_drawAnew_183 h5 ⟨(On.tr h3 honr202 (by decide) (by decide)), (show (0 ≤ Int32.toInt (ir202 73 1) ∧ Int32.toInt (ir202 73 1) ≤ 4000) ∧ (0 ≤ Int32.toInt (ir202 75 1) ∧ Int32.toInt (ir202 75 1) ≤ 4000) from by omega)⟩
    | succ d ih29 =>
      intro k cl iv Fv Gv H locs ls h1 h2 h3 h4 h5 hH hS hl
      have rg_k := fb_rng k
      have rg_cl := fb_rng cl
      have hF : Tf17 iv Fv := Tf17.on hF h3 (by decide)
      have hQ : Pp17 600 iv Fv := Pp17.on hQ h3 (by decide)
      have hL := Tf17.lin hF
      have ek4 : Int32.toInt (iv 4 1) = Int32.toInt (i 4 1) := congrArg Int32.toInt (congrFun (h3.1 4 (by decide)).1 1)
      refine lv_iload (pc := 29) C0.1 C0.2.1 dX5_drawAnew_29 (lv_at hl 0 rfl) ?_
      refine lv_aload (pc := 31) C0.1 C0.2.1 dX5_drawAnew_31 (lv_at hl 2 rfl) ?_
      refine xget (pc := 33) C0 hH 28 8 clX2 ⟨Nat.le_of_ble_eq_true rfl, Nat.le_of_ble_eq_true rfl⟩ ⟨rfl, rfl⟩ (Nat.le_of_ble_eq_true rfl) fl_X5_39 (v := .int (iv 28 8)) rfl dX5_drawAnew_33 ?_
      refine lv_icmp_ge (pc := 36) (tgt := 168) C0.1 C0.2.1 dX5_drawAnew_36 (by decide) (fun c201 => ?_) (fun c201 => ?_)
      · have c201 := Int32.le_iff_toInt_le.mp c201
        refine lv_aload_n (pc := 168) C0.1 C0.2.1 dX5_drawAnew_168 rfl (lv_at hl 6 rfl) ?_
        refine xget (pc := 169) C0 hH 75 1 clX3 ⟨Nat.le_of_ble_eq_true rfl, Nat.le_of_ble_eq_true rfl⟩ ⟨rfl, rfl⟩ (Nat.le_of_ble_eq_true rfl) fl_X5_127 (v := .int (iv 75 1)) rfl dX5_drawAnew_169 ?_
        refine lv_if_le (pc := 172) (tgt := 181) C0.1 C0.2.1 dX5_drawAnew_172 (by decide) (fun c202 => ?_) (fun c202 => ?_)
        · have : Int32.toInt 0 = 0 := rfl
          have c202 := Int32.le_iff_toInt_le.mp c202
          refine lv_iload (pc := 181) C0.1 C0.2.1 dX5_drawAnew_181 (lv_at hl 1 rfl) ?_
          exact xzret (pc := 183) C0 hr hH hS dX5_drawAnew_183 h5 ⟨h3, (show (0 ≤ Int32.toInt (iv 73 1) ∧ Int32.toInt (iv 73 1) ≤ 4000) ∧ (0 ≤ Int32.toInt (iv 75 1) ∧ Int32.toInt (iv 75 1) ≤ 4000) from by omega)⟩
        · have : Int32.toInt 0 = 0 := rfl
          have c202 : ¬ _ := fun q => c202 (Int32.le_iff_toInt_le.mpr q)
          refine lv_aload_n (pc := 175) C0.1 C0.2.1 dX5_drawAnew_175 rfl (lv_at hl 6 rfl) ?_
          refine lv_bipush (pc := 176) (v := 10) C0.1 C0.2.1 dX5_drawAnew_176 (by decide) ?_
          refine xcVV (pc := 178) 75 [.int 10] (g_X3_put_75 l D tA b iv Fv Gv 10 (show 0 ≤ Int32.toInt (iv 75 1) ∧ Int32.toInt (iv 75 1) ≤ 4000 from by omega)) C0 hH hS clX3 rfl ⟨⟨Nat.le_of_ble_eq_true rfl, Nat.le_of_ble_eq_true rfl⟩, rfl, rfl⟩ cw_X5_69 rfl ⟨Nat.le_of_ble_eq_true rfl, Nat.le_of_ble_eq_true rfl⟩ hl.1 rfl (Nat.le_of_ble_eq_true rfl) dX5_drawAnew_178 ⟨Nat.le_of_ble_eq_true rfl, Nat.le_of_ble_eq_true rfl⟩ (fun ir203 Fr203 Gr203 _ locs hp hH hS => ?_)
          obtain ⟨honr203, hs1r203, hs2r203⟩ := hp
          dsimp only at hs1r203 hs2r203
          have hF : Tf17 ir203 Fr203 := Tf17.on (i := iv) (F := Fv) hF honr203 (by decide)
          have hQ : Pp17 600 ir203 Fr203 := Pp17.on (i := iv) (F := Fv) hQ honr203 (by decide)
          have ek_73_1r203 : Int32.toInt (ir203 73 1) = Int32.toInt (iv 73 1) := congrArg Int32.toInt (congrFun (honr203.1 73 (by decide)).1 1)
          have ek_4_1r203 : Int32.toInt (ir203 4 1) = Int32.toInt (iv 4 1) := congrArg Int32.toInt (congrFun (honr203.1 4 (by decide)).1 1)
          refine lv_iload (pc := 181) C0.1 C0.2.1 dX5_drawAnew_181 (lv_at hl 1 rfl) ?_
          exact xzret (pc := 183) C0 hr hH hS dX5_drawAnew_183 h5 ⟨(On.tr h3 honr203 (by decide) (by decide)), (show (0 ≤ Int32.toInt (ir203 73 1) ∧ Int32.toInt (ir203 73 1) ≤ 4000) ∧ (0 ≤ Int32.toInt (ir203 75 1) ∧ Int32.toInt (ir203 75 1) ≤ 4000) from by omega)⟩
      · have c201 : ¬ _ := fun q => c201 (Int32.le_iff_toInt_le.mpr q)
        refine lv_aload (pc := 39) C0.1 C0.2.1 dX5_drawAnew_39 (lv_at hl 2 rfl) ?_
        refine xget (pc := 41) C0 hH 28 7 clX2 ⟨Nat.le_of_ble_eq_true rfl, Nat.le_of_ble_eq_true rfl⟩ ⟨rfl, rfl⟩ (Nat.le_of_ble_eq_true rfl) fl_X5_47 (v := .ref (b + 35)) rfl dX5_drawAnew_41 ?_
        refine lv_iload (pc := 44) C0.1 C0.2.1 dX5_drawAnew_44 (lv_at hl 0 rfl) ?_
        refine xiald (pc := 46) (N := 1201) C0 hH 35 ⟨Nat.le_of_ble_eq_true rfl, Nat.le_of_ble_eq_true rfl⟩ ⟨rfl, rfl⟩ (vI (by omega) (by omega)) dX5_drawAnew_46 ?_
        refine lv_topi (fun x204 ex204 => ?_)
        refine lv_istore (pc := 47) (lv' := [(8, .int x204), (7, .int k), (6, .int cl), (5, .ref (b + 28)), (0, .ref (b + 70)), (1, .ref (b + 8)), (2, .ref (b + 4)), (3, .ref (b + 75)), (4, .int w)]) C0.1 C0.2.1 dX5_drawAnew_47 hl (by decide) rfl (fun ls hl => ?_)
        have hv8 : -2147483648 ≤ Int32.toInt x204 ∧ Int32.toInt x204 < 600 := by rw [ex204]; exact hF.pv _
        have hcK := clI (x := k) (by omega)
        have hio_ : 0 ≤ Int32.toInt x204 → 0 ≤ (Fv 36 (Int32.toNatClampNeg x204)).toInt ∧ (Fv 36 (Int32.toNatClampNeg x204)).toInt < 1200 := by rw [ex204]; exact (hQ (Int32.toNatClampNeg k) (by omega)).2
        refine lv_aload_n (pc := 49) C0.1 C0.2.1 dX5_drawAnew_49 rfl (lv_at hl 4 rfl) ?_
        refine lv_aload_n (pc := 50) C0.1 C0.2.1 dX5_drawAnew_50 rfl (lv_at hl 5 rfl) ?_
        refine xget (pc := 51) C0 hH 8 1 clX4 ⟨Nat.le_of_ble_eq_true rfl, Nat.le_of_ble_eq_true rfl⟩ ⟨rfl, rfl⟩ (Nat.le_of_ble_eq_true rfl) fl_X5_18 (v := .ref (b + 17)) rfl dX5_drawAnew_51 ?_
        refine lv_aload (pc := 54) C0.1 C0.2.1 dX5_drawAnew_54 (lv_at hl 3 rfl) ?_
        refine xget (pc := 56) C0 hH 28 0 clX2 ⟨Nat.le_of_ble_eq_true rfl, Nat.le_of_ble_eq_true rfl⟩ ⟨rfl, rfl⟩ (Nat.le_of_ble_eq_true rfl) fl_X5_50 (v := .ref (b + 29)) rfl dX5_drawAnew_56 ?_
        refine lv_aload (pc := 59) C0.1 C0.2.1 dX5_drawAnew_59 (lv_at hl 3 rfl) ?_
        refine xget (pc := 61) C0 hH 28 6 clX2 ⟨Nat.le_of_ble_eq_true rfl, Nat.le_of_ble_eq_true rfl⟩ ⟨rfl, rfl⟩ (Nat.le_of_ble_eq_true rfl) fl_X5_44 (v := .ref (b + 34)) rfl dX5_drawAnew_61 ?_
        refine lv_iload (pc := 64) C0.1 C0.2.1 dX5_drawAnew_64 (lv_at hl 1 rfl) ?_
        refine xiald (pc := 66) (N := 1201) C0 hH 34 ⟨Nat.le_of_ble_eq_true rfl, Nat.le_of_ble_eq_true rfl⟩ ⟨rfl, rfl⟩ (vI (by omega) (by omega)) dX5_drawAnew_66 ?_
        refine xiald (pc := 67) (N := 1200) C0 hH 29 ⟨Nat.le_of_ble_eq_true rfl, Nat.le_of_ble_eq_true rfl⟩ ⟨rfl, rfl⟩ (vI (hF.pi _).1 (hF.pi _).2) dX5_drawAnew_67 ?_
        refine xcVI (pc := 68) 70 [.ref (b + 17), .int (Fv 29 (Int32.toNatClampNeg (Fv 34 (Int32.toNatClampNeg k))))] (g_X5_leaveTo l D tA b iv Fv Gv (Fv 29 (Int32.toNatClampNeg (Fv 34 (Int32.toNatClampNeg k)))) hF hQ (show (0 ≤ Int32.toInt (iv 73 1) ∧ Int32.toInt (iv 73 1) ≤ 4000) ∧ (0 ≤ Int32.toInt (iv 75 1) ∧ Int32.toInt (iv 75 1) ≤ 4000) from by omega) ) C0 hH hS clX5 rfl ⟨⟨Nat.le_of_ble_eq_true rfl, Nat.le_of_ble_eq_true rfl⟩, rfl, rfl⟩ cw_X5_112 rfl ⟨Nat.le_of_ble_eq_true rfl, Nat.le_of_ble_eq_true rfl⟩ hl.1 rfl (Nat.le_of_ble_eq_true rfl) dX5_drawAnew_68 ⟨Nat.le_of_ble_eq_true rfl, Nat.le_of_ble_eq_true rfl⟩ (fun r205 ir205 Fr205 Gr205 _ locs hp hH hS => ?_)
        obtain ⟨honr205, hs1r205, hs2r205⟩ := hp
        dsimp only at hs1r205 hs2r205
        have hF : Tf17 ir205 Fr205 := Tf17.on (i := iv) (F := Fv) hF honr205 (by decide)
        have hQ : Pp17 600 ir205 Fr205 := Pp17.on (i := iv) (F := Fv) hQ honr205 (by decide)
        have ek_4_1r205 : Int32.toInt (ir205 4 1) = Int32.toInt (iv 4 1) := congrArg Int32.toInt (congrFun (honr205.1 4 (by decide)).1 1)
        refine lv_istore (pc := 71) (lv' := [(9, .int r205), (8, .int x204), (7, .int k), (6, .int cl), (5, .ref (b + 28)), (0, .ref (b + 70)), (1, .ref (b + 8)), (2, .ref (b + 4)), (3, .ref (b + 75)), (4, .int w)]) C0.1 C0.2.1 dX5_drawAnew_71 hl (by decide) rfl (fun ls hl => ?_)
        refine lv_iload (pc := 73) C0.1 C0.2.1 dX5_drawAnew_73 (lv_at hl 1 rfl) ?_
        refine lv_if_ge (pc := 75) (tgt := 90) C0.1 C0.2.1 dX5_drawAnew_75 (by decide) (fun c206 => ?_) (fun c206 => ?_)
        · have : Int32.toInt 0 = 0 := rfl
          have c206 := Int32.le_iff_toInt_le.mp c206
          have hio : 0 ≤ (Fr205 36 (Int32.toNatClampNeg x204)).toInt ∧ (Fr205 36 (Int32.toNatClampNeg x204)).toInt < 1200 := by rw [show Fr205 36 = Fv 36 from (honr205.1 36 (by decide)).2]; exact hio_ (by omega)
          refine lv_iload (pc := 90) C0.1 C0.2.1 dX5_drawAnew_90 (lv_at hl 3 rfl) ?_
          refine lv_if_eq (pc := 92) (tgt := 111) C0.1 C0.2.1 dX5_drawAnew_92 (by decide) (fun c207 => ?_) (fun c207 => ?_)
          · have : Int32.toInt 0 = 0 := rfl
            have c207 := congrArg Int32.toInt c207
            refine lv_iconst (pc := 111) (v := 0) C0.1 C0.2.1 dX5_drawAnew_111 (by decide) ?_
            refine lv_istore (pc := 112) (lv' := [(6, .int 0), (9, .int r205), (8, .int x204), (7, .int k), (5, .ref (b + 28)), (0, .ref (b + 70)), (1, .ref (b + 8)), (2, .ref (b + 4)), (3, .ref (b + 75)), (4, .int w)]) C0.1 C0.2.1 dX5_drawAnew_112 hl (by decide) rfl (fun ls hl => ?_)
            have hit := hF.pi (Int32.toNatClampNeg k)
            refine lv_aload_n (pc := 114) C0.1 C0.2.1 dX5_drawAnew_114 rfl (lv_at hl 5 rfl) ?_
            refine lv_aload_n (pc := 115) C0.1 C0.2.1 dX5_drawAnew_115 rfl (lv_at hl 6 rfl) ?_
            refine xget (pc := 116) C0 hH 8 1 clX4 ⟨Nat.le_of_ble_eq_true rfl, Nat.le_of_ble_eq_true rfl⟩ ⟨rfl, rfl⟩ (Nat.le_of_ble_eq_true rfl) fl_X5_18 (v := .ref (b + 17)) rfl dX5_drawAnew_116 ?_
            refine lv_aload (pc := 119) C0.1 C0.2.1 dX5_drawAnew_119 (lv_at hl 4 rfl) ?_
            refine xget (pc := 121) C0 hH 28 6 clX2 ⟨Nat.le_of_ble_eq_true rfl, Nat.le_of_ble_eq_true rfl⟩ ⟨rfl, rfl⟩ (Nat.le_of_ble_eq_true rfl) fl_X5_44 (v := .ref (b + 34)) rfl dX5_drawAnew_121 ?_
            refine lv_iload (pc := 124) C0.1 C0.2.1 dX5_drawAnew_124 (lv_at hl 3 rfl) ?_
            refine xiald (pc := 126) (N := 1201) C0 hH 34 ⟨Nat.le_of_ble_eq_true rfl, Nat.le_of_ble_eq_true rfl⟩ ⟨rfl, rfl⟩ (vI (by omega) (by omega)) dX5_drawAnew_126 ?_
            refine lv_iload (pc := 127) C0.1 C0.2.1 dX5_drawAnew_127 (lv_at hl 2 rfl) ?_
            refine lv_iload (pc := 129) C0.1 C0.2.1 dX5_drawAnew_129 (lv_at hl 1 rfl) ?_
            refine lv_aload_n (pc := 131) C0.1 C0.2.1 dX5_drawAnew_131 rfl (lv_at hl 8 rfl) ?_
            refine lv_iload (pc := 132) C0.1 C0.2.1 dX5_drawAnew_132 (lv_at hl 9 rfl) ?_
            refine xcVV (pc := 134) 70 [.ref (b + 17), .int (Fr205 34 (Int32.toNatClampNeg k)), .int x204, .int r205, .ref (b + 75), .int w] (g_X5_drawGap_75 l D tA b ir205 Fr205 Gr205 (Fr205 34 (Int32.toNatClampNeg k)) x204 r205 w hF hQ (show (0 ≤ Int32.toInt (ir205 73 1) ∧ Int32.toInt (ir205 73 1) ≤ 4000) ∧ (0 ≤ Int32.toInt (ir205 75 1) ∧ Int32.toInt (ir205 75 1) ≤ 4000) from by omega) (by omega)) C0 hH hS clX5 rfl ⟨⟨Nat.le_of_ble_eq_true rfl, Nat.le_of_ble_eq_true rfl⟩, rfl, rfl⟩ cw_X5_123 rfl ⟨Nat.le_of_ble_eq_true rfl, Nat.le_of_ble_eq_true rfl⟩ hl.1 rfl (Nat.le_of_ble_eq_true rfl) dX5_drawAnew_134 ⟨Nat.le_of_ble_eq_true rfl, Nat.le_of_ble_eq_true rfl⟩ (fun ir208 Fr208 Gr208 _ locs hp hH hS => ?_)
            obtain ⟨honr208, hs1r208, hs2r208⟩ := hp
            dsimp only at hs1r208 hs2r208
            have hF : Tf17 ir208 Fr208 := Tf17.on (i := ir205) (F := Fr205) hF honr208 (by decide)
            have hQ : Pp17 600 ir208 Fr208 := Pp17.on (i := ir205) (F := Fr205) hQ honr208 (by decide)
            have ek_4_1r208 : Int32.toInt (ir208 4 1) = Int32.toInt (ir205 4 1) := congrArg Int32.toInt (congrFun (honr208.1 4 (by decide)).1 1)
            refine lv_aload_n (pc := 137) C0.1 C0.2.1 dX5_drawAnew_137 rfl (lv_at hl 8 rfl) ?_
            refine lv_aload_n (pc := 138) C0.1 C0.2.1 dX5_drawAnew_138 rfl (lv_at hl 7 rfl) ?_
            refine lv_aload_n (pc := 139) C0.1 C0.2.1 dX5_drawAnew_139 rfl (lv_at hl 6 rfl) ?_
            refine xget (pc := 140) C0 hH 8 0 clX4 ⟨Nat.le_of_ble_eq_true rfl, Nat.le_of_ble_eq_true rfl⟩ ⟨rfl, rfl⟩ (Nat.le_of_ble_eq_true rfl) fl_X5_73 (v := .ref (b + 9)) rfl dX5_drawAnew_140 ?_
            refine xget (pc := 143) C0 hH 9 1 clX7 ⟨Nat.le_of_ble_eq_true rfl, Nat.le_of_ble_eq_true rfl⟩ ⟨rfl, rfl⟩ (Nat.le_of_ble_eq_true rfl) fl_X5_77 (v := .ref (b + 11)) rfl dX5_drawAnew_143 ?_
            refine lv_iload (pc := 146) C0.1 C0.2.1 dX5_drawAnew_146 (lv_at hl 2 rfl) ?_
            refine xiald (pc := 148) (N := 600) C0 hH 11 ⟨Nat.le_of_ble_eq_true rfl, Nat.le_of_ble_eq_true rfl⟩ ⟨rfl, rfl⟩ (vI (by omega) (by omega)) dX5_drawAnew_148 ?_
            refine lv_aload_n (pc := 149) C0.1 C0.2.1 dX5_drawAnew_149 rfl (lv_at hl 6 rfl) ?_
            refine xget (pc := 150) C0 hH 8 0 clX4 ⟨Nat.le_of_ble_eq_true rfl, Nat.le_of_ble_eq_true rfl⟩ ⟨rfl, rfl⟩ (Nat.le_of_ble_eq_true rfl) fl_X5_73 (v := .ref (b + 9)) rfl dX5_drawAnew_150 ?_
            refine xget (pc := 153) C0 hH 9 2 clX7 ⟨Nat.le_of_ble_eq_true rfl, Nat.le_of_ble_eq_true rfl⟩ ⟨rfl, rfl⟩ (Nat.le_of_ble_eq_true rfl) fl_X5_82 (v := .ref (b + 12)) rfl dX5_drawAnew_153 ?_
            refine lv_iload (pc := 156) C0.1 C0.2.1 dX5_drawAnew_156 (lv_at hl 2 rfl) ?_
            refine xiald (pc := 158) (N := 600) C0 hH 12 ⟨Nat.le_of_ble_eq_true rfl, Nat.le_of_ble_eq_true rfl⟩ ⟨rfl, rfl⟩ (vI (by omega) (by omega)) dX5_drawAnew_158 ?_
            refine xcVV (pc := 159) 75 [.ref (b + 4), .int (Fr208 11 (Int32.toNatClampNeg x204)), .int (Fr208 12 (Int32.toNatClampNeg x204))] (g_X3_putToken_75 l D tA b ir208 Fr208 Gr208 (Fr208 11 (Int32.toNatClampNeg x204)) (Fr208 12 (Int32.toNatClampNeg x204)) (show 0 ≤ Int32.toInt (ir208 75 1) ∧ Int32.toInt (ir208 75 1) ≤ 4000 from by omega) (show 0 ≤ Int32.toInt (ir208 4 1) ∧ Int32.toInt (ir208 4 1) ≤ 600 from by omega)) C0 hH hS clX3 rfl ⟨⟨Nat.le_of_ble_eq_true rfl, Nat.le_of_ble_eq_true rfl⟩, rfl, rfl⟩ cw_X5_85 rfl ⟨Nat.le_of_ble_eq_true rfl, Nat.le_of_ble_eq_true rfl⟩ hl.1 rfl (Nat.le_of_ble_eq_true rfl) dX5_drawAnew_159 ⟨Nat.le_of_ble_eq_true rfl, Nat.le_of_ble_eq_true rfl⟩ (fun ir209 Fr209 Gr209 _ locs hp hH hS => ?_)
            obtain ⟨honr209, hs1r209, hs2r209⟩ := hp
            dsimp only at hs1r209 hs2r209
            have hF : Tf17 ir209 Fr209 := Tf17.on (i := ir208) (F := Fr208) hF honr209 (by decide)
            have hQ : Pp17 600 ir209 Fr209 := Pp17.on (i := ir208) (F := Fr208) hQ honr209 (by decide)
            have ek_73_1r209 : Int32.toInt (ir209 73 1) = Int32.toInt (ir208 73 1) := congrArg Int32.toInt (congrFun (honr209.1 73 (by decide)).1 1)
            have ek_4_1r209 : Int32.toInt (ir209 4 1) = Int32.toInt (ir208 4 1) := congrArg Int32.toInt (congrFun (honr209.1 4 (by decide)).1 1)
            obtain ⟨x210, ex210⟩ : ∃ y_ : Int32, y_ = k + 1 := ⟨_, rfl⟩
            have : Int32.toInt 1 = 1 := rfl
            have hx210 : Int32.toInt x210 = Int32.toInt k + Int32.toInt 1 := by rw [ex210]; exact fb_addI (by omega) (by omega)
            refine lv_iinc (pc := 162) (v := x210) (lv' := [(7, .int x210), (6, .int 0), (9, .int r205), (8, .int x204), (5, .ref (b + 28)), (0, .ref (b + 70)), (1, .ref (b + 8)), (2, .ref (b + 4)), (3, .ref (b + 75)), (4, .int w)]) C0.1 C0.2.1 dX5_drawAnew_162 hl (k := 3) rfl (by rw [ex210]; rfl) (by decide) rfl (fun ls hl => ?_)
            refine lv_goto (pc := 165) (tgt := 29) C0.1 C0.2.1 dX5_drawAnew_165 (by decide) ?_
            exact ih29 x210 0 ir209 Fr209 Gr209 _ _ _ (by omega) (by omega) (On.tr (On.tr (On.tr h3 honr205 (by decide) (by decide)) honr208 (by decide) (by decide)) honr209 (by decide) (by decide)) (show (0 ≤ Int32.toInt (ir209 73 1) ∧ Int32.toInt (ir209 73 1) ≤ 4000) ∧ (0 ≤ Int32.toInt (ir209 75 1) ∧ Int32.toInt (ir209 75 1) ≤ 4000) from by omega) (by decide) hH hS (lv_sub hl [0, 1, 4, 5, 6, 7, 8, 9] rfl)
          · have : Int32.toInt 0 = 0 := rfl
            have c207 : ¬ _ := fun q => c207 (Int32.toInt_inj.mp q)
            refine lv_aload_n (pc := 95) C0.1 C0.2.1 dX5_drawAnew_95 rfl (lv_at hl 5 rfl) ?_
            refine lv_aload_n (pc := 96) C0.1 C0.2.1 dX5_drawAnew_96 rfl (lv_at hl 6 rfl) ?_
            refine lv_iload (pc := 97) C0.1 C0.2.1 dX5_drawAnew_97 (lv_at hl 0 rfl) ?_
            refine lv_iload (pc := 99) C0.1 C0.2.1 dX5_drawAnew_99 (lv_at hl 1 rfl) ?_
            refine xcVI (pc := 101) 70 [.ref (b + 8), .int r205, .int x204] (g_X5_followsEmpty l D tA b ir205 Fr205 Gr205 r205 x204 hF hQ (show (0 ≤ Int32.toInt (ir205 73 1) ∧ Int32.toInt (ir205 73 1) ≤ 4000) ∧ (0 ≤ Int32.toInt (ir205 75 1) ∧ Int32.toInt (ir205 75 1) ≤ 4000) from by omega) (by omega) hio) C0 hH hS clX5 rfl ⟨⟨Nat.le_of_ble_eq_true rfl, Nat.le_of_ble_eq_true rfl⟩, rfl, rfl⟩ cw_X5_119 rfl ⟨Nat.le_of_ble_eq_true rfl, Nat.le_of_ble_eq_true rfl⟩ hl.1 rfl (Nat.le_of_ble_eq_true rfl) dX5_drawAnew_101 ⟨Nat.le_of_ble_eq_true rfl, Nat.le_of_ble_eq_true rfl⟩ (fun r211 ir211 Fr211 Gr211 _ locs hp hH hS => ?_)
            obtain ⟨hu, hpr211⟩ := hp
            cases hu
            refine lv_if_ne (pc := 104) (tgt := 111) C0.1 C0.2.1 dX5_drawAnew_104 (by decide) (fun c212 => ?_) (fun c212 => ?_)
            · have : Int32.toInt 0 = 0 := rfl
              have c212 : ¬ _ := fun q => c212 (Int32.toInt_inj.mp q)
              refine lv_iconst (pc := 111) (v := 0) C0.1 C0.2.1 dX5_drawAnew_111 (by decide) ?_
              refine lv_istore (pc := 112) (lv' := [(6, .int 0), (9, .int r205), (8, .int x204), (7, .int k), (5, .ref (b + 28)), (0, .ref (b + 70)), (1, .ref (b + 8)), (2, .ref (b + 4)), (3, .ref (b + 75)), (4, .int w)]) C0.1 C0.2.1 dX5_drawAnew_112 hl (by decide) rfl (fun ls hl => ?_)
              have hit := hF.pi (Int32.toNatClampNeg k)
              refine lv_aload_n (pc := 114) C0.1 C0.2.1 dX5_drawAnew_114 rfl (lv_at hl 5 rfl) ?_
              refine lv_aload_n (pc := 115) C0.1 C0.2.1 dX5_drawAnew_115 rfl (lv_at hl 6 rfl) ?_
              refine xget (pc := 116) C0 hH 8 1 clX4 ⟨Nat.le_of_ble_eq_true rfl, Nat.le_of_ble_eq_true rfl⟩ ⟨rfl, rfl⟩ (Nat.le_of_ble_eq_true rfl) fl_X5_18 (v := .ref (b + 17)) rfl dX5_drawAnew_116 ?_
              refine lv_aload (pc := 119) C0.1 C0.2.1 dX5_drawAnew_119 (lv_at hl 4 rfl) ?_
              refine xget (pc := 121) C0 hH 28 6 clX2 ⟨Nat.le_of_ble_eq_true rfl, Nat.le_of_ble_eq_true rfl⟩ ⟨rfl, rfl⟩ (Nat.le_of_ble_eq_true rfl) fl_X5_44 (v := .ref (b + 34)) rfl dX5_drawAnew_121 ?_
              refine lv_iload (pc := 124) C0.1 C0.2.1 dX5_drawAnew_124 (lv_at hl 3 rfl) ?_
              refine xiald (pc := 126) (N := 1201) C0 hH 34 ⟨Nat.le_of_ble_eq_true rfl, Nat.le_of_ble_eq_true rfl⟩ ⟨rfl, rfl⟩ (vI (by omega) (by omega)) dX5_drawAnew_126 ?_
              refine lv_iload (pc := 127) C0.1 C0.2.1 dX5_drawAnew_127 (lv_at hl 2 rfl) ?_
              refine lv_iload (pc := 129) C0.1 C0.2.1 dX5_drawAnew_129 (lv_at hl 1 rfl) ?_
              refine lv_aload_n (pc := 131) C0.1 C0.2.1 dX5_drawAnew_131 rfl (lv_at hl 8 rfl) ?_
              refine lv_iload (pc := 132) C0.1 C0.2.1 dX5_drawAnew_132 (lv_at hl 9 rfl) ?_
              refine xcVV (pc := 134) 70 [.ref (b + 17), .int (Fr205 34 (Int32.toNatClampNeg k)), .int x204, .int r205, .ref (b + 75), .int w] (g_X5_drawGap_75 l D tA b ir205 Fr205 Gr205 (Fr205 34 (Int32.toNatClampNeg k)) x204 r205 w hF hQ (show (0 ≤ Int32.toInt (ir205 73 1) ∧ Int32.toInt (ir205 73 1) ≤ 4000) ∧ (0 ≤ Int32.toInt (ir205 75 1) ∧ Int32.toInt (ir205 75 1) ≤ 4000) from by omega) (by omega)) C0 hH hS clX5 rfl ⟨⟨Nat.le_of_ble_eq_true rfl, Nat.le_of_ble_eq_true rfl⟩, rfl, rfl⟩ cw_X5_123 rfl ⟨Nat.le_of_ble_eq_true rfl, Nat.le_of_ble_eq_true rfl⟩ hl.1 rfl (Nat.le_of_ble_eq_true rfl) dX5_drawAnew_134 ⟨Nat.le_of_ble_eq_true rfl, Nat.le_of_ble_eq_true rfl⟩ (fun ir213 Fr213 Gr213 _ locs hp hH hS => ?_)
              obtain ⟨honr213, hs1r213, hs2r213⟩ := hp
              dsimp only at hs1r213 hs2r213
              have hF : Tf17 ir213 Fr213 := Tf17.on (i := ir205) (F := Fr205) hF honr213 (by decide)
              have hQ : Pp17 600 ir213 Fr213 := Pp17.on (i := ir205) (F := Fr205) hQ honr213 (by decide)
              have ek_4_1r213 : Int32.toInt (ir213 4 1) = Int32.toInt (ir205 4 1) := congrArg Int32.toInt (congrFun (honr213.1 4 (by decide)).1 1)
              refine lv_aload_n (pc := 137) C0.1 C0.2.1 dX5_drawAnew_137 rfl (lv_at hl 8 rfl) ?_
              refine lv_aload_n (pc := 138) C0.1 C0.2.1 dX5_drawAnew_138 rfl (lv_at hl 7 rfl) ?_
              refine lv_aload_n (pc := 139) C0.1 C0.2.1 dX5_drawAnew_139 rfl (lv_at hl 6 rfl) ?_
              refine xget (pc := 140) C0 hH 8 0 clX4 ⟨Nat.le_of_ble_eq_true rfl, Nat.le_of_ble_eq_true rfl⟩ ⟨rfl, rfl⟩ (Nat.le_of_ble_eq_true rfl) fl_X5_73 (v := .ref (b + 9)) rfl dX5_drawAnew_140 ?_
              refine xget (pc := 143) C0 hH 9 1 clX7 ⟨Nat.le_of_ble_eq_true rfl, Nat.le_of_ble_eq_true rfl⟩ ⟨rfl, rfl⟩ (Nat.le_of_ble_eq_true rfl) fl_X5_77 (v := .ref (b + 11)) rfl dX5_drawAnew_143 ?_
              refine lv_iload (pc := 146) C0.1 C0.2.1 dX5_drawAnew_146 (lv_at hl 2 rfl) ?_
              refine xiald (pc := 148) (N := 600) C0 hH 11 ⟨Nat.le_of_ble_eq_true rfl, Nat.le_of_ble_eq_true rfl⟩ ⟨rfl, rfl⟩ (vI (by omega) (by omega)) dX5_drawAnew_148 ?_
              refine lv_aload_n (pc := 149) C0.1 C0.2.1 dX5_drawAnew_149 rfl (lv_at hl 6 rfl) ?_
              refine xget (pc := 150) C0 hH 8 0 clX4 ⟨Nat.le_of_ble_eq_true rfl, Nat.le_of_ble_eq_true rfl⟩ ⟨rfl, rfl⟩ (Nat.le_of_ble_eq_true rfl) fl_X5_73 (v := .ref (b + 9)) rfl dX5_drawAnew_150 ?_
              refine xget (pc := 153) C0 hH 9 2 clX7 ⟨Nat.le_of_ble_eq_true rfl, Nat.le_of_ble_eq_true rfl⟩ ⟨rfl, rfl⟩ (Nat.le_of_ble_eq_true rfl) fl_X5_82 (v := .ref (b + 12)) rfl dX5_drawAnew_153 ?_
              refine lv_iload (pc := 156) C0.1 C0.2.1 dX5_drawAnew_156 (lv_at hl 2 rfl) ?_
              refine xiald (pc := 158) (N := 600) C0 hH 12 ⟨Nat.le_of_ble_eq_true rfl, Nat.le_of_ble_eq_true rfl⟩ ⟨rfl, rfl⟩ (vI (by omega) (by omega)) dX5_drawAnew_158 ?_
              refine xcVV (pc := 159) 75 [.ref (b + 4), .int (Fr213 11 (Int32.toNatClampNeg x204)), .int (Fr213 12 (Int32.toNatClampNeg x204))] (g_X3_putToken_75 l D tA b ir213 Fr213 Gr213 (Fr213 11 (Int32.toNatClampNeg x204)) (Fr213 12 (Int32.toNatClampNeg x204)) (show 0 ≤ Int32.toInt (ir213 75 1) ∧ Int32.toInt (ir213 75 1) ≤ 4000 from by omega) (show 0 ≤ Int32.toInt (ir213 4 1) ∧ Int32.toInt (ir213 4 1) ≤ 600 from by omega)) C0 hH hS clX3 rfl ⟨⟨Nat.le_of_ble_eq_true rfl, Nat.le_of_ble_eq_true rfl⟩, rfl, rfl⟩ cw_X5_85 rfl ⟨Nat.le_of_ble_eq_true rfl, Nat.le_of_ble_eq_true rfl⟩ hl.1 rfl (Nat.le_of_ble_eq_true rfl) dX5_drawAnew_159 ⟨Nat.le_of_ble_eq_true rfl, Nat.le_of_ble_eq_true rfl⟩ (fun ir214 Fr214 Gr214 _ locs hp hH hS => ?_)
              obtain ⟨honr214, hs1r214, hs2r214⟩ := hp
              dsimp only at hs1r214 hs2r214
              have hF : Tf17 ir214 Fr214 := Tf17.on (i := ir213) (F := Fr213) hF honr214 (by decide)
              have hQ : Pp17 600 ir214 Fr214 := Pp17.on (i := ir213) (F := Fr213) hQ honr214 (by decide)
              have ek_73_1r214 : Int32.toInt (ir214 73 1) = Int32.toInt (ir213 73 1) := congrArg Int32.toInt (congrFun (honr214.1 73 (by decide)).1 1)
              have ek_4_1r214 : Int32.toInt (ir214 4 1) = Int32.toInt (ir213 4 1) := congrArg Int32.toInt (congrFun (honr214.1 4 (by decide)).1 1)
              obtain ⟨x215, ex215⟩ : ∃ y_ : Int32, y_ = k + 1 := ⟨_, rfl⟩
              have : Int32.toInt 1 = 1 := rfl
              have hx215 : Int32.toInt x215 = Int32.toInt k + Int32.toInt 1 := by rw [ex215]; exact fb_addI (by omega) (by omega)
              refine lv_iinc (pc := 162) (v := x215) (lv' := [(7, .int x215), (6, .int 0), (9, .int r205), (8, .int x204), (5, .ref (b + 28)), (0, .ref (b + 70)), (1, .ref (b + 8)), (2, .ref (b + 4)), (3, .ref (b + 75)), (4, .int w)]) C0.1 C0.2.1 dX5_drawAnew_162 hl (k := 3) rfl (by rw [ex215]; rfl) (by decide) rfl (fun ls hl => ?_)
              refine lv_goto (pc := 165) (tgt := 29) C0.1 C0.2.1 dX5_drawAnew_165 (by decide) ?_
              exact ih29 x215 0 ir214 Fr214 Gr214 _ _ _ (by omega) (by omega) (On.tr (On.tr (On.tr h3 honr205 (by decide) (by decide)) honr213 (by decide) (by decide)) honr214 (by decide) (by decide)) (show (0 ≤ Int32.toInt (ir214 73 1) ∧ Int32.toInt (ir214 73 1) ≤ 4000) ∧ (0 ≤ Int32.toInt (ir214 75 1) ∧ Int32.toInt (ir214 75 1) ≤ 4000) from by omega) (by decide) hH hS (lv_sub hl [0, 1, 4, 5, 6, 7, 8, 9] rfl)
            · have : Int32.toInt 0 = 0 := rfl
              have c212 := congrArg Int32.toInt c212
              refine lv_iconst (pc := 107) (v := 1) C0.1 C0.2.1 dX5_drawAnew_107 (by decide) ?_
              refine lv_goto (pc := 108) (tgt := 112) C0.1 C0.2.1 dX5_drawAnew_108 (by decide) ?_
              refine lv_istore (pc := 112) (lv' := [(6, .int 1), (9, .int r205), (8, .int x204), (7, .int k), (5, .ref (b + 28)), (0, .ref (b + 70)), (1, .ref (b + 8)), (2, .ref (b + 4)), (3, .ref (b + 75)), (4, .int w)]) C0.1 C0.2.1 dX5_drawAnew_112 hl (by decide) rfl (fun ls hl => ?_)
              have hit := hF.pi (Int32.toNatClampNeg k)
              refine lv_aload_n (pc := 114) C0.1 C0.2.1 dX5_drawAnew_114 rfl (lv_at hl 5 rfl) ?_
              refine lv_aload_n (pc := 115) C0.1 C0.2.1 dX5_drawAnew_115 rfl (lv_at hl 6 rfl) ?_
              refine xget (pc := 116) C0 hH 8 1 clX4 ⟨Nat.le_of_ble_eq_true rfl, Nat.le_of_ble_eq_true rfl⟩ ⟨rfl, rfl⟩ (Nat.le_of_ble_eq_true rfl) fl_X5_18 (v := .ref (b + 17)) rfl dX5_drawAnew_116 ?_
              refine lv_aload (pc := 119) C0.1 C0.2.1 dX5_drawAnew_119 (lv_at hl 4 rfl) ?_
              refine xget (pc := 121) C0 hH 28 6 clX2 ⟨Nat.le_of_ble_eq_true rfl, Nat.le_of_ble_eq_true rfl⟩ ⟨rfl, rfl⟩ (Nat.le_of_ble_eq_true rfl) fl_X5_44 (v := .ref (b + 34)) rfl dX5_drawAnew_121 ?_
              refine lv_iload (pc := 124) C0.1 C0.2.1 dX5_drawAnew_124 (lv_at hl 3 rfl) ?_
              refine xiald (pc := 126) (N := 1201) C0 hH 34 ⟨Nat.le_of_ble_eq_true rfl, Nat.le_of_ble_eq_true rfl⟩ ⟨rfl, rfl⟩ (vI (by omega) (by omega)) dX5_drawAnew_126 ?_
              refine lv_iload (pc := 127) C0.1 C0.2.1 dX5_drawAnew_127 (lv_at hl 2 rfl) ?_
              refine lv_iload (pc := 129) C0.1 C0.2.1 dX5_drawAnew_129 (lv_at hl 1 rfl) ?_
              refine lv_aload_n (pc := 131) C0.1 C0.2.1 dX5_drawAnew_131 rfl (lv_at hl 8 rfl) ?_
              refine lv_iload (pc := 132) C0.1 C0.2.1 dX5_drawAnew_132 (lv_at hl 9 rfl) ?_
              refine xcVV (pc := 134) 70 [.ref (b + 17), .int (Fr205 34 (Int32.toNatClampNeg k)), .int x204, .int r205, .ref (b + 75), .int w] (g_X5_drawGap_75 l D tA b ir205 Fr205 Gr205 (Fr205 34 (Int32.toNatClampNeg k)) x204 r205 w hF hQ (show (0 ≤ Int32.toInt (ir205 73 1) ∧ Int32.toInt (ir205 73 1) ≤ 4000) ∧ (0 ≤ Int32.toInt (ir205 75 1) ∧ Int32.toInt (ir205 75 1) ≤ 4000) from by omega) (by omega)) C0 hH hS clX5 rfl ⟨⟨Nat.le_of_ble_eq_true rfl, Nat.le_of_ble_eq_true rfl⟩, rfl, rfl⟩ cw_X5_123 rfl ⟨Nat.le_of_ble_eq_true rfl, Nat.le_of_ble_eq_true rfl⟩ hl.1 rfl (Nat.le_of_ble_eq_true rfl) dX5_drawAnew_134 ⟨Nat.le_of_ble_eq_true rfl, Nat.le_of_ble_eq_true rfl⟩ (fun ir216 Fr216 Gr216 _ locs hp hH hS => ?_)
              obtain ⟨honr216, hs1r216, hs2r216⟩ := hp
              dsimp only at hs1r216 hs2r216
              have hF : Tf17 ir216 Fr216 := Tf17.on (i := ir205) (F := Fr205) hF honr216 (by decide)
              have hQ : Pp17 600 ir216 Fr216 := Pp17.on (i := ir205) (F := Fr205) hQ honr216 (by decide)
              have ek_4_1r216 : Int32.toInt (ir216 4 1) = Int32.toInt (ir205 4 1) := congrArg Int32.toInt (congrFun (honr216.1 4 (by decide)).1 1)
              refine lv_aload_n (pc := 137) C0.1 C0.2.1 dX5_drawAnew_137 rfl (lv_at hl 8 rfl) ?_
              refine lv_aload_n (pc := 138) C0.1 C0.2.1 dX5_drawAnew_138 rfl (lv_at hl 7 rfl) ?_
              refine lv_aload_n (pc := 139) C0.1 C0.2.1 dX5_drawAnew_139 rfl (lv_at hl 6 rfl) ?_
              refine xget (pc := 140) C0 hH 8 0 clX4 ⟨Nat.le_of_ble_eq_true rfl, Nat.le_of_ble_eq_true rfl⟩ ⟨rfl, rfl⟩ (Nat.le_of_ble_eq_true rfl) fl_X5_73 (v := .ref (b + 9)) rfl dX5_drawAnew_140 ?_
              refine xget (pc := 143) C0 hH 9 1 clX7 ⟨Nat.le_of_ble_eq_true rfl, Nat.le_of_ble_eq_true rfl⟩ ⟨rfl, rfl⟩ (Nat.le_of_ble_eq_true rfl) fl_X5_77 (v := .ref (b + 11)) rfl dX5_drawAnew_143 ?_
              refine lv_iload (pc := 146) C0.1 C0.2.1 dX5_drawAnew_146 (lv_at hl 2 rfl) ?_
              refine xiald (pc := 148) (N := 600) C0 hH 11 ⟨Nat.le_of_ble_eq_true rfl, Nat.le_of_ble_eq_true rfl⟩ ⟨rfl, rfl⟩ (vI (by omega) (by omega)) dX5_drawAnew_148 ?_
              refine lv_aload_n (pc := 149) C0.1 C0.2.1 dX5_drawAnew_149 rfl (lv_at hl 6 rfl) ?_
              refine xget (pc := 150) C0 hH 8 0 clX4 ⟨Nat.le_of_ble_eq_true rfl, Nat.le_of_ble_eq_true rfl⟩ ⟨rfl, rfl⟩ (Nat.le_of_ble_eq_true rfl) fl_X5_73 (v := .ref (b + 9)) rfl dX5_drawAnew_150 ?_
              refine xget (pc := 153) C0 hH 9 2 clX7 ⟨Nat.le_of_ble_eq_true rfl, Nat.le_of_ble_eq_true rfl⟩ ⟨rfl, rfl⟩ (Nat.le_of_ble_eq_true rfl) fl_X5_82 (v := .ref (b + 12)) rfl dX5_drawAnew_153 ?_
              refine lv_iload (pc := 156) C0.1 C0.2.1 dX5_drawAnew_156 (lv_at hl 2 rfl) ?_
              refine xiald (pc := 158) (N := 600) C0 hH 12 ⟨Nat.le_of_ble_eq_true rfl, Nat.le_of_ble_eq_true rfl⟩ ⟨rfl, rfl⟩ (vI (by omega) (by omega)) dX5_drawAnew_158 ?_
              refine xcVV (pc := 159) 75 [.ref (b + 4), .int (Fr216 11 (Int32.toNatClampNeg x204)), .int (Fr216 12 (Int32.toNatClampNeg x204))] (g_X3_putToken_75 l D tA b ir216 Fr216 Gr216 (Fr216 11 (Int32.toNatClampNeg x204)) (Fr216 12 (Int32.toNatClampNeg x204)) (show 0 ≤ Int32.toInt (ir216 75 1) ∧ Int32.toInt (ir216 75 1) ≤ 4000 from by omega) (show 0 ≤ Int32.toInt (ir216 4 1) ∧ Int32.toInt (ir216 4 1) ≤ 600 from by omega)) C0 hH hS clX3 rfl ⟨⟨Nat.le_of_ble_eq_true rfl, Nat.le_of_ble_eq_true rfl⟩, rfl, rfl⟩ cw_X5_85 rfl ⟨Nat.le_of_ble_eq_true rfl, Nat.le_of_ble_eq_true rfl⟩ hl.1 rfl (Nat.le_of_ble_eq_true rfl) dX5_drawAnew_159 ⟨Nat.le_of_ble_eq_true rfl, Nat.le_of_ble_eq_true rfl⟩ (fun ir217 Fr217 Gr217 _ locs hp hH hS => ?_)
              obtain ⟨honr217, hs1r217, hs2r217⟩ := hp
              dsimp only at hs1r217 hs2r217
              have hF : Tf17 ir217 Fr217 := Tf17.on (i := ir216) (F := Fr216) hF honr217 (by decide)
              have hQ : Pp17 600 ir217 Fr217 := Pp17.on (i := ir216) (F := Fr216) hQ honr217 (by decide)
              have ek_73_1r217 : Int32.toInt (ir217 73 1) = Int32.toInt (ir216 73 1) := congrArg Int32.toInt (congrFun (honr217.1 73 (by decide)).1 1)
              have ek_4_1r217 : Int32.toInt (ir217 4 1) = Int32.toInt (ir216 4 1) := congrArg Int32.toInt (congrFun (honr217.1 4 (by decide)).1 1)
              obtain ⟨x218, ex218⟩ : ∃ y_ : Int32, y_ = k + 1 := ⟨_, rfl⟩
              have : Int32.toInt 1 = 1 := rfl
              have hx218 : Int32.toInt x218 = Int32.toInt k + Int32.toInt 1 := by rw [ex218]; exact fb_addI (by omega) (by omega)
              refine lv_iinc (pc := 162) (v := x218) (lv' := [(7, .int x218), (6, .int 1), (9, .int r205), (8, .int x204), (5, .ref (b + 28)), (0, .ref (b + 70)), (1, .ref (b + 8)), (2, .ref (b + 4)), (3, .ref (b + 75)), (4, .int w)]) C0.1 C0.2.1 dX5_drawAnew_162 hl (k := 3) rfl (by rw [ex218]; rfl) (by decide) rfl (fun ls hl => ?_)
              refine lv_goto (pc := 165) (tgt := 29) C0.1 C0.2.1 dX5_drawAnew_165 (by decide) ?_
              exact ih29 x218 1 ir217 Fr217 Gr217 _ _ _ (by omega) (by omega) (On.tr (On.tr (On.tr h3 honr205 (by decide) (by decide)) honr216 (by decide) (by decide)) honr217 (by decide) (by decide)) (show (0 ≤ Int32.toInt (ir217 73 1) ∧ Int32.toInt (ir217 73 1) ≤ 4000) ∧ (0 ≤ Int32.toInt (ir217 75 1) ∧ Int32.toInt (ir217 75 1) ≤ 4000) from by omega) (by decide) hH hS (lv_sub hl [0, 1, 4, 5, 6, 7, 8, 9] rfl)
        · have : Int32.toInt 0 = 0 := rfl
          have c206 : ¬ _ := fun q => c206 (Int32.le_iff_toInt_le.mpr q)
          refine lv_aload_n (pc := 78) C0.1 C0.2.1 dX5_drawAnew_78 rfl (lv_at hl 5 rfl) ?_
          refine lv_bipush (pc := 79) (v := (-100)) C0.1 C0.2.1 dX5_drawAnew_79 (by decide) ?_
          refine lv_iload (pc := 81) C0.1 C0.2.1 dX5_drawAnew_81 (lv_at hl 1 rfl) ?_
          refine lv_isub (pc := 83) C0.1 C0.2.1 dX5_drawAnew_83 ?_
          refine xcVV (pc := 84) 70 [.int ((-100) - x204)] (g_X5_enterBlock l D tA b ir205 Fr205 Gr205 ((-100) - x204) hF hQ (show (0 ≤ Int32.toInt (ir205 73 1) ∧ Int32.toInt (ir205 73 1) ≤ 4000) ∧ (0 ≤ Int32.toInt (ir205 75 1) ∧ Int32.toInt (ir205 75 1) ≤ 4000) from by omega) ) C0 hH hS clX5 rfl ⟨⟨Nat.le_of_ble_eq_true rfl, Nat.le_of_ble_eq_true rfl⟩, rfl, rfl⟩ cw_X5_116 rfl ⟨Nat.le_of_ble_eq_true rfl, Nat.le_of_ble_eq_true rfl⟩ hl.1 rfl (Nat.le_of_ble_eq_true rfl) dX5_drawAnew_84 ⟨Nat.le_of_ble_eq_true rfl, Nat.le_of_ble_eq_true rfl⟩ (fun ir219 Fr219 Gr219 _ locs hp hH hS => ?_)
          obtain ⟨honr219, hs1r219, hs2r219⟩ := hp
          dsimp only at hs1r219 hs2r219
          have hF : Tf17 ir219 Fr219 := Tf17.on (i := ir205) (F := Fr205) hF honr219 (by decide)
          have hQ : Pp17 600 ir219 Fr219 := Pp17.on (i := ir205) (F := Fr205) hQ honr219 (by decide)
          have ek_4_1r219 : Int32.toInt (ir219 4 1) = Int32.toInt (ir205 4 1) := congrArg Int32.toInt (congrFun (honr219.1 4 (by decide)).1 1)
          refine lv_goto (pc := 87) (tgt := 162) C0.1 C0.2.1 dX5_drawAnew_87 (by decide) ?_
          obtain ⟨x220, ex220⟩ : ∃ y_ : Int32, y_ = k + 1 := ⟨_, rfl⟩
          have : Int32.toInt 1 = 1 := rfl
          have hx220 : Int32.toInt x220 = Int32.toInt k + Int32.toInt 1 := by rw [ex220]; exact fb_addI (by omega) (by omega)
          refine lv_iinc (pc := 162) (v := x220) (lv' := [(7, .int x220), (9, .int r205), (8, .int x204), (6, .int cl), (5, .ref (b + 28)), (0, .ref (b + 70)), (1, .ref (b + 8)), (2, .ref (b + 4)), (3, .ref (b + 75)), (4, .int w)]) C0.1 C0.2.1 dX5_drawAnew_162 hl (k := 2) rfl (by rw [ex220]; rfl) (by decide) rfl (fun ls hl => ?_)
          refine lv_goto (pc := 165) (tgt := 29) C0.1 C0.2.1 dX5_drawAnew_165 (by decide) ?_
          exact ih29 x220 cl ir219 Fr219 Gr219 _ _ _ (by omega) (by omega) (On.tr (On.tr h3 honr205 (by decide) (by decide)) honr219 (by decide) (by decide)) (show (0 ≤ Int32.toInt (ir219 73 1) ∧ Int32.toInt (ir219 73 1) ≤ 4000) ∧ (0 ≤ Int32.toInt (ir219 75 1) ∧ Int32.toInt (ir219 75 1) ≤ 4000) from by omega) h5 hH hS (lv_sub hl [0, 3, 4, 5, 6, 7, 8, 9] rfl)
  refine lv_aload_n (pc := 0) C0.1 C0.2.1 dX5_drawAnew_0 rfl (lv_at hl 1 rfl) ?_
  refine xget (pc := 1) C0 hH 8 1 clX4 ⟨Nat.le_of_ble_eq_true rfl, Nat.le_of_ble_eq_true rfl⟩ ⟨rfl, rfl⟩ (Nat.le_of_ble_eq_true rfl) fl_X5_18 (v := .ref (b + 17)) rfl dX5_drawAnew_1 ?_
  refine xget (pc := 4) C0 hH 17 1 clX8 ⟨Nat.le_of_ble_eq_true rfl, Nat.le_of_ble_eq_true rfl⟩ ⟨rfl, rfl⟩ (Nat.le_of_ble_eq_true rfl) fl_X5_24 (v := .ref (b + 28)) rfl dX5_drawAnew_4 ?_
  refine lv_astore (pc := 7) (lv' := [(5, .ref (b + 28)), (0, .ref (b + 70)), (1, .ref (b + 8)), (2, .ref (b + 4)), (3, .ref (b + 75)), (4, .int w)]) C0.1 C0.2.1 dX5_drawAnew_7 hl (by decide) rfl (fun ls hl => ?_)
  refine lv_aload_n (pc := 9) C0.1 C0.2.1 dX5_drawAnew_9 rfl (lv_at hl 4 rfl) ?_
  refine xcVV (pc := 10) 75 [] (g_X3_clear_75 l D tA b i F G  ) C0 hH hS clX3 rfl ⟨⟨Nat.le_of_ble_eq_true rfl, Nat.le_of_ble_eq_true rfl⟩, rfl, rfl⟩ cw_X5_30 rfl ⟨Nat.le_of_ble_eq_true rfl, Nat.le_of_ble_eq_true rfl⟩ hl.1 rfl (Nat.le_of_ble_eq_true rfl) dX5_drawAnew_10 ⟨Nat.le_of_ble_eq_true rfl, Nat.le_of_ble_eq_true rfl⟩ (fun ir1 Fr1 Gr1 _ locs hp hH hS => ?_)
  obtain ⟨honr1, hs1r1, hs2r1⟩ := hp
  dsimp only at hs1r1 hs2r1
  have hF : Tf17 ir1 Fr1 := Tf17.on (i := i) (F := F) hF honr1 (by decide)
  have hQ : Pp17 600 ir1 Fr1 := Pp17.on (i := i) (F := F) hQ honr1 (by decide)
  have ek_73_1r1 : Int32.toInt (ir1 73 1) = Int32.toInt (i 73 1) := congrArg Int32.toInt (congrFun (honr1.1 73 (by decide)).1 1)
  have ek_4_1r1 : Int32.toInt (ir1 4 1) = Int32.toInt (i 4 1) := congrArg Int32.toInt (congrFun (honr1.1 4 (by decide)).1 1)
  refine lv_aload_n (pc := 13) C0.1 C0.2.1 dX5_drawAnew_13 rfl (lv_at hl 1 rfl) ?_
  refine lv_iconst (pc := 14) (v := 0) C0.1 C0.2.1 dX5_drawAnew_14 (by decide) ?_
  refine xputI (pc := 15) C0 (Nat.le_of_ble_eq_true rfl) hH hS 70 3 clX5 ⟨Nat.le_of_ble_eq_true rfl, Nat.le_of_ble_eq_true rfl⟩ ⟨rfl, rfl⟩ ⟨Nat.le_of_ble_eq_true rfl, rfl, rfl⟩ fl_X5_35 (x := 0) ⟨rfl, rfl⟩ dX5_drawAnew_15 (fun _ locs hH hS _ => ?_)
  have hH : Hd D tA b 0 78 zz (up2 ir1 70 3 0) Fr1 Gr1 _ := hH
  refine lv_aload_n (pc := 18) C0.1 C0.2.1 dX5_drawAnew_18 rfl (lv_at hl 1 rfl) ?_
  refine lv_iconst (pc := 19) (v := 0) C0.1 C0.2.1 dX5_drawAnew_19 (by decide) ?_
  refine xputI (pc := 20) C0 (Nat.le_of_ble_eq_true rfl) hH hS 70 2 clX5 ⟨Nat.le_of_ble_eq_true rfl, Nat.le_of_ble_eq_true rfl⟩ ⟨rfl, rfl⟩ ⟨Nat.le_of_ble_eq_true rfl, rfl, rfl⟩ fl_X5_109 (x := 0) ⟨rfl, rfl⟩ dX5_drawAnew_20 (fun _ locs hH hS _ => ?_)
  have hH : Hd D tA b 0 78 zz (up2 (up2 ir1 70 3 0) 70 2 0) Fr1 Gr1 _ := hH
  refine lv_iconst (pc := 23) (v := 1) C0.1 C0.2.1 dX5_drawAnew_23 (by decide) ?_
  refine lv_istore (pc := 24) (lv' := [(6, .int 1), (5, .ref (b + 28)), (0, .ref (b + 70)), (1, .ref (b + 8)), (2, .ref (b + 4)), (3, .ref (b + 75)), (4, .int w)]) C0.1 C0.2.1 dX5_drawAnew_24 hl (by decide) rfl (fun ls hl => ?_)
  refine lv_iconst (pc := 26) (v := 0) C0.1 C0.2.1 dX5_drawAnew_26 (by decide) ?_
  refine lv_istore (pc := 27) (lv' := [(7, .int 0), (6, .int 1), (5, .ref (b + 28)), (0, .ref (b + 70)), (1, .ref (b + 8)), (2, .ref (b + 4)), (3, .ref (b + 75)), (4, .int w)]) C0.1 C0.2.1 dX5_drawAnew_27 hl (by decide) rfl (fun ls hl => ?_)
  exact L29 1201 0 1 (up2 (up2 ir1 70 3 0) 70 2 0) Fr1 Gr1 _ _ _ (by have : Int32.toInt 0 = 0 := rfl; omega) (by have : Int32.toInt 0 = 0 := rfl; omega) (On.i (On.i (On.tr On.rf honr1 (by decide) (by decide)) (by decide)) (by decide)) (show (0 ≤ Int32.toInt (ir1 73 1) ∧ Int32.toInt (ir1 73 1) ≤ 4000) ∧ (0 ≤ Int32.toInt (ir1 75 1) ∧ Int32.toInt (ir1 75 1) ≤ 4000) from by omega) (Or.inr rfl) hH hS (lv_sub hl [0, 1, 2, 3, 4, 5, 6, 7] rfl)
