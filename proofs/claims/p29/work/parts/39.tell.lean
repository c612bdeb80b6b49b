set_option maxRecDepth 20000 in
theorem cw_X1_23 : CwN RX1 "IndentReader" 23 yX9_nameOf cX9_nameOf 3 (some .long) 1 := ⟨nm_ 425 (by decide +kernel) rfl, wm 1 (by decide +kernel) rfl, wm 427 rfl rfl, by decide +kernel⟩
set_option maxRecDepth 20000 in
theorem st_X9_nameOf : Cond.static yX9_nameOf ∈ WALL := wm 426 (by decide +kernel) rfl
set_option maxRecDepth 20000 in
theorem cw_X1_27 : CwN RX1 "IndentReader" 27 yX9_isWord cX9_isWord 4 (some .boolean) 1 := ⟨nm_ 435 (by decide +kernel) rfl, wm 1 (by decide +kernel) rfl, wm 437 rfl rfl, by decide +kernel⟩
set_option maxRecDepth 20000 in
theorem st_X9_isWord : Cond.static yX9_isWord ∈ WALL := wm 436 (by decide +kernel) rfl
set_option maxRecDepth 20000 in
theorem cw_X1_34 : CwN RX1 "IndentReader" 34 yX9_isStepped cX9_isStepped 1 (some .boolean) 1 := ⟨nm_ 532 (by decide +kernel) rfl, wm 1 (by decide +kernel) rfl, wm 534 rfl rfl, by decide +kernel⟩
set_option maxRecDepth 20000 in
theorem cw_X1_38 : CwV RX1 38 yX1_roleOf cX1_roleOf 4 (some .int) 1 := ⟨wm 535 (by decide +kernel) rfl, wm 536 (by decide +kernel) rfl, wm 537 (by decide +kernel) rfl, wm 2 (by decide +kernel) rfl, wm 538 rfl rfl, by decide +kernel⟩
set_option maxRecDepth 20000 in
theorem fl_X1_42 : Cond.fieldLink RX1 42 (TX1 3).1 (TX1 3).2.1 (TX1 3).2.2.1 ∈ WALL := wm 37 (by decide +kernel) rfl
set_option maxRecDepth 20000 in
theorem cw_X1_45 : CwV RX1 45 yX1_enter cX1_enter 4 none 2 := ⟨wm 539 (by decide +kernel) rfl, wm 541 (by decide +kernel) rfl, wms 0 (by decide +kernel) rfl, wm 2 (by decide +kernel) rfl, wm 542 rfl rfl, by decide +kernel⟩
set_option maxRecDepth 20000 in
theorem cw_X1_31 : CwN RX1 "IndentReader" 31 yX9_isMark cX9_isMark 2 (some .boolean) 1 := ⟨nm_ 441 (by decide +kernel) rfl, wm 1 (by decide +kernel) rfl, wm 443 rfl rfl, by decide +kernel⟩
set_option maxRecDepth 20000 in
theorem fl_X1_52 : Cond.fieldLink RX1 52 (TX1 5).1 (TX1 5).2.1 (TX1 5).2.2.1 ∈ WALL := wm 39 (by decide +kernel) rfl
set_option maxRecDepth 20000 in
theorem fl_X1_55 : Cond.fieldLink RX1 55 (TX1 6).1 (TX1 6).2.1 (TX1 6).2.2.1 ∈ WALL := wm 40 (by decide +kernel) rfl
set_option maxRecDepth 20000 in
theorem fl_X1_49 : Cond.fieldLink RX1 49 (TX1 4).1 (TX1 4).2.1 (TX1 4).2.2.1 ∈ WALL := wm 38 (by decide +kernel) rfl
set_option maxRecDepth 20000 in
theorem fl_X1_58 : Cond.fieldLink RX1 58 (TX1 7).1 (TX1 7).2.1 (TX1 7).2.2.1 ∈ WALL := wm 43 (by decide +kernel) rfl
theorem dX1_tellOpener_0 : decode cX1_tellOpener 0 = .ok (.lload_n 1, 1) := by decide +kernel
theorem dX1_tellOpener_1 : decode cX1_tellOpener 1 = .ok (.invokestatic 23, 3) := by decide +kernel
theorem dX1_tellOpener_4 : decode cX1_tellOpener 4 = .ok (.lstore 4, 2) := by decide +kernel
theorem dX1_tellOpener_6 : decode cX1_tellOpener 6 = .ok (.lload 4, 2) := by decide +kernel
theorem dX1_tellOpener_8 : decode cX1_tellOpener 8 = .ok (.invokestatic 27, 3) := by decide +kernel
theorem dX1_tellOpener_11 : decode cX1_tellOpener 11 = .ok (.ifCond .ne 11, 3) := by decide +kernel
theorem dX1_tellOpener_22 : decode cX1_tellOpener 22 = .ok (.iload_n 3, 1) := by decide +kernel
theorem dX1_tellOpener_23 : decode cX1_tellOpener 23 = .ok (.invokestatic 34, 3) := by decide +kernel
theorem dX1_tellOpener_26 : decode cX1_tellOpener 26 = .ok (.ifCond .ne 6, 3) := by decide +kernel
theorem dX1_tellOpener_32 : decode cX1_tellOpener 32 = .ok (.aload_n 0, 1) := by decide +kernel
theorem dX1_tellOpener_33 : decode cX1_tellOpener 33 = .ok (.lload 4, 2) := by decide +kernel
theorem dX1_tellOpener_35 : decode cX1_tellOpener 35 = .ok (.invokevirtual 38, 3) := by decide +kernel
theorem dX1_tellOpener_38 : decode cX1_tellOpener 38 = .ok (.ifCond .eq 6, 3) := by decide +kernel
theorem dX1_tellOpener_44 : decode cX1_tellOpener 44 = .ok (.aload_n 0, 1) := by decide +kernel
theorem dX1_tellOpener_45 : decode cX1_tellOpener 45 = .ok (.getfield 42, 3) := by decide +kernel
theorem dX1_tellOpener_48 : decode cX1_tellOpener 48 = .ok (.bipush 8, 2) := by decide +kernel
theorem dX1_tellOpener_50 : decode cX1_tellOpener 50 = .ok (.if_icmp .lt 6, 3) := by decide +kernel
theorem dX1_tellOpener_56 : decode cX1_tellOpener 56 = .ok (.aload_n 0, 1) := by decide +kernel
theorem dX1_tellOpener_57 : decode cX1_tellOpener 57 = .ok (.lload 4, 2) := by decide +kernel
theorem dX1_tellOpener_59 : decode cX1_tellOpener 59 = .ok (.iload_n 3, 1) := by decide +kernel
theorem dX1_tellOpener_60 : decode cX1_tellOpener 60 = .ok (.invokevirtual 45, 3) := by decide +kernel
theorem dX1_tellOpener_63 : decode cX1_tellOpener 63 = .ok (.aload_n 0, 1) := by decide +kernel
theorem dX1_tellOpener_64 : decode cX1_tellOpener 64 = .ok (.dup, 1) := by decide +kernel
theorem dX1_tellOpener_65 : decode cX1_tellOpener 65 = .ok (.getfield 42, 3) := by decide +kernel
theorem dX1_tellOpener_68 : decode cX1_tellOpener 68 = .ok (.iconst 1, 1) := by decide +kernel
theorem dX1_tellOpener_69 : decode cX1_tellOpener 69 = .ok (.iadd, 1) := by decide +kernel
theorem dX1_tellOpener_70 : decode cX1_tellOpener 70 = .ok (.putfield 42, 3) := by decide +kernel
theorem dX1_tellOpener_73 : decode cX1_tellOpener 73 = .ok (.aload_n 0, 1) := by decide +kernel
theorem dX1_tellOpener_74 : decode cX1_tellOpener 74 = .ok (.getfield 42, 3) := by decide +kernel
theorem dX1_tellOpener_77 : decode cX1_tellOpener 77 = .ok (.ireturn, 1) := by decide +kernel
theorem dX1_tellOpener_53 : decode cX1_tellOpener 53 = .ok (.bipush (-4), 2) := by decide +kernel
theorem dX1_tellOpener_55 : decode cX1_tellOpener 55 = .ok (.ireturn, 1) := by decide +kernel
theorem dX1_tellOpener_41 : decode cX1_tellOpener 41 = .ok (.bipush (-3), 2) := by decide +kernel
theorem dX1_tellOpener_43 : decode cX1_tellOpener 43 = .ok (.ireturn, 1) := by decide +kernel
theorem dX1_tellOpener_29 : decode cX1_tellOpener 29 = .ok (.bipush (-2), 2) := by decide +kernel
theorem dX1_tellOpener_31 : decode cX1_tellOpener 31 = .ok (.ireturn, 1) := by decide +kernel
theorem dX1_tellOpener_14 : decode cX1_tellOpener 14 = .ok (.lload 4, 2) := by decide +kernel
theorem dX1_tellOpener_16 : decode cX1_tellOpener 16 = .ok (.invokestatic 31, 3) := by decide +kernel
theorem dX1_tellOpener_19 : decode cX1_tellOpener 19 = .ok (.ifCond .eq 10, 3) := by decide +kernel
theorem dX1_tellCloser_0 : decode cX1_tellCloser 0 = .ok (.lload_n 1, 1) := by decide +kernel
theorem dX1_tellCloser_1 : decode cX1_tellCloser 1 = .ok (.invokestatic 23, 3) := by decide +kernel
theorem dX1_tellCloser_4 : decode cX1_tellCloser 4 = .ok (.lstore_n 3, 1) := by decide +kernel
theorem dX1_tellCloser_5 : decode cX1_tellCloser 5 = .ok (.lload_n 3, 1) := by decide +kernel
theorem dX1_tellCloser_6 : decode cX1_tellCloser 6 = .ok (.invokestatic 27, 3) := by decide +kernel
theorem dX1_tellCloser_9 : decode cX1_tellCloser 9 = .ok (.ifCond .ne 6, 3) := by decide +kernel
theorem dX1_tellCloser_15 : decode cX1_tellCloser 15 = .ok (.aload_n 0, 1) := by decide +kernel
theorem dX1_tellCloser_16 : decode cX1_tellCloser 16 = .ok (.lload_n 3, 1) := by decide +kernel
theorem dX1_tellCloser_17 : decode cX1_tellCloser 17 = .ok (.invokevirtual 38, 3) := by decide +kernel
theorem dX1_tellCloser_20 : decode cX1_tellCloser 20 = .ok (.ifCond .eq 6, 3) := by decide +kernel
theorem dX1_tellCloser_26 : decode cX1_tellCloser 26 = .ok (.aload_n 0, 1) := by decide +kernel
theorem dX1_tellCloser_27 : decode cX1_tellCloser 27 = .ok (.getfield 52, 3) := by decide +kernel
theorem dX1_tellCloser_30 : decode cX1_tellCloser 30 = .ok (.iconst 4, 1) := by decide +kernel
theorem dX1_tellCloser_31 : decode cX1_tellCloser 31 = .ok (.if_icmp .lt 6, 3) := by decide +kernel
theorem dX1_tellCloser_37 : decode cX1_tellCloser 37 = .ok (.aload_n 0, 1) := by decide +kernel
theorem dX1_tellCloser_38 : decode cX1_tellCloser 38 = .ok (.lload_n 3, 1) := by decide +kernel
theorem dX1_tellCloser_39 : decode cX1_tellCloser 39 = .ok (.bipush 6, 2) := by decide +kernel
theorem dX1_tellCloser_41 : decode cX1_tellCloser 41 = .ok (.invokevirtual 45, 3) := by decide +kernel
theorem dX1_tellCloser_44 : decode cX1_tellCloser 44 = .ok (.aload_n 0, 1) := by decide +kernel
theorem dX1_tellCloser_45 : decode cX1_tellCloser 45 = .ok (.dup, 1) := by decide +kernel
theorem dX1_tellCloser_46 : decode cX1_tellCloser 46 = .ok (.getfield 52, 3) := by decide +kernel
theorem dX1_tellCloser_49 : decode cX1_tellCloser 49 = .ok (.iconst 1, 1) := by decide +kernel
theorem dX1_tellCloser_50 : decode cX1_tellCloser 50 = .ok (.iadd, 1) := by decide +kernel
theorem dX1_tellCloser_51 : decode cX1_tellCloser 51 = .ok (.putfield 52, 3) := by decide +kernel
theorem dX1_tellCloser_54 : decode cX1_tellCloser 54 = .ok (.aload_n 0, 1) := by decide +kernel
theorem dX1_tellCloser_55 : decode cX1_tellCloser 55 = .ok (.getfield 52, 3) := by decide +kernel
theorem dX1_tellCloser_58 : decode cX1_tellCloser 58 = .ok (.ireturn, 1) := by decide +kernel
theorem dX1_tellCloser_34 : decode cX1_tellCloser 34 = .ok (.bipush (-4), 2) := by decide +kernel
theorem dX1_tellCloser_36 : decode cX1_tellCloser 36 = .ok (.ireturn, 1) := by decide +kernel
theorem dX1_tellCloser_23 : decode cX1_tellCloser 23 = .ok (.bipush (-3), 2) := by decide +kernel
theorem dX1_tellCloser_25 : decode cX1_tellCloser 25 = .ok (.ireturn, 1) := by decide +kernel
theorem dX1_tellCloser_12 : decode cX1_tellCloser 12 = .ok (.bipush (-2), 2) := by decide +kernel
theorem dX1_tellCloser_14 : decode cX1_tellCloser 14 = .ok (.ireturn, 1) := by decide +kernel
theorem dX1_tellGoer_0 : decode cX1_tellGoer 0 = .ok (.iload_n 1, 1) := by decide +kernel
theorem dX1_tellGoer_1 : decode cX1_tellGoer 1 = .ok (.i2l, 1) := by decide +kernel
theorem dX1_tellGoer_2 : decode cX1_tellGoer 2 = .ok (.invokestatic 31, 3) := by decide +kernel
theorem dX1_tellGoer_5 : decode cX1_tellGoer 5 = .ok (.ifCond .ne 6, 3) := by decide +kernel
theorem dX1_tellGoer_11 : decode cX1_tellGoer 11 = .ok (.aload_n 0, 1) := by decide +kernel
theorem dX1_tellGoer_12 : decode cX1_tellGoer 12 = .ok (.iload_n 1, 1) := by decide +kernel
theorem dX1_tellGoer_13 : decode cX1_tellGoer 13 = .ok (.i2l, 1) := by decide +kernel
theorem dX1_tellGoer_14 : decode cX1_tellGoer 14 = .ok (.invokevirtual 38, 3) := by decide +kernel
theorem dX1_tellGoer_17 : decode cX1_tellGoer 17 = .ok (.ifCond .eq 6, 3) := by decide +kernel
theorem dX1_tellGoer_23 : decode cX1_tellGoer 23 = .ok (.aload_n 0, 1) := by decide +kernel
theorem dX1_tellGoer_24 : decode cX1_tellGoer 24 = .ok (.getfield 55, 3) := by decide +kernel
theorem dX1_tellGoer_27 : decode cX1_tellGoer 27 = .ok (.iconst 4, 1) := by decide +kernel
theorem dX1_tellGoer_28 : decode cX1_tellGoer 28 = .ok (.if_icmp .lt 6, 3) := by decide +kernel
theorem dX1_tellGoer_34 : decode cX1_tellGoer 34 = .ok (.aload_n 0, 1) := by decide +kernel
theorem dX1_tellGoer_35 : decode cX1_tellGoer 35 = .ok (.iload_n 1, 1) := by decide +kernel
theorem dX1_tellGoer_36 : decode cX1_tellGoer 36 = .ok (.i2l, 1) := by decide +kernel
theorem dX1_tellGoer_37 : decode cX1_tellGoer 37 = .ok (.bipush 7, 2) := by decide +kernel
theorem dX1_tellGoer_39 : decode cX1_tellGoer 39 = .ok (.invokevirtual 45, 3) := by decide +kernel
theorem dX1_tellGoer_42 : decode cX1_tellGoer 42 = .ok (.aload_n 0, 1) := by decide +kernel
theorem dX1_tellGoer_43 : decode cX1_tellGoer 43 = .ok (.dup, 1) := by decide +kernel
theorem dX1_tellGoer_44 : decode cX1_tellGoer 44 = .ok (.getfield 55, 3) := by decide +kernel
theorem dX1_tellGoer_47 : decode cX1_tellGoer 47 = .ok (.iconst 1, 1) := by decide +kernel
theorem dX1_tellGoer_48 : decode cX1_tellGoer 48 = .ok (.iadd, 1) := by decide +kernel
theorem dX1_tellGoer_49 : decode cX1_tellGoer 49 = .ok (.putfield 55, 3) := by decide +kernel
theorem dX1_tellGoer_52 : decode cX1_tellGoer 52 = .ok (.aload_n 0, 1) := by decide +kernel
theorem dX1_tellGoer_53 : decode cX1_tellGoer 53 = .ok (.getfield 55, 3) := by decide +kernel
theorem dX1_tellGoer_56 : decode cX1_tellGoer 56 = .ok (.ireturn, 1) := by decide +kernel
theorem dX1_tellGoer_31 : decode cX1_tellGoer 31 = .ok (.bipush (-4), 2) := by decide +kernel
theorem dX1_tellGoer_33 : decode cX1_tellGoer 33 = .ok (.ireturn, 1) := by decide +kernel
theorem dX1_tellGoer_20 : decode cX1_tellGoer 20 = .ok (.bipush (-3), 2) := by decide +kernel
theorem dX1_tellGoer_22 : decode cX1_tellGoer 22 = .ok (.ireturn, 1) := by decide +kernel
theorem dX1_tellGoer_8 : decode cX1_tellGoer 8 = .ok (.bipush (-2), 2) := by decide +kernel
theorem dX1_tellGoer_10 : decode cX1_tellGoer 10 = .ok (.ireturn, 1) := by decide +kernel
theorem dX1_tellPair_0 : decode cX1_tellPair 0 = .ok (.iload_n 1, 1) := by decide +kernel
theorem dX1_tellPair_1 : decode cX1_tellPair 1 = .ok (.i2l, 1) := by decide +kernel
theorem dX1_tellPair_2 : decode cX1_tellPair 2 = .ok (.invokestatic 31, 3) := by decide +kernel
theorem dX1_tellPair_5 : decode cX1_tellPair 5 = .ok (.ifCond .eq 11, 3) := by decide +kernel
theorem dX1_tellPair_16 : decode cX1_tellPair 16 = .ok (.bipush (-2), 2) := by decide +kernel
theorem dX1_tellPair_18 : decode cX1_tellPair 18 = .ok (.ireturn, 1) := by decide +kernel
theorem dX1_tellPair_8 : decode cX1_tellPair 8 = .ok (.iload_n 2, 1) := by decide +kernel
theorem dX1_tellPair_9 : decode cX1_tellPair 9 = .ok (.i2l, 1) := by decide +kernel
theorem dX1_tellPair_10 : decode cX1_tellPair 10 = .ok (.invokestatic 31, 3) := by decide +kernel
theorem dX1_tellPair_13 : decode cX1_tellPair 13 = .ok (.ifCond .ne 6, 3) := by decide +kernel
theorem dX1_tellPair_19 : decode cX1_tellPair 19 = .ok (.aload_n 0, 1) := by decide +kernel
theorem dX1_tellPair_20 : decode cX1_tellPair 20 = .ok (.iload_n 1, 1) := by decide +kernel
theorem dX1_tellPair_21 : decode cX1_tellPair 21 = .ok (.i2l, 1) := by decide +kernel
theorem dX1_tellPair_22 : decode cX1_tellPair 22 = .ok (.invokevirtual 38, 3) := by decide +kernel
theorem dX1_tellPair_25 : decode cX1_tellPair 25 = .ok (.ifCond .ne 17, 3) := by decide +kernel
theorem dX1_tellPair_42 : decode cX1_tellPair 42 = .ok (.bipush (-3), 2) := by decide +kernel
theorem dX1_tellPair_44 : decode cX1_tellPair 44 = .ok (.ireturn, 1) := by decide +kernel
theorem dX1_tellPair_28 : decode cX1_tellPair 28 = .ok (.aload_n 0, 1) := by decide +kernel
theorem dX1_tellPair_29 : decode cX1_tellPair 29 = .ok (.iload_n 2, 1) := by decide +kernel
theorem dX1_tellPair_30 : decode cX1_tellPair 30 = .ok (.i2l, 1) := by decide +kernel
theorem dX1_tellPair_31 : decode cX1_tellPair 31 = .ok (.invokevirtual 38, 3) := by decide +kernel
theorem dX1_tellPair_34 : decode cX1_tellPair 34 = .ok (.ifCond .ne 8, 3) := by decide +kernel
theorem dX1_tellPair_37 : decode cX1_tellPair 37 = .ok (.iload_n 1, 1) := by decide +kernel
theorem dX1_tellPair_38 : decode cX1_tellPair 38 = .ok (.iload_n 2, 1) := by decide +kernel
theorem dX1_tellPair_39 : decode cX1_tellPair 39 = .ok (.if_icmp .ne 6, 3) := by decide +kernel
theorem dX1_tellPair_45 : decode cX1_tellPair 45 = .ok (.aload_n 0, 1) := by decide +kernel
theorem dX1_tellPair_46 : decode cX1_tellPair 46 = .ok (.getfield 49, 3) := by decide +kernel
theorem dX1_tellPair_49 : decode cX1_tellPair 49 = .ok (.iconst 4, 1) := by decide +kernel
theorem dX1_tellPair_50 : decode cX1_tellPair 50 = .ok (.if_icmp .lt 6, 3) := by decide +kernel
theorem dX1_tellPair_56 : decode cX1_tellPair 56 = .ok (.aload_n 0, 1) := by decide +kernel
theorem dX1_tellPair_57 : decode cX1_tellPair 57 = .ok (.iload_n 1, 1) := by decide +kernel
theorem dX1_tellPair_58 : decode cX1_tellPair 58 = .ok (.i2l, 1) := by decide +kernel
theorem dX1_tellPair_59 : decode cX1_tellPair 59 = .ok (.bipush 10, 2) := by decide +kernel
theorem dX1_tellPair_61 : decode cX1_tellPair 61 = .ok (.aload_n 0, 1) := by decide +kernel
theorem dX1_tellPair_62 : decode cX1_tellPair 62 = .ok (.getfield 49, 3) := by decide +kernel
theorem dX1_tellPair_65 : decode cX1_tellPair 65 = .ok (.iadd, 1) := by decide +kernel
theorem dX1_tellPair_66 : decode cX1_tellPair 66 = .ok (.invokevirtual 45, 3) := by decide +kernel
theorem dX1_tellPair_69 : decode cX1_tellPair 69 = .ok (.aload_n 0, 1) := by decide +kernel
theorem dX1_tellPair_70 : decode cX1_tellPair 70 = .ok (.iload_n 2, 1) := by decide +kernel
theorem dX1_tellPair_71 : decode cX1_tellPair 71 = .ok (.i2l, 1) := by decide +kernel
theorem dX1_tellPair_72 : decode cX1_tellPair 72 = .ok (.bipush 20, 2) := by decide +kernel
theorem dX1_tellPair_74 : decode cX1_tellPair 74 = .ok (.aload_n 0, 1) := by decide +kernel
theorem dX1_tellPair_75 : decode cX1_tellPair 75 = .ok (.getfield 49, 3) := by decide +kernel
theorem dX1_tellPair_78 : decode cX1_tellPair 78 = .ok (.iadd, 1) := by decide +kernel
theorem dX1_tellPair_79 : decode cX1_tellPair 79 = .ok (.invokevirtual 45, 3) := by decide +kernel
theorem dX1_tellPair_82 : decode cX1_tellPair 82 = .ok (.aload_n 0, 1) := by decide +kernel
theorem dX1_tellPair_83 : decode cX1_tellPair 83 = .ok (.dup, 1) := by decide +kernel
theorem dX1_tellPair_84 : decode cX1_tellPair 84 = .ok (.getfield 49, 3) := by decide +kernel
theorem dX1_tellPair_87 : decode cX1_tellPair 87 = .ok (.iconst 1, 1) := by decide +kernel
theorem dX1_tellPair_88 : decode cX1_tellPair 88 = .ok (.iadd, 1) := by decide +kernel
theorem dX1_tellPair_89 : decode cX1_tellPair 89 = .ok (.putfield 49, 3) := by decide +kernel
theorem dX1_tellPair_92 : decode cX1_tellPair 92 = .ok (.aload_n 0, 1) := by decide +kernel
theorem dX1_tellPair_93 : decode cX1_tellPair 93 = .ok (.getfield 49, 3) := by decide +kernel
theorem dX1_tellPair_96 : decode cX1_tellPair 96 = .ok (.ireturn, 1) := by decide +kernel
theorem dX1_tellPair_53 : decode cX1_tellPair 53 = .ok (.bipush (-4), 2) := by decide +kernel
theorem dX1_tellPair_55 : decode cX1_tellPair 55 = .ok (.ireturn, 1) := by decide +kernel
theorem dX1_tellTab_0 : decode cX1_tellTab 0 = .ok (.iload_n 1, 1) := by decide +kernel
theorem dX1_tellTab_1 : decode cX1_tellTab 1 = .ok (.ifCond .lt 9, 3) := by decide +kernel
theorem dX1_tellTab_10 : decode cX1_tellTab 10 = .ok (.bipush (-2), 2) := by decide +kernel
theorem dX1_tellTab_12 : decode cX1_tellTab 12 = .ok (.ireturn, 1) := by decide +kernel
theorem dX1_tellTab_4 : decode cX1_tellTab 4 = .ok (.iload_n 1, 1) := by decide +kernel
theorem dX1_tellTab_5 : decode cX1_tellTab 5 = .ok (.bipush 8, 2) := by decide +kernel
theorem dX1_tellTab_7 : decode cX1_tellTab 7 = .ok (.if_icmp .le 6, 3) := by decide +kernel
theorem dX1_tellTab_13 : decode cX1_tellTab 13 = .ok (.aload_n 0, 1) := by decide +kernel
theorem dX1_tellTab_14 : decode cX1_tellTab 14 = .ok (.getfield 58, 3) := by decide +kernel
theorem dX1_tellTab_17 : decode cX1_tellTab 17 = .ok (.istore_n 2, 1) := by decide +kernel
theorem dX1_tellTab_18 : decode cX1_tellTab 18 = .ok (.aload_n 0, 1) := by decide +kernel
theorem dX1_tellTab_19 : decode cX1_tellTab 19 = .ok (.iload_n 1, 1) := by decide +kernel
theorem dX1_tellTab_20 : decode cX1_tellTab 20 = .ok (.putfield 58, 3) := by decide +kernel
theorem dX1_tellTab_23 : decode cX1_tellTab 23 = .ok (.iload_n 2, 1) := by decide +kernel
theorem dX1_tellTab_24 : decode cX1_tellTab 24 = .ok (.ireturn, 1) := by decide +kernel
set_option maxHeartbeats 4000000 in
set_option maxRecDepth 100000 in
theorem g_X1_tellOpener (l : Launch) (D : va_G) (tA : Nat → ClassId) (b : Nat) (i F : Nat → Nat → Int32) (G : Nat → Nat → Int64) (w : Int64) (y : Int32) (S : Int64 → Prop) (hB : BkC i F G S) : xMI l yX1_tellOpener cX1_tellOpener 6 (some .int) 5 112 D tA b 0 78 i F G [.ref (b + 1), .long w, .int y] (fun r u => OB i F u ∧ (∃ S2, tlR ((wdI (nmw w) = 0 ∧ mk1 (nmw w) = 0) ∨ ¬ (y.toInt = 1 ∨ y.toInt = 2 ∨ y.toInt = 3 ∨ y.toInt = 5)) (S (nmw w)) (i 1 3) 8 S S2 (fun x => x = nmw w) r (u.1 1 3) ∧ BkC u.1 u.2.1 u.2.2 S2) ∧ (u.1 1 4 = i 1 4 ∧ u.1 1 5 = i 1 5 ∧ u.1 1 6 = i 1 6 ∧ u.1 1 7 = i 1 7)) := by
  refine xstart RX1 rfl (by decide) (Nat.le_of_ble_eq_true rfl) ?_
  intro p e s m below meth c ls C0 hr hH hS hl
  have hl : lv_has ls 6 [(0, .ref (b + 1)), (1, .long w), (3, .int y)] := hl
  have rg_y := fb_rng y
  have hRg := hB.1
  have hSm := hB.2.1
  refine lv_lload_n (pc := 0) C0.1 C0.2.1 dX1_tellOpener_0 rfl (lv_at hl 1 rfl) ?_
  refine xcNL (pc := 1) [.long w] (c_X9_nameOf l D tA b 0 78 i F G w) C0 hH hS cw_X1_23 st_X9_nameOf rfl ⟨Nat.le_of_ble_eq_true rfl, Nat.le_of_ble_eq_true rfl⟩ hl.1 rfl (Nat.le_of_ble_eq_true rfl) dX1_tellOpener_1 ⟨Nat.le_of_ble_eq_true rfl, Nat.le_of_ble_eq_true rfl⟩ (fun r1 ir1 Fr1 Gr1 _ locs hp hH hS => ?_)
  obtain ⟨hu, rfl⟩ := hp
  cases hu
  refine lv_lstore (pc := 4) (lv' := [(4, .long (nmw w)), (0, .ref (b + 1)), (1, .long w), (3, .int y)]) C0.1 C0.2.1 dX1_tellOpener_4 hl (by decide) rfl (fun ls hl => ?_)
  refine lv_lload (pc := 6) C0.1 C0.2.1 dX1_tellOpener_6 (lv_at hl 0 rfl) ?_
  refine xcNI (pc := 8) [.long (nmw w)] (c_X9_isWord l D tA b 0 78 i F G (nmw w)) C0 hH hS cw_X1_27 st_X9_isWord rfl ⟨Nat.le_of_ble_eq_true rfl, Nat.le_of_ble_eq_true rfl⟩ hl.1 rfl (Nat.le_of_ble_eq_true rfl) dX1_tellOpener_8 ⟨Nat.le_of_ble_eq_true rfl, Nat.le_of_ble_eq_true rfl⟩ (fun r2 ir2 Fr2 Gr2 _ locs hp hH hS => ?_)
  obtain ⟨hu, rfl⟩ := hp
  cases hu
  refine lv_if_ne (pc := 11) (tgt := 22) C0.1 C0.2.1 dX1_tellOpener_11 (by decide) (fun c3 => ?_) (fun c3 => ?_)
  · refine lv_iload_n (pc := 22) C0.1 C0.2.1 dX1_tellOpener_22 rfl (lv_at hl 3 rfl) ?_
    refine xcNI (pc := 23) [.int y] (c_X9_isStepped l D tA b 0 78 i F G y) C0 hH hS cw_X1_34 st_X9_isStepped rfl ⟨Nat.le_of_ble_eq_true rfl, Nat.le_of_ble_eq_true rfl⟩ hl.1 rfl (Nat.le_of_ble_eq_true rfl) dX1_tellOpener_23 ⟨Nat.le_of_ble_eq_true rfl, Nat.le_of_ble_eq_true rfl⟩ (fun r4 ir4 Fr4 Gr4 _ locs hp hH hS => ?_)
    obtain ⟨hu, rfl⟩ := hp
    cases hu
    refine lv_if_ne (pc := 26) (tgt := 32) C0.1 C0.2.1 dX1_tellOpener_26 (by decide) (fun c5 => ?_) (fun c5 => ?_)
    · have c5 := stp_1 c5
      refine lv_aload_n (pc := 32) C0.1 C0.2.1 dX1_tellOpener_32 rfl (lv_at hl 1 rfl) ?_
      refine lv_lload (pc := 33) C0.1 C0.2.1 dX1_tellOpener_33 (lv_at hl 0 rfl) ?_
      refine xcVI (pc := 35) 1 [.long (nmw w)] (g_X1_roleOf l D tA b i F G (nmw w) (by omega) hB.2.2.1) C0 hH hS clX1 rfl ⟨⟨Nat.le_of_ble_eq_true rfl, Nat.le_of_ble_eq_true rfl⟩, rfl, rfl⟩ cw_X1_38 rfl ⟨Nat.le_of_ble_eq_true rfl, Nat.le_of_ble_eq_true rfl⟩ hl.1 rfl (Nat.le_of_ble_eq_true rfl) dX1_tellOpener_35 ⟨Nat.le_of_ble_eq_true rfl, Nat.le_of_ble_eq_true rfl⟩ (fun r6 ir6 Fr6 Gr6 _ locs hp hH hS => ?_)
      obtain ⟨hu, hpr6⟩ := hp
      cases hu
      have hsr6 : Int32.toInt r6 = Int32.toInt 0 ↔ ¬ S (nmw w) := by rw [hB.2.2.2]; exact Int32.toInt_inj.trans hpr6
      refine lv_if_eq (pc := 38) (tgt := 44) C0.1 C0.2.1 dX1_tellOpener_38 (by decide) (fun c7 => ?_) (fun c7 => ?_)
      · have : Int32.toInt 0 = 0 := rfl
        have c7 := congrArg Int32.toInt c7
        refine lv_aload_n (pc := 44) C0.1 C0.2.1 dX1_tellOpener_44 rfl (lv_at hl 1 rfl) ?_
        refine xget (pc := 45) C0 hH 1 3 clX1 ⟨Nat.le_of_ble_eq_true rfl, Nat.le_of_ble_eq_true rfl⟩ ⟨rfl, rfl⟩ (Nat.le_of_ble_eq_true rfl) fl_X1_42 (v := .int (i 1 3)) rfl dX1_tellOpener_45 ?_
        refine lv_bipush (pc := 48) (v := 8) C0.1 C0.2.1 dX1_tellOpener_48 (by decide) ?_
        refine lv_icmp_lt (pc := 50) (tgt := 56) C0.1 C0.2.1 dX1_tellOpener_50 (by decide) (fun c8 => ?_) (fun c8 => ?_)
        · have : Int32.toInt 8 = 8 := rfl
          have c8 := Int32.lt_iff_toInt_lt.mp c8
          refine lv_aload_n (pc := 56) C0.1 C0.2.1 dX1_tellOpener_56 rfl (lv_at hl 1 rfl) ?_
          refine lv_lload (pc := 57) C0.1 C0.2.1 dX1_tellOpener_57 (lv_at hl 0 rfl) ?_
          refine lv_iload_n (pc := 59) C0.1 C0.2.1 dX1_tellOpener_59 rfl (lv_at hl 3 rfl) ?_
          refine xcVV (pc := 60) 1 [.long (nmw w), .int y] (g_X1_enter l D tA b i F G (nmw w) y (show 0 ≤ Int32.toInt (i 1 2) ∧ Int32.toInt (i 1 2) < 24 from by omega)) C0 hH hS clX1 rfl ⟨⟨Nat.le_of_ble_eq_true rfl, Nat.le_of_ble_eq_true rfl⟩, rfl, rfl⟩ cw_X1_45 rfl ⟨Nat.le_of_ble_eq_true rfl, Nat.le_of_ble_eq_true rfl⟩ hl.1 rfl (Nat.le_of_ble_eq_true rfl) dX1_tellOpener_60 ⟨Nat.le_of_ble_eq_true rfl, Nat.le_of_ble_eq_true rfl⟩ (fun ir9 Fr9 Gr9 _ locs hp hH hS => ?_)
          obtain ⟨tr9, htr9, hu⟩ := hp
          have htr9 : Int32.toInt tr9 = Int32.toInt (i 1 2) + 1 := htr9
          cases hu
          have hH : Hd D tA b 0 78 zz (up2 i 1 2 tr9) (va_up F 3 (upd (F 3) (Int32.toNatClampNeg (i 1 2)) y)) (va_up G 2 (vp_updL (G 2) (Int32.toNatClampNeg (i 1 2)) (nmw w))) _ := hH
          refine lv_aload_n (pc := 63) C0.1 C0.2.1 dX1_tellOpener_63 rfl (lv_at hl 1 rfl) ?_
          refine lv_dup (pc := 64) C0.1 C0.2.1 dX1_tellOpener_64 rfl ?_
          refine xget (pc := 65) C0 hH 1 3 clX1 ⟨Nat.le_of_ble_eq_true rfl, Nat.le_of_ble_eq_true rfl⟩ ⟨rfl, rfl⟩ (Nat.le_of_ble_eq_true rfl) fl_X1_42 (v := .int (i 1 3)) rfl dX1_tellOpener_65 ?_
          refine lv_iconst (pc := 68) (v := 1) C0.1 C0.2.1 dX1_tellOpener_68 (by decide) ?_
          have : Int32.toInt 1 = 1 := rfl
          refine lv_iadd (pc := 69) C0.1 C0.2.1 dX1_tellOpener_69 ?_
          refine lv_topi (fun x10 ex10 => ?_)
          have hx10 : Int32.toInt x10 = Int32.toInt (i 1 3) + Int32.toInt 1 := by rw [ex10]; exact fb_addI (by omega) (by omega)
          refine xputI (pc := 70) C0 (Nat.le_of_ble_eq_true rfl) hH hS 1 3 clX1 ⟨Nat.le_of_ble_eq_true rfl, Nat.le_of_ble_eq_true rfl⟩ ⟨rfl, rfl⟩ ⟨Nat.le_of_ble_eq_true rfl, rfl, rfl⟩ fl_X1_42 (x := x10) ⟨rfl, rfl⟩ dX1_tellOpener_70 (fun _ locs hH hS _ => ?_)
          have hH : Hd D tA b 0 78 zz (up2 (up2 i 1 2 tr9) 1 3 x10) (va_up F 3 (upd (F 3) (Int32.toNatClampNeg (i 1 2)) y)) (va_up G 2 (vp_updL (G 2) (Int32.toNatClampNeg (i 1 2)) (nmw w))) _ := hH
          refine lv_aload_n (pc := 73) C0.1 C0.2.1 dX1_tellOpener_73 rfl (lv_at hl 1 rfl) ?_
          refine xget (pc := 74) C0 hH 1 3 clX1 ⟨Nat.le_of_ble_eq_true rfl, Nat.le_of_ble_eq_true rfl⟩ ⟨rfl, rfl⟩ (Nat.le_of_ble_eq_true rfl) fl_X1_42 (v := .int x10) rfl dX1_tellOpener_74 ?_
          exact xiret (pc := 77) C0 hr hH hS dX1_tellOpener_77 ⟨(OB.g (G2 := G) (OB.f (OB.i (OB.i OB.rf (by decide)) (by decide)) (by decide))), ⟨_, Or.inr (Or.inr (Or.inr ⟨(fun q => q.elim (fun q => by first | exact absurd q.1 (by assumption) | exact absurd q.2 (by assumption)) (fun q => q (by first | assumption | omega))), (hsr6.mp (by assumption)), fun q => absurd (congrArg Int32.toInt q) (show ¬ (i 1 3).toInt = Int32.toInt 8 from by omega), ex10, ex10, rfl⟩)), BkC.op hB htr9 (by omega) (by omega) (fun q => by have := congrArg Int32.toInt q; omega)⟩, ⟨rfl, rfl, rfl, rfl⟩⟩
        · have : Int32.toInt 8 = 8 := rfl
          have c8 : ¬ _ := fun q => c8 (Int32.lt_iff_toInt_lt.mpr q)
          refine lv_bipush (pc := 53) (v := (-4)) C0.1 C0.2.1 dX1_tellOpener_53 (by decide) ?_
          exact xiret (pc := 55) C0 hr hH hS dX1_tellOpener_55 ⟨OB.rf, ⟨S, Or.inr (Or.inr (Or.inl ⟨(fun q => q.elim (fun q => by first | exact absurd q.1 (by assumption) | exact absurd q.2 (by assumption)) (fun q => q (by first | assumption | omega))), (hsr6.mp (by assumption)), Int32.toInt_inj.mp (show (i 1 3).toInt = Int32.toInt 8 from by omega), rfl, rfl, rfl⟩)), hB⟩, ⟨rfl, rfl, rfl, rfl⟩⟩
      · have : Int32.toInt 0 = 0 := rfl
        have c7 : ¬ _ := fun q => c7 (Int32.toInt_inj.mp q)
        refine lv_bipush (pc := 41) (v := (-3)) C0.1 C0.2.1 dX1_tellOpener_41 (by decide) ?_
        exact xiret (pc := 43) C0 hr hH hS dX1_tellOpener_43 ⟨OB.rf, ⟨S, Or.inr (Or.inl ⟨(fun q => q.elim (fun q => by first | exact absurd q.1 (by assumption) | exact absurd q.2 (by assumption)) (fun q => q (by first | assumption | omega))), (Classical.not_not.mp (fun q => absurd (hsr6.mpr q) (by assumption))), rfl, rfl, rfl⟩), hB⟩, ⟨rfl, rfl, rfl, rfl⟩⟩
    · have c5 := stp_0 c5
      refine lv_bipush (pc := 29) (v := (-2)) C0.1 C0.2.1 dX1_tellOpener_29 (by decide) ?_
      exact xiret (pc := 31) C0 hr hH hS dX1_tellOpener_31 ⟨OB.rf, ⟨S, Or.inl ⟨(by first | exact Or.inl ⟨by assumption, by assumption⟩ | exact Or.inr (by first | assumption | omega)), rfl, rfl, rfl⟩, hB⟩, ⟨rfl, rfl, rfl, rfl⟩⟩
  · refine lv_lload (pc := 14) C0.1 C0.2.1 dX1_tellOpener_14 (lv_at hl 0 rfl) ?_
    refine xcNI (pc := 16) [.long (nmw w)] (c_X9_isMark l D tA b 0 78 i F G (nmw w)) C0 hH hS cw_X1_31 st_X9_isMark rfl ⟨Nat.le_of_ble_eq_true rfl, Nat.le_of_ble_eq_true rfl⟩ hl.1 rfl (Nat.le_of_ble_eq_true rfl) dX1_tellOpener_16 ⟨Nat.le_of_ble_eq_true rfl, Nat.le_of_ble_eq_true rfl⟩ (fun r11 ir11 Fr11 Gr11 _ locs hp hH hS => ?_)
    obtain ⟨hu, rfl⟩ := hp
    cases hu
    refine lv_if_eq (pc := 19) (tgt := 29) C0.1 C0.2.1 dX1_tellOpener_19 (by decide) (fun c12 => ?_) (fun c12 => ?_)
    · refine lv_bipush (pc := 29) (v := (-2)) C0.1 C0.2.1 dX1_tellOpener_29 (by decide) ?_
      exact xiret (pc := 31) C0 hr hH hS dX1_tellOpener_31 ⟨OB.rf, ⟨S, Or.inl ⟨(by first | exact Or.inl ⟨by assumption, by assumption⟩ | exact Or.inr (by first | assumption | omega)), rfl, rfl, rfl⟩, hB⟩, ⟨rfl, rfl, rfl, rfl⟩⟩
    · refine lv_iload_n (pc := 22) C0.1 C0.2.1 dX1_tellOpener_22 rfl (lv_at hl 3 rfl) ?_
      refine xcNI (pc := 23) [.int y] (c_X9_isStepped l D tA b 0 78 i F G y) C0 hH hS cw_X1_34 st_X9_isStepped rfl ⟨Nat.le_of_ble_eq_true rfl, Nat.le_of_ble_eq_true rfl⟩ hl.1 rfl (Nat.le_of_ble_eq_true rfl) dX1_tellOpener_23 ⟨Nat.le_of_ble_eq_true rfl, Nat.le_of_ble_eq_true rfl⟩ (fun r13 ir13 Fr13 Gr13 _ locs hp hH hS => ?_)
      obtain ⟨hu, rfl⟩ := hp
      cases hu
      refine lv_if_ne (pc := 26) (tgt := 32) C0.1 C0.2.1 dX1_tellOpener_26 (by decide) (fun c14 => ?_) (fun c14 => ?_)
      · have c14 := stp_1 c14
        refine lv_aload_n (pc := 32) C0.1 C0.2.1 dX1_tellOpener_32 rfl (lv_at hl 1 rfl) ?_
        refine lv_lload (pc := 33) C0.1 C0.2.1 dX1_tellOpener_33 (lv_at hl 0 rfl) ?_
        refine xcVI (pc := 35) 1 [.long (nmw w)] (g_X1_roleOf l D tA b i F G (nmw w) (by omega) hB.2.2.1) C0 hH hS clX1 rfl ⟨⟨Nat.le_of_ble_eq_true rfl, Nat.le_of_ble_eq_true rfl⟩, rfl, rfl⟩ cw_X1_38 rfl ⟨Nat.le_of_ble_eq_true rfl, Nat.le_of_ble_eq_true rfl⟩ hl.1 rfl (Nat.le_of_ble_eq_true rfl) dX1_tellOpener_35 ⟨Nat.le_of_ble_eq_true rfl, Nat.le_of_ble_eq_true rfl⟩ (fun r15 ir15 Fr15 Gr15 _ locs hp hH hS => ?_)
        obtain ⟨hu, hpr15⟩ := hp
        cases hu
        have hsr15 : Int32.toInt r15 = Int32.toInt 0 ↔ ¬ S (nmw w) := by rw [hB.2.2.2]; exact Int32.toInt_inj.trans hpr15
        refine lv_if_eq (pc := 38) (tgt := 44) C0.1 C0.2.1 dX1_tellOpener_38 (by decide) (fun c16 => ?_) (fun c16 => ?_)
        · have : Int32.toInt 0 = 0 := rfl
          have c16 := congrArg Int32.toInt c16
          refine lv_aload_n (pc := 44) C0.1 C0.2.1 dX1_tellOpener_44 rfl (lv_at hl 1 rfl) ?_
          refine xget (pc := 45) C0 hH 1 3 clX1 ⟨Nat.le_of_ble_eq_true rfl, Nat.le_of_ble_eq_true rfl⟩ ⟨rfl, rfl⟩ (Nat.le_of_ble_eq_true rfl) fl_X1_42 (v := .int (i 1 3)) rfl dX1_tellOpener_45 ?_
          refine lv_bipush (pc := 48) (v := 8) C0.1 C0.2.1 dX1_tellOpener_48 (by decide) ?_
          refine lv_icmp_lt (pc := 50) (tgt := 56) C0.1 C0.2.1 dX1_tellOpener_50 (by decide) (fun c17 => ?_) (fun c17 => ?_)
          · have : Int32.toInt 8 = 8 := rfl
            have c17 := Int32.lt_iff_toInt_lt.mp c17
            refine lv_aload_n (pc := 56) C0.1 C0.2.1 dX1_tellOpener_56 rfl (lv_at hl 1 rfl) ?_
            refine lv_lload (pc := 57) C0.1 C0.2.1 dX1_tellOpener_57 (lv_at hl 0 rfl) ?_
            refine lv_iload_n (pc := 59) C0.1 C0.2.1 dX1_tellOpener_59 rfl (lv_at hl 3 rfl) ?_
            refine xcVV (pc := 60) 1 [.long (nmw w), .int y] (g_X1_enter l D tA b i F G (nmw w) y (show 0 ≤ Int32.toInt (i 1 2) ∧ Int32.toInt (i 1 2) < 24 from by omega)) C0 hH hS clX1 rfl ⟨⟨Nat.le_of_ble_eq_true rfl, Nat.le_of_ble_eq_true rfl⟩, rfl, rfl⟩ cw_X1_45 rfl ⟨Nat.le_of_ble_eq_true rfl, Nat.le_of_ble_eq_true rfl⟩ hl.1 rfl (Nat.le_of_ble_eq_true rfl) dX1_tellOpener_60 ⟨Nat.le_of_ble_eq_true rfl, Nat.le_of_ble_eq_true rfl⟩ (fun ir18 Fr18 Gr18 _ locs hp hH hS => ?_)
            obtain ⟨tr18, htr18, hu⟩ := hp
            have htr18 : Int32.toInt tr18 = Int32.toInt (i 1 2) + 1 := htr18
            cases hu
            have hH : Hd D tA b 0 78 zz (up2 i 1 2 tr18) (va_up F 3 (upd (F 3) (Int32.toNatClampNeg (i 1 2)) y)) (va_up G 2 (vp_updL (G 2) (Int32.toNatClampNeg (i 1 2)) (nmw w))) _ := hH
            refine lv_aload_n (pc := 63) C0.1 C0.2.1 dX1_tellOpener_63 rfl (lv_at hl 1 rfl) ?_
            refine lv_dup (pc := 64) C0.1 C0.2.1 dX1_tellOpener_64 rfl ?_
            refine xget (pc := 65) C0 hH 1 3 clX1 ⟨Nat.le_of_ble_eq_true rfl, Nat.le_of_ble_eq_true rfl⟩ ⟨rfl, rfl⟩ (Nat.le_of_ble_eq_true rfl) fl_X1_42 (v := .int (i 1 3)) rfl dX1_tellOpener_65 ?_
            refine lv_iconst (pc := 68) (v := 1) C0.1 C0.2.1 dX1_tellOpener_68 (by decide) ?_
            have : Int32.toInt 1 = 1 := rfl
            refine lv_iadd (pc := 69) C0.1 C0.2.1 dX1_tellOpener_69 ?_
            refine lv_topi (fun x19 ex19 => ?_)
            have hx19 : Int32.toInt x19 = Int32.toInt (i 1 3) + Int32.toInt 1 := by rw [ex19]; exact fb_addI (by omega) (by omega)
            refine xputI (pc := 70) C0 (Nat.le_of_ble_eq_true rfl) hH hS 1 3 clX1 ⟨Nat.le_of_ble_eq_true rfl, Nat.le_of_ble_eq_true rfl⟩ ⟨rfl, rfl⟩ ⟨Nat.le_of_ble_eq_true rfl, rfl, rfl⟩ fl_X1_42 (x := x19) ⟨rfl, rfl⟩ dX1_tellOpener_70 (fun _ locs hH hS _ => ?_)
            have hH : Hd D tA b 0 78 zz (up2 (up2 i 1 2 tr18) 1 3 x19) (va_up F 3 (upd (F 3) (Int32.toNatClampNeg (i 1 2)) y)) (va_up G 2 (vp_updL (G 2) (Int32.toNatClampNeg (i 1 2)) (nmw w))) _ := hH
            refine lv_aload_n (pc := 73) C0.1 C0.2.1 dX1_tellOpener_73 rfl (lv_at hl 1 rfl) ?_
            refine xget (pc := 74) C0 hH 1 3 clX1 ⟨Nat.le_of_ble_eq_true rfl, Nat.le_of_ble_eq_true rfl⟩ ⟨rfl, rfl⟩ (Nat.le_of_ble_eq_true rfl) fl_X1_42 (v := .int x19) rfl dX1_tellOpener_74 ?_
            exact xiret (pc := 77) C0 hr hH hS dX1_tellOpener_77 ⟨(OB.g (G2 := G) (OB.f (OB.i (OB.i OB.rf (by decide)) (by decide)) (by decide))), ⟨_, Or.inr (Or.inr (Or.inr ⟨(fun q => q.elim (fun q => by first | exact absurd q.1 (by assumption) | exact absurd q.2 (by assumption)) (fun q => q (by first | assumption | omega))), (hsr15.mp (by assumption)), fun q => absurd (congrArg Int32.toInt q) (show ¬ (i 1 3).toInt = Int32.toInt 8 from by omega), ex19, ex19, rfl⟩)), BkC.op hB htr18 (by omega) (by omega) (fun q => by have := congrArg Int32.toInt q; omega)⟩, ⟨rfl, rfl, rfl, rfl⟩⟩
          · have : Int32.toInt 8 = 8 := rfl
            have c17 : ¬ _ := fun q => c17 (Int32.lt_iff_toInt_lt.mpr q)
            refine lv_bipush (pc := 53) (v := (-4)) C0.1 C0.2.1 dX1_tellOpener_53 (by decide) ?_
            exact xiret (pc := 55) C0 hr hH hS dX1_tellOpener_55 ⟨OB.rf, ⟨S, Or.inr (Or.inr (Or.inl ⟨(fun q => q.elim (fun q => by first | exact absurd q.1 (by assumption) | exact absurd q.2 (by assumption)) (fun q => q (by first | assumption | omega))), (hsr15.mp (by assumption)), Int32.toInt_inj.mp (show (i 1 3).toInt = Int32.toInt 8 from by omega), rfl, rfl, rfl⟩)), hB⟩, ⟨rfl, rfl, rfl, rfl⟩⟩
        · have : Int32.toInt 0 = 0 := rfl
          have c16 : ¬ _ := fun q => c16 (Int32.toInt_inj.mp q)
          refine lv_bipush (pc := 41) (v := (-3)) C0.1 C0.2.1 dX1_tellOpener_41 (by decide) ?_
          exact xiret (pc := 43) C0 hr hH hS dX1_tellOpener_43 ⟨OB.rf, ⟨S, Or.inr (Or.inl ⟨(fun q => q.elim (fun q => by first | exact absurd q.1 (by assumption) | exact absurd q.2 (by assumption)) (fun q => q (by first | assumption | omega))), (Classical.not_not.mp (fun q => absurd (hsr15.mpr q) (by assumption))), rfl, rfl, rfl⟩), hB⟩, ⟨rfl, rfl, rfl, rfl⟩⟩
      · have c14 := stp_0 c14
        refine lv_bipush (pc := 29) (v := (-2)) C0.1 C0.2.1 dX1_tellOpener_29 (by decide) ?_
        exact xiret (pc := 31) C0 hr hH hS dX1_tellOpener_31 ⟨OB.rf, ⟨S, Or.inl ⟨(by first | exact Or.inl ⟨by assumption, by assumption⟩ | exact Or.inr (by first | assumption | omega)), rfl, rfl, rfl⟩, hB⟩, ⟨rfl, rfl, rfl, rfl⟩⟩
set_option maxHeartbeats 4000000 in
set_option maxRecDepth 100000 in
theorem g_X1_tellCloser (l : Launch) (D : va_G) (tA : Nat → ClassId) (b : Nat) (i F : Nat → Nat → Int32) (G : Nat → Nat → Int64) (w : Int64) (S : Int64 → Prop) (hB : BkC i F G S) : xMI l yX1_tellCloser cX1_tellCloser 5 (some .int) 3 67 D tA b 0 78 i F G [.ref (b + 1), .long w] (fun r u => OB i F u ∧ (∃ S2, tlR (wdI (nmw w) = 0) (S (nmw w)) (i 1 5) 4 S S2 (fun x => x = nmw w) r (u.1 1 5) ∧ BkC u.1 u.2.1 u.2.2 S2) ∧ (u.1 1 3 = i 1 3 ∧ u.1 1 4 = i 1 4 ∧ u.1 1 6 = i 1 6 ∧ u.1 1 7 = i 1 7)) := by
  refine xstart RX1 rfl (by decide) (Nat.le_of_ble_eq_true rfl) ?_
  intro p e s m below meth c ls C0 hr hH hS hl
  have hl : lv_has ls 5 [(0, .ref (b + 1)), (1, .long w)] := hl
  have hRg := hB.1
  have hSm := hB.2.1
  refine lv_lload_n (pc := 0) C0.1 C0.2.1 dX1_tellCloser_0 rfl (lv_at hl 1 rfl) ?_
  refine xcNL (pc := 1) [.long w] (c_X9_nameOf l D tA b 0 78 i F G w) C0 hH hS cw_X1_23 st_X9_nameOf rfl ⟨Nat.le_of_ble_eq_true rfl, Nat.le_of_ble_eq_true rfl⟩ hl.1 rfl (Nat.le_of_ble_eq_true rfl) dX1_tellCloser_1 ⟨Nat.le_of_ble_eq_true rfl, Nat.le_of_ble_eq_true rfl⟩ (fun r1 ir1 Fr1 Gr1 _ locs hp hH hS => ?_)
  obtain ⟨hu, rfl⟩ := hp
  cases hu
  refine lv_lstore_n (pc := 4) (lv' := [(3, .long (nmw w)), (0, .ref (b + 1)), (1, .long w)]) C0.1 C0.2.1 dX1_tellCloser_4 rfl hl (by decide) rfl (fun ls hl => ?_)
  refine lv_lload_n (pc := 5) C0.1 C0.2.1 dX1_tellCloser_5 rfl (lv_at hl 0 rfl) ?_
  refine xcNI (pc := 6) [.long (nmw w)] (c_X9_isWord l D tA b 0 78 i F G (nmw w)) C0 hH hS cw_X1_27 st_X9_isWord rfl ⟨Nat.le_of_ble_eq_true rfl, Nat.le_of_ble_eq_true rfl⟩ hl.1 rfl (Nat.le_of_ble_eq_true rfl) dX1_tellCloser_6 ⟨Nat.le_of_ble_eq_true rfl, Nat.le_of_ble_eq_true rfl⟩ (fun r2 ir2 Fr2 Gr2 _ locs hp hH hS => ?_)
  obtain ⟨hu, rfl⟩ := hp
  cases hu
  refine lv_if_ne (pc := 9) (tgt := 15) C0.1 C0.2.1 dX1_tellCloser_9 (by decide) (fun c3 => ?_) (fun c3 => ?_)
  · refine lv_aload_n (pc := 15) C0.1 C0.2.1 dX1_tellCloser_15 rfl (lv_at hl 1 rfl) ?_
    refine lv_lload_n (pc := 16) C0.1 C0.2.1 dX1_tellCloser_16 rfl (lv_at hl 0 rfl) ?_
    refine xcVI (pc := 17) 1 [.long (nmw w)] (g_X1_roleOf l D tA b i F G (nmw w) (by omega) hB.2.2.1) C0 hH hS clX1 rfl ⟨⟨Nat.le_of_ble_eq_true rfl, Nat.le_of_ble_eq_true rfl⟩, rfl, rfl⟩ cw_X1_38 rfl ⟨Nat.le_of_ble_eq_true rfl, Nat.le_of_ble_eq_true rfl⟩ hl.1 rfl (Nat.le_of_ble_eq_true rfl) dX1_tellCloser_17 ⟨Nat.le_of_ble_eq_true rfl, Nat.le_of_ble_eq_true rfl⟩ (fun r4 ir4 Fr4 Gr4 _ locs hp hH hS => ?_)
    obtain ⟨hu, hpr4⟩ := hp
    cases hu
    have hsr4 : Int32.toInt r4 = Int32.toInt 0 ↔ ¬ S (nmw w) := by rw [hB.2.2.2]; exact Int32.toInt_inj.trans hpr4
    refine lv_if_eq (pc := 20) (tgt := 26) C0.1 C0.2.1 dX1_tellCloser_20 (by decide) (fun c5 => ?_) (fun c5 => ?_)
    · have : Int32.toInt 0 = 0 := rfl
      have c5 := congrArg Int32.toInt c5
      refine lv_aload_n (pc := 26) C0.1 C0.2.1 dX1_tellCloser_26 rfl (lv_at hl 1 rfl) ?_
      refine xget (pc := 27) C0 hH 1 5 clX1 ⟨Nat.le_of_ble_eq_true rfl, Nat.le_of_ble_eq_true rfl⟩ ⟨rfl, rfl⟩ (Nat.le_of_ble_eq_true rfl) fl_X1_52 (v := .int (i 1 5)) rfl dX1_tellCloser_27 ?_
      refine lv_iconst (pc := 30) (v := 4) C0.1 C0.2.1 dX1_tellCloser_30 (by decide) ?_
      refine lv_icmp_lt (pc := 31) (tgt := 37) C0.1 C0.2.1 dX1_tellCloser_31 (by decide) (fun c6 => ?_) (fun c6 => ?_)
      · have : Int32.toInt 4 = 4 := rfl
        have c6 := Int32.lt_iff_toInt_lt.mp c6
        refine lv_aload_n (pc := 37) C0.1 C0.2.1 dX1_tellCloser_37 rfl (lv_at hl 1 rfl) ?_
        refine lv_lload_n (pc := 38) C0.1 C0.2.1 dX1_tellCloser_38 rfl (lv_at hl 0 rfl) ?_
        refine lv_bipush (pc := 39) (v := 6) C0.1 C0.2.1 dX1_tellCloser_39 (by decide) ?_
        refine xcVV (pc := 41) 1 [.long (nmw w), .int 6] (g_X1_enter l D tA b i F G (nmw w) 6 (show 0 ≤ Int32.toInt (i 1 2) ∧ Int32.toInt (i 1 2) < 24 from by omega)) C0 hH hS clX1 rfl ⟨⟨Nat.le_of_ble_eq_true rfl, Nat.le_of_ble_eq_true rfl⟩, rfl, rfl⟩ cw_X1_45 rfl ⟨Nat.le_of_ble_eq_true rfl, Nat.le_of_ble_eq_true rfl⟩ hl.1 rfl (Nat.le_of_ble_eq_true rfl) dX1_tellCloser_41 ⟨Nat.le_of_ble_eq_true rfl, Nat.le_of_ble_eq_true rfl⟩ (fun ir7 Fr7 Gr7 _ locs hp hH hS => ?_)
        obtain ⟨tr7, htr7, hu⟩ := hp
        have htr7 : Int32.toInt tr7 = Int32.toInt (i 1 2) + 1 := htr7
        cases hu
        have hH : Hd D tA b 0 78 zz (up2 i 1 2 tr7) (va_up F 3 (upd (F 3) (Int32.toNatClampNeg (i 1 2)) 6)) (va_up G 2 (vp_updL (G 2) (Int32.toNatClampNeg (i 1 2)) (nmw w))) _ := hH
        refine lv_aload_n (pc := 44) C0.1 C0.2.1 dX1_tellCloser_44 rfl (lv_at hl 1 rfl) ?_
        refine lv_dup (pc := 45) C0.1 C0.2.1 dX1_tellCloser_45 rfl ?_
        refine xget (pc := 46) C0 hH 1 5 clX1 ⟨Nat.le_of_ble_eq_true rfl, Nat.le_of_ble_eq_true rfl⟩ ⟨rfl, rfl⟩ (Nat.le_of_ble_eq_true rfl) fl_X1_52 (v := .int (i 1 5)) rfl dX1_tellCloser_46 ?_
        refine lv_iconst (pc := 49) (v := 1) C0.1 C0.2.1 dX1_tellCloser_49 (by decide) ?_
        have : Int32.toInt 1 = 1 := rfl
        refine lv_iadd (pc := 50) C0.1 C0.2.1 dX1_tellCloser_50 ?_
        refine lv_topi (fun x8 ex8 => ?_)
        have hx8 : Int32.toInt x8 = Int32.toInt (i 1 5) + Int32.toInt 1 := by rw [ex8]; exact fb_addI (by omega) (by omega)
        refine xputI (pc := 51) C0 (Nat.le_of_ble_eq_true rfl) hH hS 1 5 clX1 ⟨Nat.le_of_ble_eq_true rfl, Nat.le_of_ble_eq_true rfl⟩ ⟨rfl, rfl⟩ ⟨Nat.le_of_ble_eq_true rfl, rfl, rfl⟩ fl_X1_52 (x := x8) ⟨rfl, rfl⟩ dX1_tellCloser_51 (fun _ locs hH hS _ => ?_)
        have hH : Hd D tA b 0 78 zz (up2 (up2 i 1 2 tr7) 1 5 x8) (va_up F 3 (upd (F 3) (Int32.toNatClampNeg (i 1 2)) 6)) (va_up G 2 (vp_updL (G 2) (Int32.toNatClampNeg (i 1 2)) (nmw w))) _ := hH
        refine lv_aload_n (pc := 54) C0.1 C0.2.1 dX1_tellCloser_54 rfl (lv_at hl 1 rfl) ?_
        refine xget (pc := 55) C0 hH 1 5 clX1 ⟨Nat.le_of_ble_eq_true rfl, Nat.le_of_ble_eq_true rfl⟩ ⟨rfl, rfl⟩ (Nat.le_of_ble_eq_true rfl) fl_X1_52 (v := .int x8) rfl dX1_tellCloser_55 ?_
        exact xiret (pc := 58) C0 hr hH hS dX1_tellCloser_58 ⟨(OB.g (G2 := G) (OB.f (OB.i (OB.i OB.rf (by decide)) (by decide)) (by decide))), ⟨_, Or.inr (Or.inr (Or.inr ⟨(by assumption), (hsr4.mp (by assumption)), fun q => absurd (congrArg Int32.toInt q) (show ¬ (i 1 5).toInt = Int32.toInt 4 from by omega), ex8, ex8, rfl⟩)), BkC.cl hB htr7 (by omega) (by omega) (by decide)⟩, ⟨rfl, rfl, rfl, rfl⟩⟩
      · have : Int32.toInt 4 = 4 := rfl
        have c6 : ¬ _ := fun q => c6 (Int32.lt_iff_toInt_lt.mpr q)
        refine lv_bipush (pc := 34) (v := (-4)) C0.1 C0.2.1 dX1_tellCloser_34 (by decide) ?_
        exact xiret (pc := 36) C0 hr hH hS dX1_tellCloser_36 ⟨OB.rf, ⟨S, Or.inr (Or.inr (Or.inl ⟨(by assumption), (hsr4.mp (by assumption)), Int32.toInt_inj.mp (show (i 1 5).toInt = Int32.toInt 4 from by omega), rfl, rfl, rfl⟩)), hB⟩, ⟨rfl, rfl, rfl, rfl⟩⟩
    · have : Int32.toInt 0 = 0 := rfl
      have c5 : ¬ _ := fun q => c5 (Int32.toInt_inj.mp q)
      refine lv_bipush (pc := 23) (v := (-3)) C0.1 C0.2.1 dX1_tellCloser_23 (by decide) ?_
      exact xiret (pc := 25) C0 hr hH hS dX1_tellCloser_25 ⟨OB.rf, ⟨S, Or.inr (Or.inl ⟨(by assumption), (Classical.not_not.mp (fun q => absurd (hsr4.mpr q) (by assumption))), rfl, rfl, rfl⟩), hB⟩, ⟨rfl, rfl, rfl, rfl⟩⟩
  · refine lv_bipush (pc := 12) (v := (-2)) C0.1 C0.2.1 dX1_tellCloser_12 (by decide) ?_
    exact xiret (pc := 14) C0 hr hH hS dX1_tellCloser_14 ⟨OB.rf, ⟨S, Or.inl ⟨(by assumption), rfl, rfl, rfl⟩, hB⟩, ⟨rfl, rfl, rfl, rfl⟩⟩
set_option maxHeartbeats 4000000 in
set_option maxRecDepth 100000 in
theorem g_X1_tellGoer (l : Launch) (D : va_G) (tA : Nat → ClassId) (b : Nat) (i F : Nat → Nat → Int32) (G : Nat → Nat → Int64) (x : Int32) (S : Int64 → Prop) (hB : BkC i F G S) : xMI l yX1_tellGoer cX1_tellGoer 2 (some .int) 5 112 D tA b 0 78 i F G [.ref (b + 1), .int x] (fun r u => OB i F u ∧ (∃ S2, tlR (mk1 x.toInt64 = 0) (S x.toInt64) (i 1 6) 4 S S2 (fun t => t = x.toInt64) r (u.1 1 6) ∧ BkC u.1 u.2.1 u.2.2 S2) ∧ (u.1 1 3 = i 1 3 ∧ u.1 1 4 = i 1 4 ∧ u.1 1 5 = i 1 5 ∧ u.1 1 7 = i 1 7)) := by
  refine xstart RX1 rfl (by decide) (Nat.le_of_ble_eq_true rfl) ?_
  intro p e s m below meth c ls C0 hr hH hS hl
  have hl : lv_has ls 2 [(0, .ref (b + 1)), (1, .int x)] := hl
  have rg_x := fb_rng x
  have hRg := hB.1
  have hSm := hB.2.1
  refine lv_iload_n (pc := 0) C0.1 C0.2.1 dX1_tellGoer_0 rfl (lv_at hl 1 rfl) ?_
  refine lv_i2l (pc := 1) (v := x.toInt64) C0.1 C0.2.1 dX1_tellGoer_1 rfl ?_
  refine xcNI (pc := 2) [.long x.toInt64] (c_X9_isMark l D tA b 0 78 i F G x.toInt64) C0 hH hS cw_X1_31 st_X9_isMark rfl ⟨Nat.le_of_ble_eq_true rfl, Nat.le_of_ble_eq_true rfl⟩ hl.1 rfl (Nat.le_of_ble_eq_true rfl) dX1_tellGoer_2 ⟨Nat.le_of_ble_eq_true rfl, Nat.le_of_ble_eq_true rfl⟩ (fun r1 ir1 Fr1 Gr1 _ locs hp hH hS => ?_)
  obtain ⟨hu, rfl⟩ := hp
  cases hu
  refine lv_if_ne (pc := 5) (tgt := 11) C0.1 C0.2.1 dX1_tellGoer_5 (by decide) (fun c2 => ?_) (fun c2 => ?_)
  · refine lv_aload_n (pc := 11) C0.1 C0.2.1 dX1_tellGoer_11 rfl (lv_at hl 0 rfl) ?_
    refine lv_iload_n (pc := 12) C0.1 C0.2.1 dX1_tellGoer_12 rfl (lv_at hl 1 rfl) ?_
    refine lv_i2l (pc := 13) (v := x.toInt64) C0.1 C0.2.1 dX1_tellGoer_13 rfl ?_
    refine xcVI (pc := 14) 1 [.long x.toInt64] (g_X1_roleOf l D tA b i F G x.toInt64 (by omega) hB.2.2.1) C0 hH hS clX1 rfl ⟨⟨Nat.le_of_ble_eq_true rfl, Nat.le_of_ble_eq_true rfl⟩, rfl, rfl⟩ cw_X1_38 rfl ⟨Nat.le_of_ble_eq_true rfl, Nat.le_of_ble_eq_true rfl⟩ hl.1 rfl (Nat.le_of_ble_eq_true rfl) dX1_tellGoer_14 ⟨Nat.le_of_ble_eq_true rfl, Nat.le_of_ble_eq_true rfl⟩ (fun r3 ir3 Fr3 Gr3 _ locs hp hH hS => ?_)
    obtain ⟨hu, hpr3⟩ := hp
    cases hu
    have hsr3 : Int32.toInt r3 = Int32.toInt 0 ↔ ¬ S x.toInt64 := by rw [hB.2.2.2]; exact Int32.toInt_inj.trans hpr3
    refine lv_if_eq (pc := 17) (tgt := 23) C0.1 C0.2.1 dX1_tellGoer_17 (by decide) (fun c4 => ?_) (fun c4 => ?_)
    · have : Int32.toInt 0 = 0 := rfl
      have c4 := congrArg Int32.toInt c4
      refine lv_aload_n (pc := 23) C0.1 C0.2.1 dX1_tellGoer_23 rfl (lv_at hl 0 rfl) ?_
      refine xget (pc := 24) C0 hH 1 6 clX1 ⟨Nat.le_of_ble_eq_true rfl, Nat.le_of_ble_eq_true rfl⟩ ⟨rfl, rfl⟩ (Nat.le_of_ble_eq_true rfl) fl_X1_55 (v := .int (i 1 6)) rfl dX1_tellGoer_24 ?_
      refine lv_iconst (pc := 27) (v := 4) C0.1 C0.2.1 dX1_tellGoer_27 (by decide) ?_
      refine lv_icmp_lt (pc := 28) (tgt := 34) C0.1 C0.2.1 dX1_tellGoer_28 (by decide) (fun c5 => ?_) (fun c5 => ?_)
      · have : Int32.toInt 4 = 4 := rfl
        have c5 := Int32.lt_iff_toInt_lt.mp c5
        refine lv_aload_n (pc := 34) C0.1 C0.2.1 dX1_tellGoer_34 rfl (lv_at hl 0 rfl) ?_
        refine lv_iload_n (pc := 35) C0.1 C0.2.1 dX1_tellGoer_35 rfl (lv_at hl 1 rfl) ?_
        refine lv_i2l (pc := 36) (v := x.toInt64) C0.1 C0.2.1 dX1_tellGoer_36 rfl ?_
        refine lv_bipush (pc := 37) (v := 7) C0.1 C0.2.1 dX1_tellGoer_37 (by decide) ?_
        refine xcVV (pc := 39) 1 [.long x.toInt64, .int 7] (g_X1_enter l D tA b i F G x.toInt64 7 (show 0 ≤ Int32.toInt (i 1 2) ∧ Int32.toInt (i 1 2) < 24 from by omega)) C0 hH hS clX1 rfl ⟨⟨Nat.le_of_ble_eq_true rfl, Nat.le_of_ble_eq_true rfl⟩, rfl, rfl⟩ cw_X1_45 rfl ⟨Nat.le_of_ble_eq_true rfl, Nat.le_of_ble_eq_true rfl⟩ hl.1 rfl (Nat.le_of_ble_eq_true rfl) dX1_tellGoer_39 ⟨Nat.le_of_ble_eq_true rfl, Nat.le_of_ble_eq_true rfl⟩ (fun ir6 Fr6 Gr6 _ locs hp hH hS => ?_)
        obtain ⟨tr6, htr6, hu⟩ := hp
        have htr6 : Int32.toInt tr6 = Int32.toInt (i 1 2) + 1 := htr6
        cases hu
        have hH : Hd D tA b 0 78 zz (up2 i 1 2 tr6) (va_up F 3 (upd (F 3) (Int32.toNatClampNeg (i 1 2)) 7)) (va_up G 2 (vp_updL (G 2) (Int32.toNatClampNeg (i 1 2)) x.toInt64)) _ := hH
        refine lv_aload_n (pc := 42) C0.1 C0.2.1 dX1_tellGoer_42 rfl (lv_at hl 0 rfl) ?_
        refine lv_dup (pc := 43) C0.1 C0.2.1 dX1_tellGoer_43 rfl ?_
        refine xget (pc := 44) C0 hH 1 6 clX1 ⟨Nat.le_of_ble_eq_true rfl, Nat.le_of_ble_eq_true rfl⟩ ⟨rfl, rfl⟩ (Nat.le_of_ble_eq_true rfl) fl_X1_55 (v := .int (i 1 6)) rfl dX1_tellGoer_44 ?_
        refine lv_iconst (pc := 47) (v := 1) C0.1 C0.2.1 dX1_tellGoer_47 (by decide) ?_
        have : Int32.toInt 1 = 1 := rfl
        refine lv_iadd (pc := 48) C0.1 C0.2.1 dX1_tellGoer_48 ?_
        refine lv_topi (fun x7 ex7 => ?_)
        have hx7 : Int32.toInt x7 = Int32.toInt (i 1 6) + Int32.toInt 1 := by rw [ex7]; exact fb_addI (by omega) (by omega)
        refine xputI (pc := 49) C0 (Nat.le_of_ble_eq_true rfl) hH hS 1 6 clX1 ⟨Nat.le_of_ble_eq_true rfl, Nat.le_of_ble_eq_true rfl⟩ ⟨rfl, rfl⟩ ⟨Nat.le_of_ble_eq_true rfl, rfl, rfl⟩ fl_X1_55 (x := x7) ⟨rfl, rfl⟩ dX1_tellGoer_49 (fun _ locs hH hS _ => ?_)
        have hH : Hd D tA b 0 78 zz (up2 (up2 i 1 2 tr6) 1 6 x7) (va_up F 3 (upd (F 3) (Int32.toNatClampNeg (i 1 2)) 7)) (va_up G 2 (vp_updL (G 2) (Int32.toNatClampNeg (i 1 2)) x.toInt64)) _ := hH
        refine lv_aload_n (pc := 52) C0.1 C0.2.1 dX1_tellGoer_52 rfl (lv_at hl 0 rfl) ?_
        refine xget (pc := 53) C0 hH 1 6 clX1 ⟨Nat.le_of_ble_eq_true rfl, Nat.le_of_ble_eq_true rfl⟩ ⟨rfl, rfl⟩ (Nat.le_of_ble_eq_true rfl) fl_X1_55 (v := .int x7) rfl dX1_tellGoer_53 ?_
        exact xiret (pc := 56) C0 hr hH hS dX1_tellGoer_56 ⟨(OB.g (G2 := G) (OB.f (OB.i (OB.i OB.rf (by decide)) (by decide)) (by decide))), ⟨_, Or.inr (Or.inr (Or.inr ⟨(by assumption), (hsr3.mp (by assumption)), fun q => absurd (congrArg Int32.toInt q) (show ¬ (i 1 6).toInt = Int32.toInt 4 from by omega), ex7, ex7, rfl⟩)), BkC.go hB htr6 (by omega) (by omega) (by decide)⟩, ⟨rfl, rfl, rfl, rfl⟩⟩
      · have : Int32.toInt 4 = 4 := rfl
        have c5 : ¬ _ := fun q => c5 (Int32.lt_iff_toInt_lt.mpr q)
        refine lv_bipush (pc := 31) (v := (-4)) C0.1 C0.2.1 dX1_tellGoer_31 (by decide) ?_
        exact xiret (pc := 33) C0 hr hH hS dX1_tellGoer_33 ⟨OB.rf, ⟨S, Or.inr (Or.inr (Or.inl ⟨(by assumption), (hsr3.mp (by assumption)), Int32.toInt_inj.mp (show (i 1 6).toInt = Int32.toInt 4 from by omega), rfl, rfl, rfl⟩)), hB⟩, ⟨rfl, rfl, rfl, rfl⟩⟩
    · have : Int32.toInt 0 = 0 := rfl
      have c4 : ¬ _ := fun q => c4 (Int32.toInt_inj.mp q)
      refine lv_bipush (pc := 20) (v := (-3)) C0.1 C0.2.1 dX1_tellGoer_20 (by decide) ?_
      exact xiret (pc := 22) C0 hr hH hS dX1_tellGoer_22 ⟨OB.rf, ⟨S, Or.inr (Or.inl ⟨(by assumption), (Classical.not_not.mp (fun q => absurd (hsr3.mpr q) (by assumption))), rfl, rfl, rfl⟩), hB⟩, ⟨rfl, rfl, rfl, rfl⟩⟩
  · refine lv_bipush (pc := 8) (v := (-2)) C0.1 C0.2.1 dX1_tellGoer_8 (by decide) ?_
    exact xiret (pc := 10) C0 hr hH hS dX1_tellGoer_10 ⟨OB.rf, ⟨S, Or.inl ⟨(by assumption), rfl, rfl, rfl⟩, hB⟩, ⟨rfl, rfl, rfl, rfl⟩⟩
set_option maxHeartbeats 4000000 in
set_option maxRecDepth 100000 in
theorem g_X1_tellPair (l : Launch) (D : va_G) (tA : Nat → ClassId) (b : Nat) (i F : Nat → Nat → Int32) (G : Nat → Nat → Int64) (x y : Int32) (S : Int64 → Prop) (hB : BkC i F G S) : xMI l yX1_tellPair cX1_tellPair 3 (some .int) 5 112 D tA b 0 78 i F G [.ref (b + 1), .int x, .int y] (fun r u => OB i F u ∧ (∃ S2, tlR (mk1 x.toInt64 = 0 ∨ mk1 y.toInt64 = 0) (S x.toInt64 ∨ S y.toInt64 ∨ x = y) (i 1 4) 4 S S2 (fun t => t = x.toInt64 ∨ t = y.toInt64) r (u.1 1 4) ∧ BkC u.1 u.2.1 u.2.2 S2) ∧ (u.1 1 3 = i 1 3 ∧ u.1 1 5 = i 1 5 ∧ u.1 1 6 = i 1 6 ∧ u.1 1 7 = i 1 7)) := by
  refine xstart RX1 rfl (by decide) (Nat.le_of_ble_eq_true rfl) ?_
  intro p e s m below meth c ls C0 hr hH hS hl
  have hl : lv_has ls 3 [(0, .ref (b + 1)), (1, .int x), (2, .int y)] := hl
  have rg_x := fb_rng x
  have rg_y := fb_rng y
  have hRg := hB.1
  have hSm := hB.2.1
  refine lv_iload_n (pc := 0) C0.1 C0.2.1 dX1_tellPair_0 rfl (lv_at hl 1 rfl) ?_
  refine lv_i2l (pc := 1) (v := x.toInt64) C0.1 C0.2.1 dX1_tellPair_1 rfl ?_
  refine xcNI (pc := 2) [.long x.toInt64] (c_X9_isMark l D tA b 0 78 i F G x.toInt64) C0 hH hS cw_X1_31 st_X9_isMark rfl ⟨Nat.le_of_ble_eq_true rfl, Nat.le_of_ble_eq_true rfl⟩ hl.1 rfl (Nat.le_of_ble_eq_true rfl) dX1_tellPair_2 ⟨Nat.le_of_ble_eq_true rfl, Nat.le_of_ble_eq_true rfl⟩ (fun r1 ir1 Fr1 Gr1 _ locs hp hH hS => ?_)
  obtain ⟨hu, rfl⟩ := hp
  cases hu
  refine lv_if_eq (pc := 5) (tgt := 16) C0.1 C0.2.1 dX1_tellPair_5 (by decide) (fun c2 => ?_) (fun c2 => ?_)
  · refine lv_bipush (pc := 16) (v := (-2)) C0.1 C0.2.1 dX1_tellPair_16 (by decide) ?_
    exact xiret (pc := 18) C0 hr hH hS dX1_tellPair_18 ⟨OB.rf, ⟨S, Or.inl ⟨(by first | exact Or.inl (by assumption) | exact Or.inr (by assumption)), rfl, rfl, rfl⟩, hB⟩, ⟨rfl, rfl, rfl, rfl⟩⟩
  · refine lv_iload_n (pc := 8) C0.1 C0.2.1 dX1_tellPair_8 rfl (lv_at hl 2 rfl) ?_
    refine lv_i2l (pc := 9) (v := y.toInt64) C0.1 C0.2.1 dX1_tellPair_9 rfl ?_
    refine xcNI (pc := 10) [.long y.toInt64] (c_X9_isMark l D tA b 0 78 i F G y.toInt64) C0 hH hS cw_X1_31 st_X9_isMark rfl ⟨Nat.le_of_ble_eq_true rfl, Nat.le_of_ble_eq_true rfl⟩ hl.1 rfl (Nat.le_of_ble_eq_true rfl) dX1_tellPair_10 ⟨Nat.le_of_ble_eq_true rfl, Nat.le_of_ble_eq_true rfl⟩ (fun r3 ir3 Fr3 Gr3 _ locs hp hH hS => ?_)
    obtain ⟨hu, rfl⟩ := hp
    cases hu
    refine lv_if_ne (pc := 13) (tgt := 19) C0.1 C0.2.1 dX1_tellPair_13 (by decide) (fun c4 => ?_) (fun c4 => ?_)
    · refine lv_aload_n (pc := 19) C0.1 C0.2.1 dX1_tellPair_19 rfl (lv_at hl 0 rfl) ?_
      refine lv_iload_n (pc := 20) C0.1 C0.2.1 dX1_tellPair_20 rfl (lv_at hl 1 rfl) ?_
      refine lv_i2l (pc := 21) (v := x.toInt64) C0.1 C0.2.1 dX1_tellPair_21 rfl ?_
      refine xcVI (pc := 22) 1 [.long x.toInt64] (g_X1_roleOf l D tA b i F G x.toInt64 (by omega) hB.2.2.1) C0 hH hS clX1 rfl ⟨⟨Nat.le_of_ble_eq_true rfl, Nat.le_of_ble_eq_true rfl⟩, rfl, rfl⟩ cw_X1_38 rfl ⟨Nat.le_of_ble_eq_true rfl, Nat.le_of_ble_eq_true rfl⟩ hl.1 rfl (Nat.le_of_ble_eq_true rfl) dX1_tellPair_22 ⟨Nat.le_of_ble_eq_true rfl, Nat.le_of_ble_eq_true rfl⟩ (fun r5 ir5 Fr5 Gr5 _ locs hp hH hS => ?_)
      obtain ⟨hu, hpr5⟩ := hp
      cases hu
      have hsr5 : Int32.toInt r5 = Int32.toInt 0 ↔ ¬ S x.toInt64 := by rw [hB.2.2.2]; exact Int32.toInt_inj.trans hpr5
      refine lv_if_ne (pc := 25) (tgt := 42) C0.1 C0.2.1 dX1_tellPair_25 (by decide) (fun c6 => ?_) (fun c6 => ?_)
      · have : Int32.toInt 0 = 0 := rfl
        have c6 : ¬ _ := fun q => c6 (Int32.toInt_inj.mp q)
        refine lv_bipush (pc := 42) (v := (-3)) C0.1 C0.2.1 dX1_tellPair_42 (by decide) ?_
        exact xiret (pc := 44) C0 hr hH hS dX1_tellPair_44 ⟨OB.rf, ⟨S, Or.inr (Or.inl ⟨(fun q => q.elim (fun q => absurd q (by assumption)) (fun q => absurd q (by assumption))), (by first | exact Or.inr (Or.inr (Int32.toInt_inj.mp (by assumption))) | exact Or.inr (Or.inr (by assumption)) | exact Or.inl (Classical.not_not.mp (fun q => absurd (hsr5.mpr q) (by assumption))) | exact Or.inr (Or.inl (Classical.not_not.mp (fun q => absurd (hsr5.mpr q) (by assumption))))), rfl, rfl, rfl⟩), hB⟩, ⟨rfl, rfl, rfl, rfl⟩⟩
      · have : Int32.toInt 0 = 0 := rfl
        have c6 := congrArg Int32.toInt c6
        refine lv_aload_n (pc := 28) C0.1 C0.2.1 dX1_tellPair_28 rfl (lv_at hl 0 rfl) ?_
        refine lv_iload_n (pc := 29) C0.1 C0.2.1 dX1_tellPair_29 rfl (lv_at hl 2 rfl) ?_
        refine lv_i2l (pc := 30) (v := y.toInt64) C0.1 C0.2.1 dX1_tellPair_30 rfl ?_
        refine xcVI (pc := 31) 1 [.long y.toInt64] (g_X1_roleOf l D tA b i F G y.toInt64 (by omega) hB.2.2.1) C0 hH hS clX1 rfl ⟨⟨Nat.le_of_ble_eq_true rfl, Nat.le_of_ble_eq_true rfl⟩, rfl, rfl⟩ cw_X1_38 rfl ⟨Nat.le_of_ble_eq_true rfl, Nat.le_of_ble_eq_true rfl⟩ hl.1 rfl (Nat.le_of_ble_eq_true rfl) dX1_tellPair_31 ⟨Nat.le_of_ble_eq_true rfl, Nat.le_of_ble_eq_true rfl⟩ (fun r7 ir7 Fr7 Gr7 _ locs hp hH hS => ?_)
        obtain ⟨hu, hpr7⟩ := hp
        cases hu
        have hsr7 : Int32.toInt r7 = Int32.toInt 0 ↔ ¬ S y.toInt64 := by rw [hB.2.2.2]; exact Int32.toInt_inj.trans hpr7
        refine lv_if_ne (pc := 34) (tgt := 42) C0.1 C0.2.1 dX1_tellPair_34 (by decide) (fun c8 => ?_) (fun c8 => ?_)
        · have : Int32.toInt 0 = 0 := rfl
          have c8 : ¬ _ := fun q => c8 (Int32.toInt_inj.mp q)
          refine lv_bipush (pc := 42) (v := (-3)) C0.1 C0.2.1 dX1_tellPair_42 (by decide) ?_
          exact xiret (pc := 44) C0 hr hH hS dX1_tellPair_44 ⟨OB.rf, ⟨S, Or.inr (Or.inl ⟨(fun q => q.elim (fun q => absurd q (by assumption)) (fun q => absurd q (by assumption))), (by first | exact Or.inr (Or.inr (Int32.toInt_inj.mp (by assumption))) | exact Or.inr (Or.inr (by assumption)) | exact Or.inl (Classical.not_not.mp (fun q => absurd (hsr5.mpr q) (by assumption))) | exact Or.inr (Or.inl (Classical.not_not.mp (fun q => absurd (hsr7.mpr q) (by assumption))))), rfl, rfl, rfl⟩), hB⟩, ⟨rfl, rfl, rfl, rfl⟩⟩
        · have : Int32.toInt 0 = 0 := rfl
          have c8 := congrArg Int32.toInt c8
          refine lv_iload_n (pc := 37) C0.1 C0.2.1 dX1_tellPair_37 rfl (lv_at hl 1 rfl) ?_
          refine lv_iload_n (pc := 38) C0.1 C0.2.1 dX1_tellPair_38 rfl (lv_at hl 2 rfl) ?_
          refine lv_icmp_ne (pc := 39) (tgt := 45) C0.1 C0.2.1 dX1_tellPair_39 (by decide) (fun c9 => ?_) (fun c9 => ?_)
          · have c9 : ¬ _ := fun q => c9 (Int32.toInt_inj.mp q)
            refine lv_aload_n (pc := 45) C0.1 C0.2.1 dX1_tellPair_45 rfl (lv_at hl 0 rfl) ?_
            refine xget (pc := 46) C0 hH 1 4 clX1 ⟨Nat.le_of_ble_eq_true rfl, Nat.le_of_ble_eq_true rfl⟩ ⟨rfl, rfl⟩ (Nat.le_of_ble_eq_true rfl) fl_X1_49 (v := .int (i 1 4)) rfl dX1_tellPair_46 ?_
            refine lv_iconst (pc := 49) (v := 4) C0.1 C0.2.1 dX1_tellPair_49 (by decide) ?_
            refine lv_icmp_lt (pc := 50) (tgt := 56) C0.1 C0.2.1 dX1_tellPair_50 (by decide) (fun c10 => ?_) (fun c10 => ?_)
            · have : Int32.toInt 4 = 4 := rfl
              have c10 := Int32.lt_iff_toInt_lt.mp c10
              refine lv_aload_n (pc := 56) C0.1 C0.2.1 dX1_tellPair_56 rfl (lv_at hl 0 rfl) ?_
              refine lv_iload_n (pc := 57) C0.1 C0.2.1 dX1_tellPair_57 rfl (lv_at hl 1 rfl) ?_
              refine lv_i2l (pc := 58) (v := x.toInt64) C0.1 C0.2.1 dX1_tellPair_58 rfl ?_
              refine lv_bipush (pc := 59) (v := 10) C0.1 C0.2.1 dX1_tellPair_59 (by decide) ?_
              refine lv_aload_n (pc := 61) C0.1 C0.2.1 dX1_tellPair_61 rfl (lv_at hl 0 rfl) ?_
              refine xget (pc := 62) C0 hH 1 4 clX1 ⟨Nat.le_of_ble_eq_true rfl, Nat.le_of_ble_eq_true rfl⟩ ⟨rfl, rfl⟩ (Nat.le_of_ble_eq_true rfl) fl_X1_49 (v := .int (i 1 4)) rfl dX1_tellPair_62 ?_
              have : Int32.toInt 10 = 10 := rfl
              refine lv_iadd (pc := 65) C0.1 C0.2.1 dX1_tellPair_65 ?_
              refine lv_topi (fun x11 ex11 => ?_)
              have hx11 : Int32.toInt x11 = Int32.toInt 10 + Int32.toInt (i 1 4) := by rw [ex11]; exact fb_addI (by omega) (by omega)
              refine xcVV (pc := 66) 1 [.long x.toInt64, .int x11] (g_X1_enter l D tA b i F G x.toInt64 x11 (show 0 ≤ Int32.toInt (i 1 2) ∧ Int32.toInt (i 1 2) < 24 from by omega)) C0 hH hS clX1 rfl ⟨⟨Nat.le_of_ble_eq_true rfl, Nat.le_of_ble_eq_true rfl⟩, rfl, rfl⟩ cw_X1_45 rfl ⟨Nat.le_of_ble_eq_true rfl, Nat.le_of_ble_eq_true rfl⟩ hl.1 rfl (Nat.le_of_ble_eq_true rfl) dX1_tellPair_66 ⟨Nat.le_of_ble_eq_true rfl, Nat.le_of_ble_eq_true rfl⟩ (fun ir12 Fr12 Gr12 _ locs hp hH hS => ?_)
              obtain ⟨tr12, htr12, hu⟩ := hp
              have htr12 : Int32.toInt tr12 = Int32.toInt (i 1 2) + 1 := htr12
              cases hu
              have hH : Hd D tA b 0 78 zz (up2 i 1 2 tr12) (va_up F 3 (upd (F 3) (Int32.toNatClampNeg (i 1 2)) x11)) (va_up G 2 (vp_updL (G 2) (Int32.toNatClampNeg (i 1 2)) x.toInt64)) _ := hH
              refine lv_aload_n (pc := 69) C0.1 C0.2.1 dX1_tellPair_69 rfl (lv_at hl 0 rfl) ?_
              refine lv_iload_n (pc := 70) C0.1 C0.2.1 dX1_tellPair_70 rfl (lv_at hl 2 rfl) ?_
              refine lv_i2l (pc := 71) (v := y.toInt64) C0.1 C0.2.1 dX1_tellPair_71 rfl ?_
              refine lv_bipush (pc := 72) (v := 20) C0.1 C0.2.1 dX1_tellPair_72 (by decide) ?_
              refine lv_aload_n (pc := 74) C0.1 C0.2.1 dX1_tellPair_74 rfl (lv_at hl 0 rfl) ?_
              refine xget (pc := 75) C0 hH 1 4 clX1 ⟨Nat.le_of_ble_eq_true rfl, Nat.le_of_ble_eq_true rfl⟩ ⟨rfl, rfl⟩ (Nat.le_of_ble_eq_true rfl) fl_X1_49 (v := .int (i 1 4)) rfl dX1_tellPair_75 ?_
              have : Int32.toInt 20 = 20 := rfl
              refine lv_iadd (pc := 78) C0.1 C0.2.1 dX1_tellPair_78 ?_
              refine lv_topi (fun x13 ex13 => ?_)
              have hx13 : Int32.toInt x13 = Int32.toInt 20 + Int32.toInt (i 1 4) := by rw [ex13]; exact fb_addI (by omega) (by omega)
              refine xcVV (pc := 79) 1 [.long y.toInt64, .int x13] (g_X1_enter l D tA b (up2 i 1 2 tr12) (va_up F 3 (upd (F 3) (Int32.toNatClampNeg (i 1 2)) x11)) (va_up G 2 (vp_updL (G 2) (Int32.toNatClampNeg (i 1 2)) x.toInt64)) y.toInt64 x13 (show 0 ≤ Int32.toInt tr12 ∧ Int32.toInt tr12 < 24 from by omega)) C0 hH hS clX1 rfl ⟨⟨Nat.le_of_ble_eq_true rfl, Nat.le_of_ble_eq_true rfl⟩, rfl, rfl⟩ cw_X1_45 rfl ⟨Nat.le_of_ble_eq_true rfl, Nat.le_of_ble_eq_true rfl⟩ hl.1 rfl (Nat.le_of_ble_eq_true rfl) dX1_tellPair_79 ⟨Nat.le_of_ble_eq_true rfl, Nat.le_of_ble_eq_true rfl⟩ (fun ir14 Fr14 Gr14 _ locs hp hH hS => ?_)
              obtain ⟨tr14, htr14, hu⟩ := hp
              have htr14 : Int32.toInt tr14 = Int32.toInt tr12 + 1 := htr14
              cases hu
              have hH : Hd D tA b 0 78 zz (up2 (up2 i 1 2 tr12) 1 2 tr14) (va_up (va_up F 3 (upd (F 3) (Int32.toNatClampNeg (i 1 2)) x11)) 3 (upd (upd (F 3) (Int32.toNatClampNeg (i 1 2)) x11) (Int32.toNatClampNeg tr12) x13)) (va_up (va_up G 2 (vp_updL (G 2) (Int32.toNatClampNeg (i 1 2)) x.toInt64)) 2 (vp_updL (vp_updL (G 2) (Int32.toNatClampNeg (i 1 2)) x.toInt64) (Int32.toNatClampNeg tr12) y.toInt64)) _ := hH
              refine lv_aload_n (pc := 82) C0.1 C0.2.1 dX1_tellPair_82 rfl (lv_at hl 0 rfl) ?_
              refine lv_dup (pc := 83) C0.1 C0.2.1 dX1_tellPair_83 rfl ?_
              refine xget (pc := 84) C0 hH 1 4 clX1 ⟨Nat.le_of_ble_eq_true rfl, Nat.le_of_ble_eq_true rfl⟩ ⟨rfl, rfl⟩ (Nat.le_of_ble_eq_true rfl) fl_X1_49 (v := .int (i 1 4)) rfl dX1_tellPair_84 ?_
              refine lv_iconst (pc := 87) (v := 1) C0.1 C0.2.1 dX1_tellPair_87 (by decide) ?_
              have : Int32.toInt 1 = 1 := rfl
              refine lv_iadd (pc := 88) C0.1 C0.2.1 dX1_tellPair_88 ?_
              refine lv_topi (fun x15 ex15 => ?_)
              have hx15 : Int32.toInt x15 = Int32.toInt (i 1 4) + Int32.toInt 1 := by rw [ex15]; exact fb_addI (by omega) (by omega)
              refine xputI (pc := 89) C0 (Nat.le_of_ble_eq_true rfl) hH hS 1 4 clX1 ⟨Nat.le_of_ble_eq_true rfl, Nat.le_of_ble_eq_true rfl⟩ ⟨rfl, rfl⟩ ⟨Nat.le_of_ble_eq_true rfl, rfl, rfl⟩ fl_X1_49 (x := x15) ⟨rfl, rfl⟩ dX1_tellPair_89 (fun _ locs hH hS _ => ?_)
              have hH : Hd D tA b 0 78 zz (up2 (up2 (up2 i 1 2 tr12) 1 2 tr14) 1 4 x15) (va_up (va_up F 3 (upd (F 3) (Int32.toNatClampNeg (i 1 2)) x11)) 3 (upd (upd (F 3) (Int32.toNatClampNeg (i 1 2)) x11) (Int32.toNatClampNeg tr12) x13)) (va_up (va_up G 2 (vp_updL (G 2) (Int32.toNatClampNeg (i 1 2)) x.toInt64)) 2 (vp_updL (vp_updL (G 2) (Int32.toNatClampNeg (i 1 2)) x.toInt64) (Int32.toNatClampNeg tr12) y.toInt64)) _ := hH
              refine lv_aload_n (pc := 92) C0.1 C0.2.1 dX1_tellPair_92 rfl (lv_at hl 0 rfl) ?_
              refine xget (pc := 93) C0 hH 1 4 clX1 ⟨Nat.le_of_ble_eq_true rfl, Nat.le_of_ble_eq_true rfl⟩ ⟨rfl, rfl⟩ (Nat.le_of_ble_eq_true rfl) fl_X1_49 (v := .int x15) rfl dX1_tellPair_93 ?_
              exact xiret (pc := 96) C0 hr hH hS dX1_tellPair_96 ⟨(OB.g (G2 := G) (OB.f (OB.f (OB.i (OB.i (OB.i OB.rf (by decide)) (by decide)) (by decide)) (by decide)) (by decide))), ⟨_, Or.inr (Or.inr (Or.inr ⟨(fun q => q.elim (fun q => absurd q (by assumption)) (fun q => absurd q (by assumption))), (fun q => q.elim (hsr5.mp (by assumption)) (fun q => q.elim (hsr7.mp (by assumption)) (fun q => by first | exact absurd q (by assumption) | exact absurd (congrArg Int32.toInt q) (by assumption)))), fun q => absurd (congrArg Int32.toInt q) (show ¬ (i 1 4).toInt = Int32.toInt 4 from by omega), ex15, ex15, rfl⟩)), BkC.pr hB htr12 htr14 (by omega) (by omega) (fun q => by have := congrArg Int32.toInt q; have : Int32.toInt 0 = 0 := rfl; omega) (fun q => by have := congrArg Int32.toInt q; have : Int32.toInt 0 = 0 := rfl; omega)⟩, ⟨rfl, rfl, rfl, rfl⟩⟩
            · have : Int32.toInt 4 = 4 := rfl
              have c10 : ¬ _ := fun q => c10 (Int32.lt_iff_toInt_lt.mpr q)
              refine lv_bipush (pc := 53) (v := (-4)) C0.1 C0.2.1 dX1_tellPair_53 (by decide) ?_
              exact xiret (pc := 55) C0 hr hH hS dX1_tellPair_55 ⟨OB.rf, ⟨S, Or.inr (Or.inr (Or.inl ⟨(fun q => q.elim (fun q => absurd q (by assumption)) (fun q => absurd q (by assumption))), (fun q => q.elim (hsr5.mp (by assumption)) (fun q => q.elim (hsr7.mp (by assumption)) (fun q => by first | exact absurd q (by assumption) | exact absurd (congrArg Int32.toInt q) (by assumption)))), Int32.toInt_inj.mp (show (i 1 4).toInt = Int32.toInt 4 from by omega), rfl, rfl, rfl⟩)), hB⟩, ⟨rfl, rfl, rfl, rfl⟩⟩
          · have c9 := congrArg Int32.toInt c9
            refine lv_bipush (pc := 42) (v := (-3)) C0.1 C0.2.1 dX1_tellPair_42 (by decide) ?_
            exact xiret (pc := 44) C0 hr hH hS dX1_tellPair_44 ⟨OB.rf, ⟨S, Or.inr (Or.inl ⟨(fun q => q.elim (fun q => absurd q (by assumption)) (fun q => absurd q (by assumption))), (by first | exact Or.inr (Or.inr (Int32.toInt_inj.mp (by assumption))) | exact Or.inr (Or.inr (by assumption)) | exact Or.inl (Classical.not_not.mp (fun q => absurd (hsr5.mpr q) (by assumption))) | exact Or.inr (Or.inl (Classical.not_not.mp (fun q => absurd (hsr7.mpr q) (by assumption))))), rfl, rfl, rfl⟩), hB⟩, ⟨rfl, rfl, rfl, rfl⟩⟩
    · refine lv_bipush (pc := 16) (v := (-2)) C0.1 C0.2.1 dX1_tellPair_16 (by decide) ?_
      exact xiret (pc := 18) C0 hr hH hS dX1_tellPair_18 ⟨OB.rf, ⟨S, Or.inl ⟨(by first | exact Or.inl (by assumption) | exact Or.inr (by assumption)), rfl, rfl, rfl⟩, hB⟩, ⟨rfl, rfl, rfl, rfl⟩⟩
set_option maxHeartbeats 4000000 in
set_option maxRecDepth 100000 in
theorem g_X1_tellTab (l : Launch) (D : va_G) (tA : Nat → ClassId) (b : Nat) (i F : Nat → Nat → Int32) (G : Nat → Nat → Int64) (x : Int32) (S : Int64 → Prop) (hB : BkC i F G S) : xMI l yX1_tellTab cX1_tellTab 3 (some .int) 0 0 D tA b 0 78 i F G [.ref (b + 1), .int x] (fun r u => OB i F u ∧ ((¬ (0 ≤ x.toInt ∧ x.toInt ≤ 8) ∧ r = -2 ∧ u.1 1 7 = i 1 7) ∨ ((0 ≤ x.toInt ∧ x.toInt ≤ 8) ∧ r = i 1 7 ∧ u.1 1 7 = x)) ∧ BkC u.1 u.2.1 u.2.2 S ∧ (u.1 1 3 = i 1 3 ∧ u.1 1 4 = i 1 4 ∧ u.1 1 5 = i 1 5 ∧ u.1 1 6 = i 1 6)) := by
  refine xstart RX1 rfl (by decide) (Nat.le_of_ble_eq_true rfl) ?_
  intro p e s m below meth c ls C0 hr hH hS hl
  have hl : lv_has ls 3 [(0, .ref (b + 1)), (1, .int x)] := hl
  have rg_x := fb_rng x
  have hRg := hB.1
  have hSm := hB.2.1
  refine lv_iload_n (pc := 0) C0.1 C0.2.1 dX1_tellTab_0 rfl (lv_at hl 1 rfl) ?_
  refine lv_if_lt (pc := 1) (tgt := 10) C0.1 C0.2.1 dX1_tellTab_1 (by decide) (fun c1 => ?_) (fun c1 => ?_)
  · have : Int32.toInt 0 = 0 := rfl
    have c1 := Int32.lt_iff_toInt_lt.mp c1
    refine lv_bipush (pc := 10) (v := (-2)) C0.1 C0.2.1 dX1_tellTab_10 (by decide) ?_
    exact xiret (pc := 12) C0 hr hH hS dX1_tellTab_12 ⟨OB.rf, Or.inl ⟨by omega, rfl, rfl⟩, hB, rfl, rfl, rfl, rfl⟩
  · have : Int32.toInt 0 = 0 := rfl
    have c1 : ¬ _ := fun q => c1 (Int32.lt_iff_toInt_lt.mpr q)
    refine lv_iload_n (pc := 4) C0.1 C0.2.1 dX1_tellTab_4 rfl (lv_at hl 1 rfl) ?_
    refine lv_bipush (pc := 5) (v := 8) C0.1 C0.2.1 dX1_tellTab_5 (by decide) ?_
    refine lv_icmp_le (pc := 7) (tgt := 13) C0.1 C0.2.1 dX1_tellTab_7 (by decide) (fun c2 => ?_) (fun c2 => ?_)
    · have : Int32.toInt 8 = 8 := rfl
      have c2 := Int32.le_iff_toInt_le.mp c2
      refine lv_aload_n (pc := 13) C0.1 C0.2.1 dX1_tellTab_13 rfl (lv_at hl 0 rfl) ?_
      refine xget (pc := 14) C0 hH 1 7 clX1 ⟨Nat.le_of_ble_eq_true rfl, Nat.le_of_ble_eq_true rfl⟩ ⟨rfl, rfl⟩ (Nat.le_of_ble_eq_true rfl) fl_X1_58 (v := .int (i 1 7)) rfl dX1_tellTab_14 ?_
      refine lv_topi (fun x3 ex3 => ?_)
      refine lv_istore_n (pc := 17) (lv' := [(2, .int x3), (0, .ref (b + 1)), (1, .int x)]) C0.1 C0.2.1 dX1_tellTab_17 rfl hl (by decide) rfl (fun ls hl => ?_)
      refine lv_aload_n (pc := 18) C0.1 C0.2.1 dX1_tellTab_18 rfl (lv_at hl 1 rfl) ?_
      refine lv_iload_n (pc := 19) C0.1 C0.2.1 dX1_tellTab_19 rfl (lv_at hl 2 rfl) ?_
      refine xputI (pc := 20) C0 (Nat.le_of_ble_eq_true rfl) hH hS 1 7 clX1 ⟨Nat.le_of_ble_eq_true rfl, Nat.le_of_ble_eq_true rfl⟩ ⟨rfl, rfl⟩ ⟨Nat.le_of_ble_eq_true rfl, rfl, rfl⟩ fl_X1_58 (x := x) ⟨rfl, rfl⟩ dX1_tellTab_20 (fun _ locs hH hS _ => ?_)
      have hH : Hd D tA b 0 78 zz (up2 i 1 7 x) F G _ := hH
      refine lv_iload_n (pc := 23) C0.1 C0.2.1 dX1_tellTab_23 rfl (lv_at hl 0 rfl) ?_
      exact xiret (pc := 24) C0 hr hH hS dX1_tellTab_24 ⟨(OB.i OB.rf (by decide)), Or.inr ⟨by omega, ex3, rfl⟩, ⟨⟨hB.1.1, hB.1.2.1, hB.1.2.2.1, hB.1.2.2.2.1, ⟨by show 0 ≤ x.toInt; omega, by show x.toInt ≤ 8; omega⟩⟩, hB.2⟩, rfl, rfl, rfl, rfl⟩
    · have : Int32.toInt 8 = 8 := rfl
      have c2 : ¬ _ := fun q => c2 (Int32.le_iff_toInt_le.mpr q)
      refine lv_bipush (pc := 10) (v := (-2)) C0.1 C0.2.1 dX1_tellTab_10 (by decide) ?_
      exact xiret (pc := 12) C0 hr hH hS dX1_tellTab_12 ⟨OB.rf, Or.inl ⟨by omega, rfl, rfl⟩, hB, rfl, rfl, rfl, rfl⟩
