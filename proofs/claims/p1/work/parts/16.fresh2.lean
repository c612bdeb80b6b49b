set_option maxRecDepth 20000 in
theorem fl_X1_58 : Cond.fieldLink RX1 58 (TX1 7).1 (TX1 7).2.1 (TX1 7).2.2.1 ∈ WALL := wm 43 (by decide +kernel) rfl
set_option maxRecDepth 20000 in
theorem fl_X3_15 : Cond.fieldLink RX3 15 (TX3 1).1 (TX3 1).2.1 (TX3 1).2.2.1 ∈ WALL := wm 362 (by decide +kernel) rfl
set_option maxRecDepth 20000 in
theorem cw_X1_23 : CwN RX1 "IndentReader" 23 yX9_nameOf cX9_nameOf 3 (some .long) 1 := ⟨nm_ 425 (by decide +kernel) rfl, wm 1 (by decide +kernel) rfl, wm 427 rfl rfl, by decide +kernel⟩
set_option maxRecDepth 20000 in
theorem st_X9_nameOf : Cond.static yX9_nameOf ∈ WALL := wm 426 (by decide +kernel) rfl
set_option maxRecDepth 20000 in
theorem cw_X1_27 : CwN RX1 "IndentReader" 27 yX9_isWord cX9_isWord 4 (some .boolean) 1 := ⟨nm_ 435 (by decide +kernel) rfl, wm 1 (by decide +kernel) rfl, wm 437 rfl rfl, by decide +kernel⟩
set_option maxRecDepth 20000 in
theorem st_X9_isWord : Cond.static yX9_isWord ∈ WALL := wm 436 (by decide +kernel) rfl
set_option maxRecDepth 20000 in
theorem cw_X1_34 : CwN RX1 "IndentReader" 34 yX9_isStepped cX9_isStepped 1 (some .boolean) 1 := ⟨nm_ 532 (by decide +kernel) rfl, wm 1 (by decide +kernel) rfl, wm 534 rfl rfl, by decide +kernel⟩
set_option maxRecDepth 20000 in
theorem st_X9_isStepped : Cond.static yX9_isStepped ∈ WALL := wm 533 (by decide +kernel) rfl
set_option maxRecDepth 20000 in
theorem cw_X1_38 : CwV RX1 38 yX1_roleOf cX1_roleOf 4 (some .int) 1 := ⟨wm 535 (by decide +kernel) rfl, wm 536 (by decide +kernel) rfl, wm 537 (by decide +kernel) rfl, wm 2 (by decide +kernel) rfl, wm 538 rfl rfl, by decide +kernel⟩
set_option maxRecDepth 20000 in
theorem fl_X1_19 : Cond.fieldLink RX1 19 (TX1 2).1 (TX1 2).2.1 (TX1 2).2.2.1 ∈ WALL := wm 36 (by decide +kernel) rfl
set_option maxRecDepth 20000 in
theorem fl_X1_42 : Cond.fieldLink RX1 42 (TX1 3).1 (TX1 3).2.1 (TX1 3).2.2.1 ∈ WALL := wm 37 (by decide +kernel) rfl
set_option maxRecDepth 20000 in
theorem cw_X1_45 : CwV RX1 45 yX1_enter cX1_enter 4 none 2 := ⟨wm 539 (by decide +kernel) rfl, wm 541 (by decide +kernel) rfl, wms 0 (by decide +kernel) rfl, wm 2 (by decide +kernel) rfl, wm 542 rfl rfl, by decide +kernel⟩
set_option maxRecDepth 20000 in
theorem cw_X1_31 : CwN RX1 "IndentReader" 31 yX9_isMark cX9_isMark 2 (some .boolean) 1 := ⟨nm_ 441 (by decide +kernel) rfl, wm 1 (by decide +kernel) rfl, wm 443 rfl rfl, by decide +kernel⟩
set_option maxRecDepth 20000 in
theorem st_X9_isMark : Cond.static yX9_isMark ∈ WALL := wm 442 (by decide +kernel) rfl
set_option maxRecDepth 20000 in
theorem fl_X1_52 : Cond.fieldLink RX1 52 (TX1 5).1 (TX1 5).2.1 (TX1 5).2.2.1 ∈ WALL := wm 39 (by decide +kernel) rfl
set_option maxRecDepth 20000 in
theorem fl_X1_49 : Cond.fieldLink RX1 49 (TX1 4).1 (TX1 4).2.1 (TX1 4).2.2.1 ∈ WALL := wm 38 (by decide +kernel) rfl
set_option maxRecDepth 20000 in
theorem fl_X1_55 : Cond.fieldLink RX1 55 (TX1 6).1 (TX1 6).2.1 (TX1 6).2.2.1 ∈ WALL := wm 40 (by decide +kernel) rfl
theorem dX9_unreadUnlessRefused_0 : decode cX9_unreadUnlessRefused 0 = .ok (.iload_n 1, 1) := by decide +kernel
theorem dX9_unreadUnlessRefused_1 : decode cX9_unreadUnlessRefused 1 = .ok (.ifCond .lt 8, 3) := by decide +kernel
theorem dX9_unreadUnlessRefused_9 : decode cX9_unreadUnlessRefused 9 = .ok (.iload_n 1, 1) := by decide +kernel
theorem dX9_unreadUnlessRefused_10 : decode cX9_unreadUnlessRefused 10 = .ok (.ireturn, 1) := by decide +kernel
theorem dX9_unreadUnlessRefused_4 : decode cX9_unreadUnlessRefused 4 = .ok (.aload_n 0, 1) := by decide +kernel
theorem dX9_unreadUnlessRefused_5 : decode cX9_unreadUnlessRefused 5 = .ok (.iconst 0, 1) := by decide +kernel
theorem dX9_unreadUnlessRefused_6 : decode cX9_unreadUnlessRefused 6 = .ok (.putfield 53, 3) := by decide +kernel
theorem dX1_tellTab_0 : decode cX1_tellTab 0 = .ok (.iload_n 1, 1) := by decide +kernel
theorem dX1_tellTab_1 : decode cX1_tellTab 1 = .ok (.ifCond .lt 9, 3) := by decide +kernel
theorem dX1_tellTab_10 : decode cX1_tellTab 10 = .ok (.bipush (-2), 2) := by decide +kernel
theorem dX1_tellTab_12 : decode cX1_tellTab 12 = .ok (.ireturn, 1) := by decide +kernel
theorem dX1_tellTab_4 : decode cX1_tellTab 4 = .ok (.iload_n 1, 1) := by decide +kernel
theorem dX1_tellTab_5 : decode cX1_tellTab 5 = .ok (.bipush 8, 2) := by decide +kernel
theorem dX1_tellTab_7 : decode cX1_tellTab 7 = .ok (.if_icmp .le 6, 3) := by decide +kernel
theorem dX1_tellTab_13 : decode cX1_tellTab 13 = .ok (.aload_n 0, 1) := by decide +kernel
theorem dX1_tellTab_14 : decode cX1_tellTab 14 = .ok (.getfield 58, 3) := by decide +kernel
theorem dX1_tellTab_17 : decode cX1_tellTab 17 = .ok (.istore_n 2, 1) := by decide +kernel
theorem dX1_tellTab_18 : decode cX1_tellTab 18 = .ok (.aload_n 0, 1) := by decide +kernel
theorem dX1_tellTab_19 : decode cX1_tellTab 19 = .ok (.iload_n 1, 1) := by decide +kernel
theorem dX1_tellTab_20 : decode cX1_tellTab 20 = .ok (.putfield 58, 3) := by decide +kernel
theorem dX1_tellTab_23 : decode cX1_tellTab 23 = .ok (.iload_n 2, 1) := by decide +kernel
theorem dX1_tellTab_24 : decode cX1_tellTab 24 = .ok (.ireturn, 1) := by decide +kernel
theorem dX6_keepFirst_0 : decode cX6_keepFirst 0 = .ok (.iload_n 1, 1) := by decide +kernel
theorem dX6_keepFirst_1 : decode cX6_keepFirst 1 = .ok (.ifCond .lt 11, 3) := by decide +kernel
theorem dX6_keepFirst_12 : decode cX6_keepFirst 12 = .ok (.bipush (-2), 2) := by decide +kernel
theorem dX6_keepFirst_14 : decode cX6_keepFirst 14 = .ok (.ireturn, 1) := by decide +kernel
theorem dX6_keepFirst_4 : decode cX6_keepFirst 4 = .ok (.iload_n 1, 1) := by decide +kernel
theorem dX6_keepFirst_5 : decode cX6_keepFirst 5 = .ok (.aload_n 0, 1) := by decide +kernel
theorem dX6_keepFirst_6 : decode cX6_keepFirst 6 = .ok (.getfield 15, 3) := by decide +kernel
theorem dX6_keepFirst_9 : decode cX6_keepFirst 9 = .ok (.if_icmp .le 6, 3) := by decide +kernel
theorem dX6_keepFirst_15 : decode cX6_keepFirst 15 = .ok (.aload_n 0, 1) := by decide +kernel
theorem dX6_keepFirst_16 : decode cX6_keepFirst 16 = .ok (.getfield 15, 3) := by decide +kernel
theorem dX6_keepFirst_19 : decode cX6_keepFirst 19 = .ok (.iload_n 1, 1) := by decide +kernel
theorem dX6_keepFirst_20 : decode cX6_keepFirst 20 = .ok (.isub, 1) := by decide +kernel
theorem dX6_keepFirst_21 : decode cX6_keepFirst 21 = .ok (.istore_n 2, 1) := by decide +kernel
theorem dX6_keepFirst_22 : decode cX6_keepFirst 22 = .ok (.aload_n 0, 1) := by decide +kernel
theorem dX6_keepFirst_23 : decode cX6_keepFirst 23 = .ok (.iload_n 1, 1) := by decide +kernel
theorem dX6_keepFirst_24 : decode cX6_keepFirst 24 = .ok (.putfield 15, 3) := by decide +kernel
theorem dX6_keepFirst_27 : decode cX6_keepFirst 27 = .ok (.iload_n 2, 1) := by decide +kernel
theorem dX6_keepFirst_28 : decode cX6_keepFirst 28 = .ok (.ireturn, 1) := by decide +kernel
theorem dX6_startOf_0 : decode cX6_startOf 0 = .ok (.iload_n 1, 1) := by decide +kernel
theorem dX6_startOf_1 : decode cX6_startOf 1 = .ok (.ifCond .ne 12, 3) := by decide +kernel
theorem dX6_startOf_13 : decode cX6_startOf 13 = .ok (.iconst 0, 1) := by decide +kernel
theorem dX6_startOf_14 : decode cX6_startOf 14 = .ok (.istore_n 2, 1) := by decide +kernel
theorem dX6_startOf_15 : decode cX6_startOf 15 = .ok (.iconst 0, 1) := by decide +kernel
theorem dX6_startOf_16 : decode cX6_startOf 16 = .ok (.istore_n 3, 1) := by decide +kernel
theorem dX6_startOf_17 : decode cX6_startOf 17 = .ok (.iload_n 3, 1) := by decide +kernel
theorem dX6_startOf_18 : decode cX6_startOf 18 = .ok (.aload_n 0, 1) := by decide +kernel
theorem dX6_startOf_19 : decode cX6_startOf 19 = .ok (.getfield 15, 3) := by decide +kernel
theorem dX6_startOf_22 : decode cX6_startOf 22 = .ok (.iconst 1, 1) := by decide +kernel
theorem dX6_startOf_23 : decode cX6_startOf 23 = .ok (.isub, 1) := by decide +kernel
theorem dX6_startOf_24 : decode cX6_startOf 24 = .ok (.if_icmp .ge 32, 3) := by decide +kernel
theorem dX6_startOf_56 : decode cX6_startOf 56 = .ok (.bipush (-9), 2) := by decide +kernel
theorem dX6_startOf_58 : decode cX6_startOf 58 = .ok (.ireturn, 1) := by decide +kernel
theorem dX6_startOf_4 : decode cX6_startOf 4 = .ok (.aload_n 0, 1) := by decide +kernel
theorem dX6_startOf_5 : decode cX6_startOf 5 = .ok (.getfield 15, 3) := by decide +kernel
theorem dX6_startOf_8 : decode cX6_startOf 8 = .ok (.ifCond .le 5, 3) := by decide +kernel
theorem dX3_at_0 : decode cX3_at 0 = .ok (.iload_n 1, 1) := by decide +kernel
theorem dX3_at_1 : decode cX3_at 1 = .ok (.ifCond .lt 24, 3) := by decide +kernel
theorem dX3_at_25 : decode cX3_at 25 = .ok (.bipush (-9), 2) := by decide +kernel
theorem dX3_at_27 : decode cX3_at 27 = .ok (.ireturn, 1) := by decide +kernel
theorem dX3_at_4 : decode cX3_at 4 = .ok (.iload_n 1, 1) := by decide +kernel
theorem dX3_at_5 : decode cX3_at 5 = .ok (.aload_n 0, 1) := by decide +kernel
theorem dX3_at_6 : decode cX3_at 6 = .ok (.getfield 15, 3) := by decide +kernel
theorem dX3_at_9 : decode cX3_at 9 = .ok (.if_icmp .ge 16, 3) := by decide +kernel
theorem dX1_tellOpener_0 : decode cX1_tellOpener 0 = .ok (.lload_n 1, 1) := by decide +kernel
theorem dX1_tellOpener_1 : decode cX1_tellOpener 1 = .ok (.invokestatic 23, 3) := by decide +kernel
theorem dX1_tellOpener_4 : decode cX1_tellOpener 4 = .ok (.lstore 4, 2) := by decide +kernel
theorem dX1_tellOpener_6 : decode cX1_tellOpener 6 = .ok (.lload 4, 2) := by decide +kernel
theorem dX1_tellOpener_8 : decode cX1_tellOpener 8 = .ok (.invokestatic 27, 3) := by decide +kernel
theorem dX1_tellOpener_11 : decode cX1_tellOpener 11 = .ok (.ifCond .ne 11, 3) := by decide +kernel
theorem dX1_tellOpener_22 : decode cX1_tellOpener 22 = .ok (.iload_n 3, 1) := by decide +kernel
theorem dX1_tellOpener_23 : decode cX1_tellOpener 23 = .ok (.invokestatic 34, 3) := by decide +kernel
theorem dX1_tellOpener_26 : decode cX1_tellOpener 26 = .ok (.ifCond .ne 6, 3) := by decide +kernel
theorem dX1_tellOpener_32 : decode cX1_tellOpener 32 = .ok (.aload_n 0, 1) := by decide +kernel
theorem dX1_tellOpener_33 : decode cX1_tellOpener 33 = .ok (.lload 4, 2) := by decide +kernel
theorem dX1_tellOpener_35 : decode cX1_tellOpener 35 = .ok (.invokevirtual 38, 3) := by decide +kernel
theorem dX1_tellOpener_38 : decode cX1_tellOpener 38 = .ok (.ifCond .eq 6, 3) := by decide +kernel
theorem dX1_tellOpener_44 : decode cX1_tellOpener 44 = .ok (.aload_n 0, 1) := by decide +kernel
theorem dX1_tellOpener_45 : decode cX1_tellOpener 45 = .ok (.getfield 42, 3) := by decide +kernel
theorem dX1_tellOpener_48 : decode cX1_tellOpener 48 = .ok (.bipush 8, 2) := by decide +kernel
theorem dX1_tellOpener_50 : decode cX1_tellOpener 50 = .ok (.if_icmp .lt 6, 3) := by decide +kernel
theorem dX1_tellOpener_56 : decode cX1_tellOpener 56 = .ok (.aload_n 0, 1) := by decide +kernel
theorem dX1_tellOpener_57 : decode cX1_tellOpener 57 = .ok (.lload 4, 2) := by decide +kernel
theorem dX1_tellOpener_59 : decode cX1_tellOpener 59 = .ok (.iload_n 3, 1) := by decide +kernel
theorem dX1_tellOpener_60 : decode cX1_tellOpener 60 = .ok (.invokevirtual 45, 3) := by decide +kernel
theorem dX1_tellOpener_63 : decode cX1_tellOpener 63 = .ok (.aload_n 0, 1) := by decide +kernel
theorem dX1_tellOpener_64 : decode cX1_tellOpener 64 = .ok (.dup, 1) := by decide +kernel
theorem dX1_tellOpener_65 : decode cX1_tellOpener 65 = .ok (.getfield 42, 3) := by decide +kernel
theorem dX1_tellOpener_68 : decode cX1_tellOpener 68 = .ok (.iconst 1, 1) := by decide +kernel
theorem dX1_tellOpener_69 : decode cX1_tellOpener 69 = .ok (.iadd, 1) := by decide +kernel
theorem dX1_tellOpener_70 : decode cX1_tellOpener 70 = .ok (.putfield 42, 3) := by decide +kernel
theorem dX1_tellOpener_73 : decode cX1_tellOpener 73 = .ok (.aload_n 0, 1) := by decide +kernel
theorem dX1_tellOpener_74 : decode cX1_tellOpener 74 = .ok (.getfield 42, 3) := by decide +kernel
theorem dX1_tellOpener_77 : decode cX1_tellOpener 77 = .ok (.ireturn, 1) := by decide +kernel
theorem dX1_tellOpener_29 : decode cX1_tellOpener 29 = .ok (.bipush (-2), 2) := by decide +kernel
theorem dX1_tellOpener_31 : decode cX1_tellOpener 31 = .ok (.ireturn, 1) := by decide +kernel
theorem dX1_tellOpener_14 : decode cX1_tellOpener 14 = .ok (.lload 4, 2) := by decide +kernel
theorem dX1_tellOpener_16 : decode cX1_tellOpener 16 = .ok (.invokestatic 31, 3) := by decide +kernel
theorem dX1_tellOpener_19 : decode cX1_tellOpener 19 = .ok (.ifCond .eq 10, 3) := by decide +kernel
theorem dX1_roleOf_0 : decode cX1_roleOf 0 = .ok (.iconst 0, 1) := by decide +kernel
theorem dX1_roleOf_1 : decode cX1_roleOf 1 = .ok (.istore_n 3, 1) := by decide +kernel
theorem dX1_roleOf_2 : decode cX1_roleOf 2 = .ok (.iload_n 3, 1) := by decide +kernel
theorem dX1_roleOf_3 : decode cX1_roleOf 3 = .ok (.aload_n 0, 1) := by decide +kernel
theorem dX1_roleOf_4 : decode cX1_roleOf 4 = .ok (.getfield 19, 3) := by decide +kernel
theorem dX1_roleOf_7 : decode cX1_roleOf 7 = .ok (.if_icmp .ge 27, 3) := by decide +kernel
theorem dX1_roleOf_34 : decode cX1_roleOf 34 = .ok (.iconst 0, 1) := by decide +kernel
theorem dX1_roleOf_35 : decode cX1_roleOf 35 = .ok (.ireturn, 1) := by decide +kernel
theorem dX1_enter_0 : decode cX1_enter 0 = .ok (.aload_n 0, 1) := by decide +kernel
theorem dX1_enter_1 : decode cX1_enter 1 = .ok (.getfield 19, 3) := by decide +kernel
theorem dX1_enter_4 : decode cX1_enter 4 = .ok (.aload_n 0, 1) := by decide +kernel
theorem dX1_enter_5 : decode cX1_enter 5 = .ok (.getfield 9, 3) := by decide +kernel
theorem dX1_enter_8 : decode cX1_enter 8 = .ok (.arraylength, 1) := by decide +kernel
theorem dX1_enter_9 : decode cX1_enter 9 = .ok (.if_icmp .lt 4, 3) := by decide +kernel
theorem dX1_enter_13 : decode cX1_enter 13 = .ok (.aload_n 0, 1) := by decide +kernel
theorem dX1_enter_14 : decode cX1_enter 14 = .ok (.getfield 9, 3) := by decide +kernel
theorem dX1_enter_17 : decode cX1_enter 17 = .ok (.aload_n 0, 1) := by decide +kernel
theorem dX1_enter_18 : decode cX1_enter 18 = .ok (.getfield 19, 3) := by decide +kernel
theorem dX1_enter_21 : decode cX1_enter 21 = .ok (.lload_n 1, 1) := by decide +kernel
theorem dX1_enter_22 : decode cX1_enter 22 = .ok (.lastore, 1) := by decide +kernel
theorem dX1_enter_23 : decode cX1_enter 23 = .ok (.aload_n 0, 1) := by decide +kernel
theorem dX1_enter_24 : decode cX1_enter 24 = .ok (.getfield 15, 3) := by decide +kernel
theorem dX1_enter_27 : decode cX1_enter 27 = .ok (.aload_n 0, 1) := by decide +kernel
theorem dX1_enter_28 : decode cX1_enter 28 = .ok (.getfield 19, 3) := by decide +kernel
theorem dX1_enter_31 : decode cX1_enter 31 = .ok (.iload_n 3, 1) := by decide +kernel
theorem dX1_enter_32 : decode cX1_enter 32 = .ok (.iastore, 1) := by decide +kernel
theorem dX1_enter_33 : decode cX1_enter 33 = .ok (.aload_n 0, 1) := by decide +kernel
theorem dX1_enter_34 : decode cX1_enter 34 = .ok (.dup, 1) := by decide +kernel
theorem dX1_enter_35 : decode cX1_enter 35 = .ok (.getfield 19, 3) := by decide +kernel
theorem dX1_enter_38 : decode cX1_enter 38 = .ok (.iconst 1, 1) := by decide +kernel
theorem dX1_enter_39 : decode cX1_enter 39 = .ok (.iadd, 1) := by decide +kernel
theorem dX1_enter_40 : decode cX1_enter 40 = .ok (.putfield 19, 3) := by decide +kernel
theorem dX1_enter_43 : decode cX1_enter 43 = .ok (.return_, 1) := by decide +kernel
theorem dX1_tellCloser_0 : decode cX1_tellCloser 0 = .ok (.lload_n 1, 1) := by decide +kernel
theorem dX1_tellCloser_1 : decode cX1_tellCloser 1 = .ok (.invokestatic 23, 3) := by decide +kernel
theorem dX1_tellCloser_4 : decode cX1_tellCloser 4 = .ok (.lstore_n 3, 1) := by decide +kernel
theorem dX1_tellCloser_5 : decode cX1_tellCloser 5 = .ok (.lload_n 3, 1) := by decide +kernel
theorem dX1_tellCloser_6 : decode cX1_tellCloser 6 = .ok (.invokestatic 27, 3) := by decide +kernel
theorem dX1_tellCloser_9 : decode cX1_tellCloser 9 = .ok (.ifCond .ne 6, 3) := by decide +kernel
theorem dX1_tellCloser_15 : decode cX1_tellCloser 15 = .ok (.aload_n 0, 1) := by decide +kernel
theorem dX1_tellCloser_16 : decode cX1_tellCloser 16 = .ok (.lload_n 3, 1) := by decide +kernel
theorem dX1_tellCloser_17 : decode cX1_tellCloser 17 = .ok (.invokevirtual 38, 3) := by decide +kernel
theorem dX1_tellCloser_20 : decode cX1_tellCloser 20 = .ok (.ifCond .eq 6, 3) := by decide +kernel
theorem dX1_tellCloser_26 : decode cX1_tellCloser 26 = .ok (.aload_n 0, 1) := by decide +kernel
theorem dX1_tellCloser_27 : decode cX1_tellCloser 27 = .ok (.getfield 52, 3) := by decide +kernel
theorem dX1_tellCloser_30 : decode cX1_tellCloser 30 = .ok (.iconst 4, 1) := by decide +kernel
theorem dX1_tellCloser_31 : decode cX1_tellCloser 31 = .ok (.if_icmp .lt 6, 3) := by decide +kernel
theorem dX1_tellCloser_37 : decode cX1_tellCloser 37 = .ok (.aload_n 0, 1) := by decide +kernel
theorem dX1_tellCloser_38 : decode cX1_tellCloser 38 = .ok (.lload_n 3, 1) := by decide +kernel
theorem dX1_tellCloser_39 : decode cX1_tellCloser 39 = .ok (.bipush 6, 2) := by decide +kernel
theorem dX1_tellCloser_41 : decode cX1_tellCloser 41 = .ok (.invokevirtual 45, 3) := by decide +kernel
theorem dX1_tellCloser_44 : decode cX1_tellCloser 44 = .ok (.aload_n 0, 1) := by decide +kernel
theorem dX1_tellCloser_45 : decode cX1_tellCloser 45 = .ok (.dup, 1) := by decide +kernel
theorem dX1_tellCloser_46 : decode cX1_tellCloser 46 = .ok (.getfield 52, 3) := by decide +kernel
theorem dX1_tellCloser_49 : decode cX1_tellCloser 49 = .ok (.iconst 1, 1) := by decide +kernel
theorem dX1_tellCloser_50 : decode cX1_tellCloser 50 = .ok (.iadd, 1) := by decide +kernel
theorem dX1_tellCloser_51 : decode cX1_tellCloser 51 = .ok (.putfield 52, 3) := by decide +kernel
theorem dX1_tellCloser_54 : decode cX1_tellCloser 54 = .ok (.aload_n 0, 1) := by decide +kernel
theorem dX1_tellCloser_55 : decode cX1_tellCloser 55 = .ok (.getfield 52, 3) := by decide +kernel
theorem dX1_tellCloser_58 : decode cX1_tellCloser 58 = .ok (.ireturn, 1) := by decide +kernel
theorem dX1_tellCloser_12 : decode cX1_tellCloser 12 = .ok (.bipush (-2), 2) := by decide +kernel
theorem dX1_tellCloser_14 : decode cX1_tellCloser 14 = .ok (.ireturn, 1) := by decide +kernel
theorem dX1_tellPair_0 : decode cX1_tellPair 0 = .ok (.iload_n 1, 1) := by decide +kernel
theorem dX1_tellPair_1 : decode cX1_tellPair 1 = .ok (.i2l, 1) := by decide +kernel
theorem dX1_tellPair_2 : decode cX1_tellPair 2 = .ok (.invokestatic 31, 3) := by decide +kernel
theorem dX1_tellPair_5 : decode cX1_tellPair 5 = .ok (.ifCond .eq 11, 3) := by decide +kernel
theorem dX1_tellPair_16 : decode cX1_tellPair 16 = .ok (.bipush (-2), 2) := by decide +kernel
theorem dX1_tellPair_18 : decode cX1_tellPair 18 = .ok (.ireturn, 1) := by decide +kernel
theorem dX1_tellPair_8 : decode cX1_tellPair 8 = .ok (.iload_n 2, 1) := by decide +kernel
theorem dX1_tellPair_9 : decode cX1_tellPair 9 = .ok (.i2l, 1) := by decide +kernel
theorem dX1_tellPair_10 : decode cX1_tellPair 10 = .ok (.invokestatic 31, 3) := by decide +kernel
theorem dX1_tellPair_13 : decode cX1_tellPair 13 = .ok (.ifCond .ne 6, 3) := by decide +kernel
theorem dX1_tellPair_19 : decode cX1_tellPair 19 = .ok (.aload_n 0, 1) := by decide +kernel
theorem dX1_tellPair_20 : decode cX1_tellPair 20 = .ok (.iload_n 1, 1) := by decide +kernel
theorem dX1_tellPair_21 : decode cX1_tellPair 21 = .ok (.i2l, 1) := by decide +kernel
theorem dX1_tellPair_22 : decode cX1_tellPair 22 = .ok (.invokevirtual 38, 3) := by decide +kernel
theorem dX1_tellPair_25 : decode cX1_tellPair 25 = .ok (.ifCond .ne 17, 3) := by decide +kernel
theorem dX1_tellPair_28 : decode cX1_tellPair 28 = .ok (.aload_n 0, 1) := by decide +kernel
theorem dX1_tellPair_29 : decode cX1_tellPair 29 = .ok (.iload_n 2, 1) := by decide +kernel
theorem dX1_tellPair_30 : decode cX1_tellPair 30 = .ok (.i2l, 1) := by decide +kernel
theorem dX1_tellPair_31 : decode cX1_tellPair 31 = .ok (.invokevirtual 38, 3) := by decide +kernel
theorem dX1_tellPair_34 : decode cX1_tellPair 34 = .ok (.ifCond .ne 8, 3) := by decide +kernel
theorem dX1_tellPair_37 : decode cX1_tellPair 37 = .ok (.iload_n 1, 1) := by decide +kernel
theorem dX1_tellPair_38 : decode cX1_tellPair 38 = .ok (.iload_n 2, 1) := by decide +kernel
theorem dX1_tellPair_39 : decode cX1_tellPair 39 = .ok (.if_icmp .ne 6, 3) := by decide +kernel
theorem dX1_tellPair_45 : decode cX1_tellPair 45 = .ok (.aload_n 0, 1) := by decide +kernel
theorem dX1_tellPair_46 : decode cX1_tellPair 46 = .ok (.getfield 49, 3) := by decide +kernel
theorem dX1_tellPair_49 : decode cX1_tellPair 49 = .ok (.iconst 4, 1) := by decide +kernel
theorem dX1_tellPair_50 : decode cX1_tellPair 50 = .ok (.if_icmp .lt 6, 3) := by decide +kernel
theorem dX1_tellPair_56 : decode cX1_tellPair 56 = .ok (.aload_n 0, 1) := by decide +kernel
theorem dX1_tellPair_57 : decode cX1_tellPair 57 = .ok (.iload_n 1, 1) := by decide +kernel
theorem dX1_tellPair_58 : decode cX1_tellPair 58 = .ok (.i2l, 1) := by decide +kernel
theorem dX1_tellPair_59 : decode cX1_tellPair 59 = .ok (.bipush 10, 2) := by decide +kernel
theorem dX1_tellPair_61 : decode cX1_tellPair 61 = .ok (.aload_n 0, 1) := by decide +kernel
theorem dX1_tellPair_62 : decode cX1_tellPair 62 = .ok (.getfield 49, 3) := by decide +kernel
theorem dX1_tellPair_65 : decode cX1_tellPair 65 = .ok (.iadd, 1) := by decide +kernel
theorem dX1_tellPair_66 : decode cX1_tellPair 66 = .ok (.invokevirtual 45, 3) := by decide +kernel
theorem dX1_tellPair_69 : decode cX1_tellPair 69 = .ok (.aload_n 0, 1) := by decide +kernel
theorem dX1_tellPair_70 : decode cX1_tellPair 70 = .ok (.iload_n 2, 1) := by decide +kernel
theorem dX1_tellPair_71 : decode cX1_tellPair 71 = .ok (.i2l, 1) := by decide +kernel
theorem dX1_tellPair_72 : decode cX1_tellPair 72 = .ok (.bipush 20, 2) := by decide +kernel
theorem dX1_tellPair_74 : decode cX1_tellPair 74 = .ok (.aload_n 0, 1) := by decide +kernel
theorem dX1_tellPair_75 : decode cX1_tellPair 75 = .ok (.getfield 49, 3) := by decide +kernel
theorem dX1_tellPair_78 : decode cX1_tellPair 78 = .ok (.iadd, 1) := by decide +kernel
theorem dX1_tellPair_79 : decode cX1_tellPair 79 = .ok (.invokevirtual 45, 3) := by decide +kernel
theorem dX1_tellPair_82 : decode cX1_tellPair 82 = .ok (.aload_n 0, 1) := by decide +kernel
theorem dX1_tellPair_83 : decode cX1_tellPair 83 = .ok (.dup, 1) := by decide +kernel
theorem dX1_tellPair_84 : decode cX1_tellPair 84 = .ok (.getfield 49, 3) := by decide +kernel
theorem dX1_tellPair_87 : decode cX1_tellPair 87 = .ok (.iconst 1, 1) := by decide +kernel
theorem dX1_tellPair_88 : decode cX1_tellPair 88 = .ok (.iadd, 1) := by decide +kernel
theorem dX1_tellPair_89 : decode cX1_tellPair 89 = .ok (.putfield 49, 3) := by decide +kernel
theorem dX1_tellPair_92 : decode cX1_tellPair 92 = .ok (.aload_n 0, 1) := by decide +kernel
theorem dX1_tellPair_93 : decode cX1_tellPair 93 = .ok (.getfield 49, 3) := by decide +kernel
theorem dX1_tellPair_96 : decode cX1_tellPair 96 = .ok (.ireturn, 1) := by decide +kernel
theorem dX1_tellPair_42 : decode cX1_tellPair 42 = .ok (.bipush (-3), 2) := by decide +kernel
theorem dX1_tellPair_44 : decode cX1_tellPair 44 = .ok (.ireturn, 1) := by decide +kernel
theorem dX1_tellGoer_0 : decode cX1_tellGoer 0 = .ok (.iload_n 1, 1) := by decide +kernel
theorem dX1_tellGoer_1 : decode cX1_tellGoer 1 = .ok (.i2l, 1) := by decide +kernel
theorem dX1_tellGoer_2 : decode cX1_tellGoer 2 = .ok (.invokestatic 31, 3) := by decide +kernel
theorem dX1_tellGoer_5 : decode cX1_tellGoer 5 = .ok (.ifCond .ne 6, 3) := by decide +kernel
theorem dX1_tellGoer_11 : decode cX1_tellGoer 11 = .ok (.aload_n 0, 1) := by decide +kernel
theorem dX1_tellGoer_12 : decode cX1_tellGoer 12 = .ok (.iload_n 1, 1) := by decide +kernel
theorem dX1_tellGoer_13 : decode cX1_tellGoer 13 = .ok (.i2l, 1) := by decide +kernel
theorem dX1_tellGoer_14 : decode cX1_tellGoer 14 = .ok (.invokevirtual 38, 3) := by decide +kernel
theorem dX1_tellGoer_17 : decode cX1_tellGoer 17 = .ok (.ifCond .eq 6, 3) := by decide +kernel
theorem dX1_tellGoer_23 : decode cX1_tellGoer 23 = .ok (.aload_n 0, 1) := by decide +kernel
theorem dX1_tellGoer_24 : decode cX1_tellGoer 24 = .ok (.getfield 55, 3) := by decide +kernel
theorem dX1_tellGoer_27 : decode cX1_tellGoer 27 = .ok (.iconst 4, 1) := by decide +kernel
theorem dX1_tellGoer_28 : decode cX1_tellGoer 28 = .ok (.if_icmp .lt 6, 3) := by decide +kernel
theorem dX1_tellGoer_34 : decode cX1_tellGoer 34 = .ok (.aload_n 0, 1) := by decide +kernel
theorem dX1_tellGoer_35 : decode cX1_tellGoer 35 = .ok (.iload_n 1, 1) := by decide +kernel
theorem dX1_tellGoer_36 : decode cX1_tellGoer 36 = .ok (.i2l, 1) := by decide +kernel
theorem dX1_tellGoer_37 : decode cX1_tellGoer 37 = .ok (.bipush 7, 2) := by decide +kernel
theorem dX1_tellGoer_39 : decode cX1_tellGoer 39 = .ok (.invokevirtual 45, 3) := by decide +kernel
theorem dX1_tellGoer_42 : decode cX1_tellGoer 42 = .ok (.aload_n 0, 1) := by decide +kernel
theorem dX1_tellGoer_43 : decode cX1_tellGoer 43 = .ok (.dup, 1) := by decide +kernel
theorem dX1_tellGoer_44 : decode cX1_tellGoer 44 = .ok (.getfield 55, 3) := by decide +kernel
theorem dX1_tellGoer_47 : decode cX1_tellGoer 47 = .ok (.iconst 1, 1) := by decide +kernel
theorem dX1_tellGoer_48 : decode cX1_tellGoer 48 = .ok (.iadd, 1) := by decide +kernel
theorem dX1_tellGoer_49 : decode cX1_tellGoer 49 = .ok (.putfield 55, 3) := by decide +kernel
theorem dX1_tellGoer_52 : decode cX1_tellGoer 52 = .ok (.aload_n 0, 1) := by decide +kernel
theorem dX1_tellGoer_53 : decode cX1_tellGoer 53 = .ok (.getfield 55, 3) := by decide +kernel
theorem dX1_tellGoer_56 : decode cX1_tellGoer 56 = .ok (.ireturn, 1) := by decide +kernel
theorem dX1_tellGoer_8 : decode cX1_tellGoer 8 = .ok (.bipush (-2), 2) := by decide +kernel
theorem dX1_tellGoer_10 : decode cX1_tellGoer 10 = .ok (.ireturn, 1) := by decide +kernel
set_option maxHeartbeats 4000000 in
set_option maxRecDepth 100000 in
theorem m14_X9_unreadUnlessRefused (l : Launch) (D : va_G) (tA : Nat → ClassId) (b : Nat) (i F : Nat → Nat → Int32) (G : Nat → Nat → Int64) (x : Int32)  : xMI l yX9_unreadUnlessRefused cX9_unreadUnlessRefused 2 (some .int) 0 0 D tA b 0 78 i F G [.ref (b + 0), .int x] (fun r _ => r = x) := by
  refine xstart RX9 rfl (by decide) (Nat.le_of_ble_eq_true rfl) ?_
  intro p e s m below meth c ls C0 hr hH hS hl
  have hl : lv_has ls 2 [(0, .ref (b + 0)), (1, .int x)] := hl
  refine lv_iload_n (pc := 0) C0.1 C0.2.1 dX9_unreadUnlessRefused_0 rfl (lv_at hl 1 rfl) ?_
  refine lv_if_lt (pc := 1) (tgt := 9) C0.1 C0.2.1 dX9_unreadUnlessRefused_1 (by decide) (fun c1 => ?_) (fun c1 => ?_)
  · have : Int32.toInt 0 = 0 := rfl
    have c1 := Int32.lt_iff_toInt_lt.mp c1
    refine lv_iload_n (pc := 9) C0.1 C0.2.1 dX9_unreadUnlessRefused_9 rfl (lv_at hl 1 rfl) ?_
    exact xiret (pc := 10) C0 hr hH hS dX9_unreadUnlessRefused_10 rfl
  · have : Int32.toInt 0 = 0 := rfl
    have c1 : ¬ _ := fun q => c1 (Int32.lt_iff_toInt_lt.mpr q)
    refine lv_aload_n (pc := 4) C0.1 C0.2.1 dX9_unreadUnlessRefused_4 rfl (lv_at hl 0 rfl) ?_
    refine lv_iconst (pc := 5) (v := 0) C0.1 C0.2.1 dX9_unreadUnlessRefused_5 (by decide) ?_
    refine xputI (pc := 6) C0 (Nat.le_of_ble_eq_true rfl) hH hS 0 8 clX9 ⟨Nat.le_of_ble_eq_true rfl, Nat.le_of_ble_eq_true rfl⟩ ⟨rfl, rfl⟩ ⟨Nat.le_of_ble_eq_true rfl, rfl, rfl⟩ fl_X9_53 (x := 0) ⟨rfl, rfl⟩ dX9_unreadUnlessRefused_6 (fun _ locs hH hS _ => ?_)
    have hH : Hd D tA b 0 78 zz (up2 i 0 8 0) F G _ := hH
    refine lv_iload_n (pc := 9) C0.1 C0.2.1 dX9_unreadUnlessRefused_9 rfl (lv_at hl 1 rfl) ?_
    exact xiret (pc := 10) C0 hr hH hS dX9_unreadUnlessRefused_10 rfl
set_option maxHeartbeats 4000000 in
set_option maxRecDepth 100000 in
theorem m15_X1_tellTab (l : Launch) (D : va_G) (tA : Nat → ClassId) (b : Nat) (i F : Nat → Nat → Int32) (G : Nat → Nat → Int64) (x : Int32) (hi_1_7 : i 1 7 = 0) : xMI l yX1_tellTab cX1_tellTab 3 (some .int) 0 0 D tA b 0 78 i F G [.ref (b + 1), .int x] (fun r _ => r = tbS x) := by
  refine xstart RX1 rfl (by decide) (Nat.le_of_ble_eq_true rfl) ?_
  intro p e s m below meth c ls C0 hr hH hS hl
  have hl : lv_has ls 3 [(0, .ref (b + 1)), (1, .int x)] := hl
  refine lv_iload_n (pc := 0) C0.1 C0.2.1 dX1_tellTab_0 rfl (lv_at hl 1 rfl) ?_
  refine lv_if_lt (pc := 1) (tgt := 10) C0.1 C0.2.1 dX1_tellTab_1 (by decide) (fun c1 => ?_) (fun c1 => ?_)
  · have : Int32.toInt 0 = 0 := rfl
    have c1 := Int32.lt_iff_toInt_lt.mp c1
    refine lv_bipush (pc := 10) (v := (-2)) C0.1 C0.2.1 dX1_tellTab_10 (by decide) ?_
    exact xiret (pc := 12) C0 hr hH hS dX1_tellTab_12 (by unfold tbS; (repeat' split) <;> first | rfl | omega | (exfalso; omega))
  · have : Int32.toInt 0 = 0 := rfl
    have c1 : ¬ _ := fun q => c1 (Int32.lt_iff_toInt_lt.mpr q)
    refine lv_iload_n (pc := 4) C0.1 C0.2.1 dX1_tellTab_4 rfl (lv_at hl 1 rfl) ?_
    refine lv_bipush (pc := 5) (v := 8) C0.1 C0.2.1 dX1_tellTab_5 (by decide) ?_
    refine lv_icmp_le (pc := 7) (tgt := 13) C0.1 C0.2.1 dX1_tellTab_7 (by decide) (fun c2 => ?_) (fun c2 => ?_)
    · have : Int32.toInt 8 = 8 := rfl
      have c2 := Int32.le_iff_toInt_le.mp c2
      refine lv_aload_n (pc := 13) C0.1 C0.2.1 dX1_tellTab_13 rfl (lv_at hl 0 rfl) ?_
      refine xget (pc := 14) C0 hH 1 7 clX1 ⟨Nat.le_of_ble_eq_true rfl, Nat.le_of_ble_eq_true rfl⟩ ⟨rfl, rfl⟩ (Nat.le_of_ble_eq_true rfl) fl_X1_58 (v := .int 0) (congrArg Value.int hi_1_7) dX1_tellTab_14 ?_
      refine lv_istore_n (pc := 17) (lv' := [(2, .int 0), (0, .ref (b + 1)), (1, .int x)]) C0.1 C0.2.1 dX1_tellTab_17 rfl hl (by decide) rfl (fun ls hl => ?_)
      refine lv_aload_n (pc := 18) C0.1 C0.2.1 dX1_tellTab_18 rfl (lv_at hl 1 rfl) ?_
      refine lv_iload_n (pc := 19) C0.1 C0.2.1 dX1_tellTab_19 rfl (lv_at hl 2 rfl) ?_
      refine xputI (pc := 20) C0 (Nat.le_of_ble_eq_true rfl) hH hS 1 7 clX1 ⟨Nat.le_of_ble_eq_true rfl, Nat.le_of_ble_eq_true rfl⟩ ⟨rfl, rfl⟩ ⟨Nat.le_of_ble_eq_true rfl, rfl, rfl⟩ fl_X1_58 (x := x) ⟨rfl, rfl⟩ dX1_tellTab_20 (fun _ locs hH hS _ => ?_)
      have hH : Hd D tA b 0 78 zz (up2 i 1 7 x) F G _ := hH
      refine lv_iload_n (pc := 23) C0.1 C0.2.1 dX1_tellTab_23 rfl (lv_at hl 0 rfl) ?_
      exact xiret (pc := 24) C0 hr hH hS dX1_tellTab_24 (by unfold tbS; (repeat' split) <;> first | rfl | omega | (exfalso; omega))
    · have : Int32.toInt 8 = 8 := rfl
      have c2 : ¬ _ := fun q => c2 (Int32.le_iff_toInt_le.mpr q)
      refine lv_bipush (pc := 10) (v := (-2)) C0.1 C0.2.1 dX1_tellTab_10 (by decide) ?_
      exact xiret (pc := 12) C0 hr hH hS dX1_tellTab_12 (by unfold tbS; (repeat' split) <;> first | rfl | omega | (exfalso; omega))
set_option maxHeartbeats 4000000 in
set_option maxRecDepth 100000 in
theorem m16_X6_keepFirst (l : Launch) (D : va_G) (tA : Nat → ClassId) (b : Nat) (i F : Nat → Nat → Int32) (G : Nat → Nat → Int64) (x : Int32) (hi_4_1 : i 4 1 = 0) : xMI l yX6_keepFirst cX6_keepFirst 3 (some .int) 0 0 D tA b 0 78 i F G [.ref (b + 4), .int x] (fun r _ => r = ctS x) := by
  refine xstart RX6 rfl (by decide) (Nat.le_of_ble_eq_true rfl) ?_
  intro p e s m below meth c ls C0 hr hH hS hl
  have hl : lv_has ls 3 [(0, .ref (b + 4)), (1, .int x)] := hl
  refine lv_iload_n (pc := 0) C0.1 C0.2.1 dX6_keepFirst_0 rfl (lv_at hl 1 rfl) ?_
  refine lv_if_lt (pc := 1) (tgt := 12) C0.1 C0.2.1 dX6_keepFirst_1 (by decide) (fun c1 => ?_) (fun c1 => ?_)
  · have : Int32.toInt 0 = 0 := rfl
    have c1 := Int32.lt_iff_toInt_lt.mp c1
    refine lv_bipush (pc := 12) (v := (-2)) C0.1 C0.2.1 dX6_keepFirst_12 (by decide) ?_
    exact xiret (pc := 14) C0 hr hH hS dX6_keepFirst_14 (by unfold ctS; rw [if_neg (by omega)])
  · have : Int32.toInt 0 = 0 := rfl
    have c1 : ¬ _ := fun q => c1 (Int32.lt_iff_toInt_lt.mpr q)
    refine lv_iload_n (pc := 4) C0.1 C0.2.1 dX6_keepFirst_4 rfl (lv_at hl 1 rfl) ?_
    refine lv_aload_n (pc := 5) C0.1 C0.2.1 dX6_keepFirst_5 rfl (lv_at hl 0 rfl) ?_
    refine xget (pc := 6) C0 hH 4 1 clX6 ⟨Nat.le_of_ble_eq_true rfl, Nat.le_of_ble_eq_true rfl⟩ ⟨rfl, rfl⟩ (Nat.le_of_ble_eq_true rfl) fl_X6_15 (v := .int 0) (congrArg Value.int hi_4_1) dX6_keepFirst_6 ?_
    refine lv_icmp_le (pc := 9) (tgt := 15) C0.1 C0.2.1 dX6_keepFirst_9 (by decide) (fun c2 => ?_) (fun c2 => ?_)
    · have : Int32.toInt 0 = 0 := rfl
      have c2 := Int32.le_iff_toInt_le.mp c2
      refine lv_aload_n (pc := 15) C0.1 C0.2.1 dX6_keepFirst_15 rfl (lv_at hl 0 rfl) ?_
      refine xget (pc := 16) C0 hH 4 1 clX6 ⟨Nat.le_of_ble_eq_true rfl, Nat.le_of_ble_eq_true rfl⟩ ⟨rfl, rfl⟩ (Nat.le_of_ble_eq_true rfl) fl_X6_15 (v := .int 0) (congrArg Value.int hi_4_1) dX6_keepFirst_16 ?_
      refine lv_iload_n (pc := 19) C0.1 C0.2.1 dX6_keepFirst_19 rfl (lv_at hl 1 rfl) ?_
      refine lv_isub (pc := 20) C0.1 C0.2.1 dX6_keepFirst_20 ?_
      refine lv_topi (fun x3 ex3 => ?_)
      refine lv_istore_n (pc := 21) (lv' := [(2, .int x3), (0, .ref (b + 4)), (1, .int x)]) C0.1 C0.2.1 dX6_keepFirst_21 rfl hl (by decide) rfl (fun ls hl => ?_)
      refine lv_aload_n (pc := 22) C0.1 C0.2.1 dX6_keepFirst_22 rfl (lv_at hl 1 rfl) ?_
      refine lv_iload_n (pc := 23) C0.1 C0.2.1 dX6_keepFirst_23 rfl (lv_at hl 2 rfl) ?_
      refine xputI (pc := 24) C0 (Nat.le_of_ble_eq_true rfl) hH hS 4 1 clX6 ⟨Nat.le_of_ble_eq_true rfl, Nat.le_of_ble_eq_true rfl⟩ ⟨rfl, rfl⟩ ⟨Nat.le_of_ble_eq_true rfl, rfl, rfl⟩ fl_X6_15 (x := x) ⟨rfl, rfl⟩ dX6_keepFirst_24 (fun _ locs hH hS _ => ?_)
      have hH : Hd D tA b 0 78 zz (up2 i 4 1 x) F G _ := hH
      refine lv_iload_n (pc := 27) C0.1 C0.2.1 dX6_keepFirst_27 rfl (lv_at hl 0 rfl) ?_
      exact xiret (pc := 28) C0 hr hH hS dX6_keepFirst_28 (by obtain rfl : x = 0 := Int32.toInt_inj.mp (by have : Int32.toInt 0 = 0 := rfl; omega); subst_vars; rfl)
    · have : Int32.toInt 0 = 0 := rfl
      have c2 : ¬ _ := fun q => c2 (Int32.le_iff_toInt_le.mpr q)
      refine lv_bipush (pc := 12) (v := (-2)) C0.1 C0.2.1 dX6_keepFirst_12 (by decide) ?_
      exact xiret (pc := 14) C0 hr hH hS dX6_keepFirst_14 (by unfold ctS; rw [if_neg (by omega)])
set_option maxHeartbeats 4000000 in
set_option maxRecDepth 100000 in
theorem m17_X6_startOf (l : Launch) (D : va_G) (tA : Nat → ClassId) (b : Nat) (i F : Nat → Nat → Int32) (G : Nat → Nat → Int64) (x : Int32) (hi_4_1 : i 4 1 = 0) : xMI l yX6_startOf cX6_startOf 4 (some .int) 0 0 D tA b 0 78 i F G [.ref (b + 4), .int x] (fun r u => u = (i, F, G) ∧ r = -9) := by
  refine xstart RX6 rfl (by decide) (Nat.le_of_ble_eq_true rfl) ?_
  intro p e s m below meth c ls C0 hr hH hS hl
  have hl : lv_has ls 4 [(0, .ref (b + 4)), (1, .int x)] := hl
  refine lv_iload_n (pc := 0) C0.1 C0.2.1 dX6_startOf_0 rfl (lv_at hl 1 rfl) ?_
  refine lv_if_ne (pc := 1) (tgt := 13) C0.1 C0.2.1 dX6_startOf_1 (by decide) (fun c1 => ?_) (fun c1 => ?_)
  · have : Int32.toInt 0 = 0 := rfl
    have c1 : ¬ _ := fun q => c1 (Int32.toInt_inj.mp q)
    refine lv_iconst (pc := 13) (v := 0) C0.1 C0.2.1 dX6_startOf_13 (by decide) ?_
    refine lv_istore_n (pc := 14) (lv' := [(2, .int 0), (0, .ref (b + 4)), (1, .int x)]) C0.1 C0.2.1 dX6_startOf_14 rfl hl (by decide) rfl (fun ls hl => ?_)
    refine lv_iconst (pc := 15) (v := 0) C0.1 C0.2.1 dX6_startOf_15 (by decide) ?_
    refine lv_istore_n (pc := 16) (lv' := [(3, .int 0), (2, .int 0), (0, .ref (b + 4)), (1, .int x)]) C0.1 C0.2.1 dX6_startOf_16 rfl hl (by decide) rfl (fun ls hl => ?_)
    refine lv_iload_n (pc := 17) C0.1 C0.2.1 dX6_startOf_17 rfl (lv_at hl 0 rfl) ?_
    refine lv_aload_n (pc := 18) C0.1 C0.2.1 dX6_startOf_18 rfl (lv_at hl 2 rfl) ?_
    refine xget (pc := 19) C0 hH 4 1 clX6 ⟨Nat.le_of_ble_eq_true rfl, Nat.le_of_ble_eq_true rfl⟩ ⟨rfl, rfl⟩ (Nat.le_of_ble_eq_true rfl) fl_X6_15 (v := .int 0) (congrArg Value.int hi_4_1) dX6_startOf_19 ?_
    refine lv_iconst (pc := 22) (v := 1) C0.1 C0.2.1 dX6_startOf_22 (by decide) ?_
    refine lv_isub (pc := 23) C0.1 C0.2.1 dX6_startOf_23 ?_
    refine lv_topi (fun q2 eq2 => ?_)
    obtain rfl : q2 = (-1) := eq2.trans (by decide)
    refine lv_icmp_ge (pc := 24) (tgt := 56) C0.1 C0.2.1 dX6_startOf_24 (by decide) (fun _ => ?_) (fun c => absurd (by decide) c)
    refine lv_bipush (pc := 56) (v := (-9)) C0.1 C0.2.1 dX6_startOf_56 (by decide) ?_
    exact xiret (pc := 58) C0 hr hH hS dX6_startOf_58 ⟨rfl, rfl⟩
  · have : Int32.toInt 0 = 0 := rfl
    have c1 := congrArg Int32.toInt c1
    refine lv_aload_n (pc := 4) C0.1 C0.2.1 dX6_startOf_4 rfl (lv_at hl 0 rfl) ?_
    refine xget (pc := 5) C0 hH 4 1 clX6 ⟨Nat.le_of_ble_eq_true rfl, Nat.le_of_ble_eq_true rfl⟩ ⟨rfl, rfl⟩ (Nat.le_of_ble_eq_true rfl) fl_X6_15 (v := .int 0) (congrArg Value.int hi_4_1) dX6_startOf_5 ?_
    refine lv_if_le (pc := 8) (tgt := 13) C0.1 C0.2.1 dX6_startOf_8 (by decide) (fun _ => ?_) (fun c => absurd (by decide) c)
    refine lv_iconst (pc := 13) (v := 0) C0.1 C0.2.1 dX6_startOf_13 (by decide) ?_
    refine lv_istore_n (pc := 14) (lv' := [(2, .int 0), (0, .ref (b + 4)), (1, .int x)]) C0.1 C0.2.1 dX6_startOf_14 rfl hl (by decide) rfl (fun ls hl => ?_)
    refine lv_iconst (pc := 15) (v := 0) C0.1 C0.2.1 dX6_startOf_15 (by decide) ?_
    refine lv_istore_n (pc := 16) (lv' := [(3, .int 0), (2, .int 0), (0, .ref (b + 4)), (1, .int x)]) C0.1 C0.2.1 dX6_startOf_16 rfl hl (by decide) rfl (fun ls hl => ?_)
    refine lv_iload_n (pc := 17) C0.1 C0.2.1 dX6_startOf_17 rfl (lv_at hl 0 rfl) ?_
    refine lv_aload_n (pc := 18) C0.1 C0.2.1 dX6_startOf_18 rfl (lv_at hl 2 rfl) ?_
    refine xget (pc := 19) C0 hH 4 1 clX6 ⟨Nat.le_of_ble_eq_true rfl, Nat.le_of_ble_eq_true rfl⟩ ⟨rfl, rfl⟩ (Nat.le_of_ble_eq_true rfl) fl_X6_15 (v := .int 0) (congrArg Value.int hi_4_1) dX6_startOf_19 ?_
    refine lv_iconst (pc := 22) (v := 1) C0.1 C0.2.1 dX6_startOf_22 (by decide) ?_
    refine lv_isub (pc := 23) C0.1 C0.2.1 dX6_startOf_23 ?_
    refine lv_topi (fun q3 eq3 => ?_)
    obtain rfl : q3 = (-1) := eq3.trans (by decide)
    refine lv_icmp_ge (pc := 24) (tgt := 56) C0.1 C0.2.1 dX6_startOf_24 (by decide) (fun _ => ?_) (fun c => absurd (by decide) c)
    refine lv_bipush (pc := 56) (v := (-9)) C0.1 C0.2.1 dX6_startOf_56 (by decide) ?_
    exact xiret (pc := 58) C0 hr hH hS dX6_startOf_58 ⟨rfl, rfl⟩
set_option maxHeartbeats 4000000 in
set_option maxRecDepth 100000 in
theorem m18_X3_at (l : Launch) (D : va_G) (tA : Nat → ClassId) (b : Nat) (i F : Nat → Nat → Int32) (G : Nat → Nat → Int64) (x : Int32) (hi_73_1 : i 73 1 = 0) : xMI l yX3_at cX3_at 2 (some .int) 0 0 D tA b 0 78 i F G [.ref (b + 73), .int x] (fun r _ => r = -9) := by
  refine xstart RX3 rfl (by decide) (Nat.le_of_ble_eq_true rfl) ?_
  intro p e s m below meth c ls C0 hr hH hS hl
  have hl : lv_has ls 2 [(0, .ref (b + 73)), (1, .int x)] := hl
  refine lv_iload_n (pc := 0) C0.1 C0.2.1 dX3_at_0 rfl (lv_at hl 1 rfl) ?_
  refine lv_if_lt (pc := 1) (tgt := 25) C0.1 C0.2.1 dX3_at_1 (by decide) (fun c1 => ?_) (fun c1 => ?_)
  · have : Int32.toInt 0 = 0 := rfl
    have c1 := Int32.lt_iff_toInt_lt.mp c1
    refine lv_bipush (pc := 25) (v := (-9)) C0.1 C0.2.1 dX3_at_25 (by decide) ?_
    exact xiret (pc := 27) C0 hr hH hS dX3_at_27 rfl
  · have : Int32.toInt 0 = 0 := rfl
    have c1 : ¬ _ := fun q => c1 (Int32.lt_iff_toInt_lt.mpr q)
    refine lv_iload_n (pc := 4) C0.1 C0.2.1 dX3_at_4 rfl (lv_at hl 1 rfl) ?_
    refine lv_aload_n (pc := 5) C0.1 C0.2.1 dX3_at_5 rfl (lv_at hl 0 rfl) ?_
    refine xget (pc := 6) C0 hH 73 1 clX3 ⟨Nat.le_of_ble_eq_true rfl, Nat.le_of_ble_eq_true rfl⟩ ⟨rfl, rfl⟩ (Nat.le_of_ble_eq_true rfl) fl_X3_15 (v := .int 0) (congrArg Value.int hi_73_1) dX3_at_6 ?_
    refine lv_icmp_ge (pc := 9) (tgt := 25) C0.1 C0.2.1 dX3_at_9 (by decide) (fun _ => ?_) (fun c => absurd (Int32.le_iff_toInt_le.mpr (by have : Int32.toInt 0 = 0 := rfl; omega)) c)
    refine lv_bipush (pc := 25) (v := (-9)) C0.1 C0.2.1 dX3_at_25 (by decide) ?_
    exact xiret (pc := 27) C0 hr hH hS dX3_at_27 rfl
set_option maxHeartbeats 4000000 in
set_option maxRecDepth 100000 in
theorem a20_X1_roleOf (l : Launch) (D : va_G) (tA : Nat → ClassId) (b : Nat) (i F : Nat → Nat → Int32) (G : Nat → Nat → Int64) (a0_ : Int64) (hi_1_2 : i 1 2 = 0) : xMI l yX1_roleOf cX1_roleOf 4 (some .int) 0 0 D tA b 0 78 i F G [.ref (b + 1), .long a0_] (fun r u => u = (i, F, G) ∧ r = 0) := by
  refine xstart RX1 rfl (by decide) (Nat.le_of_ble_eq_true rfl) ?_
  intro p e s m below meth c ls C0 hr hH hS hl
  have hl : lv_has ls 4 [(0, .ref (b + 1)), (1, .long a0_)] := hl
  refine lv_iconst (pc := 0) (v := 0) C0.1 C0.2.1 dX1_roleOf_0 (by decide) ?_
  refine lv_istore_n (pc := 1) (lv' := [(3, .int 0), (0, .ref (b + 1)), (1, .long a0_)]) C0.1 C0.2.1 dX1_roleOf_1 rfl hl (by decide) rfl (fun ls hl => ?_)
  refine lv_iload_n (pc := 2) C0.1 C0.2.1 dX1_roleOf_2 rfl (lv_at hl 0 rfl) ?_
  refine lv_aload_n (pc := 3) C0.1 C0.2.1 dX1_roleOf_3 rfl (lv_at hl 1 rfl) ?_
  refine xget (pc := 4) C0 hH 1 2 clX1 ⟨Nat.le_of_ble_eq_true rfl, Nat.le_of_ble_eq_true rfl⟩ ⟨rfl, rfl⟩ (Nat.le_of_ble_eq_true rfl) fl_X1_19 (v := .int 0) (congrArg Value.int hi_1_2) dX1_roleOf_4 ?_
  refine lv_icmp_ge (pc := 7) (tgt := 34) C0.1 C0.2.1 dX1_roleOf_7 (by decide) (fun _ => ?_) (fun c => absurd (by decide) c)
  refine lv_iconst (pc := 34) (v := 0) C0.1 C0.2.1 dX1_roleOf_34 (by decide) ?_
  exact xiret (pc := 35) C0 hr hH hS dX1_roleOf_35 ⟨rfl, rfl⟩
set_option maxHeartbeats 4000000 in
set_option maxRecDepth 100000 in
theorem a21_X1_enter (l : Launch) (D : va_G) (tA : Nat → ClassId) (b : Nat) (i F : Nat → Nat → Int32) (G : Nat → Nat → Int64) (a0_ : Int64) (a1_ : Int32) (hi_1_2 : i 1 2 = 0) : xMV l yX1_enter cX1_enter 4 none 0 0 D tA b 0 78 i F G [.ref (b + 1), .long a0_, .int a1_] (fun u => u = ((up2 i 1 2 1), (va_up F 3 (upd (F 3) (Int32.toNatClampNeg 0) a1_)), (va_up G 2 (vp_updL (G 2) (Int32.toNatClampNeg 0) a0_)))) := by
  refine xstart RX1 rfl (by decide) (Nat.le_of_ble_eq_true rfl) ?_
  intro p e s m below meth c ls C0 hr hH hS hl
  have hl : lv_has ls 4 [(0, .ref (b + 1)), (1, .long a0_), (3, .int a1_)] := hl
  refine lv_aload_n (pc := 0) C0.1 C0.2.1 dX1_enter_0 rfl (lv_at hl 0 rfl) ?_
  refine xget (pc := 1) C0 hH 1 2 clX1 ⟨Nat.le_of_ble_eq_true rfl, Nat.le_of_ble_eq_true rfl⟩ ⟨rfl, rfl⟩ (Nat.le_of_ble_eq_true rfl) fl_X1_19 (v := .int 0) (congrArg Value.int hi_1_2) dX1_enter_1 ?_
  refine lv_aload_n (pc := 4) C0.1 C0.2.1 dX1_enter_4 rfl (lv_at hl 0 rfl) ?_
  refine xget (pc := 5) C0 hH 1 0 clX1 ⟨Nat.le_of_ble_eq_true rfl, Nat.le_of_ble_eq_true rfl⟩ ⟨rfl, rfl⟩ (Nat.le_of_ble_eq_true rfl) fl_X1_9 (v := .ref (b + 2)) rfl dX1_enter_5 ?_
  refine xalen (pc := 8) (t := 53) C0 hH 2 ⟨Nat.le_of_ble_eq_true rfl, Nat.le_of_ble_eq_true rfl⟩ ⟨rfl, rfl⟩ (by decide) dX1_enter_8 ?_
  refine lv_icmp_lt (pc := 9) (tgt := 13) C0.1 C0.2.1 dX1_enter_9 (by decide) (fun _ => ?_) (fun c => absurd (by decide) c)
  refine lv_aload_n (pc := 13) C0.1 C0.2.1 dX1_enter_13 rfl (lv_at hl 0 rfl) ?_
  refine xget (pc := 14) C0 hH 1 0 clX1 ⟨Nat.le_of_ble_eq_true rfl, Nat.le_of_ble_eq_true rfl⟩ ⟨rfl, rfl⟩ (Nat.le_of_ble_eq_true rfl) fl_X1_9 (v := .ref (b + 2)) rfl dX1_enter_14 ?_
  refine lv_aload_n (pc := 17) C0.1 C0.2.1 dX1_enter_17 rfl (lv_at hl 0 rfl) ?_
  refine xget (pc := 18) C0 hH 1 2 clX1 ⟨Nat.le_of_ble_eq_true rfl, Nat.le_of_ble_eq_true rfl⟩ ⟨rfl, rfl⟩ (Nat.le_of_ble_eq_true rfl) fl_X1_19 (v := .int 0) (congrArg Value.int hi_1_2) dX1_enter_18 ?_
  refine lv_lload_n (pc := 21) C0.1 C0.2.1 dX1_enter_21 rfl (lv_at hl 1 rfl) ?_
  refine xlast (pc := 22) (N := 24) C0 (Nat.le_of_ble_eq_true rfl) hH hS 2 ⟨Nat.le_of_ble_eq_true rfl, Nat.le_of_ble_eq_true rfl⟩ ⟨rfl, rfl⟩ (vin (by decide)) dX1_enter_22 (fun _ locs hH hS => ?_)
  have hH : Hd D tA b 0 78 zz i F (va_up G 2 (vp_updL (G 2) (Int32.toNatClampNeg 0) a0_)) _ := hH
  refine lv_aload_n (pc := 23) C0.1 C0.2.1 dX1_enter_23 rfl (lv_at hl 0 rfl) ?_
  refine xget (pc := 24) C0 hH 1 1 clX1 ⟨Nat.le_of_ble_eq_true rfl, Nat.le_of_ble_eq_true rfl⟩ ⟨rfl, rfl⟩ (Nat.le_of_ble_eq_true rfl) fl_X1_15 (v := .ref (b + 3)) rfl dX1_enter_24 ?_
  refine lv_aload_n (pc := 27) C0.1 C0.2.1 dX1_enter_27 rfl (lv_at hl 0 rfl) ?_
  refine xget (pc := 28) C0 hH 1 2 clX1 ⟨Nat.le_of_ble_eq_true rfl, Nat.le_of_ble_eq_true rfl⟩ ⟨rfl, rfl⟩ (Nat.le_of_ble_eq_true rfl) fl_X1_19 (v := .int 0) (congrArg Value.int hi_1_2) dX1_enter_28 ?_
  refine lv_iload_n (pc := 31) C0.1 C0.2.1 dX1_enter_31 rfl (lv_at hl 2 rfl) ?_
  refine xiast (pc := 32) (N := 24) C0 (Nat.le_of_ble_eq_true rfl) hH hS 3 ⟨Nat.le_of_ble_eq_true rfl, Nat.le_of_ble_eq_true rfl⟩ ⟨rfl, rfl⟩ (vin (by decide)) dX1_enter_32 (fun _ locs hH hS _ => ?_)
  have hH : Hd D tA b 0 78 zz i (va_up F 3 (upd (F 3) (Int32.toNatClampNeg 0) a1_)) (va_up G 2 (vp_updL (G 2) (Int32.toNatClampNeg 0) a0_)) _ := hH
  refine lv_aload_n (pc := 33) C0.1 C0.2.1 dX1_enter_33 rfl (lv_at hl 0 rfl) ?_
  refine lv_dup (pc := 34) C0.1 C0.2.1 dX1_enter_34 rfl ?_
  refine xget (pc := 35) C0 hH 1 2 clX1 ⟨Nat.le_of_ble_eq_true rfl, Nat.le_of_ble_eq_true rfl⟩ ⟨rfl, rfl⟩ (Nat.le_of_ble_eq_true rfl) fl_X1_19 (v := .int 0) (congrArg Value.int hi_1_2) dX1_enter_35 ?_
  refine lv_iconst (pc := 38) (v := 1) C0.1 C0.2.1 dX1_enter_38 (by decide) ?_
  refine lv_iadd (pc := 39) C0.1 C0.2.1 dX1_enter_39 ?_
  refine lv_topi (fun q1 eq1 => ?_)
  obtain rfl : q1 = 1 := eq1.trans (by decide)
  refine xputI (pc := 40) C0 (Nat.le_of_ble_eq_true rfl) hH hS 1 2 clX1 ⟨Nat.le_of_ble_eq_true rfl, Nat.le_of_ble_eq_true rfl⟩ ⟨rfl, rfl⟩ ⟨Nat.le_of_ble_eq_true rfl, rfl, rfl⟩ fl_X1_19 (x := 1) ⟨rfl, rfl⟩ dX1_enter_40 (fun _ locs hH hS _ => ?_)
  have hH : Hd D tA b 0 78 zz (up2 i 1 2 1) (va_up F 3 (upd (F 3) (Int32.toNatClampNeg 0) a1_)) (va_up G 2 (vp_updL (G 2) (Int32.toNatClampNeg 0) a0_)) _ := hH
  exact xvret (pc := 43) C0 hr hH hS dX1_enter_43 rfl
set_option maxHeartbeats 4000000 in
set_option maxRecDepth 100000 in
theorem a22_X1_roleOf (l : Launch) (D : va_G) (tA : Nat → ClassId) (b : Nat) (i F : Nat → Nat → Int32) (G : Nat → Nat → Int64) (a0_ : Int64) (hi_1_2 : i 1 2 = 0) : xMI l yX1_roleOf cX1_roleOf 4 (some .int) 0 0 D tA b 0 78 i F G [.ref (b + 1), .long a0_] (fun r u => u = (i, F, G) ∧ r = 0) := by
  refine xstart RX1 rfl (by decide) (Nat.le_of_ble_eq_true rfl) ?_
  intro p e s m below meth c ls C0 hr hH hS hl
  have hl : lv_has ls 4 [(0, .ref (b + 1)), (1, .long a0_)] := hl
  refine lv_iconst (pc := 0) (v := 0) C0.1 C0.2.1 dX1_roleOf_0 (by decide) ?_
  refine lv_istore_n (pc := 1) (lv' := [(3, .int 0), (0, .ref (b + 1)), (1, .long a0_)]) C0.1 C0.2.1 dX1_roleOf_1 rfl hl (by decide) rfl (fun ls hl => ?_)
  refine lv_iload_n (pc := 2) C0.1 C0.2.1 dX1_roleOf_2 rfl (lv_at hl 0 rfl) ?_
  refine lv_aload_n (pc := 3) C0.1 C0.2.1 dX1_roleOf_3 rfl (lv_at hl 1 rfl) ?_
  refine xget (pc := 4) C0 hH 1 2 clX1 ⟨Nat.le_of_ble_eq_true rfl, Nat.le_of_ble_eq_true rfl⟩ ⟨rfl, rfl⟩ (Nat.le_of_ble_eq_true rfl) fl_X1_19 (v := .int 0) (congrArg Value.int hi_1_2) dX1_roleOf_4 ?_
  refine lv_icmp_ge (pc := 7) (tgt := 34) C0.1 C0.2.1 dX1_roleOf_7 (by decide) (fun _ => ?_) (fun c => absurd (by decide) c)
  refine lv_iconst (pc := 34) (v := 0) C0.1 C0.2.1 dX1_roleOf_34 (by decide) ?_
  exact xiret (pc := 35) C0 hr hH hS dX1_roleOf_35 ⟨rfl, rfl⟩
set_option maxHeartbeats 4000000 in
set_option maxRecDepth 100000 in
theorem a23_X1_enter (l : Launch) (D : va_G) (tA : Nat → ClassId) (b : Nat) (i F : Nat → Nat → Int32) (G : Nat → Nat → Int64) (a0_ : Int64) (a1_ : Int32) (hi_1_2 : i 1 2 = 0) : xMV l yX1_enter cX1_enter 4 none 0 0 D tA b 0 78 i F G [.ref (b + 1), .long a0_, .int a1_] (fun u => u = ((up2 i 1 2 1), (va_up F 3 (upd (F 3) (Int32.toNatClampNeg 0) a1_)), (va_up G 2 (vp_updL (G 2) (Int32.toNatClampNeg 0) a0_)))) := by
  refine xstart RX1 rfl (by decide) (Nat.le_of_ble_eq_true rfl) ?_
  intro p e s m below meth c ls C0 hr hH hS hl
  have hl : lv_has ls 4 [(0, .ref (b + 1)), (1, .long a0_), (3, .int a1_)] := hl
  refine lv_aload_n (pc := 0) C0.1 C0.2.1 dX1_enter_0 rfl (lv_at hl 0 rfl) ?_
  refine xget (pc := 1) C0 hH 1 2 clX1 ⟨Nat.le_of_ble_eq_true rfl, Nat.le_of_ble_eq_true rfl⟩ ⟨rfl, rfl⟩ (Nat.le_of_ble_eq_true rfl) fl_X1_19 (v := .int 0) (congrArg Value.int hi_1_2) dX1_enter_1 ?_
  refine lv_aload_n (pc := 4) C0.1 C0.2.1 dX1_enter_4 rfl (lv_at hl 0 rfl) ?_
  refine xget (pc := 5) C0 hH 1 0 clX1 ⟨Nat.le_of_ble_eq_true rfl, Nat.le_of_ble_eq_true rfl⟩ ⟨rfl, rfl⟩ (Nat.le_of_ble_eq_true rfl) fl_X1_9 (v := .ref (b + 2)) rfl dX1_enter_5 ?_
  refine xalen (pc := 8) (t := 53) C0 hH 2 ⟨Nat.le_of_ble_eq_true rfl, Nat.le_of_ble_eq_true rfl⟩ ⟨rfl, rfl⟩ (by decide) dX1_enter_8 ?_
  refine lv_icmp_lt (pc := 9) (tgt := 13) C0.1 C0.2.1 dX1_enter_9 (by decide) (fun _ => ?_) (fun c => absurd (by decide) c)
  refine lv_aload_n (pc := 13) C0.1 C0.2.1 dX1_enter_13 rfl (lv_at hl 0 rfl) ?_
  refine xget (pc := 14) C0 hH 1 0 clX1 ⟨Nat.le_of_ble_eq_true rfl, Nat.le_of_ble_eq_true rfl⟩ ⟨rfl, rfl⟩ (Nat.le_of_ble_eq_true rfl) fl_X1_9 (v := .ref (b + 2)) rfl dX1_enter_14 ?_
  refine lv_aload_n (pc := 17) C0.1 C0.2.1 dX1_enter_17 rfl (lv_at hl 0 rfl) ?_
  refine xget (pc := 18) C0 hH 1 2 clX1 ⟨Nat.le_of_ble_eq_true rfl, Nat.le_of_ble_eq_true rfl⟩ ⟨rfl, rfl⟩ (Nat.le_of_ble_eq_true rfl) fl_X1_19 (v := .int 0) (congrArg Value.int hi_1_2) dX1_enter_18 ?_
  refine lv_lload_n (pc := 21) C0.1 C0.2.1 dX1_enter_21 rfl (lv_at hl 1 rfl) ?_
  refine xlast (pc := 22) (N := 24) C0 (Nat.le_of_ble_eq_true rfl) hH hS 2 ⟨Nat.le_of_ble_eq_true rfl, Nat.le_of_ble_eq_true rfl⟩ ⟨rfl, rfl⟩ (vin (by decide)) dX1_enter_22 (fun _ locs hH hS => ?_)
  have hH : Hd D tA b 0 78 zz i F (va_up G 2 (vp_updL (G 2) (Int32.toNatClampNeg 0) a0_)) _ := hH
  refine lv_aload_n (pc := 23) C0.1 C0.2.1 dX1_enter_23 rfl (lv_at hl 0 rfl) ?_
  refine xget (pc := 24) C0 hH 1 1 clX1 ⟨Nat.le_of_ble_eq_true rfl, Nat.le_of_ble_eq_true rfl⟩ ⟨rfl, rfl⟩ (Nat.le_of_ble_eq_true rfl) fl_X1_15 (v := .ref (b + 3)) rfl dX1_enter_24 ?_
  refine lv_aload_n (pc := 27) C0.1 C0.2.1 dX1_enter_27 rfl (lv_at hl 0 rfl) ?_
  refine xget (pc := 28) C0 hH 1 2 clX1 ⟨Nat.le_of_ble_eq_true rfl, Nat.le_of_ble_eq_true rfl⟩ ⟨rfl, rfl⟩ (Nat.le_of_ble_eq_true rfl) fl_X1_19 (v := .int 0) (congrArg Value.int hi_1_2) dX1_enter_28 ?_
  refine lv_iload_n (pc := 31) C0.1 C0.2.1 dX1_enter_31 rfl (lv_at hl 2 rfl) ?_
  refine xiast (pc := 32) (N := 24) C0 (Nat.le_of_ble_eq_true rfl) hH hS 3 ⟨Nat.le_of_ble_eq_true rfl, Nat.le_of_ble_eq_true rfl⟩ ⟨rfl, rfl⟩ (vin (by decide)) dX1_enter_32 (fun _ locs hH hS _ => ?_)
  have hH : Hd D tA b 0 78 zz i (va_up F 3 (upd (F 3) (Int32.toNatClampNeg 0) a1_)) (va_up G 2 (vp_updL (G 2) (Int32.toNatClampNeg 0) a0_)) _ := hH
  refine lv_aload_n (pc := 33) C0.1 C0.2.1 dX1_enter_33 rfl (lv_at hl 0 rfl) ?_
  refine lv_dup (pc := 34) C0.1 C0.2.1 dX1_enter_34 rfl ?_
  refine xget (pc := 35) C0 hH 1 2 clX1 ⟨Nat.le_of_ble_eq_true rfl, Nat.le_of_ble_eq_true rfl⟩ ⟨rfl, rfl⟩ (Nat.le_of_ble_eq_true rfl) fl_X1_19 (v := .int 0) (congrArg Value.int hi_1_2) dX1_enter_35 ?_
  refine lv_iconst (pc := 38) (v := 1) C0.1 C0.2.1 dX1_enter_38 (by decide) ?_
  refine lv_iadd (pc := 39) C0.1 C0.2.1 dX1_enter_39 ?_
  refine lv_topi (fun q1 eq1 => ?_)
  obtain rfl : q1 = 1 := eq1.trans (by decide)
  refine xputI (pc := 40) C0 (Nat.le_of_ble_eq_true rfl) hH hS 1 2 clX1 ⟨Nat.le_of_ble_eq_true rfl, Nat.le_of_ble_eq_true rfl⟩ ⟨rfl, rfl⟩ ⟨Nat.le_of_ble_eq_true rfl, rfl, rfl⟩ fl_X1_19 (x := 1) ⟨rfl, rfl⟩ dX1_enter_40 (fun _ locs hH hS _ => ?_)
  have hH : Hd D tA b 0 78 zz (up2 i 1 2 1) (va_up F 3 (upd (F 3) (Int32.toNatClampNeg 0) a1_)) (va_up G 2 (vp_updL (G 2) (Int32.toNatClampNeg 0) a0_)) _ := hH
  exact xvret (pc := 43) C0 hr hH hS dX1_enter_43 rfl
set_option maxHeartbeats 4000000 in
set_option maxRecDepth 100000 in
theorem m19_X1_tellOpener (l : Launch) (D : va_G) (tA : Nat → ClassId) (b : Nat) (i F : Nat → Nat → Int32) (G : Nat → Nat → Int64) (w : Int64) (x : Int32) (hi_1_2 : i 1 2 = 0) (hi_1_3 : i 1 3 = 0) : xMI l yX1_tellOpener cX1_tellOpener 6 (some .int) 5 112 D tA b 0 78 i F G [.ref (b + 1), .long w, .int x] (fun r _ => r = opS w x) := by
  refine xstart RX1 rfl (by decide) (Nat.le_of_ble_eq_true rfl) ?_
  intro p e s m below meth c ls C0 hr hH hS hl
  have hl : lv_has ls 6 [(0, .ref (b + 1)), (1, .long w), (3, .int x)] := hl
  refine lv_lload_n (pc := 0) C0.1 C0.2.1 dX1_tellOpener_0 rfl (lv_at hl 1 rfl) ?_
  refine xcNL (pc := 1) [.long w] (c_X9_nameOf l D tA b 0 78 i F G w) C0 hH hS cw_X1_23 st_X9_nameOf rfl ⟨Nat.le_of_ble_eq_true rfl, Nat.le_of_ble_eq_true rfl⟩ hl.1 rfl (Nat.le_of_ble_eq_true rfl) dX1_tellOpener_1 ⟨Nat.le_of_ble_eq_true rfl, Nat.le_of_ble_eq_true rfl⟩ (fun r1 ir1 Fr1 Gr1 _ locs hp hH hS => ?_)
  obtain ⟨hu, rfl⟩ := hp
  cases hu
  refine lv_lstore (pc := 4) (lv' := [(4, .long (nmw w)), (0, .ref (b + 1)), (1, .long w), (3, .int x)]) C0.1 C0.2.1 dX1_tellOpener_4 hl (by decide) rfl (fun ls hl => ?_)
  refine lv_lload (pc := 6) C0.1 C0.2.1 dX1_tellOpener_6 (lv_at hl 0 rfl) ?_
  refine xcNI (pc := 8) [.long (nmw w)] (c_X9_isWord l D tA b 0 78 i F G (nmw w)) C0 hH hS cw_X1_27 st_X9_isWord rfl ⟨Nat.le_of_ble_eq_true rfl, Nat.le_of_ble_eq_true rfl⟩ hl.1 rfl (Nat.le_of_ble_eq_true rfl) dX1_tellOpener_8 ⟨Nat.le_of_ble_eq_true rfl, Nat.le_of_ble_eq_true rfl⟩ (fun r2 ir2 Fr2 Gr2 _ locs hp hH hS => ?_)
  obtain ⟨hu, rfl⟩ := hp
  cases hu
  refine lv_if_ne (pc := 11) (tgt := 22) C0.1 C0.2.1 dX1_tellOpener_11 (by decide) (fun c3 => ?_) (fun c3 => ?_)
  · refine lv_iload_n (pc := 22) C0.1 C0.2.1 dX1_tellOpener_22 rfl (lv_at hl 3 rfl) ?_
    refine xcNI (pc := 23) [.int x] (c_X9_isStepped l D tA b 0 78 i F G x) C0 hH hS cw_X1_34 st_X9_isStepped rfl ⟨Nat.le_of_ble_eq_true rfl, Nat.le_of_ble_eq_true rfl⟩ hl.1 rfl (Nat.le_of_ble_eq_true rfl) dX1_tellOpener_23 ⟨Nat.le_of_ble_eq_true rfl, Nat.le_of_ble_eq_true rfl⟩ (fun r4 ir4 Fr4 Gr4 _ locs hp hH hS => ?_)
    obtain ⟨hu, rfl⟩ := hp
    cases hu
    refine lv_if_ne (pc := 26) (tgt := 32) C0.1 C0.2.1 dX1_tellOpener_26 (by decide) (fun c5 => ?_) (fun c5 => ?_)
    · have c5 := stp_1 c5
      refine lv_aload_n (pc := 32) C0.1 C0.2.1 dX1_tellOpener_32 rfl (lv_at hl 1 rfl) ?_
      refine lv_lload (pc := 33) C0.1 C0.2.1 dX1_tellOpener_33 (lv_at hl 0 rfl) ?_
      refine xcVI (pc := 35) 1 [.long (nmw w)] (a20_X1_roleOf l D tA b i F G (nmw w) (by exact hi_1_2)) C0 hH hS clX1 rfl ⟨⟨Nat.le_of_ble_eq_true rfl, Nat.le_of_ble_eq_true rfl⟩, rfl, rfl⟩ cw_X1_38 rfl ⟨Nat.le_of_ble_eq_true rfl, Nat.le_of_ble_eq_true rfl⟩ hl.1 rfl (Nat.le_of_ble_eq_true rfl) dX1_tellOpener_35 ⟨Nat.le_of_ble_eq_true rfl, Nat.le_of_ble_eq_true rfl⟩ (fun r6 ir6 Fr6 Gr6 _ locs hp hH hS => ?_)
      obtain ⟨hu, rfl⟩ := hp
      cases hu
      refine lv_if_eq (pc := 38) (tgt := 44) C0.1 C0.2.1 dX1_tellOpener_38 (by decide) (fun _ => ?_) (fun c => absurd (by decide) c)
      refine lv_aload_n (pc := 44) C0.1 C0.2.1 dX1_tellOpener_44 rfl (lv_at hl 1 rfl) ?_
      refine xget (pc := 45) C0 hH 1 3 clX1 ⟨Nat.le_of_ble_eq_true rfl, Nat.le_of_ble_eq_true rfl⟩ ⟨rfl, rfl⟩ (Nat.le_of_ble_eq_true rfl) fl_X1_42 (v := .int 0) (congrArg Value.int hi_1_3) dX1_tellOpener_45 ?_
      refine lv_bipush (pc := 48) (v := 8) C0.1 C0.2.1 dX1_tellOpener_48 (by decide) ?_
      refine lv_icmp_lt (pc := 50) (tgt := 56) C0.1 C0.2.1 dX1_tellOpener_50 (by decide) (fun _ => ?_) (fun c => absurd (by decide) c)
      refine lv_aload_n (pc := 56) C0.1 C0.2.1 dX1_tellOpener_56 rfl (lv_at hl 1 rfl) ?_
      refine lv_lload (pc := 57) C0.1 C0.2.1 dX1_tellOpener_57 (lv_at hl 0 rfl) ?_
      refine lv_iload_n (pc := 59) C0.1 C0.2.1 dX1_tellOpener_59 rfl (lv_at hl 3 rfl) ?_
      refine xcVV (pc := 60) 1 [.long (nmw w), .int x] (a21_X1_enter l D tA b i F G (nmw w) x (by exact hi_1_2)) C0 hH hS clX1 rfl ⟨⟨Nat.le_of_ble_eq_true rfl, Nat.le_of_ble_eq_true rfl⟩, rfl, rfl⟩ cw_X1_45 rfl ⟨Nat.le_of_ble_eq_true rfl, Nat.le_of_ble_eq_true rfl⟩ hl.1 rfl (Nat.le_of_ble_eq_true rfl) dX1_tellOpener_60 ⟨Nat.le_of_ble_eq_true rfl, Nat.le_of_ble_eq_true rfl⟩ (fun ir7 Fr7 Gr7 _ locs hp hH hS => ?_)
      cases hp
      have hH : Hd D tA b 0 78 zz (up2 i 1 2 1) (va_up F 3 (upd (F 3) (Int32.toNatClampNeg 0) x)) (va_up G 2 (vp_updL (G 2) (Int32.toNatClampNeg 0) (nmw w))) _ := hH
      refine lv_aload_n (pc := 63) C0.1 C0.2.1 dX1_tellOpener_63 rfl (lv_at hl 1 rfl) ?_
      refine lv_dup (pc := 64) C0.1 C0.2.1 dX1_tellOpener_64 rfl ?_
      refine xget (pc := 65) C0 hH 1 3 clX1 ⟨Nat.le_of_ble_eq_true rfl, Nat.le_of_ble_eq_true rfl⟩ ⟨rfl, rfl⟩ (Nat.le_of_ble_eq_true rfl) fl_X1_42 (v := .int 0) (congrArg Value.int hi_1_3) dX1_tellOpener_65 ?_
      refine lv_iconst (pc := 68) (v := 1) C0.1 C0.2.1 dX1_tellOpener_68 (by decide) ?_
      refine lv_iadd (pc := 69) C0.1 C0.2.1 dX1_tellOpener_69 ?_
      refine lv_topi (fun q8 eq8 => ?_)
      obtain rfl : q8 = 1 := eq8.trans (by decide)
      refine xputI (pc := 70) C0 (Nat.le_of_ble_eq_true rfl) hH hS 1 3 clX1 ⟨Nat.le_of_ble_eq_true rfl, Nat.le_of_ble_eq_true rfl⟩ ⟨rfl, rfl⟩ ⟨Nat.le_of_ble_eq_true rfl, rfl, rfl⟩ fl_X1_42 (x := 1) ⟨rfl, rfl⟩ dX1_tellOpener_70 (fun _ locs hH hS _ => ?_)
      have hH : Hd D tA b 0 78 zz (up2 (up2 i 1 2 1) 1 3 1) (va_up F 3 (upd (F 3) (Int32.toNatClampNeg 0) x)) (va_up G 2 (vp_updL (G 2) (Int32.toNatClampNeg 0) (nmw w))) _ := hH
      refine lv_aload_n (pc := 73) C0.1 C0.2.1 dX1_tellOpener_73 rfl (lv_at hl 1 rfl) ?_
      refine xget (pc := 74) C0 hH 1 3 clX1 ⟨Nat.le_of_ble_eq_true rfl, Nat.le_of_ble_eq_true rfl⟩ ⟨rfl, rfl⟩ (Nat.le_of_ble_eq_true rfl) fl_X1_42 (v := .int 1) rfl dX1_tellOpener_74 ?_
      exact xiret (pc := 77) C0 hr hH hS dX1_tellOpener_77 (by unfold opS; rw [if_neg (fun q => q.elim (fun q => by first | exact absurd q.1 (by assumption) | exact absurd q.2 (by assumption)) (fun q => q (by first | assumption | omega)))])
    · have c5 := stp_0 c5
      refine lv_bipush (pc := 29) (v := (-2)) C0.1 C0.2.1 dX1_tellOpener_29 (by decide) ?_
      exact xiret (pc := 31) C0 hr hH hS dX1_tellOpener_31 (by unfold opS; rw [if_pos (by first | exact Or.inl ⟨by assumption, by assumption⟩ | exact Or.inr (by first | assumption | omega))])
  · refine lv_lload (pc := 14) C0.1 C0.2.1 dX1_tellOpener_14 (lv_at hl 0 rfl) ?_
    refine xcNI (pc := 16) [.long (nmw w)] (c_X9_isMark l D tA b 0 78 i F G (nmw w)) C0 hH hS cw_X1_31 st_X9_isMark rfl ⟨Nat.le_of_ble_eq_true rfl, Nat.le_of_ble_eq_true rfl⟩ hl.1 rfl (Nat.le_of_ble_eq_true rfl) dX1_tellOpener_16 ⟨Nat.le_of_ble_eq_true rfl, Nat.le_of_ble_eq_true rfl⟩ (fun r9 ir9 Fr9 Gr9 _ locs hp hH hS => ?_)
    obtain ⟨hu, rfl⟩ := hp
    cases hu
    refine lv_if_eq (pc := 19) (tgt := 29) C0.1 C0.2.1 dX1_tellOpener_19 (by decide) (fun c10 => ?_) (fun c10 => ?_)
    · refine lv_bipush (pc := 29) (v := (-2)) C0.1 C0.2.1 dX1_tellOpener_29 (by decide) ?_
      exact xiret (pc := 31) C0 hr hH hS dX1_tellOpener_31 (by unfold opS; rw [if_pos (by first | exact Or.inl ⟨by assumption, by assumption⟩ | exact Or.inr (by first | assumption | omega))])
    · refine lv_iload_n (pc := 22) C0.1 C0.2.1 dX1_tellOpener_22 rfl (lv_at hl 3 rfl) ?_
      refine xcNI (pc := 23) [.int x] (c_X9_isStepped l D tA b 0 78 i F G x) C0 hH hS cw_X1_34 st_X9_isStepped rfl ⟨Nat.le_of_ble_eq_true rfl, Nat.le_of_ble_eq_true rfl⟩ hl.1 rfl (Nat.le_of_ble_eq_true rfl) dX1_tellOpener_23 ⟨Nat.le_of_ble_eq_true rfl, Nat.le_of_ble_eq_true rfl⟩ (fun r11 ir11 Fr11 Gr11 _ locs hp hH hS => ?_)
      obtain ⟨hu, rfl⟩ := hp
      cases hu
      refine lv_if_ne (pc := 26) (tgt := 32) C0.1 C0.2.1 dX1_tellOpener_26 (by decide) (fun c12 => ?_) (fun c12 => ?_)
      · have c12 := stp_1 c12
        refine lv_aload_n (pc := 32) C0.1 C0.2.1 dX1_tellOpener_32 rfl (lv_at hl 1 rfl) ?_
        refine lv_lload (pc := 33) C0.1 C0.2.1 dX1_tellOpener_33 (lv_at hl 0 rfl) ?_
        refine xcVI (pc := 35) 1 [.long (nmw w)] (a22_X1_roleOf l D tA b i F G (nmw w) (by exact hi_1_2)) C0 hH hS clX1 rfl ⟨⟨Nat.le_of_ble_eq_true rfl, Nat.le_of_ble_eq_true rfl⟩, rfl, rfl⟩ cw_X1_38 rfl ⟨Nat.le_of_ble_eq_true rfl, Nat.le_of_ble_eq_true rfl⟩ hl.1 rfl (Nat.le_of_ble_eq_true rfl) dX1_tellOpener_35 ⟨Nat.le_of_ble_eq_true rfl, Nat.le_of_ble_eq_true rfl⟩ (fun r13 ir13 Fr13 Gr13 _ locs hp hH hS => ?_)
        obtain ⟨hu, rfl⟩ := hp
        cases hu
        refine lv_if_eq (pc := 38) (tgt := 44) C0.1 C0.2.1 dX1_tellOpener_38 (by decide) (fun _ => ?_) (fun c => absurd (by decide) c)
        refine lv_aload_n (pc := 44) C0.1 C0.2.1 dX1_tellOpener_44 rfl (lv_at hl 1 rfl) ?_
        refine xget (pc := 45) C0 hH 1 3 clX1 ⟨Nat.le_of_ble_eq_true rfl, Nat.le_of_ble_eq_true rfl⟩ ⟨rfl, rfl⟩ (Nat.le_of_ble_eq_true rfl) fl_X1_42 (v := .int 0) (congrArg Value.int hi_1_3) dX1_tellOpener_45 ?_
        refine lv_bipush (pc := 48) (v := 8) C0.1 C0.2.1 dX1_tellOpener_48 (by decide) ?_
        refine lv_icmp_lt (pc := 50) (tgt := 56) C0.1 C0.2.1 dX1_tellOpener_50 (by decide) (fun _ => ?_) (fun c => absurd (by decide) c)
        refine lv_aload_n (pc := 56) C0.1 C0.2.1 dX1_tellOpener_56 rfl (lv_at hl 1 rfl) ?_
        refine lv_lload (pc := 57) C0.1 C0.2.1 dX1_tellOpener_57 (lv_at hl 0 rfl) ?_
        refine lv_iload_n (pc := 59) C0.1 C0.2.1 dX1_tellOpener_59 rfl (lv_at hl 3 rfl) ?_
        refine xcVV (pc := 60) 1 [.long (nmw w), .int x] (a23_X1_enter l D tA b i F G (nmw w) x (by exact hi_1_2)) C0 hH hS clX1 rfl ⟨⟨Nat.le_of_ble_eq_true rfl, Nat.le_of_ble_eq_true rfl⟩, rfl, rfl⟩ cw_X1_45 rfl ⟨Nat.le_of_ble_eq_true rfl, Nat.le_of_ble_eq_true rfl⟩ hl.1 rfl (Nat.le_of_ble_eq_true rfl) dX1_tellOpener_60 ⟨Nat.le_of_ble_eq_true rfl, Nat.le_of_ble_eq_true rfl⟩ (fun ir14 Fr14 Gr14 _ locs hp hH hS => ?_)
        cases hp
        have hH : Hd D tA b 0 78 zz (up2 i 1 2 1) (va_up F 3 (upd (F 3) (Int32.toNatClampNeg 0) x)) (va_up G 2 (vp_updL (G 2) (Int32.toNatClampNeg 0) (nmw w))) _ := hH
        refine lv_aload_n (pc := 63) C0.1 C0.2.1 dX1_tellOpener_63 rfl (lv_at hl 1 rfl) ?_
        refine lv_dup (pc := 64) C0.1 C0.2.1 dX1_tellOpener_64 rfl ?_
        refine xget (pc := 65) C0 hH 1 3 clX1 ⟨Nat.le_of_ble_eq_true rfl, Nat.le_of_ble_eq_true rfl⟩ ⟨rfl, rfl⟩ (Nat.le_of_ble_eq_true rfl) fl_X1_42 (v := .int 0) (congrArg Value.int hi_1_3) dX1_tellOpener_65 ?_
        refine lv_iconst (pc := 68) (v := 1) C0.1 C0.2.1 dX1_tellOpener_68 (by decide) ?_
        refine lv_iadd (pc := 69) C0.1 C0.2.1 dX1_tellOpener_69 ?_
        refine lv_topi (fun q15 eq15 => ?_)
        obtain rfl : q15 = 1 := eq15.trans (by decide)
        refine xputI (pc := 70) C0 (Nat.le_of_ble_eq_true rfl) hH hS 1 3 clX1 ⟨Nat.le_of_ble_eq_true rfl, Nat.le_of_ble_eq_true rfl⟩ ⟨rfl, rfl⟩ ⟨Nat.le_of_ble_eq_true rfl, rfl, rfl⟩ fl_X1_42 (x := 1) ⟨rfl, rfl⟩ dX1_tellOpener_70 (fun _ locs hH hS _ => ?_)
        have hH : Hd D tA b 0 78 zz (up2 (up2 i 1 2 1) 1 3 1) (va_up F 3 (upd (F 3) (Int32.toNatClampNeg 0) x)) (va_up G 2 (vp_updL (G 2) (Int32.toNatClampNeg 0) (nmw w))) _ := hH
        refine lv_aload_n (pc := 73) C0.1 C0.2.1 dX1_tellOpener_73 rfl (lv_at hl 1 rfl) ?_
        refine xget (pc := 74) C0 hH 1 3 clX1 ⟨Nat.le_of_ble_eq_true rfl, Nat.le_of_ble_eq_true rfl⟩ ⟨rfl, rfl⟩ (Nat.le_of_ble_eq_true rfl) fl_X1_42 (v := .int 1) rfl dX1_tellOpener_74 ?_
        exact xiret (pc := 77) C0 hr hH hS dX1_tellOpener_77 (by unfold opS; rw [if_neg (fun q => q.elim (fun q => by first | exact absurd q.1 (by assumption) | exact absurd q.2 (by assumption)) (fun q => q (by first | assumption | omega)))])
      · have c12 := stp_0 c12
        refine lv_bipush (pc := 29) (v := (-2)) C0.1 C0.2.1 dX1_tellOpener_29 (by decide) ?_
        exact xiret (pc := 31) C0 hr hH hS dX1_tellOpener_31 (by unfold opS; rw [if_pos (by first | exact Or.inl ⟨by assumption, by assumption⟩ | exact Or.inr (by first | assumption | omega))])
set_option maxHeartbeats 4000000 in
set_option maxRecDepth 100000 in
theorem a25_X1_roleOf (l : Launch) (D : va_G) (tA : Nat → ClassId) (b : Nat) (i F : Nat → Nat → Int32) (G : Nat → Nat → Int64) (a0_ : Int64) (hi_1_2 : i 1 2 = 0) : xMI l yX1_roleOf cX1_roleOf 4 (some .int) 0 0 D tA b 0 78 i F G [.ref (b + 1), .long a0_] (fun r u => u = (i, F, G) ∧ r = 0) := by
  refine xstart RX1 rfl (by decide) (Nat.le_of_ble_eq_true rfl) ?_
  intro p e s m below meth c ls C0 hr hH hS hl
  have hl : lv_has ls 4 [(0, .ref (b + 1)), (1, .long a0_)] := hl
  refine lv_iconst (pc := 0) (v := 0) C0.1 C0.2.1 dX1_roleOf_0 (by decide) ?_
  refine lv_istore_n (pc := 1) (lv' := [(3, .int 0), (0, .ref (b + 1)), (1, .long a0_)]) C0.1 C0.2.1 dX1_roleOf_1 rfl hl (by decide) rfl (fun ls hl => ?_)
  refine lv_iload_n (pc := 2) C0.1 C0.2.1 dX1_roleOf_2 rfl (lv_at hl 0 rfl) ?_
  refine lv_aload_n (pc := 3) C0.1 C0.2.1 dX1_roleOf_3 rfl (lv_at hl 1 rfl) ?_
  refine xget (pc := 4) C0 hH 1 2 clX1 ⟨Nat.le_of_ble_eq_true rfl, Nat.le_of_ble_eq_true rfl⟩ ⟨rfl, rfl⟩ (Nat.le_of_ble_eq_true rfl) fl_X1_19 (v := .int 0) (congrArg Value.int hi_1_2) dX1_roleOf_4 ?_
  refine lv_icmp_ge (pc := 7) (tgt := 34) C0.1 C0.2.1 dX1_roleOf_7 (by decide) (fun _ => ?_) (fun c => absurd (by decide) c)
  refine lv_iconst (pc := 34) (v := 0) C0.1 C0.2.1 dX1_roleOf_34 (by decide) ?_
  exact xiret (pc := 35) C0 hr hH hS dX1_roleOf_35 ⟨rfl, rfl⟩
set_option maxHeartbeats 4000000 in
set_option maxRecDepth 100000 in
theorem a26_X1_enter (l : Launch) (D : va_G) (tA : Nat → ClassId) (b : Nat) (i F : Nat → Nat → Int32) (G : Nat → Nat → Int64) (a0_ : Int64) (hi_1_2 : i 1 2 = 0) : xMV l yX1_enter cX1_enter 4 none 0 0 D tA b 0 78 i F G [.ref (b + 1), .long a0_, .int 6] (fun u => u = ((up2 i 1 2 1), (va_up F 3 (upd (F 3) (Int32.toNatClampNeg 0) 6)), (va_up G 2 (vp_updL (G 2) (Int32.toNatClampNeg 0) a0_)))) := by
  refine xstart RX1 rfl (by decide) (Nat.le_of_ble_eq_true rfl) ?_
  intro p e s m below meth c ls C0 hr hH hS hl
  have hl : lv_has ls 4 [(0, .ref (b + 1)), (1, .long a0_), (3, .int 6)] := hl
  refine lv_aload_n (pc := 0) C0.1 C0.2.1 dX1_enter_0 rfl (lv_at hl 0 rfl) ?_
  refine xget (pc := 1) C0 hH 1 2 clX1 ⟨Nat.le_of_ble_eq_true rfl, Nat.le_of_ble_eq_true rfl⟩ ⟨rfl, rfl⟩ (Nat.le_of_ble_eq_true rfl) fl_X1_19 (v := .int 0) (congrArg Value.int hi_1_2) dX1_enter_1 ?_
  refine lv_aload_n (pc := 4) C0.1 C0.2.1 dX1_enter_4 rfl (lv_at hl 0 rfl) ?_
  refine xget (pc := 5) C0 hH 1 0 clX1 ⟨Nat.le_of_ble_eq_true rfl, Nat.le_of_ble_eq_true rfl⟩ ⟨rfl, rfl⟩ (Nat.le_of_ble_eq_true rfl) fl_X1_9 (v := .ref (b + 2)) rfl dX1_enter_5 ?_
  refine xalen (pc := 8) (t := 53) C0 hH 2 ⟨Nat.le_of_ble_eq_true rfl, Nat.le_of_ble_eq_true rfl⟩ ⟨rfl, rfl⟩ (by decide) dX1_enter_8 ?_
  refine lv_icmp_lt (pc := 9) (tgt := 13) C0.1 C0.2.1 dX1_enter_9 (by decide) (fun _ => ?_) (fun c => absurd (by decide) c)
  refine lv_aload_n (pc := 13) C0.1 C0.2.1 dX1_enter_13 rfl (lv_at hl 0 rfl) ?_
  refine xget (pc := 14) C0 hH 1 0 clX1 ⟨Nat.le_of_ble_eq_true rfl, Nat.le_of_ble_eq_true rfl⟩ ⟨rfl, rfl⟩ (Nat.le_of_ble_eq_true rfl) fl_X1_9 (v := .ref (b + 2)) rfl dX1_enter_14 ?_
  refine lv_aload_n (pc := 17) C0.1 C0.2.1 dX1_enter_17 rfl (lv_at hl 0 rfl) ?_
  refine xget (pc := 18) C0 hH 1 2 clX1 ⟨Nat.le_of_ble_eq_true rfl, Nat.le_of_ble_eq_true rfl⟩ ⟨rfl, rfl⟩ (Nat.le_of_ble_eq_true rfl) fl_X1_19 (v := .int 0) (congrArg Value.int hi_1_2) dX1_enter_18 ?_
  refine lv_lload_n (pc := 21) C0.1 C0.2.1 dX1_enter_21 rfl (lv_at hl 1 rfl) ?_
  refine xlast (pc := 22) (N := 24) C0 (Nat.le_of_ble_eq_true rfl) hH hS 2 ⟨Nat.le_of_ble_eq_true rfl, Nat.le_of_ble_eq_true rfl⟩ ⟨rfl, rfl⟩ (vin (by decide)) dX1_enter_22 (fun _ locs hH hS => ?_)
  have hH : Hd D tA b 0 78 zz i F (va_up G 2 (vp_updL (G 2) (Int32.toNatClampNeg 0) a0_)) _ := hH
  refine lv_aload_n (pc := 23) C0.1 C0.2.1 dX1_enter_23 rfl (lv_at hl 0 rfl) ?_
  refine xget (pc := 24) C0 hH 1 1 clX1 ⟨Nat.le_of_ble_eq_true rfl, Nat.le_of_ble_eq_true rfl⟩ ⟨rfl, rfl⟩ (Nat.le_of_ble_eq_true rfl) fl_X1_15 (v := .ref (b + 3)) rfl dX1_enter_24 ?_
  refine lv_aload_n (pc := 27) C0.1 C0.2.1 dX1_enter_27 rfl (lv_at hl 0 rfl) ?_
  refine xget (pc := 28) C0 hH 1 2 clX1 ⟨Nat.le_of_ble_eq_true rfl, Nat.le_of_ble_eq_true rfl⟩ ⟨rfl, rfl⟩ (Nat.le_of_ble_eq_true rfl) fl_X1_19 (v := .int 0) (congrArg Value.int hi_1_2) dX1_enter_28 ?_
  refine lv_iload_n (pc := 31) C0.1 C0.2.1 dX1_enter_31 rfl (lv_at hl 2 rfl) ?_
  refine xiast (pc := 32) (N := 24) C0 (Nat.le_of_ble_eq_true rfl) hH hS 3 ⟨Nat.le_of_ble_eq_true rfl, Nat.le_of_ble_eq_true rfl⟩ ⟨rfl, rfl⟩ (vin (by decide)) dX1_enter_32 (fun _ locs hH hS _ => ?_)
  have hH : Hd D tA b 0 78 zz i (va_up F 3 (upd (F 3) (Int32.toNatClampNeg 0) 6)) (va_up G 2 (vp_updL (G 2) (Int32.toNatClampNeg 0) a0_)) _ := hH
  refine lv_aload_n (pc := 33) C0.1 C0.2.1 dX1_enter_33 rfl (lv_at hl 0 rfl) ?_
  refine lv_dup (pc := 34) C0.1 C0.2.1 dX1_enter_34 rfl ?_
  refine xget (pc := 35) C0 hH 1 2 clX1 ⟨Nat.le_of_ble_eq_true rfl, Nat.le_of_ble_eq_true rfl⟩ ⟨rfl, rfl⟩ (Nat.le_of_ble_eq_true rfl) fl_X1_19 (v := .int 0) (congrArg Value.int hi_1_2) dX1_enter_35 ?_
  refine lv_iconst (pc := 38) (v := 1) C0.1 C0.2.1 dX1_enter_38 (by decide) ?_
  refine lv_iadd (pc := 39) C0.1 C0.2.1 dX1_enter_39 ?_
  refine lv_topi (fun q1 eq1 => ?_)
  obtain rfl : q1 = 1 := eq1.trans (by decide)
  refine xputI (pc := 40) C0 (Nat.le_of_ble_eq_true rfl) hH hS 1 2 clX1 ⟨Nat.le_of_ble_eq_true rfl, Nat.le_of_ble_eq_true rfl⟩ ⟨rfl, rfl⟩ ⟨Nat.le_of_ble_eq_true rfl, rfl, rfl⟩ fl_X1_19 (x := 1) ⟨rfl, rfl⟩ dX1_enter_40 (fun _ locs hH hS _ => ?_)
  have hH : Hd D tA b 0 78 zz (up2 i 1 2 1) (va_up F 3 (upd (F 3) (Int32.toNatClampNeg 0) 6)) (va_up G 2 (vp_updL (G 2) (Int32.toNatClampNeg 0) a0_)) _ := hH
  exact xvret (pc := 43) C0 hr hH hS dX1_enter_43 rfl
set_option maxHeartbeats 4000000 in
set_option maxRecDepth 100000 in
theorem m24_X1_tellCloser (l : Launch) (D : va_G) (tA : Nat → ClassId) (b : Nat) (i F : Nat → Nat → Int32) (G : Nat → Nat → Int64) (w : Int64) (hi_1_2 : i 1 2 = 0) (hi_1_5 : i 1 5 = 0) : xMI l yX1_tellCloser cX1_tellCloser 5 (some .int) 3 67 D tA b 0 78 i F G [.ref (b + 1), .long w] (fun r _ => r = clS w) := by
  refine xstart RX1 rfl (by decide) (Nat.le_of_ble_eq_true rfl) ?_
  intro p e s m below meth c ls C0 hr hH hS hl
  have hl : lv_has ls 5 [(0, .ref (b + 1)), (1, .long w)] := hl
  refine lv_lload_n (pc := 0) C0.1 C0.2.1 dX1_tellCloser_0 rfl (lv_at hl 1 rfl) ?_
  refine xcNL (pc := 1) [.long w] (c_X9_nameOf l D tA b 0 78 i F G w) C0 hH hS cw_X1_23 st_X9_nameOf rfl ⟨Nat.le_of_ble_eq_true rfl, Nat.le_of_ble_eq_true rfl⟩ hl.1 rfl (Nat.le_of_ble_eq_true rfl) dX1_tellCloser_1 ⟨Nat.le_of_ble_eq_true rfl, Nat.le_of_ble_eq_true rfl⟩ (fun r1 ir1 Fr1 Gr1 _ locs hp hH hS => ?_)
  obtain ⟨hu, rfl⟩ := hp
  cases hu
  refine lv_lstore_n (pc := 4) (lv' := [(3, .long (nmw w)), (0, .ref (b + 1)), (1, .long w)]) C0.1 C0.2.1 dX1_tellCloser_4 rfl hl (by decide) rfl (fun ls hl => ?_)
  refine lv_lload_n (pc := 5) C0.1 C0.2.1 dX1_tellCloser_5 rfl (lv_at hl 0 rfl) ?_
  refine xcNI (pc := 6) [.long (nmw w)] (c_X9_isWord l D tA b 0 78 i F G (nmw w)) C0 hH hS cw_X1_27 st_X9_isWord rfl ⟨Nat.le_of_ble_eq_true rfl, Nat.le_of_ble_eq_true rfl⟩ hl.1 rfl (Nat.le_of_ble_eq_true rfl) dX1_tellCloser_6 ⟨Nat.le_of_ble_eq_true rfl, Nat.le_of_ble_eq_true rfl⟩ (fun r2 ir2 Fr2 Gr2 _ locs hp hH hS => ?_)
  obtain ⟨hu, rfl⟩ := hp
  cases hu
  refine lv_if_ne (pc := 9) (tgt := 15) C0.1 C0.2.1 dX1_tellCloser_9 (by decide) (fun c3 => ?_) (fun c3 => ?_)
  · refine lv_aload_n (pc := 15) C0.1 C0.2.1 dX1_tellCloser_15 rfl (lv_at hl 1 rfl) ?_
    refine lv_lload_n (pc := 16) C0.1 C0.2.1 dX1_tellCloser_16 rfl (lv_at hl 0 rfl) ?_
    refine xcVI (pc := 17) 1 [.long (nmw w)] (a25_X1_roleOf l D tA b i F G (nmw w) (by exact hi_1_2)) C0 hH hS clX1 rfl ⟨⟨Nat.le_of_ble_eq_true rfl, Nat.le_of_ble_eq_true rfl⟩, rfl, rfl⟩ cw_X1_38 rfl ⟨Nat.le_of_ble_eq_true rfl, Nat.le_of_ble_eq_true rfl⟩ hl.1 rfl (Nat.le_of_ble_eq_true rfl) dX1_tellCloser_17 ⟨Nat.le_of_ble_eq_true rfl, Nat.le_of_ble_eq_true rfl⟩ (fun r4 ir4 Fr4 Gr4 _ locs hp hH hS => ?_)
    obtain ⟨hu, rfl⟩ := hp
    cases hu
    refine lv_if_eq (pc := 20) (tgt := 26) C0.1 C0.2.1 dX1_tellCloser_20 (by decide) (fun _ => ?_) (fun c => absurd (by decide) c)
    refine lv_aload_n (pc := 26) C0.1 C0.2.1 dX1_tellCloser_26 rfl (lv_at hl 1 rfl) ?_
    refine xget (pc := 27) C0 hH 1 5 clX1 ⟨Nat.le_of_ble_eq_true rfl, Nat.le_of_ble_eq_true rfl⟩ ⟨rfl, rfl⟩ (Nat.le_of_ble_eq_true rfl) fl_X1_52 (v := .int 0) (congrArg Value.int hi_1_5) dX1_tellCloser_27 ?_
    refine lv_iconst (pc := 30) (v := 4) C0.1 C0.2.1 dX1_tellCloser_30 (by decide) ?_
    refine lv_icmp_lt (pc := 31) (tgt := 37) C0.1 C0.2.1 dX1_tellCloser_31 (by decide) (fun _ => ?_) (fun c => absurd (by decide) c)
    refine lv_aload_n (pc := 37) C0.1 C0.2.1 dX1_tellCloser_37 rfl (lv_at hl 1 rfl) ?_
    refine lv_lload_n (pc := 38) C0.1 C0.2.1 dX1_tellCloser_38 rfl (lv_at hl 0 rfl) ?_
    refine lv_bipush (pc := 39) (v := 6) C0.1 C0.2.1 dX1_tellCloser_39 (by decide) ?_
    refine xcVV (pc := 41) 1 [.long (nmw w), .int 6] (a26_X1_enter l D tA b i F G (nmw w) (by exact hi_1_2)) C0 hH hS clX1 rfl ⟨⟨Nat.le_of_ble_eq_true rfl, Nat.le_of_ble_eq_true rfl⟩, rfl, rfl⟩ cw_X1_45 rfl ⟨Nat.le_of_ble_eq_true rfl, Nat.le_of_ble_eq_true rfl⟩ hl.1 rfl (Nat.le_of_ble_eq_true rfl) dX1_tellCloser_41 ⟨Nat.le_of_ble_eq_true rfl, Nat.le_of_ble_eq_true rfl⟩ (fun ir5 Fr5 Gr5 _ locs hp hH hS => ?_)
    cases hp
    have hH : Hd D tA b 0 78 zz (up2 i 1 2 1) (va_up F 3 (upd (F 3) (Int32.toNatClampNeg 0) 6)) (va_up G 2 (vp_updL (G 2) (Int32.toNatClampNeg 0) (nmw w))) _ := hH
    refine lv_aload_n (pc := 44) C0.1 C0.2.1 dX1_tellCloser_44 rfl (lv_at hl 1 rfl) ?_
    refine lv_dup (pc := 45) C0.1 C0.2.1 dX1_tellCloser_45 rfl ?_
    refine xget (pc := 46) C0 hH 1 5 clX1 ⟨Nat.le_of_ble_eq_true rfl, Nat.le_of_ble_eq_true rfl⟩ ⟨rfl, rfl⟩ (Nat.le_of_ble_eq_true rfl) fl_X1_52 (v := .int 0) (congrArg Value.int hi_1_5) dX1_tellCloser_46 ?_
    refine lv_iconst (pc := 49) (v := 1) C0.1 C0.2.1 dX1_tellCloser_49 (by decide) ?_
    refine lv_iadd (pc := 50) C0.1 C0.2.1 dX1_tellCloser_50 ?_
    refine lv_topi (fun q6 eq6 => ?_)
    obtain rfl : q6 = 1 := eq6.trans (by decide)
    refine xputI (pc := 51) C0 (Nat.le_of_ble_eq_true rfl) hH hS 1 5 clX1 ⟨Nat.le_of_ble_eq_true rfl, Nat.le_of_ble_eq_true rfl⟩ ⟨rfl, rfl⟩ ⟨Nat.le_of_ble_eq_true rfl, rfl, rfl⟩ fl_X1_52 (x := 1) ⟨rfl, rfl⟩ dX1_tellCloser_51 (fun _ locs hH hS _ => ?_)
    have hH : Hd D tA b 0 78 zz (up2 (up2 i 1 2 1) 1 5 1) (va_up F 3 (upd (F 3) (Int32.toNatClampNeg 0) 6)) (va_up G 2 (vp_updL (G 2) (Int32.toNatClampNeg 0) (nmw w))) _ := hH
    refine lv_aload_n (pc := 54) C0.1 C0.2.1 dX1_tellCloser_54 rfl (lv_at hl 1 rfl) ?_
    refine xget (pc := 55) C0 hH 1 5 clX1 ⟨Nat.le_of_ble_eq_true rfl, Nat.le_of_ble_eq_true rfl⟩ ⟨rfl, rfl⟩ (Nat.le_of_ble_eq_true rfl) fl_X1_52 (v := .int 1) rfl dX1_tellCloser_55 ?_
    exact xiret (pc := 58) C0 hr hH hS dX1_tellCloser_58 (by unfold clS; rw [if_neg (by assumption)])
  · refine lv_bipush (pc := 12) (v := (-2)) C0.1 C0.2.1 dX1_tellCloser_12 (by decide) ?_
    exact xiret (pc := 14) C0 hr hH hS dX1_tellCloser_14 (by unfold clS; rw [if_pos (by assumption)])
set_option maxHeartbeats 4000000 in
set_option maxRecDepth 100000 in
theorem a28_X1_roleOf (l : Launch) (D : va_G) (tA : Nat → ClassId) (b : Nat) (i F : Nat → Nat → Int32) (G : Nat → Nat → Int64) (a0_ : Int64) (hi_1_2 : i 1 2 = 0) : xMI l yX1_roleOf cX1_roleOf 4 (some .int) 0 0 D tA b 0 78 i F G [.ref (b + 1), .long a0_] (fun r u => u = (i, F, G) ∧ r = 0) := by
  refine xstart RX1 rfl (by decide) (Nat.le_of_ble_eq_true rfl) ?_
  intro p e s m below meth c ls C0 hr hH hS hl
  have hl : lv_has ls 4 [(0, .ref (b + 1)), (1, .long a0_)] := hl
  refine lv_iconst (pc := 0) (v := 0) C0.1 C0.2.1 dX1_roleOf_0 (by decide) ?_
  refine lv_istore_n (pc := 1) (lv' := [(3, .int 0), (0, .ref (b + 1)), (1, .long a0_)]) C0.1 C0.2.1 dX1_roleOf_1 rfl hl (by decide) rfl (fun ls hl => ?_)
  refine lv_iload_n (pc := 2) C0.1 C0.2.1 dX1_roleOf_2 rfl (lv_at hl 0 rfl) ?_
  refine lv_aload_n (pc := 3) C0.1 C0.2.1 dX1_roleOf_3 rfl (lv_at hl 1 rfl) ?_
  refine xget (pc := 4) C0 hH 1 2 clX1 ⟨Nat.le_of_ble_eq_true rfl, Nat.le_of_ble_eq_true rfl⟩ ⟨rfl, rfl⟩ (Nat.le_of_ble_eq_true rfl) fl_X1_19 (v := .int 0) (congrArg Value.int hi_1_2) dX1_roleOf_4 ?_
  refine lv_icmp_ge (pc := 7) (tgt := 34) C0.1 C0.2.1 dX1_roleOf_7 (by decide) (fun _ => ?_) (fun c => absurd (by decide) c)
  refine lv_iconst (pc := 34) (v := 0) C0.1 C0.2.1 dX1_roleOf_34 (by decide) ?_
  exact xiret (pc := 35) C0 hr hH hS dX1_roleOf_35 ⟨rfl, rfl⟩
set_option maxHeartbeats 4000000 in
set_option maxRecDepth 100000 in
theorem a29_X1_roleOf (l : Launch) (D : va_G) (tA : Nat → ClassId) (b : Nat) (i F : Nat → Nat → Int32) (G : Nat → Nat → Int64) (a0_ : Int64) (hi_1_2 : i 1 2 = 0) : xMI l yX1_roleOf cX1_roleOf 4 (some .int) 0 0 D tA b 0 78 i F G [.ref (b + 1), .long a0_] (fun r u => u = (i, F, G) ∧ r = 0) := by
  refine xstart RX1 rfl (by decide) (Nat.le_of_ble_eq_true rfl) ?_
  intro p e s m below meth c ls C0 hr hH hS hl
  have hl : lv_has ls 4 [(0, .ref (b + 1)), (1, .long a0_)] := hl
  refine lv_iconst (pc := 0) (v := 0) C0.1 C0.2.1 dX1_roleOf_0 (by decide) ?_
  refine lv_istore_n (pc := 1) (lv' := [(3, .int 0), (0, .ref (b + 1)), (1, .long a0_)]) C0.1 C0.2.1 dX1_roleOf_1 rfl hl (by decide) rfl (fun ls hl => ?_)
  refine lv_iload_n (pc := 2) C0.1 C0.2.1 dX1_roleOf_2 rfl (lv_at hl 0 rfl) ?_
  refine lv_aload_n (pc := 3) C0.1 C0.2.1 dX1_roleOf_3 rfl (lv_at hl 1 rfl) ?_
  refine xget (pc := 4) C0 hH 1 2 clX1 ⟨Nat.le_of_ble_eq_true rfl, Nat.le_of_ble_eq_true rfl⟩ ⟨rfl, rfl⟩ (Nat.le_of_ble_eq_true rfl) fl_X1_19 (v := .int 0) (congrArg Value.int hi_1_2) dX1_roleOf_4 ?_
  refine lv_icmp_ge (pc := 7) (tgt := 34) C0.1 C0.2.1 dX1_roleOf_7 (by decide) (fun _ => ?_) (fun c => absurd (by decide) c)
  refine lv_iconst (pc := 34) (v := 0) C0.1 C0.2.1 dX1_roleOf_34 (by decide) ?_
  exact xiret (pc := 35) C0 hr hH hS dX1_roleOf_35 ⟨rfl, rfl⟩
set_option maxHeartbeats 4000000 in
set_option maxRecDepth 100000 in
theorem a30_X1_enter (l : Launch) (D : va_G) (tA : Nat → ClassId) (b : Nat) (i F : Nat → Nat → Int32) (G : Nat → Nat → Int64) (a0_ : Int64) (hi_1_2 : i 1 2 = 0) : xMV l yX1_enter cX1_enter 4 none 0 0 D tA b 0 78 i F G [.ref (b + 1), .long a0_, .int 10] (fun u => u = ((up2 i 1 2 1), (va_up F 3 (upd (F 3) (Int32.toNatClampNeg 0) 10)), (va_up G 2 (vp_updL (G 2) (Int32.toNatClampNeg 0) a0_)))) := by
  refine xstart RX1 rfl (by decide) (Nat.le_of_ble_eq_true rfl) ?_
  intro p e s m below meth c ls C0 hr hH hS hl
  have hl : lv_has ls 4 [(0, .ref (b + 1)), (1, .long a0_), (3, .int 10)] := hl
  refine lv_aload_n (pc := 0) C0.1 C0.2.1 dX1_enter_0 rfl (lv_at hl 0 rfl) ?_
  refine xget (pc := 1) C0 hH 1 2 clX1 ⟨Nat.le_of_ble_eq_true rfl, Nat.le_of_ble_eq_true rfl⟩ ⟨rfl, rfl⟩ (Nat.le_of_ble_eq_true rfl) fl_X1_19 (v := .int 0) (congrArg Value.int hi_1_2) dX1_enter_1 ?_
  refine lv_aload_n (pc := 4) C0.1 C0.2.1 dX1_enter_4 rfl (lv_at hl 0 rfl) ?_
  refine xget (pc := 5) C0 hH 1 0 clX1 ⟨Nat.le_of_ble_eq_true rfl, Nat.le_of_ble_eq_true rfl⟩ ⟨rfl, rfl⟩ (Nat.le_of_ble_eq_true rfl) fl_X1_9 (v := .ref (b + 2)) rfl dX1_enter_5 ?_
  refine xalen (pc := 8) (t := 53) C0 hH 2 ⟨Nat.le_of_ble_eq_true rfl, Nat.le_of_ble_eq_true rfl⟩ ⟨rfl, rfl⟩ (by decide) dX1_enter_8 ?_
  refine lv_icmp_lt (pc := 9) (tgt := 13) C0.1 C0.2.1 dX1_enter_9 (by decide) (fun _ => ?_) (fun c => absurd (by decide) c)
  refine lv_aload_n (pc := 13) C0.1 C0.2.1 dX1_enter_13 rfl (lv_at hl 0 rfl) ?_
  refine xget (pc := 14) C0 hH 1 0 clX1 ⟨Nat.le_of_ble_eq_true rfl, Nat.le_of_ble_eq_true rfl⟩ ⟨rfl, rfl⟩ (Nat.le_of_ble_eq_true rfl) fl_X1_9 (v := .ref (b + 2)) rfl dX1_enter_14 ?_
  refine lv_aload_n (pc := 17) C0.1 C0.2.1 dX1_enter_17 rfl (lv_at hl 0 rfl) ?_
  refine xget (pc := 18) C0 hH 1 2 clX1 ⟨Nat.le_of_ble_eq_true rfl, Nat.le_of_ble_eq_true rfl⟩ ⟨rfl, rfl⟩ (Nat.le_of_ble_eq_true rfl) fl_X1_19 (v := .int 0) (congrArg Value.int hi_1_2) dX1_enter_18 ?_
  refine lv_lload_n (pc := 21) C0.1 C0.2.1 dX1_enter_21 rfl (lv_at hl 1 rfl) ?_
  refine xlast (pc := 22) (N := 24) C0 (Nat.le_of_ble_eq_true rfl) hH hS 2 ⟨Nat.le_of_ble_eq_true rfl, Nat.le_of_ble_eq_true rfl⟩ ⟨rfl, rfl⟩ (vin (by decide)) dX1_enter_22 (fun _ locs hH hS => ?_)
  have hH : Hd D tA b 0 78 zz i F (va_up G 2 (vp_updL (G 2) (Int32.toNatClampNeg 0) a0_)) _ := hH
  refine lv_aload_n (pc := 23) C0.1 C0.2.1 dX1_enter_23 rfl (lv_at hl 0 rfl) ?_
  refine xget (pc := 24) C0 hH 1 1 clX1 ⟨Nat.le_of_ble_eq_true rfl, Nat.le_of_ble_eq_true rfl⟩ ⟨rfl, rfl⟩ (Nat.le_of_ble_eq_true rfl) fl_X1_15 (v := .ref (b + 3)) rfl dX1_enter_24 ?_
  refine lv_aload_n (pc := 27) C0.1 C0.2.1 dX1_enter_27 rfl (lv_at hl 0 rfl) ?_
  refine xget (pc := 28) C0 hH 1 2 clX1 ⟨Nat.le_of_ble_eq_true rfl, Nat.le_of_ble_eq_true rfl⟩ ⟨rfl, rfl⟩ (Nat.le_of_ble_eq_true rfl) fl_X1_19 (v := .int 0) (congrArg Value.int hi_1_2) dX1_enter_28 ?_
  refine lv_iload_n (pc := 31) C0.1 C0.2.1 dX1_enter_31 rfl (lv_at hl 2 rfl) ?_
  refine xiast (pc := 32) (N := 24) C0 (Nat.le_of_ble_eq_true rfl) hH hS 3 ⟨Nat.le_of_ble_eq_true rfl, Nat.le_of_ble_eq_true rfl⟩ ⟨rfl, rfl⟩ (vin (by decide)) dX1_enter_32 (fun _ locs hH hS _ => ?_)
  have hH : Hd D tA b 0 78 zz i (va_up F 3 (upd (F 3) (Int32.toNatClampNeg 0) 10)) (va_up G 2 (vp_updL (G 2) (Int32.toNatClampNeg 0) a0_)) _ := hH
  refine lv_aload_n (pc := 33) C0.1 C0.2.1 dX1_enter_33 rfl (lv_at hl 0 rfl) ?_
  refine lv_dup (pc := 34) C0.1 C0.2.1 dX1_enter_34 rfl ?_
  refine xget (pc := 35) C0 hH 1 2 clX1 ⟨Nat.le_of_ble_eq_true rfl, Nat.le_of_ble_eq_true rfl⟩ ⟨rfl, rfl⟩ (Nat.le_of_ble_eq_true rfl) fl_X1_19 (v := .int 0) (congrArg Value.int hi_1_2) dX1_enter_35 ?_
  refine lv_iconst (pc := 38) (v := 1) C0.1 C0.2.1 dX1_enter_38 (by decide) ?_
  refine lv_iadd (pc := 39) C0.1 C0.2.1 dX1_enter_39 ?_
  refine lv_topi (fun q1 eq1 => ?_)
  obtain rfl : q1 = 1 := eq1.trans (by decide)
  refine xputI (pc := 40) C0 (Nat.le_of_ble_eq_true rfl) hH hS 1 2 clX1 ⟨Nat.le_of_ble_eq_true rfl, Nat.le_of_ble_eq_true rfl⟩ ⟨rfl, rfl⟩ ⟨Nat.le_of_ble_eq_true rfl, rfl, rfl⟩ fl_X1_19 (x := 1) ⟨rfl, rfl⟩ dX1_enter_40 (fun _ locs hH hS _ => ?_)
  have hH : Hd D tA b 0 78 zz (up2 i 1 2 1) (va_up F 3 (upd (F 3) (Int32.toNatClampNeg 0) 10)) (va_up G 2 (vp_updL (G 2) (Int32.toNatClampNeg 0) a0_)) _ := hH
  exact xvret (pc := 43) C0 hr hH hS dX1_enter_43 rfl
set_option maxHeartbeats 4000000 in
set_option maxRecDepth 100000 in
theorem a31_X1_enter (l : Launch) (D : va_G) (tA : Nat → ClassId) (b : Nat) (i F : Nat → Nat → Int32) (G : Nat → Nat → Int64) (a0_ : Int64) (hi_1_2 : i 1 2 = 1) : xMV l yX1_enter cX1_enter 4 none 0 0 D tA b 0 78 i F G [.ref (b + 1), .long a0_, .int 20] (fun u => u = ((up2 i 1 2 2), (va_up F 3 (upd (F 3) (Int32.toNatClampNeg 1) 20)), (va_up G 2 (vp_updL (G 2) (Int32.toNatClampNeg 1) a0_)))) := by
  refine xstart RX1 rfl (by decide) (Nat.le_of_ble_eq_true rfl) ?_
  intro p e s m below meth c ls C0 hr hH hS hl
  have hl : lv_has ls 4 [(0, .ref (b + 1)), (1, .long a0_), (3, .int 20)] := hl
  refine lv_aload_n (pc := 0) C0.1 C0.2.1 dX1_enter_0 rfl (lv_at hl 0 rfl) ?_
  refine xget (pc := 1) C0 hH 1 2 clX1 ⟨Nat.le_of_ble_eq_true rfl, Nat.le_of_ble_eq_true rfl⟩ ⟨rfl, rfl⟩ (Nat.le_of_ble_eq_true rfl) fl_X1_19 (v := .int 1) (congrArg Value.int hi_1_2) dX1_enter_1 ?_
  refine lv_aload_n (pc := 4) C0.1 C0.2.1 dX1_enter_4 rfl (lv_at hl 0 rfl) ?_
  refine xget (pc := 5) C0 hH 1 0 clX1 ⟨Nat.le_of_ble_eq_true rfl, Nat.le_of_ble_eq_true rfl⟩ ⟨rfl, rfl⟩ (Nat.le_of_ble_eq_true rfl) fl_X1_9 (v := .ref (b + 2)) rfl dX1_enter_5 ?_
  refine xalen (pc := 8) (t := 53) C0 hH 2 ⟨Nat.le_of_ble_eq_true rfl, Nat.le_of_ble_eq_true rfl⟩ ⟨rfl, rfl⟩ (by decide) dX1_enter_8 ?_
  refine lv_icmp_lt (pc := 9) (tgt := 13) C0.1 C0.2.1 dX1_enter_9 (by decide) (fun _ => ?_) (fun c => absurd (by decide) c)
  refine lv_aload_n (pc := 13) C0.1 C0.2.1 dX1_enter_13 rfl (lv_at hl 0 rfl) ?_
  refine xget (pc := 14) C0 hH 1 0 clX1 ⟨Nat.le_of_ble_eq_true rfl, Nat.le_of_ble_eq_true rfl⟩ ⟨rfl, rfl⟩ (Nat.le_of_ble_eq_true rfl) fl_X1_9 (v := .ref (b + 2)) rfl dX1_enter_14 ?_
  refine lv_aload_n (pc := 17) C0.1 C0.2.1 dX1_enter_17 rfl (lv_at hl 0 rfl) ?_
  refine xget (pc := 18) C0 hH 1 2 clX1 ⟨Nat.le_of_ble_eq_true rfl, Nat.le_of_ble_eq_true rfl⟩ ⟨rfl, rfl⟩ (Nat.le_of_ble_eq_true rfl) fl_X1_19 (v := .int 1) (congrArg Value.int hi_1_2) dX1_enter_18 ?_
  refine lv_lload_n (pc := 21) C0.1 C0.2.1 dX1_enter_21 rfl (lv_at hl 1 rfl) ?_
  refine xlast (pc := 22) (N := 24) C0 (Nat.le_of_ble_eq_true rfl) hH hS 2 ⟨Nat.le_of_ble_eq_true rfl, Nat.le_of_ble_eq_true rfl⟩ ⟨rfl, rfl⟩ (vin (by decide)) dX1_enter_22 (fun _ locs hH hS => ?_)
  have hH : Hd D tA b 0 78 zz i F (va_up G 2 (vp_updL (G 2) (Int32.toNatClampNeg 1) a0_)) _ := hH
  refine lv_aload_n (pc := 23) C0.1 C0.2.1 dX1_enter_23 rfl (lv_at hl 0 rfl) ?_
  refine xget (pc := 24) C0 hH 1 1 clX1 ⟨Nat.le_of_ble_eq_true rfl, Nat.le_of_ble_eq_true rfl⟩ ⟨rfl, rfl⟩ (Nat.le_of_ble_eq_true rfl) fl_X1_15 (v := .ref (b + 3)) rfl dX1_enter_24 ?_
  refine lv_aload_n (pc := 27) C0.1 C0.2.1 dX1_enter_27 rfl (lv_at hl 0 rfl) ?_
  refine xget (pc := 28) C0 hH 1 2 clX1 ⟨Nat.le_of_ble_eq_true rfl, Nat.le_of_ble_eq_true rfl⟩ ⟨rfl, rfl⟩ (Nat.le_of_ble_eq_true rfl) fl_X1_19 (v := .int 1) (congrArg Value.int hi_1_2) dX1_enter_28 ?_
  refine lv_iload_n (pc := 31) C0.1 C0.2.1 dX1_enter_31 rfl (lv_at hl 2 rfl) ?_
  refine xiast (pc := 32) (N := 24) C0 (Nat.le_of_ble_eq_true rfl) hH hS 3 ⟨Nat.le_of_ble_eq_true rfl, Nat.le_of_ble_eq_true rfl⟩ ⟨rfl, rfl⟩ (vin (by decide)) dX1_enter_32 (fun _ locs hH hS _ => ?_)
  have hH : Hd D tA b 0 78 zz i (va_up F 3 (upd (F 3) (Int32.toNatClampNeg 1) 20)) (va_up G 2 (vp_updL (G 2) (Int32.toNatClampNeg 1) a0_)) _ := hH
  refine lv_aload_n (pc := 33) C0.1 C0.2.1 dX1_enter_33 rfl (lv_at hl 0 rfl) ?_
  refine lv_dup (pc := 34) C0.1 C0.2.1 dX1_enter_34 rfl ?_
  refine xget (pc := 35) C0 hH 1 2 clX1 ⟨Nat.le_of_ble_eq_true rfl, Nat.le_of_ble_eq_true rfl⟩ ⟨rfl, rfl⟩ (Nat.le_of_ble_eq_true rfl) fl_X1_19 (v := .int 1) (congrArg Value.int hi_1_2) dX1_enter_35 ?_
  refine lv_iconst (pc := 38) (v := 1) C0.1 C0.2.1 dX1_enter_38 (by decide) ?_
  refine lv_iadd (pc := 39) C0.1 C0.2.1 dX1_enter_39 ?_
  refine lv_topi (fun q1 eq1 => ?_)
  obtain rfl : q1 = 2 := eq1.trans (by decide)
  refine xputI (pc := 40) C0 (Nat.le_of_ble_eq_true rfl) hH hS 1 2 clX1 ⟨Nat.le_of_ble_eq_true rfl, Nat.le_of_ble_eq_true rfl⟩ ⟨rfl, rfl⟩ ⟨Nat.le_of_ble_eq_true rfl, rfl, rfl⟩ fl_X1_19 (x := 2) ⟨rfl, rfl⟩ dX1_enter_40 (fun _ locs hH hS _ => ?_)
  have hH : Hd D tA b 0 78 zz (up2 i 1 2 2) (va_up F 3 (upd (F 3) (Int32.toNatClampNeg 1) 20)) (va_up G 2 (vp_updL (G 2) (Int32.toNatClampNeg 1) a0_)) _ := hH
  exact xvret (pc := 43) C0 hr hH hS dX1_enter_43 rfl
set_option maxHeartbeats 4000000 in
set_option maxRecDepth 100000 in
theorem m27_X1_tellPair (l : Launch) (D : va_G) (tA : Nat → ClassId) (b : Nat) (i F : Nat → Nat → Int32) (G : Nat → Nat → Int64) (x y : Int32) (hi_1_2 : i 1 2 = 0) (hi_1_4 : i 1 4 = 0) : xMI l yX1_tellPair cX1_tellPair 3 (some .int) 5 112 D tA b 0 78 i F G [.ref (b + 1), .int x, .int y] (fun r _ => r = prS x y) := by
  refine xstart RX1 rfl (by decide) (Nat.le_of_ble_eq_true rfl) ?_
  intro p e s m below meth c ls C0 hr hH hS hl
  have hl : lv_has ls 3 [(0, .ref (b + 1)), (1, .int x), (2, .int y)] := hl
  refine lv_iload_n (pc := 0) C0.1 C0.2.1 dX1_tellPair_0 rfl (lv_at hl 1 rfl) ?_
  refine lv_i2l (pc := 1) (v := x.toInt64) C0.1 C0.2.1 dX1_tellPair_1 rfl ?_
  refine xcNI (pc := 2) [.long x.toInt64] (c_X9_isMark l D tA b 0 78 i F G x.toInt64) C0 hH hS cw_X1_31 st_X9_isMark rfl ⟨Nat.le_of_ble_eq_true rfl, Nat.le_of_ble_eq_true rfl⟩ hl.1 rfl (Nat.le_of_ble_eq_true rfl) dX1_tellPair_2 ⟨Nat.le_of_ble_eq_true rfl, Nat.le_of_ble_eq_true rfl⟩ (fun r1 ir1 Fr1 Gr1 _ locs hp hH hS => ?_)
  obtain ⟨hu, rfl⟩ := hp
  cases hu
  refine lv_if_eq (pc := 5) (tgt := 16) C0.1 C0.2.1 dX1_tellPair_5 (by decide) (fun c2 => ?_) (fun c2 => ?_)
  · refine lv_bipush (pc := 16) (v := (-2)) C0.1 C0.2.1 dX1_tellPair_16 (by decide) ?_
    exact xiret (pc := 18) C0 hr hH hS dX1_tellPair_18 (by unfold prS; rw [if_pos (by first | exact Or.inl (by assumption) | exact Or.inr (by assumption))])
  · refine lv_iload_n (pc := 8) C0.1 C0.2.1 dX1_tellPair_8 rfl (lv_at hl 2 rfl) ?_
    refine lv_i2l (pc := 9) (v := y.toInt64) C0.1 C0.2.1 dX1_tellPair_9 rfl ?_
    refine xcNI (pc := 10) [.long y.toInt64] (c_X9_isMark l D tA b 0 78 i F G y.toInt64) C0 hH hS cw_X1_31 st_X9_isMark rfl ⟨Nat.le_of_ble_eq_true rfl, Nat.le_of_ble_eq_true rfl⟩ hl.1 rfl (Nat.le_of_ble_eq_true rfl) dX1_tellPair_10 ⟨Nat.le_of_ble_eq_true rfl, Nat.le_of_ble_eq_true rfl⟩ (fun r3 ir3 Fr3 Gr3 _ locs hp hH hS => ?_)
    obtain ⟨hu, rfl⟩ := hp
    cases hu
    refine lv_if_ne (pc := 13) (tgt := 19) C0.1 C0.2.1 dX1_tellPair_13 (by decide) (fun c4 => ?_) (fun c4 => ?_)
    · refine lv_aload_n (pc := 19) C0.1 C0.2.1 dX1_tellPair_19 rfl (lv_at hl 0 rfl) ?_
      refine lv_iload_n (pc := 20) C0.1 C0.2.1 dX1_tellPair_20 rfl (lv_at hl 1 rfl) ?_
      refine lv_i2l (pc := 21) (v := x.toInt64) C0.1 C0.2.1 dX1_tellPair_21 rfl ?_
      refine xcVI (pc := 22) 1 [.long x.toInt64] (a28_X1_roleOf l D tA b i F G x.toInt64 (by exact hi_1_2)) C0 hH hS clX1 rfl ⟨⟨Nat.le_of_ble_eq_true rfl, Nat.le_of_ble_eq_true rfl⟩, rfl, rfl⟩ cw_X1_38 rfl ⟨Nat.le_of_ble_eq_true rfl, Nat.le_of_ble_eq_true rfl⟩ hl.1 rfl (Nat.le_of_ble_eq_true rfl) dX1_tellPair_22 ⟨Nat.le_of_ble_eq_true rfl, Nat.le_of_ble_eq_true rfl⟩ (fun r5 ir5 Fr5 Gr5 _ locs hp hH hS => ?_)
      obtain ⟨hu, rfl⟩ := hp
      cases hu
      refine lv_if_ne (pc := 25) (tgt := 42) C0.1 C0.2.1 dX1_tellPair_25 (by decide) (fun c => absurd (by decide) c) (fun _ => ?_)
      refine lv_aload_n (pc := 28) C0.1 C0.2.1 dX1_tellPair_28 rfl (lv_at hl 0 rfl) ?_
      refine lv_iload_n (pc := 29) C0.1 C0.2.1 dX1_tellPair_29 rfl (lv_at hl 2 rfl) ?_
      refine lv_i2l (pc := 30) (v := y.toInt64) C0.1 C0.2.1 dX1_tellPair_30 rfl ?_
      refine xcVI (pc := 31) 1 [.long y.toInt64] (a29_X1_roleOf l D tA b i F G y.toInt64 (by exact hi_1_2)) C0 hH hS clX1 rfl ⟨⟨Nat.le_of_ble_eq_true rfl, Nat.le_of_ble_eq_true rfl⟩, rfl, rfl⟩ cw_X1_38 rfl ⟨Nat.le_of_ble_eq_true rfl, Nat.le_of_ble_eq_true rfl⟩ hl.1 rfl (Nat.le_of_ble_eq_true rfl) dX1_tellPair_31 ⟨Nat.le_of_ble_eq_true rfl, Nat.le_of_ble_eq_true rfl⟩ (fun r6 ir6 Fr6 Gr6 _ locs hp hH hS => ?_)
      obtain ⟨hu, rfl⟩ := hp
      cases hu
      refine lv_if_ne (pc := 34) (tgt := 42) C0.1 C0.2.1 dX1_tellPair_34 (by decide) (fun c => absurd (by decide) c) (fun _ => ?_)
      refine lv_iload_n (pc := 37) C0.1 C0.2.1 dX1_tellPair_37 rfl (lv_at hl 1 rfl) ?_
      refine lv_iload_n (pc := 38) C0.1 C0.2.1 dX1_tellPair_38 rfl (lv_at hl 2 rfl) ?_
      refine lv_icmp_ne (pc := 39) (tgt := 45) C0.1 C0.2.1 dX1_tellPair_39 (by decide) (fun c7 => ?_) (fun c7 => ?_)
      · have c7 : ¬ _ := fun q => c7 (Int32.toInt_inj.mp q)
        refine lv_aload_n (pc := 45) C0.1 C0.2.1 dX1_tellPair_45 rfl (lv_at hl 0 rfl) ?_
        refine xget (pc := 46) C0 hH 1 4 clX1 ⟨Nat.le_of_ble_eq_true rfl, Nat.le_of_ble_eq_true rfl⟩ ⟨rfl, rfl⟩ (Nat.le_of_ble_eq_true rfl) fl_X1_49 (v := .int 0) (congrArg Value.int hi_1_4) dX1_tellPair_46 ?_
        refine lv_iconst (pc := 49) (v := 4) C0.1 C0.2.1 dX1_tellPair_49 (by decide) ?_
        refine lv_icmp_lt (pc := 50) (tgt := 56) C0.1 C0.2.1 dX1_tellPair_50 (by decide) (fun _ => ?_) (fun c => absurd (by decide) c)
        refine lv_aload_n (pc := 56) C0.1 C0.2.1 dX1_tellPair_56 rfl (lv_at hl 0 rfl) ?_
        refine lv_iload_n (pc := 57) C0.1 C0.2.1 dX1_tellPair_57 rfl (lv_at hl 1 rfl) ?_
        refine lv_i2l (pc := 58) (v := x.toInt64) C0.1 C0.2.1 dX1_tellPair_58 rfl ?_
        refine lv_bipush (pc := 59) (v := 10) C0.1 C0.2.1 dX1_tellPair_59 (by decide) ?_
        refine lv_aload_n (pc := 61) C0.1 C0.2.1 dX1_tellPair_61 rfl (lv_at hl 0 rfl) ?_
        refine xget (pc := 62) C0 hH 1 4 clX1 ⟨Nat.le_of_ble_eq_true rfl, Nat.le_of_ble_eq_true rfl⟩ ⟨rfl, rfl⟩ (Nat.le_of_ble_eq_true rfl) fl_X1_49 (v := .int 0) (congrArg Value.int hi_1_4) dX1_tellPair_62 ?_
        refine lv_iadd (pc := 65) C0.1 C0.2.1 dX1_tellPair_65 ?_
        refine lv_topi (fun q8 eq8 => ?_)
        obtain rfl : q8 = 10 := eq8.trans (by decide)
        refine xcVV (pc := 66) 1 [.long x.toInt64, .int 10] (a30_X1_enter l D tA b i F G x.toInt64 (by exact hi_1_2)) C0 hH hS clX1 rfl ⟨⟨Nat.le_of_ble_eq_true rfl, Nat.le_of_ble_eq_true rfl⟩, rfl, rfl⟩ cw_X1_45 rfl ⟨Nat.le_of_ble_eq_true rfl, Nat.le_of_ble_eq_true rfl⟩ hl.1 rfl (Nat.le_of_ble_eq_true rfl) dX1_tellPair_66 ⟨Nat.le_of_ble_eq_true rfl, Nat.le_of_ble_eq_true rfl⟩ (fun ir9 Fr9 Gr9 _ locs hp hH hS => ?_)
        cases hp
        have hH : Hd D tA b 0 78 zz (up2 i 1 2 1) (va_up F 3 (upd (F 3) (Int32.toNatClampNeg 0) 10)) (va_up G 2 (vp_updL (G 2) (Int32.toNatClampNeg 0) x.toInt64)) _ := hH
        refine lv_aload_n (pc := 69) C0.1 C0.2.1 dX1_tellPair_69 rfl (lv_at hl 0 rfl) ?_
        refine lv_iload_n (pc := 70) C0.1 C0.2.1 dX1_tellPair_70 rfl (lv_at hl 2 rfl) ?_
        refine lv_i2l (pc := 71) (v := y.toInt64) C0.1 C0.2.1 dX1_tellPair_71 rfl ?_
        refine lv_bipush (pc := 72) (v := 20) C0.1 C0.2.1 dX1_tellPair_72 (by decide) ?_
        refine lv_aload_n (pc := 74) C0.1 C0.2.1 dX1_tellPair_74 rfl (lv_at hl 0 rfl) ?_
        refine xget (pc := 75) C0 hH 1 4 clX1 ⟨Nat.le_of_ble_eq_true rfl, Nat.le_of_ble_eq_true rfl⟩ ⟨rfl, rfl⟩ (Nat.le_of_ble_eq_true rfl) fl_X1_49 (v := .int 0) (congrArg Value.int hi_1_4) dX1_tellPair_75 ?_
        refine lv_iadd (pc := 78) C0.1 C0.2.1 dX1_tellPair_78 ?_
        refine lv_topi (fun q10 eq10 => ?_)
        obtain rfl : q10 = 20 := eq10.trans (by decide)
        refine xcVV (pc := 79) 1 [.long y.toInt64, .int 20] (a31_X1_enter l D tA b (up2 i 1 2 1) (va_up F 3 (upd (F 3) (Int32.toNatClampNeg 0) 10)) (va_up G 2 (vp_updL (G 2) (Int32.toNatClampNeg 0) x.toInt64)) y.toInt64 (by exact rfl)) C0 hH hS clX1 rfl ⟨⟨Nat.le_of_ble_eq_true rfl, Nat.le_of_ble_eq_true rfl⟩, rfl, rfl⟩ cw_X1_45 rfl ⟨Nat.le_of_ble_eq_true rfl, Nat.le_of_ble_eq_true rfl⟩ hl.1 rfl (Nat.le_of_ble_eq_true rfl) dX1_tellPair_79 ⟨Nat.le_of_ble_eq_true rfl, Nat.le_of_ble_eq_true rfl⟩ (fun ir11 Fr11 Gr11 _ locs hp hH hS => ?_)
        cases hp
        have hH : Hd D tA b 0 78 zz (up2 (up2 i 1 2 1) 1 2 2) (va_up (va_up F 3 (upd (F 3) (Int32.toNatClampNeg 0) 10)) 3 (upd (upd (F 3) (Int32.toNatClampNeg 0) 10) (Int32.toNatClampNeg 1) 20)) (va_up (va_up G 2 (vp_updL (G 2) (Int32.toNatClampNeg 0) x.toInt64)) 2 (vp_updL (vp_updL (G 2) (Int32.toNatClampNeg 0) x.toInt64) (Int32.toNatClampNeg 1) y.toInt64)) _ := hH
        refine lv_aload_n (pc := 82) C0.1 C0.2.1 dX1_tellPair_82 rfl (lv_at hl 0 rfl) ?_
        refine lv_dup (pc := 83) C0.1 C0.2.1 dX1_tellPair_83 rfl ?_
        refine xget (pc := 84) C0 hH 1 4 clX1 ⟨Nat.le_of_ble_eq_true rfl, Nat.le_of_ble_eq_true rfl⟩ ⟨rfl, rfl⟩ (Nat.le_of_ble_eq_true rfl) fl_X1_49 (v := .int 0) (congrArg Value.int hi_1_4) dX1_tellPair_84 ?_
        refine lv_iconst (pc := 87) (v := 1) C0.1 C0.2.1 dX1_tellPair_87 (by decide) ?_
        refine lv_iadd (pc := 88) C0.1 C0.2.1 dX1_tellPair_88 ?_
        refine lv_topi (fun q12 eq12 => ?_)
        obtain rfl : q12 = 1 := eq12.trans (by decide)
        refine xputI (pc := 89) C0 (Nat.le_of_ble_eq_true rfl) hH hS 1 4 clX1 ⟨Nat.le_of_ble_eq_true rfl, Nat.le_of_ble_eq_true rfl⟩ ⟨rfl, rfl⟩ ⟨Nat.le_of_ble_eq_true rfl, rfl, rfl⟩ fl_X1_49 (x := 1) ⟨rfl, rfl⟩ dX1_tellPair_89 (fun _ locs hH hS _ => ?_)
        have hH : Hd D tA b 0 78 zz (up2 (up2 (up2 i 1 2 1) 1 2 2) 1 4 1) (va_up (va_up F 3 (upd (F 3) (Int32.toNatClampNeg 0) 10)) 3 (upd (upd (F 3) (Int32.toNatClampNeg 0) 10) (Int32.toNatClampNeg 1) 20)) (va_up (va_up G 2 (vp_updL (G 2) (Int32.toNatClampNeg 0) x.toInt64)) 2 (vp_updL (vp_updL (G 2) (Int32.toNatClampNeg 0) x.toInt64) (Int32.toNatClampNeg 1) y.toInt64)) _ := hH
        refine lv_aload_n (pc := 92) C0.1 C0.2.1 dX1_tellPair_92 rfl (lv_at hl 0 rfl) ?_
        refine xget (pc := 93) C0 hH 1 4 clX1 ⟨Nat.le_of_ble_eq_true rfl, Nat.le_of_ble_eq_true rfl⟩ ⟨rfl, rfl⟩ (Nat.le_of_ble_eq_true rfl) fl_X1_49 (v := .int 1) rfl dX1_tellPair_93 ?_
        exact xiret (pc := 96) C0 hr hH hS dX1_tellPair_96 (by unfold prS; rw [if_neg (fun q => q.elim (fun q => absurd q (by assumption)) (fun q => absurd q (by assumption))), if_neg (by first | assumption | exact Nei (by assumption))])
      · have c7 := congrArg Int32.toInt c7
        refine lv_bipush (pc := 42) (v := (-3)) C0.1 C0.2.1 dX1_tellPair_42 (by decide) ?_
        exact xiret (pc := 44) C0 hr hH hS dX1_tellPair_44 (by unfold prS; rw [if_neg (fun q => q.elim (fun q => absurd q (by assumption)) (fun q => absurd q (by assumption))), if_pos (by first | assumption | exact Int32.toInt_inj.mp (by assumption))])
    · refine lv_bipush (pc := 16) (v := (-2)) C0.1 C0.2.1 dX1_tellPair_16 (by decide) ?_
      exact xiret (pc := 18) C0 hr hH hS dX1_tellPair_18 (by unfold prS; rw [if_pos (by first | exact Or.inl (by assumption) | exact Or.inr (by assumption))])
set_option maxHeartbeats 4000000 in
set_option maxRecDepth 100000 in
theorem a33_X1_roleOf (l : Launch) (D : va_G) (tA : Nat → ClassId) (b : Nat) (i F : Nat → Nat → Int32) (G : Nat → Nat → Int64) (a0_ : Int64) (hi_1_2 : i 1 2 = 0) : xMI l yX1_roleOf cX1_roleOf 4 (some .int) 0 0 D tA b 0 78 i F G [.ref (b + 1), .long a0_] (fun r u => u = (i, F, G) ∧ r = 0) := by
  refine xstart RX1 rfl (by decide) (Nat.le_of_ble_eq_true rfl) ?_
  intro p e s m below meth c ls C0 hr hH hS hl
  have hl : lv_has ls 4 [(0, .ref (b + 1)), (1, .long a0_)] := hl
  refine lv_iconst (pc := 0) (v := 0) C0.1 C0.2.1 dX1_roleOf_0 (by decide) ?_
  refine lv_istore_n (pc := 1) (lv' := [(3, .int 0), (0, .ref (b + 1)), (1, .long a0_)]) C0.1 C0.2.1 dX1_roleOf_1 rfl hl (by decide) rfl (fun ls hl => ?_)
  refine lv_iload_n (pc := 2) C0.1 C0.2.1 dX1_roleOf_2 rfl (lv_at hl 0 rfl) ?_
  refine lv_aload_n (pc := 3) C0.1 C0.2.1 dX1_roleOf_3 rfl (lv_at hl 1 rfl) ?_
  refine xget (pc := 4) C0 hH 1 2 clX1 ⟨Nat.le_of_ble_eq_true rfl, Nat.le_of_ble_eq_true rfl⟩ ⟨rfl, rfl⟩ (Nat.le_of_ble_eq_true rfl) fl_X1_19 (v := .int 0) (congrArg Value.int hi_1_2) dX1_roleOf_4 ?_
  refine lv_icmp_ge (pc := 7) (tgt := 34) C0.1 C0.2.1 dX1_roleOf_7 (by decide) (fun _ => ?_) (fun c => absurd (by decide) c)
  refine lv_iconst (pc := 34) (v := 0) C0.1 C0.2.1 dX1_roleOf_34 (by decide) ?_
  exact xiret (pc := 35) C0 hr hH hS dX1_roleOf_35 ⟨rfl, rfl⟩
set_option maxHeartbeats 4000000 in
set_option maxRecDepth 100000 in
theorem a34_X1_enter (l : Launch) (D : va_G) (tA : Nat → ClassId) (b : Nat) (i F : Nat → Nat → Int32) (G : Nat → Nat → Int64) (a0_ : Int64) (hi_1_2 : i 1 2 = 0) : xMV l yX1_enter cX1_enter 4 none 0 0 D tA b 0 78 i F G [.ref (b + 1), .long a0_, .int 7] (fun u => u = ((up2 i 1 2 1), (va_up F 3 (upd (F 3) (Int32.toNatClampNeg 0) 7)), (va_up G 2 (vp_updL (G 2) (Int32.toNatClampNeg 0) a0_)))) := by
  refine xstart RX1 rfl (by decide) (Nat.le_of_ble_eq_true rfl) ?_
  intro p e s m below meth c ls C0 hr hH hS hl
  have hl : lv_has ls 4 [(0, .ref (b + 1)), (1, .long a0_), (3, .int 7)] := hl
  refine lv_aload_n (pc := 0) C0.1 C0.2.1 dX1_enter_0 rfl (lv_at hl 0 rfl) ?_
  refine xget (pc := 1) C0 hH 1 2 clX1 ⟨Nat.le_of_ble_eq_true rfl, Nat.le_of_ble_eq_true rfl⟩ ⟨rfl, rfl⟩ (Nat.le_of_ble_eq_true rfl) fl_X1_19 (v := .int 0) (congrArg Value.int hi_1_2) dX1_enter_1 ?_
  refine lv_aload_n (pc := 4) C0.1 C0.2.1 dX1_enter_4 rfl (lv_at hl 0 rfl) ?_
  refine xget (pc := 5) C0 hH 1 0 clX1 ⟨Nat.le_of_ble_eq_true rfl, Nat.le_of_ble_eq_true rfl⟩ ⟨rfl, rfl⟩ (Nat.le_of_ble_eq_true rfl) fl_X1_9 (v := .ref (b + 2)) rfl dX1_enter_5 ?_
  refine xalen (pc := 8) (t := 53) C0 hH 2 ⟨Nat.le_of_ble_eq_true rfl, Nat.le_of_ble_eq_true rfl⟩ ⟨rfl, rfl⟩ (by decide) dX1_enter_8 ?_
  refine lv_icmp_lt (pc := 9) (tgt := 13) C0.1 C0.2.1 dX1_enter_9 (by decide) (fun _ => ?_) (fun c => absurd (by decide) c)
  refine lv_aload_n (pc := 13) C0.1 C0.2.1 dX1_enter_13 rfl (lv_at hl 0 rfl) ?_
  refine xget (pc := 14) C0 hH 1 0 clX1 ⟨Nat.le_of_ble_eq_true rfl, Nat.le_of_ble_eq_true rfl⟩ ⟨rfl, rfl⟩ (Nat.le_of_ble_eq_true rfl) fl_X1_9 (v := .ref (b + 2)) rfl dX1_enter_14 ?_
  refine lv_aload_n (pc := 17) C0.1 C0.2.1 dX1_enter_17 rfl (lv_at hl 0 rfl) ?_
  refine xget (pc := 18) C0 hH 1 2 clX1 ⟨Nat.le_of_ble_eq_true rfl, Nat.le_of_ble_eq_true rfl⟩ ⟨rfl, rfl⟩ (Nat.le_of_ble_eq_true rfl) fl_X1_19 (v := .int 0) (congrArg Value.int hi_1_2) dX1_enter_18 ?_
  refine lv_lload_n (pc := 21) C0.1 C0.2.1 dX1_enter_21 rfl (lv_at hl 1 rfl) ?_
  refine xlast (pc := 22) (N := 24) C0 (Nat.le_of_ble_eq_true rfl) hH hS 2 ⟨Nat.le_of_ble_eq_true rfl, Nat.le_of_ble_eq_true rfl⟩ ⟨rfl, rfl⟩ (vin (by decide)) dX1_enter_22 (fun _ locs hH hS => ?_)
  have hH : Hd D tA b 0 78 zz i F (va_up G 2 (vp_updL (G 2) (Int32.toNatClampNeg 0) a0_)) _ := hH
  refine lv_aload_n (pc := 23) C0.1 C0.2.1 dX1_enter_23 rfl (lv_at hl 0 rfl) ?_
  refine xget (pc := 24) C0 hH 1 1 clX1 ⟨Nat.le_of_ble_eq_true rfl, Nat.le_of_ble_eq_true rfl⟩ ⟨rfl, rfl⟩ (Nat.le_of_ble_eq_true rfl) fl_X1_15 (v := .ref (b + 3)) rfl dX1_enter_24 ?_
  refine lv_aload_n (pc := 27) C0.1 C0.2.1 dX1_enter_27 rfl (lv_at hl 0 rfl) ?_
  refine xget (pc := 28) C0 hH 1 2 clX1 ⟨Nat.le_of_ble_eq_true rfl, Nat.le_of_ble_eq_true rfl⟩ ⟨rfl, rfl⟩ (Nat.le_of_ble_eq_true rfl) fl_X1_19 (v := .int 0) (congrArg Value.int hi_1_2) dX1_enter_28 ?_
  refine lv_iload_n (pc := 31) C0.1 C0.2.1 dX1_enter_31 rfl (lv_at hl 2 rfl) ?_
  refine xiast (pc := 32) (N := 24) C0 (Nat.le_of_ble_eq_true rfl) hH hS 3 ⟨Nat.le_of_ble_eq_true rfl, Nat.le_of_ble_eq_true rfl⟩ ⟨rfl, rfl⟩ (vin (by decide)) dX1_enter_32 (fun _ locs hH hS _ => ?_)
  have hH : Hd D tA b 0 78 zz i (va_up F 3 (upd (F 3) (Int32.toNatClampNeg 0) 7)) (va_up G 2 (vp_updL (G 2) (Int32.toNatClampNeg 0) a0_)) _ := hH
  refine lv_aload_n (pc := 33) C0.1 C0.2.1 dX1_enter_33 rfl (lv_at hl 0 rfl) ?_
  refine lv_dup (pc := 34) C0.1 C0.2.1 dX1_enter_34 rfl ?_
  refine xget (pc := 35) C0 hH 1 2 clX1 ⟨Nat.le_of_ble_eq_true rfl, Nat.le_of_ble_eq_true rfl⟩ ⟨rfl, rfl⟩ (Nat.le_of_ble_eq_true rfl) fl_X1_19 (v := .int 0) (congrArg Value.int hi_1_2) dX1_enter_35 ?_
  refine lv_iconst (pc := 38) (v := 1) C0.1 C0.2.1 dX1_enter_38 (by decide) ?_
  refine lv_iadd (pc := 39) C0.1 C0.2.1 dX1_enter_39 ?_
  refine lv_topi (fun q1 eq1 => ?_)
  obtain rfl : q1 = 1 := eq1.trans (by decide)
  refine xputI (pc := 40) C0 (Nat.le_of_ble_eq_true rfl) hH hS 1 2 clX1 ⟨Nat.le_of_ble_eq_true rfl, Nat.le_of_ble_eq_true rfl⟩ ⟨rfl, rfl⟩ ⟨Nat.le_of_ble_eq_true rfl, rfl, rfl⟩ fl_X1_19 (x := 1) ⟨rfl, rfl⟩ dX1_enter_40 (fun _ locs hH hS _ => ?_)
  have hH : Hd D tA b 0 78 zz (up2 i 1 2 1) (va_up F 3 (upd (F 3) (Int32.toNatClampNeg 0) 7)) (va_up G 2 (vp_updL (G 2) (Int32.toNatClampNeg 0) a0_)) _ := hH
  exact xvret (pc := 43) C0 hr hH hS dX1_enter_43 rfl
set_option maxHeartbeats 4000000 in
set_option maxRecDepth 100000 in
theorem m32_X1_tellGoer (l : Launch) (D : va_G) (tA : Nat → ClassId) (b : Nat) (i F : Nat → Nat → Int32) (G : Nat → Nat → Int64) (x : Int32) (hi_1_2 : i 1 2 = 0) (hi_1_6 : i 1 6 = 0) : xMI l yX1_tellGoer cX1_tellGoer 2 (some .int) 5 112 D tA b 0 78 i F G [.ref (b + 1), .int x] (fun r _ => r = goS x) := by
  refine xstart RX1 rfl (by decide) (Nat.le_of_ble_eq_true rfl) ?_
  intro p e s m below meth c ls C0 hr hH hS hl
  have hl : lv_has ls 2 [(0, .ref (b + 1)), (1, .int x)] := hl
  refine lv_iload_n (pc := 0) C0.1 C0.2.1 dX1_tellGoer_0 rfl (lv_at hl 1 rfl) ?_
  refine lv_i2l (pc := 1) (v := x.toInt64) C0.1 C0.2.1 dX1_tellGoer_1 rfl ?_
  refine xcNI (pc := 2) [.long x.toInt64] (c_X9_isMark l D tA b 0 78 i F G x.toInt64) C0 hH hS cw_X1_31 st_X9_isMark rfl ⟨Nat.le_of_ble_eq_true rfl, Nat.le_of_ble_eq_true rfl⟩ hl.1 rfl (Nat.le_of_ble_eq_true rfl) dX1_tellGoer_2 ⟨Nat.le_of_ble_eq_true rfl, Nat.le_of_ble_eq_true rfl⟩ (fun r1 ir1 Fr1 Gr1 _ locs hp hH hS => ?_)
  obtain ⟨hu, rfl⟩ := hp
  cases hu
  refine lv_if_ne (pc := 5) (tgt := 11) C0.1 C0.2.1 dX1_tellGoer_5 (by decide) (fun c2 => ?_) (fun c2 => ?_)
  · refine lv_aload_n (pc := 11) C0.1 C0.2.1 dX1_tellGoer_11 rfl (lv_at hl 0 rfl) ?_
    refine lv_iload_n (pc := 12) C0.1 C0.2.1 dX1_tellGoer_12 rfl (lv_at hl 1 rfl) ?_
    refine lv_i2l (pc := 13) (v := x.toInt64) C0.1 C0.2.1 dX1_tellGoer_13 rfl ?_
    refine xcVI (pc := 14) 1 [.long x.toInt64] (a33_X1_roleOf l D tA b i F G x.toInt64 (by exact hi_1_2)) C0 hH hS clX1 rfl ⟨⟨Nat.le_of_ble_eq_true rfl, Nat.le_of_ble_eq_true rfl⟩, rfl, rfl⟩ cw_X1_38 rfl ⟨Nat.le_of_ble_eq_true rfl, Nat.le_of_ble_eq_true rfl⟩ hl.1 rfl (Nat.le_of_ble_eq_true rfl) dX1_tellGoer_14 ⟨Nat.le_of_ble_eq_true rfl, Nat.le_of_ble_eq_true rfl⟩ (fun r3 ir3 Fr3 Gr3 _ locs hp hH hS => ?_)
    obtain ⟨hu, rfl⟩ := hp
    cases hu
    refine lv_if_eq (pc := 17) (tgt := 23) C0.1 C0.2.1 dX1_tellGoer_17 (by decide) (fun _ => ?_) (fun c => absurd (by decide) c)
    refine lv_aload_n (pc := 23) C0.1 C0.2.1 dX1_tellGoer_23 rfl (lv_at hl 0 rfl) ?_
    refine xget (pc := 24) C0 hH 1 6 clX1 ⟨Nat.le_of_ble_eq_true rfl, Nat.le_of_ble_eq_true rfl⟩ ⟨rfl, rfl⟩ (Nat.le_of_ble_eq_true rfl) fl_X1_55 (v := .int 0) (congrArg Value.int hi_1_6) dX1_tellGoer_24 ?_
    refine lv_iconst (pc := 27) (v := 4) C0.1 C0.2.1 dX1_tellGoer_27 (by decide) ?_
    refine lv_icmp_lt (pc := 28) (tgt := 34) C0.1 C0.2.1 dX1_tellGoer_28 (by decide) (fun _ => ?_) (fun c => absurd (by decide) c)
    refine lv_aload_n (pc := 34) C0.1 C0.2.1 dX1_tellGoer_34 rfl (lv_at hl 0 rfl) ?_
    refine lv_iload_n (pc := 35) C0.1 C0.2.1 dX1_tellGoer_35 rfl (lv_at hl 1 rfl) ?_
    refine lv_i2l (pc := 36) (v := x.toInt64) C0.1 C0.2.1 dX1_tellGoer_36 rfl ?_
    refine lv_bipush (pc := 37) (v := 7) C0.1 C0.2.1 dX1_tellGoer_37 (by decide) ?_
    refine xcVV (pc := 39) 1 [.long x.toInt64, .int 7] (a34_X1_enter l D tA b i F G x.toInt64 (by exact hi_1_2)) C0 hH hS clX1 rfl ⟨⟨Nat.le_of_ble_eq_true rfl, Nat.le_of_ble_eq_true rfl⟩, rfl, rfl⟩ cw_X1_45 rfl ⟨Nat.le_of_ble_eq_true rfl, Nat.le_of_ble_eq_true rfl⟩ hl.1 rfl (Nat.le_of_ble_eq_true rfl) dX1_tellGoer_39 ⟨Nat.le_of_ble_eq_true rfl, Nat.le_of_ble_eq_true rfl⟩ (fun ir4 Fr4 Gr4 _ locs hp hH hS => ?_)
    cases hp
    have hH : Hd D tA b 0 78 zz (up2 i 1 2 1) (va_up F 3 (upd (F 3) (Int32.toNatClampNeg 0) 7)) (va_up G 2 (vp_updL (G 2) (Int32.toNatClampNeg 0) x.toInt64)) _ := hH
    refine lv_aload_n (pc := 42) C0.1 C0.2.1 dX1_tellGoer_42 rfl (lv_at hl 0 rfl) ?_
    refine lv_dup (pc := 43) C0.1 C0.2.1 dX1_tellGoer_43 rfl ?_
    refine xget (pc := 44) C0 hH 1 6 clX1 ⟨Nat.le_of_ble_eq_true rfl, Nat.le_of_ble_eq_true rfl⟩ ⟨rfl, rfl⟩ (Nat.le_of_ble_eq_true rfl) fl_X1_55 (v := .int 0) (congrArg Value.int hi_1_6) dX1_tellGoer_44 ?_
    refine lv_iconst (pc := 47) (v := 1) C0.1 C0.2.1 dX1_tellGoer_47 (by decide) ?_
    refine lv_iadd (pc := 48) C0.1 C0.2.1 dX1_tellGoer_48 ?_
    refine lv_topi (fun q5 eq5 => ?_)
    obtain rfl : q5 = 1 := eq5.trans (by decide)
    refine xputI (pc := 49) C0 (Nat.le_of_ble_eq_true rfl) hH hS 1 6 clX1 ⟨Nat.le_of_ble_eq_true rfl, Nat.le_of_ble_eq_true rfl⟩ ⟨rfl, rfl⟩ ⟨Nat.le_of_ble_eq_true rfl, rfl, rfl⟩ fl_X1_55 (x := 1) ⟨rfl, rfl⟩ dX1_tellGoer_49 (fun _ locs hH hS _ => ?_)
    have hH : Hd D tA b 0 78 zz (up2 (up2 i 1 2 1) 1 6 1) (va_up F 3 (upd (F 3) (Int32.toNatClampNeg 0) 7)) (va_up G 2 (vp_updL (G 2) (Int32.toNatClampNeg 0) x.toInt64)) _ := hH
    refine lv_aload_n (pc := 52) C0.1 C0.2.1 dX1_tellGoer_52 rfl (lv_at hl 0 rfl) ?_
    refine xget (pc := 53) C0 hH 1 6 clX1 ⟨Nat.le_of_ble_eq_true rfl, Nat.le_of_ble_eq_true rfl⟩ ⟨rfl, rfl⟩ (Nat.le_of_ble_eq_true rfl) fl_X1_55 (v := .int 1) rfl dX1_tellGoer_53 ?_
    exact xiret (pc := 56) C0 hr hH hS dX1_tellGoer_56 (by unfold goS; rw [if_neg (by assumption)])
  · refine lv_bipush (pc := 8) (v := (-2)) C0.1 C0.2.1 dX1_tellGoer_8 (by decide) ?_
    exact xiret (pc := 10) C0 hr hH hS dX1_tellGoer_10 (by unfold goS; rw [if_pos (by assumption)])
