set_option maxRecDepth 20000 in
theorem cw_X10_195 : CwS RX10 195 yX10_told cX10_told 8 (some .long) 1 := ⟨wm 1266 (by decide +kernel) rfl, wm 1267 (by decide +kernel) rfl, wm 11 (by decide +kernel) rfl, wm 1268 rfl rfl, by decide +kernel⟩
set_option maxRecDepth 20000 in
theorem cw_X10_199 : CwS RX10 199 yX10_isWord cX10_isWord 5 (some .boolean) 1 := ⟨wm 1270 (by decide +kernel) rfl, wm 1271 (by decide +kernel) rfl, wm 11 (by decide +kernel) rfl, wm 1272 rfl rfl, by decide +kernel⟩
set_option maxRecDepth 20000 in
theorem kl_X10_206 : Cond.constantLong RX10 206 3 ∈ WALL := wm 1285 (by decide +kernel) rfl
set_option maxRecDepth 20000 in
theorem cw_X10_208 : CwV RX10 208 yX10_isTold cX10_isTold 5 (some .boolean) 1 := ⟨wm 1286 (by decide +kernel) rfl, wm 1288 (by decide +kernel) rfl, wms 36 (by decide +kernel) rfl, wm 11 (by decide +kernel) rfl, wm 1289 rfl rfl, by decide +kernel⟩
set_option maxRecDepth 20000 in
theorem cw_X10_203 : CwS RX10 203 yX10_isOneMark cX10_isOneMark 2 (some .boolean) 1 := ⟨wm 1276 (by decide +kernel) rfl, wm 1277 (by decide +kernel) rfl, wm 11 (by decide +kernel) rfl, wm 1278 rfl rfl, by decide +kernel⟩
set_option maxRecDepth 20000 in
theorem kl_X10_214 : Cond.constantLong RX10 214 8 ∈ WALL := wm 1306 (by decide +kernel) rfl
set_option maxRecDepth 20000 in
theorem fl_X10_216 : Cond.fieldLink RX10 216 (TX10 10).1 (TX10 10).2.1 (TX10 10).2.2.1 ∈ WALL := wm 1034 (by decide +kernel) rfl
theorem dX10_opener_0 : decode cX10_opener 0 = .ok (.lload_n 1, 1) := by decide +kernel
theorem dX10_opener_1 : decode cX10_opener 1 = .ok (.invokestatic 195, 3) := by decide +kernel
theorem dX10_opener_4 : decode cX10_opener 4 = .ok (.lstore 4, 2) := by decide +kernel
theorem dX10_opener_6 : decode cX10_opener 6 = .ok (.lload 4, 2) := by decide +kernel
theorem dX10_opener_8 : decode cX10_opener 8 = .ok (.invokestatic 199, 3) := by decide +kernel
theorem dX10_opener_11 : decode cX10_opener 11 = .ok (.ifCond .ne 11, 3) := by decide +kernel
theorem dX10_opener_22 : decode cX10_opener 22 = .ok (.iload_n 3, 1) := by decide +kernel
theorem dX10_opener_23 : decode cX10_opener 23 = .ok (.i2l, 1) := by decide +kernel
theorem dX10_opener_24 : decode cX10_opener 24 = .ok (.lconst 1, 1) := by decide +kernel
theorem dX10_opener_25 : decode cX10_opener 25 = .ok (.ldc2_w 206, 3) := by decide +kernel
theorem dX10_opener_28 : decode cX10_opener 28 = .ok (.invokestatic 175, 3) := by decide +kernel
theorem dX10_opener_31 : decode cX10_opener 31 = .ok (.ifCond .ne 11, 3) := by decide +kernel
theorem dX10_opener_42 : decode cX10_opener 42 = .ok (.aload_n 0, 1) := by decide +kernel
theorem dX10_opener_43 : decode cX10_opener 43 = .ok (.lload 4, 2) := by decide +kernel
theorem dX10_opener_45 : decode cX10_opener 45 = .ok (.invokevirtual 208, 3) := by decide +kernel
theorem dX10_opener_48 : decode cX10_opener 48 = .ok (.ifCond .eq 6, 3) := by decide +kernel
theorem dX10_opener_54 : decode cX10_opener 54 = .ok (.aload_n 0, 1) := by decide +kernel
theorem dX10_opener_55 : decode cX10_opener 55 = .ok (.getfield 182, 3) := by decide +kernel
theorem dX10_opener_58 : decode cX10_opener 58 = .ok (.bipush 8, 2) := by decide +kernel
theorem dX10_opener_60 : decode cX10_opener 60 = .ok (.if_icmp .ne 6, 3) := by decide +kernel
theorem dX10_opener_66 : decode cX10_opener 66 = .ok (.aload_n 0, 1) := by decide +kernel
theorem dX10_opener_67 : decode cX10_opener 67 = .ok (.getfield 7, 3) := by decide +kernel
theorem dX10_opener_70 : decode cX10_opener 70 = .ok (.aload_n 0, 1) := by decide +kernel
theorem dX10_opener_71 : decode cX10_opener 71 = .ok (.getfield 182, 3) := by decide +kernel
theorem dX10_opener_74 : decode cX10_opener 74 = .ok (.lload 4, 2) := by decide +kernel
theorem dX10_opener_76 : decode cX10_opener 76 = .ok (.lastore, 1) := by decide +kernel
theorem dX10_opener_77 : decode cX10_opener 77 = .ok (.aload_n 0, 1) := by decide +kernel
theorem dX10_opener_78 : decode cX10_opener 78 = .ok (.getfield 13, 3) := by decide +kernel
theorem dX10_opener_81 : decode cX10_opener 81 = .ok (.aload_n 0, 1) := by decide +kernel
theorem dX10_opener_82 : decode cX10_opener 82 = .ok (.getfield 182, 3) := by decide +kernel
theorem dX10_opener_85 : decode cX10_opener 85 = .ok (.iload_n 3, 1) := by decide +kernel
theorem dX10_opener_86 : decode cX10_opener 86 = .ok (.iastore, 1) := by decide +kernel
theorem dX10_opener_87 : decode cX10_opener 87 = .ok (.aload_n 0, 1) := by decide +kernel
theorem dX10_opener_88 : decode cX10_opener 88 = .ok (.dup, 1) := by decide +kernel
theorem dX10_opener_89 : decode cX10_opener 89 = .ok (.getfield 182, 3) := by decide +kernel
theorem dX10_opener_92 : decode cX10_opener 92 = .ok (.iconst 1, 1) := by decide +kernel
theorem dX10_opener_93 : decode cX10_opener 93 = .ok (.iadd, 1) := by decide +kernel
theorem dX10_opener_94 : decode cX10_opener 94 = .ok (.putfield 182, 3) := by decide +kernel
theorem dX10_opener_97 : decode cX10_opener 97 = .ok (.aload_n 0, 1) := by decide +kernel
theorem dX10_opener_98 : decode cX10_opener 98 = .ok (.iconst 0, 1) := by decide +kernel
theorem dX10_opener_99 : decode cX10_opener 99 = .ok (.putfield 211, 3) := by decide +kernel
theorem dX10_opener_102 : decode cX10_opener 102 = .ok (.aload_n 0, 1) := by decide +kernel
theorem dX10_opener_103 : decode cX10_opener 103 = .ok (.getfield 182, 3) := by decide +kernel
theorem dX10_opener_106 : decode cX10_opener 106 = .ok (.ireturn, 1) := by decide +kernel
theorem dX10_opener_63 : decode cX10_opener 63 = .ok (.bipush (-4), 2) := by decide +kernel
theorem dX10_opener_65 : decode cX10_opener 65 = .ok (.ireturn, 1) := by decide +kernel
theorem dX10_opener_51 : decode cX10_opener 51 = .ok (.bipush (-3), 2) := by decide +kernel
theorem dX10_opener_53 : decode cX10_opener 53 = .ok (.ireturn, 1) := by decide +kernel
theorem dX10_opener_34 : decode cX10_opener 34 = .ok (.iload_n 3, 1) := by decide +kernel
theorem dX10_opener_35 : decode cX10_opener 35 = .ok (.iconst 5, 1) := by decide +kernel
theorem dX10_opener_36 : decode cX10_opener 36 = .ok (.if_icmp .eq 6, 3) := by decide +kernel
theorem dX10_opener_39 : decode cX10_opener 39 = .ok (.bipush (-2), 2) := by decide +kernel
theorem dX10_opener_41 : decode cX10_opener 41 = .ok (.ireturn, 1) := by decide +kernel
theorem dX10_opener_14 : decode cX10_opener 14 = .ok (.lload 4, 2) := by decide +kernel
theorem dX10_opener_16 : decode cX10_opener 16 = .ok (.invokestatic 203, 3) := by decide +kernel
theorem dX10_opener_19 : decode cX10_opener 19 = .ok (.ifCond .eq 20, 3) := by decide +kernel
theorem dX10_closer_0 : decode cX10_closer 0 = .ok (.lload_n 1, 1) := by decide +kernel
theorem dX10_closer_1 : decode cX10_closer 1 = .ok (.invokestatic 195, 3) := by decide +kernel
theorem dX10_closer_4 : decode cX10_closer 4 = .ok (.lstore_n 3, 1) := by decide +kernel
theorem dX10_closer_5 : decode cX10_closer 5 = .ok (.lload_n 3, 1) := by decide +kernel
theorem dX10_closer_6 : decode cX10_closer 6 = .ok (.invokestatic 199, 3) := by decide +kernel
theorem dX10_closer_9 : decode cX10_closer 9 = .ok (.ifCond .ne 6, 3) := by decide +kernel
theorem dX10_closer_15 : decode cX10_closer 15 = .ok (.aload_n 0, 1) := by decide +kernel
theorem dX10_closer_16 : decode cX10_closer 16 = .ok (.lload_n 3, 1) := by decide +kernel
theorem dX10_closer_17 : decode cX10_closer 17 = .ok (.invokevirtual 208, 3) := by decide +kernel
theorem dX10_closer_20 : decode cX10_closer 20 = .ok (.ifCond .eq 6, 3) := by decide +kernel
theorem dX10_closer_26 : decode cX10_closer 26 = .ok (.aload_n 0, 1) := by decide +kernel
theorem dX10_closer_27 : decode cX10_closer 27 = .ok (.getfield 189, 3) := by decide +kernel
theorem dX10_closer_30 : decode cX10_closer 30 = .ok (.iconst 4, 1) := by decide +kernel
theorem dX10_closer_31 : decode cX10_closer 31 = .ok (.if_icmp .ne 6, 3) := by decide +kernel
theorem dX10_closer_37 : decode cX10_closer 37 = .ok (.aload_n 0, 1) := by decide +kernel
theorem dX10_closer_38 : decode cX10_closer 38 = .ok (.getfield 23, 3) := by decide +kernel
theorem dX10_closer_41 : decode cX10_closer 41 = .ok (.aload_n 0, 1) := by decide +kernel
theorem dX10_closer_42 : decode cX10_closer 42 = .ok (.getfield 189, 3) := by decide +kernel
theorem dX10_closer_45 : decode cX10_closer 45 = .ok (.lload_n 3, 1) := by decide +kernel
theorem dX10_closer_46 : decode cX10_closer 46 = .ok (.lastore, 1) := by decide +kernel
theorem dX10_closer_47 : decode cX10_closer 47 = .ok (.aload_n 0, 1) := by decide +kernel
theorem dX10_closer_48 : decode cX10_closer 48 = .ok (.dup, 1) := by decide +kernel
theorem dX10_closer_49 : decode cX10_closer 49 = .ok (.getfield 189, 3) := by decide +kernel
theorem dX10_closer_52 : decode cX10_closer 52 = .ok (.iconst 1, 1) := by decide +kernel
theorem dX10_closer_53 : decode cX10_closer 53 = .ok (.iadd, 1) := by decide +kernel
theorem dX10_closer_54 : decode cX10_closer 54 = .ok (.putfield 189, 3) := by decide +kernel
theorem dX10_closer_57 : decode cX10_closer 57 = .ok (.aload_n 0, 1) := by decide +kernel
theorem dX10_closer_58 : decode cX10_closer 58 = .ok (.iconst 0, 1) := by decide +kernel
theorem dX10_closer_59 : decode cX10_closer 59 = .ok (.putfield 211, 3) := by decide +kernel
theorem dX10_closer_62 : decode cX10_closer 62 = .ok (.aload_n 0, 1) := by decide +kernel
theorem dX10_closer_63 : decode cX10_closer 63 = .ok (.getfield 189, 3) := by decide +kernel
theorem dX10_closer_66 : decode cX10_closer 66 = .ok (.ireturn, 1) := by decide +kernel
theorem dX10_closer_34 : decode cX10_closer 34 = .ok (.bipush (-4), 2) := by decide +kernel
theorem dX10_closer_36 : decode cX10_closer 36 = .ok (.ireturn, 1) := by decide +kernel
theorem dX10_closer_23 : decode cX10_closer 23 = .ok (.bipush (-3), 2) := by decide +kernel
theorem dX10_closer_25 : decode cX10_closer 25 = .ok (.ireturn, 1) := by decide +kernel
theorem dX10_closer_12 : decode cX10_closer 12 = .ok (.bipush (-2), 2) := by decide +kernel
theorem dX10_closer_14 : decode cX10_closer 14 = .ok (.ireturn, 1) := by decide +kernel
theorem dX10_goer_0 : decode cX10_goer 0 = .ok (.iload_n 1, 1) := by decide +kernel
theorem dX10_goer_1 : decode cX10_goer 1 = .ok (.i2l, 1) := by decide +kernel
theorem dX10_goer_2 : decode cX10_goer 2 = .ok (.invokestatic 203, 3) := by decide +kernel
theorem dX10_goer_5 : decode cX10_goer 5 = .ok (.ifCond .ne 6, 3) := by decide +kernel
theorem dX10_goer_11 : decode cX10_goer 11 = .ok (.aload_n 0, 1) := by decide +kernel
theorem dX10_goer_12 : decode cX10_goer 12 = .ok (.iload_n 1, 1) := by decide +kernel
theorem dX10_goer_13 : decode cX10_goer 13 = .ok (.i2l, 1) := by decide +kernel
theorem dX10_goer_14 : decode cX10_goer 14 = .ok (.invokevirtual 208, 3) := by decide +kernel
theorem dX10_goer_17 : decode cX10_goer 17 = .ok (.ifCond .eq 6, 3) := by decide +kernel
theorem dX10_goer_23 : decode cX10_goer 23 = .ok (.aload_n 0, 1) := by decide +kernel
theorem dX10_goer_24 : decode cX10_goer 24 = .ok (.getfield 192, 3) := by decide +kernel
theorem dX10_goer_27 : decode cX10_goer 27 = .ok (.iconst 4, 1) := by decide +kernel
theorem dX10_goer_28 : decode cX10_goer 28 = .ok (.if_icmp .ne 6, 3) := by decide +kernel
theorem dX10_goer_34 : decode cX10_goer 34 = .ok (.aload_n 0, 1) := by decide +kernel
theorem dX10_goer_35 : decode cX10_goer 35 = .ok (.getfield 26, 3) := by decide +kernel
theorem dX10_goer_38 : decode cX10_goer 38 = .ok (.aload_n 0, 1) := by decide +kernel
theorem dX10_goer_39 : decode cX10_goer 39 = .ok (.getfield 192, 3) := by decide +kernel
theorem dX10_goer_42 : decode cX10_goer 42 = .ok (.iload_n 1, 1) := by decide +kernel
theorem dX10_goer_43 : decode cX10_goer 43 = .ok (.iastore, 1) := by decide +kernel
theorem dX10_goer_44 : decode cX10_goer 44 = .ok (.aload_n 0, 1) := by decide +kernel
theorem dX10_goer_45 : decode cX10_goer 45 = .ok (.dup, 1) := by decide +kernel
theorem dX10_goer_46 : decode cX10_goer 46 = .ok (.getfield 192, 3) := by decide +kernel
theorem dX10_goer_49 : decode cX10_goer 49 = .ok (.iconst 1, 1) := by decide +kernel
theorem dX10_goer_50 : decode cX10_goer 50 = .ok (.iadd, 1) := by decide +kernel
theorem dX10_goer_51 : decode cX10_goer 51 = .ok (.putfield 192, 3) := by decide +kernel
theorem dX10_goer_54 : decode cX10_goer 54 = .ok (.aload_n 0, 1) := by decide +kernel
theorem dX10_goer_55 : decode cX10_goer 55 = .ok (.iconst 0, 1) := by decide +kernel
theorem dX10_goer_56 : decode cX10_goer 56 = .ok (.putfield 211, 3) := by decide +kernel
theorem dX10_goer_59 : decode cX10_goer 59 = .ok (.aload_n 0, 1) := by decide +kernel
theorem dX10_goer_60 : decode cX10_goer 60 = .ok (.getfield 192, 3) := by decide +kernel
theorem dX10_goer_63 : decode cX10_goer 63 = .ok (.ireturn, 1) := by decide +kernel
theorem dX10_goer_31 : decode cX10_goer 31 = .ok (.bipush (-4), 2) := by decide +kernel
theorem dX10_goer_33 : decode cX10_goer 33 = .ok (.ireturn, 1) := by decide +kernel
theorem dX10_goer_20 : decode cX10_goer 20 = .ok (.bipush (-3), 2) := by decide +kernel
theorem dX10_goer_22 : decode cX10_goer 22 = .ok (.ireturn, 1) := by decide +kernel
theorem dX10_goer_8 : decode cX10_goer 8 = .ok (.bipush (-2), 2) := by decide +kernel
theorem dX10_goer_10 : decode cX10_goer 10 = .ok (.ireturn, 1) := by decide +kernel
theorem dX10_pair_0 : decode cX10_pair 0 = .ok (.iload_n 1, 1) := by decide +kernel
theorem dX10_pair_1 : decode cX10_pair 1 = .ok (.i2l, 1) := by decide +kernel
theorem dX10_pair_2 : decode cX10_pair 2 = .ok (.invokestatic 203, 3) := by decide +kernel
theorem dX10_pair_5 : decode cX10_pair 5 = .ok (.ifCond .eq 11, 3) := by decide +kernel
theorem dX10_pair_16 : decode cX10_pair 16 = .ok (.bipush (-2), 2) := by decide +kernel
theorem dX10_pair_18 : decode cX10_pair 18 = .ok (.ireturn, 1) := by decide +kernel
theorem dX10_pair_8 : decode cX10_pair 8 = .ok (.iload_n 2, 1) := by decide +kernel
theorem dX10_pair_9 : decode cX10_pair 9 = .ok (.i2l, 1) := by decide +kernel
theorem dX10_pair_10 : decode cX10_pair 10 = .ok (.invokestatic 203, 3) := by decide +kernel
theorem dX10_pair_13 : decode cX10_pair 13 = .ok (.ifCond .ne 6, 3) := by decide +kernel
theorem dX10_pair_19 : decode cX10_pair 19 = .ok (.iload_n 1, 1) := by decide +kernel
theorem dX10_pair_20 : decode cX10_pair 20 = .ok (.iload_n 2, 1) := by decide +kernel
theorem dX10_pair_21 : decode cX10_pair 21 = .ok (.if_icmp .eq 21, 3) := by decide +kernel
theorem dX10_pair_42 : decode cX10_pair 42 = .ok (.bipush (-3), 2) := by decide +kernel
theorem dX10_pair_44 : decode cX10_pair 44 = .ok (.ireturn, 1) := by decide +kernel
theorem dX10_pair_24 : decode cX10_pair 24 = .ok (.aload_n 0, 1) := by decide +kernel
theorem dX10_pair_25 : decode cX10_pair 25 = .ok (.iload_n 1, 1) := by decide +kernel
theorem dX10_pair_26 : decode cX10_pair 26 = .ok (.i2l, 1) := by decide +kernel
theorem dX10_pair_27 : decode cX10_pair 27 = .ok (.invokevirtual 208, 3) := by decide +kernel
theorem dX10_pair_30 : decode cX10_pair 30 = .ok (.ifCond .ne 12, 3) := by decide +kernel
theorem dX10_pair_33 : decode cX10_pair 33 = .ok (.aload_n 0, 1) := by decide +kernel
theorem dX10_pair_34 : decode cX10_pair 34 = .ok (.iload_n 2, 1) := by decide +kernel
theorem dX10_pair_35 : decode cX10_pair 35 = .ok (.i2l, 1) := by decide +kernel
theorem dX10_pair_36 : decode cX10_pair 36 = .ok (.invokevirtual 208, 3) := by decide +kernel
theorem dX10_pair_39 : decode cX10_pair 39 = .ok (.ifCond .eq 6, 3) := by decide +kernel
theorem dX10_pair_45 : decode cX10_pair 45 = .ok (.aload_n 0, 1) := by decide +kernel
theorem dX10_pair_46 : decode cX10_pair 46 = .ok (.getfield 186, 3) := by decide +kernel
theorem dX10_pair_49 : decode cX10_pair 49 = .ok (.iconst 4, 1) := by decide +kernel
theorem dX10_pair_50 : decode cX10_pair 50 = .ok (.if_icmp .ne 6, 3) := by decide +kernel
theorem dX10_pair_56 : decode cX10_pair 56 = .ok (.aload_n 0, 1) := by decide +kernel
theorem dX10_pair_57 : decode cX10_pair 57 = .ok (.getfield 17, 3) := by decide +kernel
theorem dX10_pair_60 : decode cX10_pair 60 = .ok (.aload_n 0, 1) := by decide +kernel
theorem dX10_pair_61 : decode cX10_pair 61 = .ok (.getfield 186, 3) := by decide +kernel
theorem dX10_pair_64 : decode cX10_pair 64 = .ok (.iload_n 1, 1) := by decide +kernel
theorem dX10_pair_65 : decode cX10_pair 65 = .ok (.iastore, 1) := by decide +kernel
theorem dX10_pair_66 : decode cX10_pair 66 = .ok (.aload_n 0, 1) := by decide +kernel
theorem dX10_pair_67 : decode cX10_pair 67 = .ok (.getfield 20, 3) := by decide +kernel
theorem dX10_pair_70 : decode cX10_pair 70 = .ok (.aload_n 0, 1) := by decide +kernel
theorem dX10_pair_71 : decode cX10_pair 71 = .ok (.getfield 186, 3) := by decide +kernel
theorem dX10_pair_74 : decode cX10_pair 74 = .ok (.iload_n 2, 1) := by decide +kernel
theorem dX10_pair_75 : decode cX10_pair 75 = .ok (.iastore, 1) := by decide +kernel
theorem dX10_pair_76 : decode cX10_pair 76 = .ok (.aload_n 0, 1) := by decide +kernel
theorem dX10_pair_77 : decode cX10_pair 77 = .ok (.dup, 1) := by decide +kernel
theorem dX10_pair_78 : decode cX10_pair 78 = .ok (.getfield 186, 3) := by decide +kernel
theorem dX10_pair_81 : decode cX10_pair 81 = .ok (.iconst 1, 1) := by decide +kernel
theorem dX10_pair_82 : decode cX10_pair 82 = .ok (.iadd, 1) := by decide +kernel
theorem dX10_pair_83 : decode cX10_pair 83 = .ok (.putfield 186, 3) := by decide +kernel
theorem dX10_pair_86 : decode cX10_pair 86 = .ok (.aload_n 0, 1) := by decide +kernel
theorem dX10_pair_87 : decode cX10_pair 87 = .ok (.iconst 0, 1) := by decide +kernel
theorem dX10_pair_88 : decode cX10_pair 88 = .ok (.putfield 211, 3) := by decide +kernel
theorem dX10_pair_91 : decode cX10_pair 91 = .ok (.aload_n 0, 1) := by decide +kernel
theorem dX10_pair_92 : decode cX10_pair 92 = .ok (.getfield 186, 3) := by decide +kernel
theorem dX10_pair_95 : decode cX10_pair 95 = .ok (.ireturn, 1) := by decide +kernel
theorem dX10_pair_53 : decode cX10_pair 53 = .ok (.bipush (-4), 2) := by decide +kernel
theorem dX10_pair_55 : decode cX10_pair 55 = .ok (.ireturn, 1) := by decide +kernel
theorem dX10_tab_0 : decode cX10_tab 0 = .ok (.iload_n 1, 1) := by decide +kernel
theorem dX10_tab_1 : decode cX10_tab 1 = .ok (.i2l, 1) := by decide +kernel
theorem dX10_tab_2 : decode cX10_tab 2 = .ok (.lconst 0, 1) := by decide +kernel
theorem dX10_tab_3 : decode cX10_tab 3 = .ok (.ldc2_w 214, 3) := by decide +kernel
theorem dX10_tab_6 : decode cX10_tab 6 = .ok (.invokestatic 175, 3) := by decide +kernel
theorem dX10_tab_9 : decode cX10_tab 9 = .ok (.ifCond .ne 6, 3) := by decide +kernel
theorem dX10_tab_15 : decode cX10_tab 15 = .ok (.aload_n 0, 1) := by decide +kernel
theorem dX10_tab_16 : decode cX10_tab 16 = .ok (.getfield 216, 3) := by decide +kernel
theorem dX10_tab_19 : decode cX10_tab 19 = .ok (.istore_n 2, 1) := by decide +kernel
theorem dX10_tab_20 : decode cX10_tab 20 = .ok (.aload_n 0, 1) := by decide +kernel
theorem dX10_tab_21 : decode cX10_tab 21 = .ok (.iload_n 1, 1) := by decide +kernel
theorem dX10_tab_22 : decode cX10_tab 22 = .ok (.putfield 216, 3) := by decide +kernel
theorem dX10_tab_25 : decode cX10_tab 25 = .ok (.aload_n 0, 1) := by decide +kernel
theorem dX10_tab_26 : decode cX10_tab 26 = .ok (.iconst 0, 1) := by decide +kernel
theorem dX10_tab_27 : decode cX10_tab 27 = .ok (.putfield 211, 3) := by decide +kernel
theorem dX10_tab_30 : decode cX10_tab 30 = .ok (.iload_n 2, 1) := by decide +kernel
theorem dX10_tab_31 : decode cX10_tab 31 = .ok (.ireturn, 1) := by decide +kernel
theorem dX10_tab_12 : decode cX10_tab 12 = .ok (.bipush (-2), 2) := by decide +kernel
theorem dX10_tab_14 : decode cX10_tab 14 = .ok (.ireturn, 1) := by decide +kernel
set_option maxHeartbeats 4000000 in
set_option maxRecDepth 100000 in
theorem m_opener (l : Launch) (D : va_G) (tA : Nat → ClassId) (b : Nat) (i F : Nat → Nat → Int32) (G : Nat → Nat → Int64) (w : Int64) (y : Int32) (S : Int64 → Prop) (hB : BkM i F G S) : xMI l yX10_opener cX10_opener 6 (some .int) 2 46 D tA b 78 52 i F G [.ref (b + 78), .long w, .int y] (fun r u => RO [0, 15] [79, 80] i F G u ∧ (∃ S2, tlR ((wdI (nmw w) = 0 ∧ mk1 (nmw w) = 0) ∨ ¬ (y.toInt = 1 ∨ y.toInt = 2 ∨ y.toInt = 3 ∨ y.toInt = 5)) (S (nmw w)) (i 78 0) 8 S S2 (fun x => x = nmw w) r (u.1 78 0) ∧ BkM u.1 u.2.1 u.2.2 S2) ∧ (u.1 78 15 = i 78 15 ∨ u.1 78 15 = 0)) := by
  refine xstart RX10 rfl (by decide) (Nat.le_of_ble_eq_true rfl) ?_
  intro p e s m below meth c ls C0 hr hH hS hl
  have hl : lv_has ls 6 [(0, .ref (b + 78)), (1, .long w), (3, .int y)] := hl
  have rg_y := fb_rng y
  have hRg := hB.1
  refine lv_lload_n (pc := 0) C0.1 C0.2.1 dX10_opener_0 rfl (lv_at hl 1 rfl) ?_
  refine xcSL (pc := 1) [.long w] (c_X10_told l D tA b 78 52 i F G w) C0 hH hS cw_X10_195 rfl ⟨Nat.le_of_ble_eq_true rfl, Nat.le_of_ble_eq_true rfl⟩ hl.1 rfl (Nat.le_of_ble_eq_true rfl) dX10_opener_1 ⟨Nat.le_of_ble_eq_true rfl, Nat.le_of_ble_eq_true rfl⟩ (fun r1 ir1 Fr1 Gr1 _ locs hp hH hS => ?_)
  obtain ⟨hu, rfl⟩ := hp
  cases hu
  refine lv_lstore (pc := 4) (lv' := [(4, .long (nmw w)), (0, .ref (b + 78)), (1, .long w), (3, .int y)]) C0.1 C0.2.1 dX10_opener_4 hl (by decide) rfl (fun ls hl => ?_)
  refine lv_lload (pc := 6) C0.1 C0.2.1 dX10_opener_6 (lv_at hl 0 rfl) ?_
  refine xcSI (pc := 8) [.long (nmw w)] (c_X10_isWord l D tA b 78 52 i F G (nmw w) (tl0_nmw _)) C0 hH hS cw_X10_199 rfl ⟨Nat.le_of_ble_eq_true rfl, Nat.le_of_ble_eq_true rfl⟩ hl.1 rfl (Nat.le_of_ble_eq_true rfl) dX10_opener_8 ⟨Nat.le_of_ble_eq_true rfl, Nat.le_of_ble_eq_true rfl⟩ (fun r2 ir2 Fr2 Gr2 _ locs hp hH hS => ?_)
  obtain ⟨hu, rfl⟩ := hp
  cases hu
  refine lv_if_ne (pc := 11) (tgt := 22) C0.1 C0.2.1 dX10_opener_11 (by decide) (fun c3 => ?_) (fun c3 => ?_)
  · refine lv_iload_n (pc := 22) C0.1 C0.2.1 dX10_opener_22 rfl (lv_at hl 3 rfl) ?_
    refine lv_i2l (pc := 23) (v := y.toInt64) C0.1 C0.2.1 dX10_opener_23 rfl ?_
    refine lv_lconst (pc := 24) (v := 1) C0.1 C0.2.1 dX10_opener_24 (by decide) ?_
    refine lv_ldc2 (pc := 25) C0.1 C0.2.1 C0.2.2.2.1 (C0.2.2.2.2.1 _ kl_X10_206) dX10_opener_25 ?_
    refine xcSI (pc := 28) [.long y.toInt64, .long 1, .long 3] (c_X10_in l D tA b 78 52 i F G y.toInt64 1 3) C0 hH hS cw_X10_175 rfl ⟨Nat.le_of_ble_eq_true rfl, Nat.le_of_ble_eq_true rfl⟩ hl.1 rfl (Nat.le_of_ble_eq_true rfl) dX10_opener_28 ⟨Nat.le_of_ble_eq_true rfl, Nat.le_of_ble_eq_true rfl⟩ (fun r4 ir4 Fr4 Gr4 _ locs hp hH hS => ?_)
    obtain ⟨hu, rfl⟩ := hp
    cases hu
    refine lv_if_ne (pc := 31) (tgt := 42) C0.1 C0.2.1 dX10_opener_31 (by decide) (fun c5 => ?_) (fun c5 => ?_)
    · have : Int64.toInt 1 = 1 := rfl
      have : Int64.toInt 3 = 3 := rfl
      have c5 := in_1i c5
      refine lv_aload_n (pc := 42) C0.1 C0.2.1 dX10_opener_42 rfl (lv_at hl 1 rfl) ?_
      refine lv_lload (pc := 43) C0.1 C0.2.1 dX10_opener_43 (lv_at hl 0 rfl) ?_
      refine xcVI (pc := 45) 78 [.long (nmw w)] (m_isTold l D tA b i F G (nmw w) S hB) C0 hH hS clX10 rfl ⟨⟨Nat.le_of_ble_eq_true rfl, Nat.le_of_ble_eq_true rfl⟩, rfl, rfl⟩ cw_X10_208 rfl ⟨Nat.le_of_ble_eq_true rfl, Nat.le_of_ble_eq_true rfl⟩ hl.1 rfl (Nat.le_of_ble_eq_true rfl) dX10_opener_45 ⟨Nat.le_of_ble_eq_true rfl, Nat.le_of_ble_eq_true rfl⟩ (fun r6 ir6 Fr6 Gr6 _ locs hp hH hS => ?_)
      obtain ⟨hu, h01r6, hir6⟩ := hp
      cases hu
      have hsr6 : Int32.toInt r6 = Int32.toInt 0 ↔ ¬ S (nmw w) := it0 h01r6 hir6
      refine lv_if_eq (pc := 48) (tgt := 54) C0.1 C0.2.1 dX10_opener_48 (by decide) (fun c7 => ?_) (fun c7 => ?_)
      · have : Int32.toInt 0 = 0 := rfl
        have c7 := congrArg Int32.toInt c7
        refine lv_aload_n (pc := 54) C0.1 C0.2.1 dX10_opener_54 rfl (lv_at hl 1 rfl) ?_
        refine xget (pc := 55) C0 hH 78 0 clX10 ⟨Nat.le_of_ble_eq_true rfl, Nat.le_of_ble_eq_true rfl⟩ ⟨rfl, rfl⟩ (Nat.le_of_ble_eq_true rfl) fl_X10_182 (v := .int (i 78 0)) rfl dX10_opener_55 ?_
        refine lv_bipush (pc := 58) (v := 8) C0.1 C0.2.1 dX10_opener_58 (by decide) ?_
        refine lv_icmp_ne (pc := 60) (tgt := 66) C0.1 C0.2.1 dX10_opener_60 (by decide) (fun c8 => ?_) (fun c8 => ?_)
        · have : Int32.toInt 8 = 8 := rfl
          have c8 : ¬ _ := fun q => c8 (Int32.toInt_inj.mp q)
          refine lv_aload_n (pc := 66) C0.1 C0.2.1 dX10_opener_66 rfl (lv_at hl 1 rfl) ?_
          refine xget (pc := 67) C0 hH 78 1 clX10 ⟨Nat.le_of_ble_eq_true rfl, Nat.le_of_ble_eq_true rfl⟩ ⟨rfl, rfl⟩ (Nat.le_of_ble_eq_true rfl) fl_X10_7 (v := .ref (b + 79)) rfl dX10_opener_67 ?_
          refine lv_aload_n (pc := 70) C0.1 C0.2.1 dX10_opener_70 rfl (lv_at hl 1 rfl) ?_
          refine xget (pc := 71) C0 hH 78 0 clX10 ⟨Nat.le_of_ble_eq_true rfl, Nat.le_of_ble_eq_true rfl⟩ ⟨rfl, rfl⟩ (Nat.le_of_ble_eq_true rfl) fl_X10_182 (v := .int (i 78 0)) rfl dX10_opener_71 ?_
          refine lv_lload (pc := 74) C0.1 C0.2.1 dX10_opener_74 (lv_at hl 0 rfl) ?_
          refine xlast (pc := 76) (N := 8) C0 (Nat.le_of_ble_eq_true rfl) hH hS 79 ⟨Nat.le_of_ble_eq_true rfl, Nat.le_of_ble_eq_true rfl⟩ ⟨rfl, rfl⟩ (vI (by omega) (by omega)) dX10_opener_76 (fun _ locs hH hS => ?_)
          have hH : Hd D tA b 78 52 zz i F (va_up G 79 (vp_updL (G 79) (Int32.toNatClampNeg (i 78 0)) (nmw w))) _ := hH
          refine lv_aload_n (pc := 77) C0.1 C0.2.1 dX10_opener_77 rfl (lv_at hl 1 rfl) ?_
          refine xget (pc := 78) C0 hH 78 2 clX10 ⟨Nat.le_of_ble_eq_true rfl, Nat.le_of_ble_eq_true rfl⟩ ⟨rfl, rfl⟩ (Nat.le_of_ble_eq_true rfl) fl_X10_13 (v := .ref (b + 80)) rfl dX10_opener_78 ?_
          refine lv_aload_n (pc := 81) C0.1 C0.2.1 dX10_opener_81 rfl (lv_at hl 1 rfl) ?_
          refine xget (pc := 82) C0 hH 78 0 clX10 ⟨Nat.le_of_ble_eq_true rfl, Nat.le_of_ble_eq_true rfl⟩ ⟨rfl, rfl⟩ (Nat.le_of_ble_eq_true rfl) fl_X10_182 (v := .int (i 78 0)) rfl dX10_opener_82 ?_
          refine lv_iload_n (pc := 85) C0.1 C0.2.1 dX10_opener_85 rfl (lv_at hl 3 rfl) ?_
          refine xiast (pc := 86) (N := 8) C0 (Nat.le_of_ble_eq_true rfl) hH hS 80 ⟨Nat.le_of_ble_eq_true rfl, Nat.le_of_ble_eq_true rfl⟩ ⟨rfl, rfl⟩ (vI (by omega) (by omega)) dX10_opener_86 (fun _ locs hH hS _ => ?_)
          have hH : Hd D tA b 78 52 zz i (va_up F 80 (upd (F 80) (Int32.toNatClampNeg (i 78 0)) y)) (va_up G 79 (vp_updL (G 79) (Int32.toNatClampNeg (i 78 0)) (nmw w))) _ := hH
          refine lv_aload_n (pc := 87) C0.1 C0.2.1 dX10_opener_87 rfl (lv_at hl 1 rfl) ?_
          refine lv_dup (pc := 88) C0.1 C0.2.1 dX10_opener_88 rfl ?_
          refine xget (pc := 89) C0 hH 78 0 clX10 ⟨Nat.le_of_ble_eq_true rfl, Nat.le_of_ble_eq_true rfl⟩ ⟨rfl, rfl⟩ (Nat.le_of_ble_eq_true rfl) fl_X10_182 (v := .int (i 78 0)) rfl dX10_opener_89 ?_
          refine lv_iconst (pc := 92) (v := 1) C0.1 C0.2.1 dX10_opener_92 (by decide) ?_
          have : Int32.toInt 1 = 1 := rfl
          refine lv_iadd (pc := 93) C0.1 C0.2.1 dX10_opener_93 ?_
          refine lv_topi (fun x9 ex9 => ?_)
          have hx9 : Int32.toInt x9 = Int32.toInt (i 78 0) + Int32.toInt 1 := by rw [ex9]; exact fb_addI (by omega) (by omega)
          refine xputI (pc := 94) C0 (Nat.le_of_ble_eq_true rfl) hH hS 78 0 clX10 ⟨Nat.le_of_ble_eq_true rfl, Nat.le_of_ble_eq_true rfl⟩ ⟨rfl, rfl⟩ ⟨Nat.le_of_ble_eq_true rfl, rfl, rfl⟩ fl_X10_182 (x := x9) ⟨rfl, rfl⟩ dX10_opener_94 (fun _ locs hH hS _ => ?_)
          have hH : Hd D tA b 78 52 zz (up2 i 78 0 x9) (va_up F 80 (upd (F 80) (Int32.toNatClampNeg (i 78 0)) y)) (va_up G 79 (vp_updL (G 79) (Int32.toNatClampNeg (i 78 0)) (nmw w))) _ := hH
          refine lv_aload_n (pc := 97) C0.1 C0.2.1 dX10_opener_97 rfl (lv_at hl 1 rfl) ?_
          refine lv_iconst (pc := 98) (v := 0) C0.1 C0.2.1 dX10_opener_98 (by decide) ?_
          refine xputI (pc := 99) C0 (Nat.le_of_ble_eq_true rfl) hH hS 78 15 clX10 ⟨Nat.le_of_ble_eq_true rfl, Nat.le_of_ble_eq_true rfl⟩ ⟨rfl, rfl⟩ ⟨Nat.le_of_ble_eq_true rfl, rfl, rfl⟩ fl_X10_211 (x := 0) ⟨rfl, rfl⟩ dX10_opener_99 (fun _ locs hH hS _ => ?_)
          have hH : Hd D tA b 78 52 zz (up2 (up2 i 78 0 x9) 78 15 0) (va_up F 80 (upd (F 80) (Int32.toNatClampNeg (i 78 0)) y)) (va_up G 79 (vp_updL (G 79) (Int32.toNatClampNeg (i 78 0)) (nmw w))) _ := hH
          refine lv_aload_n (pc := 102) C0.1 C0.2.1 dX10_opener_102 rfl (lv_at hl 1 rfl) ?_
          refine xget (pc := 103) C0 hH 78 0 clX10 ⟨Nat.le_of_ble_eq_true rfl, Nat.le_of_ble_eq_true rfl⟩ ⟨rfl, rfl⟩ (Nat.le_of_ble_eq_true rfl) fl_X10_182 (v := .int x9) rfl dX10_opener_103 ?_
          exact xiret (pc := 106) C0 hr hH hS dX10_opener_106 ⟨(RO.g (RO.f (RO.i (RO.i RO.rf (by decide)) (by decide)) (by decide)) (by decide)), ⟨_, Or.inr (Or.inr (Or.inr ⟨(fun q => q.elim (fun q => by first | exact absurd q.1 (by assumption) | exact absurd q.2 (by assumption)) (fun q => q (by first | assumption | omega))), (hsr6.mp (by assumption)), fun q => absurd (congrArg Int32.toInt q) (show ¬ (i 78 0).toInt = Int32.toInt 8 from by omega), ex9, ex9, rfl⟩)), BkM.op hB (by omega) (by omega)⟩, Or.inr rfl⟩
        · have : Int32.toInt 8 = 8 := rfl
          have c8 := congrArg Int32.toInt c8
          refine lv_bipush (pc := 63) (v := (-4)) C0.1 C0.2.1 dX10_opener_63 (by decide) ?_
          exact xiret (pc := 65) C0 hr hH hS dX10_opener_65 ⟨RO.rf, ⟨S, Or.inr (Or.inr (Or.inl ⟨(fun q => q.elim (fun q => by first | exact absurd q.1 (by assumption) | exact absurd q.2 (by assumption)) (fun q => q (by first | assumption | omega))), (hsr6.mp (by assumption)), Int32.toInt_inj.mp (show (i 78 0).toInt = Int32.toInt 8 from by omega), rfl, rfl, rfl⟩)), hB⟩, Or.inl rfl⟩
      · have : Int32.toInt 0 = 0 := rfl
        have c7 : ¬ _ := fun q => c7 (Int32.toInt_inj.mp q)
        refine lv_bipush (pc := 51) (v := (-3)) C0.1 C0.2.1 dX10_opener_51 (by decide) ?_
        exact xiret (pc := 53) C0 hr hH hS dX10_opener_53 ⟨RO.rf, ⟨S, Or.inr (Or.inl ⟨(fun q => q.elim (fun q => by first | exact absurd q.1 (by assumption) | exact absurd q.2 (by assumption)) (fun q => q (by first | assumption | omega))), (Classical.not_not.mp (fun q => absurd (hsr6.mpr q) (by assumption))), rfl, rfl, rfl⟩), hB⟩, Or.inl rfl⟩
    · have : Int64.toInt 1 = 1 := rfl
      have : Int64.toInt 3 = 3 := rfl
      have c5 := in_0i c5
      refine lv_iload_n (pc := 34) C0.1 C0.2.1 dX10_opener_34 rfl (lv_at hl 3 rfl) ?_
      refine lv_iconst (pc := 35) (v := 5) C0.1 C0.2.1 dX10_opener_35 (by decide) ?_
      refine lv_icmp_eq (pc := 36) (tgt := 42) C0.1 C0.2.1 dX10_opener_36 (by decide) (fun c10 => ?_) (fun c10 => ?_)
      · have : Int32.toInt 5 = 5 := rfl
        have c10 := congrArg Int32.toInt c10
        refine lv_aload_n (pc := 42) C0.1 C0.2.1 dX10_opener_42 rfl (lv_at hl 1 rfl) ?_
        refine lv_lload (pc := 43) C0.1 C0.2.1 dX10_opener_43 (lv_at hl 0 rfl) ?_
        refine xcVI (pc := 45) 78 [.long (nmw w)] (m_isTold l D tA b i F G (nmw w) S hB) C0 hH hS clX10 rfl ⟨⟨Nat.le_of_ble_eq_true rfl, Nat.le_of_ble_eq_true rfl⟩, rfl, rfl⟩ cw_X10_208 rfl ⟨Nat.le_of_ble_eq_true rfl, Nat.le_of_ble_eq_true rfl⟩ hl.1 rfl (Nat.le_of_ble_eq_true rfl) dX10_opener_45 ⟨Nat.le_of_ble_eq_true rfl, Nat.le_of_ble_eq_true rfl⟩ (fun r11 ir11 Fr11 Gr11 _ locs hp hH hS => ?_)
        obtain ⟨hu, h01r11, hir11⟩ := hp
        cases hu
        have hsr11 : Int32.toInt r11 = Int32.toInt 0 ↔ ¬ S (nmw w) := it0 h01r11 hir11
        refine lv_if_eq (pc := 48) (tgt := 54) C0.1 C0.2.1 dX10_opener_48 (by decide) (fun c12 => ?_) (fun c12 => ?_)
        · have : Int32.toInt 0 = 0 := rfl
          have c12 := congrArg Int32.toInt c12
          refine lv_aload_n (pc := 54) C0.1 C0.2.1 dX10_opener_54 rfl (lv_at hl 1 rfl) ?_
          refine xget (pc := 55) C0 hH 78 0 clX10 ⟨Nat.le_of_ble_eq_true rfl, Nat.le_of_ble_eq_true rfl⟩ ⟨rfl, rfl⟩ (Nat.le_of_ble_eq_true rfl) fl_X10_182 (v := .int (i 78 0)) rfl dX10_opener_55 ?_
          refine lv_bipush (pc := 58) (v := 8) C0.1 C0.2.1 dX10_opener_58 (by decide) ?_
          refine lv_icmp_ne (pc := 60) (tgt := 66) C0.1 C0.2.1 dX10_opener_60 (by decide) (fun c13 => ?_) (fun c13 => ?_)
          · have : Int32.toInt 8 = 8 := rfl
            have c13 : ¬ _ := fun q => c13 (Int32.toInt_inj.mp q)
            refine lv_aload_n (pc := 66) C0.1 C0.2.1 dX10_opener_66 rfl (lv_at hl 1 rfl) ?_
            refine xget (pc := 67) C0 hH 78 1 clX10 ⟨Nat.le_of_ble_eq_true rfl, Nat.le_of_ble_eq_true rfl⟩ ⟨rfl, rfl⟩ (Nat.le_of_ble_eq_true rfl) fl_X10_7 (v := .ref (b + 79)) rfl dX10_opener_67 ?_
            refine lv_aload_n (pc := 70) C0.1 C0.2.1 dX10_opener_70 rfl (lv_at hl 1 rfl) ?_
            refine xget (pc := 71) C0 hH 78 0 clX10 ⟨Nat.le_of_ble_eq_true rfl, Nat.le_of_ble_eq_true rfl⟩ ⟨rfl, rfl⟩ (Nat.le_of_ble_eq_true rfl) fl_X10_182 (v := .int (i 78 0)) rfl dX10_opener_71 ?_
            refine lv_lload (pc := 74) C0.1 C0.2.1 dX10_opener_74 (lv_at hl 0 rfl) ?_
            refine xlast (pc := 76) (N := 8) C0 (Nat.le_of_ble_eq_true rfl) hH hS 79 ⟨Nat.le_of_ble_eq_true rfl, Nat.le_of_ble_eq_true rfl⟩ ⟨rfl, rfl⟩ (vI (by omega) (by omega)) dX10_opener_76 (fun _ locs hH hS => ?_)
            have hH : Hd D tA b 78 52 zz i F (va_up G 79 (vp_updL (G 79) (Int32.toNatClampNeg (i 78 0)) (nmw w))) _ := hH
            refine lv_aload_n (pc := 77) C0.1 C0.2.1 dX10_opener_77 rfl (lv_at hl 1 rfl) ?_
            refine xget (pc := 78) C0 hH 78 2 clX10 ⟨Nat.le_of_ble_eq_true rfl, Nat.le_of_ble_eq_true rfl⟩ ⟨rfl, rfl⟩ (Nat.le_of_ble_eq_true rfl) fl_X10_13 (v := .ref (b + 80)) rfl dX10_opener_78 ?_
            refine lv_aload_n (pc := 81) C0.1 C0.2.1 dX10_opener_81 rfl (lv_at hl 1 rfl) ?_
            refine xget (pc := 82) C0 hH 78 0 clX10 ⟨Nat.le_of_ble_eq_true rfl, Nat.le_of_ble_eq_true rfl⟩ ⟨rfl, rfl⟩ (Nat.le_of_ble_eq_true rfl) fl_X10_182 (v := .int (i 78 0)) rfl dX10_opener_82 ?_
            refine lv_iload_n (pc := 85) C0.1 C0.2.1 dX10_opener_85 rfl (lv_at hl 3 rfl) ?_
            refine xiast (pc := 86) (N := 8) C0 (Nat.le_of_ble_eq_true rfl) hH hS 80 ⟨Nat.le_of_ble_eq_true rfl, Nat.le_of_ble_eq_true rfl⟩ ⟨rfl, rfl⟩ (vI (by omega) (by omega)) dX10_opener_86 (fun _ locs hH hS _ => ?_)
            have hH : Hd D tA b 78 52 zz i (va_up F 80 (upd (F 80) (Int32.toNatClampNeg (i 78 0)) y)) (va_up G 79 (vp_updL (G 79) (Int32.toNatClampNeg (i 78 0)) (nmw w))) _ := hH
            refine lv_aload_n (pc := 87) C0.1 C0.2.1 dX10_opener_87 rfl (lv_at hl 1 rfl) ?_
            refine lv_dup (pc := 88) C0.1 C0.2.1 dX10_opener_88 rfl ?_
            refine xget (pc := 89) C0 hH 78 0 clX10 ⟨Nat.le_of_ble_eq_true rfl, Nat.le_of_ble_eq_true rfl⟩ ⟨rfl, rfl⟩ (Nat.le_of_ble_eq_true rfl) fl_X10_182 (v := .int (i 78 0)) rfl dX10_opener_89 ?_
            refine lv_iconst (pc := 92) (v := 1) C0.1 C0.2.1 dX10_opener_92 (by decide) ?_
            have : Int32.toInt 1 = 1 := rfl
            refine lv_iadd (pc := 93) C0.1 C0.2.1 dX10_opener_93 ?_
            refine lv_topi (fun x14 ex14 => ?_)
            have hx14 : Int32.toInt x14 = Int32.toInt (i 78 0) + Int32.toInt 1 := by rw [ex14]; exact fb_addI (by omega) (by omega)
            refine xputI (pc := 94) C0 (Nat.le_of_ble_eq_true rfl) hH hS 78 0 clX10 ⟨Nat.le_of_ble_eq_true rfl, Nat.le_of_ble_eq_true rfl⟩ ⟨rfl, rfl⟩ ⟨Nat.le_of_ble_eq_true rfl, rfl, rfl⟩ fl_X10_182 (x := x14) ⟨rfl, rfl⟩ dX10_opener_94 (fun _ locs hH hS _ => ?_)
            have hH : Hd D tA b 78 52 zz (up2 i 78 0 x14) (va_up F 80 (upd (F 80) (Int32.toNatClampNeg (i 78 0)) y)) (va_up G 79 (vp_updL (G 79) (Int32.toNatClampNeg (i 78 0)) (nmw w))) _ := hH
            refine lv_aload_n (pc := 97) C0.1 C0.2.1 dX10_opener_97 rfl (lv_at hl 1 rfl) ?_
            refine lv_iconst (pc := 98) (v := 0) C0.1 C0.2.1 dX10_opener_98 (by decide) ?_
            refine xputI (pc := 99) C0 (Nat.le_of_ble_eq_true rfl) hH hS 78 15 clX10 ⟨Nat.le_of_ble_eq_true rfl, Nat.le_of_ble_eq_true rfl⟩ ⟨rfl, rfl⟩ ⟨Nat.le_of_ble_eq_true rfl, rfl, rfl⟩ fl_X10_211 (x := 0) ⟨rfl, rfl⟩ dX10_opener_99 (fun _ locs hH hS _ => ?_)
            have hH : Hd D tA b 78 52 zz (up2 (up2 i 78 0 x14) 78 15 0) (va_up F 80 (upd (F 80) (Int32.toNatClampNeg (i 78 0)) y)) (va_up G 79 (vp_updL (G 79) (Int32.toNatClampNeg (i 78 0)) (nmw w))) _ := hH
            refine lv_aload_n (pc := 102) C0.1 C0.2.1 dX10_opener_102 rfl (lv_at hl 1 rfl) ?_
            refine xget (pc := 103) C0 hH 78 0 clX10 ⟨Nat.le_of_ble_eq_true rfl, Nat.le_of_ble_eq_true rfl⟩ ⟨rfl, rfl⟩ (Nat.le_of_ble_eq_true rfl) fl_X10_182 (v := .int x14) rfl dX10_opener_103 ?_
            exact xiret (pc := 106) C0 hr hH hS dX10_opener_106 ⟨(RO.g (RO.f (RO.i (RO.i RO.rf (by decide)) (by decide)) (by decide)) (by decide)), ⟨_, Or.inr (Or.inr (Or.inr ⟨(fun q => q.elim (fun q => by first | exact absurd q.1 (by assumption) | exact absurd q.2 (by assumption)) (fun q => q (by first | assumption | omega))), (hsr11.mp (by assumption)), fun q => absurd (congrArg Int32.toInt q) (show ¬ (i 78 0).toInt = Int32.toInt 8 from by omega), ex14, ex14, rfl⟩)), BkM.op hB (by omega) (by omega)⟩, Or.inr rfl⟩
          · have : Int32.toInt 8 = 8 := rfl
            have c13 := congrArg Int32.toInt c13
            refine lv_bipush (pc := 63) (v := (-4)) C0.1 C0.2.1 dX10_opener_63 (by decide) ?_
            exact xiret (pc := 65) C0 hr hH hS dX10_opener_65 ⟨RO.rf, ⟨S, Or.inr (Or.inr (Or.inl ⟨(fun q => q.elim (fun q => by first | exact absurd q.1 (by assumption) | exact absurd q.2 (by assumption)) (fun q => q (by first | assumption | omega))), (hsr11.mp (by assumption)), Int32.toInt_inj.mp (show (i 78 0).toInt = Int32.toInt 8 from by omega), rfl, rfl, rfl⟩)), hB⟩, Or.inl rfl⟩
        · have : Int32.toInt 0 = 0 := rfl
          have c12 : ¬ _ := fun q => c12 (Int32.toInt_inj.mp q)
          refine lv_bipush (pc := 51) (v := (-3)) C0.1 C0.2.1 dX10_opener_51 (by decide) ?_
          exact xiret (pc := 53) C0 hr hH hS dX10_opener_53 ⟨RO.rf, ⟨S, Or.inr (Or.inl ⟨(fun q => q.elim (fun q => by first | exact absurd q.1 (by assumption) | exact absurd q.2 (by assumption)) (fun q => q (by first | assumption | omega))), (Classical.not_not.mp (fun q => absurd (hsr11.mpr q) (by assumption))), rfl, rfl, rfl⟩), hB⟩, Or.inl rfl⟩
      · have : Int32.toInt 5 = 5 := rfl
        have c10 : ¬ _ := fun q => c10 (Int32.toInt_inj.mp q)
        refine lv_bipush (pc := 39) (v := (-2)) C0.1 C0.2.1 dX10_opener_39 (by decide) ?_
        exact xiret (pc := 41) C0 hr hH hS dX10_opener_41 ⟨RO.rf, ⟨S, Or.inl ⟨(by first | exact Or.inl ⟨by assumption, by assumption⟩ | exact Or.inr (by first | assumption | omega)), rfl, rfl, rfl⟩, hB⟩, Or.inl rfl⟩
  · refine lv_lload (pc := 14) C0.1 C0.2.1 dX10_opener_14 (lv_at hl 0 rfl) ?_
    refine xcSI (pc := 16) [.long (nmw w)] (c_X10_isOneMark l D tA b 78 52 i F G (nmw w)) C0 hH hS cw_X10_203 rfl ⟨Nat.le_of_ble_eq_true rfl, Nat.le_of_ble_eq_true rfl⟩ hl.1 rfl (Nat.le_of_ble_eq_true rfl) dX10_opener_16 ⟨Nat.le_of_ble_eq_true rfl, Nat.le_of_ble_eq_true rfl⟩ (fun r15 ir15 Fr15 Gr15 _ locs hp hH hS => ?_)
    obtain ⟨hu, rfl⟩ := hp
    cases hu
    refine lv_if_eq (pc := 19) (tgt := 39) C0.1 C0.2.1 dX10_opener_19 (by decide) (fun c16 => ?_) (fun c16 => ?_)
    · refine lv_bipush (pc := 39) (v := (-2)) C0.1 C0.2.1 dX10_opener_39 (by decide) ?_
      exact xiret (pc := 41) C0 hr hH hS dX10_opener_41 ⟨RO.rf, ⟨S, Or.inl ⟨(by first | exact Or.inl ⟨by assumption, by assumption⟩ | exact Or.inr (by first | assumption | omega)), rfl, rfl, rfl⟩, hB⟩, Or.inl rfl⟩
    · refine lv_iload_n (pc := 22) C0.1 C0.2.1 dX10_opener_22 rfl (lv_at hl 3 rfl) ?_
      refine lv_i2l (pc := 23) (v := y.toInt64) C0.1 C0.2.1 dX10_opener_23 rfl ?_
      refine lv_lconst (pc := 24) (v := 1) C0.1 C0.2.1 dX10_opener_24 (by decide) ?_
      refine lv_ldc2 (pc := 25) C0.1 C0.2.1 C0.2.2.2.1 (C0.2.2.2.2.1 _ kl_X10_206) dX10_opener_25 ?_
      refine xcSI (pc := 28) [.long y.toInt64, .long 1, .long 3] (c_X10_in l D tA b 78 52 i F G y.toInt64 1 3) C0 hH hS cw_X10_175 rfl ⟨Nat.le_of_ble_eq_true rfl, Nat.le_of_ble_eq_true rfl⟩ hl.1 rfl (Nat.le_of_ble_eq_true rfl) dX10_opener_28 ⟨Nat.le_of_ble_eq_true rfl, Nat.le_of_ble_eq_true rfl⟩ (fun r17 ir17 Fr17 Gr17 _ locs hp hH hS => ?_)
      obtain ⟨hu, rfl⟩ := hp
      cases hu
      refine lv_if_ne (pc := 31) (tgt := 42) C0.1 C0.2.1 dX10_opener_31 (by decide) (fun c18 => ?_) (fun c18 => ?_)
      · have : Int64.toInt 1 = 1 := rfl
        have : Int64.toInt 3 = 3 := rfl
        have c18 := in_1i c18
        refine lv_aload_n (pc := 42) C0.1 C0.2.1 dX10_opener_42 rfl (lv_at hl 1 rfl) ?_
        refine lv_lload (pc := 43) C0.1 C0.2.1 dX10_opener_43 (lv_at hl 0 rfl) ?_
        refine xcVI (pc := 45) 78 [.long (nmw w)] (m_isTold l D tA b i F G (nmw w) S hB) C0 hH hS clX10 rfl ⟨⟨Nat.le_of_ble_eq_true rfl, Nat.le_of_ble_eq_true rfl⟩, rfl, rfl⟩ cw_X10_208 rfl ⟨Nat.le_of_ble_eq_true rfl, Nat.le_of_ble_eq_true rfl⟩ hl.1 rfl (Nat.le_of_ble_eq_true rfl) dX10_opener_45 ⟨Nat.le_of_ble_eq_true rfl, Nat.le_of_ble_eq_true rfl⟩ (fun r19 ir19 Fr19 Gr19 _ locs hp hH hS => ?_)
        obtain ⟨hu, h01r19, hir19⟩ := hp
        cases hu
        have hsr19 : Int32.toInt r19 = Int32.toInt 0 ↔ ¬ S (nmw w) := it0 h01r19 hir19
        refine lv_if_eq (pc := 48) (tgt := 54) C0.1 C0.2.1 dX10_opener_48 (by decide) (fun c20 => ?_) (fun c20 => ?_)
        · have : Int32.toInt 0 = 0 := rfl
          have c20 := congrArg Int32.toInt c20
          refine lv_aload_n (pc := 54) C0.1 C0.2.1 dX10_opener_54 rfl (lv_at hl 1 rfl) ?_
          refine xget (pc := 55) C0 hH 78 0 clX10 ⟨Nat.le_of_ble_eq_true rfl, Nat.le_of_ble_eq_true rfl⟩ ⟨rfl, rfl⟩ (Nat.le_of_ble_eq_true rfl) fl_X10_182 (v := .int (i 78 0)) rfl dX10_opener_55 ?_
          refine lv_bipush (pc := 58) (v := 8) C0.1 C0.2.1 dX10_opener_58 (by decide) ?_
          refine lv_icmp_ne (pc := 60) (tgt := 66) C0.1 C0.2.1 dX10_opener_60 (by decide) (fun c21 => ?_) (fun c21 => ?_)
          · have : Int32.toInt 8 = 8 := rfl
            have c21 : ¬ _ := fun q => c21 (Int32.toInt_inj.mp q)
            refine lv_aload_n (pc := 66) C0.1 C0.2.1 dX10_opener_66 rfl (lv_at hl 1 rfl) ?_
            refine xget (pc := 67) C0 hH 78 1 clX10 ⟨Nat.le_of_ble_eq_true rfl, Nat.le_of_ble_eq_true rfl⟩ ⟨rfl, rfl⟩ (Nat.le_of_ble_eq_true rfl) fl_X10_7 (v := .ref (b + 79)) rfl dX10_opener_67 ?_
            refine lv_aload_n (pc := 70) C0.1 C0.2.1 dX10_opener_70 rfl (lv_at hl 1 rfl) ?_
            refine xget (pc := 71) C0 hH 78 0 clX10 ⟨Nat.le_of_ble_eq_true rfl, Nat.le_of_ble_eq_true rfl⟩ ⟨rfl, rfl⟩ (Nat.le_of_ble_eq_true rfl) fl_X10_182 (v := .int (i 78 0)) rfl dX10_opener_71 ?_
            refine lv_lload (pc := 74) C0.1 C0.2.1 dX10_opener_74 (lv_at hl 0 rfl) ?_
            refine xlast (pc := 76) (N := 8) C0 (Nat.le_of_ble_eq_true rfl) hH hS 79 ⟨Nat.le_of_ble_eq_true rfl, Nat.le_of_ble_eq_true rfl⟩ ⟨rfl, rfl⟩ (vI (by omega) (by omega)) dX10_opener_76 (fun _ locs hH hS => ?_)
            have hH : Hd D tA b 78 52 zz i F (va_up G 79 (vp_updL (G 79) (Int32.toNatClampNeg (i 78 0)) (nmw w))) _ := hH
            refine lv_aload_n (pc := 77) C0.1 C0.2.1 dX10_opener_77 rfl (lv_at hl 1 rfl) ?_
            refine xget (pc := 78) C0 hH 78 2 clX10 ⟨Nat.le_of_ble_eq_true rfl, Nat.le_of_ble_eq_true rfl⟩ ⟨rfl, rfl⟩ (Nat.le_of_ble_eq_true rfl) fl_X10_13 (v := .ref (b + 80)) rfl dX10_opener_78 ?_
            refine lv_aload_n (pc := 81) C0.1 C0.2.1 dX10_opener_81 rfl (lv_at hl 1 rfl) ?_
            refine xget (pc := 82) C0 hH 78 0 clX10 ⟨Nat.le_of_ble_eq_true rfl, Nat.le_of_ble_eq_true rfl⟩ ⟨rfl, rfl⟩ (Nat.le_of_ble_eq_true rfl) fl_X10_182 (v := .int (i 78 0)) rfl dX10_opener_82 ?_
            refine lv_iload_n (pc := 85) C0.1 C0.2.1 dX10_opener_85 rfl (lv_at hl 3 rfl) ?_
            refine xiast (pc := 86) (N := 8) C0 (Nat.le_of_ble_eq_true rfl) hH hS 80 ⟨Nat.le_of_ble_eq_true rfl, Nat.le_of_ble_eq_true rfl⟩ ⟨rfl, rfl⟩ (vI (by omega) (by omega)) dX10_opener_86 (fun _ locs hH hS _ => ?_)
            have hH : Hd D tA b 78 52 zz i (va_up F 80 (upd (F 80) (Int32.toNatClampNeg (i 78 0)) y)) (va_up G 79 (vp_updL (G 79) (Int32.toNatClampNeg (i 78 0)) (nmw w))) _ := hH
            refine lv_aload_n (pc := 87) C0.1 C0.2.1 dX10_opener_87 rfl (lv_at hl 1 rfl) ?_
            refine lv_dup (pc := 88) C0.1 C0.2.1 dX10_opener_88 rfl ?_
            refine xget (pc := 89) C0 hH 78 0 clX10 ⟨Nat.le_of_ble_eq_true rfl, Nat.le_of_ble_eq_true rfl⟩ ⟨rfl, rfl⟩ (Nat.le_of_ble_eq_true rfl) fl_X10_182 (v := .int (i 78 0)) rfl dX10_opener_89 ?_
            refine lv_iconst (pc := 92) (v := 1) C0.1 C0.2.1 dX10_opener_92 (by decide) ?_
            have : Int32.toInt 1 = 1 := rfl
            refine lv_iadd (pc := 93) C0.1 C0.2.1 dX10_opener_93 ?_
            refine lv_topi (fun x22 ex22 => ?_)
            have hx22 : Int32.toInt x22 = Int32.toInt (i 78 0) + Int32.toInt 1 := by rw [ex22]; exact fb_addI (by omega) (by omega)
            refine xputI (pc := 94) C0 (Nat.le_of_ble_eq_true rfl) hH hS 78 0 clX10 ⟨Nat.le_of_ble_eq_true rfl, Nat.le_of_ble_eq_true rfl⟩ ⟨rfl, rfl⟩ ⟨Nat.le_of_ble_eq_true rfl, rfl, rfl⟩ fl_X10_182 (x := x22) ⟨rfl, rfl⟩ dX10_opener_94 (fun _ locs hH hS _ => ?_)
            have hH : Hd D tA b 78 52 zz (up2 i 78 0 x22) (va_up F 80 (upd (F 80) (Int32.toNatClampNeg (i 78 0)) y)) (va_up G 79 (vp_updL (G 79) (Int32.toNatClampNeg (i 78 0)) (nmw w))) _ := hH
            refine lv_aload_n (pc := 97) C0.1 C0.2.1 dX10_opener_97 rfl (lv_at hl 1 rfl) ?_
            refine lv_iconst (pc := 98) (v := 0) C0.1 C0.2.1 dX10_opener_98 (by decide) ?_
            refine xputI (pc := 99) C0 (Nat.le_of_ble_eq_true rfl) hH hS 78 15 clX10 ⟨Nat.le_of_ble_eq_true rfl, Nat.le_of_ble_eq_true rfl⟩ ⟨rfl, rfl⟩ ⟨Nat.le_of_ble_eq_true rfl, rfl, rfl⟩ fl_X10_211 (x := 0) ⟨rfl, rfl⟩ dX10_opener_99 (fun _ locs hH hS _ => ?_)
            have hH : Hd D tA b 78 52 zz (up2 (up2 i 78 0 x22) 78 15 0) (va_up F 80 (upd (F 80) (Int32.toNatClampNeg (i 78 0)) y)) (va_up G 79 (vp_updL (G 79) (Int32.toNatClampNeg (i 78 0)) (nmw w))) _ := hH
            refine lv_aload_n (pc := 102) C0.1 C0.2.1 dX10_opener_102 rfl (lv_at hl 1 rfl) ?_
            refine xget (pc := 103) C0 hH 78 0 clX10 ⟨Nat.le_of_ble_eq_true rfl, Nat.le_of_ble_eq_true rfl⟩ ⟨rfl, rfl⟩ (Nat.le_of_ble_eq_true rfl) fl_X10_182 (v := .int x22) rfl dX10_opener_103 ?_
            exact xiret (pc := 106) C0 hr hH hS dX10_opener_106 ⟨(RO.g (RO.f (RO.i (RO.i RO.rf (by decide)) (by decide)) (by decide)) (by decide)), ⟨_, Or.inr (Or.inr (Or.inr ⟨(fun q => q.elim (fun q => by first | exact absurd q.1 (by assumption) | exact absurd q.2 (by assumption)) (fun q => q (by first | assumption | omega))), (hsr19.mp (by assumption)), fun q => absurd (congrArg Int32.toInt q) (show ¬ (i 78 0).toInt = Int32.toInt 8 from by omega), ex22, ex22, rfl⟩)), BkM.op hB (by omega) (by omega)⟩, Or.inr rfl⟩
          · have : Int32.toInt 8 = 8 := rfl
            have c21 := congrArg Int32.toInt c21
            refine lv_bipush (pc := 63) (v := (-4)) C0.1 C0.2.1 dX10_opener_63 (by decide) ?_
            exact xiret (pc := 65) C0 hr hH hS dX10_opener_65 ⟨RO.rf, ⟨S, Or.inr (Or.inr (Or.inl ⟨(fun q => q.elim (fun q => by first | exact absurd q.1 (by assumption) | exact absurd q.2 (by assumption)) (fun q => q (by first | assumption | omega))), (hsr19.mp (by assumption)), Int32.toInt_inj.mp (show (i 78 0).toInt = Int32.toInt 8 from by omega), rfl, rfl, rfl⟩)), hB⟩, Or.inl rfl⟩
        · have : Int32.toInt 0 = 0 := rfl
          have c20 : ¬ _ := fun q => c20 (Int32.toInt_inj.mp q)
          refine lv_bipush (pc := 51) (v := (-3)) C0.1 C0.2.1 dX10_opener_51 (by decide) ?_
          exact xiret (pc := 53) C0 hr hH hS dX10_opener_53 ⟨RO.rf, ⟨S, Or.inr (Or.inl ⟨(fun q => q.elim (fun q => by first | exact absurd q.1 (by assumption) | exact absurd q.2 (by assumption)) (fun q => q (by first | assumption | omega))), (Classical.not_not.mp (fun q => absurd (hsr19.mpr q) (by assumption))), rfl, rfl, rfl⟩), hB⟩, Or.inl rfl⟩
      · have : Int64.toInt 1 = 1 := rfl
        have : Int64.toInt 3 = 3 := rfl
        have c18 := in_0i c18
        refine lv_iload_n (pc := 34) C0.1 C0.2.1 dX10_opener_34 rfl (lv_at hl 3 rfl) ?_
        refine lv_iconst (pc := 35) (v := 5) C0.1 C0.2.1 dX10_opener_35 (by decide) ?_
        refine lv_icmp_eq (pc := 36) (tgt := 42) C0.1 C0.2.1 dX10_opener_36 (by decide) (fun c23 => ?_) (fun c23 => ?_)
        · have : Int32.toInt 5 = 5 := rfl
          have c23 := congrArg Int32.toInt c23
          refine lv_aload_n (pc := 42) C0.1 C0.2.1 dX10_opener_42 rfl (lv_at hl 1 rfl) ?_
          refine lv_lload (pc := 43) C0.1 C0.2.1 dX10_opener_43 (lv_at hl 0 rfl) ?_
          refine xcVI (pc := 45) 78 [.long (nmw w)] (m_isTold l D tA b i F G (nmw w) S hB) C0 hH hS clX10 rfl ⟨⟨Nat.le_of_ble_eq_true rfl, Nat.le_of_ble_eq_true rfl⟩, rfl, rfl⟩ cw_X10_208 rfl ⟨Nat.le_of_ble_eq_true rfl, Nat.le_of_ble_eq_true rfl⟩ hl.1 rfl (Nat.le_of_ble_eq_true rfl) dX10_opener_45 ⟨Nat.le_of_ble_eq_true rfl, Nat.le_of_ble_eq_true rfl⟩ (fun r24 ir24 Fr24 Gr24 _ locs hp hH hS => ?_)
          obtain ⟨hu, h01r24, hir24⟩ := hp
          cases hu
          have hsr24 : Int32.toInt r24 = Int32.toInt 0 ↔ ¬ S (nmw w) := it0 h01r24 hir24
          refine lv_if_eq (pc := 48) (tgt := 54) C0.1 C0.2.1 dX10_opener_48 (by decide) (fun c25 => ?_) (fun c25 => ?_)
          · have : Int32.toInt 0 = 0 := rfl
            have c25 := congrArg Int32.toInt c25
            refine lv_aload_n (pc := 54) C0.1 C0.2.1 dX10_opener_54 rfl (lv_at hl 1 rfl) ?_
            refine xget (pc := 55) C0 hH 78 0 clX10 ⟨Nat.le_of_ble_eq_true rfl, Nat.le_of_ble_eq_true rfl⟩ ⟨rfl, rfl⟩ (Nat.le_of_ble_eq_true rfl) fl_X10_182 (v := .int (i 78 0)) rfl dX10_opener_55 ?_
            refine lv_bipush (pc := 58) (v := 8) C0.1 C0.2.1 dX10_opener_58 (by decide) ?_
            refine lv_icmp_ne (pc := 60) (tgt := 66) C0.1 C0.2.1 dX10_opener_60 (by decide) (fun c26 => ?_) (fun c26 => ?_)
            · have : Int32.toInt 8 = 8 := rfl
              have c26 : ¬ _ := fun q => c26 (Int32.toInt_inj.mp q)
              refine lv_aload_n (pc := 66) C0.1 C0.2.1 dX10_opener_66 rfl (lv_at hl 1 rfl) ?_
              refine xget (pc := 67) C0 hH 78 1 clX10 ⟨Nat.le_of_ble_eq_true rfl, Nat.le_of_ble_eq_true rfl⟩ ⟨rfl, rfl⟩ (Nat.le_of_ble_eq_true rfl) fl_X10_7 (v := .ref (b + 79)) rfl dX10_opener_67 ?_
              refine lv_aload_n (pc := 70) C0.1 C0.2.1 dX10_opener_70 rfl (lv_at hl 1 rfl) ?_
              refine xget (pc := 71) C0 hH 78 0 clX10 ⟨Nat.le_of_ble_eq_true rfl, Nat.le_of_ble_eq_true rfl⟩ ⟨rfl, rfl⟩ (Nat.le_of_ble_eq_true rfl) fl_X10_182 (v := .int (i 78 0)) rfl dX10_opener_71 ?_
              refine lv_lload (pc := 74) C0.1 C0.2.1 dX10_opener_74 (lv_at hl 0 rfl) ?_
              refine xlast (pc := 76) (N := 8) C0 (Nat.le_of_ble_eq_true rfl) hH hS 79 ⟨Nat.le_of_ble_eq_true rfl, Nat.le_of_ble_eq_true rfl⟩ ⟨rfl, rfl⟩ (vI (by omega) (by omega)) dX10_opener_76 (fun _ locs hH hS => ?_)
              have hH : Hd D tA b 78 52 zz i F (va_up G 79 (vp_updL (G 79) (Int32.toNatClampNeg (i 78 0)) (nmw w))) _ := hH
              refine lv_aload_n (pc := 77) C0.1 C0.2.1 dX10_opener_77 rfl (lv_at hl 1 rfl) ?_
              refine xget (pc := 78) C0 hH 78 2 clX10 ⟨Nat.le_of_ble_eq_true rfl, Nat.le_of_ble_eq_true rfl⟩ ⟨rfl, rfl⟩ (Nat.le_of_ble_eq_true rfl) fl_X10_13 (v := .ref (b + 80)) rfl dX10_opener_78 ?_
              refine lv_aload_n (pc := 81) C0.1 C0.2.1 dX10_opener_81 rfl (lv_at hl 1 rfl) ?_
              refine xget (pc := 82) C0 hH 78 0 clX10 ⟨Nat.le_of_ble_eq_true rfl, Nat.le_of_ble_eq_true rfl⟩ ⟨rfl, rfl⟩ (Nat.le_of_ble_eq_true rfl) fl_X10_182 (v := .int (i 78 0)) rfl dX10_opener_82 ?_
              refine lv_iload_n (pc := 85) C0.1 C0.2.1 dX10_opener_85 rfl (lv_at hl 3 rfl) ?_
              refine xiast (pc := 86) (N := 8) C0 (Nat.le_of_ble_eq_true rfl) hH hS 80 ⟨Nat.le_of_ble_eq_true rfl, Nat.le_of_ble_eq_true rfl⟩ ⟨rfl, rfl⟩ (vI (by omega) (by omega)) dX10_opener_86 (fun _ locs hH hS _ => ?_)
              have hH : Hd D tA b 78 52 zz i (va_up F 80 (upd (F 80) (Int32.toNatClampNeg (i 78 0)) y)) (va_up G 79 (vp_updL (G 79) (Int32.toNatClampNeg (i 78 0)) (nmw w))) _ := hH
              refine lv_aload_n (pc := 87) C0.1 C0.2.1 dX10_opener_87 rfl (lv_at hl 1 rfl) ?_
              refine lv_dup (pc := 88) C0.1 C0.2.1 dX10_opener_88 rfl ?_
              refine xget (pc := 89) C0 hH 78 0 clX10 ⟨Nat.le_of_ble_eq_true rfl, Nat.le_of_ble_eq_true rfl⟩ ⟨rfl, rfl⟩ (Nat.le_of_ble_eq_true rfl) fl_X10_182 (v := .int (i 78 0)) rfl dX10_opener_89 ?_
              refine lv_iconst (pc := 92) (v := 1) C0.1 C0.2.1 dX10_opener_92 (by decide) ?_
              have : Int32.toInt 1 = 1 := rfl
              refine lv_iadd (pc := 93) C0.1 C0.2.1 dX10_opener_93 ?_
              refine lv_topi (fun x27 ex27 => ?_)
              have hx27 : Int32.toInt x27 = Int32.toInt (i 78 0) + Int32.toInt 1 := by rw [ex27]; exact fb_addI (by omega) (by omega)
              refine xputI (pc := 94) C0 (Nat.le_of_ble_eq_true rfl) hH hS 78 0 clX10 ⟨Nat.le_of_ble_eq_true rfl, Nat.le_of_ble_eq_true rfl⟩ ⟨rfl, rfl⟩ ⟨Nat.le_of_ble_eq_true rfl, rfl, rfl⟩ fl_X10_182 (x := x27) ⟨rfl, rfl⟩ dX10_opener_94 (fun _ locs hH hS _ => ?_)
              have hH : Hd D tA b 78 52 zz (up2 i 78 0 x27) (va_up F 80 (upd (F 80) (Int32.toNatClampNeg (i 78 0)) y)) (va_up G 79 (vp_updL (G 79) (Int32.toNatClampNeg (i 78 0)) (nmw w))) _ := hH
              refine lv_aload_n (pc := 97) C0.1 C0.2.1 dX10_opener_97 rfl (lv_at hl 1 rfl) ?_
              refine lv_iconst (pc := 98) (v := 0) C0.1 C0.2.1 dX10_opener_98 (by decide) ?_
              refine xputI (pc := 99) C0 (Nat.le_of_ble_eq_true rfl) hH hS 78 15 clX10 ⟨Nat.le_of_ble_eq_true rfl, Nat.le_of_ble_eq_true rfl⟩ ⟨rfl, rfl⟩ ⟨Nat.le_of_ble_eq_true rfl, rfl, rfl⟩ fl_X10_211 (x := 0) ⟨rfl, rfl⟩ dX10_opener_99 (fun _ locs hH hS _ => ?_)
              have hH : Hd D tA b 78 52 zz (up2 (up2 i 78 0 x27) 78 15 0) (va_up F 80 (upd (F 80) (Int32.toNatClampNeg (i 78 0)) y)) (va_up G 79 (vp_updL (G 79) (Int32.toNatClampNeg (i 78 0)) (nmw w))) _ := hH
              refine lv_aload_n (pc := 102) C0.1 C0.2.1 dX10_opener_102 rfl (lv_at hl 1 rfl) ?_
              refine xget (pc := 103) C0 hH 78 0 clX10 ⟨Nat.le_of_ble_eq_true rfl, Nat.le_of_ble_eq_true rfl⟩ ⟨rfl, rfl⟩ (Nat.le_of_ble_eq_true rfl) fl_X10_182 (v := .int x27) rfl dX10_opener_103 ?_
              exact xiret (pc := 106) C0 hr hH hS dX10_opener_106 ⟨(RO.g (RO.f (RO.i (RO.i RO.rf (by decide)) (by decide)) (by decide)) (by decide)), ⟨_, Or.inr (Or.inr (Or.inr ⟨(fun q => q.elim (fun q => by first | exact absurd q.1 (by assumption) | exact absurd q.2 (by assumption)) (fun q => q (by first | assumption | omega))), (hsr24.mp (by assumption)), fun q => absurd (congrArg Int32.toInt q) (show ¬ (i 78 0).toInt = Int32.toInt 8 from by omega), ex27, ex27, rfl⟩)), BkM.op hB (by omega) (by omega)⟩, Or.inr rfl⟩
            · have : Int32.toInt 8 = 8 := rfl
              have c26 := congrArg Int32.toInt c26
              refine lv_bipush (pc := 63) (v := (-4)) C0.1 C0.2.1 dX10_opener_63 (by decide) ?_
              exact xiret (pc := 65) C0 hr hH hS dX10_opener_65 ⟨RO.rf, ⟨S, Or.inr (Or.inr (Or.inl ⟨(fun q => q.elim (fun q => by first | exact absurd q.1 (by assumption) | exact absurd q.2 (by assumption)) (fun q => q (by first | assumption | omega))), (hsr24.mp (by assumption)), Int32.toInt_inj.mp (show (i 78 0).toInt = Int32.toInt 8 from by omega), rfl, rfl, rfl⟩)), hB⟩, Or.inl rfl⟩
          · have : Int32.toInt 0 = 0 := rfl
            have c25 : ¬ _ := fun q => c25 (Int32.toInt_inj.mp q)
            refine lv_bipush (pc := 51) (v := (-3)) C0.1 C0.2.1 dX10_opener_51 (by decide) ?_
            exact xiret (pc := 53) C0 hr hH hS dX10_opener_53 ⟨RO.rf, ⟨S, Or.inr (Or.inl ⟨(fun q => q.elim (fun q => by first | exact absurd q.1 (by assumption) | exact absurd q.2 (by assumption)) (fun q => q (by first | assumption | omega))), (Classical.not_not.mp (fun q => absurd (hsr24.mpr q) (by assumption))), rfl, rfl, rfl⟩), hB⟩, Or.inl rfl⟩
        · have : Int32.toInt 5 = 5 := rfl
          have c23 : ¬ _ := fun q => c23 (Int32.toInt_inj.mp q)
          refine lv_bipush (pc := 39) (v := (-2)) C0.1 C0.2.1 dX10_opener_39 (by decide) ?_
          exact xiret (pc := 41) C0 hr hH hS dX10_opener_41 ⟨RO.rf, ⟨S, Or.inl ⟨(by first | exact Or.inl ⟨by assumption, by assumption⟩ | exact Or.inr (by first | assumption | omega)), rfl, rfl, rfl⟩, hB⟩, Or.inl rfl⟩
set_option maxHeartbeats 4000000 in
set_option maxRecDepth 100000 in
theorem m_closer (l : Launch) (D : va_G) (tA : Nat → ClassId) (b : Nat) (i F : Nat → Nat → Int32) (G : Nat → Nat → Int64) (w : Int64) (S : Int64 → Prop) (hB : BkM i F G S) : xMI l yX10_closer cX10_closer 5 (some .int) 2 44 D tA b 78 52 i F G [.ref (b + 78), .long w] (fun r u => RO [6, 15] [83] i F G u ∧ (∃ S2, tlR (wdI (nmw w) = 0) (S (nmw w)) (i 78 6) 4 S S2 (fun x => x = nmw w) r (u.1 78 6) ∧ BkM u.1 u.2.1 u.2.2 S2) ∧ (u.1 78 15 = i 78 15 ∨ u.1 78 15 = 0)) := by
  refine xstart RX10 rfl (by decide) (Nat.le_of_ble_eq_true rfl) ?_
  intro p e s m below meth c ls C0 hr hH hS hl
  have hl : lv_has ls 5 [(0, .ref (b + 78)), (1, .long w)] := hl
  have hRg := hB.1
  refine lv_lload_n (pc := 0) C0.1 C0.2.1 dX10_closer_0 rfl (lv_at hl 1 rfl) ?_
  refine xcSL (pc := 1) [.long w] (c_X10_told l D tA b 78 52 i F G w) C0 hH hS cw_X10_195 rfl ⟨Nat.le_of_ble_eq_true rfl, Nat.le_of_ble_eq_true rfl⟩ hl.1 rfl (Nat.le_of_ble_eq_true rfl) dX10_closer_1 ⟨Nat.le_of_ble_eq_true rfl, Nat.le_of_ble_eq_true rfl⟩ (fun r1 ir1 Fr1 Gr1 _ locs hp hH hS => ?_)
  obtain ⟨hu, rfl⟩ := hp
  cases hu
  refine lv_lstore_n (pc := 4) (lv' := [(3, .long (nmw w)), (0, .ref (b + 78)), (1, .long w)]) C0.1 C0.2.1 dX10_closer_4 rfl hl (by decide) rfl (fun ls hl => ?_)
  refine lv_lload_n (pc := 5) C0.1 C0.2.1 dX10_closer_5 rfl (lv_at hl 0 rfl) ?_
  refine xcSI (pc := 6) [.long (nmw w)] (c_X10_isWord l D tA b 78 52 i F G (nmw w) (tl0_nmw _)) C0 hH hS cw_X10_199 rfl ⟨Nat.le_of_ble_eq_true rfl, Nat.le_of_ble_eq_true rfl⟩ hl.1 rfl (Nat.le_of_ble_eq_true rfl) dX10_closer_6 ⟨Nat.le_of_ble_eq_true rfl, Nat.le_of_ble_eq_true rfl⟩ (fun r2 ir2 Fr2 Gr2 _ locs hp hH hS => ?_)
  obtain ⟨hu, rfl⟩ := hp
  cases hu
  refine lv_if_ne (pc := 9) (tgt := 15) C0.1 C0.2.1 dX10_closer_9 (by decide) (fun c3 => ?_) (fun c3 => ?_)
  · refine lv_aload_n (pc := 15) C0.1 C0.2.1 dX10_closer_15 rfl (lv_at hl 1 rfl) ?_
    refine lv_lload_n (pc := 16) C0.1 C0.2.1 dX10_closer_16 rfl (lv_at hl 0 rfl) ?_
    refine xcVI (pc := 17) 78 [.long (nmw w)] (m_isTold l D tA b i F G (nmw w) S hB) C0 hH hS clX10 rfl ⟨⟨Nat.le_of_ble_eq_true rfl, Nat.le_of_ble_eq_true rfl⟩, rfl, rfl⟩ cw_X10_208 rfl ⟨Nat.le_of_ble_eq_true rfl, Nat.le_of_ble_eq_true rfl⟩ hl.1 rfl (Nat.le_of_ble_eq_true rfl) dX10_closer_17 ⟨Nat.le_of_ble_eq_true rfl, Nat.le_of_ble_eq_true rfl⟩ (fun r4 ir4 Fr4 Gr4 _ locs hp hH hS => ?_)
    obtain ⟨hu, h01r4, hir4⟩ := hp
    cases hu
    have hsr4 : Int32.toInt r4 = Int32.toInt 0 ↔ ¬ S (nmw w) := it0 h01r4 hir4
    refine lv_if_eq (pc := 20) (tgt := 26) C0.1 C0.2.1 dX10_closer_20 (by decide) (fun c5 => ?_) (fun c5 => ?_)
    · have : Int32.toInt 0 = 0 := rfl
      have c5 := congrArg Int32.toInt c5
      refine lv_aload_n (pc := 26) C0.1 C0.2.1 dX10_closer_26 rfl (lv_at hl 1 rfl) ?_
      refine xget (pc := 27) C0 hH 78 6 clX10 ⟨Nat.le_of_ble_eq_true rfl, Nat.le_of_ble_eq_true rfl⟩ ⟨rfl, rfl⟩ (Nat.le_of_ble_eq_true rfl) fl_X10_189 (v := .int (i 78 6)) rfl dX10_closer_27 ?_
      refine lv_iconst (pc := 30) (v := 4) C0.1 C0.2.1 dX10_closer_30 (by decide) ?_
      refine lv_icmp_ne (pc := 31) (tgt := 37) C0.1 C0.2.1 dX10_closer_31 (by decide) (fun c6 => ?_) (fun c6 => ?_)
      · have : Int32.toInt 4 = 4 := rfl
        have c6 : ¬ _ := fun q => c6 (Int32.toInt_inj.mp q)
        refine lv_aload_n (pc := 37) C0.1 C0.2.1 dX10_closer_37 rfl (lv_at hl 1 rfl) ?_
        refine xget (pc := 38) C0 hH 78 7 clX10 ⟨Nat.le_of_ble_eq_true rfl, Nat.le_of_ble_eq_true rfl⟩ ⟨rfl, rfl⟩ (Nat.le_of_ble_eq_true rfl) fl_X10_23 (v := .ref (b + 83)) rfl dX10_closer_38 ?_
        refine lv_aload_n (pc := 41) C0.1 C0.2.1 dX10_closer_41 rfl (lv_at hl 1 rfl) ?_
        refine xget (pc := 42) C0 hH 78 6 clX10 ⟨Nat.le_of_ble_eq_true rfl, Nat.le_of_ble_eq_true rfl⟩ ⟨rfl, rfl⟩ (Nat.le_of_ble_eq_true rfl) fl_X10_189 (v := .int (i 78 6)) rfl dX10_closer_42 ?_
        refine lv_lload_n (pc := 45) C0.1 C0.2.1 dX10_closer_45 rfl (lv_at hl 0 rfl) ?_
        refine xlast (pc := 46) (N := 4) C0 (Nat.le_of_ble_eq_true rfl) hH hS 83 ⟨Nat.le_of_ble_eq_true rfl, Nat.le_of_ble_eq_true rfl⟩ ⟨rfl, rfl⟩ (vI (by omega) (by omega)) dX10_closer_46 (fun _ locs hH hS => ?_)
        have hH : Hd D tA b 78 52 zz i F (va_up G 83 (vp_updL (G 83) (Int32.toNatClampNeg (i 78 6)) (nmw w))) _ := hH
        refine lv_aload_n (pc := 47) C0.1 C0.2.1 dX10_closer_47 rfl (lv_at hl 1 rfl) ?_
        refine lv_dup (pc := 48) C0.1 C0.2.1 dX10_closer_48 rfl ?_
        refine xget (pc := 49) C0 hH 78 6 clX10 ⟨Nat.le_of_ble_eq_true rfl, Nat.le_of_ble_eq_true rfl⟩ ⟨rfl, rfl⟩ (Nat.le_of_ble_eq_true rfl) fl_X10_189 (v := .int (i 78 6)) rfl dX10_closer_49 ?_
        refine lv_iconst (pc := 52) (v := 1) C0.1 C0.2.1 dX10_closer_52 (by decide) ?_
        have : Int32.toInt 1 = 1 := rfl
        refine lv_iadd (pc := 53) C0.1 C0.2.1 dX10_closer_53 ?_
        refine lv_topi (fun x7 ex7 => ?_)
        have hx7 : Int32.toInt x7 = Int32.toInt (i 78 6) + Int32.toInt 1 := by rw [ex7]; exact fb_addI (by omega) (by omega)
        refine xputI (pc := 54) C0 (Nat.le_of_ble_eq_true rfl) hH hS 78 6 clX10 ⟨Nat.le_of_ble_eq_true rfl, Nat.le_of_ble_eq_true rfl⟩ ⟨rfl, rfl⟩ ⟨Nat.le_of_ble_eq_true rfl, rfl, rfl⟩ fl_X10_189 (x := x7) ⟨rfl, rfl⟩ dX10_closer_54 (fun _ locs hH hS _ => ?_)
        have hH : Hd D tA b 78 52 zz (up2 i 78 6 x7) F (va_up G 83 (vp_updL (G 83) (Int32.toNatClampNeg (i 78 6)) (nmw w))) _ := hH
        refine lv_aload_n (pc := 57) C0.1 C0.2.1 dX10_closer_57 rfl (lv_at hl 1 rfl) ?_
        refine lv_iconst (pc := 58) (v := 0) C0.1 C0.2.1 dX10_closer_58 (by decide) ?_
        refine xputI (pc := 59) C0 (Nat.le_of_ble_eq_true rfl) hH hS 78 15 clX10 ⟨Nat.le_of_ble_eq_true rfl, Nat.le_of_ble_eq_true rfl⟩ ⟨rfl, rfl⟩ ⟨Nat.le_of_ble_eq_true rfl, rfl, rfl⟩ fl_X10_211 (x := 0) ⟨rfl, rfl⟩ dX10_closer_59 (fun _ locs hH hS _ => ?_)
        have hH : Hd D tA b 78 52 zz (up2 (up2 i 78 6 x7) 78 15 0) F (va_up G 83 (vp_updL (G 83) (Int32.toNatClampNeg (i 78 6)) (nmw w))) _ := hH
        refine lv_aload_n (pc := 62) C0.1 C0.2.1 dX10_closer_62 rfl (lv_at hl 1 rfl) ?_
        refine xget (pc := 63) C0 hH 78 6 clX10 ⟨Nat.le_of_ble_eq_true rfl, Nat.le_of_ble_eq_true rfl⟩ ⟨rfl, rfl⟩ (Nat.le_of_ble_eq_true rfl) fl_X10_189 (v := .int x7) rfl dX10_closer_63 ?_
        exact xiret (pc := 66) C0 hr hH hS dX10_closer_66 ⟨(RO.g (RO.i (RO.i RO.rf (by decide)) (by decide)) (by decide)), ⟨_, Or.inr (Or.inr (Or.inr ⟨(by assumption), (hsr4.mp (by assumption)), fun q => absurd (congrArg Int32.toInt q) (show ¬ (i 78 6).toInt = Int32.toInt 4 from by omega), ex7, ex7, rfl⟩)), BkM.cl hB (by omega) (by omega)⟩, Or.inr rfl⟩
      · have : Int32.toInt 4 = 4 := rfl
        have c6 := congrArg Int32.toInt c6
        refine lv_bipush (pc := 34) (v := (-4)) C0.1 C0.2.1 dX10_closer_34 (by decide) ?_
        exact xiret (pc := 36) C0 hr hH hS dX10_closer_36 ⟨RO.rf, ⟨S, Or.inr (Or.inr (Or.inl ⟨(by assumption), (hsr4.mp (by assumption)), Int32.toInt_inj.mp (show (i 78 6).toInt = Int32.toInt 4 from by omega), rfl, rfl, rfl⟩)), hB⟩, Or.inl rfl⟩
    · have : Int32.toInt 0 = 0 := rfl
      have c5 : ¬ _ := fun q => c5 (Int32.toInt_inj.mp q)
      refine lv_bipush (pc := 23) (v := (-3)) C0.1 C0.2.1 dX10_closer_23 (by decide) ?_
      exact xiret (pc := 25) C0 hr hH hS dX10_closer_25 ⟨RO.rf, ⟨S, Or.inr (Or.inl ⟨(by assumption), (Classical.not_not.mp (fun q => absurd (hsr4.mpr q) (by assumption))), rfl, rfl, rfl⟩), hB⟩, Or.inl rfl⟩
  · refine lv_bipush (pc := 12) (v := (-2)) C0.1 C0.2.1 dX10_closer_12 (by decide) ?_
    exact xiret (pc := 14) C0 hr hH hS dX10_closer_14 ⟨RO.rf, ⟨S, Or.inl ⟨(by assumption), rfl, rfl, rfl⟩, hB⟩, Or.inl rfl⟩
set_option maxHeartbeats 4000000 in
set_option maxRecDepth 100000 in
theorem m_goer (l : Launch) (D : va_G) (tA : Nat → ClassId) (b : Nat) (i F : Nat → Nat → Int32) (G : Nat → Nat → Int64) (x : Int32) (S : Int64 → Prop) (hB : BkM i F G S) : xMI l yX10_goer cX10_goer 2 (some .int) 2 46 D tA b 78 52 i F G [.ref (b + 78), .int x] (fun r u => RO [8, 15] [84] i F G u ∧ (∃ S2, tlR (mk1 x.toInt64 = 0) (S x.toInt64) (i 78 8) 4 S S2 (fun t => t = x.toInt64) r (u.1 78 8) ∧ BkM u.1 u.2.1 u.2.2 S2) ∧ (u.1 78 15 = i 78 15 ∨ u.1 78 15 = 0)) := by
  refine xstart RX10 rfl (by decide) (Nat.le_of_ble_eq_true rfl) ?_
  intro p e s m below meth c ls C0 hr hH hS hl
  have hl : lv_has ls 2 [(0, .ref (b + 78)), (1, .int x)] := hl
  have rg_x := fb_rng x
  have hRg := hB.1
  refine lv_iload_n (pc := 0) C0.1 C0.2.1 dX10_goer_0 rfl (lv_at hl 1 rfl) ?_
  refine lv_i2l (pc := 1) (v := x.toInt64) C0.1 C0.2.1 dX10_goer_1 rfl ?_
  refine xcSI (pc := 2) [.long x.toInt64] (c_X10_isOneMark l D tA b 78 52 i F G x.toInt64) C0 hH hS cw_X10_203 rfl ⟨Nat.le_of_ble_eq_true rfl, Nat.le_of_ble_eq_true rfl⟩ hl.1 rfl (Nat.le_of_ble_eq_true rfl) dX10_goer_2 ⟨Nat.le_of_ble_eq_true rfl, Nat.le_of_ble_eq_true rfl⟩ (fun r1 ir1 Fr1 Gr1 _ locs hp hH hS => ?_)
  obtain ⟨hu, rfl⟩ := hp
  cases hu
  refine lv_if_ne (pc := 5) (tgt := 11) C0.1 C0.2.1 dX10_goer_5 (by decide) (fun c2 => ?_) (fun c2 => ?_)
  · refine lv_aload_n (pc := 11) C0.1 C0.2.1 dX10_goer_11 rfl (lv_at hl 0 rfl) ?_
    refine lv_iload_n (pc := 12) C0.1 C0.2.1 dX10_goer_12 rfl (lv_at hl 1 rfl) ?_
    refine lv_i2l (pc := 13) (v := x.toInt64) C0.1 C0.2.1 dX10_goer_13 rfl ?_
    refine xcVI (pc := 14) 78 [.long x.toInt64] (m_isTold l D tA b i F G x.toInt64 S hB) C0 hH hS clX10 rfl ⟨⟨Nat.le_of_ble_eq_true rfl, Nat.le_of_ble_eq_true rfl⟩, rfl, rfl⟩ cw_X10_208 rfl ⟨Nat.le_of_ble_eq_true rfl, Nat.le_of_ble_eq_true rfl⟩ hl.1 rfl (Nat.le_of_ble_eq_true rfl) dX10_goer_14 ⟨Nat.le_of_ble_eq_true rfl, Nat.le_of_ble_eq_true rfl⟩ (fun r3 ir3 Fr3 Gr3 _ locs hp hH hS => ?_)
    obtain ⟨hu, h01r3, hir3⟩ := hp
    cases hu
    have hsr3 : Int32.toInt r3 = Int32.toInt 0 ↔ ¬ S x.toInt64 := it0 h01r3 hir3
    refine lv_if_eq (pc := 17) (tgt := 23) C0.1 C0.2.1 dX10_goer_17 (by decide) (fun c4 => ?_) (fun c4 => ?_)
    · have : Int32.toInt 0 = 0 := rfl
      have c4 := congrArg Int32.toInt c4
      refine lv_aload_n (pc := 23) C0.1 C0.2.1 dX10_goer_23 rfl (lv_at hl 0 rfl) ?_
      refine xget (pc := 24) C0 hH 78 8 clX10 ⟨Nat.le_of_ble_eq_true rfl, Nat.le_of_ble_eq_true rfl⟩ ⟨rfl, rfl⟩ (Nat.le_of_ble_eq_true rfl) fl_X10_192 (v := .int (i 78 8)) rfl dX10_goer_24 ?_
      refine lv_iconst (pc := 27) (v := 4) C0.1 C0.2.1 dX10_goer_27 (by decide) ?_
      refine lv_icmp_ne (pc := 28) (tgt := 34) C0.1 C0.2.1 dX10_goer_28 (by decide) (fun c5 => ?_) (fun c5 => ?_)
      · have : Int32.toInt 4 = 4 := rfl
        have c5 : ¬ _ := fun q => c5 (Int32.toInt_inj.mp q)
        refine lv_aload_n (pc := 34) C0.1 C0.2.1 dX10_goer_34 rfl (lv_at hl 0 rfl) ?_
        refine xget (pc := 35) C0 hH 78 9 clX10 ⟨Nat.le_of_ble_eq_true rfl, Nat.le_of_ble_eq_true rfl⟩ ⟨rfl, rfl⟩ (Nat.le_of_ble_eq_true rfl) fl_X10_26 (v := .ref (b + 84)) rfl dX10_goer_35 ?_
        refine lv_aload_n (pc := 38) C0.1 C0.2.1 dX10_goer_38 rfl (lv_at hl 0 rfl) ?_
        refine xget (pc := 39) C0 hH 78 8 clX10 ⟨Nat.le_of_ble_eq_true rfl, Nat.le_of_ble_eq_true rfl⟩ ⟨rfl, rfl⟩ (Nat.le_of_ble_eq_true rfl) fl_X10_192 (v := .int (i 78 8)) rfl dX10_goer_39 ?_
        refine lv_iload_n (pc := 42) C0.1 C0.2.1 dX10_goer_42 rfl (lv_at hl 1 rfl) ?_
        refine xiast (pc := 43) (N := 4) C0 (Nat.le_of_ble_eq_true rfl) hH hS 84 ⟨Nat.le_of_ble_eq_true rfl, Nat.le_of_ble_eq_true rfl⟩ ⟨rfl, rfl⟩ (vI (by omega) (by omega)) dX10_goer_43 (fun _ locs hH hS _ => ?_)
        have hH : Hd D tA b 78 52 zz i (va_up F 84 (upd (F 84) (Int32.toNatClampNeg (i 78 8)) x)) G _ := hH
        refine lv_aload_n (pc := 44) C0.1 C0.2.1 dX10_goer_44 rfl (lv_at hl 0 rfl) ?_
        refine lv_dup (pc := 45) C0.1 C0.2.1 dX10_goer_45 rfl ?_
        refine xget (pc := 46) C0 hH 78 8 clX10 ⟨Nat.le_of_ble_eq_true rfl, Nat.le_of_ble_eq_true rfl⟩ ⟨rfl, rfl⟩ (Nat.le_of_ble_eq_true rfl) fl_X10_192 (v := .int (i 78 8)) rfl dX10_goer_46 ?_
        refine lv_iconst (pc := 49) (v := 1) C0.1 C0.2.1 dX10_goer_49 (by decide) ?_
        have : Int32.toInt 1 = 1 := rfl
        refine lv_iadd (pc := 50) C0.1 C0.2.1 dX10_goer_50 ?_
        refine lv_topi (fun x6 ex6 => ?_)
        have hx6 : Int32.toInt x6 = Int32.toInt (i 78 8) + Int32.toInt 1 := by rw [ex6]; exact fb_addI (by omega) (by omega)
        refine xputI (pc := 51) C0 (Nat.le_of_ble_eq_true rfl) hH hS 78 8 clX10 ⟨Nat.le_of_ble_eq_true rfl, Nat.le_of_ble_eq_true rfl⟩ ⟨rfl, rfl⟩ ⟨Nat.le_of_ble_eq_true rfl, rfl, rfl⟩ fl_X10_192 (x := x6) ⟨rfl, rfl⟩ dX10_goer_51 (fun _ locs hH hS _ => ?_)
        have hH : Hd D tA b 78 52 zz (up2 i 78 8 x6) (va_up F 84 (upd (F 84) (Int32.toNatClampNeg (i 78 8)) x)) G _ := hH
        refine lv_aload_n (pc := 54) C0.1 C0.2.1 dX10_goer_54 rfl (lv_at hl 0 rfl) ?_
        refine lv_iconst (pc := 55) (v := 0) C0.1 C0.2.1 dX10_goer_55 (by decide) ?_
        refine xputI (pc := 56) C0 (Nat.le_of_ble_eq_true rfl) hH hS 78 15 clX10 ⟨Nat.le_of_ble_eq_true rfl, Nat.le_of_ble_eq_true rfl⟩ ⟨rfl, rfl⟩ ⟨Nat.le_of_ble_eq_true rfl, rfl, rfl⟩ fl_X10_211 (x := 0) ⟨rfl, rfl⟩ dX10_goer_56 (fun _ locs hH hS _ => ?_)
        have hH : Hd D tA b 78 52 zz (up2 (up2 i 78 8 x6) 78 15 0) (va_up F 84 (upd (F 84) (Int32.toNatClampNeg (i 78 8)) x)) G _ := hH
        refine lv_aload_n (pc := 59) C0.1 C0.2.1 dX10_goer_59 rfl (lv_at hl 0 rfl) ?_
        refine xget (pc := 60) C0 hH 78 8 clX10 ⟨Nat.le_of_ble_eq_true rfl, Nat.le_of_ble_eq_true rfl⟩ ⟨rfl, rfl⟩ (Nat.le_of_ble_eq_true rfl) fl_X10_192 (v := .int x6) rfl dX10_goer_60 ?_
        exact xiret (pc := 63) C0 hr hH hS dX10_goer_63 ⟨(RO.f (RO.i (RO.i RO.rf (by decide)) (by decide)) (by decide)), ⟨_, Or.inr (Or.inr (Or.inr ⟨(by assumption), (hsr3.mp (by assumption)), fun q => absurd (congrArg Int32.toInt q) (show ¬ (i 78 8).toInt = Int32.toInt 4 from by omega), ex6, ex6, rfl⟩)), BkM.go hB (by omega) (by omega)⟩, Or.inr rfl⟩
      · have : Int32.toInt 4 = 4 := rfl
        have c5 := congrArg Int32.toInt c5
        refine lv_bipush (pc := 31) (v := (-4)) C0.1 C0.2.1 dX10_goer_31 (by decide) ?_
        exact xiret (pc := 33) C0 hr hH hS dX10_goer_33 ⟨RO.rf, ⟨S, Or.inr (Or.inr (Or.inl ⟨(by assumption), (hsr3.mp (by assumption)), Int32.toInt_inj.mp (show (i 78 8).toInt = Int32.toInt 4 from by omega), rfl, rfl, rfl⟩)), hB⟩, Or.inl rfl⟩
    · have : Int32.toInt 0 = 0 := rfl
      have c4 : ¬ _ := fun q => c4 (Int32.toInt_inj.mp q)
      refine lv_bipush (pc := 20) (v := (-3)) C0.1 C0.2.1 dX10_goer_20 (by decide) ?_
      exact xiret (pc := 22) C0 hr hH hS dX10_goer_22 ⟨RO.rf, ⟨S, Or.inr (Or.inl ⟨(by assumption), (Classical.not_not.mp (fun q => absurd (hsr3.mpr q) (by assumption))), rfl, rfl, rfl⟩), hB⟩, Or.inl rfl⟩
  · refine lv_bipush (pc := 8) (v := (-2)) C0.1 C0.2.1 dX10_goer_8 (by decide) ?_
    exact xiret (pc := 10) C0 hr hH hS dX10_goer_10 ⟨RO.rf, ⟨S, Or.inl ⟨(by assumption), rfl, rfl, rfl⟩, hB⟩, Or.inl rfl⟩
set_option maxHeartbeats 4000000 in
set_option maxRecDepth 100000 in
theorem m_pair (l : Launch) (D : va_G) (tA : Nat → ClassId) (b : Nat) (i F : Nat → Nat → Int32) (G : Nat → Nat → Int64) (x y : Int32) (S : Int64 → Prop) (hB : BkM i F G S) : xMI l yX10_pair cX10_pair 3 (some .int) 2 46 D tA b 78 52 i F G [.ref (b + 78), .int x, .int y] (fun r u => RO [3, 15] [81, 82] i F G u ∧ (∃ S2, tlR (mk1 x.toInt64 = 0 ∨ mk1 y.toInt64 = 0) (S x.toInt64 ∨ S y.toInt64 ∨ x = y) (i 78 3) 4 S S2 (fun t => t = x.toInt64 ∨ t = y.toInt64) r (u.1 78 3) ∧ BkM u.1 u.2.1 u.2.2 S2) ∧ (u.1 78 15 = i 78 15 ∨ u.1 78 15 = 0)) := by
  refine xstart RX10 rfl (by decide) (Nat.le_of_ble_eq_true rfl) ?_
  intro p e s m below meth c ls C0 hr hH hS hl
  have hl : lv_has ls 3 [(0, .ref (b + 78)), (1, .int x), (2, .int y)] := hl
  have rg_x := fb_rng x
  have rg_y := fb_rng y
  have hRg := hB.1
  refine lv_iload_n (pc := 0) C0.1 C0.2.1 dX10_pair_0 rfl (lv_at hl 1 rfl) ?_
  refine lv_i2l (pc := 1) (v := x.toInt64) C0.1 C0.2.1 dX10_pair_1 rfl ?_
  refine xcSI (pc := 2) [.long x.toInt64] (c_X10_isOneMark l D tA b 78 52 i F G x.toInt64) C0 hH hS cw_X10_203 rfl ⟨Nat.le_of_ble_eq_true rfl, Nat.le_of_ble_eq_true rfl⟩ hl.1 rfl (Nat.le_of_ble_eq_true rfl) dX10_pair_2 ⟨Nat.le_of_ble_eq_true rfl, Nat.le_of_ble_eq_true rfl⟩ (fun r1 ir1 Fr1 Gr1 _ locs hp hH hS => ?_)
  obtain ⟨hu, rfl⟩ := hp
  cases hu
  refine lv_if_eq (pc := 5) (tgt := 16) C0.1 C0.2.1 dX10_pair_5 (by decide) (fun c2 => ?_) (fun c2 => ?_)
  · refine lv_bipush (pc := 16) (v := (-2)) C0.1 C0.2.1 dX10_pair_16 (by decide) ?_
    exact xiret (pc := 18) C0 hr hH hS dX10_pair_18 ⟨RO.rf, ⟨S, Or.inl ⟨(by first | exact Or.inl (by assumption) | exact Or.inr (by assumption)), rfl, rfl, rfl⟩, hB⟩, Or.inl rfl⟩
  · refine lv_iload_n (pc := 8) C0.1 C0.2.1 dX10_pair_8 rfl (lv_at hl 2 rfl) ?_
    refine lv_i2l (pc := 9) (v := y.toInt64) C0.1 C0.2.1 dX10_pair_9 rfl ?_
    refine xcSI (pc := 10) [.long y.toInt64] (c_X10_isOneMark l D tA b 78 52 i F G y.toInt64) C0 hH hS cw_X10_203 rfl ⟨Nat.le_of_ble_eq_true rfl, Nat.le_of_ble_eq_true rfl⟩ hl.1 rfl (Nat.le_of_ble_eq_true rfl) dX10_pair_10 ⟨Nat.le_of_ble_eq_true rfl, Nat.le_of_ble_eq_true rfl⟩ (fun r3 ir3 Fr3 Gr3 _ locs hp hH hS => ?_)
    obtain ⟨hu, rfl⟩ := hp
    cases hu
    refine lv_if_ne (pc := 13) (tgt := 19) C0.1 C0.2.1 dX10_pair_13 (by decide) (fun c4 => ?_) (fun c4 => ?_)
    · refine lv_iload_n (pc := 19) C0.1 C0.2.1 dX10_pair_19 rfl (lv_at hl 1 rfl) ?_
      refine lv_iload_n (pc := 20) C0.1 C0.2.1 dX10_pair_20 rfl (lv_at hl 2 rfl) ?_
      refine lv_icmp_eq (pc := 21) (tgt := 42) C0.1 C0.2.1 dX10_pair_21 (by decide) (fun c5 => ?_) (fun c5 => ?_)
      · have c5 := congrArg Int32.toInt c5
        refine lv_bipush (pc := 42) (v := (-3)) C0.1 C0.2.1 dX10_pair_42 (by decide) ?_
        exact xiret (pc := 44) C0 hr hH hS dX10_pair_44 ⟨RO.rf, ⟨S, Or.inr (Or.inl ⟨(fun q => q.elim (fun q => absurd q (by assumption)) (fun q => absurd q (by assumption))), (Or.inr (Or.inr (by first | assumption | exact Int32.toInt_inj.mp (by assumption)))), rfl, rfl, rfl⟩), hB⟩, Or.inl rfl⟩
      · have c5 : ¬ _ := fun q => c5 (Int32.toInt_inj.mp q)
        refine lv_aload_n (pc := 24) C0.1 C0.2.1 dX10_pair_24 rfl (lv_at hl 0 rfl) ?_
        refine lv_iload_n (pc := 25) C0.1 C0.2.1 dX10_pair_25 rfl (lv_at hl 1 rfl) ?_
        refine lv_i2l (pc := 26) (v := x.toInt64) C0.1 C0.2.1 dX10_pair_26 rfl ?_
        refine xcVI (pc := 27) 78 [.long x.toInt64] (m_isTold l D tA b i F G x.toInt64 S hB) C0 hH hS clX10 rfl ⟨⟨Nat.le_of_ble_eq_true rfl, Nat.le_of_ble_eq_true rfl⟩, rfl, rfl⟩ cw_X10_208 rfl ⟨Nat.le_of_ble_eq_true rfl, Nat.le_of_ble_eq_true rfl⟩ hl.1 rfl (Nat.le_of_ble_eq_true rfl) dX10_pair_27 ⟨Nat.le_of_ble_eq_true rfl, Nat.le_of_ble_eq_true rfl⟩ (fun r6 ir6 Fr6 Gr6 _ locs hp hH hS => ?_)
        obtain ⟨hu, h01r6, hir6⟩ := hp
        cases hu
        have hsr6 : Int32.toInt r6 = Int32.toInt 0 ↔ ¬ S x.toInt64 := it0 h01r6 hir6
        refine lv_if_ne (pc := 30) (tgt := 42) C0.1 C0.2.1 dX10_pair_30 (by decide) (fun c7 => ?_) (fun c7 => ?_)
        · have : Int32.toInt 0 = 0 := rfl
          have c7 : ¬ _ := fun q => c7 (Int32.toInt_inj.mp q)
          refine lv_bipush (pc := 42) (v := (-3)) C0.1 C0.2.1 dX10_pair_42 (by decide) ?_
          exact xiret (pc := 44) C0 hr hH hS dX10_pair_44 ⟨RO.rf, ⟨S, Or.inr (Or.inl ⟨(fun q => q.elim (fun q => absurd q (by assumption)) (fun q => absurd q (by assumption))), (by first | exact Or.inr (Or.inr (Int32.toInt_inj.mp (by assumption))) | exact Or.inr (Or.inr (by assumption)) | exact Or.inl (Classical.not_not.mp (fun q => absurd (hsr6.mpr q) (by assumption))) | exact Or.inr (Or.inl (Classical.not_not.mp (fun q => absurd (hsr6.mpr q) (by assumption))))), rfl, rfl, rfl⟩), hB⟩, Or.inl rfl⟩
        · have : Int32.toInt 0 = 0 := rfl
          have c7 := congrArg Int32.toInt c7
          refine lv_aload_n (pc := 33) C0.1 C0.2.1 dX10_pair_33 rfl (lv_at hl 0 rfl) ?_
          refine lv_iload_n (pc := 34) C0.1 C0.2.1 dX10_pair_34 rfl (lv_at hl 2 rfl) ?_
          refine lv_i2l (pc := 35) (v := y.toInt64) C0.1 C0.2.1 dX10_pair_35 rfl ?_
          refine xcVI (pc := 36) 78 [.long y.toInt64] (m_isTold l D tA b i F G y.toInt64 S hB) C0 hH hS clX10 rfl ⟨⟨Nat.le_of_ble_eq_true rfl, Nat.le_of_ble_eq_true rfl⟩, rfl, rfl⟩ cw_X10_208 rfl ⟨Nat.le_of_ble_eq_true rfl, Nat.le_of_ble_eq_true rfl⟩ hl.1 rfl (Nat.le_of_ble_eq_true rfl) dX10_pair_36 ⟨Nat.le_of_ble_eq_true rfl, Nat.le_of_ble_eq_true rfl⟩ (fun r8 ir8 Fr8 Gr8 _ locs hp hH hS => ?_)
          obtain ⟨hu, h01r8, hir8⟩ := hp
          cases hu
          have hsr8 : Int32.toInt r8 = Int32.toInt 0 ↔ ¬ S y.toInt64 := it0 h01r8 hir8
          refine lv_if_eq (pc := 39) (tgt := 45) C0.1 C0.2.1 dX10_pair_39 (by decide) (fun c9 => ?_) (fun c9 => ?_)
          · have : Int32.toInt 0 = 0 := rfl
            have c9 := congrArg Int32.toInt c9
            refine lv_aload_n (pc := 45) C0.1 C0.2.1 dX10_pair_45 rfl (lv_at hl 0 rfl) ?_
            refine xget (pc := 46) C0 hH 78 3 clX10 ⟨Nat.le_of_ble_eq_true rfl, Nat.le_of_ble_eq_true rfl⟩ ⟨rfl, rfl⟩ (Nat.le_of_ble_eq_true rfl) fl_X10_186 (v := .int (i 78 3)) rfl dX10_pair_46 ?_
            refine lv_iconst (pc := 49) (v := 4) C0.1 C0.2.1 dX10_pair_49 (by decide) ?_
            refine lv_icmp_ne (pc := 50) (tgt := 56) C0.1 C0.2.1 dX10_pair_50 (by decide) (fun c10 => ?_) (fun c10 => ?_)
            · have : Int32.toInt 4 = 4 := rfl
              have c10 : ¬ _ := fun q => c10 (Int32.toInt_inj.mp q)
              refine lv_aload_n (pc := 56) C0.1 C0.2.1 dX10_pair_56 rfl (lv_at hl 0 rfl) ?_
              refine xget (pc := 57) C0 hH 78 4 clX10 ⟨Nat.le_of_ble_eq_true rfl, Nat.le_of_ble_eq_true rfl⟩ ⟨rfl, rfl⟩ (Nat.le_of_ble_eq_true rfl) fl_X10_17 (v := .ref (b + 81)) rfl dX10_pair_57 ?_
              refine lv_aload_n (pc := 60) C0.1 C0.2.1 dX10_pair_60 rfl (lv_at hl 0 rfl) ?_
              refine xget (pc := 61) C0 hH 78 3 clX10 ⟨Nat.le_of_ble_eq_true rfl, Nat.le_of_ble_eq_true rfl⟩ ⟨rfl, rfl⟩ (Nat.le_of_ble_eq_true rfl) fl_X10_186 (v := .int (i 78 3)) rfl dX10_pair_61 ?_
              refine lv_iload_n (pc := 64) C0.1 C0.2.1 dX10_pair_64 rfl (lv_at hl 1 rfl) ?_
              refine xiast (pc := 65) (N := 4) C0 (Nat.le_of_ble_eq_true rfl) hH hS 81 ⟨Nat.le_of_ble_eq_true rfl, Nat.le_of_ble_eq_true rfl⟩ ⟨rfl, rfl⟩ (vI (by omega) (by omega)) dX10_pair_65 (fun _ locs hH hS _ => ?_)
              have hH : Hd D tA b 78 52 zz i (va_up F 81 (upd (F 81) (Int32.toNatClampNeg (i 78 3)) x)) G _ := hH
              refine lv_aload_n (pc := 66) C0.1 C0.2.1 dX10_pair_66 rfl (lv_at hl 0 rfl) ?_
              refine xget (pc := 67) C0 hH 78 5 clX10 ⟨Nat.le_of_ble_eq_true rfl, Nat.le_of_ble_eq_true rfl⟩ ⟨rfl, rfl⟩ (Nat.le_of_ble_eq_true rfl) fl_X10_20 (v := .ref (b + 82)) rfl dX10_pair_67 ?_
              refine lv_aload_n (pc := 70) C0.1 C0.2.1 dX10_pair_70 rfl (lv_at hl 0 rfl) ?_
              refine xget (pc := 71) C0 hH 78 3 clX10 ⟨Nat.le_of_ble_eq_true rfl, Nat.le_of_ble_eq_true rfl⟩ ⟨rfl, rfl⟩ (Nat.le_of_ble_eq_true rfl) fl_X10_186 (v := .int (i 78 3)) rfl dX10_pair_71 ?_
              refine lv_iload_n (pc := 74) C0.1 C0.2.1 dX10_pair_74 rfl (lv_at hl 2 rfl) ?_
              refine xiast (pc := 75) (N := 4) C0 (Nat.le_of_ble_eq_true rfl) hH hS 82 ⟨Nat.le_of_ble_eq_true rfl, Nat.le_of_ble_eq_true rfl⟩ ⟨rfl, rfl⟩ (vI (by omega) (by omega)) dX10_pair_75 (fun _ locs hH hS _ => ?_)
              have hH : Hd D tA b 78 52 zz i (va_up (va_up F 81 (upd (F 81) (Int32.toNatClampNeg (i 78 3)) x)) 82 (upd (F 82) (Int32.toNatClampNeg (i 78 3)) y)) G _ := hH
              refine lv_aload_n (pc := 76) C0.1 C0.2.1 dX10_pair_76 rfl (lv_at hl 0 rfl) ?_
              refine lv_dup (pc := 77) C0.1 C0.2.1 dX10_pair_77 rfl ?_
              refine xget (pc := 78) C0 hH 78 3 clX10 ⟨Nat.le_of_ble_eq_true rfl, Nat.le_of_ble_eq_true rfl⟩ ⟨rfl, rfl⟩ (Nat.le_of_ble_eq_true rfl) fl_X10_186 (v := .int (i 78 3)) rfl dX10_pair_78 ?_
              refine lv_iconst (pc := 81) (v := 1) C0.1 C0.2.1 dX10_pair_81 (by decide) ?_
              have : Int32.toInt 1 = 1 := rfl
              refine lv_iadd (pc := 82) C0.1 C0.2.1 dX10_pair_82 ?_
              refine lv_topi (fun x11 ex11 => ?_)
              have hx11 : Int32.toInt x11 = Int32.toInt (i 78 3) + Int32.toInt 1 := by rw [ex11]; exact fb_addI (by omega) (by omega)
              refine xputI (pc := 83) C0 (Nat.le_of_ble_eq_true rfl) hH hS 78 3 clX10 ⟨Nat.le_of_ble_eq_true rfl, Nat.le_of_ble_eq_true rfl⟩ ⟨rfl, rfl⟩ ⟨Nat.le_of_ble_eq_true rfl, rfl, rfl⟩ fl_X10_186 (x := x11) ⟨rfl, rfl⟩ dX10_pair_83 (fun _ locs hH hS _ => ?_)
              have hH : Hd D tA b 78 52 zz (up2 i 78 3 x11) (va_up (va_up F 81 (upd (F 81) (Int32.toNatClampNeg (i 78 3)) x)) 82 (upd (F 82) (Int32.toNatClampNeg (i 78 3)) y)) G _ := hH
              refine lv_aload_n (pc := 86) C0.1 C0.2.1 dX10_pair_86 rfl (lv_at hl 0 rfl) ?_
              refine lv_iconst (pc := 87) (v := 0) C0.1 C0.2.1 dX10_pair_87 (by decide) ?_
              refine xputI (pc := 88) C0 (Nat.le_of_ble_eq_true rfl) hH hS 78 15 clX10 ⟨Nat.le_of_ble_eq_true rfl, Nat.le_of_ble_eq_true rfl⟩ ⟨rfl, rfl⟩ ⟨Nat.le_of_ble_eq_true rfl, rfl, rfl⟩ fl_X10_211 (x := 0) ⟨rfl, rfl⟩ dX10_pair_88 (fun _ locs hH hS _ => ?_)
              have hH : Hd D tA b 78 52 zz (up2 (up2 i 78 3 x11) 78 15 0) (va_up (va_up F 81 (upd (F 81) (Int32.toNatClampNeg (i 78 3)) x)) 82 (upd (F 82) (Int32.toNatClampNeg (i 78 3)) y)) G _ := hH
              refine lv_aload_n (pc := 91) C0.1 C0.2.1 dX10_pair_91 rfl (lv_at hl 0 rfl) ?_
              refine xget (pc := 92) C0 hH 78 3 clX10 ⟨Nat.le_of_ble_eq_true rfl, Nat.le_of_ble_eq_true rfl⟩ ⟨rfl, rfl⟩ (Nat.le_of_ble_eq_true rfl) fl_X10_186 (v := .int x11) rfl dX10_pair_92 ?_
              exact xiret (pc := 95) C0 hr hH hS dX10_pair_95 ⟨(RO.f (RO.f (RO.i (RO.i RO.rf (by decide)) (by decide)) (by decide)) (by decide)), ⟨_, Or.inr (Or.inr (Or.inr ⟨(fun q => q.elim (fun q => absurd q (by assumption)) (fun q => absurd q (by assumption))), (fun q => q.elim (hsr6.mp (by assumption)) (fun q => q.elim (hsr8.mp (by assumption)) (fun q => by first | exact absurd q (by assumption) | exact absurd (congrArg Int32.toInt q) (by assumption)))), fun q => absurd (congrArg Int32.toInt q) (show ¬ (i 78 3).toInt = Int32.toInt 4 from by omega), ex11, ex11, rfl⟩)), BkM.pr hB (by omega) (by omega)⟩, Or.inr rfl⟩
            · have : Int32.toInt 4 = 4 := rfl
              have c10 := congrArg Int32.toInt c10
              refine lv_bipush (pc := 53) (v := (-4)) C0.1 C0.2.1 dX10_pair_53 (by decide) ?_
              exact xiret (pc := 55) C0 hr hH hS dX10_pair_55 ⟨RO.rf, ⟨S, Or.inr (Or.inr (Or.inl ⟨(fun q => q.elim (fun q => absurd q (by assumption)) (fun q => absurd q (by assumption))), (fun q => q.elim (hsr6.mp (by assumption)) (fun q => q.elim (hsr8.mp (by assumption)) (fun q => by first | exact absurd q (by assumption) | exact absurd (congrArg Int32.toInt q) (by assumption)))), Int32.toInt_inj.mp (show (i 78 3).toInt = Int32.toInt 4 from by omega), rfl, rfl, rfl⟩)), hB⟩, Or.inl rfl⟩
          · have : Int32.toInt 0 = 0 := rfl
            have c9 : ¬ _ := fun q => c9 (Int32.toInt_inj.mp q)
            refine lv_bipush (pc := 42) (v := (-3)) C0.1 C0.2.1 dX10_pair_42 (by decide) ?_
            exact xiret (pc := 44) C0 hr hH hS dX10_pair_44 ⟨RO.rf, ⟨S, Or.inr (Or.inl ⟨(fun q => q.elim (fun q => absurd q (by assumption)) (fun q => absurd q (by assumption))), (by first | exact Or.inr (Or.inr (Int32.toInt_inj.mp (by assumption))) | exact Or.inr (Or.inr (by assumption)) | exact Or.inl (Classical.not_not.mp (fun q => absurd (hsr6.mpr q) (by assumption))) | exact Or.inr (Or.inl (Classical.not_not.mp (fun q => absurd (hsr8.mpr q) (by assumption))))), rfl, rfl, rfl⟩), hB⟩, Or.inl rfl⟩
    · refine lv_bipush (pc := 16) (v := (-2)) C0.1 C0.2.1 dX10_pair_16 (by decide) ?_
      exact xiret (pc := 18) C0 hr hH hS dX10_pair_18 ⟨RO.rf, ⟨S, Or.inl ⟨(by first | exact Or.inl (by assumption) | exact Or.inr (by assumption)), rfl, rfl, rfl⟩, hB⟩, Or.inl rfl⟩
set_option maxHeartbeats 4000000 in
set_option maxRecDepth 100000 in
theorem m_tab (l : Launch) (D : va_G) (tA : Nat → ClassId) (b : Nat) (i F : Nat → Nat → Int32) (G : Nat → Nat → Int64) (x : Int32) (S : Int64 → Prop) (hB : BkM i F G S) : xMI l yX10_tab cX10_tab 3 (some .int) 1 25 D tA b 78 52 i F G [.ref (b + 78), .int x] (fun r u => RO [10, 15] [] i F G u ∧ ((¬ (0 ≤ x.toInt ∧ x.toInt ≤ 8) ∧ r = -2 ∧ u.1 78 10 = i 78 10) ∨ ((0 ≤ x.toInt ∧ x.toInt ≤ 8) ∧ r = i 78 10 ∧ u.1 78 10 = x)) ∧ BkM u.1 u.2.1 u.2.2 S ∧ (u.1 78 15 = i 78 15 ∨ u.1 78 15 = 0)) := by
  refine xstart RX10 rfl (by decide) (Nat.le_of_ble_eq_true rfl) ?_
  intro p e s m below meth c ls C0 hr hH hS hl
  have hl : lv_has ls 3 [(0, .ref (b + 78)), (1, .int x)] := hl
  have rg_x := fb_rng x
  refine lv_iload_n (pc := 0) C0.1 C0.2.1 dX10_tab_0 rfl (lv_at hl 1 rfl) ?_
  refine lv_i2l (pc := 1) (v := x.toInt64) C0.1 C0.2.1 dX10_tab_1 rfl ?_
  refine lv_lconst (pc := 2) (v := 0) C0.1 C0.2.1 dX10_tab_2 (by decide) ?_
  refine lv_ldc2 (pc := 3) C0.1 C0.2.1 C0.2.2.2.1 (C0.2.2.2.2.1 _ kl_X10_214) dX10_tab_3 ?_
  refine xcSI (pc := 6) [.long x.toInt64, .long 0, .long 8] (c_X10_in l D tA b 78 52 i F G x.toInt64 0 8) C0 hH hS cw_X10_175 rfl ⟨Nat.le_of_ble_eq_true rfl, Nat.le_of_ble_eq_true rfl⟩ hl.1 rfl (Nat.le_of_ble_eq_true rfl) dX10_tab_6 ⟨Nat.le_of_ble_eq_true rfl, Nat.le_of_ble_eq_true rfl⟩ (fun r1 ir1 Fr1 Gr1 _ locs hp hH hS => ?_)
  obtain ⟨hu, rfl⟩ := hp
  cases hu
  refine lv_if_ne (pc := 9) (tgt := 15) C0.1 C0.2.1 dX10_tab_9 (by decide) (fun c2 => ?_) (fun c2 => ?_)
  · have : Int64.toInt 0 = 0 := rfl
    have : Int64.toInt 8 = 8 := rfl
    have c2 := in_1i c2
    refine lv_aload_n (pc := 15) C0.1 C0.2.1 dX10_tab_15 rfl (lv_at hl 0 rfl) ?_
    refine xget (pc := 16) C0 hH 78 10 clX10 ⟨Nat.le_of_ble_eq_true rfl, Nat.le_of_ble_eq_true rfl⟩ ⟨rfl, rfl⟩ (Nat.le_of_ble_eq_true rfl) fl_X10_216 (v := .int (i 78 10)) rfl dX10_tab_16 ?_
    refine lv_topi (fun x3 ex3 => ?_)
    refine lv_istore_n (pc := 19) (lv' := [(2, .int x3), (0, .ref (b + 78)), (1, .int x)]) C0.1 C0.2.1 dX10_tab_19 rfl hl (by decide) rfl (fun ls hl => ?_)
    refine lv_aload_n (pc := 20) C0.1 C0.2.1 dX10_tab_20 rfl (lv_at hl 1 rfl) ?_
    refine lv_iload_n (pc := 21) C0.1 C0.2.1 dX10_tab_21 rfl (lv_at hl 2 rfl) ?_
    refine xputI (pc := 22) C0 (Nat.le_of_ble_eq_true rfl) hH hS 78 10 clX10 ⟨Nat.le_of_ble_eq_true rfl, Nat.le_of_ble_eq_true rfl⟩ ⟨rfl, rfl⟩ ⟨Nat.le_of_ble_eq_true rfl, rfl, rfl⟩ fl_X10_216 (x := x) ⟨rfl, rfl⟩ dX10_tab_22 (fun _ locs hH hS _ => ?_)
    have hH : Hd D tA b 78 52 zz (up2 i 78 10 x) F G _ := hH
    refine lv_aload_n (pc := 25) C0.1 C0.2.1 dX10_tab_25 rfl (lv_at hl 1 rfl) ?_
    refine lv_iconst (pc := 26) (v := 0) C0.1 C0.2.1 dX10_tab_26 (by decide) ?_
    refine xputI (pc := 27) C0 (Nat.le_of_ble_eq_true rfl) hH hS 78 15 clX10 ⟨Nat.le_of_ble_eq_true rfl, Nat.le_of_ble_eq_true rfl⟩ ⟨rfl, rfl⟩ ⟨Nat.le_of_ble_eq_true rfl, rfl, rfl⟩ fl_X10_211 (x := 0) ⟨rfl, rfl⟩ dX10_tab_27 (fun _ locs hH hS _ => ?_)
    have hH : Hd D tA b 78 52 zz (up2 (up2 i 78 10 x) 78 15 0) F G _ := hH
    refine lv_iload_n (pc := 30) C0.1 C0.2.1 dX10_tab_30 rfl (lv_at hl 0 rfl) ?_
    exact xiret (pc := 31) C0 hr hH hS dX10_tab_31 ⟨(RO.i (RO.i RO.rf (by decide)) (by decide)), Or.inr ⟨by omega, ex3, rfl⟩, ⟨⟨hB.1.1, hB.1.2.1, hB.1.2.2.1, hB.1.2.2.2.1, ⟨by show 0 ≤ x.toInt; omega, by show x.toInt ≤ 8; omega⟩⟩, hB.2⟩, Or.inr rfl⟩
  · have : Int64.toInt 0 = 0 := rfl
    have : Int64.toInt 8 = 8 := rfl
    have c2 := in_0i c2
    refine lv_bipush (pc := 12) (v := (-2)) C0.1 C0.2.1 dX10_tab_12 (by decide) ?_
    exact xiret (pc := 14) C0 hr hH hS dX10_tab_14 ⟨RO.rf, Or.inl ⟨by omega, rfl, rfl⟩, hB, Or.inl rfl⟩
