set_option maxRecDepth 20000 in
theorem cw_X10_195 : CwS RX10 195 yX10_told cX10_told 8 (some .long) 1 := ⟨wm 1266 (by decide +kernel) rfl, wm 1267 (by decide +kernel) rfl, wm 11 (by decide +kernel) rfl, wm 1268 rfl rfl, by decide +kernel⟩
set_option maxRecDepth 20000 in
theorem cw_X10_199 : CwS RX10 199 yX10_isWord cX10_isWord 5 (some .boolean) 1 := ⟨wm 1270 (by decide +kernel) rfl, wm 1271 (by decide +kernel) rfl, wm 11 (by decide +kernel) rfl, wm 1272 rfl rfl, by decide +kernel⟩
set_option maxRecDepth 20000 in
theorem kl_X10_206 : Cond.constantLong RX10 206 3 ∈ WALL := wm 1285 (by decide +kernel) rfl
set_option maxRecDepth 20000 in
theorem cw_X10_208 : CwV RX10 208 yX10_isTold cX10_isTold 5 (some .boolean) 1 := ⟨wm 1286 (by decide +kernel) rfl, wm 1288 (by decide +kernel) rfl, wms 36 (by decide +kernel) rfl, wm 11 (by decide +kernel) rfl, wm 1289 rfl rfl, by decide +kernel⟩
set_option maxRecDepth 20000 in
theorem fl_X10_182 : Cond.fieldLink RX10 182 (TX10 0).1 (TX10 0).2.1 (TX10 0).2.2.1 ∈ WALL := wm 1024 (by decide +kernel) rfl
set_option maxRecDepth 20000 in
theorem fl_X10_186 : Cond.fieldLink RX10 186 (TX10 3).1 (TX10 3).2.1 (TX10 3).2.2.1 ∈ WALL := wm 1027 (by decide +kernel) rfl
set_option maxRecDepth 20000 in
theorem fl_X10_189 : Cond.fieldLink RX10 189 (TX10 6).1 (TX10 6).2.1 (TX10 6).2.2.1 ∈ WALL := wm 1030 (by decide +kernel) rfl
set_option maxRecDepth 20000 in
theorem fl_X10_192 : Cond.fieldLink RX10 192 (TX10 8).1 (TX10 8).2.1 (TX10 8).2.2.1 ∈ WALL := wm 1032 (by decide +kernel) rfl
set_option maxRecDepth 20000 in
theorem cw_X10_203 : CwS RX10 203 yX10_isOneMark cX10_isOneMark 2 (some .boolean) 1 := ⟨wm 1276 (by decide +kernel) rfl, wm 1277 (by decide +kernel) rfl, wm 11 (by decide +kernel) rfl, wm 1278 rfl rfl, by decide +kernel⟩
set_option maxRecDepth 20000 in
theorem kl_X10_214 : Cond.constantLong RX10 214 8 ∈ WALL := wm 1306 (by decide +kernel) rfl
set_option maxRecDepth 20000 in
theorem fl_X10_216 : Cond.fieldLink RX10 216 (TX10 10).1 (TX10 10).2.1 (TX10 10).2.2.1 ∈ WALL := wm 1034 (by decide +kernel) rfl
set_option maxRecDepth 20000 in
theorem cw_X10_226 : CwV RX10 226 yX10_lines cX10_lines 3 (some .int) 0 := ⟨wm 1319 (by decide +kernel) rfl, wm 1321 (by decide +kernel) rfl, wms 37 (by decide +kernel) rfl, wm 11 (by decide +kernel) rfl, wm 1322 rfl rfl, by decide +kernel⟩
set_option maxRecDepth 20000 in
theorem fl_X10_441 : Cond.fieldLink RX10 441 (TX10 78).1 (TX10 78).2.1 (TX10 78).2.2.1 ∈ WALL := wm 1102 (by decide +kernel) rfl
set_option maxRecDepth 20000 in
theorem kl_X10_350 : Cond.constantLong RX10 350 2 ∈ WALL := wm 1452 (by decide +kernel) rfl
set_option maxRecDepth 20000 in
theorem fl_X10_378 : Cond.fieldLink RX10 378 (TX10 54).1 (TX10 54).2.1 (TX10 54).2.2.1 ∈ WALL := wm 1078 (by decide +kernel) rfl
theorem dX10_opener_0 : decode cX10_opener 0 = .ok (.lload_n 1, 1) := by decide +kernel
theorem dX10_opener_1 : decode cX10_opener 1 = .ok (.invokestatic 195, 3) := by decide +kernel
theorem dX10_opener_4 : decode cX10_opener 4 = .ok (.lstore 4, 2) := by decide +kernel
theorem dX10_opener_6 : decode cX10_opener 6 = .ok (.lload 4, 2) := by decide +kernel
theorem dX10_opener_8 : decode cX10_opener 8 = .ok (.invokestatic 199, 3) := by decide +kernel
theorem dX10_opener_11 : decode cX10_opener 11 = .ok (.ifCond .ne 11, 3) := by decide +kernel
theorem dX10_opener_22 : decode cX10_opener 22 = .ok (.iload_n 3, 1) := by decide +kernel
theorem dX10_opener_23 : decode cX10_opener 23 = .ok (.i2l, 1) := by decide +kernel
theorem dX10_opener_24 : decode cX10_opener 24 = .ok (.lconst 1, 1) := by decide +kernel
theorem dX10_opener_25 : decode cX10_opener 25 = .ok (.ldc2_w 206, 3) := by decide +kernel
theorem dX10_opener_28 : decode cX10_opener 28 = .ok (.invokestatic 175, 3) := by decide +kernel
theorem dX10_opener_31 : decode cX10_opener 31 = .ok (.ifCond .ne 11, 3) := by decide +kernel
theorem dX10_opener_42 : decode cX10_opener 42 = .ok (.aload_n 0, 1) := by decide +kernel
theorem dX10_opener_43 : decode cX10_opener 43 = .ok (.lload 4, 2) := by decide +kernel
theorem dX10_opener_45 : decode cX10_opener 45 = .ok (.invokevirtual 208, 3) := by decide +kernel
theorem dX10_opener_48 : decode cX10_opener 48 = .ok (.ifCond .eq 6, 3) := by decide +kernel
theorem dX10_opener_54 : decode cX10_opener 54 = .ok (.aload_n 0, 1) := by decide +kernel
theorem dX10_opener_55 : decode cX10_opener 55 = .ok (.getfield 182, 3) := by decide +kernel
theorem dX10_opener_58 : decode cX10_opener 58 = .ok (.bipush 8, 2) := by decide +kernel
theorem dX10_opener_60 : decode cX10_opener 60 = .ok (.if_icmp .ne 6, 3) := by decide +kernel
theorem dX10_opener_66 : decode cX10_opener 66 = .ok (.aload_n 0, 1) := by decide +kernel
theorem dX10_opener_67 : decode cX10_opener 67 = .ok (.getfield 7, 3) := by decide +kernel
theorem dX10_opener_70 : decode cX10_opener 70 = .ok (.aload_n 0, 1) := by decide +kernel
theorem dX10_opener_71 : decode cX10_opener 71 = .ok (.getfield 182, 3) := by decide +kernel
theorem dX10_opener_74 : decode cX10_opener 74 = .ok (.lload 4, 2) := by decide +kernel
theorem dX10_opener_76 : decode cX10_opener 76 = .ok (.lastore, 1) := by decide +kernel
theorem dX10_opener_77 : decode cX10_opener 77 = .ok (.aload_n 0, 1) := by decide +kernel
theorem dX10_opener_78 : decode cX10_opener 78 = .ok (.getfield 13, 3) := by decide +kernel
theorem dX10_opener_81 : decode cX10_opener 81 = .ok (.aload_n 0, 1) := by decide +kernel
theorem dX10_opener_82 : decode cX10_opener 82 = .ok (.getfield 182, 3) := by decide +kernel
theorem dX10_opener_85 : decode cX10_opener 85 = .ok (.iload_n 3, 1) := by decide +kernel
theorem dX10_opener_86 : decode cX10_opener 86 = .ok (.iastore, 1) := by decide +kernel
theorem dX10_opener_87 : decode cX10_opener 87 = .ok (.aload_n 0, 1) := by decide +kernel
theorem dX10_opener_88 : decode cX10_opener 88 = .ok (.dup, 1) := by decide +kernel
theorem dX10_opener_89 : decode cX10_opener 89 = .ok (.getfield 182, 3) := by decide +kernel
theorem dX10_opener_92 : decode cX10_opener 92 = .ok (.iconst 1, 1) := by decide +kernel
theorem dX10_opener_93 : decode cX10_opener 93 = .ok (.iadd, 1) := by decide +kernel
theorem dX10_opener_94 : decode cX10_opener 94 = .ok (.putfield 182, 3) := by decide +kernel
theorem dX10_opener_97 : decode cX10_opener 97 = .ok (.aload_n 0, 1) := by decide +kernel
theorem dX10_opener_98 : decode cX10_opener 98 = .ok (.iconst 0, 1) := by decide +kernel
theorem dX10_opener_99 : decode cX10_opener 99 = .ok (.putfield 211, 3) := by decide +kernel
theorem dX10_opener_102 : decode cX10_opener 102 = .ok (.aload_n 0, 1) := by decide +kernel
theorem dX10_opener_103 : decode cX10_opener 103 = .ok (.getfield 182, 3) := by decide +kernel
theorem dX10_opener_106 : decode cX10_opener 106 = .ok (.ireturn, 1) := by decide +kernel
theorem dX10_opener_34 : decode cX10_opener 34 = .ok (.iload_n 3, 1) := by decide +kernel
theorem dX10_opener_35 : decode cX10_opener 35 = .ok (.iconst 5, 1) := by decide +kernel
theorem dX10_opener_36 : decode cX10_opener 36 = .ok (.if_icmp .eq 6, 3) := by decide +kernel
theorem dX10_opener_39 : decode cX10_opener 39 = .ok (.bipush (-2), 2) := by decide +kernel
theorem dX10_opener_41 : decode cX10_opener 41 = .ok (.ireturn, 1) := by decide +kernel
theorem dX10_opener_14 : decode cX10_opener 14 = .ok (.lload 4, 2) := by decide +kernel
theorem dX10_opener_16 : decode cX10_opener 16 = .ok (.invokestatic 203, 3) := by decide +kernel
theorem dX10_opener_19 : decode cX10_opener 19 = .ok (.ifCond .eq 20, 3) := by decide +kernel
theorem dX10_isTold_0 : decode cX10_isTold 0 = .ok (.iconst 0, 1) := by decide +kernel
theorem dX10_isTold_1 : decode cX10_isTold 1 = .ok (.istore_n 3, 1) := by decide +kernel
theorem dX10_isTold_2 : decode cX10_isTold 2 = .ok (.iconst 0, 1) := by decide +kernel
theorem dX10_isTold_3 : decode cX10_isTold 3 = .ok (.istore 4, 2) := by decide +kernel
theorem dX10_isTold_5 : decode cX10_isTold 5 = .ok (.iload 4, 2) := by decide +kernel
theorem dX10_isTold_7 : decode cX10_isTold 7 = .ok (.aload_n 0, 1) := by decide +kernel
theorem dX10_isTold_8 : decode cX10_isTold 8 = .ok (.getfield 182, 3) := by decide +kernel
theorem dX10_isTold_11 : decode cX10_isTold 11 = .ok (.if_icmp .ge 31, 3) := by decide +kernel
theorem dX10_isTold_42 : decode cX10_isTold 42 = .ok (.iconst 0, 1) := by decide +kernel
theorem dX10_isTold_43 : decode cX10_isTold 43 = .ok (.istore 4, 2) := by decide +kernel
theorem dX10_isTold_45 : decode cX10_isTold 45 = .ok (.iload 4, 2) := by decide +kernel
theorem dX10_isTold_47 : decode cX10_isTold 47 = .ok (.aload_n 0, 1) := by decide +kernel
theorem dX10_isTold_48 : decode cX10_isTold 48 = .ok (.getfield 186, 3) := by decide +kernel
theorem dX10_isTold_51 : decode cX10_isTold 51 = .ok (.if_icmp .ge 45, 3) := by decide +kernel
theorem dX10_isTold_96 : decode cX10_isTold 96 = .ok (.iconst 0, 1) := by decide +kernel
theorem dX10_isTold_97 : decode cX10_isTold 97 = .ok (.istore 4, 2) := by decide +kernel
theorem dX10_isTold_99 : decode cX10_isTold 99 = .ok (.iload 4, 2) := by decide +kernel
theorem dX10_isTold_101 : decode cX10_isTold 101 = .ok (.aload_n 0, 1) := by decide +kernel
theorem dX10_isTold_102 : decode cX10_isTold 102 = .ok (.getfield 189, 3) := by decide +kernel
theorem dX10_isTold_105 : decode cX10_isTold 105 = .ok (.if_icmp .ge 31, 3) := by decide +kernel
theorem dX10_isTold_136 : decode cX10_isTold 136 = .ok (.iconst 0, 1) := by decide +kernel
theorem dX10_isTold_137 : decode cX10_isTold 137 = .ok (.istore 4, 2) := by decide +kernel
theorem dX10_isTold_139 : decode cX10_isTold 139 = .ok (.iload 4, 2) := by decide +kernel
theorem dX10_isTold_141 : decode cX10_isTold 141 = .ok (.aload_n 0, 1) := by decide +kernel
theorem dX10_isTold_142 : decode cX10_isTold 142 = .ok (.getfield 192, 3) := by decide +kernel
theorem dX10_isTold_145 : decode cX10_isTold 145 = .ok (.if_icmp .ge 32, 3) := by decide +kernel
theorem dX10_isTold_177 : decode cX10_isTold 177 = .ok (.iload_n 3, 1) := by decide +kernel
theorem dX10_isTold_178 : decode cX10_isTold 178 = .ok (.ireturn, 1) := by decide +kernel
theorem dX10_pair_0 : decode cX10_pair 0 = .ok (.iload_n 1, 1) := by decide +kernel
theorem dX10_pair_1 : decode cX10_pair 1 = .ok (.i2l, 1) := by decide +kernel
theorem dX10_pair_2 : decode cX10_pair 2 = .ok (.invokestatic 203, 3) := by decide +kernel
theorem dX10_pair_5 : decode cX10_pair 5 = .ok (.ifCond .eq 11, 3) := by decide +kernel
theorem dX10_pair_16 : decode cX10_pair 16 = .ok (.bipush (-2), 2) := by decide +kernel
theorem dX10_pair_18 : decode cX10_pair 18 = .ok (.ireturn, 1) := by decide +kernel
theorem dX10_pair_8 : decode cX10_pair 8 = .ok (.iload_n 2, 1) := by decide +kernel
theorem dX10_pair_9 : decode cX10_pair 9 = .ok (.i2l, 1) := by decide +kernel
theorem dX10_pair_10 : decode cX10_pair 10 = .ok (.invokestatic 203, 3) := by decide +kernel
theorem dX10_pair_13 : decode cX10_pair 13 = .ok (.ifCond .ne 6, 3) := by decide +kernel
theorem dX10_pair_19 : decode cX10_pair 19 = .ok (.iload_n 1, 1) := by decide +kernel
theorem dX10_pair_20 : decode cX10_pair 20 = .ok (.iload_n 2, 1) := by decide +kernel
theorem dX10_pair_21 : decode cX10_pair 21 = .ok (.if_icmp .eq 21, 3) := by decide +kernel
theorem dX10_pair_42 : decode cX10_pair 42 = .ok (.bipush (-3), 2) := by decide +kernel
theorem dX10_pair_44 : decode cX10_pair 44 = .ok (.ireturn, 1) := by decide +kernel
theorem dX10_pair_24 : decode cX10_pair 24 = .ok (.aload_n 0, 1) := by decide +kernel
theorem dX10_pair_25 : decode cX10_pair 25 = .ok (.iload_n 1, 1) := by decide +kernel
theorem dX10_pair_26 : decode cX10_pair 26 = .ok (.i2l, 1) := by decide +kernel
theorem dX10_pair_27 : decode cX10_pair 27 = .ok (.invokevirtual 208, 3) := by decide +kernel
theorem dX10_pair_30 : decode cX10_pair 30 = .ok (.ifCond .ne 12, 3) := by decide +kernel
theorem dX10_pair_33 : decode cX10_pair 33 = .ok (.aload_n 0, 1) := by decide +kernel
theorem dX10_pair_34 : decode cX10_pair 34 = .ok (.iload_n 2, 1) := by decide +kernel
theorem dX10_pair_35 : decode cX10_pair 35 = .ok (.i2l, 1) := by decide +kernel
theorem dX10_pair_36 : decode cX10_pair 36 = .ok (.invokevirtual 208, 3) := by decide +kernel
theorem dX10_pair_39 : decode cX10_pair 39 = .ok (.ifCond .eq 6, 3) := by decide +kernel
theorem dX10_pair_45 : decode cX10_pair 45 = .ok (.aload_n 0, 1) := by decide +kernel
theorem dX10_pair_46 : decode cX10_pair 46 = .ok (.getfield 186, 3) := by decide +kernel
theorem dX10_pair_49 : decode cX10_pair 49 = .ok (.iconst 4, 1) := by decide +kernel
theorem dX10_pair_50 : decode cX10_pair 50 = .ok (.if_icmp .ne 6, 3) := by decide +kernel
theorem dX10_pair_56 : decode cX10_pair 56 = .ok (.aload_n 0, 1) := by decide +kernel
theorem dX10_pair_57 : decode cX10_pair 57 = .ok (.getfield 17, 3) := by decide +kernel
theorem dX10_pair_60 : decode cX10_pair 60 = .ok (.aload_n 0, 1) := by decide +kernel
theorem dX10_pair_61 : decode cX10_pair 61 = .ok (.getfield 186, 3) := by decide +kernel
theorem dX10_pair_64 : decode cX10_pair 64 = .ok (.iload_n 1, 1) := by decide +kernel
theorem dX10_pair_65 : decode cX10_pair 65 = .ok (.iastore, 1) := by decide +kernel
theorem dX10_pair_66 : decode cX10_pair 66 = .ok (.aload_n 0, 1) := by decide +kernel
theorem dX10_pair_67 : decode cX10_pair 67 = .ok (.getfield 20, 3) := by decide +kernel
theorem dX10_pair_70 : decode cX10_pair 70 = .ok (.aload_n 0, 1) := by decide +kernel
theorem dX10_pair_71 : decode cX10_pair 71 = .ok (.getfield 186, 3) := by decide +kernel
theorem dX10_pair_74 : decode cX10_pair 74 = .ok (.iload_n 2, 1) := by decide +kernel
theorem dX10_pair_75 : decode cX10_pair 75 = .ok (.iastore, 1) := by decide +kernel
theorem dX10_pair_76 : decode cX10_pair 76 = .ok (.aload_n 0, 1) := by decide +kernel
theorem dX10_pair_77 : decode cX10_pair 77 = .ok (.dup, 1) := by decide +kernel
theorem dX10_pair_78 : decode cX10_pair 78 = .ok (.getfield 186, 3) := by decide +kernel
theorem dX10_pair_81 : decode cX10_pair 81 = .ok (.iconst 1, 1) := by decide +kernel
theorem dX10_pair_82 : decode cX10_pair 82 = .ok (.iadd, 1) := by decide +kernel
theorem dX10_pair_83 : decode cX10_pair 83 = .ok (.putfield 186, 3) := by decide +kernel
theorem dX10_pair_86 : decode cX10_pair 86 = .ok (.aload_n 0, 1) := by decide +kernel
theorem dX10_pair_87 : decode cX10_pair 87 = .ok (.iconst 0, 1) := by decide +kernel
theorem dX10_pair_88 : decode cX10_pair 88 = .ok (.putfield 211, 3) := by decide +kernel
theorem dX10_pair_91 : decode cX10_pair 91 = .ok (.aload_n 0, 1) := by decide +kernel
theorem dX10_pair_92 : decode cX10_pair 92 = .ok (.getfield 186, 3) := by decide +kernel
theorem dX10_pair_95 : decode cX10_pair 95 = .ok (.ireturn, 1) := by decide +kernel
theorem dX10_closer_0 : decode cX10_closer 0 = .ok (.lload_n 1, 1) := by decide +kernel
theorem dX10_closer_1 : decode cX10_closer 1 = .ok (.invokestatic 195, 3) := by decide +kernel
theorem dX10_closer_4 : decode cX10_closer 4 = .ok (.lstore_n 3, 1) := by decide +kernel
theorem dX10_closer_5 : decode cX10_closer 5 = .ok (.lload_n 3, 1) := by decide +kernel
theorem dX10_closer_6 : decode cX10_closer 6 = .ok (.invokestatic 199, 3) := by decide +kernel
theorem dX10_closer_9 : decode cX10_closer 9 = .ok (.ifCond .ne 6, 3) := by decide +kernel
theorem dX10_closer_15 : decode cX10_closer 15 = .ok (.aload_n 0, 1) := by decide +kernel
theorem dX10_closer_16 : decode cX10_closer 16 = .ok (.lload_n 3, 1) := by decide +kernel
theorem dX10_closer_17 : decode cX10_closer 17 = .ok (.invokevirtual 208, 3) := by decide +kernel
theorem dX10_closer_20 : decode cX10_closer 20 = .ok (.ifCond .eq 6, 3) := by decide +kernel
theorem dX10_closer_26 : decode cX10_closer 26 = .ok (.aload_n 0, 1) := by decide +kernel
theorem dX10_closer_27 : decode cX10_closer 27 = .ok (.getfield 189, 3) := by decide +kernel
theorem dX10_closer_30 : decode cX10_closer 30 = .ok (.iconst 4, 1) := by decide +kernel
theorem dX10_closer_31 : decode cX10_closer 31 = .ok (.if_icmp .ne 6, 3) := by decide +kernel
theorem dX10_closer_37 : decode cX10_closer 37 = .ok (.aload_n 0, 1) := by decide +kernel
theorem dX10_closer_38 : decode cX10_closer 38 = .ok (.getfield 23, 3) := by decide +kernel
theorem dX10_closer_41 : decode cX10_closer 41 = .ok (.aload_n 0, 1) := by decide +kernel
theorem dX10_closer_42 : decode cX10_closer 42 = .ok (.getfield 189, 3) := by decide +kernel
theorem dX10_closer_45 : decode cX10_closer 45 = .ok (.lload_n 3, 1) := by decide +kernel
theorem dX10_closer_46 : decode cX10_closer 46 = .ok (.lastore, 1) := by decide +kernel
theorem dX10_closer_47 : decode cX10_closer 47 = .ok (.aload_n 0, 1) := by decide +kernel
theorem dX10_closer_48 : decode cX10_closer 48 = .ok (.dup, 1) := by decide +kernel
theorem dX10_closer_49 : decode cX10_closer 49 = .ok (.getfield 189, 3) := by decide +kernel
theorem dX10_closer_52 : decode cX10_closer 52 = .ok (.iconst 1, 1) := by decide +kernel
theorem dX10_closer_53 : decode cX10_closer 53 = .ok (.iadd, 1) := by decide +kernel
theorem dX10_closer_54 : decode cX10_closer 54 = .ok (.putfield 189, 3) := by decide +kernel
theorem dX10_closer_57 : decode cX10_closer 57 = .ok (.aload_n 0, 1) := by decide +kernel
theorem dX10_closer_58 : decode cX10_closer 58 = .ok (.iconst 0, 1) := by decide +kernel
theorem dX10_closer_59 : decode cX10_closer 59 = .ok (.putfield 211, 3) := by decide +kernel
theorem dX10_closer_62 : decode cX10_closer 62 = .ok (.aload_n 0, 1) := by decide +kernel
theorem dX10_closer_63 : decode cX10_closer 63 = .ok (.getfield 189, 3) := by decide +kernel
theorem dX10_closer_66 : decode cX10_closer 66 = .ok (.ireturn, 1) := by decide +kernel
theorem dX10_closer_12 : decode cX10_closer 12 = .ok (.bipush (-2), 2) := by decide +kernel
theorem dX10_closer_14 : decode cX10_closer 14 = .ok (.ireturn, 1) := by decide +kernel
theorem dX10_goer_0 : decode cX10_goer 0 = .ok (.iload_n 1, 1) := by decide +kernel
theorem dX10_goer_1 : decode cX10_goer 1 = .ok (.i2l, 1) := by decide +kernel
theorem dX10_goer_2 : decode cX10_goer 2 = .ok (.invokestatic 203, 3) := by decide +kernel
theorem dX10_goer_5 : decode cX10_goer 5 = .ok (.ifCond .ne 6, 3) := by decide +kernel
theorem dX10_goer_11 : decode cX10_goer 11 = .ok (.aload_n 0, 1) := by decide +kernel
theorem dX10_goer_12 : decode cX10_goer 12 = .ok (.iload_n 1, 1) := by decide +kernel
theorem dX10_goer_13 : decode cX10_goer 13 = .ok (.i2l, 1) := by decide +kernel
theorem dX10_goer_14 : decode cX10_goer 14 = .ok (.invokevirtual 208, 3) := by decide +kernel
theorem dX10_goer_17 : decode cX10_goer 17 = .ok (.ifCond .eq 6, 3) := by decide +kernel
theorem dX10_goer_23 : decode cX10_goer 23 = .ok (.aload_n 0, 1) := by decide +kernel
theorem dX10_goer_24 : decode cX10_goer 24 = .ok (.getfield 192, 3) := by decide +kernel
theorem dX10_goer_27 : decode cX10_goer 27 = .ok (.iconst 4, 1) := by decide +kernel
theorem dX10_goer_28 : decode cX10_goer 28 = .ok (.if_icmp .ne 6, 3) := by decide +kernel
theorem dX10_goer_34 : decode cX10_goer 34 = .ok (.aload_n 0, 1) := by decide +kernel
theorem dX10_goer_35 : decode cX10_goer 35 = .ok (.getfield 26, 3) := by decide +kernel
theorem dX10_goer_38 : decode cX10_goer 38 = .ok (.aload_n 0, 1) := by decide +kernel
theorem dX10_goer_39 : decode cX10_goer 39 = .ok (.getfield 192, 3) := by decide +kernel
theorem dX10_goer_42 : decode cX10_goer 42 = .ok (.iload_n 1, 1) := by decide +kernel
theorem dX10_goer_43 : decode cX10_goer 43 = .ok (.iastore, 1) := by decide +kernel
theorem dX10_goer_44 : decode cX10_goer 44 = .ok (.aload_n 0, 1) := by decide +kernel
theorem dX10_goer_45 : decode cX10_goer 45 = .ok (.dup, 1) := by decide +kernel
theorem dX10_goer_46 : decode cX10_goer 46 = .ok (.getfield 192, 3) := by decide +kernel
theorem dX10_goer_49 : decode cX10_goer 49 = .ok (.iconst 1, 1) := by decide +kernel
theorem dX10_goer_50 : decode cX10_goer 50 = .ok (.iadd, 1) := by decide +kernel
theorem dX10_goer_51 : decode cX10_goer 51 = .ok (.putfield 192, 3) := by decide +kernel
theorem dX10_goer_54 : decode cX10_goer 54 = .ok (.aload_n 0, 1) := by decide +kernel
theorem dX10_goer_55 : decode cX10_goer 55 = .ok (.iconst 0, 1) := by decide +kernel
theorem dX10_goer_56 : decode cX10_goer 56 = .ok (.putfield 211, 3) := by decide +kernel
theorem dX10_goer_59 : decode cX10_goer 59 = .ok (.aload_n 0, 1) := by decide +kernel
theorem dX10_goer_60 : decode cX10_goer 60 = .ok (.getfield 192, 3) := by decide +kernel
theorem dX10_goer_63 : decode cX10_goer 63 = .ok (.ireturn, 1) := by decide +kernel
theorem dX10_goer_8 : decode cX10_goer 8 = .ok (.bipush (-2), 2) := by decide +kernel
theorem dX10_goer_10 : decode cX10_goer 10 = .ok (.ireturn, 1) := by decide +kernel
theorem dX10_tab_0 : decode cX10_tab 0 = .ok (.iload_n 1, 1) := by decide +kernel
theorem dX10_tab_1 : decode cX10_tab 1 = .ok (.i2l, 1) := by decide +kernel
theorem dX10_tab_2 : decode cX10_tab 2 = .ok (.lconst 0, 1) := by decide +kernel
theorem dX10_tab_3 : decode cX10_tab 3 = .ok (.ldc2_w 214, 3) := by decide +kernel
theorem dX10_tab_6 : decode cX10_tab 6 = .ok (.invokestatic 175, 3) := by decide +kernel
theorem dX10_tab_9 : decode cX10_tab 9 = .ok (.ifCond .ne 6, 3) := by decide +kernel
theorem dX10_tab_15 : decode cX10_tab 15 = .ok (.aload_n 0, 1) := by decide +kernel
theorem dX10_tab_16 : decode cX10_tab 16 = .ok (.getfield 216, 3) := by decide +kernel
theorem dX10_tab_19 : decode cX10_tab 19 = .ok (.istore_n 2, 1) := by decide +kernel
theorem dX10_tab_20 : decode cX10_tab 20 = .ok (.aload_n 0, 1) := by decide +kernel
theorem dX10_tab_21 : decode cX10_tab 21 = .ok (.iload_n 1, 1) := by decide +kernel
theorem dX10_tab_22 : decode cX10_tab 22 = .ok (.putfield 216, 3) := by decide +kernel
theorem dX10_tab_25 : decode cX10_tab 25 = .ok (.aload_n 0, 1) := by decide +kernel
theorem dX10_tab_26 : decode cX10_tab 26 = .ok (.iconst 0, 1) := by decide +kernel
theorem dX10_tab_27 : decode cX10_tab 27 = .ok (.putfield 211, 3) := by decide +kernel
theorem dX10_tab_30 : decode cX10_tab 30 = .ok (.iload_n 2, 1) := by decide +kernel
theorem dX10_tab_31 : decode cX10_tab 31 = .ok (.ireturn, 1) := by decide +kernel
theorem dX10_tab_12 : decode cX10_tab 12 = .ok (.bipush (-2), 2) := by decide +kernel
theorem dX10_tab_14 : decode cX10_tab 14 = .ok (.ireturn, 1) := by decide +kernel
theorem dX10_cut_0 : decode cX10_cut 0 = .ok (.iload_n 1, 1) := by decide +kernel
theorem dX10_cut_1 : decode cX10_cut 1 = .ok (.i2l, 1) := by decide +kernel
theorem dX10_cut_2 : decode cX10_cut 2 = .ok (.lconst 0, 1) := by decide +kernel
theorem dX10_cut_3 : decode cX10_cut 3 = .ok (.aload_n 0, 1) := by decide +kernel
theorem dX10_cut_4 : decode cX10_cut 4 = .ok (.getfield 219, 3) := by decide +kernel
theorem dX10_cut_7 : decode cX10_cut 7 = .ok (.i2l, 1) := by decide +kernel
theorem dX10_cut_8 : decode cX10_cut 8 = .ok (.invokestatic 175, 3) := by decide +kernel
theorem dX10_cut_11 : decode cX10_cut 11 = .ok (.ifCond .ne 6, 3) := by decide +kernel
theorem dX10_cut_17 : decode cX10_cut 17 = .ok (.aload_n 0, 1) := by decide +kernel
theorem dX10_cut_18 : decode cX10_cut 18 = .ok (.getfield 219, 3) := by decide +kernel
theorem dX10_cut_21 : decode cX10_cut 21 = .ok (.iload_n 1, 1) := by decide +kernel
theorem dX10_cut_22 : decode cX10_cut 22 = .ok (.isub, 1) := by decide +kernel
theorem dX10_cut_23 : decode cX10_cut 23 = .ok (.istore_n 2, 1) := by decide +kernel
theorem dX10_cut_24 : decode cX10_cut 24 = .ok (.aload_n 0, 1) := by decide +kernel
theorem dX10_cut_25 : decode cX10_cut 25 = .ok (.iload_n 1, 1) := by decide +kernel
theorem dX10_cut_26 : decode cX10_cut 26 = .ok (.putfield 219, 3) := by decide +kernel
theorem dX10_cut_29 : decode cX10_cut 29 = .ok (.aload_n 0, 1) := by decide +kernel
theorem dX10_cut_30 : decode cX10_cut 30 = .ok (.iconst 0, 1) := by decide +kernel
theorem dX10_cut_31 : decode cX10_cut 31 = .ok (.putfield 211, 3) := by decide +kernel
theorem dX10_cut_34 : decode cX10_cut 34 = .ok (.iload_n 2, 1) := by decide +kernel
theorem dX10_cut_35 : decode cX10_cut 35 = .ok (.ireturn, 1) := by decide +kernel
theorem dX10_cut_14 : decode cX10_cut 14 = .ok (.bipush (-2), 2) := by decide +kernel
theorem dX10_cut_16 : decode cX10_cut 16 = .ok (.ireturn, 1) := by decide +kernel
theorem dX10_shift_0 : decode cX10_shift 0 = .ok (.iload_n 1, 1) := by decide +kernel
theorem dX10_shift_1 : decode cX10_shift 1 = .ok (.i2l, 1) := by decide +kernel
theorem dX10_shift_2 : decode cX10_shift 2 = .ok (.lconst 0, 1) := by decide +kernel
theorem dX10_shift_3 : decode cX10_shift 3 = .ok (.aload_n 0, 1) := by decide +kernel
theorem dX10_shift_4 : decode cX10_shift 4 = .ok (.invokevirtual 226, 3) := by decide +kernel
theorem dX10_shift_7 : decode cX10_shift 7 = .ok (.iconst 1, 1) := by decide +kernel
theorem dX10_shift_8 : decode cX10_shift 8 = .ok (.isub, 1) := by decide +kernel
theorem dX10_shift_9 : decode cX10_shift 9 = .ok (.i2l, 1) := by decide +kernel
theorem dX10_shift_10 : decode cX10_shift 10 = .ok (.invokestatic 175, 3) := by decide +kernel
theorem dX10_shift_13 : decode cX10_shift 13 = .ok (.ifCond .ne 5, 3) := by decide +kernel
theorem dX10_shift_16 : decode cX10_shift 16 = .ok (.iconst (-1), 1) := by decide +kernel
theorem dX10_shift_17 : decode cX10_shift 17 = .ok (.ireturn, 1) := by decide +kernel
theorem dX10_lines_0 : decode cX10_lines 0 = .ok (.iconst 0, 1) := by decide +kernel
theorem dX10_lines_1 : decode cX10_lines 1 = .ok (.istore_n 1, 1) := by decide +kernel
theorem dX10_lines_2 : decode cX10_lines 2 = .ok (.iconst 0, 1) := by decide +kernel
theorem dX10_lines_3 : decode cX10_lines 3 = .ok (.istore_n 2, 1) := by decide +kernel
theorem dX10_lines_4 : decode cX10_lines 4 = .ok (.iload_n 2, 1) := by decide +kernel
theorem dX10_lines_5 : decode cX10_lines 5 = .ok (.aload_n 0, 1) := by decide +kernel
theorem dX10_lines_6 : decode cX10_lines 6 = .ok (.getfield 219, 3) := by decide +kernel
theorem dX10_lines_9 : decode cX10_lines 9 = .ok (.if_icmp .ge 28, 3) := by decide +kernel
theorem dX10_lines_37 : decode cX10_lines 37 = .ok (.aload_n 0, 1) := by decide +kernel
theorem dX10_lines_38 : decode cX10_lines 38 = .ok (.getfield 219, 3) := by decide +kernel
theorem dX10_lines_41 : decode cX10_lines 41 = .ok (.ifCond .le 25, 3) := by decide +kernel
theorem dX10_lines_66 : decode cX10_lines 66 = .ok (.iload_n 1, 1) := by decide +kernel
theorem dX10_lines_67 : decode cX10_lines 67 = .ok (.ireturn, 1) := by decide +kernel
theorem dX10_byteAt_0 : decode cX10_byteAt 0 = .ok (.iload_n 1, 1) := by decide +kernel
theorem dX10_byteAt_1 : decode cX10_byteAt 1 = .ok (.i2l, 1) := by decide +kernel
theorem dX10_byteAt_2 : decode cX10_byteAt 2 = .ok (.lconst 0, 1) := by decide +kernel
theorem dX10_byteAt_3 : decode cX10_byteAt 3 = .ok (.aload_n 0, 1) := by decide +kernel
theorem dX10_byteAt_4 : decode cX10_byteAt 4 = .ok (.getfield 219, 3) := by decide +kernel
theorem dX10_byteAt_7 : decode cX10_byteAt 7 = .ok (.iconst 1, 1) := by decide +kernel
theorem dX10_byteAt_8 : decode cX10_byteAt 8 = .ok (.isub, 1) := by decide +kernel
theorem dX10_byteAt_9 : decode cX10_byteAt 9 = .ok (.i2l, 1) := by decide +kernel
theorem dX10_byteAt_10 : decode cX10_byteAt 10 = .ok (.invokestatic 175, 3) := by decide +kernel
theorem dX10_byteAt_13 : decode cX10_byteAt 13 = .ok (.ifCond .eq 16, 3) := by decide +kernel
theorem dX10_byteAt_29 : decode cX10_byteAt 29 = .ok (.bipush (-12), 2) := by decide +kernel
theorem dX10_byteAt_31 : decode cX10_byteAt 31 = .ok (.ireturn, 1) := by decide +kernel
theorem dX10_markAt_0 : decode cX10_markAt 0 = .ok (.iload_n 1, 1) := by decide +kernel
theorem dX10_markAt_1 : decode cX10_markAt 1 = .ok (.i2l, 1) := by decide +kernel
theorem dX10_markAt_2 : decode cX10_markAt 2 = .ok (.lconst 0, 1) := by decide +kernel
theorem dX10_markAt_3 : decode cX10_markAt 3 = .ok (.aload_n 0, 1) := by decide +kernel
theorem dX10_markAt_4 : decode cX10_markAt 4 = .ok (.getfield 441, 3) := by decide +kernel
theorem dX10_markAt_7 : decode cX10_markAt 7 = .ok (.iconst 1, 1) := by decide +kernel
theorem dX10_markAt_8 : decode cX10_markAt 8 = .ok (.isub, 1) := by decide +kernel
theorem dX10_markAt_9 : decode cX10_markAt 9 = .ok (.i2l, 1) := by decide +kernel
theorem dX10_markAt_10 : decode cX10_markAt 10 = .ok (.invokestatic 175, 3) := by decide +kernel
theorem dX10_markAt_13 : decode cX10_markAt 13 = .ok (.ifCond .eq 12, 3) := by decide +kernel
theorem dX10_markAt_25 : decode cX10_markAt 25 = .ok (.bipush (-12), 2) := by decide +kernel
theorem dX10_markAt_27 : decode cX10_markAt 27 = .ok (.ireturn, 1) := by decide +kernel
theorem dX10_fault_0 : decode cX10_fault 0 = .ok (.iload_n 1, 1) := by decide +kernel
theorem dX10_fault_1 : decode cX10_fault 1 = .ok (.i2l, 1) := by decide +kernel
theorem dX10_fault_2 : decode cX10_fault 2 = .ok (.lconst 0, 1) := by decide +kernel
theorem dX10_fault_3 : decode cX10_fault 3 = .ok (.ldc2_w 206, 3) := by decide +kernel
theorem dX10_fault_6 : decode cX10_fault 6 = .ok (.invokestatic 175, 3) := by decide +kernel
theorem dX10_fault_9 : decode cX10_fault 9 = .ok (.ifCond .eq 12, 3) := by decide +kernel
theorem dX10_fault_21 : decode cX10_fault 21 = .ok (.bipush (-2), 2) := by decide +kernel
theorem dX10_fault_23 : decode cX10_fault 23 = .ok (.ireturn, 1) := by decide +kernel
theorem dX10_fault_12 : decode cX10_fault 12 = .ok (.aload_n 0, 1) := by decide +kernel
theorem dX10_fault_13 : decode cX10_fault 13 = .ok (.getfield 36, 3) := by decide +kernel
theorem dX10_fault_16 : decode cX10_fault 16 = .ok (.iload_n 1, 1) := by decide +kernel
theorem dX10_fault_17 : decode cX10_fault 17 = .ok (.iaload, 1) := by decide +kernel
theorem dX10_fault_18 : decode cX10_fault 18 = .ok (.goto 5, 3) := by decide +kernel
theorem dX10_count_0 : decode cX10_count 0 = .ok (.iload_n 1, 1) := by decide +kernel
theorem dX10_count_1 : decode cX10_count 1 = .ok (.iconst 3, 1) := by decide +kernel
theorem dX10_count_2 : decode cX10_count 2 = .ok (.if_icmp .eq 8, 3) := by decide +kernel
theorem dX10_count_10 : decode cX10_count 10 = .ok (.iload_n 1, 1) := by decide +kernel
theorem dX10_count_11 : decode cX10_count 11 = .ok (.iconst 3, 1) := by decide +kernel
theorem dX10_count_12 : decode cX10_count 12 = .ok (.if_icmp .ne 10, 3) := by decide +kernel
theorem dX10_count_22 : decode cX10_count 22 = .ok (.aload_n 0, 1) := by decide +kernel
theorem dX10_count_23 : decode cX10_count 23 = .ok (.getfield 219, 3) := by decide +kernel
theorem dX10_count_26 : decode cX10_count 26 = .ok (.ireturn, 1) := by decide +kernel
theorem dX10_count_15 : decode cX10_count 15 = .ok (.aload_n 0, 1) := by decide +kernel
theorem dX10_count_16 : decode cX10_count 16 = .ok (.invokevirtual 226, 3) := by decide +kernel
theorem dX10_count_19 : decode cX10_count 19 = .ok (.goto 7, 3) := by decide +kernel
theorem dX10_count_5 : decode cX10_count 5 = .ok (.iload_n 1, 1) := by decide +kernel
theorem dX10_count_6 : decode cX10_count 6 = .ok (.iconst 4, 1) := by decide +kernel
theorem dX10_count_7 : decode cX10_count 7 = .ok (.if_icmp .ne 20, 3) := by decide +kernel
theorem dX10_count_27 : decode cX10_count 27 = .ok (.iload_n 1, 1) := by decide +kernel
theorem dX10_count_28 : decode cX10_count 28 = .ok (.i2l, 1) := by decide +kernel
theorem dX10_count_29 : decode cX10_count 29 = .ok (.lconst 0, 1) := by decide +kernel
theorem dX10_count_30 : decode cX10_count 30 = .ok (.ldc2_w 350, 3) := by decide +kernel
theorem dX10_count_33 : decode cX10_count 33 = .ok (.invokestatic 175, 3) := by decide +kernel
theorem dX10_count_36 : decode cX10_count 36 = .ok (.ifCond .ne 6, 3) := by decide +kernel
theorem dX10_count_42 : decode cX10_count 42 = .ok (.aload_n 0, 1) := by decide +kernel
theorem dX10_count_43 : decode cX10_count 43 = .ok (.getfield 211, 3) := by decide +kernel
theorem dX10_count_46 : decode cX10_count 46 = .ok (.iconst 1, 1) := by decide +kernel
theorem dX10_count_47 : decode cX10_count 47 = .ok (.if_icmp .eq 8, 3) := by decide +kernel
theorem dX10_count_50 : decode cX10_count 50 = .ok (.bipush (-3), 2) := by decide +kernel
theorem dX10_count_52 : decode cX10_count 52 = .ok (.goto 30, 3) := by decide +kernel
theorem dX10_count_82 : decode cX10_count 82 = .ok (.ireturn, 1) := by decide +kernel
theorem dX10_count_39 : decode cX10_count 39 = .ok (.bipush (-2), 2) := by decide +kernel
theorem dX10_count_41 : decode cX10_count 41 = .ok (.ireturn, 1) := by decide +kernel
theorem dX10_mended_0 : decode cX10_mended 0 = .ok (.iload_n 1, 1) := by decide +kernel
theorem dX10_mended_1 : decode cX10_mended 1 = .ok (.i2l, 1) := by decide +kernel
theorem dX10_mended_2 : decode cX10_mended 2 = .ok (.lconst 0, 1) := by decide +kernel
theorem dX10_mended_3 : decode cX10_mended 3 = .ok (.lconst 1, 1) := by decide +kernel
theorem dX10_mended_4 : decode cX10_mended 4 = .ok (.invokestatic 175, 3) := by decide +kernel
theorem dX10_mended_7 : decode cX10_mended 7 = .ok (.ifCond .eq 12, 3) := by decide +kernel
theorem dX10_mended_19 : decode cX10_mended 19 = .ok (.bipush (-2), 2) := by decide +kernel
theorem dX10_mended_21 : decode cX10_mended 21 = .ok (.ireturn, 1) := by decide +kernel
theorem dX10_mended_10 : decode cX10_mended 10 = .ok (.aload_n 0, 1) := by decide +kernel
theorem dX10_mended_11 : decode cX10_mended 11 = .ok (.getfield 163, 3) := by decide +kernel
theorem dX10_mended_14 : decode cX10_mended 14 = .ok (.iload_n 1, 1) := by decide +kernel
theorem dX10_mended_15 : decode cX10_mended 15 = .ok (.iaload, 1) := by decide +kernel
theorem dX10_mended_16 : decode cX10_mended 16 = .ok (.goto 5, 3) := by decide +kernel
theorem dX10_write_0 : decode cX10_write 0 = .ok (.iload_n 1, 1) := by decide +kernel
theorem dX10_write_1 : decode cX10_write 1 = .ok (.i2l, 1) := by decide +kernel
theorem dX10_write_2 : decode cX10_write 2 = .ok (.lconst 1, 1) := by decide +kernel
theorem dX10_write_3 : decode cX10_write 3 = .ok (.ldc2_w 214, 3) := by decide +kernel
theorem dX10_write_6 : decode cX10_write 6 = .ok (.invokestatic 175, 3) := by decide +kernel
theorem dX10_write_9 : decode cX10_write 9 = .ok (.ifCond .ne 6, 3) := by decide +kernel
theorem dX10_write_15 : decode cX10_write 15 = .ok (.aload_n 0, 1) := by decide +kernel
theorem dX10_write_16 : decode cX10_write 16 = .ok (.getfield 211, 3) := by decide +kernel
theorem dX10_write_19 : decode cX10_write 19 = .ok (.iconst 1, 1) := by decide +kernel
theorem dX10_write_20 : decode cX10_write 20 = .ok (.if_icmp .ne 10, 3) := by decide +kernel
theorem dX10_write_30 : decode cX10_write 30 = .ok (.bipush (-3), 2) := by decide +kernel
theorem dX10_write_32 : decode cX10_write 32 = .ok (.ireturn, 1) := by decide +kernel
theorem dX10_write_12 : decode cX10_write 12 = .ok (.bipush (-2), 2) := by decide +kernel
theorem dX10_write_14 : decode cX10_write 14 = .ok (.ireturn, 1) := by decide +kernel
theorem dX10_written_0 : decode cX10_written 0 = .ok (.iload_n 1, 1) := by decide +kernel
theorem dX10_written_1 : decode cX10_written 1 = .ok (.i2l, 1) := by decide +kernel
theorem dX10_written_2 : decode cX10_written 2 = .ok (.lconst 0, 1) := by decide +kernel
theorem dX10_written_3 : decode cX10_written 3 = .ok (.aload_n 0, 1) := by decide +kernel
theorem dX10_written_4 : decode cX10_written 4 = .ok (.getfield 378, 3) := by decide +kernel
theorem dX10_written_7 : decode cX10_written 7 = .ok (.iconst 1, 1) := by decide +kernel
theorem dX10_written_8 : decode cX10_written 8 = .ok (.isub, 1) := by decide +kernel
theorem dX10_written_9 : decode cX10_written 9 = .ok (.i2l, 1) := by decide +kernel
theorem dX10_written_10 : decode cX10_written 10 = .ok (.invokestatic 175, 3) := by decide +kernel
theorem dX10_written_13 : decode cX10_written 13 = .ok (.ifCond .eq 16, 3) := by decide +kernel
theorem dX10_written_29 : decode cX10_written 29 = .ok (.bipush (-9), 2) := by decide +kernel
theorem dX10_written_31 : decode cX10_written 31 = .ok (.ireturn, 1) := by decide +kernel
set_option maxHeartbeats 4000000 in
set_option maxRecDepth 100000 in
theorem a39_X10_isTold (l : Launch) (D : va_G) (tA : Nat → ClassId) (b : Nat) (i F : Nat → Nat → Int32) (G : Nat → Nat → Int64) (a0_ : Int64) (hi_78_0 : i 78 0 = 0) (hi_78_3 : i 78 3 = 0) (hi_78_6 : i 78 6 = 0) (hi_78_8 : i 78 8 = 0) : xMI l yX10_isTold cX10_isTold 5 (some .boolean) 0 0 D tA b 78 52 i F G [.ref (b + 78), .long a0_] (fun r u => u = (i, F, G) ∧ r = 0) := by
  refine xstart RX10 rfl (by decide) (Nat.le_of_ble_eq_true rfl) ?_
  intro p e s m below meth c ls C0 hr hH hS hl
  have hl : lv_has ls 5 [(0, .ref (b + 78)), (1, .long a0_)] := hl
  refine lv_iconst (pc := 0) (v := 0) C0.1 C0.2.1 dX10_isTold_0 (by decide) ?_
  refine lv_istore_n (pc := 1) (lv' := [(3, .int 0), (0, .ref (b + 78)), (1, .long a0_)]) C0.1 C0.2.1 dX10_isTold_1 rfl hl (by decide) rfl (fun ls hl => ?_)
  refine lv_iconst (pc := 2) (v := 0) C0.1 C0.2.1 dX10_isTold_2 (by decide) ?_
  refine lv_istore (pc := 3) (lv' := [(4, .int 0), (3, .int 0), (0, .ref (b + 78)), (1, .long a0_)]) C0.1 C0.2.1 dX10_isTold_3 hl (by decide) rfl (fun ls hl => ?_)
  refine lv_iload (pc := 5) C0.1 C0.2.1 dX10_isTold_5 (lv_at hl 0 rfl) ?_
  refine lv_aload_n (pc := 7) C0.1 C0.2.1 dX10_isTold_7 rfl (lv_at hl 2 rfl) ?_
  refine xget (pc := 8) C0 hH 78 0 clX10 ⟨Nat.le_of_ble_eq_true rfl, Nat.le_of_ble_eq_true rfl⟩ ⟨rfl, rfl⟩ (Nat.le_of_ble_eq_true rfl) fl_X10_182 (v := .int 0) (congrArg Value.int hi_78_0) dX10_isTold_8 ?_
  refine lv_icmp_ge (pc := 11) (tgt := 42) C0.1 C0.2.1 dX10_isTold_11 (by decide) (fun _ => ?_) (fun c => absurd (by decide) c)
  refine lv_iconst (pc := 42) (v := 0) C0.1 C0.2.1 dX10_isTold_42 (by decide) ?_
  refine lv_istore (pc := 43) (lv' := [(4, .int 0), (3, .int 0), (0, .ref (b + 78)), (1, .long a0_)]) C0.1 C0.2.1 dX10_isTold_43 hl (by decide) rfl (fun ls hl => ?_)
  refine lv_iload (pc := 45) C0.1 C0.2.1 dX10_isTold_45 (lv_at hl 0 rfl) ?_
  refine lv_aload_n (pc := 47) C0.1 C0.2.1 dX10_isTold_47 rfl (lv_at hl 2 rfl) ?_
  refine xget (pc := 48) C0 hH 78 3 clX10 ⟨Nat.le_of_ble_eq_true rfl, Nat.le_of_ble_eq_true rfl⟩ ⟨rfl, rfl⟩ (Nat.le_of_ble_eq_true rfl) fl_X10_186 (v := .int 0) (congrArg Value.int hi_78_3) dX10_isTold_48 ?_
  refine lv_icmp_ge (pc := 51) (tgt := 96) C0.1 C0.2.1 dX10_isTold_51 (by decide) (fun _ => ?_) (fun c => absurd (by decide) c)
  refine lv_iconst (pc := 96) (v := 0) C0.1 C0.2.1 dX10_isTold_96 (by decide) ?_
  refine lv_istore (pc := 97) (lv' := [(4, .int 0), (3, .int 0), (0, .ref (b + 78)), (1, .long a0_)]) C0.1 C0.2.1 dX10_isTold_97 hl (by decide) rfl (fun ls hl => ?_)
  refine lv_iload (pc := 99) C0.1 C0.2.1 dX10_isTold_99 (lv_at hl 0 rfl) ?_
  refine lv_aload_n (pc := 101) C0.1 C0.2.1 dX10_isTold_101 rfl (lv_at hl 2 rfl) ?_
  refine xget (pc := 102) C0 hH 78 6 clX10 ⟨Nat.le_of_ble_eq_true rfl, Nat.le_of_ble_eq_true rfl⟩ ⟨rfl, rfl⟩ (Nat.le_of_ble_eq_true rfl) fl_X10_189 (v := .int 0) (congrArg Value.int hi_78_6) dX10_isTold_102 ?_
  refine lv_icmp_ge (pc := 105) (tgt := 136) C0.1 C0.2.1 dX10_isTold_105 (by decide) (fun _ => ?_) (fun c => absurd (by decide) c)
  refine lv_iconst (pc := 136) (v := 0) C0.1 C0.2.1 dX10_isTold_136 (by decide) ?_
  refine lv_istore (pc := 137) (lv' := [(4, .int 0), (3, .int 0), (0, .ref (b + 78)), (1, .long a0_)]) C0.1 C0.2.1 dX10_isTold_137 hl (by decide) rfl (fun ls hl => ?_)
  refine lv_iload (pc := 139) C0.1 C0.2.1 dX10_isTold_139 (lv_at hl 0 rfl) ?_
  refine lv_aload_n (pc := 141) C0.1 C0.2.1 dX10_isTold_141 rfl (lv_at hl 2 rfl) ?_
  refine xget (pc := 142) C0 hH 78 8 clX10 ⟨Nat.le_of_ble_eq_true rfl, Nat.le_of_ble_eq_true rfl⟩ ⟨rfl, rfl⟩ (Nat.le_of_ble_eq_true rfl) fl_X10_192 (v := .int 0) (congrArg Value.int hi_78_8) dX10_isTold_142 ?_
  refine lv_icmp_ge (pc := 145) (tgt := 177) C0.1 C0.2.1 dX10_isTold_145 (by decide) (fun _ => ?_) (fun c => absurd (by decide) c)
  refine lv_iload_n (pc := 177) C0.1 C0.2.1 dX10_isTold_177 rfl (lv_at hl 1 rfl) ?_
  exact xzret (pc := 178) C0 hr hH hS dX10_isTold_178 (by decide) ⟨rfl, rfl⟩
set_option maxHeartbeats 4000000 in
set_option maxRecDepth 100000 in
theorem a40_X10_isTold (l : Launch) (D : va_G) (tA : Nat → ClassId) (b : Nat) (i F : Nat → Nat → Int32) (G : Nat → Nat → Int64) (a0_ : Int64) (hi_78_0 : i 78 0 = 0) (hi_78_3 : i 78 3 = 0) (hi_78_6 : i 78 6 = 0) (hi_78_8 : i 78 8 = 0) : xMI l yX10_isTold cX10_isTold 5 (some .boolean) 0 0 D tA b 78 52 i F G [.ref (b + 78), .long a0_] (fun r u => u = (i, F, G) ∧ r = 0) := by
  refine xstart RX10 rfl (by decide) (Nat.le_of_ble_eq_true rfl) ?_
  intro p e s m below meth c ls C0 hr hH hS hl
  have hl : lv_has ls 5 [(0, .ref (b + 78)), (1, .long a0_)] := hl
  refine lv_iconst (pc := 0) (v := 0) C0.1 C0.2.1 dX10_isTold_0 (by decide) ?_
  refine lv_istore_n (pc := 1) (lv' := [(3, .int 0), (0, .ref (b + 78)), (1, .long a0_)]) C0.1 C0.2.1 dX10_isTold_1 rfl hl (by decide) rfl (fun ls hl => ?_)
  refine lv_iconst (pc := 2) (v := 0) C0.1 C0.2.1 dX10_isTold_2 (by decide) ?_
  refine lv_istore (pc := 3) (lv' := [(4, .int 0), (3, .int 0), (0, .ref (b + 78)), (1, .long a0_)]) C0.1 C0.2.1 dX10_isTold_3 hl (by decide) rfl (fun ls hl => ?_)
  refine lv_iload (pc := 5) C0.1 C0.2.1 dX10_isTold_5 (lv_at hl 0 rfl) ?_
  refine lv_aload_n (pc := 7) C0.1 C0.2.1 dX10_isTold_7 rfl (lv_at hl 2 rfl) ?_
  refine xget (pc := 8) C0 hH 78 0 clX10 ⟨Nat.le_of_ble_eq_true rfl, Nat.le_of_ble_eq_true rfl⟩ ⟨rfl, rfl⟩ (Nat.le_of_ble_eq_true rfl) fl_X10_182 (v := .int 0) (congrArg Value.int hi_78_0) dX10_isTold_8 ?_
  refine lv_icmp_ge (pc := 11) (tgt := 42) C0.1 C0.2.1 dX10_isTold_11 (by decide) (fun _ => ?_) (fun c => absurd (by decide) c)
  refine lv_iconst (pc := 42) (v := 0) C0.1 C0.2.1 dX10_isTold_42 (by decide) ?_
  refine lv_istore (pc := 43) (lv' := [(4, .int 0), (3, .int 0), (0, .ref (b + 78)), (1, .long a0_)]) C0.1 C0.2.1 dX10_isTold_43 hl (by decide) rfl (fun ls hl => ?_)
  refine lv_iload (pc := 45) C0.1 C0.2.1 dX10_isTold_45 (lv_at hl 0 rfl) ?_
  refine lv_aload_n (pc := 47) C0.1 C0.2.1 dX10_isTold_47 rfl (lv_at hl 2 rfl) ?_
  refine xget (pc := 48) C0 hH 78 3 clX10 ⟨Nat.le_of_ble_eq_true rfl, Nat.le_of_ble_eq_true rfl⟩ ⟨rfl, rfl⟩ (Nat.le_of_ble_eq_true rfl) fl_X10_186 (v := .int 0) (congrArg Value.int hi_78_3) dX10_isTold_48 ?_
  refine lv_icmp_ge (pc := 51) (tgt := 96) C0.1 C0.2.1 dX10_isTold_51 (by decide) (fun _ => ?_) (fun c => absurd (by decide) c)
  refine lv_iconst (pc := 96) (v := 0) C0.1 C0.2.1 dX10_isTold_96 (by decide) ?_
  refine lv_istore (pc := 97) (lv' := [(4, .int 0), (3, .int 0), (0, .ref (b + 78)), (1, .long a0_)]) C0.1 C0.2.1 dX10_isTold_97 hl (by decide) rfl (fun ls hl => ?_)
  refine lv_iload (pc := 99) C0.1 C0.2.1 dX10_isTold_99 (lv_at hl 0 rfl) ?_
  refine lv_aload_n (pc := 101) C0.1 C0.2.1 dX10_isTold_101 rfl (lv_at hl 2 rfl) ?_
  refine xget (pc := 102) C0 hH 78 6 clX10 ⟨Nat.le_of_ble_eq_true rfl, Nat.le_of_ble_eq_true rfl⟩ ⟨rfl, rfl⟩ (Nat.le_of_ble_eq_true rfl) fl_X10_189 (v := .int 0) (congrArg Value.int hi_78_6) dX10_isTold_102 ?_
  refine lv_icmp_ge (pc := 105) (tgt := 136) C0.1 C0.2.1 dX10_isTold_105 (by decide) (fun _ => ?_) (fun c => absurd (by decide) c)
  refine lv_iconst (pc := 136) (v := 0) C0.1 C0.2.1 dX10_isTold_136 (by decide) ?_
  refine lv_istore (pc := 137) (lv' := [(4, .int 0), (3, .int 0), (0, .ref (b + 78)), (1, .long a0_)]) C0.1 C0.2.1 dX10_isTold_137 hl (by decide) rfl (fun ls hl => ?_)
  refine lv_iload (pc := 139) C0.1 C0.2.1 dX10_isTold_139 (lv_at hl 0 rfl) ?_
  refine lv_aload_n (pc := 141) C0.1 C0.2.1 dX10_isTold_141 rfl (lv_at hl 2 rfl) ?_
  refine xget (pc := 142) C0 hH 78 8 clX10 ⟨Nat.le_of_ble_eq_true rfl, Nat.le_of_ble_eq_true rfl⟩ ⟨rfl, rfl⟩ (Nat.le_of_ble_eq_true rfl) fl_X10_192 (v := .int 0) (congrArg Value.int hi_78_8) dX10_isTold_142 ?_
  refine lv_icmp_ge (pc := 145) (tgt := 177) C0.1 C0.2.1 dX10_isTold_145 (by decide) (fun _ => ?_) (fun c => absurd (by decide) c)
  refine lv_iload_n (pc := 177) C0.1 C0.2.1 dX10_isTold_177 rfl (lv_at hl 1 rfl) ?_
  exact xzret (pc := 178) C0 hr hH hS dX10_isTold_178 (by decide) ⟨rfl, rfl⟩
set_option maxHeartbeats 4000000 in
set_option maxRecDepth 100000 in
theorem a41_X10_isTold (l : Launch) (D : va_G) (tA : Nat → ClassId) (b : Nat) (i F : Nat → Nat → Int32) (G : Nat → Nat → Int64) (a0_ : Int64) (hi_78_0 : i 78 0 = 0) (hi_78_3 : i 78 3 = 0) (hi_78_6 : i 78 6 = 0) (hi_78_8 : i 78 8 = 0) : xMI l yX10_isTold cX10_isTold 5 (some .boolean) 0 0 D tA b 78 52 i F G [.ref (b + 78), .long a0_] (fun r u => u = (i, F, G) ∧ r = 0) := by
  refine xstart RX10 rfl (by decide) (Nat.le_of_ble_eq_true rfl) ?_
  intro p e s m below meth c ls C0 hr hH hS hl
  have hl : lv_has ls 5 [(0, .ref (b + 78)), (1, .long a0_)] := hl
  refine lv_iconst (pc := 0) (v := 0) C0.1 C0.2.1 dX10_isTold_0 (by decide) ?_
  refine lv_istore_n (pc := 1) (lv' := [(3, .int 0), (0, .ref (b + 78)), (1, .long a0_)]) C0.1 C0.2.1 dX10_isTold_1 rfl hl (by decide) rfl (fun ls hl => ?_)
  refine lv_iconst (pc := 2) (v := 0) C0.1 C0.2.1 dX10_isTold_2 (by decide) ?_
  refine lv_istore (pc := 3) (lv' := [(4, .int 0), (3, .int 0), (0, .ref (b + 78)), (1, .long a0_)]) C0.1 C0.2.1 dX10_isTold_3 hl (by decide) rfl (fun ls hl => ?_)
  refine lv_iload (pc := 5) C0.1 C0.2.1 dX10_isTold_5 (lv_at hl 0 rfl) ?_
  refine lv_aload_n (pc := 7) C0.1 C0.2.1 dX10_isTold_7 rfl (lv_at hl 2 rfl) ?_
  refine xget (pc := 8) C0 hH 78 0 clX10 ⟨Nat.le_of_ble_eq_true rfl, Nat.le_of_ble_eq_true rfl⟩ ⟨rfl, rfl⟩ (Nat.le_of_ble_eq_true rfl) fl_X10_182 (v := .int 0) (congrArg Value.int hi_78_0) dX10_isTold_8 ?_
  refine lv_icmp_ge (pc := 11) (tgt := 42) C0.1 C0.2.1 dX10_isTold_11 (by decide) (fun _ => ?_) (fun c => absurd (by decide) c)
  refine lv_iconst (pc := 42) (v := 0) C0.1 C0.2.1 dX10_isTold_42 (by decide) ?_
  refine lv_istore (pc := 43) (lv' := [(4, .int 0), (3, .int 0), (0, .ref (b + 78)), (1, .long a0_)]) C0.1 C0.2.1 dX10_isTold_43 hl (by decide) rfl (fun ls hl => ?_)
  refine lv_iload (pc := 45) C0.1 C0.2.1 dX10_isTold_45 (lv_at hl 0 rfl) ?_
  refine lv_aload_n (pc := 47) C0.1 C0.2.1 dX10_isTold_47 rfl (lv_at hl 2 rfl) ?_
  refine xget (pc := 48) C0 hH 78 3 clX10 ⟨Nat.le_of_ble_eq_true rfl, Nat.le_of_ble_eq_true rfl⟩ ⟨rfl, rfl⟩ (Nat.le_of_ble_eq_true rfl) fl_X10_186 (v := .int 0) (congrArg Value.int hi_78_3) dX10_isTold_48 ?_
  refine lv_icmp_ge (pc := 51) (tgt := 96) C0.1 C0.2.1 dX10_isTold_51 (by decide) (fun _ => ?_) (fun c => absurd (by decide) c)
  refine lv_iconst (pc := 96) (v := 0) C0.1 C0.2.1 dX10_isTold_96 (by decide) ?_
  refine lv_istore (pc := 97) (lv' := [(4, .int 0), (3, .int 0), (0, .ref (b + 78)), (1, .long a0_)]) C0.1 C0.2.1 dX10_isTold_97 hl (by decide) rfl (fun ls hl => ?_)
  refine lv_iload (pc := 99) C0.1 C0.2.1 dX10_isTold_99 (lv_at hl 0 rfl) ?_
  refine lv_aload_n (pc := 101) C0.1 C0.2.1 dX10_isTold_101 rfl (lv_at hl 2 rfl) ?_
  refine xget (pc := 102) C0 hH 78 6 clX10 ⟨Nat.le_of_ble_eq_true rfl, Nat.le_of_ble_eq_true rfl⟩ ⟨rfl, rfl⟩ (Nat.le_of_ble_eq_true rfl) fl_X10_189 (v := .int 0) (congrArg Value.int hi_78_6) dX10_isTold_102 ?_
  refine lv_icmp_ge (pc := 105) (tgt := 136) C0.1 C0.2.1 dX10_isTold_105 (by decide) (fun _ => ?_) (fun c => absurd (by decide) c)
  refine lv_iconst (pc := 136) (v := 0) C0.1 C0.2.1 dX10_isTold_136 (by decide) ?_
  refine lv_istore (pc := 137) (lv' := [(4, .int 0), (3, .int 0), (0, .ref (b + 78)), (1, .long a0_)]) C0.1 C0.2.1 dX10_isTold_137 hl (by decide) rfl (fun ls hl => ?_)
  refine lv_iload (pc := 139) C0.1 C0.2.1 dX10_isTold_139 (lv_at hl 0 rfl) ?_
  refine lv_aload_n (pc := 141) C0.1 C0.2.1 dX10_isTold_141 rfl (lv_at hl 2 rfl) ?_
  refine xget (pc := 142) C0 hH 78 8 clX10 ⟨Nat.le_of_ble_eq_true rfl, Nat.le_of_ble_eq_true rfl⟩ ⟨rfl, rfl⟩ (Nat.le_of_ble_eq_true rfl) fl_X10_192 (v := .int 0) (congrArg Value.int hi_78_8) dX10_isTold_142 ?_
  refine lv_icmp_ge (pc := 145) (tgt := 177) C0.1 C0.2.1 dX10_isTold_145 (by decide) (fun _ => ?_) (fun c => absurd (by decide) c)
  refine lv_iload_n (pc := 177) C0.1 C0.2.1 dX10_isTold_177 rfl (lv_at hl 1 rfl) ?_
  exact xzret (pc := 178) C0 hr hH hS dX10_isTold_178 (by decide) ⟨rfl, rfl⟩
set_option maxHeartbeats 4000000 in
set_option maxRecDepth 100000 in
theorem a42_X10_isTold (l : Launch) (D : va_G) (tA : Nat → ClassId) (b : Nat) (i F : Nat → Nat → Int32) (G : Nat → Nat → Int64) (a0_ : Int64) (hi_78_0 : i 78 0 = 0) (hi_78_3 : i 78 3 = 0) (hi_78_6 : i 78 6 = 0) (hi_78_8 : i 78 8 = 0) : xMI l yX10_isTold cX10_isTold 5 (some .boolean) 0 0 D tA b 78 52 i F G [.ref (b + 78), .long a0_] (fun r u => u = (i, F, G) ∧ r = 0) := by
  refine xstart RX10 rfl (by decide) (Nat.le_of_ble_eq_true rfl) ?_
  intro p e s m below meth c ls C0 hr hH hS hl
  have hl : lv_has ls 5 [(0, .ref (b + 78)), (1, .long a0_)] := hl
  refine lv_iconst (pc := 0) (v := 0) C0.1 C0.2.1 dX10_isTold_0 (by decide) ?_
  refine lv_istore_n (pc := 1) (lv' := [(3, .int 0), (0, .ref (b + 78)), (1, .long a0_)]) C0.1 C0.2.1 dX10_isTold_1 rfl hl (by decide) rfl (fun ls hl => ?_)
  refine lv_iconst (pc := 2) (v := 0) C0.1 C0.2.1 dX10_isTold_2 (by decide) ?_
  refine lv_istore (pc := 3) (lv' := [(4, .int 0), (3, .int 0), (0, .ref (b + 78)), (1, .long a0_)]) C0.1 C0.2.1 dX10_isTold_3 hl (by decide) rfl (fun ls hl => ?_)
  refine lv_iload (pc := 5) C0.1 C0.2.1 dX10_isTold_5 (lv_at hl 0 rfl) ?_
  refine lv_aload_n (pc := 7) C0.1 C0.2.1 dX10_isTold_7 rfl (lv_at hl 2 rfl) ?_
  refine xget (pc := 8) C0 hH 78 0 clX10 ⟨Nat.le_of_ble_eq_true rfl, Nat.le_of_ble_eq_true rfl⟩ ⟨rfl, rfl⟩ (Nat.le_of_ble_eq_true rfl) fl_X10_182 (v := .int 0) (congrArg Value.int hi_78_0) dX10_isTold_8 ?_
  refine lv_icmp_ge (pc := 11) (tgt := 42) C0.1 C0.2.1 dX10_isTold_11 (by decide) (fun _ => ?_) (fun c => absurd (by decide) c)
  refine lv_iconst (pc := 42) (v := 0) C0.1 C0.2.1 dX10_isTold_42 (by decide) ?_
  refine lv_istore (pc := 43) (lv' := [(4, .int 0), (3, .int 0), (0, .ref (b + 78)), (1, .long a0_)]) C0.1 C0.2.1 dX10_isTold_43 hl (by decide) rfl (fun ls hl => ?_)
  refine lv_iload (pc := 45) C0.1 C0.2.1 dX10_isTold_45 (lv_at hl 0 rfl) ?_
  refine lv_aload_n (pc := 47) C0.1 C0.2.1 dX10_isTold_47 rfl (lv_at hl 2 rfl) ?_
  refine xget (pc := 48) C0 hH 78 3 clX10 ⟨Nat.le_of_ble_eq_true rfl, Nat.le_of_ble_eq_true rfl⟩ ⟨rfl, rfl⟩ (Nat.le_of_ble_eq_true rfl) fl_X10_186 (v := .int 0) (congrArg Value.int hi_78_3) dX10_isTold_48 ?_
  refine lv_icmp_ge (pc := 51) (tgt := 96) C0.1 C0.2.1 dX10_isTold_51 (by decide) (fun _ => ?_) (fun c => absurd (by decide) c)
  refine lv_iconst (pc := 96) (v := 0) C0.1 C0.2.1 dX10_isTold_96 (by decide) ?_
  refine lv_istore (pc := 97) (lv' := [(4, .int 0), (3, .int 0), (0, .ref (b + 78)), (1, .long a0_)]) C0.1 C0.2.1 dX10_isTold_97 hl (by decide) rfl (fun ls hl => ?_)
  refine lv_iload (pc := 99) C0.1 C0.2.1 dX10_isTold_99 (lv_at hl 0 rfl) ?_
  refine lv_aload_n (pc := 101) C0.1 C0.2.1 dX10_isTold_101 rfl (lv_at hl 2 rfl) ?_
  refine xget (pc := 102) C0 hH 78 6 clX10 ⟨Nat.le_of_ble_eq_true rfl, Nat.le_of_ble_eq_true rfl⟩ ⟨rfl, rfl⟩ (Nat.le_of_ble_eq_true rfl) fl_X10_189 (v := .int 0) (congrArg Value.int hi_78_6) dX10_isTold_102 ?_
  refine lv_icmp_ge (pc := 105) (tgt := 136) C0.1 C0.2.1 dX10_isTold_105 (by decide) (fun _ => ?_) (fun c => absurd (by decide) c)
  refine lv_iconst (pc := 136) (v := 0) C0.1 C0.2.1 dX10_isTold_136 (by decide) ?_
  refine lv_istore (pc := 137) (lv' := [(4, .int 0), (3, .int 0), (0, .ref (b + 78)), (1, .long a0_)]) C0.1 C0.2.1 dX10_isTold_137 hl (by decide) rfl (fun ls hl => ?_)
  refine lv_iload (pc := 139) C0.1 C0.2.1 dX10_isTold_139 (lv_at hl 0 rfl) ?_
  refine lv_aload_n (pc := 141) C0.1 C0.2.1 dX10_isTold_141 rfl (lv_at hl 2 rfl) ?_
  refine xget (pc := 142) C0 hH 78 8 clX10 ⟨Nat.le_of_ble_eq_true rfl, Nat.le_of_ble_eq_true rfl⟩ ⟨rfl, rfl⟩ (Nat.le_of_ble_eq_true rfl) fl_X10_192 (v := .int 0) (congrArg Value.int hi_78_8) dX10_isTold_142 ?_
  refine lv_icmp_ge (pc := 145) (tgt := 177) C0.1 C0.2.1 dX10_isTold_145 (by decide) (fun _ => ?_) (fun c => absurd (by decide) c)
  refine lv_iload_n (pc := 177) C0.1 C0.2.1 dX10_isTold_177 rfl (lv_at hl 1 rfl) ?_
  exact xzret (pc := 178) C0 hr hH hS dX10_isTold_178 (by decide) ⟨rfl, rfl⟩
set_option maxHeartbeats 4000000 in
set_option maxRecDepth 100000 in
theorem p_X10_opener (l : Launch) (D : va_G) (tA : Nat → ClassId) (b : Nat) (i F : Nat → Nat → Int32) (G : Nat → Nat → Int64) (w : Int64) (x : Int32) (hi_78_0 : i 78 0 = 0) (hi_78_3 : i 78 3 = 0) (hi_78_6 : i 78 6 = 0) (hi_78_8 : i 78 8 = 0) : xMI l yX10_opener cX10_opener 6 (some .int) 2 46 D tA b 78 52 i F G [.ref (b + 78), .long w, .int x] (fun r _ => r = opS w x) := by
  refine xstart RX10 rfl (by decide) (Nat.le_of_ble_eq_true rfl) ?_
  intro p e s m below meth c ls C0 hr hH hS hl
  have hl : lv_has ls 6 [(0, .ref (b + 78)), (1, .long w), (3, .int x)] := hl
  refine lv_lload_n (pc := 0) C0.1 C0.2.1 dX10_opener_0 rfl (lv_at hl 1 rfl) ?_
  refine xcSL (pc := 1) [.long w] (c_X10_told l D tA b 78 52 i F G w) C0 hH hS cw_X10_195 rfl ⟨Nat.le_of_ble_eq_true rfl, Nat.le_of_ble_eq_true rfl⟩ hl.1 rfl (Nat.le_of_ble_eq_true rfl) dX10_opener_1 ⟨Nat.le_of_ble_eq_true rfl, Nat.le_of_ble_eq_true rfl⟩ (fun r1 ir1 Fr1 Gr1 _ locs hp hH hS => ?_)
  obtain ⟨hu, rfl⟩ := hp
  cases hu
  refine lv_lstore (pc := 4) (lv' := [(4, .long (nmw w)), (0, .ref (b + 78)), (1, .long w), (3, .int x)]) C0.1 C0.2.1 dX10_opener_4 hl (by decide) rfl (fun ls hl => ?_)
  refine lv_lload (pc := 6) C0.1 C0.2.1 dX10_opener_6 (lv_at hl 0 rfl) ?_
  refine xcSI (pc := 8) [.long (nmw w)] (c_X10_isWord l D tA b 78 52 i F G (nmw w) (tl0_nmw _)) C0 hH hS cw_X10_199 rfl ⟨Nat.le_of_ble_eq_true rfl, Nat.le_of_ble_eq_true rfl⟩ hl.1 rfl (Nat.le_of_ble_eq_true rfl) dX10_opener_8 ⟨Nat.le_of_ble_eq_true rfl, Nat.le_of_ble_eq_true rfl⟩ (fun r2 ir2 Fr2 Gr2 _ locs hp hH hS => ?_)
  obtain ⟨hu, rfl⟩ := hp
  cases hu
  refine lv_if_ne (pc := 11) (tgt := 22) C0.1 C0.2.1 dX10_opener_11 (by decide) (fun c3 => ?_) (fun c3 => ?_)
  · refine lv_iload_n (pc := 22) C0.1 C0.2.1 dX10_opener_22 rfl (lv_at hl 3 rfl) ?_
    refine lv_i2l (pc := 23) (v := x.toInt64) C0.1 C0.2.1 dX10_opener_23 rfl ?_
    refine lv_lconst (pc := 24) (v := 1) C0.1 C0.2.1 dX10_opener_24 (by decide) ?_
    refine lv_ldc2 (pc := 25) C0.1 C0.2.1 C0.2.2.2.1 (C0.2.2.2.2.1 _ kl_X10_206) dX10_opener_25 ?_
    refine xcSI (pc := 28) [.long x.toInt64, .long 1, .long 3] (c_X10_in l D tA b 78 52 i F G x.toInt64 1 3) C0 hH hS cw_X10_175 rfl ⟨Nat.le_of_ble_eq_true rfl, Nat.le_of_ble_eq_true rfl⟩ hl.1 rfl (Nat.le_of_ble_eq_true rfl) dX10_opener_28 ⟨Nat.le_of_ble_eq_true rfl, Nat.le_of_ble_eq_true rfl⟩ (fun r4 ir4 Fr4 Gr4 _ locs hp hH hS => ?_)
    obtain ⟨hu, rfl⟩ := hp
    cases hu
    refine lv_if_ne (pc := 31) (tgt := 42) C0.1 C0.2.1 dX10_opener_31 (by decide) (fun c5 => ?_) (fun c5 => ?_)
    · have : Int64.toInt 1 = 1 := rfl
      have : Int64.toInt 3 = 3 := rfl
      have c5 := in_1i c5
      refine lv_aload_n (pc := 42) C0.1 C0.2.1 dX10_opener_42 rfl (lv_at hl 1 rfl) ?_
      refine lv_lload (pc := 43) C0.1 C0.2.1 dX10_opener_43 (lv_at hl 0 rfl) ?_
      refine xcVI (pc := 45) 78 [.long (nmw w)] (a39_X10_isTold l D tA b i F G (nmw w) (by exact hi_78_0) (by exact hi_78_3) (by exact hi_78_6) (by exact hi_78_8)) C0 hH hS clX10 rfl ⟨⟨Nat.le_of_ble_eq_true rfl, Nat.le_of_ble_eq_true rfl⟩, rfl, rfl⟩ cw_X10_208 rfl ⟨Nat.le_of_ble_eq_true rfl, Nat.le_of_ble_eq_true rfl⟩ hl.1 rfl (Nat.le_of_ble_eq_true rfl) dX10_opener_45 ⟨Nat.le_of_ble_eq_true rfl, Nat.le_of_ble_eq_true rfl⟩ (fun r6 ir6 Fr6 Gr6 _ locs hp hH hS => ?_)
      obtain ⟨hu, rfl⟩ := hp
      cases hu
      refine lv_if_eq (pc := 48) (tgt := 54) C0.1 C0.2.1 dX10_opener_48 (by decide) (fun _ => ?_) (fun c => absurd (by decide) c)
      refine lv_aload_n (pc := 54) C0.1 C0.2.1 dX10_opener_54 rfl (lv_at hl 1 rfl) ?_
      refine xget (pc := 55) C0 hH 78 0 clX10 ⟨Nat.le_of_ble_eq_true rfl, Nat.le_of_ble_eq_true rfl⟩ ⟨rfl, rfl⟩ (Nat.le_of_ble_eq_true rfl) fl_X10_182 (v := .int 0) (congrArg Value.int hi_78_0) dX10_opener_55 ?_
      refine lv_bipush (pc := 58) (v := 8) C0.1 C0.2.1 dX10_opener_58 (by decide) ?_
      refine lv_icmp_ne (pc := 60) (tgt := 66) C0.1 C0.2.1 dX10_opener_60 (by decide) (fun _ => ?_) (fun c => absurd c (by decide))
      refine lv_aload_n (pc := 66) C0.1 C0.2.1 dX10_opener_66 rfl (lv_at hl 1 rfl) ?_
      refine xget (pc := 67) C0 hH 78 1 clX10 ⟨Nat.le_of_ble_eq_true rfl, Nat.le_of_ble_eq_true rfl⟩ ⟨rfl, rfl⟩ (Nat.le_of_ble_eq_true rfl) fl_X10_7 (v := .ref (b + 79)) rfl dX10_opener_67 ?_
      refine lv_aload_n (pc := 70) C0.1 C0.2.1 dX10_opener_70 rfl (lv_at hl 1 rfl) ?_
      refine xget (pc := 71) C0 hH 78 0 clX10 ⟨Nat.le_of_ble_eq_true rfl, Nat.le_of_ble_eq_true rfl⟩ ⟨rfl, rfl⟩ (Nat.le_of_ble_eq_true rfl) fl_X10_182 (v := .int 0) (congrArg Value.int hi_78_0) dX10_opener_71 ?_
      refine lv_lload (pc := 74) C0.1 C0.2.1 dX10_opener_74 (lv_at hl 0 rfl) ?_
      refine xlast (pc := 76) (N := 8) C0 (Nat.le_of_ble_eq_true rfl) hH hS 79 ⟨Nat.le_of_ble_eq_true rfl, Nat.le_of_ble_eq_true rfl⟩ ⟨rfl, rfl⟩ (vin (by decide)) dX10_opener_76 (fun _ locs hH hS => ?_)
      have hH : Hd D tA b 78 52 zz i F (va_up G 79 (vp_updL (G 79) (Int32.toNatClampNeg 0) (nmw w))) _ := hH
      refine lv_aload_n (pc := 77) C0.1 C0.2.1 dX10_opener_77 rfl (lv_at hl 1 rfl) ?_
      refine xget (pc := 78) C0 hH 78 2 clX10 ⟨Nat.le_of_ble_eq_true rfl, Nat.le_of_ble_eq_true rfl⟩ ⟨rfl, rfl⟩ (Nat.le_of_ble_eq_true rfl) fl_X10_13 (v := .ref (b + 80)) rfl dX10_opener_78 ?_
      refine lv_aload_n (pc := 81) C0.1 C0.2.1 dX10_opener_81 rfl (lv_at hl 1 rfl) ?_
      refine xget (pc := 82) C0 hH 78 0 clX10 ⟨Nat.le_of_ble_eq_true rfl, Nat.le_of_ble_eq_true rfl⟩ ⟨rfl, rfl⟩ (Nat.le_of_ble_eq_true rfl) fl_X10_182 (v := .int 0) (congrArg Value.int hi_78_0) dX10_opener_82 ?_
      refine lv_iload_n (pc := 85) C0.1 C0.2.1 dX10_opener_85 rfl (lv_at hl 3 rfl) ?_
      refine xiast (pc := 86) (N := 8) C0 (Nat.le_of_ble_eq_true rfl) hH hS 80 ⟨Nat.le_of_ble_eq_true rfl, Nat.le_of_ble_eq_true rfl⟩ ⟨rfl, rfl⟩ (vin (by decide)) dX10_opener_86 (fun _ locs hH hS _ => ?_)
      have hH : Hd D tA b 78 52 zz i (va_up F 80 (upd (F 80) (Int32.toNatClampNeg 0) x)) (va_up G 79 (vp_updL (G 79) (Int32.toNatClampNeg 0) (nmw w))) _ := hH
      refine lv_aload_n (pc := 87) C0.1 C0.2.1 dX10_opener_87 rfl (lv_at hl 1 rfl) ?_
      refine lv_dup (pc := 88) C0.1 C0.2.1 dX10_opener_88 rfl ?_
      refine xget (pc := 89) C0 hH 78 0 clX10 ⟨Nat.le_of_ble_eq_true rfl, Nat.le_of_ble_eq_true rfl⟩ ⟨rfl, rfl⟩ (Nat.le_of_ble_eq_true rfl) fl_X10_182 (v := .int 0) (congrArg Value.int hi_78_0) dX10_opener_89 ?_
      refine lv_iconst (pc := 92) (v := 1) C0.1 C0.2.1 dX10_opener_92 (by decide) ?_
      refine lv_iadd (pc := 93) C0.1 C0.2.1 dX10_opener_93 ?_
      refine lv_topi (fun q7 eq7 => ?_)
      obtain rfl : q7 = 1 := eq7.trans (by decide)
      refine xputI (pc := 94) C0 (Nat.le_of_ble_eq_true rfl) hH hS 78 0 clX10 ⟨Nat.le_of_ble_eq_true rfl, Nat.le_of_ble_eq_true rfl⟩ ⟨rfl, rfl⟩ ⟨Nat.le_of_ble_eq_true rfl, rfl, rfl⟩ fl_X10_182 (x := 1) ⟨rfl, rfl⟩ dX10_opener_94 (fun _ locs hH hS _ => ?_)
      have hH : Hd D tA b 78 52 zz (up2 i 78 0 1) (va_up F 80 (upd (F 80) (Int32.toNatClampNeg 0) x)) (va_up G 79 (vp_updL (G 79) (Int32.toNatClampNeg 0) (nmw w))) _ := hH
      refine lv_aload_n (pc := 97) C0.1 C0.2.1 dX10_opener_97 rfl (lv_at hl 1 rfl) ?_
      refine lv_iconst (pc := 98) (v := 0) C0.1 C0.2.1 dX10_opener_98 (by decide) ?_
      refine xputI (pc := 99) C0 (Nat.le_of_ble_eq_true rfl) hH hS 78 15 clX10 ⟨Nat.le_of_ble_eq_true rfl, Nat.le_of_ble_eq_true rfl⟩ ⟨rfl, rfl⟩ ⟨Nat.le_of_ble_eq_true rfl, rfl, rfl⟩ fl_X10_211 (x := 0) ⟨rfl, rfl⟩ dX10_opener_99 (fun _ locs hH hS _ => ?_)
      have hH : Hd D tA b 78 52 zz (up2 (up2 i 78 0 1) 78 15 0) (va_up F 80 (upd (F 80) (Int32.toNatClampNeg 0) x)) (va_up G 79 (vp_updL (G 79) (Int32.toNatClampNeg 0) (nmw w))) _ := hH
      refine lv_aload_n (pc := 102) C0.1 C0.2.1 dX10_opener_102 rfl (lv_at hl 1 rfl) ?_
      refine xget (pc := 103) C0 hH 78 0 clX10 ⟨Nat.le_of_ble_eq_true rfl, Nat.le_of_ble_eq_true rfl⟩ ⟨rfl, rfl⟩ (Nat.le_of_ble_eq_true rfl) fl_X10_182 (v := .int 1) rfl dX10_opener_103 ?_
      exact xiret (pc := 106) C0 hr hH hS dX10_opener_106 (by unfold opS; rw [if_neg (fun q => q.elim (fun q => by first | exact absurd q.1 (by assumption) | exact absurd q.2 (by assumption)) (fun q => q (by first | assumption | omega)))])
    · have : Int64.toInt 1 = 1 := rfl
      have : Int64.toInt 3 = 3 := rfl
      have c5 := in_0i c5
      refine lv_iload_n (pc := 34) C0.1 C0.2.1 dX10_opener_34 rfl (lv_at hl 3 rfl) ?_
      refine lv_iconst (pc := 35) (v := 5) C0.1 C0.2.1 dX10_opener_35 (by decide) ?_
      refine lv_icmp_eq (pc := 36) (tgt := 42) C0.1 C0.2.1 dX10_opener_36 (by decide) (fun c8 => ?_) (fun c8 => ?_)
      · have : Int32.toInt 5 = 5 := rfl
        have c8 := congrArg Int32.toInt c8
        refine lv_aload_n (pc := 42) C0.1 C0.2.1 dX10_opener_42 rfl (lv_at hl 1 rfl) ?_
        refine lv_lload (pc := 43) C0.1 C0.2.1 dX10_opener_43 (lv_at hl 0 rfl) ?_
        refine xcVI (pc := 45) 78 [.long (nmw w)] (a40_X10_isTold l D tA b i F G (nmw w) (by exact hi_78_0) (by exact hi_78_3) (by exact hi_78_6) (by exact hi_78_8)) C0 hH hS clX10 rfl ⟨⟨Nat.le_of_ble_eq_true rfl, Nat.le_of_ble_eq_true rfl⟩, rfl, rfl⟩ cw_X10_208 rfl ⟨Nat.le_of_ble_eq_true rfl, Nat.le_of_ble_eq_true rfl⟩ hl.1 rfl (Nat.le_of_ble_eq_true rfl) dX10_opener_45 ⟨Nat.le_of_ble_eq_true rfl, Nat.le_of_ble_eq_true rfl⟩ (fun r9 ir9 Fr9 Gr9 _ locs hp hH hS => ?_)
        obtain ⟨hu, rfl⟩ := hp
        cases hu
        refine lv_if_eq (pc := 48) (tgt := 54) C0.1 C0.2.1 dX10_opener_48 (by decide) (fun _ => ?_) (fun c => absurd (by decide) c)
        refine lv_aload_n (pc := 54) C0.1 C0.2.1 dX10_opener_54 rfl (lv_at hl 1 rfl) ?_
        refine xget (pc := 55) C0 hH 78 0 clX10 ⟨Nat.le_of_ble_eq_true rfl, Nat.le_of_ble_eq_true rfl⟩ ⟨rfl, rfl⟩ (Nat.le_of_ble_eq_true rfl) fl_X10_182 (v := .int 0) (congrArg Value.int hi_78_0) dX10_opener_55 ?_
        refine lv_bipush (pc := 58) (v := 8) C0.1 C0.2.1 dX10_opener_58 (by decide) ?_
        refine lv_icmp_ne (pc := 60) (tgt := 66) C0.1 C0.2.1 dX10_opener_60 (by decide) (fun _ => ?_) (fun c => absurd c (by decide))
        refine lv_aload_n (pc := 66) C0.1 C0.2.1 dX10_opener_66 rfl (lv_at hl 1 rfl) ?_
        refine xget (pc := 67) C0 hH 78 1 clX10 ⟨Nat.le_of_ble_eq_true rfl, Nat.le_of_ble_eq_true rfl⟩ ⟨rfl, rfl⟩ (Nat.le_of_ble_eq_true rfl) fl_X10_7 (v := .ref (b + 79)) rfl dX10_opener_67 ?_
        refine lv_aload_n (pc := 70) C0.1 C0.2.1 dX10_opener_70 rfl (lv_at hl 1 rfl) ?_
        refine xget (pc := 71) C0 hH 78 0 clX10 ⟨Nat.le_of_ble_eq_true rfl, Nat.le_of_ble_eq_true rfl⟩ ⟨rfl, rfl⟩ (Nat.le_of_ble_eq_true rfl) fl_X10_182 (v := .int 0) (congrArg Value.int hi_78_0) dX10_opener_71 ?_
        refine lv_lload (pc := 74) C0.1 C0.2.1 dX10_opener_74 (lv_at hl 0 rfl) ?_
        refine xlast (pc := 76) (N := 8) C0 (Nat.le_of_ble_eq_true rfl) hH hS 79 ⟨Nat.le_of_ble_eq_true rfl, Nat.le_of_ble_eq_true rfl⟩ ⟨rfl, rfl⟩ (vin (by decide)) dX10_opener_76 (fun _ locs hH hS => ?_)
        have hH : Hd D tA b 78 52 zz i F (va_up G 79 (vp_updL (G 79) (Int32.toNatClampNeg 0) (nmw w))) _ := hH
        refine lv_aload_n (pc := 77) C0.1 C0.2.1 dX10_opener_77 rfl (lv_at hl 1 rfl) ?_
        refine xget (pc := 78) C0 hH 78 2 clX10 ⟨Nat.le_of_ble_eq_true rfl, Nat.le_of_ble_eq_true rfl⟩ ⟨rfl, rfl⟩ (Nat.le_of_ble_eq_true rfl) fl_X10_13 (v := .ref (b + 80)) rfl dX10_opener_78 ?_
        refine lv_aload_n (pc := 81) C0.1 C0.2.1 dX10_opener_81 rfl (lv_at hl 1 rfl) ?_
        refine xget (pc := 82) C0 hH 78 0 clX10 ⟨Nat.le_of_ble_eq_true rfl, Nat.le_of_ble_eq_true rfl⟩ ⟨rfl, rfl⟩ (Nat.le_of_ble_eq_true rfl) fl_X10_182 (v := .int 0) (congrArg Value.int hi_78_0) dX10_opener_82 ?_
        refine lv_iload_n (pc := 85) C0.1 C0.2.1 dX10_opener_85 rfl (lv_at hl 3 rfl) ?_
        refine xiast (pc := 86) (N := 8) C0 (Nat.le_of_ble_eq_true rfl) hH hS 80 ⟨Nat.le_of_ble_eq_true rfl, Nat.le_of_ble_eq_true rfl⟩ ⟨rfl, rfl⟩ (vin (by decide)) dX10_opener_86 (fun _ locs hH hS _ => ?_)
        have hH : Hd D tA b 78 52 zz i (va_up F 80 (upd (F 80) (Int32.toNatClampNeg 0) x)) (va_up G 79 (vp_updL (G 79) (Int32.toNatClampNeg 0) (nmw w))) _ := hH
        refine lv_aload_n (pc := 87) C0.1 C0.2.1 dX10_opener_87 rfl (lv_at hl 1 rfl) ?_
        refine lv_dup (pc := 88) C0.1 C0.2.1 dX10_opener_88 rfl ?_
        refine xget (pc := 89) C0 hH 78 0 clX10 ⟨Nat.le_of_ble_eq_true rfl, Nat.le_of_ble_eq_true rfl⟩ ⟨rfl, rfl⟩ (Nat.le_of_ble_eq_true rfl) fl_X10_182 (v := .int 0) (congrArg Value.int hi_78_0) dX10_opener_89 ?_
        refine lv_iconst (pc := 92) (v := 1) C0.1 C0.2.1 dX10_opener_92 (by decide) ?_
        refine lv_iadd (pc := 93) C0.1 C0.2.1 dX10_opener_93 ?_
        refine lv_topi (fun q10 eq10 => ?_)
        obtain rfl : q10 = 1 := eq10.trans (by decide)
        refine xputI (pc := 94) C0 (Nat.le_of_ble_eq_true rfl) hH hS 78 0 clX10 ⟨Nat.le_of_ble_eq_true rfl, Nat.le_of_ble_eq_true rfl⟩ ⟨rfl, rfl⟩ ⟨Nat.le_of_ble_eq_true rfl, rfl, rfl⟩ fl_X10_182 (x := 1) ⟨rfl, rfl⟩ dX10_opener_94 (fun _ locs hH hS _ => ?_)
        have hH : Hd D tA b 78 52 zz (up2 i 78 0 1) (va_up F 80 (upd (F 80) (Int32.toNatClampNeg 0) x)) (va_up G 79 (vp_updL (G 79) (Int32.toNatClampNeg 0) (nmw w))) _ := hH
        refine lv_aload_n (pc := 97) C0.1 C0.2.1 dX10_opener_97 rfl (lv_at hl 1 rfl) ?_
        refine lv_iconst (pc := 98) (v := 0) C0.1 C0.2.1 dX10_opener_98 (by decide) ?_
        refine xputI (pc := 99) C0 (Nat.le_of_ble_eq_true rfl) hH hS 78 15 clX10 ⟨Nat.le_of_ble_eq_true rfl, Nat.le_of_ble_eq_true rfl⟩ ⟨rfl, rfl⟩ ⟨Nat.le_of_ble_eq_true rfl, rfl, rfl⟩ fl_X10_211 (x := 0) ⟨rfl, rfl⟩ dX10_opener_99 (fun _ locs hH hS _ => ?_)
        have hH : Hd D tA b 78 52 zz (up2 (up2 i 78 0 1) 78 15 0) (va_up F 80 (upd (F 80) (Int32.toNatClampNeg 0) x)) (va_up G 79 (vp_updL (G 79) (Int32.toNatClampNeg 0) (nmw w))) _ := hH
        refine lv_aload_n (pc := 102) C0.1 C0.2.1 dX10_opener_102 rfl (lv_at hl 1 rfl) ?_
        refine xget (pc := 103) C0 hH 78 0 clX10 ⟨Nat.le_of_ble_eq_true rfl, Nat.le_of_ble_eq_true rfl⟩ ⟨rfl, rfl⟩ (Nat.le_of_ble_eq_true rfl) fl_X10_182 (v := .int 1) rfl dX10_opener_103 ?_
        exact xiret (pc := 106) C0 hr hH hS dX10_opener_106 (by unfold opS; rw [if_neg (fun q => q.elim (fun q => by first | exact absurd q.1 (by assumption) | exact absurd q.2 (by assumption)) (fun q => q (by first | assumption | omega)))])
      · have : Int32.toInt 5 = 5 := rfl
        have c8 : ¬ _ := fun q => c8 (Int32.toInt_inj.mp q)
        refine lv_bipush (pc := 39) (v := (-2)) C0.1 C0.2.1 dX10_opener_39 (by decide) ?_
        exact xiret (pc := 41) C0 hr hH hS dX10_opener_41 (by unfold opS; rw [if_pos (by first | exact Or.inl ⟨by assumption, by assumption⟩ | exact Or.inr (by first | assumption | omega))])
  · refine lv_lload (pc := 14) C0.1 C0.2.1 dX10_opener_14 (lv_at hl 0 rfl) ?_
    refine xcSI (pc := 16) [.long (nmw w)] (c_X10_isOneMark l D tA b 78 52 i F G (nmw w)) C0 hH hS cw_X10_203 rfl ⟨Nat.le_of_ble_eq_true rfl, Nat.le_of_ble_eq_true rfl⟩ hl.1 rfl (Nat.le_of_ble_eq_true rfl) dX10_opener_16 ⟨Nat.le_of_ble_eq_true rfl, Nat.le_of_ble_eq_true rfl⟩ (fun r11 ir11 Fr11 Gr11 _ locs hp hH hS => ?_)
    obtain ⟨hu, rfl⟩ := hp
    cases hu
    refine lv_if_eq (pc := 19) (tgt := 39) C0.1 C0.2.1 dX10_opener_19 (by decide) (fun c12 => ?_) (fun c12 => ?_)
    · refine lv_bipush (pc := 39) (v := (-2)) C0.1 C0.2.1 dX10_opener_39 (by decide) ?_
      exact xiret (pc := 41) C0 hr hH hS dX10_opener_41 (by unfold opS; rw [if_pos (by first | exact Or.inl ⟨by assumption, by assumption⟩ | exact Or.inr (by first | assumption | omega))])
    · refine lv_iload_n (pc := 22) C0.1 C0.2.1 dX10_opener_22 rfl (lv_at hl 3 rfl) ?_
      refine lv_i2l (pc := 23) (v := x.toInt64) C0.1 C0.2.1 dX10_opener_23 rfl ?_
      refine lv_lconst (pc := 24) (v := 1) C0.1 C0.2.1 dX10_opener_24 (by decide) ?_
      refine lv_ldc2 (pc := 25) C0.1 C0.2.1 C0.2.2.2.1 (C0.2.2.2.2.1 _ kl_X10_206) dX10_opener_25 ?_
      refine xcSI (pc := 28) [.long x.toInt64, .long 1, .long 3] (c_X10_in l D tA b 78 52 i F G x.toInt64 1 3) C0 hH hS cw_X10_175 rfl ⟨Nat.le_of_ble_eq_true rfl, Nat.le_of_ble_eq_true rfl⟩ hl.1 rfl (Nat.le_of_ble_eq_true rfl) dX10_opener_28 ⟨Nat.le_of_ble_eq_true rfl, Nat.le_of_ble_eq_true rfl⟩ (fun r13 ir13 Fr13 Gr13 _ locs hp hH hS => ?_)
      obtain ⟨hu, rfl⟩ := hp
      cases hu
      refine lv_if_ne (pc := 31) (tgt := 42) C0.1 C0.2.1 dX10_opener_31 (by decide) (fun c14 => ?_) (fun c14 => ?_)
      · have : Int64.toInt 1 = 1 := rfl
        have : Int64.toInt 3 = 3 := rfl
        have c14 := in_1i c14
        refine lv_aload_n (pc := 42) C0.1 C0.2.1 dX10_opener_42 rfl (lv_at hl 1 rfl) ?_
        refine lv_lload (pc := 43) C0.1 C0.2.1 dX10_opener_43 (lv_at hl 0 rfl) ?_
        refine xcVI (pc := 45) 78 [.long (nmw w)] (a41_X10_isTold l D tA b i F G (nmw w) (by exact hi_78_0) (by exact hi_78_3) (by exact hi_78_6) (by exact hi_78_8)) C0 hH hS clX10 rfl ⟨⟨Nat.le_of_ble_eq_true rfl, Nat.le_of_ble_eq_true rfl⟩, rfl, rfl⟩ cw_X10_208 rfl ⟨Nat.le_of_ble_eq_true rfl, Nat.le_of_ble_eq_true rfl⟩ hl.1 rfl (Nat.le_of_ble_eq_true rfl) dX10_opener_45 ⟨Nat.le_of_ble_eq_true rfl, Nat.le_of_ble_eq_true rfl⟩ (fun r15 ir15 Fr15 Gr15 _ locs hp hH hS => ?_)
        obtain ⟨hu, rfl⟩ := hp
        cases hu
        refine lv_if_eq (pc := 48) (tgt := 54) C0.1 C0.2.1 dX10_opener_48 (by decide) (fun _ => ?_) (fun c => absurd (by decide) c)
        refine lv_aload_n (pc := 54) C0.1 C0.2.1 dX10_opener_54 rfl (lv_at hl 1 rfl) ?_
        refine xget (pc := 55) C0 hH 78 0 clX10 ⟨Nat.le_of_ble_eq_true rfl, Nat.le_of_ble_eq_true rfl⟩ ⟨rfl, rfl⟩ (Nat.le_of_ble_eq_true rfl) fl_X10_182 (v := .int 0) (congrArg Value.int hi_78_0) dX10_opener_55 ?_
        refine lv_bipush (pc := 58) (v := 8) C0.1 C0.2.1 dX10_opener_58 (by decide) ?_
        refine lv_icmp_ne (pc := 60) (tgt := 66) C0.1 C0.2.1 dX10_opener_60 (by decide) (fun _ => ?_) (fun c => absurd c (by decide))
        refine lv_aload_n (pc := 66) C0.1 C0.2.1 dX10_opener_66 rfl (lv_at hl 1 rfl) ?_
        refine xget (pc := 67) C0 hH 78 1 clX10 ⟨Nat.le_of_ble_eq_true rfl, Nat.le_of_ble_eq_true rfl⟩ ⟨rfl, rfl⟩ (Nat.le_of_ble_eq_true rfl) fl_X10_7 (v := .ref (b + 79)) rfl dX10_opener_67 ?_
        refine lv_aload_n (pc := 70) C0.1 C0.2.1 dX10_opener_70 rfl (lv_at hl 1 rfl) ?_
        refine xget (pc := 71) C0 hH 78 0 clX10 ⟨Nat.le_of_ble_eq_true rfl, Nat.le_of_ble_eq_true rfl⟩ ⟨rfl, rfl⟩ (Nat.le_of_ble_eq_true rfl) fl_X10_182 (v := .int 0) (congrArg Value.int hi_78_0) dX10_opener_71 ?_
        refine lv_lload (pc := 74) C0.1 C0.2.1 dX10_opener_74 (lv_at hl 0 rfl) ?_
        refine xlast (pc := 76) (N := 8) C0 (Nat.le_of_ble_eq_true rfl) hH hS 79 ⟨Nat.le_of_ble_eq_true rfl, Nat.le_of_ble_eq_true rfl⟩ ⟨rfl, rfl⟩ (vin (by decide)) dX10_opener_76 (fun _ locs hH hS => ?_)
        have hH : Hd D tA b 78 52 zz i F (va_up G 79 (vp_updL (G 79) (Int32.toNatClampNeg 0) (nmw w))) _ := hH
        refine lv_aload_n (pc := 77) C0.1 C0.2.1 dX10_opener_77 rfl (lv_at hl 1 rfl) ?_
        refine xget (pc := 78) C0 hH 78 2 clX10 ⟨Nat.le_of_ble_eq_true rfl, Nat.le_of_ble_eq_true rfl⟩ ⟨rfl, rfl⟩ (Nat.le_of_ble_eq_true rfl) fl_X10_13 (v := .ref (b + 80)) rfl dX10_opener_78 ?_
        refine lv_aload_n (pc := 81) C0.1 C0.2.1 dX10_opener_81 rfl (lv_at hl 1 rfl) ?_
        refine xget (pc := 82) C0 hH 78 0 clX10 ⟨Nat.le_of_ble_eq_true rfl, Nat.le_of_ble_eq_true rfl⟩ ⟨rfl, rfl⟩ (Nat.le_of_ble_eq_true rfl) fl_X10_182 (v := .int 0) (congrArg Value.int hi_78_0) dX10_opener_82 ?_
        refine lv_iload_n (pc := 85) C0.1 C0.2.1 dX10_opener_85 rfl (lv_at hl 3 rfl) ?_
        refine xiast (pc := 86) (N := 8) C0 (Nat.le_of_ble_eq_true rfl) hH hS 80 ⟨Nat.le_of_ble_eq_true rfl, Nat.le_of_ble_eq_true rfl⟩ ⟨rfl, rfl⟩ (vin (by decide)) dX10_opener_86 (fun _ locs hH hS _ => ?_)
        have hH : Hd D tA b 78 52 zz i (va_up F 80 (upd (F 80) (Int32.toNatClampNeg 0) x)) (va_up G 79 (vp_updL (G 79) (Int32.toNatClampNeg 0) (nmw w))) _ := hH
        refine lv_aload_n (pc := 87) C0.1 C0.2.1 dX10_opener_87 rfl (lv_at hl 1 rfl) ?_
        refine lv_dup (pc := 88) C0.1 C0.2.1 dX10_opener_88 rfl ?_
        refine xget (pc := 89) C0 hH 78 0 clX10 ⟨Nat.le_of_ble_eq_true rfl, Nat.le_of_ble_eq_true rfl⟩ ⟨rfl, rfl⟩ (Nat.le_of_ble_eq_true rfl) fl_X10_182 (v := .int 0) (congrArg Value.int hi_78_0) dX10_opener_89 ?_
        refine lv_iconst (pc := 92) (v := 1) C0.1 C0.2.1 dX10_opener_92 (by decide) ?_
        refine lv_iadd (pc := 93) C0.1 C0.2.1 dX10_opener_93 ?_
        refine lv_topi (fun q16 eq16 => ?_)
        obtain rfl : q16 = 1 := eq16.trans (by decide)
        refine xputI (pc := 94) C0 (Nat.le_of_ble_eq_true rfl) hH hS 78 0 clX10 ⟨Nat.le_of_ble_eq_true rfl, Nat.le_of_ble_eq_true rfl⟩ ⟨rfl, rfl⟩ ⟨Nat.le_of_ble_eq_true rfl, rfl, rfl⟩ fl_X10_182 (x := 1) ⟨rfl, rfl⟩ dX10_opener_94 (fun _ locs hH hS _ => ?_)
        have hH : Hd D tA b 78 52 zz (up2 i 78 0 1) (va_up F 80 (upd (F 80) (Int32.toNatClampNeg 0) x)) (va_up G 79 (vp_updL (G 79) (Int32.toNatClampNeg 0) (nmw w))) _ := hH
        refine lv_aload_n (pc := 97) C0.1 C0.2.1 dX10_opener_97 rfl (lv_at hl 1 rfl) ?_
        refine lv_iconst (pc := 98) (v := 0) C0.1 C0.2.1 dX10_opener_98 (by decide) ?_
        refine xputI (pc := 99) C0 (Nat.le_of_ble_eq_true rfl) hH hS 78 15 clX10 ⟨Nat.le_of_ble_eq_true rfl, Nat.le_of_ble_eq_true rfl⟩ ⟨rfl, rfl⟩ ⟨Nat.le_of_ble_eq_true rfl, rfl, rfl⟩ fl_X10_211 (x := 0) ⟨rfl, rfl⟩ dX10_opener_99 (fun _ locs hH hS _ => ?_)
        have hH : Hd D tA b 78 52 zz (up2 (up2 i 78 0 1) 78 15 0) (va_up F 80 (upd (F 80) (Int32.toNatClampNeg 0) x)) (va_up G 79 (vp_updL (G 79) (Int32.toNatClampNeg 0) (nmw w))) _ := hH
        refine lv_aload_n (pc := 102) C0.1 C0.2.1 dX10_opener_102 rfl (lv_at hl 1 rfl) ?_
        refine xget (pc := 103) C0 hH 78 0 clX10 ⟨Nat.le_of_ble_eq_true rfl, Nat.le_of_ble_eq_true rfl⟩ ⟨rfl, rfl⟩ (Nat.le_of_ble_eq_true rfl) fl_X10_182 (v := .int 1) rfl dX10_opener_103 ?_
        exact xiret (pc := 106) C0 hr hH hS dX10_opener_106 (by unfold opS; rw [if_neg (fun q => q.elim (fun q => by first | exact absurd q.1 (by assumption) | exact absurd q.2 (by assumption)) (fun q => q (by first | assumption | omega)))])
      · have : Int64.toInt 1 = 1 := rfl
        have : Int64.toInt 3 = 3 := rfl
        have c14 := in_0i c14
        refine lv_iload_n (pc := 34) C0.1 C0.2.1 dX10_opener_34 rfl (lv_at hl 3 rfl) ?_
        refine lv_iconst (pc := 35) (v := 5) C0.1 C0.2.1 dX10_opener_35 (by decide) ?_
        refine lv_icmp_eq (pc := 36) (tgt := 42) C0.1 C0.2.1 dX10_opener_36 (by decide) (fun c17 => ?_) (fun c17 => ?_)
        · have : Int32.toInt 5 = 5 := rfl
          have c17 := congrArg Int32.toInt c17
          refine lv_aload_n (pc := 42) C0.1 C0.2.1 dX10_opener_42 rfl (lv_at hl 1 rfl) ?_
          refine lv_lload (pc := 43) C0.1 C0.2.1 dX10_opener_43 (lv_at hl 0 rfl) ?_
          refine xcVI (pc := 45) 78 [.long (nmw w)] (a42_X10_isTold l D tA b i F G (nmw w) (by exact hi_78_0) (by exact hi_78_3) (by exact hi_78_6) (by exact hi_78_8)) C0 hH hS clX10 rfl ⟨⟨Nat.le_of_ble_eq_true rfl, Nat.le_of_ble_eq_true rfl⟩, rfl, rfl⟩ cw_X10_208 rfl ⟨Nat.le_of_ble_eq_true rfl, Nat.le_of_ble_eq_true rfl⟩ hl.1 rfl (Nat.le_of_ble_eq_true rfl) dX10_opener_45 ⟨Nat.le_of_ble_eq_true rfl, Nat.le_of_ble_eq_true rfl⟩ (fun r18 ir18 Fr18 Gr18 _ locs hp hH hS => ?_)
          obtain ⟨hu, rfl⟩ := hp
          cases hu
          refine lv_if_eq (pc := 48) (tgt := 54) C0.1 C0.2.1 dX10_opener_48 (by decide) (fun _ => ?_) (fun c => absurd (by decide) c)
          refine lv_aload_n (pc := 54) C0.1 C0.2.1 dX10_opener_54 rfl (lv_at hl 1 rfl) ?_
          refine xget (pc := 55) C0 hH 78 0 clX10 ⟨Nat.le_of_ble_eq_true rfl, Nat.le_of_ble_eq_true rfl⟩ ⟨rfl, rfl⟩ (Nat.le_of_ble_eq_true rfl) fl_X10_182 (v := .int 0) (congrArg Value.int hi_78_0) dX10_opener_55 ?_
          refine lv_bipush (pc := 58) (v := 8) C0.1 C0.2.1 dX10_opener_58 (by decide) ?_
          refine lv_icmp_ne (pc := 60) (tgt := 66) C0.1 C0.2.1 dX10_opener_60 (by decide) (fun _ => ?_) (fun c => absurd c (by decide))
          refine lv_aload_n (pc := 66) C0.1 C0.2.1 dX10_opener_66 rfl (lv_at hl 1 rfl) ?_
          refine xget (pc := 67) C0 hH 78 1 clX10 ⟨Nat.le_of_ble_eq_true rfl, Nat.le_of_ble_eq_true rfl⟩ ⟨rfl, rfl⟩ (Nat.le_of_ble_eq_true rfl) fl_X10_7 (v := .ref (b + 79)) rfl dX10_opener_67 ?_
          refine lv_aload_n (pc := 70) C0.1 C0.2.1 dX10_opener_70 rfl (lv_at hl 1 rfl) ?_
          refine xget (pc := 71) C0 hH 78 0 clX10 ⟨Nat.le_of_ble_eq_true rfl, Nat.le_of_ble_eq_true rfl⟩ ⟨rfl, rfl⟩ (Nat.le_of_ble_eq_true rfl) fl_X10_182 (v := .int 0) (congrArg Value.int hi_78_0) dX10_opener_71 ?_
          refine lv_lload (pc := 74) C0.1 C0.2.1 dX10_opener_74 (lv_at hl 0 rfl) ?_
          refine xlast (pc := 76) (N := 8) C0 (Nat.le_of_ble_eq_true rfl) hH hS 79 ⟨Nat.le_of_ble_eq_true rfl, Nat.le_of_ble_eq_true rfl⟩ ⟨rfl, rfl⟩ (vin (by decide)) dX10_opener_76 (fun _ locs hH hS => ?_)
          have hH : Hd D tA b 78 52 zz i F (va_up G 79 (vp_updL (G 79) (Int32.toNatClampNeg 0) (nmw w))) _ := hH
          refine lv_aload_n (pc := 77) C0.1 C0.2.1 dX10_opener_77 rfl (lv_at hl 1 rfl) ?_
          refine xget (pc := 78) C0 hH 78 2 clX10 ⟨Nat.le_of_ble_eq_true rfl, Nat.le_of_ble_eq_true rfl⟩ ⟨rfl, rfl⟩ (Nat.le_of_ble_eq_true rfl) fl_X10_13 (v := .ref (b + 80)) rfl dX10_opener_78 ?_
          refine lv_aload_n (pc := 81) C0.1 C0.2.1 dX10_opener_81 rfl (lv_at hl 1 rfl) ?_
          refine xget (pc := 82) C0 hH 78 0 clX10 ⟨Nat.le_of_ble_eq_true rfl, Nat.le_of_ble_eq_true rfl⟩ ⟨rfl, rfl⟩ (Nat.le_of_ble_eq_true rfl) fl_X10_182 (v := .int 0) (congrArg Value.int hi_78_0) dX10_opener_82 ?_
          refine lv_iload_n (pc := 85) C0.1 C0.2.1 dX10_opener_85 rfl (lv_at hl 3 rfl) ?_
          refine xiast (pc := 86) (N := 8) C0 (Nat.le_of_ble_eq_true rfl) hH hS 80 ⟨Nat.le_of_ble_eq_true rfl, Nat.le_of_ble_eq_true rfl⟩ ⟨rfl, rfl⟩ (vin (by decide)) dX10_opener_86 (fun _ locs hH hS _ => ?_)
          have hH : Hd D tA b 78 52 zz i (va_up F 80 (upd (F 80) (Int32.toNatClampNeg 0) x)) (va_up G 79 (vp_updL (G 79) (Int32.toNatClampNeg 0) (nmw w))) _ := hH
          refine lv_aload_n (pc := 87) C0.1 C0.2.1 dX10_opener_87 rfl (lv_at hl 1 rfl) ?_
          refine lv_dup (pc := 88) C0.1 C0.2.1 dX10_opener_88 rfl ?_
          refine xget (pc := 89) C0 hH 78 0 clX10 ⟨Nat.le_of_ble_eq_true rfl, Nat.le_of_ble_eq_true rfl⟩ ⟨rfl, rfl⟩ (Nat.le_of_ble_eq_true rfl) fl_X10_182 (v := .int 0) (congrArg Value.int hi_78_0) dX10_opener_89 ?_
          refine lv_iconst (pc := 92) (v := 1) C0.1 C0.2.1 dX10_opener_92 (by decide) ?_
          refine lv_iadd (pc := 93) C0.1 C0.2.1 dX10_opener_93 ?_
          refine lv_topi (fun q19 eq19 => ?_)
          obtain rfl : q19 = 1 := eq19.trans (by decide)
          refine xputI (pc := 94) C0 (Nat.le_of_ble_eq_true rfl) hH hS 78 0 clX10 ⟨Nat.le_of_ble_eq_true rfl, Nat.le_of_ble_eq_true rfl⟩ ⟨rfl, rfl⟩ ⟨Nat.le_of_ble_eq_true rfl, rfl, rfl⟩ fl_X10_182 (x := 1) ⟨rfl, rfl⟩ dX10_opener_94 (fun _ locs hH hS _ => ?_)
          have hH : Hd D tA b 78 52 zz (up2 i 78 0 1) (va_up F 80 (upd (F 80) (Int32.toNatClampNeg 0) x)) (va_up G 79 (vp_updL (G 79) (Int32.toNatClampNeg 0) (nmw w))) _ := hH
          refine lv_aload_n (pc := 97) C0.1 C0.2.1 dX10_opener_97 rfl (lv_at hl 1 rfl) ?_
          refine lv_iconst (pc := 98) (v := 0) C0.1 C0.2.1 dX10_opener_98 (by decide) ?_
          refine xputI (pc := 99) C0 (Nat.le_of_ble_eq_true rfl) hH hS 78 15 clX10 ⟨Nat.le_of_ble_eq_true rfl, Nat.le_of_ble_eq_true rfl⟩ ⟨rfl, rfl⟩ ⟨Nat.le_of_ble_eq_true rfl, rfl, rfl⟩ fl_X10_211 (x := 0) ⟨rfl, rfl⟩ dX10_opener_99 (fun _ locs hH hS _ => ?_)
          have hH : Hd D tA b 78 52 zz (up2 (up2 i 78 0 1) 78 15 0) (va_up F 80 (upd (F 80) (Int32.toNatClampNeg 0) x)) (va_up G 79 (vp_updL (G 79) (Int32.toNatClampNeg 0) (nmw w))) _ := hH
          refine lv_aload_n (pc := 102) C0.1 C0.2.1 dX10_opener_102 rfl (lv_at hl 1 rfl) ?_
          refine xget (pc := 103) C0 hH 78 0 clX10 ⟨Nat.le_of_ble_eq_true rfl, Nat.le_of_ble_eq_true rfl⟩ ⟨rfl, rfl⟩ (Nat.le_of_ble_eq_true rfl) fl_X10_182 (v := .int 1) rfl dX10_opener_103 ?_
          exact xiret (pc := 106) C0 hr hH hS dX10_opener_106 (by unfold opS; rw [if_neg (fun q => q.elim (fun q => by first | exact absurd q.1 (by assumption) | exact absurd q.2 (by assumption)) (fun q => q (by first | assumption | omega)))])
        · have : Int32.toInt 5 = 5 := rfl
          have c17 : ¬ _ := fun q => c17 (Int32.toInt_inj.mp q)
          refine lv_bipush (pc := 39) (v := (-2)) C0.1 C0.2.1 dX10_opener_39 (by decide) ?_
          exact xiret (pc := 41) C0 hr hH hS dX10_opener_41 (by unfold opS; rw [if_pos (by first | exact Or.inl ⟨by assumption, by assumption⟩ | exact Or.inr (by first | assumption | omega))])
set_option maxHeartbeats 4000000 in
set_option maxRecDepth 100000 in
theorem a43_X10_isTold (l : Launch) (D : va_G) (tA : Nat → ClassId) (b : Nat) (i F : Nat → Nat → Int32) (G : Nat → Nat → Int64) (a0_ : Int64) (hi_78_0 : i 78 0 = 0) (hi_78_3 : i 78 3 = 0) (hi_78_6 : i 78 6 = 0) (hi_78_8 : i 78 8 = 0) : xMI l yX10_isTold cX10_isTold 5 (some .boolean) 0 0 D tA b 78 52 i F G [.ref (b + 78), .long a0_] (fun r u => u = (i, F, G) ∧ r = 0) := by
  refine xstart RX10 rfl (by decide) (Nat.le_of_ble_eq_true rfl) ?_
  intro p e s m below meth c ls C0 hr hH hS hl
  have hl : lv_has ls 5 [(0, .ref (b + 78)), (1, .long a0_)] := hl
  refine lv_iconst (pc := 0) (v := 0) C0.1 C0.2.1 dX10_isTold_0 (by decide) ?_
  refine lv_istore_n (pc := 1) (lv' := [(3, .int 0), (0, .ref (b + 78)), (1, .long a0_)]) C0.1 C0.2.1 dX10_isTold_1 rfl hl (by decide) rfl (fun ls hl => ?_)
  refine lv_iconst (pc := 2) (v := 0) C0.1 C0.2.1 dX10_isTold_2 (by decide) ?_
  refine lv_istore (pc := 3) (lv' := [(4, .int 0), (3, .int 0), (0, .ref (b + 78)), (1, .long a0_)]) C0.1 C0.2.1 dX10_isTold_3 hl (by decide) rfl (fun ls hl => ?_)
  refine lv_iload (pc := 5) C0.1 C0.2.1 dX10_isTold_5 (lv_at hl 0 rfl) ?_
  refine lv_aload_n (pc := 7) C0.1 C0.2.1 dX10_isTold_7 rfl (lv_at hl 2 rfl) ?_
  refine xget (pc := 8) C0 hH 78 0 clX10 ⟨Nat.le_of_ble_eq_true rfl, Nat.le_of_ble_eq_true rfl⟩ ⟨rfl, rfl⟩ (Nat.le_of_ble_eq_true rfl) fl_X10_182 (v := .int 0) (congrArg Value.int hi_78_0) dX10_isTold_8 ?_
  refine lv_icmp_ge (pc := 11) (tgt := 42) C0.1 C0.2.1 dX10_isTold_11 (by decide) (fun _ => ?_) (fun c => absurd (by decide) c)
  refine lv_iconst (pc := 42) (v := 0) C0.1 C0.2.1 dX10_isTold_42 (by decide) ?_
  refine lv_istore (pc := 43) (lv' := [(4, .int 0), (3, .int 0), (0, .ref (b + 78)), (1, .long a0_)]) C0.1 C0.2.1 dX10_isTold_43 hl (by decide) rfl (fun ls hl => ?_)
  refine lv_iload (pc := 45) C0.1 C0.2.1 dX10_isTold_45 (lv_at hl 0 rfl) ?_
  refine lv_aload_n (pc := 47) C0.1 C0.2.1 dX10_isTold_47 rfl (lv_at hl 2 rfl) ?_
  refine xget (pc := 48) C0 hH 78 3 clX10 ⟨Nat.le_of_ble_eq_true rfl, Nat.le_of_ble_eq_true rfl⟩ ⟨rfl, rfl⟩ (Nat.le_of_ble_eq_true rfl) fl_X10_186 (v := .int 0) (congrArg Value.int hi_78_3) dX10_isTold_48 ?_
  refine lv_icmp_ge (pc := 51) (tgt := 96) C0.1 C0.2.1 dX10_isTold_51 (by decide) (fun _ => ?_) (fun c => absurd (by decide) c)
  refine lv_iconst (pc := 96) (v := 0) C0.1 C0.2.1 dX10_isTold_96 (by decide) ?_
  refine lv_istore (pc := 97) (lv' := [(4, .int 0), (3, .int 0), (0, .ref (b + 78)), (1, .long a0_)]) C0.1 C0.2.1 dX10_isTold_97 hl (by decide) rfl (fun ls hl => ?_)
  refine lv_iload (pc := 99) C0.1 C0.2.1 dX10_isTold_99 (lv_at hl 0 rfl) ?_
  refine lv_aload_n (pc := 101) C0.1 C0.2.1 dX10_isTold_101 rfl (lv_at hl 2 rfl) ?_
  refine xget (pc := 102) C0 hH 78 6 clX10 ⟨Nat.le_of_ble_eq_true rfl, Nat.le_of_ble_eq_true rfl⟩ ⟨rfl, rfl⟩ (Nat.le_of_ble_eq_true rfl) fl_X10_189 (v := .int 0) (congrArg Value.int hi_78_6) dX10_isTold_102 ?_
  refine lv_icmp_ge (pc := 105) (tgt := 136) C0.1 C0.2.1 dX10_isTold_105 (by decide) (fun _ => ?_) (fun c => absurd (by decide) c)
  refine lv_iconst (pc := 136) (v := 0) C0.1 C0.2.1 dX10_isTold_136 (by decide) ?_
  refine lv_istore (pc := 137) (lv' := [(4, .int 0), (3, .int 0), (0, .ref (b + 78)), (1, .long a0_)]) C0.1 C0.2.1 dX10_isTold_137 hl (by decide) rfl (fun ls hl => ?_)
  refine lv_iload (pc := 139) C0.1 C0.2.1 dX10_isTold_139 (lv_at hl 0 rfl) ?_
  refine lv_aload_n (pc := 141) C0.1 C0.2.1 dX10_isTold_141 rfl (lv_at hl 2 rfl) ?_
  refine xget (pc := 142) C0 hH 78 8 clX10 ⟨Nat.le_of_ble_eq_true rfl, Nat.le_of_ble_eq_true rfl⟩ ⟨rfl, rfl⟩ (Nat.le_of_ble_eq_true rfl) fl_X10_192 (v := .int 0) (congrArg Value.int hi_78_8) dX10_isTold_142 ?_
  refine lv_icmp_ge (pc := 145) (tgt := 177) C0.1 C0.2.1 dX10_isTold_145 (by decide) (fun _ => ?_) (fun c => absurd (by decide) c)
  refine lv_iload_n (pc := 177) C0.1 C0.2.1 dX10_isTold_177 rfl (lv_at hl 1 rfl) ?_
  exact xzret (pc := 178) C0 hr hH hS dX10_isTold_178 (by decide) ⟨rfl, rfl⟩
set_option maxHeartbeats 4000000 in
set_option maxRecDepth 100000 in
theorem a44_X10_isTold (l : Launch) (D : va_G) (tA : Nat → ClassId) (b : Nat) (i F : Nat → Nat → Int32) (G : Nat → Nat → Int64) (a0_ : Int64) (hi_78_0 : i 78 0 = 0) (hi_78_3 : i 78 3 = 0) (hi_78_6 : i 78 6 = 0) (hi_78_8 : i 78 8 = 0) : xMI l yX10_isTold cX10_isTold 5 (some .boolean) 0 0 D tA b 78 52 i F G [.ref (b + 78), .long a0_] (fun r u => u = (i, F, G) ∧ r = 0) := by
  refine xstart RX10 rfl (by decide) (Nat.le_of_ble_eq_true rfl) ?_
  intro p e s m below meth c ls C0 hr hH hS hl
  have hl : lv_has ls 5 [(0, .ref (b + 78)), (1, .long a0_)] := hl
  refine lv_iconst (pc := 0) (v := 0) C0.1 C0.2.1 dX10_isTold_0 (by decide) ?_
  refine lv_istore_n (pc := 1) (lv' := [(3, .int 0), (0, .ref (b + 78)), (1, .long a0_)]) C0.1 C0.2.1 dX10_isTold_1 rfl hl (by decide) rfl (fun ls hl => ?_)
  refine lv_iconst (pc := 2) (v := 0) C0.1 C0.2.1 dX10_isTold_2 (by decide) ?_
  refine lv_istore (pc := 3) (lv' := [(4, .int 0), (3, .int 0), (0, .ref (b + 78)), (1, .long a0_)]) C0.1 C0.2.1 dX10_isTold_3 hl (by decide) rfl (fun ls hl => ?_)
  refine lv_iload (pc := 5) C0.1 C0.2.1 dX10_isTold_5 (lv_at hl 0 rfl) ?_
  refine lv_aload_n (pc := 7) C0.1 C0.2.1 dX10_isTold_7 rfl (lv_at hl 2 rfl) ?_
  refine xget (pc := 8) C0 hH 78 0 clX10 ⟨Nat.le_of_ble_eq_true rfl, Nat.le_of_ble_eq_true rfl⟩ ⟨rfl, rfl⟩ (Nat.le_of_ble_eq_true rfl) fl_X10_182 (v := .int 0) (congrArg Value.int hi_78_0) dX10_isTold_8 ?_
  refine lv_icmp_ge (pc := 11) (tgt := 42) C0.1 C0.2.1 dX10_isTold_11 (by decide) (fun _ => ?_) (fun c => absurd (by decide) c)
  refine lv_iconst (pc := 42) (v := 0) C0.1 C0.2.1 dX10_isTold_42 (by decide) ?_
  refine lv_istore (pc := 43) (lv' := [(4, .int 0), (3, .int 0), (0, .ref (b + 78)), (1, .long a0_)]) C0.1 C0.2.1 dX10_isTold_43 hl (by decide) rfl (fun ls hl => ?_)
  refine lv_iload (pc := 45) C0.1 C0.2.1 dX10_isTold_45 (lv_at hl 0 rfl) ?_
  refine lv_aload_n (pc := 47) C0.1 C0.2.1 dX10_isTold_47 rfl (lv_at hl 2 rfl) ?_
  refine xget (pc := 48) C0 hH 78 3 clX10 ⟨Nat.le_of_ble_eq_true rfl, Nat.le_of_ble_eq_true rfl⟩ ⟨rfl, rfl⟩ (Nat.le_of_ble_eq_true rfl) fl_X10_186 (v := .int 0) (congrArg Value.int hi_78_3) dX10_isTold_48 ?_
  refine lv_icmp_ge (pc := 51) (tgt := 96) C0.1 C0.2.1 dX10_isTold_51 (by decide) (fun _ => ?_) (fun c => absurd (by decide) c)
  refine lv_iconst (pc := 96) (v := 0) C0.1 C0.2.1 dX10_isTold_96 (by decide) ?_
  refine lv_istore (pc := 97) (lv' := [(4, .int 0), (3, .int 0), (0, .ref (b + 78)), (1, .long a0_)]) C0.1 C0.2.1 dX10_isTold_97 hl (by decide) rfl (fun ls hl => ?_)
  refine lv_iload (pc := 99) C0.1 C0.2.1 dX10_isTold_99 (lv_at hl 0 rfl) ?_
  refine lv_aload_n (pc := 101) C0.1 C0.2.1 dX10_isTold_101 rfl (lv_at hl 2 rfl) ?_
  refine xget (pc := 102) C0 hH 78 6 clX10 ⟨Nat.le_of_ble_eq_true rfl, Nat.le_of_ble_eq_true rfl⟩ ⟨rfl, rfl⟩ (Nat.le_of_ble_eq_true rfl) fl_X10_189 (v := .int 0) (congrArg Value.int hi_78_6) dX10_isTold_102 ?_
  refine lv_icmp_ge (pc := 105) (tgt := 136) C0.1 C0.2.1 dX10_isTold_105 (by decide) (fun _ => ?_) (fun c => absurd (by decide) c)
  refine lv_iconst (pc := 136) (v := 0) C0.1 C0.2.1 dX10_isTold_136 (by decide) ?_
  refine lv_istore (pc := 137) (lv' := [(4, .int 0), (3, .int 0), (0, .ref (b + 78)), (1, .long a0_)]) C0.1 C0.2.1 dX10_isTold_137 hl (by decide) rfl (fun ls hl => ?_)
  refine lv_iload (pc := 139) C0.1 C0.2.1 dX10_isTold_139 (lv_at hl 0 rfl) ?_
  refine lv_aload_n (pc := 141) C0.1 C0.2.1 dX10_isTold_141 rfl (lv_at hl 2 rfl) ?_
  refine xget (pc := 142) C0 hH 78 8 clX10 ⟨Nat.le_of_ble_eq_true rfl, Nat.le_of_ble_eq_true rfl⟩ ⟨rfl, rfl⟩ (Nat.le_of_ble_eq_true rfl) fl_X10_192 (v := .int 0) (congrArg Value.int hi_78_8) dX10_isTold_142 ?_
  refine lv_icmp_ge (pc := 145) (tgt := 177) C0.1 C0.2.1 dX10_isTold_145 (by decide) (fun _ => ?_) (fun c => absurd (by decide) c)
  refine lv_iload_n (pc := 177) C0.1 C0.2.1 dX10_isTold_177 rfl (lv_at hl 1 rfl) ?_
  exact xzret (pc := 178) C0 hr hH hS dX10_isTold_178 (by decide) ⟨rfl, rfl⟩
set_option maxHeartbeats 4000000 in
set_option maxRecDepth 100000 in
theorem p_X10_pair (l : Launch) (D : va_G) (tA : Nat → ClassId) (b : Nat) (i F : Nat → Nat → Int32) (G : Nat → Nat → Int64) (x y : Int32) (hi_78_0 : i 78 0 = 0) (hi_78_3 : i 78 3 = 0) (hi_78_6 : i 78 6 = 0) (hi_78_8 : i 78 8 = 0) : xMI l yX10_pair cX10_pair 3 (some .int) 2 46 D tA b 78 52 i F G [.ref (b + 78), .int x, .int y] (fun r _ => r = prS x y) := by
  refine xstart RX10 rfl (by decide) (Nat.le_of_ble_eq_true rfl) ?_
  intro p e s m below meth c ls C0 hr hH hS hl
  have hl : lv_has ls 3 [(0, .ref (b + 78)), (1, .int x), (2, .int y)] := hl
  refine lv_iload_n (pc := 0) C0.1 C0.2.1 dX10_pair_0 rfl (lv_at hl 1 rfl) ?_
  refine lv_i2l (pc := 1) (v := x.toInt64) C0.1 C0.2.1 dX10_pair_1 rfl ?_
  refine xcSI (pc := 2) [.long x.toInt64] (c_X10_isOneMark l D tA b 78 52 i F G x.toInt64) C0 hH hS cw_X10_203 rfl ⟨Nat.le_of_ble_eq_true rfl, Nat.le_of_ble_eq_true rfl⟩ hl.1 rfl (Nat.le_of_ble_eq_true rfl) dX10_pair_2 ⟨Nat.le_of_ble_eq_true rfl, Nat.le_of_ble_eq_true rfl⟩ (fun r1 ir1 Fr1 Gr1 _ locs hp hH hS => ?_)
  obtain ⟨hu, rfl⟩ := hp
  cases hu
  refine lv_if_eq (pc := 5) (tgt := 16) C0.1 C0.2.1 dX10_pair_5 (by decide) (fun c2 => ?_) (fun c2 => ?_)
  · refine lv_bipush (pc := 16) (v := (-2)) C0.1 C0.2.1 dX10_pair_16 (by decide) ?_
    exact xiret (pc := 18) C0 hr hH hS dX10_pair_18 (by unfold prS; rw [if_pos (by first | exact Or.inl (by assumption) | exact Or.inr (by assumption))])
  · refine lv_iload_n (pc := 8) C0.1 C0.2.1 dX10_pair_8 rfl (lv_at hl 2 rfl) ?_
    refine lv_i2l (pc := 9) (v := y.toInt64) C0.1 C0.2.1 dX10_pair_9 rfl ?_
    refine xcSI (pc := 10) [.long y.toInt64] (c_X10_isOneMark l D tA b 78 52 i F G y.toInt64) C0 hH hS cw_X10_203 rfl ⟨Nat.le_of_ble_eq_true rfl, Nat.le_of_ble_eq_true rfl⟩ hl.1 rfl (Nat.le_of_ble_eq_true rfl) dX10_pair_10 ⟨Nat.le_of_ble_eq_true rfl, Nat.le_of_ble_eq_true rfl⟩ (fun r3 ir3 Fr3 Gr3 _ locs hp hH hS => ?_)
    obtain ⟨hu, rfl⟩ := hp
    cases hu
    refine lv_if_ne (pc := 13) (tgt := 19) C0.1 C0.2.1 dX10_pair_13 (by decide) (fun c4 => ?_) (fun c4 => ?_)
    · refine lv_iload_n (pc := 19) C0.1 C0.2.1 dX10_pair_19 rfl (lv_at hl 1 rfl) ?_
      refine lv_iload_n (pc := 20) C0.1 C0.2.1 dX10_pair_20 rfl (lv_at hl 2 rfl) ?_
      refine lv_icmp_eq (pc := 21) (tgt := 42) C0.1 C0.2.1 dX10_pair_21 (by decide) (fun c5 => ?_) (fun c5 => ?_)
      · have c5 := congrArg Int32.toInt c5
        refine lv_bipush (pc := 42) (v := (-3)) C0.1 C0.2.1 dX10_pair_42 (by decide) ?_
        exact xiret (pc := 44) C0 hr hH hS dX10_pair_44 (by unfold prS; rw [if_neg (fun q => q.elim (fun q => absurd q (by assumption)) (fun q => absurd q (by assumption))), if_pos (by first | assumption | exact Int32.toInt_inj.mp (by assumption))])
      · have c5 : ¬ _ := fun q => c5 (Int32.toInt_inj.mp q)
        refine lv_aload_n (pc := 24) C0.1 C0.2.1 dX10_pair_24 rfl (lv_at hl 0 rfl) ?_
        refine lv_iload_n (pc := 25) C0.1 C0.2.1 dX10_pair_25 rfl (lv_at hl 1 rfl) ?_
        refine lv_i2l (pc := 26) (v := x.toInt64) C0.1 C0.2.1 dX10_pair_26 rfl ?_
        refine xcVI (pc := 27) 78 [.long x.toInt64] (a43_X10_isTold l D tA b i F G x.toInt64 (by exact hi_78_0) (by exact hi_78_3) (by exact hi_78_6) (by exact hi_78_8)) C0 hH hS clX10 rfl ⟨⟨Nat.le_of_ble_eq_true rfl, Nat.le_of_ble_eq_true rfl⟩, rfl, rfl⟩ cw_X10_208 rfl ⟨Nat.le_of_ble_eq_true rfl, Nat.le_of_ble_eq_true rfl⟩ hl.1 rfl (Nat.le_of_ble_eq_true rfl) dX10_pair_27 ⟨Nat.le_of_ble_eq_true rfl, Nat.le_of_ble_eq_true rfl⟩ (fun r6 ir6 Fr6 Gr6 _ locs hp hH hS => ?_)
        obtain ⟨hu, rfl⟩ := hp
        cases hu
        refine lv_if_ne (pc := 30) (tgt := 42) C0.1 C0.2.1 dX10_pair_30 (by decide) (fun c => absurd (by decide) c) (fun _ => ?_)
        refine lv_aload_n (pc := 33) C0.1 C0.2.1 dX10_pair_33 rfl (lv_at hl 0 rfl) ?_
        refine lv_iload_n (pc := 34) C0.1 C0.2.1 dX10_pair_34 rfl (lv_at hl 2 rfl) ?_
        refine lv_i2l (pc := 35) (v := y.toInt64) C0.1 C0.2.1 dX10_pair_35 rfl ?_
        refine xcVI (pc := 36) 78 [.long y.toInt64] (a44_X10_isTold l D tA b i F G y.toInt64 (by exact hi_78_0) (by exact hi_78_3) (by exact hi_78_6) (by exact hi_78_8)) C0 hH hS clX10 rfl ⟨⟨Nat.le_of_ble_eq_true rfl, Nat.le_of_ble_eq_true rfl⟩, rfl, rfl⟩ cw_X10_208 rfl ⟨Nat.le_of_ble_eq_true rfl, Nat.le_of_ble_eq_true rfl⟩ hl.1 rfl (Nat.le_of_ble_eq_true rfl) dX10_pair_36 ⟨Nat.le_of_ble_eq_true rfl, Nat.le_of_ble_eq_true rfl⟩ (fun r7 ir7 Fr7 Gr7 _ locs hp hH hS => ?_)
        obtain ⟨hu, rfl⟩ := hp
        cases hu
        refine lv_if_eq (pc := 39) (tgt := 45) C0.1 C0.2.1 dX10_pair_39 (by decide) (fun _ => ?_) (fun c => absurd (by decide) c)
        refine lv_aload_n (pc := 45) C0.1 C0.2.1 dX10_pair_45 rfl (lv_at hl 0 rfl) ?_
        refine xget (pc := 46) C0 hH 78 3 clX10 ⟨Nat.le_of_ble_eq_true rfl, Nat.le_of_ble_eq_true rfl⟩ ⟨rfl, rfl⟩ (Nat.le_of_ble_eq_true rfl) fl_X10_186 (v := .int 0) (congrArg Value.int hi_78_3) dX10_pair_46 ?_
        refine lv_iconst (pc := 49) (v := 4) C0.1 C0.2.1 dX10_pair_49 (by decide) ?_
        refine lv_icmp_ne (pc := 50) (tgt := 56) C0.1 C0.2.1 dX10_pair_50 (by decide) (fun _ => ?_) (fun c => absurd c (by decide))
        refine lv_aload_n (pc := 56) C0.1 C0.2.1 dX10_pair_56 rfl (lv_at hl 0 rfl) ?_
        refine xget (pc := 57) C0 hH 78 4 clX10 ⟨Nat.le_of_ble_eq_true rfl, Nat.le_of_ble_eq_true rfl⟩ ⟨rfl, rfl⟩ (Nat.le_of_ble_eq_true rfl) fl_X10_17 (v := .ref (b + 81)) rfl dX10_pair_57 ?_
        refine lv_aload_n (pc := 60) C0.1 C0.2.1 dX10_pair_60 rfl (lv_at hl 0 rfl) ?_
        refine xget (pc := 61) C0 hH 78 3 clX10 ⟨Nat.le_of_ble_eq_true rfl, Nat.le_of_ble_eq_true rfl⟩ ⟨rfl, rfl⟩ (Nat.le_of_ble_eq_true rfl) fl_X10_186 (v := .int 0) (congrArg Value.int hi_78_3) dX10_pair_61 ?_
        refine lv_iload_n (pc := 64) C0.1 C0.2.1 dX10_pair_64 rfl (lv_at hl 1 rfl) ?_
        refine xiast (pc := 65) (N := 4) C0 (Nat.le_of_ble_eq_true rfl) hH hS 81 ⟨Nat.le_of_ble_eq_true rfl, Nat.le_of_ble_eq_true rfl⟩ ⟨rfl, rfl⟩ (vin (by decide)) dX10_pair_65 (fun _ locs hH hS _ => ?_)
        have hH : Hd D tA b 78 52 zz i (va_up F 81 (upd (F 81) (Int32.toNatClampNeg 0) x)) G _ := hH
        refine lv_aload_n (pc := 66) C0.1 C0.2.1 dX10_pair_66 rfl (lv_at hl 0 rfl) ?_
        refine xget (pc := 67) C0 hH 78 5 clX10 ⟨Nat.le_of_ble_eq_true rfl, Nat.le_of_ble_eq_true rfl⟩ ⟨rfl, rfl⟩ (Nat.le_of_ble_eq_true rfl) fl_X10_20 (v := .ref (b + 82)) rfl dX10_pair_67 ?_
        refine lv_aload_n (pc := 70) C0.1 C0.2.1 dX10_pair_70 rfl (lv_at hl 0 rfl) ?_
        refine xget (pc := 71) C0 hH 78 3 clX10 ⟨Nat.le_of_ble_eq_true rfl, Nat.le_of_ble_eq_true rfl⟩ ⟨rfl, rfl⟩ (Nat.le_of_ble_eq_true rfl) fl_X10_186 (v := .int 0) (congrArg Value.int hi_78_3) dX10_pair_71 ?_
        refine lv_iload_n (pc := 74) C0.1 C0.2.1 dX10_pair_74 rfl (lv_at hl 2 rfl) ?_
        refine xiast (pc := 75) (N := 4) C0 (Nat.le_of_ble_eq_true rfl) hH hS 82 ⟨Nat.le_of_ble_eq_true rfl, Nat.le_of_ble_eq_true rfl⟩ ⟨rfl, rfl⟩ (vin (by decide)) dX10_pair_75 (fun _ locs hH hS _ => ?_)
        have hH : Hd D tA b 78 52 zz i (va_up (va_up F 81 (upd (F 81) (Int32.toNatClampNeg 0) x)) 82 (upd (F 82) (Int32.toNatClampNeg 0) y)) G _ := hH
        refine lv_aload_n (pc := 76) C0.1 C0.2.1 dX10_pair_76 rfl (lv_at hl 0 rfl) ?_
        refine lv_dup (pc := 77) C0.1 C0.2.1 dX10_pair_77 rfl ?_
        refine xget (pc := 78) C0 hH 78 3 clX10 ⟨Nat.le_of_ble_eq_true rfl, Nat.le_of_ble_eq_true rfl⟩ ⟨rfl, rfl⟩ (Nat.le_of_ble_eq_true rfl) fl_X10_186 (v := .int 0) (congrArg Value.int hi_78_3) dX10_pair_78 ?_
        refine lv_iconst (pc := 81) (v := 1) C0.1 C0.2.1 dX10_pair_81 (by decide) ?_
        refine lv_iadd (pc := 82) C0.1 C0.2.1 dX10_pair_82 ?_
        refine lv_topi (fun q8 eq8 => ?_)
        obtain rfl : q8 = 1 := eq8.trans (by decide)
        refine xputI (pc := 83) C0 (Nat.le_of_ble_eq_true rfl) hH hS 78 3 clX10 ⟨Nat.le_of_ble_eq_true rfl, Nat.le_of_ble_eq_true rfl⟩ ⟨rfl, rfl⟩ ⟨Nat.le_of_ble_eq_true rfl, rfl, rfl⟩ fl_X10_186 (x := 1) ⟨rfl, rfl⟩ dX10_pair_83 (fun _ locs hH hS _ => ?_)
        have hH : Hd D tA b 78 52 zz (up2 i 78 3 1) (va_up (va_up F 81 (upd (F 81) (Int32.toNatClampNeg 0) x)) 82 (upd (F 82) (Int32.toNatClampNeg 0) y)) G _ := hH
        refine lv_aload_n (pc := 86) C0.1 C0.2.1 dX10_pair_86 rfl (lv_at hl 0 rfl) ?_
        refine lv_iconst (pc := 87) (v := 0) C0.1 C0.2.1 dX10_pair_87 (by decide) ?_
        refine xputI (pc := 88) C0 (Nat.le_of_ble_eq_true rfl) hH hS 78 15 clX10 ⟨Nat.le_of_ble_eq_true rfl, Nat.le_of_ble_eq_true rfl⟩ ⟨rfl, rfl⟩ ⟨Nat.le_of_ble_eq_true rfl, rfl, rfl⟩ fl_X10_211 (x := 0) ⟨rfl, rfl⟩ dX10_pair_88 (fun _ locs hH hS _ => ?_)
        have hH : Hd D tA b 78 52 zz (up2 (up2 i 78 3 1) 78 15 0) (va_up (va_up F 81 (upd (F 81) (Int32.toNatClampNeg 0) x)) 82 (upd (F 82) (Int32.toNatClampNeg 0) y)) G _ := hH
        refine lv_aload_n (pc := 91) C0.1 C0.2.1 dX10_pair_91 rfl (lv_at hl 0 rfl) ?_
        refine xget (pc := 92) C0 hH 78 3 clX10 ⟨Nat.le_of_ble_eq_true rfl, Nat.le_of_ble_eq_true rfl⟩ ⟨rfl, rfl⟩ (Nat.le_of_ble_eq_true rfl) fl_X10_186 (v := .int 1) rfl dX10_pair_92 ?_
        exact xiret (pc := 95) C0 hr hH hS dX10_pair_95 (by unfold prS; rw [if_neg (fun q => q.elim (fun q => absurd q (by assumption)) (fun q => absurd q (by assumption))), if_neg (by first | assumption | exact Nei (by assumption))])
    · refine lv_bipush (pc := 16) (v := (-2)) C0.1 C0.2.1 dX10_pair_16 (by decide) ?_
      exact xiret (pc := 18) C0 hr hH hS dX10_pair_18 (by unfold prS; rw [if_pos (by first | exact Or.inl (by assumption) | exact Or.inr (by assumption))])
set_option maxHeartbeats 4000000 in
set_option maxRecDepth 100000 in
theorem a45_X10_isTold (l : Launch) (D : va_G) (tA : Nat → ClassId) (b : Nat) (i F : Nat → Nat → Int32) (G : Nat → Nat → Int64) (a0_ : Int64) (hi_78_0 : i 78 0 = 0) (hi_78_3 : i 78 3 = 0) (hi_78_6 : i 78 6 = 0) (hi_78_8 : i 78 8 = 0) : xMI l yX10_isTold cX10_isTold 5 (some .boolean) 0 0 D tA b 78 52 i F G [.ref (b + 78), .long a0_] (fun r u => u = (i, F, G) ∧ r = 0) := by
  refine xstart RX10 rfl (by decide) (Nat.le_of_ble_eq_true rfl) ?_
  intro p e s m below meth c ls C0 hr hH hS hl
  have hl : lv_has ls 5 [(0, .ref (b + 78)), (1, .long a0_)] := hl
  refine lv_iconst (pc := 0) (v := 0) C0.1 C0.2.1 dX10_isTold_0 (by decide) ?_
  refine lv_istore_n (pc := 1) (lv' := [(3, .int 0), (0, .ref (b + 78)), (1, .long a0_)]) C0.1 C0.2.1 dX10_isTold_1 rfl hl (by decide) rfl (fun ls hl => ?_)
  refine lv_iconst (pc := 2) (v := 0) C0.1 C0.2.1 dX10_isTold_2 (by decide) ?_
  refine lv_istore (pc := 3) (lv' := [(4, .int 0), (3, .int 0), (0, .ref (b + 78)), (1, .long a0_)]) C0.1 C0.2.1 dX10_isTold_3 hl (by decide) rfl (fun ls hl => ?_)
  refine lv_iload (pc := 5) C0.1 C0.2.1 dX10_isTold_5 (lv_at hl 0 rfl) ?_
  refine lv_aload_n (pc := 7) C0.1 C0.2.1 dX10_isTold_7 rfl (lv_at hl 2 rfl) ?_
  refine xget (pc := 8) C0 hH 78 0 clX10 ⟨Nat.le_of_ble_eq_true rfl, Nat.le_of_ble_eq_true rfl⟩ ⟨rfl, rfl⟩ (Nat.le_of_ble_eq_true rfl) fl_X10_182 (v := .int 0) (congrArg Value.int hi_78_0) dX10_isTold_8 ?_
  refine lv_icmp_ge (pc := 11) (tgt := 42) C0.1 C0.2.1 dX10_isTold_11 (by decide) (fun _ => ?_) (fun c => absurd (by decide) c)
  refine lv_iconst (pc := 42) (v := 0) C0.1 C0.2.1 dX10_isTold_42 (by decide) ?_
  refine lv_istore (pc := 43) (lv' := [(4, .int 0), (3, .int 0), (0, .ref (b + 78)), (1, .long a0_)]) C0.1 C0.2.1 dX10_isTold_43 hl (by decide) rfl (fun ls hl => ?_)
  refine lv_iload (pc := 45) C0.1 C0.2.1 dX10_isTold_45 (lv_at hl 0 rfl) ?_
  refine lv_aload_n (pc := 47) C0.1 C0.2.1 dX10_isTold_47 rfl (lv_at hl 2 rfl) ?_
  refine xget (pc := 48) C0 hH 78 3 clX10 ⟨Nat.le_of_ble_eq_true rfl, Nat.le_of_ble_eq_true rfl⟩ ⟨rfl, rfl⟩ (Nat.le_of_ble_eq_true rfl) fl_X10_186 (v := .int 0) (congrArg Value.int hi_78_3) dX10_isTold_48 ?_
  refine lv_icmp_ge (pc := 51) (tgt := 96) C0.1 C0.2.1 dX10_isTold_51 (by decide) (fun _ => ?_) (fun c => absurd (by decide) c)
  refine lv_iconst (pc := 96) (v := 0) C0.1 C0.2.1 dX10_isTold_96 (by decide) ?_
  refine lv_istore (pc := 97) (lv' := [(4, .int 0), (3, .int 0), (0, .ref (b + 78)), (1, .long a0_)]) C0.1 C0.2.1 dX10_isTold_97 hl (by decide) rfl (fun ls hl => ?_)
  refine lv_iload (pc := 99) C0.1 C0.2.1 dX10_isTold_99 (lv_at hl 0 rfl) ?_
  refine lv_aload_n (pc := 101) C0.1 C0.2.1 dX10_isTold_101 rfl (lv_at hl 2 rfl) ?_
  refine xget (pc := 102) C0 hH 78 6 clX10 ⟨Nat.le_of_ble_eq_true rfl, Nat.le_of_ble_eq_true rfl⟩ ⟨rfl, rfl⟩ (Nat.le_of_ble_eq_true rfl) fl_X10_189 (v := .int 0) (congrArg Value.int hi_78_6) dX10_isTold_102 ?_
  refine lv_icmp_ge (pc := 105) (tgt := 136) C0.1 C0.2.1 dX10_isTold_105 (by decide) (fun _ => ?_) (fun c => absurd (by decide) c)
  refine lv_iconst (pc := 136) (v := 0) C0.1 C0.2.1 dX10_isTold_136 (by decide) ?_
  refine lv_istore (pc := 137) (lv' := [(4, .int 0), (3, .int 0), (0, .ref (b + 78)), (1, .long a0_)]) C0.1 C0.2.1 dX10_isTold_137 hl (by decide) rfl (fun ls hl => ?_)
  refine lv_iload (pc := 139) C0.1 C0.2.1 dX10_isTold_139 (lv_at hl 0 rfl) ?_
  refine lv_aload_n (pc := 141) C0.1 C0.2.1 dX10_isTold_141 rfl (lv_at hl 2 rfl) ?_
  refine xget (pc := 142) C0 hH 78 8 clX10 ⟨Nat.le_of_ble_eq_true rfl, Nat.le_of_ble_eq_true rfl⟩ ⟨rfl, rfl⟩ (Nat.le_of_ble_eq_true rfl) fl_X10_192 (v := .int 0) (congrArg Value.int hi_78_8) dX10_isTold_142 ?_
  refine lv_icmp_ge (pc := 145) (tgt := 177) C0.1 C0.2.1 dX10_isTold_145 (by decide) (fun _ => ?_) (fun c => absurd (by decide) c)
  refine lv_iload_n (pc := 177) C0.1 C0.2.1 dX10_isTold_177 rfl (lv_at hl 1 rfl) ?_
  exact xzret (pc := 178) C0 hr hH hS dX10_isTold_178 (by decide) ⟨rfl, rfl⟩
set_option maxHeartbeats 4000000 in
set_option maxRecDepth 100000 in
theorem p_X10_closer (l : Launch) (D : va_G) (tA : Nat → ClassId) (b : Nat) (i F : Nat → Nat → Int32) (G : Nat → Nat → Int64) (w : Int64) (hi_78_0 : i 78 0 = 0) (hi_78_3 : i 78 3 = 0) (hi_78_6 : i 78 6 = 0) (hi_78_8 : i 78 8 = 0) : xMI l yX10_closer cX10_closer 5 (some .int) 2 44 D tA b 78 52 i F G [.ref (b + 78), .long w] (fun r _ => r = clS w) := by
  refine xstart RX10 rfl (by decide) (Nat.le_of_ble_eq_true rfl) ?_
  intro p e s m below meth c ls C0 hr hH hS hl
  have hl : lv_has ls 5 [(0, .ref (b + 78)), (1, .long w)] := hl
  refine lv_lload_n (pc := 0) C0.1 C0.2.1 dX10_closer_0 rfl (lv_at hl 1 rfl) ?_
  refine xcSL (pc := 1) [.long w] (c_X10_told l D tA b 78 52 i F G w) C0 hH hS cw_X10_195 rfl ⟨Nat.le_of_ble_eq_true rfl, Nat.le_of_ble_eq_true rfl⟩ hl.1 rfl (Nat.le_of_ble_eq_true rfl) dX10_closer_1 ⟨Nat.le_of_ble_eq_true rfl, Nat.le_of_ble_eq_true rfl⟩ (fun r1 ir1 Fr1 Gr1 _ locs hp hH hS => ?_)
  obtain ⟨hu, rfl⟩ := hp
  cases hu
  refine lv_lstore_n (pc := 4) (lv' := [(3, .long (nmw w)), (0, .ref (b + 78)), (1, .long w)]) C0.1 C0.2.1 dX10_closer_4 rfl hl (by decide) rfl (fun ls hl => ?_)
  refine lv_lload_n (pc := 5) C0.1 C0.2.1 dX10_closer_5 rfl (lv_at hl 0 rfl) ?_
  refine xcSI (pc := 6) [.long (nmw w)] (c_X10_isWord l D tA b 78 52 i F G (nmw w) (tl0_nmw _)) C0 hH hS cw_X10_199 rfl ⟨Nat.le_of_ble_eq_true rfl, Nat.le_of_ble_eq_true rfl⟩ hl.1 rfl (Nat.le_of_ble_eq_true rfl) dX10_closer_6 ⟨Nat.le_of_ble_eq_true rfl, Nat.le_of_ble_eq_true rfl⟩ (fun r2 ir2 Fr2 Gr2 _ locs hp hH hS => ?_)
  obtain ⟨hu, rfl⟩ := hp
  cases hu
  refine lv_if_ne (pc := 9) (tgt := 15) C0.1 C0.2.1 dX10_closer_9 (by decide) (fun c3 => ?_) (fun c3 => ?_)
  · refine lv_aload_n (pc := 15) C0.1 C0.2.1 dX10_closer_15 rfl (lv_at hl 1 rfl) ?_
    refine lv_lload_n (pc := 16) C0.1 C0.2.1 dX10_closer_16 rfl (lv_at hl 0 rfl) ?_
    refine xcVI (pc := 17) 78 [.long (nmw w)] (a45_X10_isTold l D tA b i F G (nmw w) (by exact hi_78_0) (by exact hi_78_3) (by exact hi_78_6) (by exact hi_78_8)) C0 hH hS clX10 rfl ⟨⟨Nat.le_of_ble_eq_true rfl, Nat.le_of_ble_eq_true rfl⟩, rfl, rfl⟩ cw_X10_208 rfl ⟨Nat.le_of_ble_eq_true rfl, Nat.le_of_ble_eq_true rfl⟩ hl.1 rfl (Nat.le_of_ble_eq_true rfl) dX10_closer_17 ⟨Nat.le_of_ble_eq_true rfl, Nat.le_of_ble_eq_true rfl⟩ (fun r4 ir4 Fr4 Gr4 _ locs hp hH hS => ?_)
    obtain ⟨hu, rfl⟩ := hp
    cases hu
    refine lv_if_eq (pc := 20) (tgt := 26) C0.1 C0.2.1 dX10_closer_20 (by decide) (fun _ => ?_) (fun c => absurd (by decide) c)
    refine lv_aload_n (pc := 26) C0.1 C0.2.1 dX10_closer_26 rfl (lv_at hl 1 rfl) ?_
    refine xget (pc := 27) C0 hH 78 6 clX10 ⟨Nat.le_of_ble_eq_true rfl, Nat.le_of_ble_eq_true rfl⟩ ⟨rfl, rfl⟩ (Nat.le_of_ble_eq_true rfl) fl_X10_189 (v := .int 0) (congrArg Value.int hi_78_6) dX10_closer_27 ?_
    refine lv_iconst (pc := 30) (v := 4) C0.1 C0.2.1 dX10_closer_30 (by decide) ?_
    refine lv_icmp_ne (pc := 31) (tgt := 37) C0.1 C0.2.1 dX10_closer_31 (by decide) (fun _ => ?_) (fun c => absurd c (by decide))
    refine lv_aload_n (pc := 37) C0.1 C0.2.1 dX10_closer_37 rfl (lv_at hl 1 rfl) ?_
    refine xget (pc := 38) C0 hH 78 7 clX10 ⟨Nat.le_of_ble_eq_true rfl, Nat.le_of_ble_eq_true rfl⟩ ⟨rfl, rfl⟩ (Nat.le_of_ble_eq_true rfl) fl_X10_23 (v := .ref (b + 83)) rfl dX10_closer_38 ?_
    refine lv_aload_n (pc := 41) C0.1 C0.2.1 dX10_closer_41 rfl (lv_at hl 1 rfl) ?_
    refine xget (pc := 42) C0 hH 78 6 clX10 ⟨Nat.le_of_ble_eq_true rfl, Nat.le_of_ble_eq_true rfl⟩ ⟨rfl, rfl⟩ (Nat.le_of_ble_eq_true rfl) fl_X10_189 (v := .int 0) (congrArg Value.int hi_78_6) dX10_closer_42 ?_
    refine lv_lload_n (pc := 45) C0.1 C0.2.1 dX10_closer_45 rfl (lv_at hl 0 rfl) ?_
    refine xlast (pc := 46) (N := 4) C0 (Nat.le_of_ble_eq_true rfl) hH hS 83 ⟨Nat.le_of_ble_eq_true rfl, Nat.le_of_ble_eq_true rfl⟩ ⟨rfl, rfl⟩ (vin (by decide)) dX10_closer_46 (fun _ locs hH hS => ?_)
    have hH : Hd D tA b 78 52 zz i F (va_up G 83 (vp_updL (G 83) (Int32.toNatClampNeg 0) (nmw w))) _ := hH
    refine lv_aload_n (pc := 47) C0.1 C0.2.1 dX10_closer_47 rfl (lv_at hl 1 rfl) ?_
    refine lv_dup (pc := 48) C0.1 C0.2.1 dX10_closer_48 rfl ?_
    refine xget (pc := 49) C0 hH 78 6 clX10 ⟨Nat.le_of_ble_eq_true rfl, Nat.le_of_ble_eq_true rfl⟩ ⟨rfl, rfl⟩ (Nat.le_of_ble_eq_true rfl) fl_X10_189 (v := .int 0) (congrArg Value.int hi_78_6) dX10_closer_49 ?_
    refine lv_iconst (pc := 52) (v := 1) C0.1 C0.2.1 dX10_closer_52 (by decide) ?_
    refine lv_iadd (pc := 53) C0.1 C0.2.1 dX10_closer_53 ?_
    refine lv_topi (fun q5 eq5 => ?_)
    obtain rfl : q5 = 1 := eq5.trans (by decide)
    refine xputI (pc := 54) C0 (Nat.le_of_ble_eq_true rfl) hH hS 78 6 clX10 ⟨Nat.le_of_ble_eq_true rfl, Nat.le_of_ble_eq_true rfl⟩ ⟨rfl, rfl⟩ ⟨Nat.le_of_ble_eq_true rfl, rfl, rfl⟩ fl_X10_189 (x := 1) ⟨rfl, rfl⟩ dX10_closer_54 (fun _ locs hH hS _ => ?_)
    have hH : Hd D tA b 78 52 zz (up2 i 78 6 1) F (va_up G 83 (vp_updL (G 83) (Int32.toNatClampNeg 0) (nmw w))) _ := hH
    refine lv_aload_n (pc := 57) C0.1 C0.2.1 dX10_closer_57 rfl (lv_at hl 1 rfl) ?_
    refine lv_iconst (pc := 58) (v := 0) C0.1 C0.2.1 dX10_closer_58 (by decide) ?_
    refine xputI (pc := 59) C0 (Nat.le_of_ble_eq_true rfl) hH hS 78 15 clX10 ⟨Nat.le_of_ble_eq_true rfl, Nat.le_of_ble_eq_true rfl⟩ ⟨rfl, rfl⟩ ⟨Nat.le_of_ble_eq_true rfl, rfl, rfl⟩ fl_X10_211 (x := 0) ⟨rfl, rfl⟩ dX10_closer_59 (fun _ locs hH hS _ => ?_)
    have hH : Hd D tA b 78 52 zz (up2 (up2 i 78 6 1) 78 15 0) F (va_up G 83 (vp_updL (G 83) (Int32.toNatClampNeg 0) (nmw w))) _ := hH
    refine lv_aload_n (pc := 62) C0.1 C0.2.1 dX10_closer_62 rfl (lv_at hl 1 rfl) ?_
    refine xget (pc := 63) C0 hH 78 6 clX10 ⟨Nat.le_of_ble_eq_true rfl, Nat.le_of_ble_eq_true rfl⟩ ⟨rfl, rfl⟩ (Nat.le_of_ble_eq_true rfl) fl_X10_189 (v := .int 1) rfl dX10_closer_63 ?_
    exact xiret (pc := 66) C0 hr hH hS dX10_closer_66 (by unfold clS; rw [if_neg (by assumption)])
  · refine lv_bipush (pc := 12) (v := (-2)) C0.1 C0.2.1 dX10_closer_12 (by decide) ?_
    exact xiret (pc := 14) C0 hr hH hS dX10_closer_14 (by unfold clS; rw [if_pos (by assumption)])
set_option maxHeartbeats 4000000 in
set_option maxRecDepth 100000 in
theorem a46_X10_isTold (l : Launch) (D : va_G) (tA : Nat → ClassId) (b : Nat) (i F : Nat → Nat → Int32) (G : Nat → Nat → Int64) (a0_ : Int64) (hi_78_0 : i 78 0 = 0) (hi_78_3 : i 78 3 = 0) (hi_78_6 : i 78 6 = 0) (hi_78_8 : i 78 8 = 0) : xMI l yX10_isTold cX10_isTold 5 (some .boolean) 0 0 D tA b 78 52 i F G [.ref (b + 78), .long a0_] (fun r u => u = (i, F, G) ∧ r = 0) := by
  refine xstart RX10 rfl (by decide) (Nat.le_of_ble_eq_true rfl) ?_
  intro p e s m below meth c ls C0 hr hH hS hl
  have hl : lv_has ls 5 [(0, .ref (b + 78)), (1, .long a0_)] := hl
  refine lv_iconst (pc := 0) (v := 0) C0.1 C0.2.1 dX10_isTold_0 (by decide) ?_
  refine lv_istore_n (pc := 1) (lv' := [(3, .int 0), (0, .ref (b + 78)), (1, .long a0_)]) C0.1 C0.2.1 dX10_isTold_1 rfl hl (by decide) rfl (fun ls hl => ?_)
  refine lv_iconst (pc := 2) (v := 0) C0.1 C0.2.1 dX10_isTold_2 (by decide) ?_
  refine lv_istore (pc := 3) (lv' := [(4, .int 0), (3, .int 0), (0, .ref (b + 78)), (1, .long a0_)]) C0.1 C0.2.1 dX10_isTold_3 hl (by decide) rfl (fun ls hl => ?_)
  refine lv_iload (pc := 5) C0.1 C0.2.1 dX10_isTold_5 (lv_at hl 0 rfl) ?_
  refine lv_aload_n (pc := 7) C0.1 C0.2.1 dX10_isTold_7 rfl (lv_at hl 2 rfl) ?_
  refine xget (pc := 8) C0 hH 78 0 clX10 ⟨Nat.le_of_ble_eq_true rfl, Nat.le_of_ble_eq_true rfl⟩ ⟨rfl, rfl⟩ (Nat.le_of_ble_eq_true rfl) fl_X10_182 (v := .int 0) (congrArg Value.int hi_78_0) dX10_isTold_8 ?_
  refine lv_icmp_ge (pc := 11) (tgt := 42) C0.1 C0.2.1 dX10_isTold_11 (by decide) (fun _ => ?_) (fun c => absurd (by decide) c)
  refine lv_iconst (pc := 42) (v := 0) C0.1 C0.2.1 dX10_isTold_42 (by decide) ?_
  refine lv_istore (pc := 43) (lv' := [(4, .int 0), (3, .int 0), (0, .ref (b + 78)), (1, .long a0_)]) C0.1 C0.2.1 dX10_isTold_43 hl (by decide) rfl (fun ls hl => ?_)
  refine lv_iload (pc := 45) C0.1 C0.2.1 dX10_isTold_45 (lv_at hl 0 rfl) ?_
  refine lv_aload_n (pc := 47) C0.1 C0.2.1 dX10_isTold_47 rfl (lv_at hl 2 rfl) ?_
  refine xget (pc := 48) C0 hH 78 3 clX10 ⟨Nat.le_of_ble_eq_true rfl, Nat.le_of_ble_eq_true rfl⟩ ⟨rfl, rfl⟩ (Nat.le_of_ble_eq_true rfl) fl_X10_186 (v := .int 0) (congrArg Value.int hi_78_3) dX10_isTold_48 ?_
  refine lv_icmp_ge (pc := 51) (tgt := 96) C0.1 C0.2.1 dX10_isTold_51 (by decide) (fun _ => ?_) (fun c => absurd (by decide) c)
  refine lv_iconst (pc := 96) (v := 0) C0.1 C0.2.1 dX10_isTold_96 (by decide) ?_
  refine lv_istore (pc := 97) (lv' := [(4, .int 0), (3, .int 0), (0, .ref (b + 78)), (1, .long a0_)]) C0.1 C0.2.1 dX10_isTold_97 hl (by decide) rfl (fun ls hl => ?_)
  refine lv_iload (pc := 99) C0.1 C0.2.1 dX10_isTold_99 (lv_at hl 0 rfl) ?_
  refine lv_aload_n (pc := 101) C0.1 C0.2.1 dX10_isTold_101 rfl (lv_at hl 2 rfl) ?_
  refine xget (pc := 102) C0 hH 78 6 clX10 ⟨Nat.le_of_ble_eq_true rfl, Nat.le_of_ble_eq_true rfl⟩ ⟨rfl, rfl⟩ (Nat.le_of_ble_eq_true rfl) fl_X10_189 (v := .int 0) (congrArg Value.int hi_78_6) dX10_isTold_102 ?_
  refine lv_icmp_ge (pc := 105) (tgt := 136) C0.1 C0.2.1 dX10_isTold_105 (by decide) (fun _ => ?_) (fun c => absurd (by decide) c)
  refine lv_iconst (pc := 136) (v := 0) C0.1 C0.2.1 dX10_isTold_136 (by decide) ?_
  refine lv_istore (pc := 137) (lv' := [(4, .int 0), (3, .int 0), (0, .ref (b + 78)), (1, .long a0_)]) C0.1 C0.2.1 dX10_isTold_137 hl (by decide) rfl (fun ls hl => ?_)
  refine lv_iload (pc := 139) C0.1 C0.2.1 dX10_isTold_139 (lv_at hl 0 rfl) ?_
  refine lv_aload_n (pc := 141) C0.1 C0.2.1 dX10_isTold_141 rfl (lv_at hl 2 rfl) ?_
  refine xget (pc := 142) C0 hH 78 8 clX10 ⟨Nat.le_of_ble_eq_true rfl, Nat.le_of_ble_eq_true rfl⟩ ⟨rfl, rfl⟩ (Nat.le_of_ble_eq_true rfl) fl_X10_192 (v := .int 0) (congrArg Value.int hi_78_8) dX10_isTold_142 ?_
  refine lv_icmp_ge (pc := 145) (tgt := 177) C0.1 C0.2.1 dX10_isTold_145 (by decide) (fun _ => ?_) (fun c => absurd (by decide) c)
  refine lv_iload_n (pc := 177) C0.1 C0.2.1 dX10_isTold_177 rfl (lv_at hl 1 rfl) ?_
  exact xzret (pc := 178) C0 hr hH hS dX10_isTold_178 (by decide) ⟨rfl, rfl⟩
set_option maxHeartbeats 4000000 in
set_option maxRecDepth 100000 in
theorem p_X10_goer (l : Launch) (D : va_G) (tA : Nat → ClassId) (b : Nat) (i F : Nat → Nat → Int32) (G : Nat → Nat → Int64) (x : Int32) (hi_78_0 : i 78 0 = 0) (hi_78_3 : i 78 3 = 0) (hi_78_6 : i 78 6 = 0) (hi_78_8 : i 78 8 = 0) : xMI l yX10_goer cX10_goer 2 (some .int) 2 46 D tA b 78 52 i F G [.ref (b + 78), .int x] (fun r _ => r = goS x) := by
  refine xstart RX10 rfl (by decide) (Nat.le_of_ble_eq_true rfl) ?_
  intro p e s m below meth c ls C0 hr hH hS hl
  have hl : lv_has ls 2 [(0, .ref (b + 78)), (1, .int x)] := hl
  refine lv_iload_n (pc := 0) C0.1 C0.2.1 dX10_goer_0 rfl (lv_at hl 1 rfl) ?_
  refine lv_i2l (pc := 1) (v := x.toInt64) C0.1 C0.2.1 dX10_goer_1 rfl ?_
  refine xcSI (pc := 2) [.long x.toInt64] (c_X10_isOneMark l D tA b 78 52 i F G x.toInt64) C0 hH hS cw_X10_203 rfl ⟨Nat.le_of_ble_eq_true rfl, Nat.le_of_ble_eq_true rfl⟩ hl.1 rfl (Nat.le_of_ble_eq_true rfl) dX10_goer_2 ⟨Nat.le_of_ble_eq_true rfl, Nat.le_of_ble_eq_true rfl⟩ (fun r1 ir1 Fr1 Gr1 _ locs hp hH hS => ?_)
  obtain ⟨hu, rfl⟩ := hp
  cases hu
  refine lv_if_ne (pc := 5) (tgt := 11) C0.1 C0.2.1 dX10_goer_5 (by decide) (fun c2 => ?_) (fun c2 => ?_)
  · refine lv_aload_n (pc := 11) C0.1 C0.2.1 dX10_goer_11 rfl (lv_at hl 0 rfl) ?_
    refine lv_iload_n (pc := 12) C0.1 C0.2.1 dX10_goer_12 rfl (lv_at hl 1 rfl) ?_
    refine lv_i2l (pc := 13) (v := x.toInt64) C0.1 C0.2.1 dX10_goer_13 rfl ?_
    refine xcVI (pc := 14) 78 [.long x.toInt64] (a46_X10_isTold l D tA b i F G x.toInt64 (by exact hi_78_0) (by exact hi_78_3) (by exact hi_78_6) (by exact hi_78_8)) C0 hH hS clX10 rfl ⟨⟨Nat.le_of_ble_eq_true rfl, Nat.le_of_ble_eq_true rfl⟩, rfl, rfl⟩ cw_X10_208 rfl ⟨Nat.le_of_ble_eq_true rfl, Nat.le_of_ble_eq_true rfl⟩ hl.1 rfl (Nat.le_of_ble_eq_true rfl) dX10_goer_14 ⟨Nat.le_of_ble_eq_true rfl, Nat.le_of_ble_eq_true rfl⟩ (fun r3 ir3 Fr3 Gr3 _ locs hp hH hS => ?_)
    obtain ⟨hu, rfl⟩ := hp
    cases hu
    refine lv_if_eq (pc := 17) (tgt := 23) C0.1 C0.2.1 dX10_goer_17 (by decide) (fun _ => ?_) (fun c => absurd (by decide) c)
    refine lv_aload_n (pc := 23) C0.1 C0.2.1 dX10_goer_23 rfl (lv_at hl 0 rfl) ?_
    refine xget (pc := 24) C0 hH 78 8 clX10 ⟨Nat.le_of_ble_eq_true rfl, Nat.le_of_ble_eq_true rfl⟩ ⟨rfl, rfl⟩ (Nat.le_of_ble_eq_true rfl) fl_X10_192 (v := .int 0) (congrArg Value.int hi_78_8) dX10_goer_24 ?_
    refine lv_iconst (pc := 27) (v := 4) C0.1 C0.2.1 dX10_goer_27 (by decide) ?_
    refine lv_icmp_ne (pc := 28) (tgt := 34) C0.1 C0.2.1 dX10_goer_28 (by decide) (fun _ => ?_) (fun c => absurd c (by decide))
    refine lv_aload_n (pc := 34) C0.1 C0.2.1 dX10_goer_34 rfl (lv_at hl 0 rfl) ?_
    refine xget (pc := 35) C0 hH 78 9 clX10 ⟨Nat.le_of_ble_eq_true rfl, Nat.le_of_ble_eq_true rfl⟩ ⟨rfl, rfl⟩ (Nat.le_of_ble_eq_true rfl) fl_X10_26 (v := .ref (b + 84)) rfl dX10_goer_35 ?_
    refine lv_aload_n (pc := 38) C0.1 C0.2.1 dX10_goer_38 rfl (lv_at hl 0 rfl) ?_
    refine xget (pc := 39) C0 hH 78 8 clX10 ⟨Nat.le_of_ble_eq_true rfl, Nat.le_of_ble_eq_true rfl⟩ ⟨rfl, rfl⟩ (Nat.le_of_ble_eq_true rfl) fl_X10_192 (v := .int 0) (congrArg Value.int hi_78_8) dX10_goer_39 ?_
    refine lv_iload_n (pc := 42) C0.1 C0.2.1 dX10_goer_42 rfl (lv_at hl 1 rfl) ?_
    refine xiast (pc := 43) (N := 4) C0 (Nat.le_of_ble_eq_true rfl) hH hS 84 ⟨Nat.le_of_ble_eq_true rfl, Nat.le_of_ble_eq_true rfl⟩ ⟨rfl, rfl⟩ (vin (by decide)) dX10_goer_43 (fun _ locs hH hS _ => ?_)
    have hH : Hd D tA b 78 52 zz i (va_up F 84 (upd (F 84) (Int32.toNatClampNeg 0) x)) G _ := hH
    refine lv_aload_n (pc := 44) C0.1 C0.2.1 dX10_goer_44 rfl (lv_at hl 0 rfl) ?_
    refine lv_dup (pc := 45) C0.1 C0.2.1 dX10_goer_45 rfl ?_
    refine xget (pc := 46) C0 hH 78 8 clX10 ⟨Nat.le_of_ble_eq_true rfl, Nat.le_of_ble_eq_true rfl⟩ ⟨rfl, rfl⟩ (Nat.le_of_ble_eq_true rfl) fl_X10_192 (v := .int 0) (congrArg Value.int hi_78_8) dX10_goer_46 ?_
    refine lv_iconst (pc := 49) (v := 1) C0.1 C0.2.1 dX10_goer_49 (by decide) ?_
    refine lv_iadd (pc := 50) C0.1 C0.2.1 dX10_goer_50 ?_
    refine lv_topi (fun q4 eq4 => ?_)
    obtain rfl : q4 = 1 := eq4.trans (by decide)
    refine xputI (pc := 51) C0 (Nat.le_of_ble_eq_true rfl) hH hS 78 8 clX10 ⟨Nat.le_of_ble_eq_true rfl, Nat.le_of_ble_eq_true rfl⟩ ⟨rfl, rfl⟩ ⟨Nat.le_of_ble_eq_true rfl, rfl, rfl⟩ fl_X10_192 (x := 1) ⟨rfl, rfl⟩ dX10_goer_51 (fun _ locs hH hS _ => ?_)
    have hH : Hd D tA b 78 52 zz (up2 i 78 8 1) (va_up F 84 (upd (F 84) (Int32.toNatClampNeg 0) x)) G _ := hH
    refine lv_aload_n (pc := 54) C0.1 C0.2.1 dX10_goer_54 rfl (lv_at hl 0 rfl) ?_
    refine lv_iconst (pc := 55) (v := 0) C0.1 C0.2.1 dX10_goer_55 (by decide) ?_
    refine xputI (pc := 56) C0 (Nat.le_of_ble_eq_true rfl) hH hS 78 15 clX10 ⟨Nat.le_of_ble_eq_true rfl, Nat.le_of_ble_eq_true rfl⟩ ⟨rfl, rfl⟩ ⟨Nat.le_of_ble_eq_true rfl, rfl, rfl⟩ fl_X10_211 (x := 0) ⟨rfl, rfl⟩ dX10_goer_56 (fun _ locs hH hS _ => ?_)
    have hH : Hd D tA b 78 52 zz (up2 (up2 i 78 8 1) 78 15 0) (va_up F 84 (upd (F 84) (Int32.toNatClampNeg 0) x)) G _ := hH
    refine lv_aload_n (pc := 59) C0.1 C0.2.1 dX10_goer_59 rfl (lv_at hl 0 rfl) ?_
    refine xget (pc := 60) C0 hH 78 8 clX10 ⟨Nat.le_of_ble_eq_true rfl, Nat.le_of_ble_eq_true rfl⟩ ⟨rfl, rfl⟩ (Nat.le_of_ble_eq_true rfl) fl_X10_192 (v := .int 1) rfl dX10_goer_60 ?_
    exact xiret (pc := 63) C0 hr hH hS dX10_goer_63 (by unfold goS; rw [if_neg (by assumption)])
  · refine lv_bipush (pc := 8) (v := (-2)) C0.1 C0.2.1 dX10_goer_8 (by decide) ?_
    exact xiret (pc := 10) C0 hr hH hS dX10_goer_10 (by unfold goS; rw [if_pos (by assumption)])
set_option maxHeartbeats 4000000 in
set_option maxRecDepth 100000 in
theorem p_X10_tab (l : Launch) (D : va_G) (tA : Nat → ClassId) (b : Nat) (i F : Nat → Nat → Int32) (G : Nat → Nat → Int64) (x : Int32) (hi_78_10 : i 78 10 = 0) : xMI l yX10_tab cX10_tab 3 (some .int) 1 25 D tA b 78 52 i F G [.ref (b + 78), .int x] (fun r _ => r = tbS x) := by
  refine xstart RX10 rfl (by decide) (Nat.le_of_ble_eq_true rfl) ?_
  intro p e s m below meth c ls C0 hr hH hS hl
  have hl : lv_has ls 3 [(0, .ref (b + 78)), (1, .int x)] := hl
  refine lv_iload_n (pc := 0) C0.1 C0.2.1 dX10_tab_0 rfl (lv_at hl 1 rfl) ?_
  refine lv_i2l (pc := 1) (v := x.toInt64) C0.1 C0.2.1 dX10_tab_1 rfl ?_
  refine lv_lconst (pc := 2) (v := 0) C0.1 C0.2.1 dX10_tab_2 (by decide) ?_
  refine lv_ldc2 (pc := 3) C0.1 C0.2.1 C0.2.2.2.1 (C0.2.2.2.2.1 _ kl_X10_214) dX10_tab_3 ?_
  refine xcSI (pc := 6) [.long x.toInt64, .long 0, .long 8] (c_X10_in l D tA b 78 52 i F G x.toInt64 0 8) C0 hH hS cw_X10_175 rfl ⟨Nat.le_of_ble_eq_true rfl, Nat.le_of_ble_eq_true rfl⟩ hl.1 rfl (Nat.le_of_ble_eq_true rfl) dX10_tab_6 ⟨Nat.le_of_ble_eq_true rfl, Nat.le_of_ble_eq_true rfl⟩ (fun r1 ir1 Fr1 Gr1 _ locs hp hH hS => ?_)
  obtain ⟨hu, rfl⟩ := hp
  cases hu
  refine lv_if_ne (pc := 9) (tgt := 15) C0.1 C0.2.1 dX10_tab_9 (by decide) (fun c2 => ?_) (fun c2 => ?_)
  · have : Int64.toInt 0 = 0 := rfl
    have : Int64.toInt 8 = 8 := rfl
    have c2 := in_1i c2
    refine lv_aload_n (pc := 15) C0.1 C0.2.1 dX10_tab_15 rfl (lv_at hl 0 rfl) ?_
    refine xget (pc := 16) C0 hH 78 10 clX10 ⟨Nat.le_of_ble_eq_true rfl, Nat.le_of_ble_eq_true rfl⟩ ⟨rfl, rfl⟩ (Nat.le_of_ble_eq_true rfl) fl_X10_216 (v := .int 0) (congrArg Value.int hi_78_10) dX10_tab_16 ?_
    refine lv_istore_n (pc := 19) (lv' := [(2, .int 0), (0, .ref (b + 78)), (1, .int x)]) C0.1 C0.2.1 dX10_tab_19 rfl hl (by decide) rfl (fun ls hl => ?_)
    refine lv_aload_n (pc := 20) C0.1 C0.2.1 dX10_tab_20 rfl (lv_at hl 1 rfl) ?_
    refine lv_iload_n (pc := 21) C0.1 C0.2.1 dX10_tab_21 rfl (lv_at hl 2 rfl) ?_
    refine xputI (pc := 22) C0 (Nat.le_of_ble_eq_true rfl) hH hS 78 10 clX10 ⟨Nat.le_of_ble_eq_true rfl, Nat.le_of_ble_eq_true rfl⟩ ⟨rfl, rfl⟩ ⟨Nat.le_of_ble_eq_true rfl, rfl, rfl⟩ fl_X10_216 (x := x) ⟨rfl, rfl⟩ dX10_tab_22 (fun _ locs hH hS _ => ?_)
    have hH : Hd D tA b 78 52 zz (up2 i 78 10 x) F G _ := hH
    refine lv_aload_n (pc := 25) C0.1 C0.2.1 dX10_tab_25 rfl (lv_at hl 1 rfl) ?_
    refine lv_iconst (pc := 26) (v := 0) C0.1 C0.2.1 dX10_tab_26 (by decide) ?_
    refine xputI (pc := 27) C0 (Nat.le_of_ble_eq_true rfl) hH hS 78 15 clX10 ⟨Nat.le_of_ble_eq_true rfl, Nat.le_of_ble_eq_true rfl⟩ ⟨rfl, rfl⟩ ⟨Nat.le_of_ble_eq_true rfl, rfl, rfl⟩ fl_X10_211 (x := 0) ⟨rfl, rfl⟩ dX10_tab_27 (fun _ locs hH hS _ => ?_)
    have hH : Hd D tA b 78 52 zz (up2 (up2 i 78 10 x) 78 15 0) F G _ := hH
    refine lv_iload_n (pc := 30) C0.1 C0.2.1 dX10_tab_30 rfl (lv_at hl 0 rfl) ?_
    exact xiret (pc := 31) C0 hr hH hS dX10_tab_31 (by unfold tbS; (repeat' split) <;> first | rfl | omega | (exfalso; omega))
  · have : Int64.toInt 0 = 0 := rfl
    have : Int64.toInt 8 = 8 := rfl
    have c2 := in_0i c2
    refine lv_bipush (pc := 12) (v := (-2)) C0.1 C0.2.1 dX10_tab_12 (by decide) ?_
    exact xiret (pc := 14) C0 hr hH hS dX10_tab_14 (by unfold tbS; (repeat' split) <;> first | rfl | omega | (exfalso; omega))
set_option maxHeartbeats 4000000 in
set_option maxRecDepth 100000 in
theorem p_X10_cut (l : Launch) (D : va_G) (tA : Nat → ClassId) (b : Nat) (i F : Nat → Nat → Int32) (G : Nat → Nat → Int64) (x : Int32) (hi_78_12 : i 78 12 = 0) : xMI l yX10_cut cX10_cut 3 (some .int) 1 25 D tA b 78 52 i F G [.ref (b + 78), .int x] (fun r _ => r = ctS x) := by
  refine xstart RX10 rfl (by decide) (Nat.le_of_ble_eq_true rfl) ?_
  intro p e s m below meth c ls C0 hr hH hS hl
  have hl : lv_has ls 3 [(0, .ref (b + 78)), (1, .int x)] := hl
  refine lv_iload_n (pc := 0) C0.1 C0.2.1 dX10_cut_0 rfl (lv_at hl 1 rfl) ?_
  refine lv_i2l (pc := 1) (v := x.toInt64) C0.1 C0.2.1 dX10_cut_1 rfl ?_
  refine lv_lconst (pc := 2) (v := 0) C0.1 C0.2.1 dX10_cut_2 (by decide) ?_
  refine lv_aload_n (pc := 3) C0.1 C0.2.1 dX10_cut_3 rfl (lv_at hl 0 rfl) ?_
  refine xget (pc := 4) C0 hH 78 12 clX10 ⟨Nat.le_of_ble_eq_true rfl, Nat.le_of_ble_eq_true rfl⟩ ⟨rfl, rfl⟩ (Nat.le_of_ble_eq_true rfl) fl_X10_219 (v := .int 0) (congrArg Value.int hi_78_12) dX10_cut_4 ?_
  refine lv_i2l (pc := 7) (v := 0) C0.1 C0.2.1 dX10_cut_7 (by decide) ?_
  refine xcSI (pc := 8) [.long x.toInt64, .long 0, .long 0] (c_X10_in l D tA b 78 52 i F G x.toInt64 0 0) C0 hH hS cw_X10_175 rfl ⟨Nat.le_of_ble_eq_true rfl, Nat.le_of_ble_eq_true rfl⟩ hl.1 rfl (Nat.le_of_ble_eq_true rfl) dX10_cut_8 ⟨Nat.le_of_ble_eq_true rfl, Nat.le_of_ble_eq_true rfl⟩ (fun r1 ir1 Fr1 Gr1 _ locs hp hH hS => ?_)
  obtain ⟨hu, rfl⟩ := hp
  cases hu
  refine lv_if_ne (pc := 11) (tgt := 17) C0.1 C0.2.1 dX10_cut_11 (by decide) (fun c2 => ?_) (fun c2 => ?_)
  · have : Int64.toInt 0 = 0 := rfl
    have : Int64.toInt 0 = 0 := rfl
    have c2 := in_1i c2
    refine lv_aload_n (pc := 17) C0.1 C0.2.1 dX10_cut_17 rfl (lv_at hl 0 rfl) ?_
    refine xget (pc := 18) C0 hH 78 12 clX10 ⟨Nat.le_of_ble_eq_true rfl, Nat.le_of_ble_eq_true rfl⟩ ⟨rfl, rfl⟩ (Nat.le_of_ble_eq_true rfl) fl_X10_219 (v := .int 0) (congrArg Value.int hi_78_12) dX10_cut_18 ?_
    refine lv_iload_n (pc := 21) C0.1 C0.2.1 dX10_cut_21 rfl (lv_at hl 1 rfl) ?_
    refine lv_isub (pc := 22) C0.1 C0.2.1 dX10_cut_22 ?_
    refine lv_topi (fun x3 ex3 => ?_)
    refine lv_istore_n (pc := 23) (lv' := [(2, .int x3), (0, .ref (b + 78)), (1, .int x)]) C0.1 C0.2.1 dX10_cut_23 rfl hl (by decide) rfl (fun ls hl => ?_)
    refine lv_aload_n (pc := 24) C0.1 C0.2.1 dX10_cut_24 rfl (lv_at hl 1 rfl) ?_
    refine lv_iload_n (pc := 25) C0.1 C0.2.1 dX10_cut_25 rfl (lv_at hl 2 rfl) ?_
    refine xputI (pc := 26) C0 (Nat.le_of_ble_eq_true rfl) hH hS 78 12 clX10 ⟨Nat.le_of_ble_eq_true rfl, Nat.le_of_ble_eq_true rfl⟩ ⟨rfl, rfl⟩ ⟨Nat.le_of_ble_eq_true rfl, rfl, rfl⟩ fl_X10_219 (x := x) ⟨rfl, rfl⟩ dX10_cut_26 (fun _ locs hH hS _ => ?_)
    have hH : Hd D tA b 78 52 zz (up2 i 78 12 x) F G _ := hH
    refine lv_aload_n (pc := 29) C0.1 C0.2.1 dX10_cut_29 rfl (lv_at hl 1 rfl) ?_
    refine lv_iconst (pc := 30) (v := 0) C0.1 C0.2.1 dX10_cut_30 (by decide) ?_
    refine xputI (pc := 31) C0 (Nat.le_of_ble_eq_true rfl) hH hS 78 15 clX10 ⟨Nat.le_of_ble_eq_true rfl, Nat.le_of_ble_eq_true rfl⟩ ⟨rfl, rfl⟩ ⟨Nat.le_of_ble_eq_true rfl, rfl, rfl⟩ fl_X10_211 (x := 0) ⟨rfl, rfl⟩ dX10_cut_31 (fun _ locs hH hS _ => ?_)
    have hH : Hd D tA b 78 52 zz (up2 (up2 i 78 12 x) 78 15 0) F G _ := hH
    refine lv_iload_n (pc := 34) C0.1 C0.2.1 dX10_cut_34 rfl (lv_at hl 0 rfl) ?_
    exact xiret (pc := 35) C0 hr hH hS dX10_cut_35 (by obtain rfl : x = 0 := Int32.toInt_inj.mp (by have : Int32.toInt 0 = 0 := rfl; omega); subst_vars; rfl)
  · have : Int64.toInt 0 = 0 := rfl
    have : Int64.toInt 0 = 0 := rfl
    have c2 := in_0i c2
    refine lv_bipush (pc := 14) (v := (-2)) C0.1 C0.2.1 dX10_cut_14 (by decide) ?_
    exact xiret (pc := 16) C0 hr hH hS dX10_cut_16 (by unfold ctS; rw [if_neg (by omega)])
set_option maxHeartbeats 4000000 in
set_option maxRecDepth 100000 in
theorem a47_X10_lines (l : Launch) (D : va_G) (tA : Nat → ClassId) (b : Nat) (i F : Nat → Nat → Int32) (G : Nat → Nat → Int64)  (hi_78_12 : i 78 12 = 0) : xMI l yX10_lines cX10_lines 3 (some .int) 0 0 D tA b 78 52 i F G [.ref (b + 78)] (fun r u => u = (i, F, G) ∧ r = 0) := by
  refine xstart RX10 rfl (by decide) (Nat.le_of_ble_eq_true rfl) ?_
  intro p e s m below meth c ls C0 hr hH hS hl
  have hl : lv_has ls 3 [(0, .ref (b + 78))] := hl
  refine lv_iconst (pc := 0) (v := 0) C0.1 C0.2.1 dX10_lines_0 (by decide) ?_
  refine lv_istore_n (pc := 1) (lv' := [(1, .int 0), (0, .ref (b + 78))]) C0.1 C0.2.1 dX10_lines_1 rfl hl (by decide) rfl (fun ls hl => ?_)
  refine lv_iconst (pc := 2) (v := 0) C0.1 C0.2.1 dX10_lines_2 (by decide) ?_
  refine lv_istore_n (pc := 3) (lv' := [(2, .int 0), (1, .int 0), (0, .ref (b + 78))]) C0.1 C0.2.1 dX10_lines_3 rfl hl (by decide) rfl (fun ls hl => ?_)
  refine lv_iload_n (pc := 4) C0.1 C0.2.1 dX10_lines_4 rfl (lv_at hl 0 rfl) ?_
  refine lv_aload_n (pc := 5) C0.1 C0.2.1 dX10_lines_5 rfl (lv_at hl 2 rfl) ?_
  refine xget (pc := 6) C0 hH 78 12 clX10 ⟨Nat.le_of_ble_eq_true rfl, Nat.le_of_ble_eq_true rfl⟩ ⟨rfl, rfl⟩ (Nat.le_of_ble_eq_true rfl) fl_X10_219 (v := .int 0) (congrArg Value.int hi_78_12) dX10_lines_6 ?_
  refine lv_icmp_ge (pc := 9) (tgt := 37) C0.1 C0.2.1 dX10_lines_9 (by decide) (fun _ => ?_) (fun c => absurd (by decide) c)
  refine lv_aload_n (pc := 37) C0.1 C0.2.1 dX10_lines_37 rfl (lv_at hl 2 rfl) ?_
  refine xget (pc := 38) C0 hH 78 12 clX10 ⟨Nat.le_of_ble_eq_true rfl, Nat.le_of_ble_eq_true rfl⟩ ⟨rfl, rfl⟩ (Nat.le_of_ble_eq_true rfl) fl_X10_219 (v := .int 0) (congrArg Value.int hi_78_12) dX10_lines_38 ?_
  refine lv_if_le (pc := 41) (tgt := 66) C0.1 C0.2.1 dX10_lines_41 (by decide) (fun _ => ?_) (fun c => absurd (by decide) c)
  refine lv_iload_n (pc := 66) C0.1 C0.2.1 dX10_lines_66 rfl (lv_at hl 1 rfl) ?_
  exact xiret (pc := 67) C0 hr hH hS dX10_lines_67 ⟨rfl, rfl⟩
set_option maxHeartbeats 4000000 in
set_option maxRecDepth 100000 in
theorem p_X10_shift (l : Launch) (D : va_G) (tA : Nat → ClassId) (b : Nat) (i F : Nat → Nat → Int32) (G : Nat → Nat → Int64) (x y : Int32) (hi_78_12 : i 78 12 = 0) : xMI l yX10_shift cX10_shift 4 (some .int) 1 25 D tA b 78 52 i F G [.ref (b + 78), .int x, .int y] (fun r _ => r = -1) := by
  refine xstart RX10 rfl (by decide) (Nat.le_of_ble_eq_true rfl) ?_
  intro p e s m below meth c ls C0 hr hH hS hl
  have hl : lv_has ls 4 [(0, .ref (b + 78)), (1, .int x), (2, .int y)] := hl
  refine lv_iload_n (pc := 0) C0.1 C0.2.1 dX10_shift_0 rfl (lv_at hl 1 rfl) ?_
  refine lv_i2l (pc := 1) (v := x.toInt64) C0.1 C0.2.1 dX10_shift_1 rfl ?_
  refine lv_lconst (pc := 2) (v := 0) C0.1 C0.2.1 dX10_shift_2 (by decide) ?_
  refine lv_aload_n (pc := 3) C0.1 C0.2.1 dX10_shift_3 rfl (lv_at hl 0 rfl) ?_
  refine xcVI (pc := 4) 78 [] (a47_X10_lines l D tA b i F G  (by exact hi_78_12)) C0 hH hS clX10 rfl ⟨⟨Nat.le_of_ble_eq_true rfl, Nat.le_of_ble_eq_true rfl⟩, rfl, rfl⟩ cw_X10_226 rfl ⟨Nat.le_of_ble_eq_true rfl, Nat.le_of_ble_eq_true rfl⟩ hl.1 rfl (Nat.le_of_ble_eq_true rfl) dX10_shift_4 ⟨Nat.le_of_ble_eq_true rfl, Nat.le_of_ble_eq_true rfl⟩ (fun r1 ir1 Fr1 Gr1 _ locs hp hH hS => ?_)
  obtain ⟨hu, rfl⟩ := hp
  cases hu
  refine lv_iconst (pc := 7) (v := 1) C0.1 C0.2.1 dX10_shift_7 (by decide) ?_
  refine lv_isub (pc := 8) C0.1 C0.2.1 dX10_shift_8 ?_
  refine lv_topi (fun q2 eq2 => ?_)
  obtain rfl : q2 = (-1) := eq2.trans (by decide)
  refine lv_i2l (pc := 9) (v := (-1)) C0.1 C0.2.1 dX10_shift_9 (by decide) ?_
  refine xcSI (pc := 10) [.long x.toInt64, .long 0, .long (-1)] (c_X10_in l D tA b 78 52 i F G x.toInt64 0 (-1)) C0 hH hS cw_X10_175 rfl ⟨Nat.le_of_ble_eq_true rfl, Nat.le_of_ble_eq_true rfl⟩ hl.1 rfl (Nat.le_of_ble_eq_true rfl) dX10_shift_10 ⟨Nat.le_of_ble_eq_true rfl, Nat.le_of_ble_eq_true rfl⟩ (fun r3 ir3 Fr3 Gr3 _ locs hp hH hS => ?_)
  obtain ⟨hu, rfl⟩ := hp
  cases hu
  refine lv_if_ne (pc := 13) (tgt := 18) C0.1 C0.2.1 dX10_shift_13 (by decide) (fun c => absurd (in_emp _) c) (fun _ => ?_)
  refine lv_iconst (pc := 16) (v := (-1)) C0.1 C0.2.1 dX10_shift_16 (by decide) ?_
  exact xiret (pc := 17) C0 hr hH hS dX10_shift_17 rfl
set_option maxHeartbeats 4000000 in
set_option maxRecDepth 100000 in
theorem p_X10_byteAt (l : Launch) (D : va_G) (tA : Nat → ClassId) (b : Nat) (i F : Nat → Nat → Int32) (G : Nat → Nat → Int64) (x : Int32) (hi_78_12 : i 78 12 = 0) : xMI l yX10_byteAt cX10_byteAt 2 (some .int) 1 25 D tA b 78 52 i F G [.ref (b + 78), .int x] (fun r _ => r = -12) := by
  refine xstart RX10 rfl (by decide) (Nat.le_of_ble_eq_true rfl) ?_
  intro p e s m below meth c ls C0 hr hH hS hl
  have hl : lv_has ls 2 [(0, .ref (b + 78)), (1, .int x)] := hl
  refine lv_iload_n (pc := 0) C0.1 C0.2.1 dX10_byteAt_0 rfl (lv_at hl 1 rfl) ?_
  refine lv_i2l (pc := 1) (v := x.toInt64) C0.1 C0.2.1 dX10_byteAt_1 rfl ?_
  refine lv_lconst (pc := 2) (v := 0) C0.1 C0.2.1 dX10_byteAt_2 (by decide) ?_
  refine lv_aload_n (pc := 3) C0.1 C0.2.1 dX10_byteAt_3 rfl (lv_at hl 0 rfl) ?_
  refine xget (pc := 4) C0 hH 78 12 clX10 ⟨Nat.le_of_ble_eq_true rfl, Nat.le_of_ble_eq_true rfl⟩ ⟨rfl, rfl⟩ (Nat.le_of_ble_eq_true rfl) fl_X10_219 (v := .int 0) (congrArg Value.int hi_78_12) dX10_byteAt_4 ?_
  refine lv_iconst (pc := 7) (v := 1) C0.1 C0.2.1 dX10_byteAt_7 (by decide) ?_
  refine lv_isub (pc := 8) C0.1 C0.2.1 dX10_byteAt_8 ?_
  refine lv_topi (fun q1 eq1 => ?_)
  obtain rfl : q1 = (-1) := eq1.trans (by decide)
  refine lv_i2l (pc := 9) (v := (-1)) C0.1 C0.2.1 dX10_byteAt_9 (by decide) ?_
  refine xcSI (pc := 10) [.long x.toInt64, .long 0, .long (-1)] (c_X10_in l D tA b 78 52 i F G x.toInt64 0 (-1)) C0 hH hS cw_X10_175 rfl ⟨Nat.le_of_ble_eq_true rfl, Nat.le_of_ble_eq_true rfl⟩ hl.1 rfl (Nat.le_of_ble_eq_true rfl) dX10_byteAt_10 ⟨Nat.le_of_ble_eq_true rfl, Nat.le_of_ble_eq_true rfl⟩ (fun r2 ir2 Fr2 Gr2 _ locs hp hH hS => ?_)
  obtain ⟨hu, rfl⟩ := hp
  cases hu
  refine lv_if_eq (pc := 13) (tgt := 29) C0.1 C0.2.1 dX10_byteAt_13 (by decide) (fun _ => ?_) (fun c => absurd (in_emp _) c)
  refine lv_bipush (pc := 29) (v := (-12)) C0.1 C0.2.1 dX10_byteAt_29 (by decide) ?_
  exact xiret (pc := 31) C0 hr hH hS dX10_byteAt_31 rfl
set_option maxHeartbeats 4000000 in
set_option maxRecDepth 100000 in
theorem p_X10_markAt (l : Launch) (D : va_G) (tA : Nat → ClassId) (b : Nat) (i F : Nat → Nat → Int32) (G : Nat → Nat → Int64) (x : Int32) (hi_78_78 : i 78 78 = 0) : xMI l yX10_markAt cX10_markAt 2 (some .int) 1 25 D tA b 78 52 i F G [.ref (b + 78), .int x] (fun r _ => r = -12) := by
  refine xstart RX10 rfl (by decide) (Nat.le_of_ble_eq_true rfl) ?_
  intro p e s m below meth c ls C0 hr hH hS hl
  have hl : lv_has ls 2 [(0, .ref (b + 78)), (1, .int x)] := hl
  refine lv_iload_n (pc := 0) C0.1 C0.2.1 dX10_markAt_0 rfl (lv_at hl 1 rfl) ?_
  refine lv_i2l (pc := 1) (v := x.toInt64) C0.1 C0.2.1 dX10_markAt_1 rfl ?_
  refine lv_lconst (pc := 2) (v := 0) C0.1 C0.2.1 dX10_markAt_2 (by decide) ?_
  refine lv_aload_n (pc := 3) C0.1 C0.2.1 dX10_markAt_3 rfl (lv_at hl 0 rfl) ?_
  refine xget (pc := 4) C0 hH 78 78 clX10 ⟨Nat.le_of_ble_eq_true rfl, Nat.le_of_ble_eq_true rfl⟩ ⟨rfl, rfl⟩ (Nat.le_of_ble_eq_true rfl) fl_X10_441 (v := .int 0) (congrArg Value.int hi_78_78) dX10_markAt_4 ?_
  refine lv_iconst (pc := 7) (v := 1) C0.1 C0.2.1 dX10_markAt_7 (by decide) ?_
  refine lv_isub (pc := 8) C0.1 C0.2.1 dX10_markAt_8 ?_
  refine lv_topi (fun q1 eq1 => ?_)
  obtain rfl : q1 = (-1) := eq1.trans (by decide)
  refine lv_i2l (pc := 9) (v := (-1)) C0.1 C0.2.1 dX10_markAt_9 (by decide) ?_
  refine xcSI (pc := 10) [.long x.toInt64, .long 0, .long (-1)] (c_X10_in l D tA b 78 52 i F G x.toInt64 0 (-1)) C0 hH hS cw_X10_175 rfl ⟨Nat.le_of_ble_eq_true rfl, Nat.le_of_ble_eq_true rfl⟩ hl.1 rfl (Nat.le_of_ble_eq_true rfl) dX10_markAt_10 ⟨Nat.le_of_ble_eq_true rfl, Nat.le_of_ble_eq_true rfl⟩ (fun r2 ir2 Fr2 Gr2 _ locs hp hH hS => ?_)
  obtain ⟨hu, rfl⟩ := hp
  cases hu
  refine lv_if_eq (pc := 13) (tgt := 25) C0.1 C0.2.1 dX10_markAt_13 (by decide) (fun _ => ?_) (fun c => absurd (in_emp _) c)
  refine lv_bipush (pc := 25) (v := (-12)) C0.1 C0.2.1 dX10_markAt_25 (by decide) ?_
  exact xiret (pc := 27) C0 hr hH hS dX10_markAt_27 rfl
set_option maxHeartbeats 4000000 in
set_option maxRecDepth 100000 in
theorem p_X10_fault (l : Launch) (D : va_G) (tA : Nat → ClassId) (b : Nat) (i F : Nat → Nat → Int32) (G : Nat → Nat → Int64) (x : Int32) (hf_87_0 : F 87 0 = 0) (hf_87_1 : F 87 1 = (-9)) (hf_87_2 : F 87 2 = (-9)) (hf_87_3 : F 87 3 = (-9)) : xMI l yX10_fault cX10_fault 2 (some .int) 1 25 D tA b 78 52 i F G [.ref (b + 78), .int x] (fun r _ => r = ftS x) := by
  refine xstart RX10 rfl (by decide) (Nat.le_of_ble_eq_true rfl) ?_
  intro p e s m below meth c ls C0 hr hH hS hl
  have hl : lv_has ls 2 [(0, .ref (b + 78)), (1, .int x)] := hl
  refine lv_iload_n (pc := 0) C0.1 C0.2.1 dX10_fault_0 rfl (lv_at hl 1 rfl) ?_
  refine lv_i2l (pc := 1) (v := x.toInt64) C0.1 C0.2.1 dX10_fault_1 rfl ?_
  refine lv_lconst (pc := 2) (v := 0) C0.1 C0.2.1 dX10_fault_2 (by decide) ?_
  refine lv_ldc2 (pc := 3) C0.1 C0.2.1 C0.2.2.2.1 (C0.2.2.2.2.1 _ kl_X10_206) dX10_fault_3 ?_
  refine xcSI (pc := 6) [.long x.toInt64, .long 0, .long 3] (c_X10_in l D tA b 78 52 i F G x.toInt64 0 3) C0 hH hS cw_X10_175 rfl ⟨Nat.le_of_ble_eq_true rfl, Nat.le_of_ble_eq_true rfl⟩ hl.1 rfl (Nat.le_of_ble_eq_true rfl) dX10_fault_6 ⟨Nat.le_of_ble_eq_true rfl, Nat.le_of_ble_eq_true rfl⟩ (fun r1 ir1 Fr1 Gr1 _ locs hp hH hS => ?_)
  obtain ⟨hu, rfl⟩ := hp
  cases hu
  refine lv_if_eq (pc := 9) (tgt := 21) C0.1 C0.2.1 dX10_fault_9 (by decide) (fun c2 => ?_) (fun c2 => ?_)
  · have : Int64.toInt 0 = 0 := rfl
    have : Int64.toInt 3 = 3 := rfl
    have c2 := in_0i c2
    refine lv_bipush (pc := 21) (v := (-2)) C0.1 C0.2.1 dX10_fault_21 (by decide) ?_
    exact xiret (pc := 23) C0 hr hH hS dX10_fault_23 (by unfold ftS; (repeat' split) <;> first | rfl | omega | (exfalso; omega))
  · have : Int64.toInt 0 = 0 := rfl
    have : Int64.toInt 3 = 3 := rfl
    have c2 := in_1i c2
    rcases (show x.toInt = 0 ∨ x.toInt = 1 ∨ x.toInt = 2 ∨ x.toInt = 3 by omega) with t0 | t0 | t0 | t0
    · obtain rfl : x = 0 := Int32.toInt_inj.mp t0
      refine lv_aload_n (pc := 12) C0.1 C0.2.1 dX10_fault_12 rfl (lv_at hl 0 rfl) ?_
      refine xget (pc := 13) C0 hH 78 16 clX10 ⟨Nat.le_of_ble_eq_true rfl, Nat.le_of_ble_eq_true rfl⟩ ⟨rfl, rfl⟩ (Nat.le_of_ble_eq_true rfl) fl_X10_36 (v := .ref (b + 87)) rfl dX10_fault_13 ?_
      refine lv_iload_n (pc := 16) C0.1 C0.2.1 dX10_fault_16 rfl (lv_at hl 1 rfl) ?_
      refine xiald (pc := 17) (N := 4) C0 hH 87 ⟨Nat.le_of_ble_eq_true rfl, Nat.le_of_ble_eq_true rfl⟩ ⟨rfl, rfl⟩ (vin (by decide)) dX10_fault_17 ?_
      refine lv_topi (fun q3 eq3 => ?_)
      obtain rfl : q3 = 0 := eq3.trans hf_87_0
      refine lv_goto (pc := 18) (tgt := 23) C0.1 C0.2.1 dX10_fault_18 (by decide) ?_
      exact xiret (pc := 23) C0 hr hH hS dX10_fault_23 (by decide)
    · obtain rfl : x = 1 := Int32.toInt_inj.mp t0
      refine lv_aload_n (pc := 12) C0.1 C0.2.1 dX10_fault_12 rfl (lv_at hl 0 rfl) ?_
      refine xget (pc := 13) C0 hH 78 16 clX10 ⟨Nat.le_of_ble_eq_true rfl, Nat.le_of_ble_eq_true rfl⟩ ⟨rfl, rfl⟩ (Nat.le_of_ble_eq_true rfl) fl_X10_36 (v := .ref (b + 87)) rfl dX10_fault_13 ?_
      refine lv_iload_n (pc := 16) C0.1 C0.2.1 dX10_fault_16 rfl (lv_at hl 1 rfl) ?_
      refine xiald (pc := 17) (N := 4) C0 hH 87 ⟨Nat.le_of_ble_eq_true rfl, Nat.le_of_ble_eq_true rfl⟩ ⟨rfl, rfl⟩ (vin (by decide)) dX10_fault_17 ?_
      refine lv_topi (fun q4 eq4 => ?_)
      obtain rfl : q4 = (-9) := eq4.trans hf_87_1
      refine lv_goto (pc := 18) (tgt := 23) C0.1 C0.2.1 dX10_fault_18 (by decide) ?_
      exact xiret (pc := 23) C0 hr hH hS dX10_fault_23 (by decide)
    · obtain rfl : x = 2 := Int32.toInt_inj.mp t0
      refine lv_aload_n (pc := 12) C0.1 C0.2.1 dX10_fault_12 rfl (lv_at hl 0 rfl) ?_
      refine xget (pc := 13) C0 hH 78 16 clX10 ⟨Nat.le_of_ble_eq_true rfl, Nat.le_of_ble_eq_true rfl⟩ ⟨rfl, rfl⟩ (Nat.le_of_ble_eq_true rfl) fl_X10_36 (v := .ref (b + 87)) rfl dX10_fault_13 ?_
      refine lv_iload_n (pc := 16) C0.1 C0.2.1 dX10_fault_16 rfl (lv_at hl 1 rfl) ?_
      refine xiald (pc := 17) (N := 4) C0 hH 87 ⟨Nat.le_of_ble_eq_true rfl, Nat.le_of_ble_eq_true rfl⟩ ⟨rfl, rfl⟩ (vin (by decide)) dX10_fault_17 ?_
      refine lv_topi (fun q5 eq5 => ?_)
      obtain rfl : q5 = (-9) := eq5.trans hf_87_2
      refine lv_goto (pc := 18) (tgt := 23) C0.1 C0.2.1 dX10_fault_18 (by decide) ?_
      exact xiret (pc := 23) C0 hr hH hS dX10_fault_23 (by decide)
    · obtain rfl : x = 3 := Int32.toInt_inj.mp t0
      refine lv_aload_n (pc := 12) C0.1 C0.2.1 dX10_fault_12 rfl (lv_at hl 0 rfl) ?_
      refine xget (pc := 13) C0 hH 78 16 clX10 ⟨Nat.le_of_ble_eq_true rfl, Nat.le_of_ble_eq_true rfl⟩ ⟨rfl, rfl⟩ (Nat.le_of_ble_eq_true rfl) fl_X10_36 (v := .ref (b + 87)) rfl dX10_fault_13 ?_
      refine lv_iload_n (pc := 16) C0.1 C0.2.1 dX10_fault_16 rfl (lv_at hl 1 rfl) ?_
      refine xiald (pc := 17) (N := 4) C0 hH 87 ⟨Nat.le_of_ble_eq_true rfl, Nat.le_of_ble_eq_true rfl⟩ ⟨rfl, rfl⟩ (vin (by decide)) dX10_fault_17 ?_
      refine lv_topi (fun q6 eq6 => ?_)
      obtain rfl : q6 = (-9) := eq6.trans hf_87_3
      refine lv_goto (pc := 18) (tgt := 23) C0.1 C0.2.1 dX10_fault_18 (by decide) ?_
      exact xiret (pc := 23) C0 hr hH hS dX10_fault_23 (by decide)
set_option maxHeartbeats 4000000 in
set_option maxRecDepth 100000 in
theorem a48_X10_lines (l : Launch) (D : va_G) (tA : Nat → ClassId) (b : Nat) (i F : Nat → Nat → Int32) (G : Nat → Nat → Int64)  (hi_78_12 : i 78 12 = 0) : xMI l yX10_lines cX10_lines 3 (some .int) 0 0 D tA b 78 52 i F G [.ref (b + 78)] (fun r u => u = (i, F, G) ∧ r = 0) := by
  refine xstart RX10 rfl (by decide) (Nat.le_of_ble_eq_true rfl) ?_
  intro p e s m below meth c ls C0 hr hH hS hl
  have hl : lv_has ls 3 [(0, .ref (b + 78))] := hl
  refine lv_iconst (pc := 0) (v := 0) C0.1 C0.2.1 dX10_lines_0 (by decide) ?_
  refine lv_istore_n (pc := 1) (lv' := [(1, .int 0), (0, .ref (b + 78))]) C0.1 C0.2.1 dX10_lines_1 rfl hl (by decide) rfl (fun ls hl => ?_)
  refine lv_iconst (pc := 2) (v := 0) C0.1 C0.2.1 dX10_lines_2 (by decide) ?_
  refine lv_istore_n (pc := 3) (lv' := [(2, .int 0), (1, .int 0), (0, .ref (b + 78))]) C0.1 C0.2.1 dX10_lines_3 rfl hl (by decide) rfl (fun ls hl => ?_)
  refine lv_iload_n (pc := 4) C0.1 C0.2.1 dX10_lines_4 rfl (lv_at hl 0 rfl) ?_
  refine lv_aload_n (pc := 5) C0.1 C0.2.1 dX10_lines_5 rfl (lv_at hl 2 rfl) ?_
  refine xget (pc := 6) C0 hH 78 12 clX10 ⟨Nat.le_of_ble_eq_true rfl, Nat.le_of_ble_eq_true rfl⟩ ⟨rfl, rfl⟩ (Nat.le_of_ble_eq_true rfl) fl_X10_219 (v := .int 0) (congrArg Value.int hi_78_12) dX10_lines_6 ?_
  refine lv_icmp_ge (pc := 9) (tgt := 37) C0.1 C0.2.1 dX10_lines_9 (by decide) (fun _ => ?_) (fun c => absurd (by decide) c)
  refine lv_aload_n (pc := 37) C0.1 C0.2.1 dX10_lines_37 rfl (lv_at hl 2 rfl) ?_
  refine xget (pc := 38) C0 hH 78 12 clX10 ⟨Nat.le_of_ble_eq_true rfl, Nat.le_of_ble_eq_true rfl⟩ ⟨rfl, rfl⟩ (Nat.le_of_ble_eq_true rfl) fl_X10_219 (v := .int 0) (congrArg Value.int hi_78_12) dX10_lines_38 ?_
  refine lv_if_le (pc := 41) (tgt := 66) C0.1 C0.2.1 dX10_lines_41 (by decide) (fun _ => ?_) (fun c => absurd (by decide) c)
  refine lv_iload_n (pc := 66) C0.1 C0.2.1 dX10_lines_66 rfl (lv_at hl 1 rfl) ?_
  exact xiret (pc := 67) C0 hr hH hS dX10_lines_67 ⟨rfl, rfl⟩
set_option maxHeartbeats 4000000 in
set_option maxRecDepth 100000 in
theorem a49_X10_lines (l : Launch) (D : va_G) (tA : Nat → ClassId) (b : Nat) (i F : Nat → Nat → Int32) (G : Nat → Nat → Int64)  (hi_78_12 : i 78 12 = 0) : xMI l yX10_lines cX10_lines 3 (some .int) 0 0 D tA b 78 52 i F G [.ref (b + 78)] (fun r u => u = (i, F, G) ∧ r = 0) := by
  refine xstart RX10 rfl (by decide) (Nat.le_of_ble_eq_true rfl) ?_
  intro p e s m below meth c ls C0 hr hH hS hl
  have hl : lv_has ls 3 [(0, .ref (b + 78))] := hl
  refine lv_iconst (pc := 0) (v := 0) C0.1 C0.2.1 dX10_lines_0 (by decide) ?_
  refine lv_istore_n (pc := 1) (lv' := [(1, .int 0), (0, .ref (b + 78))]) C0.1 C0.2.1 dX10_lines_1 rfl hl (by decide) rfl (fun ls hl => ?_)
  refine lv_iconst (pc := 2) (v := 0) C0.1 C0.2.1 dX10_lines_2 (by decide) ?_
  refine lv_istore_n (pc := 3) (lv' := [(2, .int 0), (1, .int 0), (0, .ref (b + 78))]) C0.1 C0.2.1 dX10_lines_3 rfl hl (by decide) rfl (fun ls hl => ?_)
  refine lv_iload_n (pc := 4) C0.1 C0.2.1 dX10_lines_4 rfl (lv_at hl 0 rfl) ?_
  refine lv_aload_n (pc := 5) C0.1 C0.2.1 dX10_lines_5 rfl (lv_at hl 2 rfl) ?_
  refine xget (pc := 6) C0 hH 78 12 clX10 ⟨Nat.le_of_ble_eq_true rfl, Nat.le_of_ble_eq_true rfl⟩ ⟨rfl, rfl⟩ (Nat.le_of_ble_eq_true rfl) fl_X10_219 (v := .int 0) (congrArg Value.int hi_78_12) dX10_lines_6 ?_
  refine lv_icmp_ge (pc := 9) (tgt := 37) C0.1 C0.2.1 dX10_lines_9 (by decide) (fun _ => ?_) (fun c => absurd (by decide) c)
  refine lv_aload_n (pc := 37) C0.1 C0.2.1 dX10_lines_37 rfl (lv_at hl 2 rfl) ?_
  refine xget (pc := 38) C0 hH 78 12 clX10 ⟨Nat.le_of_ble_eq_true rfl, Nat.le_of_ble_eq_true rfl⟩ ⟨rfl, rfl⟩ (Nat.le_of_ble_eq_true rfl) fl_X10_219 (v := .int 0) (congrArg Value.int hi_78_12) dX10_lines_38 ?_
  refine lv_if_le (pc := 41) (tgt := 66) C0.1 C0.2.1 dX10_lines_41 (by decide) (fun _ => ?_) (fun c => absurd (by decide) c)
  refine lv_iload_n (pc := 66) C0.1 C0.2.1 dX10_lines_66 rfl (lv_at hl 1 rfl) ?_
  exact xiret (pc := 67) C0 hr hH hS dX10_lines_67 ⟨rfl, rfl⟩
set_option maxHeartbeats 4000000 in
set_option maxRecDepth 100000 in
theorem p_X10_count (l : Launch) (D : va_G) (tA : Nat → ClassId) (b : Nat) (i F : Nat → Nat → Int32) (G : Nat → Nat → Int64) (x : Int32) (hi_78_12 : i 78 12 = 0) (hi_78_15 : i 78 15 = 0) : xMI l yX10_count cX10_count 2 (some .int) 1 25 D tA b 78 52 i F G [.ref (b + 78), .int x] (fun r _ => r = coS x) := by
  refine xstart RX10 rfl (by decide) (Nat.le_of_ble_eq_true rfl) ?_
  intro p e s m below meth c ls C0 hr hH hS hl
  have hl : lv_has ls 2 [(0, .ref (b + 78)), (1, .int x)] := hl
  refine lv_iload_n (pc := 0) C0.1 C0.2.1 dX10_count_0 rfl (lv_at hl 1 rfl) ?_
  refine lv_iconst (pc := 1) (v := 3) C0.1 C0.2.1 dX10_count_1 (by decide) ?_
  refine lv_icmp_eq (pc := 2) (tgt := 10) C0.1 C0.2.1 dX10_count_2 (by decide) (fun c1 => ?_) (fun c1 => ?_)
  · have : Int32.toInt 3 = 3 := rfl
    have c1 := congrArg Int32.toInt c1
    refine lv_iload_n (pc := 10) C0.1 C0.2.1 dX10_count_10 rfl (lv_at hl 1 rfl) ?_
    refine lv_iconst (pc := 11) (v := 3) C0.1 C0.2.1 dX10_count_11 (by decide) ?_
    refine lv_icmp_ne (pc := 12) (tgt := 22) C0.1 C0.2.1 dX10_count_12 (by decide) (fun c2 => ?_) (fun c2 => ?_)
    · have : Int32.toInt 3 = 3 := rfl
      have c2 : ¬ _ := fun q => c2 (Int32.toInt_inj.mp q)
      refine lv_aload_n (pc := 22) C0.1 C0.2.1 dX10_count_22 rfl (lv_at hl 0 rfl) ?_
      refine xget (pc := 23) C0 hH 78 12 clX10 ⟨Nat.le_of_ble_eq_true rfl, Nat.le_of_ble_eq_true rfl⟩ ⟨rfl, rfl⟩ (Nat.le_of_ble_eq_true rfl) fl_X10_219 (v := .int 0) (congrArg Value.int hi_78_12) dX10_count_23 ?_
      exact xiret (pc := 26) C0 hr hH hS dX10_count_26 (by unfold coS; (repeat' split) <;> first | rfl | omega | (exfalso; omega))
    · have : Int32.toInt 3 = 3 := rfl
      have c2 := congrArg Int32.toInt c2
      refine lv_aload_n (pc := 15) C0.1 C0.2.1 dX10_count_15 rfl (lv_at hl 0 rfl) ?_
      refine xcVI (pc := 16) 78 [] (a48_X10_lines l D tA b i F G  (by exact hi_78_12)) C0 hH hS clX10 rfl ⟨⟨Nat.le_of_ble_eq_true rfl, Nat.le_of_ble_eq_true rfl⟩, rfl, rfl⟩ cw_X10_226 rfl ⟨Nat.le_of_ble_eq_true rfl, Nat.le_of_ble_eq_true rfl⟩ hl.1 rfl (Nat.le_of_ble_eq_true rfl) dX10_count_16 ⟨Nat.le_of_ble_eq_true rfl, Nat.le_of_ble_eq_true rfl⟩ (fun r3 ir3 Fr3 Gr3 _ locs hp hH hS => ?_)
      obtain ⟨hu, rfl⟩ := hp
      cases hu
      refine lv_goto (pc := 19) (tgt := 26) C0.1 C0.2.1 dX10_count_19 (by decide) ?_
      exact xiret (pc := 26) C0 hr hH hS dX10_count_26 (by unfold coS; (repeat' split) <;> first | rfl | omega | (exfalso; omega))
  · have : Int32.toInt 3 = 3 := rfl
    have c1 : ¬ _ := fun q => c1 (Int32.toInt_inj.mp q)
    refine lv_iload_n (pc := 5) C0.1 C0.2.1 dX10_count_5 rfl (lv_at hl 1 rfl) ?_
    refine lv_iconst (pc := 6) (v := 4) C0.1 C0.2.1 dX10_count_6 (by decide) ?_
    refine lv_icmp_ne (pc := 7) (tgt := 27) C0.1 C0.2.1 dX10_count_7 (by decide) (fun c4 => ?_) (fun c4 => ?_)
    · have : Int32.toInt 4 = 4 := rfl
      have c4 : ¬ _ := fun q => c4 (Int32.toInt_inj.mp q)
      refine lv_iload_n (pc := 27) C0.1 C0.2.1 dX10_count_27 rfl (lv_at hl 1 rfl) ?_
      refine lv_i2l (pc := 28) (v := x.toInt64) C0.1 C0.2.1 dX10_count_28 rfl ?_
      refine lv_lconst (pc := 29) (v := 0) C0.1 C0.2.1 dX10_count_29 (by decide) ?_
      refine lv_ldc2 (pc := 30) C0.1 C0.2.1 C0.2.2.2.1 (C0.2.2.2.2.1 _ kl_X10_350) dX10_count_30 ?_
      refine xcSI (pc := 33) [.long x.toInt64, .long 0, .long 2] (c_X10_in l D tA b 78 52 i F G x.toInt64 0 2) C0 hH hS cw_X10_175 rfl ⟨Nat.le_of_ble_eq_true rfl, Nat.le_of_ble_eq_true rfl⟩ hl.1 rfl (Nat.le_of_ble_eq_true rfl) dX10_count_33 ⟨Nat.le_of_ble_eq_true rfl, Nat.le_of_ble_eq_true rfl⟩ (fun r5 ir5 Fr5 Gr5 _ locs hp hH hS => ?_)
      obtain ⟨hu, rfl⟩ := hp
      cases hu
      refine lv_if_ne (pc := 36) (tgt := 42) C0.1 C0.2.1 dX10_count_36 (by decide) (fun c6 => ?_) (fun c6 => ?_)
      · have : Int64.toInt 0 = 0 := rfl
        have : Int64.toInt 2 = 2 := rfl
        have c6 := in_1i c6
        refine lv_aload_n (pc := 42) C0.1 C0.2.1 dX10_count_42 rfl (lv_at hl 0 rfl) ?_
        refine xget (pc := 43) C0 hH 78 15 clX10 ⟨Nat.le_of_ble_eq_true rfl, Nat.le_of_ble_eq_true rfl⟩ ⟨rfl, rfl⟩ (Nat.le_of_ble_eq_true rfl) fl_X10_211 (v := .int 0) (congrArg Value.int hi_78_15) dX10_count_43 ?_
        refine lv_iconst (pc := 46) (v := 1) C0.1 C0.2.1 dX10_count_46 (by decide) ?_
        refine lv_icmp_eq (pc := 47) (tgt := 55) C0.1 C0.2.1 dX10_count_47 (by decide) (fun c => absurd c (by decide)) (fun _ => ?_)
        refine lv_bipush (pc := 50) (v := (-3)) C0.1 C0.2.1 dX10_count_50 (by decide) ?_
        refine lv_goto (pc := 52) (tgt := 82) C0.1 C0.2.1 dX10_count_52 (by decide) ?_
        exact xiret (pc := 82) C0 hr hH hS dX10_count_82 (by unfold coS; (repeat' split) <;> first | rfl | omega | (exfalso; omega))
      · have : Int64.toInt 0 = 0 := rfl
        have : Int64.toInt 2 = 2 := rfl
        have c6 := in_0i c6
        refine lv_bipush (pc := 39) (v := (-2)) C0.1 C0.2.1 dX10_count_39 (by decide) ?_
        exact xiret (pc := 41) C0 hr hH hS dX10_count_41 (by unfold coS; (repeat' split) <;> first | rfl | omega | (exfalso; omega))
    · have : Int32.toInt 4 = 4 := rfl
      have c4 := congrArg Int32.toInt c4
      refine lv_iload_n (pc := 10) C0.1 C0.2.1 dX10_count_10 rfl (lv_at hl 1 rfl) ?_
      refine lv_iconst (pc := 11) (v := 3) C0.1 C0.2.1 dX10_count_11 (by decide) ?_
      refine lv_icmp_ne (pc := 12) (tgt := 22) C0.1 C0.2.1 dX10_count_12 (by decide) (fun c7 => ?_) (fun c7 => ?_)
      · have : Int32.toInt 3 = 3 := rfl
        have c7 : ¬ _ := fun q => c7 (Int32.toInt_inj.mp q)
        refine lv_aload_n (pc := 22) C0.1 C0.2.1 dX10_count_22 rfl (lv_at hl 0 rfl) ?_
        refine xget (pc := 23) C0 hH 78 12 clX10 ⟨Nat.le_of_ble_eq_true rfl, Nat.le_of_ble_eq_true rfl⟩ ⟨rfl, rfl⟩ (Nat.le_of_ble_eq_true rfl) fl_X10_219 (v := .int 0) (congrArg Value.int hi_78_12) dX10_count_23 ?_
        exact xiret (pc := 26) C0 hr hH hS dX10_count_26 (by unfold coS; (repeat' split) <;> first | rfl | omega | (exfalso; omega))
      · have : Int32.toInt 3 = 3 := rfl
        have c7 := congrArg Int32.toInt c7
        refine lv_aload_n (pc := 15) C0.1 C0.2.1 dX10_count_15 rfl (lv_at hl 0 rfl) ?_
        refine xcVI (pc := 16) 78 [] (a49_X10_lines l D tA b i F G  (by exact hi_78_12)) C0 hH hS clX10 rfl ⟨⟨Nat.le_of_ble_eq_true rfl, Nat.le_of_ble_eq_true rfl⟩, rfl, rfl⟩ cw_X10_226 rfl ⟨Nat.le_of_ble_eq_true rfl, Nat.le_of_ble_eq_true rfl⟩ hl.1 rfl (Nat.le_of_ble_eq_true rfl) dX10_count_16 ⟨Nat.le_of_ble_eq_true rfl, Nat.le_of_ble_eq_true rfl⟩ (fun r8 ir8 Fr8 Gr8 _ locs hp hH hS => ?_)
        obtain ⟨hu, rfl⟩ := hp
        cases hu
        refine lv_goto (pc := 19) (tgt := 26) C0.1 C0.2.1 dX10_count_19 (by decide) ?_
        exact xiret (pc := 26) C0 hr hH hS dX10_count_26 (by unfold coS; (repeat' split) <;> first | rfl | omega | (exfalso; omega))
set_option maxHeartbeats 4000000 in
set_option maxRecDepth 100000 in
theorem p_X10_mended (l : Launch) (D : va_G) (tA : Nat → ClassId) (b : Nat) (i F : Nat → Nat → Int32) (G : Nat → Nat → Int64) (x : Int32) (hf_128_0 : F 128 0 = (-9)) (hf_128_1 : F 128 1 = (-9)) : xMI l yX10_mended cX10_mended 2 (some .int) 1 25 D tA b 78 52 i F G [.ref (b + 78), .int x] (fun r _ => r = mdS x) := by
  refine xstart RX10 rfl (by decide) (Nat.le_of_ble_eq_true rfl) ?_
  intro p e s m below meth c ls C0 hr hH hS hl
  have hl : lv_has ls 2 [(0, .ref (b + 78)), (1, .int x)] := hl
  refine lv_iload_n (pc := 0) C0.1 C0.2.1 dX10_mended_0 rfl (lv_at hl 1 rfl) ?_
  refine lv_i2l (pc := 1) (v := x.toInt64) C0.1 C0.2.1 dX10_mended_1 rfl ?_
  refine lv_lconst (pc := 2) (v := 0) C0.1 C0.2.1 dX10_mended_2 (by decide) ?_
  refine lv_lconst (pc := 3) (v := 1) C0.1 C0.2.1 dX10_mended_3 (by decide) ?_
  refine xcSI (pc := 4) [.long x.toInt64, .long 0, .long 1] (c_X10_in l D tA b 78 52 i F G x.toInt64 0 1) C0 hH hS cw_X10_175 rfl ⟨Nat.le_of_ble_eq_true rfl, Nat.le_of_ble_eq_true rfl⟩ hl.1 rfl (Nat.le_of_ble_eq_true rfl) dX10_mended_4 ⟨Nat.le_of_ble_eq_true rfl, Nat.le_of_ble_eq_true rfl⟩ (fun r1 ir1 Fr1 Gr1 _ locs hp hH hS => ?_)
  obtain ⟨hu, rfl⟩ := hp
  cases hu
  refine lv_if_eq (pc := 7) (tgt := 19) C0.1 C0.2.1 dX10_mended_7 (by decide) (fun c2 => ?_) (fun c2 => ?_)
  · have : Int64.toInt 0 = 0 := rfl
    have : Int64.toInt 1 = 1 := rfl
    have c2 := in_0i c2
    refine lv_bipush (pc := 19) (v := (-2)) C0.1 C0.2.1 dX10_mended_19 (by decide) ?_
    exact xiret (pc := 21) C0 hr hH hS dX10_mended_21 (by unfold mdS; (repeat' split) <;> first | rfl | omega | (exfalso; omega))
  · have : Int64.toInt 0 = 0 := rfl
    have : Int64.toInt 1 = 1 := rfl
    have c2 := in_1i c2
    rcases (show x.toInt = 0 ∨ x.toInt = 1 by omega) with t0 | t0
    · obtain rfl : x = 0 := Int32.toInt_inj.mp t0
      refine lv_aload_n (pc := 10) C0.1 C0.2.1 dX10_mended_10 rfl (lv_at hl 0 rfl) ?_
      refine xget (pc := 11) C0 hH 78 75 clX10 ⟨Nat.le_of_ble_eq_true rfl, Nat.le_of_ble_eq_true rfl⟩ ⟨rfl, rfl⟩ (Nat.le_of_ble_eq_true rfl) fl_X10_163 (v := .ref (b + 128)) rfl dX10_mended_11 ?_
      refine lv_iload_n (pc := 14) C0.1 C0.2.1 dX10_mended_14 rfl (lv_at hl 1 rfl) ?_
      refine xiald (pc := 15) (N := 2) C0 hH 128 ⟨Nat.le_of_ble_eq_true rfl, Nat.le_of_ble_eq_true rfl⟩ ⟨rfl, rfl⟩ (vin (by decide)) dX10_mended_15 ?_
      refine lv_topi (fun q3 eq3 => ?_)
      obtain rfl : q3 = (-9) := eq3.trans hf_128_0
      refine lv_goto (pc := 16) (tgt := 21) C0.1 C0.2.1 dX10_mended_16 (by decide) ?_
      exact xiret (pc := 21) C0 hr hH hS dX10_mended_21 (by decide)
    · obtain rfl : x = 1 := Int32.toInt_inj.mp t0
      refine lv_aload_n (pc := 10) C0.1 C0.2.1 dX10_mended_10 rfl (lv_at hl 0 rfl) ?_
      refine xget (pc := 11) C0 hH 78 75 clX10 ⟨Nat.le_of_ble_eq_true rfl, Nat.le_of_ble_eq_true rfl⟩ ⟨rfl, rfl⟩ (Nat.le_of_ble_eq_true rfl) fl_X10_163 (v := .ref (b + 128)) rfl dX10_mended_11 ?_
      refine lv_iload_n (pc := 14) C0.1 C0.2.1 dX10_mended_14 rfl (lv_at hl 1 rfl) ?_
      refine xiald (pc := 15) (N := 2) C0 hH 128 ⟨Nat.le_of_ble_eq_true rfl, Nat.le_of_ble_eq_true rfl⟩ ⟨rfl, rfl⟩ (vin (by decide)) dX10_mended_15 ?_
      refine lv_topi (fun q4 eq4 => ?_)
      obtain rfl : q4 = (-9) := eq4.trans hf_128_1
      refine lv_goto (pc := 16) (tgt := 21) C0.1 C0.2.1 dX10_mended_16 (by decide) ?_
      exact xiret (pc := 21) C0 hr hH hS dX10_mended_21 (by decide)
set_option maxHeartbeats 4000000 in
set_option maxRecDepth 100000 in
theorem p_X10_write (l : Launch) (D : va_G) (tA : Nat → ClassId) (b : Nat) (i F : Nat → Nat → Int32) (G : Nat → Nat → Int64) (x : Int32) (hi_78_15 : i 78 15 = 0) : xMI l yX10_write cX10_write 5 (some .int) 1 25 D tA b 78 52 i F G [.ref (b + 78), .int x] (fun r _ => r = wrS x) := by
  refine xstart RX10 rfl (by decide) (Nat.le_of_ble_eq_true rfl) ?_
  intro p e s m below meth c ls C0 hr hH hS hl
  have hl : lv_has ls 5 [(0, .ref (b + 78)), (1, .int x)] := hl
  refine lv_iload_n (pc := 0) C0.1 C0.2.1 dX10_write_0 rfl (lv_at hl 1 rfl) ?_
  refine lv_i2l (pc := 1) (v := x.toInt64) C0.1 C0.2.1 dX10_write_1 rfl ?_
  refine lv_lconst (pc := 2) (v := 1) C0.1 C0.2.1 dX10_write_2 (by decide) ?_
  refine lv_ldc2 (pc := 3) C0.1 C0.2.1 C0.2.2.2.1 (C0.2.2.2.2.1 _ kl_X10_214) dX10_write_3 ?_
  refine xcSI (pc := 6) [.long x.toInt64, .long 1, .long 8] (c_X10_in l D tA b 78 52 i F G x.toInt64 1 8) C0 hH hS cw_X10_175 rfl ⟨Nat.le_of_ble_eq_true rfl, Nat.le_of_ble_eq_true rfl⟩ hl.1 rfl (Nat.le_of_ble_eq_true rfl) dX10_write_6 ⟨Nat.le_of_ble_eq_true rfl, Nat.le_of_ble_eq_true rfl⟩ (fun r1 ir1 Fr1 Gr1 _ locs hp hH hS => ?_)
  obtain ⟨hu, rfl⟩ := hp
  cases hu
  refine lv_if_ne (pc := 9) (tgt := 15) C0.1 C0.2.1 dX10_write_9 (by decide) (fun c2 => ?_) (fun c2 => ?_)
  · have : Int64.toInt 1 = 1 := rfl
    have : Int64.toInt 8 = 8 := rfl
    have c2 := in_1i c2
    refine lv_aload_n (pc := 15) C0.1 C0.2.1 dX10_write_15 rfl (lv_at hl 0 rfl) ?_
    refine xget (pc := 16) C0 hH 78 15 clX10 ⟨Nat.le_of_ble_eq_true rfl, Nat.le_of_ble_eq_true rfl⟩ ⟨rfl, rfl⟩ (Nat.le_of_ble_eq_true rfl) fl_X10_211 (v := .int 0) (congrArg Value.int hi_78_15) dX10_write_16 ?_
    refine lv_iconst (pc := 19) (v := 1) C0.1 C0.2.1 dX10_write_19 (by decide) ?_
    refine lv_icmp_ne (pc := 20) (tgt := 30) C0.1 C0.2.1 dX10_write_20 (by decide) (fun _ => ?_) (fun c => absurd c (by decide))
    refine lv_bipush (pc := 30) (v := (-3)) C0.1 C0.2.1 dX10_write_30 (by decide) ?_
    exact xiret (pc := 32) C0 hr hH hS dX10_write_32 (by unfold wrS; (repeat' split) <;> first | rfl | omega | (exfalso; omega))
  · have : Int64.toInt 1 = 1 := rfl
    have : Int64.toInt 8 = 8 := rfl
    have c2 := in_0i c2
    refine lv_bipush (pc := 12) (v := (-2)) C0.1 C0.2.1 dX10_write_12 (by decide) ?_
    exact xiret (pc := 14) C0 hr hH hS dX10_write_14 (by unfold wrS; (repeat' split) <;> first | rfl | omega | (exfalso; omega))
set_option maxHeartbeats 4000000 in
set_option maxRecDepth 100000 in
theorem p_X10_written (l : Launch) (D : va_G) (tA : Nat → ClassId) (b : Nat) (i F : Nat → Nat → Int32) (G : Nat → Nat → Int64) (x : Int32) (hi_78_54 : i 78 54 = 0) : xMI l yX10_written cX10_written 2 (some .int) 1 25 D tA b 78 52 i F G [.ref (b + 78), .int x] (fun r _ => r = -9) := by
  refine xstart RX10 rfl (by decide) (Nat.le_of_ble_eq_true rfl) ?_
  intro p e s m below meth c ls C0 hr hH hS hl
  have hl : lv_has ls 2 [(0, .ref (b + 78)), (1, .int x)] := hl
  refine lv_iload_n (pc := 0) C0.1 C0.2.1 dX10_written_0 rfl (lv_at hl 1 rfl) ?_
  refine lv_i2l (pc := 1) (v := x.toInt64) C0.1 C0.2.1 dX10_written_1 rfl ?_
  refine lv_lconst (pc := 2) (v := 0) C0.1 C0.2.1 dX10_written_2 (by decide) ?_
  refine lv_aload_n (pc := 3) C0.1 C0.2.1 dX10_written_3 rfl (lv_at hl 0 rfl) ?_
  refine xget (pc := 4) C0 hH 78 54 clX10 ⟨Nat.le_of_ble_eq_true rfl, Nat.le_of_ble_eq_true rfl⟩ ⟨rfl, rfl⟩ (Nat.le_of_ble_eq_true rfl) fl_X10_378 (v := .int 0) (congrArg Value.int hi_78_54) dX10_written_4 ?_
  refine lv_iconst (pc := 7) (v := 1) C0.1 C0.2.1 dX10_written_7 (by decide) ?_
  refine lv_isub (pc := 8) C0.1 C0.2.1 dX10_written_8 ?_
  refine lv_topi (fun q1 eq1 => ?_)
  obtain rfl : q1 = (-1) := eq1.trans (by decide)
  refine lv_i2l (pc := 9) (v := (-1)) C0.1 C0.2.1 dX10_written_9 (by decide) ?_
  refine xcSI (pc := 10) [.long x.toInt64, .long 0, .long (-1)] (c_X10_in l D tA b 78 52 i F G x.toInt64 0 (-1)) C0 hH hS cw_X10_175 rfl ⟨Nat.le_of_ble_eq_true rfl, Nat.le_of_ble_eq_true rfl⟩ hl.1 rfl (Nat.le_of_ble_eq_true rfl) dX10_written_10 ⟨Nat.le_of_ble_eq_true rfl, Nat.le_of_ble_eq_true rfl⟩ (fun r2 ir2 Fr2 Gr2 _ locs hp hH hS => ?_)
  obtain ⟨hu, rfl⟩ := hp
  cases hu
  refine lv_if_eq (pc := 13) (tgt := 29) C0.1 C0.2.1 dX10_written_13 (by decide) (fun _ => ?_) (fun c => absurd (in_emp _) c)
  refine lv_bipush (pc := 29) (v := (-9)) C0.1 C0.2.1 dX10_written_29 (by decide) ?_
  exact xiret (pc := 31) C0 hr hH hS dX10_written_31 rfl
