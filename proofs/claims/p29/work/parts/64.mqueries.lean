set_option maxRecDepth 20000 in
theorem cw_X10_358 : CwV RX10 358 yX10_endOfBlock cX10_endOfBlock 5 (some .int) 2 := ⟨wm 1461 (by decide +kernel) rfl, wm 1463 (by decide +kernel) rfl, wms 64 (by decide +kernel) rfl, wm 11 (by decide +kernel) rfl, wm 1464 rfl rfl, by decide +kernel⟩
set_option maxRecDepth 20000 in
theorem cw_X10_361 : CwV RX10 361 yX10_depth cX10_depth 4 (some .int) 1 := ⟨wm 1469 (by decide +kernel) rfl, wm 1471 (by decide +kernel) rfl, wms 66 (by decide +kernel) rfl, wm 11 (by decide +kernel) rfl, wm 1472 rfl rfl, by decide +kernel⟩
set_option maxRecDepth 20000 in
theorem cw_X10_364 : CwV RX10 364 yX10_endOfItem cX10_endOfItem 5 (some .int) 2 := ⟨wm 1477 (by decide +kernel) rfl, wm 1479 (by decide +kernel) rfl, wms 67 (by decide +kernel) rfl, wm 11 (by decide +kernel) rfl, wm 1480 rfl rfl, by decide +kernel⟩
set_option maxRecDepth 20000 in
theorem fl_X10_441 : Cond.fieldLink RX10 441 (TX10 78).1 (TX10 78).2.1 (TX10 78).2.2.1 ∈ WALL := wm 1102 (by decide +kernel) rfl
set_option maxRecDepth 20000 in
theorem fl_X10_378 : Cond.fieldLink RX10 378 (TX10 54).1 (TX10 54).2.1 (TX10 54).2.2.1 ∈ WALL := wm 1078 (by decide +kernel) rfl
set_option maxRecDepth 20000 in
theorem kl_X10_350 : Cond.constantLong RX10 350 2 ∈ WALL := wm 1452 (by decide +kernel) rfl
theorem dX10_token_0 : decode cX10_token 0 = .ok (.aload_n 0, 1) := by decide +kernel
theorem dX10_token_1 : decode cX10_token 1 = .ok (.getfield 211, 3) := by decide +kernel
theorem dX10_token_4 : decode cX10_token 4 = .ok (.iconst 1, 1) := by decide +kernel
theorem dX10_token_5 : decode cX10_token 5 = .ok (.if_icmp .eq 6, 3) := by decide +kernel
theorem dX10_token_11 : decode cX10_token 11 = .ok (.iload_n 1, 1) := by decide +kernel
theorem dX10_token_12 : decode cX10_token 12 = .ok (.i2l, 1) := by decide +kernel
theorem dX10_token_13 : decode cX10_token 13 = .ok (.lconst 0, 1) := by decide +kernel
theorem dX10_token_14 : decode cX10_token 14 = .ok (.aload_n 0, 1) := by decide +kernel
theorem dX10_token_15 : decode cX10_token 15 = .ok (.getfield 258, 3) := by decide +kernel
theorem dX10_token_18 : decode cX10_token 18 = .ok (.iconst 1, 1) := by decide +kernel
theorem dX10_token_19 : decode cX10_token 19 = .ok (.isub, 1) := by decide +kernel
theorem dX10_token_20 : decode cX10_token 20 = .ok (.i2l, 1) := by decide +kernel
theorem dX10_token_21 : decode cX10_token 21 = .ok (.invokestatic 175, 3) := by decide +kernel
theorem dX10_token_24 : decode cX10_token 24 = .ok (.ifCond .ne 5, 3) := by decide +kernel
theorem dX10_token_29 : decode cX10_token 29 = .ok (.iload_n 2, 1) := by decide +kernel
theorem dX10_token_30 : decode cX10_token 30 = .ok (.tableswitch 115 0 7 #[46, 53, 60, 67, 74, 81, 96, 103], 46) := by decide +kernel
theorem dX10_token_76 : decode cX10_token 76 = .ok (.aload_n 0, 1) := by decide +kernel
theorem dX10_token_77 : decode cX10_token 77 = .ok (.getfield 42, 3) := by decide +kernel
theorem dX10_token_80 : decode cX10_token 80 = .ok (.iload_n 1, 1) := by decide +kernel
theorem dX10_token_81 : decode cX10_token 81 = .ok (.iaload, 1) := by decide +kernel
theorem dX10_token_82 : decode cX10_token 82 = .ok (.ireturn, 1) := by decide +kernel
theorem dX10_token_83 : decode cX10_token 83 = .ok (.aload_n 0, 1) := by decide +kernel
theorem dX10_token_84 : decode cX10_token 84 = .ok (.getfield 45, 3) := by decide +kernel
theorem dX10_token_87 : decode cX10_token 87 = .ok (.iload_n 1, 1) := by decide +kernel
theorem dX10_token_88 : decode cX10_token 88 = .ok (.iaload, 1) := by decide +kernel
theorem dX10_token_89 : decode cX10_token 89 = .ok (.ireturn, 1) := by decide +kernel
theorem dX10_token_90 : decode cX10_token 90 = .ok (.aload_n 0, 1) := by decide +kernel
theorem dX10_token_91 : decode cX10_token 91 = .ok (.getfield 48, 3) := by decide +kernel
theorem dX10_token_94 : decode cX10_token 94 = .ok (.iload_n 1, 1) := by decide +kernel
theorem dX10_token_95 : decode cX10_token 95 = .ok (.iaload, 1) := by decide +kernel
theorem dX10_token_96 : decode cX10_token 96 = .ok (.ireturn, 1) := by decide +kernel
theorem dX10_token_97 : decode cX10_token 97 = .ok (.aload_n 0, 1) := by decide +kernel
theorem dX10_token_98 : decode cX10_token 98 = .ok (.getfield 51, 3) := by decide +kernel
theorem dX10_token_101 : decode cX10_token 101 = .ok (.iload_n 1, 1) := by decide +kernel
theorem dX10_token_102 : decode cX10_token 102 = .ok (.iaload, 1) := by decide +kernel
theorem dX10_token_103 : decode cX10_token 103 = .ok (.ireturn, 1) := by decide +kernel
theorem dX10_token_104 : decode cX10_token 104 = .ok (.aload_n 0, 1) := by decide +kernel
theorem dX10_token_105 : decode cX10_token 105 = .ok (.getfield 54, 3) := by decide +kernel
theorem dX10_token_108 : decode cX10_token 108 = .ok (.iload_n 1, 1) := by decide +kernel
theorem dX10_token_109 : decode cX10_token 109 = .ok (.iaload, 1) := by decide +kernel
theorem dX10_token_110 : decode cX10_token 110 = .ok (.ireturn, 1) := by decide +kernel
theorem dX10_token_111 : decode cX10_token 111 = .ok (.aload_n 0, 1) := by decide +kernel
theorem dX10_token_112 : decode cX10_token 112 = .ok (.getfield 57, 3) := by decide +kernel
theorem dX10_token_115 : decode cX10_token 115 = .ok (.iload_n 1, 1) := by decide +kernel
theorem dX10_token_116 : decode cX10_token 116 = .ok (.baload, 1) := by decide +kernel
theorem dX10_token_117 : decode cX10_token 117 = .ok (.ifCond .eq 7, 3) := by decide +kernel
theorem dX10_token_124 : decode cX10_token 124 = .ok (.iconst 0, 1) := by decide +kernel
theorem dX10_token_125 : decode cX10_token 125 = .ok (.ireturn, 1) := by decide +kernel
theorem dX10_token_120 : decode cX10_token 120 = .ok (.iconst 1, 1) := by decide +kernel
theorem dX10_token_121 : decode cX10_token 121 = .ok (.goto 4, 3) := by decide +kernel
theorem dX10_token_126 : decode cX10_token 126 = .ok (.aload_n 0, 1) := by decide +kernel
theorem dX10_token_127 : decode cX10_token 127 = .ok (.getfield 64, 3) := by decide +kernel
theorem dX10_token_130 : decode cX10_token 130 = .ok (.iload_n 1, 1) := by decide +kernel
theorem dX10_token_131 : decode cX10_token 131 = .ok (.iaload, 1) := by decide +kernel
theorem dX10_token_132 : decode cX10_token 132 = .ok (.ireturn, 1) := by decide +kernel
theorem dX10_token_133 : decode cX10_token 133 = .ok (.aload_n 0, 1) := by decide +kernel
theorem dX10_token_134 : decode cX10_token 134 = .ok (.getfield 94, 3) := by decide +kernel
theorem dX10_token_137 : decode cX10_token 137 = .ok (.aload_n 0, 1) := by decide +kernel
theorem dX10_token_138 : decode cX10_token 138 = .ok (.getfield 64, 3) := by decide +kernel
theorem dX10_token_141 : decode cX10_token 141 = .ok (.iload_n 1, 1) := by decide +kernel
theorem dX10_token_142 : decode cX10_token 142 = .ok (.iaload, 1) := by decide +kernel
theorem dX10_token_143 : decode cX10_token 143 = .ok (.iaload, 1) := by decide +kernel
theorem dX10_token_144 : decode cX10_token 144 = .ok (.ireturn, 1) := by decide +kernel
theorem dX10_token_145 : decode cX10_token 145 = .ok (.bipush (-2), 2) := by decide +kernel
theorem dX10_token_147 : decode cX10_token 147 = .ok (.ireturn, 1) := by decide +kernel
theorem dX10_token_27 : decode cX10_token 27 = .ok (.iconst (-1), 1) := by decide +kernel
theorem dX10_token_28 : decode cX10_token 28 = .ok (.ireturn, 1) := by decide +kernel
theorem dX10_token_8 : decode cX10_token 8 = .ok (.bipush (-3), 2) := by decide +kernel
theorem dX10_token_10 : decode cX10_token 10 = .ok (.ireturn, 1) := by decide +kernel
theorem dX10_block_0 : decode cX10_block 0 = .ok (.aload_n 0, 1) := by decide +kernel
theorem dX10_block_1 : decode cX10_block 1 = .ok (.getfield 211, 3) := by decide +kernel
theorem dX10_block_4 : decode cX10_block 4 = .ok (.iconst 1, 1) := by decide +kernel
theorem dX10_block_5 : decode cX10_block 5 = .ok (.if_icmp .eq 6, 3) := by decide +kernel
theorem dX10_block_11 : decode cX10_block 11 = .ok (.iload_n 1, 1) := by decide +kernel
theorem dX10_block_12 : decode cX10_block 12 = .ok (.i2l, 1) := by decide +kernel
theorem dX10_block_13 : decode cX10_block 13 = .ok (.lconst 0, 1) := by decide +kernel
theorem dX10_block_14 : decode cX10_block 14 = .ok (.aload_n 0, 1) := by decide +kernel
theorem dX10_block_15 : decode cX10_block 15 = .ok (.getfield 281, 3) := by decide +kernel
theorem dX10_block_18 : decode cX10_block 18 = .ok (.iconst 1, 1) := by decide +kernel
theorem dX10_block_19 : decode cX10_block 19 = .ok (.isub, 1) := by decide +kernel
theorem dX10_block_20 : decode cX10_block 20 = .ok (.i2l, 1) := by decide +kernel
theorem dX10_block_21 : decode cX10_block 21 = .ok (.invokestatic 175, 3) := by decide +kernel
theorem dX10_block_24 : decode cX10_block 24 = .ok (.ifCond .ne 5, 3) := by decide +kernel
theorem dX10_block_29 : decode cX10_block 29 = .ok (.iload_n 2, 1) := by decide +kernel
theorem dX10_block_30 : decode cX10_block 30 = .ok (.tableswitch 101 0 7 #[46, 53, 60, 67, 74, 81, 88, 94], 46) := by decide +kernel
theorem dX10_block_76 : decode cX10_block 76 = .ok (.aload_n 0, 1) := by decide +kernel
theorem dX10_block_77 : decode cX10_block 77 = .ok (.getfield 73, 3) := by decide +kernel
theorem dX10_block_80 : decode cX10_block 80 = .ok (.iload_n 1, 1) := by decide +kernel
theorem dX10_block_81 : decode cX10_block 81 = .ok (.iaload, 1) := by decide +kernel
theorem dX10_block_82 : decode cX10_block 82 = .ok (.ireturn, 1) := by decide +kernel
theorem dX10_block_83 : decode cX10_block 83 = .ok (.aload_n 0, 1) := by decide +kernel
theorem dX10_block_84 : decode cX10_block 84 = .ok (.getfield 76, 3) := by decide +kernel
theorem dX10_block_87 : decode cX10_block 87 = .ok (.iload_n 1, 1) := by decide +kernel
theorem dX10_block_88 : decode cX10_block 88 = .ok (.iaload, 1) := by decide +kernel
theorem dX10_block_89 : decode cX10_block 89 = .ok (.ireturn, 1) := by decide +kernel
theorem dX10_block_90 : decode cX10_block 90 = .ok (.aload_n 0, 1) := by decide +kernel
theorem dX10_block_91 : decode cX10_block 91 = .ok (.getfield 79, 3) := by decide +kernel
theorem dX10_block_94 : decode cX10_block 94 = .ok (.iload_n 1, 1) := by decide +kernel
theorem dX10_block_95 : decode cX10_block 95 = .ok (.iaload, 1) := by decide +kernel
theorem dX10_block_96 : decode cX10_block 96 = .ok (.ireturn, 1) := by decide +kernel
theorem dX10_block_97 : decode cX10_block 97 = .ok (.aload_n 0, 1) := by decide +kernel
theorem dX10_block_98 : decode cX10_block 98 = .ok (.getfield 85, 3) := by decide +kernel
theorem dX10_block_101 : decode cX10_block 101 = .ok (.iload_n 1, 1) := by decide +kernel
theorem dX10_block_102 : decode cX10_block 102 = .ok (.iaload, 1) := by decide +kernel
theorem dX10_block_103 : decode cX10_block 103 = .ok (.ireturn, 1) := by decide +kernel
theorem dX10_block_104 : decode cX10_block 104 = .ok (.aload_n 0, 1) := by decide +kernel
theorem dX10_block_105 : decode cX10_block 105 = .ok (.iload_n 1, 1) := by decide +kernel
theorem dX10_block_106 : decode cX10_block 106 = .ok (.iconst 0, 1) := by decide +kernel
theorem dX10_block_107 : decode cX10_block 107 = .ok (.invokevirtual 358, 3) := by decide +kernel
theorem dX10_block_110 : decode cX10_block 110 = .ok (.ireturn, 1) := by decide +kernel
theorem dX10_block_111 : decode cX10_block 111 = .ok (.aload_n 0, 1) := by decide +kernel
theorem dX10_block_112 : decode cX10_block 112 = .ok (.iload_n 1, 1) := by decide +kernel
theorem dX10_block_113 : decode cX10_block 113 = .ok (.iconst 1, 1) := by decide +kernel
theorem dX10_block_114 : decode cX10_block 114 = .ok (.invokevirtual 358, 3) := by decide +kernel
theorem dX10_block_117 : decode cX10_block 117 = .ok (.ireturn, 1) := by decide +kernel
theorem dX10_block_118 : decode cX10_block 118 = .ok (.aload_n 0, 1) := by decide +kernel
theorem dX10_block_119 : decode cX10_block 119 = .ok (.iload_n 1, 1) := by decide +kernel
theorem dX10_block_120 : decode cX10_block 120 = .ok (.invokevirtual 361, 3) := by decide +kernel
theorem dX10_block_123 : decode cX10_block 123 = .ok (.ireturn, 1) := by decide +kernel
theorem dX10_block_124 : decode cX10_block 124 = .ok (.aload_n 0, 1) := by decide +kernel
theorem dX10_block_125 : decode cX10_block 125 = .ok (.getfield 82, 3) := by decide +kernel
theorem dX10_block_128 : decode cX10_block 128 = .ok (.iload_n 1, 1) := by decide +kernel
theorem dX10_block_129 : decode cX10_block 129 = .ok (.iaload, 1) := by decide +kernel
theorem dX10_block_130 : decode cX10_block 130 = .ok (.ireturn, 1) := by decide +kernel
theorem dX10_block_131 : decode cX10_block 131 = .ok (.bipush (-2), 2) := by decide +kernel
theorem dX10_block_133 : decode cX10_block 133 = .ok (.ireturn, 1) := by decide +kernel
theorem dX10_block_27 : decode cX10_block 27 = .ok (.iconst (-1), 1) := by decide +kernel
theorem dX10_block_28 : decode cX10_block 28 = .ok (.ireturn, 1) := by decide +kernel
theorem dX10_block_8 : decode cX10_block 8 = .ok (.bipush (-3), 2) := by decide +kernel
theorem dX10_block_10 : decode cX10_block 10 = .ok (.ireturn, 1) := by decide +kernel
theorem dX10_item_0 : decode cX10_item 0 = .ok (.aload_n 0, 1) := by decide +kernel
theorem dX10_item_1 : decode cX10_item 1 = .ok (.getfield 211, 3) := by decide +kernel
theorem dX10_item_4 : decode cX10_item 4 = .ok (.iconst 1, 1) := by decide +kernel
theorem dX10_item_5 : decode cX10_item 5 = .ok (.if_icmp .eq 6, 3) := by decide +kernel
theorem dX10_item_11 : decode cX10_item 11 = .ok (.iload_n 1, 1) := by decide +kernel
theorem dX10_item_12 : decode cX10_item 12 = .ok (.i2l, 1) := by decide +kernel
theorem dX10_item_13 : decode cX10_item 13 = .ok (.lconst 0, 1) := by decide +kernel
theorem dX10_item_14 : decode cX10_item 14 = .ok (.aload_n 0, 1) := by decide +kernel
theorem dX10_item_15 : decode cX10_item 15 = .ok (.getfield 287, 3) := by decide +kernel
theorem dX10_item_18 : decode cX10_item 18 = .ok (.iconst 1, 1) := by decide +kernel
theorem dX10_item_19 : decode cX10_item 19 = .ok (.isub, 1) := by decide +kernel
theorem dX10_item_20 : decode cX10_item 20 = .ok (.i2l, 1) := by decide +kernel
theorem dX10_item_21 : decode cX10_item 21 = .ok (.invokestatic 175, 3) := by decide +kernel
theorem dX10_item_24 : decode cX10_item 24 = .ok (.ifCond .ne 5, 3) := by decide +kernel
theorem dX10_item_29 : decode cX10_item 29 = .ok (.iload_n 2, 1) := by decide +kernel
theorem dX10_item_30 : decode cX10_item 30 = .ok (.tableswitch 69 0 4 #[34, 41, 48, 55, 62], 34) := by decide +kernel
theorem dX10_item_64 : decode cX10_item 64 = .ok (.aload_n 0, 1) := by decide +kernel
theorem dX10_item_65 : decode cX10_item 65 = .ok (.getfield 94, 3) := by decide +kernel
theorem dX10_item_68 : decode cX10_item 68 = .ok (.iload_n 1, 1) := by decide +kernel
theorem dX10_item_69 : decode cX10_item 69 = .ok (.iaload, 1) := by decide +kernel
theorem dX10_item_70 : decode cX10_item 70 = .ok (.ireturn, 1) := by decide +kernel
theorem dX10_item_71 : decode cX10_item 71 = .ok (.aload_n 0, 1) := by decide +kernel
theorem dX10_item_72 : decode cX10_item 72 = .ok (.iload_n 1, 1) := by decide +kernel
theorem dX10_item_73 : decode cX10_item 73 = .ok (.iconst 0, 1) := by decide +kernel
theorem dX10_item_74 : decode cX10_item 74 = .ok (.invokevirtual 364, 3) := by decide +kernel
theorem dX10_item_77 : decode cX10_item 77 = .ok (.ireturn, 1) := by decide +kernel
theorem dX10_item_78 : decode cX10_item 78 = .ok (.aload_n 0, 1) := by decide +kernel
theorem dX10_item_79 : decode cX10_item 79 = .ok (.iload_n 1, 1) := by decide +kernel
theorem dX10_item_80 : decode cX10_item 80 = .ok (.iconst 1, 1) := by decide +kernel
theorem dX10_item_81 : decode cX10_item 81 = .ok (.invokevirtual 364, 3) := by decide +kernel
theorem dX10_item_84 : decode cX10_item 84 = .ok (.ireturn, 1) := by decide +kernel
theorem dX10_item_85 : decode cX10_item 85 = .ok (.aload_n 0, 1) := by decide +kernel
theorem dX10_item_86 : decode cX10_item 86 = .ok (.getfield 103, 3) := by decide +kernel
theorem dX10_item_89 : decode cX10_item 89 = .ok (.iload_n 1, 1) := by decide +kernel
theorem dX10_item_90 : decode cX10_item 90 = .ok (.iaload, 1) := by decide +kernel
theorem dX10_item_91 : decode cX10_item 91 = .ok (.ireturn, 1) := by decide +kernel
theorem dX10_item_92 : decode cX10_item 92 = .ok (.aload_n 0, 1) := by decide +kernel
theorem dX10_item_93 : decode cX10_item 93 = .ok (.getfield 97, 3) := by decide +kernel
theorem dX10_item_96 : decode cX10_item 96 = .ok (.iload_n 1, 1) := by decide +kernel
theorem dX10_item_97 : decode cX10_item 97 = .ok (.iaload, 1) := by decide +kernel
theorem dX10_item_98 : decode cX10_item 98 = .ok (.ireturn, 1) := by decide +kernel
theorem dX10_item_99 : decode cX10_item 99 = .ok (.bipush (-2), 2) := by decide +kernel
theorem dX10_item_101 : decode cX10_item 101 = .ok (.ireturn, 1) := by decide +kernel
theorem dX10_item_27 : decode cX10_item 27 = .ok (.iconst (-1), 1) := by decide +kernel
theorem dX10_item_28 : decode cX10_item 28 = .ok (.ireturn, 1) := by decide +kernel
theorem dX10_item_8 : decode cX10_item 8 = .ok (.bipush (-3), 2) := by decide +kernel
theorem dX10_item_10 : decode cX10_item 10 = .ok (.ireturn, 1) := by decide +kernel
theorem dX10_around_0 : decode cX10_around 0 = .ok (.aload_n 0, 1) := by decide +kernel
theorem dX10_around_1 : decode cX10_around 1 = .ok (.getfield 211, 3) := by decide +kernel
theorem dX10_around_4 : decode cX10_around 4 = .ok (.iconst 1, 1) := by decide +kernel
theorem dX10_around_5 : decode cX10_around 5 = .ok (.if_icmp .eq 6, 3) := by decide +kernel
theorem dX10_around_11 : decode cX10_around 11 = .ok (.iload_n 1, 1) := by decide +kernel
theorem dX10_around_12 : decode cX10_around 12 = .ok (.i2l, 1) := by decide +kernel
theorem dX10_around_13 : decode cX10_around 13 = .ok (.lconst 0, 1) := by decide +kernel
theorem dX10_around_14 : decode cX10_around 14 = .ok (.aload_n 0, 1) := by decide +kernel
theorem dX10_around_15 : decode cX10_around 15 = .ok (.getfield 281, 3) := by decide +kernel
theorem dX10_around_18 : decode cX10_around 18 = .ok (.iconst 1, 1) := by decide +kernel
theorem dX10_around_19 : decode cX10_around 19 = .ok (.isub, 1) := by decide +kernel
theorem dX10_around_20 : decode cX10_around 20 = .ok (.i2l, 1) := by decide +kernel
theorem dX10_around_21 : decode cX10_around 21 = .ok (.invokestatic 175, 3) := by decide +kernel
theorem dX10_around_24 : decode cX10_around 24 = .ok (.ifCond .eq 19, 3) := by decide +kernel
theorem dX10_around_43 : decode cX10_around 43 = .ok (.iconst (-1), 1) := by decide +kernel
theorem dX10_around_44 : decode cX10_around 44 = .ok (.ireturn, 1) := by decide +kernel
theorem dX10_around_27 : decode cX10_around 27 = .ok (.iload_n 2, 1) := by decide +kernel
theorem dX10_around_28 : decode cX10_around 28 = .ok (.i2l, 1) := by decide +kernel
theorem dX10_around_29 : decode cX10_around 29 = .ok (.lconst 0, 1) := by decide +kernel
theorem dX10_around_30 : decode cX10_around 30 = .ok (.aload_n 0, 1) := by decide +kernel
theorem dX10_around_31 : decode cX10_around 31 = .ok (.getfield 258, 3) := by decide +kernel
theorem dX10_around_34 : decode cX10_around 34 = .ok (.iconst 1, 1) := by decide +kernel
theorem dX10_around_35 : decode cX10_around 35 = .ok (.isub, 1) := by decide +kernel
theorem dX10_around_36 : decode cX10_around 36 = .ok (.i2l, 1) := by decide +kernel
theorem dX10_around_37 : decode cX10_around 37 = .ok (.invokestatic 175, 3) := by decide +kernel
theorem dX10_around_40 : decode cX10_around 40 = .ok (.ifCond .ne 5, 3) := by decide +kernel
theorem dX10_around_45 : decode cX10_around 45 = .ok (.aload_n 0, 1) := by decide +kernel
theorem dX10_around_46 : decode cX10_around 46 = .ok (.iload_n 1, 1) := by decide +kernel
theorem dX10_around_47 : decode cX10_around 47 = .ok (.iload_n 2, 1) := by decide +kernel
theorem dX10_around_48 : decode cX10_around 48 = .ok (.invokevirtual 352, 3) := by decide +kernel
theorem dX10_around_51 : decode cX10_around 51 = .ok (.ifCond .eq 7, 3) := by decide +kernel
theorem dX10_around_58 : decode cX10_around 58 = .ok (.iconst 0, 1) := by decide +kernel
theorem dX10_around_59 : decode cX10_around 59 = .ok (.ireturn, 1) := by decide +kernel
theorem dX10_around_54 : decode cX10_around 54 = .ok (.iconst 1, 1) := by decide +kernel
theorem dX10_around_55 : decode cX10_around 55 = .ok (.goto 4, 3) := by decide +kernel
theorem dX10_around_8 : decode cX10_around 8 = .ok (.bipush (-3), 2) := by decide +kernel
theorem dX10_around_10 : decode cX10_around 10 = .ok (.ireturn, 1) := by decide +kernel
theorem dX10_markAt_0 : decode cX10_markAt 0 = .ok (.iload_n 1, 1) := by decide +kernel
theorem dX10_markAt_1 : decode cX10_markAt 1 = .ok (.i2l, 1) := by decide +kernel
theorem dX10_markAt_2 : decode cX10_markAt 2 = .ok (.lconst 0, 1) := by decide +kernel
theorem dX10_markAt_3 : decode cX10_markAt 3 = .ok (.aload_n 0, 1) := by decide +kernel
theorem dX10_markAt_4 : decode cX10_markAt 4 = .ok (.getfield 441, 3) := by decide +kernel
theorem dX10_markAt_7 : decode cX10_markAt 7 = .ok (.iconst 1, 1) := by decide +kernel
theorem dX10_markAt_8 : decode cX10_markAt 8 = .ok (.isub, 1) := by decide +kernel
theorem dX10_markAt_9 : decode cX10_markAt 9 = .ok (.i2l, 1) := by decide +kernel
theorem dX10_markAt_10 : decode cX10_markAt 10 = .ok (.invokestatic 175, 3) := by decide +kernel
theorem dX10_markAt_13 : decode cX10_markAt 13 = .ok (.ifCond .eq 12, 3) := by decide +kernel
theorem dX10_markAt_25 : decode cX10_markAt 25 = .ok (.bipush (-12), 2) := by decide +kernel
theorem dX10_markAt_27 : decode cX10_markAt 27 = .ok (.ireturn, 1) := by decide +kernel
theorem dX10_markAt_16 : decode cX10_markAt 16 = .ok (.aload_n 0, 1) := by decide +kernel
theorem dX10_markAt_17 : decode cX10_markAt 17 = .ok (.getfield 166, 3) := by decide +kernel
theorem dX10_markAt_20 : decode cX10_markAt 20 = .ok (.iload_n 1, 1) := by decide +kernel
theorem dX10_markAt_21 : decode cX10_markAt 21 = .ok (.iaload, 1) := by decide +kernel
theorem dX10_markAt_22 : decode cX10_markAt 22 = .ok (.goto 5, 3) := by decide +kernel
theorem dX10_mended_0 : decode cX10_mended 0 = .ok (.iload_n 1, 1) := by decide +kernel
theorem dX10_mended_1 : decode cX10_mended 1 = .ok (.i2l, 1) := by decide +kernel
theorem dX10_mended_2 : decode cX10_mended 2 = .ok (.lconst 0, 1) := by decide +kernel
theorem dX10_mended_3 : decode cX10_mended 3 = .ok (.lconst 1, 1) := by decide +kernel
theorem dX10_mended_4 : decode cX10_mended 4 = .ok (.invokestatic 175, 3) := by decide +kernel
theorem dX10_mended_7 : decode cX10_mended 7 = .ok (.ifCond .eq 12, 3) := by decide +kernel
theorem dX10_mended_19 : decode cX10_mended 19 = .ok (.bipush (-2), 2) := by decide +kernel
theorem dX10_mended_21 : decode cX10_mended 21 = .ok (.ireturn, 1) := by decide +kernel
theorem dX10_mended_10 : decode cX10_mended 10 = .ok (.aload_n 0, 1) := by decide +kernel
theorem dX10_mended_11 : decode cX10_mended 11 = .ok (.getfield 163, 3) := by decide +kernel
theorem dX10_mended_14 : decode cX10_mended 14 = .ok (.iload_n 1, 1) := by decide +kernel
theorem dX10_mended_15 : decode cX10_mended 15 = .ok (.iaload, 1) := by decide +kernel
theorem dX10_mended_16 : decode cX10_mended 16 = .ok (.goto 5, 3) := by decide +kernel
theorem dX10_written_0 : decode cX10_written 0 = .ok (.iload_n 1, 1) := by decide +kernel
theorem dX10_written_1 : decode cX10_written 1 = .ok (.i2l, 1) := by decide +kernel
theorem dX10_written_2 : decode cX10_written 2 = .ok (.lconst 0, 1) := by decide +kernel
theorem dX10_written_3 : decode cX10_written 3 = .ok (.aload_n 0, 1) := by decide +kernel
theorem dX10_written_4 : decode cX10_written 4 = .ok (.getfield 378, 3) := by decide +kernel
theorem dX10_written_7 : decode cX10_written 7 = .ok (.iconst 1, 1) := by decide +kernel
theorem dX10_written_8 : decode cX10_written 8 = .ok (.isub, 1) := by decide +kernel
theorem dX10_written_9 : decode cX10_written 9 = .ok (.i2l, 1) := by decide +kernel
theorem dX10_written_10 : decode cX10_written 10 = .ok (.invokestatic 175, 3) := by decide +kernel
theorem dX10_written_13 : decode cX10_written 13 = .ok (.ifCond .eq 16, 3) := by decide +kernel
theorem dX10_written_29 : decode cX10_written 29 = .ok (.bipush (-9), 2) := by decide +kernel
theorem dX10_written_31 : decode cX10_written 31 = .ok (.ireturn, 1) := by decide +kernel
theorem dX10_written_16 : decode cX10_written 16 = .ok (.aload_n 0, 1) := by decide +kernel
theorem dX10_written_17 : decode cX10_written 17 = .ok (.getfield 121, 3) := by decide +kernel
theorem dX10_written_20 : decode cX10_written 20 = .ok (.iload_n 1, 1) := by decide +kernel
theorem dX10_written_21 : decode cX10_written 21 = .ok (.baload, 1) := by decide +kernel
theorem dX10_written_22 : decode cX10_written 22 = .ok (.sipush 255, 3) := by decide +kernel
theorem dX10_written_25 : decode cX10_written 25 = .ok (.iand, 1) := by decide +kernel
theorem dX10_written_26 : decode cX10_written 26 = .ok (.goto 5, 3) := by decide +kernel
theorem dX10_fault_0 : decode cX10_fault 0 = .ok (.iload_n 1, 1) := by decide +kernel
theorem dX10_fault_1 : decode cX10_fault 1 = .ok (.i2l, 1) := by decide +kernel
theorem dX10_fault_2 : decode cX10_fault 2 = .ok (.lconst 0, 1) := by decide +kernel
theorem dX10_fault_3 : decode cX10_fault 3 = .ok (.ldc2_w 206, 3) := by decide +kernel
theorem dX10_fault_6 : decode cX10_fault 6 = .ok (.invokestatic 175, 3) := by decide +kernel
theorem dX10_fault_9 : decode cX10_fault 9 = .ok (.ifCond .eq 12, 3) := by decide +kernel
theorem dX10_fault_21 : decode cX10_fault 21 = .ok (.bipush (-2), 2) := by decide +kernel
theorem dX10_fault_23 : decode cX10_fault 23 = .ok (.ireturn, 1) := by decide +kernel
theorem dX10_fault_12 : decode cX10_fault 12 = .ok (.aload_n 0, 1) := by decide +kernel
theorem dX10_fault_13 : decode cX10_fault 13 = .ok (.getfield 36, 3) := by decide +kernel
theorem dX10_fault_16 : decode cX10_fault 16 = .ok (.iload_n 1, 1) := by decide +kernel
theorem dX10_fault_17 : decode cX10_fault 17 = .ok (.iaload, 1) := by decide +kernel
theorem dX10_fault_18 : decode cX10_fault 18 = .ok (.goto 5, 3) := by decide +kernel
theorem dX10_count_0 : decode cX10_count 0 = .ok (.iload_n 1, 1) := by decide +kernel
theorem dX10_count_1 : decode cX10_count 1 = .ok (.iconst 3, 1) := by decide +kernel
theorem dX10_count_2 : decode cX10_count 2 = .ok (.if_icmp .eq 8, 3) := by decide +kernel
theorem dX10_count_10 : decode cX10_count 10 = .ok (.iload_n 1, 1) := by decide +kernel
theorem dX10_count_11 : decode cX10_count 11 = .ok (.iconst 3, 1) := by decide +kernel
theorem dX10_count_12 : decode cX10_count 12 = .ok (.if_icmp .ne 10, 3) := by decide +kernel
theorem dX10_count_22 : decode cX10_count 22 = .ok (.aload_n 0, 1) := by decide +kernel
theorem dX10_count_23 : decode cX10_count 23 = .ok (.getfield 219, 3) := by decide +kernel
theorem dX10_count_26 : decode cX10_count 26 = .ok (.ireturn, 1) := by decide +kernel
theorem dX10_count_15 : decode cX10_count 15 = .ok (.aload_n 0, 1) := by decide +kernel
theorem dX10_count_16 : decode cX10_count 16 = .ok (.invokevirtual 226, 3) := by decide +kernel
theorem dX10_count_19 : decode cX10_count 19 = .ok (.goto 7, 3) := by decide +kernel
theorem dX10_count_5 : decode cX10_count 5 = .ok (.iload_n 1, 1) := by decide +kernel
theorem dX10_count_6 : decode cX10_count 6 = .ok (.iconst 4, 1) := by decide +kernel
theorem dX10_count_7 : decode cX10_count 7 = .ok (.if_icmp .ne 20, 3) := by decide +kernel
theorem dX10_count_27 : decode cX10_count 27 = .ok (.iload_n 1, 1) := by decide +kernel
theorem dX10_count_28 : decode cX10_count 28 = .ok (.i2l, 1) := by decide +kernel
theorem dX10_count_29 : decode cX10_count 29 = .ok (.lconst 0, 1) := by decide +kernel
theorem dX10_count_30 : decode cX10_count 30 = .ok (.ldc2_w 350, 3) := by decide +kernel
theorem dX10_count_33 : decode cX10_count 33 = .ok (.invokestatic 175, 3) := by decide +kernel
theorem dX10_count_36 : decode cX10_count 36 = .ok (.ifCond .ne 6, 3) := by decide +kernel
theorem dX10_count_42 : decode cX10_count 42 = .ok (.aload_n 0, 1) := by decide +kernel
theorem dX10_count_43 : decode cX10_count 43 = .ok (.getfield 211, 3) := by decide +kernel
theorem dX10_count_46 : decode cX10_count 46 = .ok (.iconst 1, 1) := by decide +kernel
theorem dX10_count_47 : decode cX10_count 47 = .ok (.if_icmp .eq 8, 3) := by decide +kernel
theorem dX10_count_55 : decode cX10_count 55 = .ok (.iload_n 1, 1) := by decide +kernel
theorem dX10_count_56 : decode cX10_count 56 = .ok (.ifCond .ne 10, 3) := by decide +kernel
theorem dX10_count_66 : decode cX10_count 66 = .ok (.iload_n 1, 1) := by decide +kernel
theorem dX10_count_67 : decode cX10_count 67 = .ok (.iconst 1, 1) := by decide +kernel
theorem dX10_count_68 : decode cX10_count 68 = .ok (.if_icmp .ne 10, 3) := by decide +kernel
theorem dX10_count_78 : decode cX10_count 78 = .ok (.aload_n 0, 1) := by decide +kernel
theorem dX10_count_79 : decode cX10_count 79 = .ok (.getfield 287, 3) := by decide +kernel
theorem dX10_count_82 : decode cX10_count 82 = .ok (.ireturn, 1) := by decide +kernel
theorem dX10_count_71 : decode cX10_count 71 = .ok (.aload_n 0, 1) := by decide +kernel
theorem dX10_count_72 : decode cX10_count 72 = .ok (.getfield 281, 3) := by decide +kernel
theorem dX10_count_75 : decode cX10_count 75 = .ok (.goto 7, 3) := by decide +kernel
theorem dX10_count_59 : decode cX10_count 59 = .ok (.aload_n 0, 1) := by decide +kernel
theorem dX10_count_60 : decode cX10_count 60 = .ok (.getfield 258, 3) := by decide +kernel
theorem dX10_count_63 : decode cX10_count 63 = .ok (.goto 19, 3) := by decide +kernel
theorem dX10_count_50 : decode cX10_count 50 = .ok (.bipush (-3), 2) := by decide +kernel
theorem dX10_count_52 : decode cX10_count 52 = .ok (.goto 30, 3) := by decide +kernel
theorem dX10_count_39 : decode cX10_count 39 = .ok (.bipush (-2), 2) := by decide +kernel
theorem dX10_count_41 : decode cX10_count 41 = .ok (.ireturn, 1) := by decide +kernel
theorem dX10_reach_138 : decode cX10_reach 138 = .ok (.iload_n 3, 1) := by decide +kernel
theorem dX10_reach_139 : decode cX10_reach 139 = .ok (.iconst 2, 1) := by decide +kernel
theorem dX10_reach_140 : decode cX10_reach 140 = .ok (.irem, 1) := by decide +kernel
theorem dX10_reach_141 : decode cX10_reach 141 = .ok (.ifCond .ne 13, 3) := by decide +kernel
theorem dX10_reach_154 : decode cX10_reach 154 = .ok (.aload_n 0, 1) := by decide +kernel
theorem dX10_reach_155 : decode cX10_reach 155 = .ok (.getfield 70, 3) := by decide +kernel
theorem dX10_reach_158 : decode cX10_reach 158 = .ok (.iload 5, 2) := by decide +kernel
theorem dX10_reach_160 : decode cX10_reach 160 = .ok (.iaload, 1) := by decide +kernel
theorem dX10_reach_161 : decode cX10_reach 161 = .ok (.ireturn, 1) := by decide +kernel
theorem dX10_reach_144 : decode cX10_reach 144 = .ok (.aload_n 0, 1) := by decide +kernel
theorem dX10_reach_145 : decode cX10_reach 145 = .ok (.getfield 67, 3) := by decide +kernel
theorem dX10_reach_148 : decode cX10_reach 148 = .ok (.iload 5, 2) := by decide +kernel
theorem dX10_reach_150 : decode cX10_reach 150 = .ok (.iaload, 1) := by decide +kernel
theorem dX10_reach_151 : decode cX10_reach 151 = .ok (.goto 10, 3) := by decide +kernel
theorem dX10_reach_94 : decode cX10_reach 94 = .ok (.iload 4, 2) := by decide +kernel
theorem dX10_reach_96 : decode cX10_reach 96 = .ok (.bipush (-9), 2) := by decide +kernel
theorem dX10_reach_98 : decode cX10_reach 98 = .ok (.if_icmp .ne 6, 3) := by decide +kernel
theorem dX10_reach_104 : decode cX10_reach 104 = .ok (.iload_n 3, 1) := by decide +kernel
theorem dX10_reach_105 : decode cX10_reach 105 = .ok (.iconst 2, 1) := by decide +kernel
theorem dX10_reach_106 : decode cX10_reach 106 = .ok (.if_icmp .ge 13, 3) := by decide +kernel
theorem dX10_reach_119 : decode cX10_reach 119 = .ok (.aload_n 0, 1) := by decide +kernel
theorem dX10_reach_120 : decode cX10_reach 120 = .ok (.getfield 45, 3) := by decide +kernel
theorem dX10_reach_123 : decode cX10_reach 123 = .ok (.iload 4, 2) := by decide +kernel
theorem dX10_reach_125 : decode cX10_reach 125 = .ok (.iaload, 1) := by decide +kernel
theorem dX10_reach_126 : decode cX10_reach 126 = .ok (.aload_n 0, 1) := by decide +kernel
theorem dX10_reach_127 : decode cX10_reach 127 = .ok (.getfield 48, 3) := by decide +kernel
theorem dX10_reach_130 : decode cX10_reach 130 = .ok (.iload 4, 2) := by decide +kernel
theorem dX10_reach_132 : decode cX10_reach 132 = .ok (.iaload, 1) := by decide +kernel
theorem dX10_reach_133 : decode cX10_reach 133 = .ok (.iadd, 1) := by decide +kernel
theorem dX10_reach_134 : decode cX10_reach 134 = .ok (.iconst 1, 1) := by decide +kernel
theorem dX10_reach_135 : decode cX10_reach 135 = .ok (.isub, 1) := by decide +kernel
theorem dX10_reach_136 : decode cX10_reach 136 = .ok (.istore 5, 2) := by decide +kernel
theorem dX10_reach_109 : decode cX10_reach 109 = .ok (.aload_n 0, 1) := by decide +kernel
theorem dX10_reach_110 : decode cX10_reach 110 = .ok (.getfield 45, 3) := by decide +kernel
theorem dX10_reach_113 : decode cX10_reach 113 = .ok (.iload 4, 2) := by decide +kernel
theorem dX10_reach_115 : decode cX10_reach 115 = .ok (.iaload, 1) := by decide +kernel
theorem dX10_reach_116 : decode cX10_reach 116 = .ok (.goto 20, 3) := by decide +kernel
theorem dX10_reach_101 : decode cX10_reach 101 = .ok (.bipush (-9), 2) := by decide +kernel
theorem dX10_reach_103 : decode cX10_reach 103 = .ok (.ireturn, 1) := by decide +kernel
theorem dX10_reach_0 : decode cX10_reach 0 = .ok (.aload_n 0, 1) := by decide +kernel
theorem dX10_reach_1 : decode cX10_reach 1 = .ok (.getfield 211, 3) := by decide +kernel
theorem dX10_reach_4 : decode cX10_reach 4 = .ok (.iconst 1, 1) := by decide +kernel
theorem dX10_reach_5 : decode cX10_reach 5 = .ok (.if_icmp .eq 6, 3) := by decide +kernel
theorem dX10_reach_11 : decode cX10_reach 11 = .ok (.iload_n 2, 1) := by decide +kernel
theorem dX10_reach_12 : decode cX10_reach 12 = .ok (.i2l, 1) := by decide +kernel
theorem dX10_reach_13 : decode cX10_reach 13 = .ok (.lconst 0, 1) := by decide +kernel
theorem dX10_reach_14 : decode cX10_reach 14 = .ok (.iload_n 1, 1) := by decide +kernel
theorem dX10_reach_15 : decode cX10_reach 15 = .ok (.ifCond .eq 10, 3) := by decide +kernel
theorem dX10_reach_25 : decode cX10_reach 25 = .ok (.aload_n 0, 1) := by decide +kernel
theorem dX10_reach_26 : decode cX10_reach 26 = .ok (.getfield 287, 3) := by decide +kernel
theorem dX10_reach_29 : decode cX10_reach 29 = .ok (.iconst 1, 1) := by decide +kernel
theorem dX10_reach_30 : decode cX10_reach 30 = .ok (.isub, 1) := by decide +kernel
theorem dX10_reach_31 : decode cX10_reach 31 = .ok (.i2l, 1) := by decide +kernel
theorem dX10_reach_32 : decode cX10_reach 32 = .ok (.invokestatic 175, 3) := by decide +kernel
theorem dX10_reach_35 : decode cX10_reach 35 = .ok (.ifCond .ne 5, 3) := by decide +kernel
theorem dX10_reach_40 : decode cX10_reach 40 = .ok (.iload_n 3, 1) := by decide +kernel
theorem dX10_reach_41 : decode cX10_reach 41 = .ok (.i2l, 1) := by decide +kernel
theorem dX10_reach_42 : decode cX10_reach 42 = .ok (.lconst 0, 1) := by decide +kernel
theorem dX10_reach_43 : decode cX10_reach 43 = .ok (.ldc2_w 206, 3) := by decide +kernel
theorem dX10_reach_46 : decode cX10_reach 46 = .ok (.invokestatic 175, 3) := by decide +kernel
theorem dX10_reach_49 : decode cX10_reach 49 = .ok (.ifCond .ne 6, 3) := by decide +kernel
theorem dX10_reach_55 : decode cX10_reach 55 = .ok (.iload_n 1, 1) := by decide +kernel
theorem dX10_reach_56 : decode cX10_reach 56 = .ok (.ifCond .eq 21, 3) := by decide +kernel
theorem dX10_reach_77 : decode cX10_reach 77 = .ok (.aload_n 0, 1) := by decide +kernel
theorem dX10_reach_78 : decode cX10_reach 78 = .ok (.iload_n 2, 1) := by decide +kernel
theorem dX10_reach_79 : decode cX10_reach 79 = .ok (.iload_n 3, 1) := by decide +kernel
theorem dX10_reach_80 : decode cX10_reach 80 = .ok (.iconst 1, 1) := by decide +kernel
theorem dX10_reach_81 : decode cX10_reach 81 = .ok (.if_icmp .le 7, 3) := by decide +kernel
theorem dX10_reach_88 : decode cX10_reach 88 = .ok (.iconst 0, 1) := by decide +kernel
theorem dX10_reach_89 : decode cX10_reach 89 = .ok (.invokevirtual 364, 3) := by decide +kernel
theorem dX10_reach_92 : decode cX10_reach 92 = .ok (.istore 4, 2) := by decide +kernel
theorem dX10_reach_84 : decode cX10_reach 84 = .ok (.iconst 1, 1) := by decide +kernel
theorem dX10_reach_85 : decode cX10_reach 85 = .ok (.goto 4, 3) := by decide +kernel
theorem dX10_reach_59 : decode cX10_reach 59 = .ok (.aload_n 0, 1) := by decide +kernel
theorem dX10_reach_60 : decode cX10_reach 60 = .ok (.iload_n 2, 1) := by decide +kernel
theorem dX10_reach_61 : decode cX10_reach 61 = .ok (.iload_n 3, 1) := by decide +kernel
theorem dX10_reach_62 : decode cX10_reach 62 = .ok (.iconst 1, 1) := by decide +kernel
theorem dX10_reach_63 : decode cX10_reach 63 = .ok (.if_icmp .le 7, 3) := by decide +kernel
theorem dX10_reach_70 : decode cX10_reach 70 = .ok (.iconst 0, 1) := by decide +kernel
theorem dX10_reach_71 : decode cX10_reach 71 = .ok (.invokevirtual 358, 3) := by decide +kernel
theorem dX10_reach_74 : decode cX10_reach 74 = .ok (.goto 18, 3) := by decide +kernel
theorem dX10_reach_66 : decode cX10_reach 66 = .ok (.iconst 1, 1) := by decide +kernel
theorem dX10_reach_67 : decode cX10_reach 67 = .ok (.goto 4, 3) := by decide +kernel
theorem dX10_reach_52 : decode cX10_reach 52 = .ok (.bipush (-2), 2) := by decide +kernel
theorem dX10_reach_54 : decode cX10_reach 54 = .ok (.ireturn, 1) := by decide +kernel
theorem dX10_reach_38 : decode cX10_reach 38 = .ok (.iconst (-1), 1) := by decide +kernel
theorem dX10_reach_39 : decode cX10_reach 39 = .ok (.ireturn, 1) := by decide +kernel
theorem dX10_reach_18 : decode cX10_reach 18 = .ok (.aload_n 0, 1) := by decide +kernel
theorem dX10_reach_19 : decode cX10_reach 19 = .ok (.getfield 281, 3) := by decide +kernel
theorem dX10_reach_22 : decode cX10_reach 22 = .ok (.goto 7, 3) := by decide +kernel
theorem dX10_reach_8 : decode cX10_reach 8 = .ok (.bipush (-3), 2) := by decide +kernel
theorem dX10_reach_10 : decode cX10_reach 10 = .ok (.ireturn, 1) := by decide +kernel
set_option maxHeartbeats 4000000 in
set_option maxRecDepth 100000 in
theorem m_token (l : Launch) (D : va_G) (tA : Nat → ClassId) (b : Nat) (i F : Nat → Nat → Int32) (G : Nat → Nat → Int64) (x y : Int32) (hI : IMm i F) : xMI l yX10_token cX10_token 3 (some .int) 1 25 D tA b 78 52 i F G [.ref (b + 78), .int x, .int y] (fun r u => u = (i, F, G) ∧ True) := by
  refine xstart RX10 rfl (by decide) (Nat.le_of_ble_eq_true rfl) ?_
  intro p e s m below meth c ls C0 hr hH hS hl
  have hl : lv_has ls 3 [(0, .ref (b + 78)), (1, .int x), (2, .int y)] := hl
  have rg_x := fb_rng x
  have rg_y := fb_rng y
  have hI0 := hI
  obtain ⟨hsz, hbt, hks, hsrc, hTK, hCB, hWA, hwr, hmk, hG, hKA, hKI⟩ := hI0
  have hTKl := hTK.1

  refine lv_aload_n (pc := 0) C0.1 C0.2.1 dX10_token_0 rfl (lv_at hl 0 rfl) ?_
  refine xget (pc := 1) C0 hH 78 15 clX10 ⟨Nat.le_of_ble_eq_true rfl, Nat.le_of_ble_eq_true rfl⟩ ⟨rfl, rfl⟩ (Nat.le_of_ble_eq_true rfl) fl_X10_211 (v := .int (i 78 15)) rfl dX10_token_1 ?_
  refine lv_iconst (pc := 4) (v := 1) C0.1 C0.2.1 dX10_token_4 (by decide) ?_
  refine lv_icmp_eq (pc := 5) (tgt := 11) C0.1 C0.2.1 dX10_token_5 (by decide) (fun c1 => ?_) (fun c1 => ?_)
  · have : Int32.toInt 1 = 1 := rfl
    have c1 := congrArg Int32.toInt c1
    have hGT := hG (by have : Int32.toInt 1 = 1 := rfl; omega)
    have hGl := GTm.lin hGT
    have hz := hGT.2.1
    refine lv_iload_n (pc := 11) C0.1 C0.2.1 dX10_token_11 rfl (lv_at hl 1 rfl) ?_
    refine lv_i2l (pc := 12) (v := x.toInt64) C0.1 C0.2.1 dX10_token_12 rfl ?_
    refine lv_lconst (pc := 13) (v := 0) C0.1 C0.2.1 dX10_token_13 (by decide) ?_
    refine lv_aload_n (pc := 14) C0.1 C0.2.1 dX10_token_14 rfl (lv_at hl 0 rfl) ?_
    refine xget (pc := 15) C0 hH 78 19 clX10 ⟨Nat.le_of_ble_eq_true rfl, Nat.le_of_ble_eq_true rfl⟩ ⟨rfl, rfl⟩ (Nat.le_of_ble_eq_true rfl) fl_X10_258 (v := .int (i 78 19)) rfl dX10_token_15 ?_
    refine lv_iconst (pc := 18) (v := 1) C0.1 C0.2.1 dX10_token_18 (by decide) ?_
    have : Int32.toInt 1 = 1 := rfl
    refine lv_isub (pc := 19) C0.1 C0.2.1 dX10_token_19 ?_
    refine lv_topi (fun x2 ex2 => ?_)
    have hx2 : Int32.toInt x2 = Int32.toInt (i 78 19) - Int32.toInt 1 := by rw [ex2]; exact fb_subI (by omega) (by omega)
    refine lv_i2l (pc := 20) (v := x2.toInt64) C0.1 C0.2.1 dX10_token_20 rfl ?_
    refine xcSI (pc := 21) [.long x.toInt64, .long 0, .long x2.toInt64] (c_X10_in l D tA b 78 52 i F G x.toInt64 0 x2.toInt64) C0 hH hS cw_X10_175 rfl ⟨Nat.le_of_ble_eq_true rfl, Nat.le_of_ble_eq_true rfl⟩ hl.1 rfl (Nat.le_of_ble_eq_true rfl) dX10_token_21 ⟨Nat.le_of_ble_eq_true rfl, Nat.le_of_ble_eq_true rfl⟩ (fun r3 ir3 Fr3 Gr3 _ locs hp hH hS => ?_)
    obtain ⟨hu, rfl⟩ := hp
    cases hu
    refine lv_if_ne (pc := 24) (tgt := 29) C0.1 C0.2.1 dX10_token_24 (by decide) (fun c4 => ?_) (fun c4 => ?_)
    · have : Int64.toInt 0 = 0 := rfl
      have : Int64.toInt (x2.toInt64) = Int32.toInt x2 := Int32.toInt_toInt64 _
      have c4 := in_1i c4
      refine lv_iload_n (pc := 29) C0.1 C0.2.1 dX10_token_29 rfl (lv_at hl 2 rfl) ?_
      by_cases t5 : (y : Int32).toInt = 0
      · refine lv_tableIn (pc := 30) (off := 46) (tgt := 76) C0.1 C0.2.1 dX10_token_30 (by omega) (by omega) (by rw [t5]; rfl) (by decide) ?_
        refine lv_aload_n (pc := 76) C0.1 C0.2.1 dX10_token_76 rfl (lv_at hl 0 rfl) ?_
        refine xget (pc := 77) C0 hH 78 20 clX10 ⟨Nat.le_of_ble_eq_true rfl, Nat.le_of_ble_eq_true rfl⟩ ⟨rfl, rfl⟩ (Nat.le_of_ble_eq_true rfl) fl_X10_42 (v := .ref (b + 88)) rfl dX10_token_77 ?_
        refine lv_iload_n (pc := 80) C0.1 C0.2.1 dX10_token_80 rfl (lv_at hl 1 rfl) ?_
        refine xiald (pc := 81) (N := 600) C0 hH 88 ⟨Nat.le_of_ble_eq_true rfl, Nat.le_of_ble_eq_true rfl⟩ ⟨rfl, rfl⟩ (vI (by omega) (by omega)) dX10_token_81 ?_
        exact xiret (pc := 82) C0 hr hH hS dX10_token_82 ⟨rfl, trivial⟩
      by_cases t6 : (y : Int32).toInt = 1
      · refine lv_tableIn (pc := 30) (off := 53) (tgt := 83) C0.1 C0.2.1 dX10_token_30 (by omega) (by omega) (by rw [t6]; rfl) (by decide) ?_
        refine lv_aload_n (pc := 83) C0.1 C0.2.1 dX10_token_83 rfl (lv_at hl 0 rfl) ?_
        refine xget (pc := 84) C0 hH 78 21 clX10 ⟨Nat.le_of_ble_eq_true rfl, Nat.le_of_ble_eq_true rfl⟩ ⟨rfl, rfl⟩ (Nat.le_of_ble_eq_true rfl) fl_X10_45 (v := .ref (b + 89)) rfl dX10_token_84 ?_
        refine lv_iload_n (pc := 87) C0.1 C0.2.1 dX10_token_87 rfl (lv_at hl 1 rfl) ?_
        refine xiald (pc := 88) (N := 600) C0 hH 89 ⟨Nat.le_of_ble_eq_true rfl, Nat.le_of_ble_eq_true rfl⟩ ⟨rfl, rfl⟩ (vI (by omega) (by omega)) dX10_token_88 ?_
        exact xiret (pc := 89) C0 hr hH hS dX10_token_89 ⟨rfl, trivial⟩
      by_cases t7 : (y : Int32).toInt = 2
      · refine lv_tableIn (pc := 30) (off := 60) (tgt := 90) C0.1 C0.2.1 dX10_token_30 (by omega) (by omega) (by rw [t7]; rfl) (by decide) ?_
        refine lv_aload_n (pc := 90) C0.1 C0.2.1 dX10_token_90 rfl (lv_at hl 0 rfl) ?_
        refine xget (pc := 91) C0 hH 78 22 clX10 ⟨Nat.le_of_ble_eq_true rfl, Nat.le_of_ble_eq_true rfl⟩ ⟨rfl, rfl⟩ (Nat.le_of_ble_eq_true rfl) fl_X10_48 (v := .ref (b + 90)) rfl dX10_token_91 ?_
        refine lv_iload_n (pc := 94) C0.1 C0.2.1 dX10_token_94 rfl (lv_at hl 1 rfl) ?_
        refine xiald (pc := 95) (N := 600) C0 hH 90 ⟨Nat.le_of_ble_eq_true rfl, Nat.le_of_ble_eq_true rfl⟩ ⟨rfl, rfl⟩ (vI (by omega) (by omega)) dX10_token_95 ?_
        exact xiret (pc := 96) C0 hr hH hS dX10_token_96 ⟨rfl, trivial⟩
      by_cases t8 : (y : Int32).toInt = 3
      · refine lv_tableIn (pc := 30) (off := 67) (tgt := 97) C0.1 C0.2.1 dX10_token_30 (by omega) (by omega) (by rw [t8]; rfl) (by decide) ?_
        refine lv_aload_n (pc := 97) C0.1 C0.2.1 dX10_token_97 rfl (lv_at hl 0 rfl) ?_
        refine xget (pc := 98) C0 hH 78 23 clX10 ⟨Nat.le_of_ble_eq_true rfl, Nat.le_of_ble_eq_true rfl⟩ ⟨rfl, rfl⟩ (Nat.le_of_ble_eq_true rfl) fl_X10_51 (v := .ref (b + 91)) rfl dX10_token_98 ?_
        refine lv_iload_n (pc := 101) C0.1 C0.2.1 dX10_token_101 rfl (lv_at hl 1 rfl) ?_
        refine xiald (pc := 102) (N := 600) C0 hH 91 ⟨Nat.le_of_ble_eq_true rfl, Nat.le_of_ble_eq_true rfl⟩ ⟨rfl, rfl⟩ (vI (by omega) (by omega)) dX10_token_102 ?_
        exact xiret (pc := 103) C0 hr hH hS dX10_token_103 ⟨rfl, trivial⟩
      by_cases t9 : (y : Int32).toInt = 4
      · refine lv_tableIn (pc := 30) (off := 74) (tgt := 104) C0.1 C0.2.1 dX10_token_30 (by omega) (by omega) (by rw [t9]; rfl) (by decide) ?_
        refine lv_aload_n (pc := 104) C0.1 C0.2.1 dX10_token_104 rfl (lv_at hl 0 rfl) ?_
        refine xget (pc := 105) C0 hH 78 24 clX10 ⟨Nat.le_of_ble_eq_true rfl, Nat.le_of_ble_eq_true rfl⟩ ⟨rfl, rfl⟩ (Nat.le_of_ble_eq_true rfl) fl_X10_54 (v := .ref (b + 92)) rfl dX10_token_105 ?_
        refine lv_iload_n (pc := 108) C0.1 C0.2.1 dX10_token_108 rfl (lv_at hl 1 rfl) ?_
        refine xiald (pc := 109) (N := 600) C0 hH 92 ⟨Nat.le_of_ble_eq_true rfl, Nat.le_of_ble_eq_true rfl⟩ ⟨rfl, rfl⟩ (vI (by omega) (by omega)) dX10_token_109 ?_
        exact xiret (pc := 110) C0 hr hH hS dX10_token_110 ⟨rfl, trivial⟩
      by_cases t10 : (y : Int32).toInt = 5
      · refine lv_tableIn (pc := 30) (off := 81) (tgt := 111) C0.1 C0.2.1 dX10_token_30 (by omega) (by omega) (by rw [t10]; rfl) (by decide) ?_
        refine lv_aload_n (pc := 111) C0.1 C0.2.1 dX10_token_111 rfl (lv_at hl 0 rfl) ?_
        refine xget (pc := 112) C0 hH 78 25 clX10 ⟨Nat.le_of_ble_eq_true rfl, Nat.le_of_ble_eq_true rfl⟩ ⟨rfl, rfl⟩ (Nat.le_of_ble_eq_true rfl) fl_X10_57 (v := .ref (b + 93)) rfl dX10_token_112 ?_
        refine lv_iload_n (pc := 115) C0.1 C0.2.1 dX10_token_115 rfl (lv_at hl 1 rfl) ?_
        refine xzald (pc := 116) (N := 600) C0 hH 93 ⟨Nat.le_of_ble_eq_true rfl, Nat.le_of_ble_eq_true rfl⟩ ⟨rfl, rfl⟩ (vI (by omega) (by omega)) dX10_token_116 ?_
        refine lv_if_eq (pc := 117) (tgt := 124) C0.1 C0.2.1 dX10_token_117 (by decide) (fun c11 => ?_) (fun c11 => ?_)
        · have : Int32.toInt 0 = 0 := rfl
          have c11 := congrArg Int32.toInt c11
          refine lv_iconst (pc := 124) (v := 0) C0.1 C0.2.1 dX10_token_124 (by decide) ?_
          exact xiret (pc := 125) C0 hr hH hS dX10_token_125 ⟨rfl, trivial⟩
        · have : Int32.toInt 0 = 0 := rfl
          have c11 : ¬ _ := fun q => c11 (Int32.toInt_inj.mp q)
          refine lv_iconst (pc := 120) (v := 1) C0.1 C0.2.1 dX10_token_120 (by decide) ?_
          refine lv_goto (pc := 121) (tgt := 125) C0.1 C0.2.1 dX10_token_121 (by decide) ?_
          exact xiret (pc := 125) C0 hr hH hS dX10_token_125 ⟨rfl, trivial⟩
      by_cases t12 : (y : Int32).toInt = 6
      · refine lv_tableIn (pc := 30) (off := 96) (tgt := 126) C0.1 C0.2.1 dX10_token_30 (by omega) (by omega) (by rw [t12]; rfl) (by decide) ?_
        refine lv_aload_n (pc := 126) C0.1 C0.2.1 dX10_token_126 rfl (lv_at hl 0 rfl) ?_
        refine xget (pc := 127) C0 hH 78 27 clX10 ⟨Nat.le_of_ble_eq_true rfl, Nat.le_of_ble_eq_true rfl⟩ ⟨rfl, rfl⟩ (Nat.le_of_ble_eq_true rfl) fl_X10_64 (v := .ref (b + 95)) rfl dX10_token_127 ?_
        refine lv_iload_n (pc := 130) C0.1 C0.2.1 dX10_token_130 rfl (lv_at hl 1 rfl) ?_
        refine xiald (pc := 131) (N := 600) C0 hH 95 ⟨Nat.le_of_ble_eq_true rfl, Nat.le_of_ble_eq_true rfl⟩ ⟨rfl, rfl⟩ (vI (by omega) (by omega)) dX10_token_131 ?_
        exact xiret (pc := 132) C0 hr hH hS dX10_token_132 ⟨rfl, trivial⟩
      by_cases t13 : (y : Int32).toInt = 7
      · refine lv_tableIn (pc := 30) (off := 103) (tgt := 133) C0.1 C0.2.1 dX10_token_30 (by omega) (by omega) (by rw [t13]; rfl) (by decide) ?_
        refine lv_aload_n (pc := 133) C0.1 C0.2.1 dX10_token_133 rfl (lv_at hl 0 rfl) ?_
        refine xget (pc := 134) C0 hH 78 41 clX10 ⟨Nat.le_of_ble_eq_true rfl, Nat.le_of_ble_eq_true rfl⟩ ⟨rfl, rfl⟩ (Nat.le_of_ble_eq_true rfl) fl_X10_94 (v := .ref (b + 105)) rfl dX10_token_134 ?_
        refine lv_aload_n (pc := 137) C0.1 C0.2.1 dX10_token_137 rfl (lv_at hl 0 rfl) ?_
        refine xget (pc := 138) C0 hH 78 27 clX10 ⟨Nat.le_of_ble_eq_true rfl, Nat.le_of_ble_eq_true rfl⟩ ⟨rfl, rfl⟩ (Nat.le_of_ble_eq_true rfl) fl_X10_64 (v := .ref (b + 95)) rfl dX10_token_138 ?_
        refine lv_iload_n (pc := 141) C0.1 C0.2.1 dX10_token_141 rfl (lv_at hl 1 rfl) ?_
        refine xiald (pc := 142) (N := 600) C0 hH 95 ⟨Nat.le_of_ble_eq_true rfl, Nat.le_of_ble_eq_true rfl⟩ ⟨rfl, rfl⟩ (vI (by omega) (by omega)) dX10_token_142 ?_
        refine xiald (pc := 143) (N := 1202) C0 hH 105 ⟨Nat.le_of_ble_eq_true rfl, Nat.le_of_ble_eq_true rfl⟩ ⟨rfl, rfl⟩ (vI (hWA.io _).1 (hWA.io _).2) dX10_token_143 ?_
        exact xiret (pc := 144) C0 hr hH hS dX10_token_144 ⟨rfl, trivial⟩
      refine lv_tableOut (pc := 30) (tgt := 145) C0.1 C0.2.1 dX10_token_30 (by omega) (by decide) ?_
      refine lv_bipush (pc := 145) (v := (-2)) C0.1 C0.2.1 dX10_token_145 (by decide) ?_
      exact xiret (pc := 147) C0 hr hH hS dX10_token_147 ⟨rfl, trivial⟩
    · have : Int64.toInt 0 = 0 := rfl
      have : Int64.toInt (x2.toInt64) = Int32.toInt x2 := Int32.toInt_toInt64 _
      have c4 := in_0i c4
      refine lv_iconst (pc := 27) (v := (-1)) C0.1 C0.2.1 dX10_token_27 (by decide) ?_
      exact xiret (pc := 28) C0 hr hH hS dX10_token_28 ⟨rfl, trivial⟩
  · have : Int32.toInt 1 = 1 := rfl
    have c1 : ¬ _ := fun q => c1 (Int32.toInt_inj.mp q)
    refine lv_bipush (pc := 8) (v := (-3)) C0.1 C0.2.1 dX10_token_8 (by decide) ?_
    exact xiret (pc := 10) C0 hr hH hS dX10_token_10 ⟨rfl, trivial⟩
set_option maxHeartbeats 4000000 in
set_option maxRecDepth 100000 in
theorem m_block (l : Launch) (D : va_G) (tA : Nat → ClassId) (b : Nat) (i F : Nat → Nat → Int32) (G : Nat → Nat → Int64) (x y : Int32) (hI : IMm i F) : xMI l yX10_block cX10_block 3 (some .int) 2 47 D tA b 78 52 i F G [.ref (b + 78), .int x, .int y] (fun r u => u = (i, F, G) ∧ True) := by
  refine xstart RX10 rfl (by decide) (Nat.le_of_ble_eq_true rfl) ?_
  intro p e s m below meth c ls C0 hr hH hS hl
  have hl : lv_has ls 3 [(0, .ref (b + 78)), (1, .int x), (2, .int y)] := hl
  have rg_x := fb_rng x
  have rg_y := fb_rng y
  have hI0 := hI
  obtain ⟨hsz, hbt, hks, hsrc, hTK, hCB, hWA, hwr, hmk, hG, hKA, hKI⟩ := hI0
  have hTKl := hTK.1

  refine lv_aload_n (pc := 0) C0.1 C0.2.1 dX10_block_0 rfl (lv_at hl 0 rfl) ?_
  refine xget (pc := 1) C0 hH 78 15 clX10 ⟨Nat.le_of_ble_eq_true rfl, Nat.le_of_ble_eq_true rfl⟩ ⟨rfl, rfl⟩ (Nat.le_of_ble_eq_true rfl) fl_X10_211 (v := .int (i 78 15)) rfl dX10_block_1 ?_
  refine lv_iconst (pc := 4) (v := 1) C0.1 C0.2.1 dX10_block_4 (by decide) ?_
  refine lv_icmp_eq (pc := 5) (tgt := 11) C0.1 C0.2.1 dX10_block_5 (by decide) (fun c1 => ?_) (fun c1 => ?_)
  · have : Int32.toInt 1 = 1 := rfl
    have c1 := congrArg Int32.toInt c1
    have hGT := hG (by have : Int32.toInt 1 = 1 := rfl; omega)
    have hGl := GTm.lin hGT
    have hz := hGT.2.1
    refine lv_iload_n (pc := 11) C0.1 C0.2.1 dX10_block_11 rfl (lv_at hl 1 rfl) ?_
    refine lv_i2l (pc := 12) (v := x.toInt64) C0.1 C0.2.1 dX10_block_12 rfl ?_
    refine lv_lconst (pc := 13) (v := 0) C0.1 C0.2.1 dX10_block_13 (by decide) ?_
    refine lv_aload_n (pc := 14) C0.1 C0.2.1 dX10_block_14 rfl (lv_at hl 0 rfl) ?_
    refine xget (pc := 15) C0 hH 78 32 clX10 ⟨Nat.le_of_ble_eq_true rfl, Nat.le_of_ble_eq_true rfl⟩ ⟨rfl, rfl⟩ (Nat.le_of_ble_eq_true rfl) fl_X10_281 (v := .int (i 78 32)) rfl dX10_block_15 ?_
    refine lv_iconst (pc := 18) (v := 1) C0.1 C0.2.1 dX10_block_18 (by decide) ?_
    have : Int32.toInt 1 = 1 := rfl
    refine lv_isub (pc := 19) C0.1 C0.2.1 dX10_block_19 ?_
    refine lv_topi (fun x2 ex2 => ?_)
    have hx2 : Int32.toInt x2 = Int32.toInt (i 78 32) - Int32.toInt 1 := by rw [ex2]; exact fb_subI (by omega) (by omega)
    refine lv_i2l (pc := 20) (v := x2.toInt64) C0.1 C0.2.1 dX10_block_20 rfl ?_
    refine xcSI (pc := 21) [.long x.toInt64, .long 0, .long x2.toInt64] (c_X10_in l D tA b 78 52 i F G x.toInt64 0 x2.toInt64) C0 hH hS cw_X10_175 rfl ⟨Nat.le_of_ble_eq_true rfl, Nat.le_of_ble_eq_true rfl⟩ hl.1 rfl (Nat.le_of_ble_eq_true rfl) dX10_block_21 ⟨Nat.le_of_ble_eq_true rfl, Nat.le_of_ble_eq_true rfl⟩ (fun r3 ir3 Fr3 Gr3 _ locs hp hH hS => ?_)
    obtain ⟨hu, rfl⟩ := hp
    cases hu
    refine lv_if_ne (pc := 24) (tgt := 29) C0.1 C0.2.1 dX10_block_24 (by decide) (fun c4 => ?_) (fun c4 => ?_)
    · have : Int64.toInt 0 = 0 := rfl
      have : Int64.toInt (x2.toInt64) = Int32.toInt x2 := Int32.toInt_toInt64 _
      have c4 := in_1i c4
      refine lv_iload_n (pc := 29) C0.1 C0.2.1 dX10_block_29 rfl (lv_at hl 2 rfl) ?_
      by_cases t5 : (y : Int32).toInt = 0
      · refine lv_tableIn (pc := 30) (off := 46) (tgt := 76) C0.1 C0.2.1 dX10_block_30 (by omega) (by omega) (by rw [t5]; rfl) (by decide) ?_
        refine lv_aload_n (pc := 76) C0.1 C0.2.1 dX10_block_76 rfl (lv_at hl 0 rfl) ?_
        refine xget (pc := 77) C0 hH 78 33 clX10 ⟨Nat.le_of_ble_eq_true rfl, Nat.le_of_ble_eq_true rfl⟩ ⟨rfl, rfl⟩ (Nat.le_of_ble_eq_true rfl) fl_X10_73 (v := .ref (b + 98)) rfl dX10_block_77 ?_
        refine lv_iload_n (pc := 80) C0.1 C0.2.1 dX10_block_80 rfl (lv_at hl 1 rfl) ?_
        refine xiald (pc := 81) (N := 1202) C0 hH 98 ⟨Nat.le_of_ble_eq_true rfl, Nat.le_of_ble_eq_true rfl⟩ ⟨rfl, rfl⟩ (vI (by omega) (by omega)) dX10_block_81 ?_
        exact xiret (pc := 82) C0 hr hH hS dX10_block_82 ⟨rfl, trivial⟩
      by_cases t6 : (y : Int32).toInt = 1
      · refine lv_tableIn (pc := 30) (off := 53) (tgt := 83) C0.1 C0.2.1 dX10_block_30 (by omega) (by omega) (by rw [t6]; rfl) (by decide) ?_
        refine lv_aload_n (pc := 83) C0.1 C0.2.1 dX10_block_83 rfl (lv_at hl 0 rfl) ?_
        refine xget (pc := 84) C0 hH 78 34 clX10 ⟨Nat.le_of_ble_eq_true rfl, Nat.le_of_ble_eq_true rfl⟩ ⟨rfl, rfl⟩ (Nat.le_of_ble_eq_true rfl) fl_X10_76 (v := .ref (b + 99)) rfl dX10_block_84 ?_
        refine lv_iload_n (pc := 87) C0.1 C0.2.1 dX10_block_87 rfl (lv_at hl 1 rfl) ?_
        refine xiald (pc := 88) (N := 1202) C0 hH 99 ⟨Nat.le_of_ble_eq_true rfl, Nat.le_of_ble_eq_true rfl⟩ ⟨rfl, rfl⟩ (vI (by omega) (by omega)) dX10_block_88 ?_
        exact xiret (pc := 89) C0 hr hH hS dX10_block_89 ⟨rfl, trivial⟩
      by_cases t7 : (y : Int32).toInt = 2
      · refine lv_tableIn (pc := 30) (off := 60) (tgt := 90) C0.1 C0.2.1 dX10_block_30 (by omega) (by omega) (by rw [t7]; rfl) (by decide) ?_
        refine lv_aload_n (pc := 90) C0.1 C0.2.1 dX10_block_90 rfl (lv_at hl 0 rfl) ?_
        refine xget (pc := 91) C0 hH 78 35 clX10 ⟨Nat.le_of_ble_eq_true rfl, Nat.le_of_ble_eq_true rfl⟩ ⟨rfl, rfl⟩ (Nat.le_of_ble_eq_true rfl) fl_X10_79 (v := .ref (b + 100)) rfl dX10_block_91 ?_
        refine lv_iload_n (pc := 94) C0.1 C0.2.1 dX10_block_94 rfl (lv_at hl 1 rfl) ?_
        refine xiald (pc := 95) (N := 1202) C0 hH 100 ⟨Nat.le_of_ble_eq_true rfl, Nat.le_of_ble_eq_true rfl⟩ ⟨rfl, rfl⟩ (vI (by omega) (by omega)) dX10_block_95 ?_
        exact xiret (pc := 96) C0 hr hH hS dX10_block_96 ⟨rfl, trivial⟩
      by_cases t8 : (y : Int32).toInt = 3
      · refine lv_tableIn (pc := 30) (off := 67) (tgt := 97) C0.1 C0.2.1 dX10_block_30 (by omega) (by omega) (by rw [t8]; rfl) (by decide) ?_
        refine lv_aload_n (pc := 97) C0.1 C0.2.1 dX10_block_97 rfl (lv_at hl 0 rfl) ?_
        refine xget (pc := 98) C0 hH 78 37 clX10 ⟨Nat.le_of_ble_eq_true rfl, Nat.le_of_ble_eq_true rfl⟩ ⟨rfl, rfl⟩ (Nat.le_of_ble_eq_true rfl) fl_X10_85 (v := .ref (b + 102)) rfl dX10_block_98 ?_
        refine lv_iload_n (pc := 101) C0.1 C0.2.1 dX10_block_101 rfl (lv_at hl 1 rfl) ?_
        refine xiald (pc := 102) (N := 1202) C0 hH 102 ⟨Nat.le_of_ble_eq_true rfl, Nat.le_of_ble_eq_true rfl⟩ ⟨rfl, rfl⟩ (vI (by omega) (by omega)) dX10_block_102 ?_
        exact xiret (pc := 103) C0 hr hH hS dX10_block_103 ⟨rfl, trivial⟩
      by_cases t9 : (y : Int32).toInt = 4
      · refine lv_tableIn (pc := 30) (off := 74) (tgt := 104) C0.1 C0.2.1 dX10_block_30 (by omega) (by omega) (by rw [t9]; rfl) (by decide) ?_
        refine lv_aload_n (pc := 104) C0.1 C0.2.1 dX10_block_104 rfl (lv_at hl 0 rfl) ?_
        refine lv_iload_n (pc := 105) C0.1 C0.2.1 dX10_block_105 rfl (lv_at hl 1 rfl) ?_
        refine lv_iconst (pc := 106) (v := 0) C0.1 C0.2.1 dX10_block_106 (by decide) ?_
        refine xcVI (pc := 107) 78 [.int x, .int 0] (m_endOfBlock l D tA b i F G x 0 hWA hz hTKl) C0 hH hS clX10 rfl ⟨⟨Nat.le_of_ble_eq_true rfl, Nat.le_of_ble_eq_true rfl⟩, rfl, rfl⟩ cw_X10_358 rfl ⟨Nat.le_of_ble_eq_true rfl, Nat.le_of_ble_eq_true rfl⟩ hl.1 rfl (Nat.le_of_ble_eq_true rfl) dX10_block_107 ⟨Nat.le_of_ble_eq_true rfl, Nat.le_of_ble_eq_true rfl⟩ (fun r10 ir10 Fr10 Gr10 _ locs hp hH hS => ?_)
        obtain ⟨hu, hpr10⟩ := hp
        cases hu
        exact xiret (pc := 110) C0 hr hH hS dX10_block_110 ⟨rfl, trivial⟩
      by_cases t11 : (y : Int32).toInt = 5
      · refine lv_tableIn (pc := 30) (off := 81) (tgt := 111) C0.1 C0.2.1 dX10_block_30 (by omega) (by omega) (by rw [t11]; rfl) (by decide) ?_
        refine lv_aload_n (pc := 111) C0.1 C0.2.1 dX10_block_111 rfl (lv_at hl 0 rfl) ?_
        refine lv_iload_n (pc := 112) C0.1 C0.2.1 dX10_block_112 rfl (lv_at hl 1 rfl) ?_
        refine lv_iconst (pc := 113) (v := 1) C0.1 C0.2.1 dX10_block_113 (by decide) ?_
        refine xcVI (pc := 114) 78 [.int x, .int 1] (m_endOfBlock l D tA b i F G x 1 hWA hz hTKl) C0 hH hS clX10 rfl ⟨⟨Nat.le_of_ble_eq_true rfl, Nat.le_of_ble_eq_true rfl⟩, rfl, rfl⟩ cw_X10_358 rfl ⟨Nat.le_of_ble_eq_true rfl, Nat.le_of_ble_eq_true rfl⟩ hl.1 rfl (Nat.le_of_ble_eq_true rfl) dX10_block_114 ⟨Nat.le_of_ble_eq_true rfl, Nat.le_of_ble_eq_true rfl⟩ (fun r12 ir12 Fr12 Gr12 _ locs hp hH hS => ?_)
        obtain ⟨hu, hpr12⟩ := hp
        cases hu
        exact xiret (pc := 117) C0 hr hH hS dX10_block_117 ⟨rfl, trivial⟩
      by_cases t13 : (y : Int32).toInt = 6
      · refine lv_tableIn (pc := 30) (off := 88) (tgt := 118) C0.1 C0.2.1 dX10_block_30 (by omega) (by omega) (by rw [t13]; rfl) (by decide) ?_
        refine lv_aload_n (pc := 118) C0.1 C0.2.1 dX10_block_118 rfl (lv_at hl 0 rfl) ?_
        refine lv_iload_n (pc := 119) C0.1 C0.2.1 dX10_block_119 rfl (lv_at hl 1 rfl) ?_
        refine xcVI (pc := 120) 78 [.int x] (m_depth l D tA b i F G x hWA hz (by omega)) C0 hH hS clX10 rfl ⟨⟨Nat.le_of_ble_eq_true rfl, Nat.le_of_ble_eq_true rfl⟩, rfl, rfl⟩ cw_X10_361 rfl ⟨Nat.le_of_ble_eq_true rfl, Nat.le_of_ble_eq_true rfl⟩ hl.1 rfl (Nat.le_of_ble_eq_true rfl) dX10_block_120 ⟨Nat.le_of_ble_eq_true rfl, Nat.le_of_ble_eq_true rfl⟩ (fun r14 ir14 Fr14 Gr14 _ locs hp hH hS => ?_)
        obtain ⟨hu, hpr14⟩ := hp
        cases hu
        exact xiret (pc := 123) C0 hr hH hS dX10_block_123 ⟨rfl, trivial⟩
      by_cases t15 : (y : Int32).toInt = 7
      · refine lv_tableIn (pc := 30) (off := 94) (tgt := 124) C0.1 C0.2.1 dX10_block_30 (by omega) (by omega) (by rw [t15]; rfl) (by decide) ?_
        refine lv_aload_n (pc := 124) C0.1 C0.2.1 dX10_block_124 rfl (lv_at hl 0 rfl) ?_
        refine xget (pc := 125) C0 hH 78 36 clX10 ⟨Nat.le_of_ble_eq_true rfl, Nat.le_of_ble_eq_true rfl⟩ ⟨rfl, rfl⟩ (Nat.le_of_ble_eq_true rfl) fl_X10_82 (v := .ref (b + 101)) rfl dX10_block_125 ?_
        refine lv_iload_n (pc := 128) C0.1 C0.2.1 dX10_block_128 rfl (lv_at hl 1 rfl) ?_
        refine xiald (pc := 129) (N := 1202) C0 hH 101 ⟨Nat.le_of_ble_eq_true rfl, Nat.le_of_ble_eq_true rfl⟩ ⟨rfl, rfl⟩ (vI (by omega) (by omega)) dX10_block_129 ?_
        exact xiret (pc := 130) C0 hr hH hS dX10_block_130 ⟨rfl, trivial⟩
      refine lv_tableOut (pc := 30) (tgt := 131) C0.1 C0.2.1 dX10_block_30 (by omega) (by decide) ?_
      refine lv_bipush (pc := 131) (v := (-2)) C0.1 C0.2.1 dX10_block_131 (by decide) ?_
      exact xiret (pc := 133) C0 hr hH hS dX10_block_133 ⟨rfl, trivial⟩
    · have : Int64.toInt 0 = 0 := rfl
      have : Int64.toInt (x2.toInt64) = Int32.toInt x2 := Int32.toInt_toInt64 _
      have c4 := in_0i c4
      refine lv_iconst (pc := 27) (v := (-1)) C0.1 C0.2.1 dX10_block_27 (by decide) ?_
      exact xiret (pc := 28) C0 hr hH hS dX10_block_28 ⟨rfl, trivial⟩
  · have : Int32.toInt 1 = 1 := rfl
    have c1 : ¬ _ := fun q => c1 (Int32.toInt_inj.mp q)
    refine lv_bipush (pc := 8) (v := (-3)) C0.1 C0.2.1 dX10_block_8 (by decide) ?_
    exact xiret (pc := 10) C0 hr hH hS dX10_block_10 ⟨rfl, trivial⟩
set_option maxHeartbeats 4000000 in
set_option maxRecDepth 100000 in
theorem m_item (l : Launch) (D : va_G) (tA : Nat → ClassId) (b : Nat) (i F : Nat → Nat → Int32) (G : Nat → Nat → Int64) (x y : Int32) (hI : IMm i F) : xMI l yX10_item cX10_item 3 (some .int) 2 47 D tA b 78 52 i F G [.ref (b + 78), .int x, .int y] (fun r u => u = (i, F, G) ∧ True) := by
  refine xstart RX10 rfl (by decide) (Nat.le_of_ble_eq_true rfl) ?_
  intro p e s m below meth c ls C0 hr hH hS hl
  have hl : lv_has ls 3 [(0, .ref (b + 78)), (1, .int x), (2, .int y)] := hl
  have rg_x := fb_rng x
  have rg_y := fb_rng y
  have hI0 := hI
  obtain ⟨hsz, hbt, hks, hsrc, hTK, hCB, hWA, hwr, hmk, hG, hKA, hKI⟩ := hI0
  have hTKl := hTK.1

  refine lv_aload_n (pc := 0) C0.1 C0.2.1 dX10_item_0 rfl (lv_at hl 0 rfl) ?_
  refine xget (pc := 1) C0 hH 78 15 clX10 ⟨Nat.le_of_ble_eq_true rfl, Nat.le_of_ble_eq_true rfl⟩ ⟨rfl, rfl⟩ (Nat.le_of_ble_eq_true rfl) fl_X10_211 (v := .int (i 78 15)) rfl dX10_item_1 ?_
  refine lv_iconst (pc := 4) (v := 1) C0.1 C0.2.1 dX10_item_4 (by decide) ?_
  refine lv_icmp_eq (pc := 5) (tgt := 11) C0.1 C0.2.1 dX10_item_5 (by decide) (fun c1 => ?_) (fun c1 => ?_)
  · have : Int32.toInt 1 = 1 := rfl
    have c1 := congrArg Int32.toInt c1
    have hGT := hG (by have : Int32.toInt 1 = 1 := rfl; omega)
    have hGl := GTm.lin hGT
    have hz := hGT.2.1
    refine lv_iload_n (pc := 11) C0.1 C0.2.1 dX10_item_11 rfl (lv_at hl 1 rfl) ?_
    refine lv_i2l (pc := 12) (v := x.toInt64) C0.1 C0.2.1 dX10_item_12 rfl ?_
    refine lv_lconst (pc := 13) (v := 0) C0.1 C0.2.1 dX10_item_13 (by decide) ?_
    refine lv_aload_n (pc := 14) C0.1 C0.2.1 dX10_item_14 rfl (lv_at hl 0 rfl) ?_
    refine xget (pc := 15) C0 hH 78 40 clX10 ⟨Nat.le_of_ble_eq_true rfl, Nat.le_of_ble_eq_true rfl⟩ ⟨rfl, rfl⟩ (Nat.le_of_ble_eq_true rfl) fl_X10_287 (v := .int (i 78 40)) rfl dX10_item_15 ?_
    refine lv_iconst (pc := 18) (v := 1) C0.1 C0.2.1 dX10_item_18 (by decide) ?_
    have : Int32.toInt 1 = 1 := rfl
    refine lv_isub (pc := 19) C0.1 C0.2.1 dX10_item_19 ?_
    refine lv_topi (fun x2 ex2 => ?_)
    have hx2 : Int32.toInt x2 = Int32.toInt (i 78 40) - Int32.toInt 1 := by rw [ex2]; exact fb_subI (by omega) (by omega)
    refine lv_i2l (pc := 20) (v := x2.toInt64) C0.1 C0.2.1 dX10_item_20 rfl ?_
    refine xcSI (pc := 21) [.long x.toInt64, .long 0, .long x2.toInt64] (c_X10_in l D tA b 78 52 i F G x.toInt64 0 x2.toInt64) C0 hH hS cw_X10_175 rfl ⟨Nat.le_of_ble_eq_true rfl, Nat.le_of_ble_eq_true rfl⟩ hl.1 rfl (Nat.le_of_ble_eq_true rfl) dX10_item_21 ⟨Nat.le_of_ble_eq_true rfl, Nat.le_of_ble_eq_true rfl⟩ (fun r3 ir3 Fr3 Gr3 _ locs hp hH hS => ?_)
    obtain ⟨hu, rfl⟩ := hp
    cases hu
    refine lv_if_ne (pc := 24) (tgt := 29) C0.1 C0.2.1 dX10_item_24 (by decide) (fun c4 => ?_) (fun c4 => ?_)
    · have : Int64.toInt 0 = 0 := rfl
      have : Int64.toInt (x2.toInt64) = Int32.toInt x2 := Int32.toInt_toInt64 _
      have c4 := in_1i c4
      refine lv_iload_n (pc := 29) C0.1 C0.2.1 dX10_item_29 rfl (lv_at hl 2 rfl) ?_
      by_cases t5 : (y : Int32).toInt = 0
      · refine lv_tableIn (pc := 30) (off := 34) (tgt := 64) C0.1 C0.2.1 dX10_item_30 (by omega) (by omega) (by rw [t5]; rfl) (by decide) ?_
        refine lv_aload_n (pc := 64) C0.1 C0.2.1 dX10_item_64 rfl (lv_at hl 0 rfl) ?_
        refine xget (pc := 65) C0 hH 78 41 clX10 ⟨Nat.le_of_ble_eq_true rfl, Nat.le_of_ble_eq_true rfl⟩ ⟨rfl, rfl⟩ (Nat.le_of_ble_eq_true rfl) fl_X10_94 (v := .ref (b + 105)) rfl dX10_item_65 ?_
        refine lv_iload_n (pc := 68) C0.1 C0.2.1 dX10_item_68 rfl (lv_at hl 1 rfl) ?_
        refine xiald (pc := 69) (N := 1202) C0 hH 105 ⟨Nat.le_of_ble_eq_true rfl, Nat.le_of_ble_eq_true rfl⟩ ⟨rfl, rfl⟩ (vI (by omega) (by omega)) dX10_item_69 ?_
        exact xiret (pc := 70) C0 hr hH hS dX10_item_70 ⟨rfl, trivial⟩
      by_cases t6 : (y : Int32).toInt = 1
      · refine lv_tableIn (pc := 30) (off := 41) (tgt := 71) C0.1 C0.2.1 dX10_item_30 (by omega) (by omega) (by rw [t6]; rfl) (by decide) ?_
        refine lv_aload_n (pc := 71) C0.1 C0.2.1 dX10_item_71 rfl (lv_at hl 0 rfl) ?_
        refine lv_iload_n (pc := 72) C0.1 C0.2.1 dX10_item_72 rfl (lv_at hl 1 rfl) ?_
        refine lv_iconst (pc := 73) (v := 0) C0.1 C0.2.1 dX10_item_73 (by decide) ?_
        refine xcVI (pc := 74) 78 [.int x, .int 0] (m_endOfItem l D tA b i F G x 0 hWA hz hTKl) C0 hH hS clX10 rfl ⟨⟨Nat.le_of_ble_eq_true rfl, Nat.le_of_ble_eq_true rfl⟩, rfl, rfl⟩ cw_X10_364 rfl ⟨Nat.le_of_ble_eq_true rfl, Nat.le_of_ble_eq_true rfl⟩ hl.1 rfl (Nat.le_of_ble_eq_true rfl) dX10_item_74 ⟨Nat.le_of_ble_eq_true rfl, Nat.le_of_ble_eq_true rfl⟩ (fun r7 ir7 Fr7 Gr7 _ locs hp hH hS => ?_)
        obtain ⟨hu, hpr7⟩ := hp
        cases hu
        exact xiret (pc := 77) C0 hr hH hS dX10_item_77 ⟨rfl, trivial⟩
      by_cases t8 : (y : Int32).toInt = 2
      · refine lv_tableIn (pc := 30) (off := 48) (tgt := 78) C0.1 C0.2.1 dX10_item_30 (by omega) (by omega) (by rw [t8]; rfl) (by decide) ?_
        refine lv_aload_n (pc := 78) C0.1 C0.2.1 dX10_item_78 rfl (lv_at hl 0 rfl) ?_
        refine lv_iload_n (pc := 79) C0.1 C0.2.1 dX10_item_79 rfl (lv_at hl 1 rfl) ?_
        refine lv_iconst (pc := 80) (v := 1) C0.1 C0.2.1 dX10_item_80 (by decide) ?_
        refine xcVI (pc := 81) 78 [.int x, .int 1] (m_endOfItem l D tA b i F G x 1 hWA hz hTKl) C0 hH hS clX10 rfl ⟨⟨Nat.le_of_ble_eq_true rfl, Nat.le_of_ble_eq_true rfl⟩, rfl, rfl⟩ cw_X10_364 rfl ⟨Nat.le_of_ble_eq_true rfl, Nat.le_of_ble_eq_true rfl⟩ hl.1 rfl (Nat.le_of_ble_eq_true rfl) dX10_item_81 ⟨Nat.le_of_ble_eq_true rfl, Nat.le_of_ble_eq_true rfl⟩ (fun r9 ir9 Fr9 Gr9 _ locs hp hH hS => ?_)
        obtain ⟨hu, hpr9⟩ := hp
        cases hu
        exact xiret (pc := 84) C0 hr hH hS dX10_item_84 ⟨rfl, trivial⟩
      by_cases t10 : (y : Int32).toInt = 3
      · refine lv_tableIn (pc := 30) (off := 55) (tgt := 85) C0.1 C0.2.1 dX10_item_30 (by omega) (by omega) (by rw [t10]; rfl) (by decide) ?_
        refine lv_aload_n (pc := 85) C0.1 C0.2.1 dX10_item_85 rfl (lv_at hl 0 rfl) ?_
        refine xget (pc := 86) C0 hH 78 44 clX10 ⟨Nat.le_of_ble_eq_true rfl, Nat.le_of_ble_eq_true rfl⟩ ⟨rfl, rfl⟩ (Nat.le_of_ble_eq_true rfl) fl_X10_103 (v := .ref (b + 108)) rfl dX10_item_86 ?_
        refine lv_iload_n (pc := 89) C0.1 C0.2.1 dX10_item_89 rfl (lv_at hl 1 rfl) ?_
        refine xiald (pc := 90) (N := 1202) C0 hH 108 ⟨Nat.le_of_ble_eq_true rfl, Nat.le_of_ble_eq_true rfl⟩ ⟨rfl, rfl⟩ (vI (by omega) (by omega)) dX10_item_90 ?_
        exact xiret (pc := 91) C0 hr hH hS dX10_item_91 ⟨rfl, trivial⟩
      by_cases t11 : (y : Int32).toInt = 4
      · refine lv_tableIn (pc := 30) (off := 62) (tgt := 92) C0.1 C0.2.1 dX10_item_30 (by omega) (by omega) (by rw [t11]; rfl) (by decide) ?_
        refine lv_aload_n (pc := 92) C0.1 C0.2.1 dX10_item_92 rfl (lv_at hl 0 rfl) ?_
        refine xget (pc := 93) C0 hH 78 42 clX10 ⟨Nat.le_of_ble_eq_true rfl, Nat.le_of_ble_eq_true rfl⟩ ⟨rfl, rfl⟩ (Nat.le_of_ble_eq_true rfl) fl_X10_97 (v := .ref (b + 106)) rfl dX10_item_93 ?_
        refine lv_iload_n (pc := 96) C0.1 C0.2.1 dX10_item_96 rfl (lv_at hl 1 rfl) ?_
        refine xiald (pc := 97) (N := 1202) C0 hH 106 ⟨Nat.le_of_ble_eq_true rfl, Nat.le_of_ble_eq_true rfl⟩ ⟨rfl, rfl⟩ (vI (by omega) (by omega)) dX10_item_97 ?_
        exact xiret (pc := 98) C0 hr hH hS dX10_item_98 ⟨rfl, trivial⟩
      refine lv_tableOut (pc := 30) (tgt := 99) C0.1 C0.2.1 dX10_item_30 (by omega) (by decide) ?_
      refine lv_bipush (pc := 99) (v := (-2)) C0.1 C0.2.1 dX10_item_99 (by decide) ?_
      exact xiret (pc := 101) C0 hr hH hS dX10_item_101 ⟨rfl, trivial⟩
    · have : Int64.toInt 0 = 0 := rfl
      have : Int64.toInt (x2.toInt64) = Int32.toInt x2 := Int32.toInt_toInt64 _
      have c4 := in_0i c4
      refine lv_iconst (pc := 27) (v := (-1)) C0.1 C0.2.1 dX10_item_27 (by decide) ?_
      exact xiret (pc := 28) C0 hr hH hS dX10_item_28 ⟨rfl, trivial⟩
  · have : Int32.toInt 1 = 1 := rfl
    have c1 : ¬ _ := fun q => c1 (Int32.toInt_inj.mp q)
    refine lv_bipush (pc := 8) (v := (-3)) C0.1 C0.2.1 dX10_item_8 (by decide) ?_
    exact xiret (pc := 10) C0 hr hH hS dX10_item_10 ⟨rfl, trivial⟩
set_option maxHeartbeats 4000000 in
set_option maxRecDepth 100000 in
theorem m_around (l : Launch) (D : va_G) (tA : Nat → ClassId) (b : Nat) (i F : Nat → Nat → Int32) (G : Nat → Nat → Int64) (x y : Int32) (hI : IMm i F) : xMI l yX10_around cX10_around 3 (some .int) 1 25 D tA b 78 52 i F G [.ref (b + 78), .int x, .int y] (fun r u => u = (i, F, G) ∧ True) := by
  refine xstart RX10 rfl (by decide) (Nat.le_of_ble_eq_true rfl) ?_
  intro p e s m below meth c ls C0 hr hH hS hl
  have hl : lv_has ls 3 [(0, .ref (b + 78)), (1, .int x), (2, .int y)] := hl
  have rg_x := fb_rng x
  have rg_y := fb_rng y
  have hI0 := hI
  obtain ⟨hsz, hbt, hks, hsrc, hTK, hCB, hWA, hwr, hmk, hG, hKA, hKI⟩ := hI0
  have hTKl := hTK.1

  refine lv_aload_n (pc := 0) C0.1 C0.2.1 dX10_around_0 rfl (lv_at hl 0 rfl) ?_
  refine xget (pc := 1) C0 hH 78 15 clX10 ⟨Nat.le_of_ble_eq_true rfl, Nat.le_of_ble_eq_true rfl⟩ ⟨rfl, rfl⟩ (Nat.le_of_ble_eq_true rfl) fl_X10_211 (v := .int (i 78 15)) rfl dX10_around_1 ?_
  refine lv_iconst (pc := 4) (v := 1) C0.1 C0.2.1 dX10_around_4 (by decide) ?_
  refine lv_icmp_eq (pc := 5) (tgt := 11) C0.1 C0.2.1 dX10_around_5 (by decide) (fun c1 => ?_) (fun c1 => ?_)
  · have : Int32.toInt 1 = 1 := rfl
    have c1 := congrArg Int32.toInt c1
    have hGT := hG (by have : Int32.toInt 1 = 1 := rfl; omega)
    have hGl := GTm.lin hGT
    have hz := hGT.2.1
    refine lv_iload_n (pc := 11) C0.1 C0.2.1 dX10_around_11 rfl (lv_at hl 1 rfl) ?_
    refine lv_i2l (pc := 12) (v := x.toInt64) C0.1 C0.2.1 dX10_around_12 rfl ?_
    refine lv_lconst (pc := 13) (v := 0) C0.1 C0.2.1 dX10_around_13 (by decide) ?_
    refine lv_aload_n (pc := 14) C0.1 C0.2.1 dX10_around_14 rfl (lv_at hl 0 rfl) ?_
    refine xget (pc := 15) C0 hH 78 32 clX10 ⟨Nat.le_of_ble_eq_true rfl, Nat.le_of_ble_eq_true rfl⟩ ⟨rfl, rfl⟩ (Nat.le_of_ble_eq_true rfl) fl_X10_281 (v := .int (i 78 32)) rfl dX10_around_15 ?_
    refine lv_iconst (pc := 18) (v := 1) C0.1 C0.2.1 dX10_around_18 (by decide) ?_
    have : Int32.toInt 1 = 1 := rfl
    refine lv_isub (pc := 19) C0.1 C0.2.1 dX10_around_19 ?_
    refine lv_topi (fun x2 ex2 => ?_)
    have hx2 : Int32.toInt x2 = Int32.toInt (i 78 32) - Int32.toInt 1 := by rw [ex2]; exact fb_subI (by omega) (by omega)
    refine lv_i2l (pc := 20) (v := x2.toInt64) C0.1 C0.2.1 dX10_around_20 rfl ?_
    refine xcSI (pc := 21) [.long x.toInt64, .long 0, .long x2.toInt64] (c_X10_in l D tA b 78 52 i F G x.toInt64 0 x2.toInt64) C0 hH hS cw_X10_175 rfl ⟨Nat.le_of_ble_eq_true rfl, Nat.le_of_ble_eq_true rfl⟩ hl.1 rfl (Nat.le_of_ble_eq_true rfl) dX10_around_21 ⟨Nat.le_of_ble_eq_true rfl, Nat.le_of_ble_eq_true rfl⟩ (fun r3 ir3 Fr3 Gr3 _ locs hp hH hS => ?_)
    obtain ⟨hu, rfl⟩ := hp
    cases hu
    refine lv_if_eq (pc := 24) (tgt := 43) C0.1 C0.2.1 dX10_around_24 (by decide) (fun c4 => ?_) (fun c4 => ?_)
    · have : Int64.toInt 0 = 0 := rfl
      have : Int64.toInt (x2.toInt64) = Int32.toInt x2 := Int32.toInt_toInt64 _
      have c4 := in_0i c4
      refine lv_iconst (pc := 43) (v := (-1)) C0.1 C0.2.1 dX10_around_43 (by decide) ?_
      exact xiret (pc := 44) C0 hr hH hS dX10_around_44 ⟨rfl, trivial⟩
    · have : Int64.toInt 0 = 0 := rfl
      have : Int64.toInt (x2.toInt64) = Int32.toInt x2 := Int32.toInt_toInt64 _
      have c4 := in_1i c4
      refine lv_iload_n (pc := 27) C0.1 C0.2.1 dX10_around_27 rfl (lv_at hl 2 rfl) ?_
      refine lv_i2l (pc := 28) (v := y.toInt64) C0.1 C0.2.1 dX10_around_28 rfl ?_
      refine lv_lconst (pc := 29) (v := 0) C0.1 C0.2.1 dX10_around_29 (by decide) ?_
      refine lv_aload_n (pc := 30) C0.1 C0.2.1 dX10_around_30 rfl (lv_at hl 0 rfl) ?_
      refine xget (pc := 31) C0 hH 78 19 clX10 ⟨Nat.le_of_ble_eq_true rfl, Nat.le_of_ble_eq_true rfl⟩ ⟨rfl, rfl⟩ (Nat.le_of_ble_eq_true rfl) fl_X10_258 (v := .int (i 78 19)) rfl dX10_around_31 ?_
      refine lv_iconst (pc := 34) (v := 1) C0.1 C0.2.1 dX10_around_34 (by decide) ?_
      have : Int32.toInt 1 = 1 := rfl
      refine lv_isub (pc := 35) C0.1 C0.2.1 dX10_around_35 ?_
      refine lv_topi (fun x5 ex5 => ?_)
      have hx5 : Int32.toInt x5 = Int32.toInt (i 78 19) - Int32.toInt 1 := by rw [ex5]; exact fb_subI (by omega) (by omega)
      refine lv_i2l (pc := 36) (v := x5.toInt64) C0.1 C0.2.1 dX10_around_36 rfl ?_
      refine xcSI (pc := 37) [.long y.toInt64, .long 0, .long x5.toInt64] (c_X10_in l D tA b 78 52 i F G y.toInt64 0 x5.toInt64) C0 hH hS cw_X10_175 rfl ⟨Nat.le_of_ble_eq_true rfl, Nat.le_of_ble_eq_true rfl⟩ hl.1 rfl (Nat.le_of_ble_eq_true rfl) dX10_around_37 ⟨Nat.le_of_ble_eq_true rfl, Nat.le_of_ble_eq_true rfl⟩ (fun r6 ir6 Fr6 Gr6 _ locs hp hH hS => ?_)
      obtain ⟨hu, rfl⟩ := hp
      cases hu
      refine lv_if_ne (pc := 40) (tgt := 45) C0.1 C0.2.1 dX10_around_40 (by decide) (fun c7 => ?_) (fun c7 => ?_)
      · have : Int64.toInt 0 = 0 := rfl
        have : Int64.toInt (x5.toInt64) = Int32.toInt x5 := Int32.toInt_toInt64 _
        have c7 := in_1i c7
        refine lv_aload_n (pc := 45) C0.1 C0.2.1 dX10_around_45 rfl (lv_at hl 0 rfl) ?_
        refine lv_iload_n (pc := 46) C0.1 C0.2.1 dX10_around_46 rfl (lv_at hl 1 rfl) ?_
        refine lv_iload_n (pc := 47) C0.1 C0.2.1 dX10_around_47 rfl (lv_at hl 2 rfl) ?_
        refine xcVI (pc := 48) 78 [.int x, .int y] (m_isAround l D tA b i F G x y hWA hz (by omega)) C0 hH hS clX10 rfl ⟨⟨Nat.le_of_ble_eq_true rfl, Nat.le_of_ble_eq_true rfl⟩, rfl, rfl⟩ cw_X10_352 rfl ⟨Nat.le_of_ble_eq_true rfl, Nat.le_of_ble_eq_true rfl⟩ hl.1 rfl (Nat.le_of_ble_eq_true rfl) dX10_around_48 ⟨Nat.le_of_ble_eq_true rfl, Nat.le_of_ble_eq_true rfl⟩ (fun r8 ir8 Fr8 Gr8 _ locs hp hH hS => ?_)
        obtain ⟨hu, hpr8⟩ := hp
        cases hu
        refine lv_if_eq (pc := 51) (tgt := 58) C0.1 C0.2.1 dX10_around_51 (by decide) (fun c9 => ?_) (fun c9 => ?_)
        · have : Int32.toInt 0 = 0 := rfl
          have c9 := congrArg Int32.toInt c9
          refine lv_iconst (pc := 58) (v := 0) C0.1 C0.2.1 dX10_around_58 (by decide) ?_
          exact xiret (pc := 59) C0 hr hH hS dX10_around_59 ⟨rfl, trivial⟩
        · have : Int32.toInt 0 = 0 := rfl
          have c9 : ¬ _ := fun q => c9 (Int32.toInt_inj.mp q)
          refine lv_iconst (pc := 54) (v := 1) C0.1 C0.2.1 dX10_around_54 (by decide) ?_
          refine lv_goto (pc := 55) (tgt := 59) C0.1 C0.2.1 dX10_around_55 (by decide) ?_
          exact xiret (pc := 59) C0 hr hH hS dX10_around_59 ⟨rfl, trivial⟩
      · have : Int64.toInt 0 = 0 := rfl
        have : Int64.toInt (x5.toInt64) = Int32.toInt x5 := Int32.toInt_toInt64 _
        have c7 := in_0i c7
        refine lv_iconst (pc := 43) (v := (-1)) C0.1 C0.2.1 dX10_around_43 (by decide) ?_
        exact xiret (pc := 44) C0 hr hH hS dX10_around_44 ⟨rfl, trivial⟩
  · have : Int32.toInt 1 = 1 := rfl
    have c1 : ¬ _ := fun q => c1 (Int32.toInt_inj.mp q)
    refine lv_bipush (pc := 8) (v := (-3)) C0.1 C0.2.1 dX10_around_8 (by decide) ?_
    exact xiret (pc := 10) C0 hr hH hS dX10_around_10 ⟨rfl, trivial⟩
set_option maxHeartbeats 4000000 in
set_option maxRecDepth 100000 in
theorem m_markAt (l : Launch) (D : va_G) (tA : Nat → ClassId) (b : Nat) (i F : Nat → Nat → Int32) (G : Nat → Nat → Int64) (x : Int32) (hI : IMm i F) : xMI l yX10_markAt cX10_markAt 2 (some .int) 1 25 D tA b 78 52 i F G [.ref (b + 78), .int x] (fun r u => u = (i, F, G) ∧ True) := by
  refine xstart RX10 rfl (by decide) (Nat.le_of_ble_eq_true rfl) ?_
  intro p e s m below meth c ls C0 hr hH hS hl
  have hl : lv_has ls 2 [(0, .ref (b + 78)), (1, .int x)] := hl
  have rg_x := fb_rng x
  have hI0 := hI
  obtain ⟨hsz, hbt, hks, hsrc, hTK, hCB, hWA, hwr, hmk, hG, hKA, hKI⟩ := hI0
  have hTKl := hTK.1

  refine lv_iload_n (pc := 0) C0.1 C0.2.1 dX10_markAt_0 rfl (lv_at hl 1 rfl) ?_
  refine lv_i2l (pc := 1) (v := x.toInt64) C0.1 C0.2.1 dX10_markAt_1 rfl ?_
  refine lv_lconst (pc := 2) (v := 0) C0.1 C0.2.1 dX10_markAt_2 (by decide) ?_
  refine lv_aload_n (pc := 3) C0.1 C0.2.1 dX10_markAt_3 rfl (lv_at hl 0 rfl) ?_
  refine xget (pc := 4) C0 hH 78 78 clX10 ⟨Nat.le_of_ble_eq_true rfl, Nat.le_of_ble_eq_true rfl⟩ ⟨rfl, rfl⟩ (Nat.le_of_ble_eq_true rfl) fl_X10_441 (v := .int (i 78 78)) rfl dX10_markAt_4 ?_
  refine lv_iconst (pc := 7) (v := 1) C0.1 C0.2.1 dX10_markAt_7 (by decide) ?_
  have : Int32.toInt 1 = 1 := rfl
  refine lv_isub (pc := 8) C0.1 C0.2.1 dX10_markAt_8 ?_
  refine lv_topi (fun x1 ex1 => ?_)
  have hx1 : Int32.toInt x1 = Int32.toInt (i 78 78) - Int32.toInt 1 := by rw [ex1]; exact fb_subI (by omega) (by omega)
  refine lv_i2l (pc := 9) (v := x1.toInt64) C0.1 C0.2.1 dX10_markAt_9 rfl ?_
  refine xcSI (pc := 10) [.long x.toInt64, .long 0, .long x1.toInt64] (c_X10_in l D tA b 78 52 i F G x.toInt64 0 x1.toInt64) C0 hH hS cw_X10_175 rfl ⟨Nat.le_of_ble_eq_true rfl, Nat.le_of_ble_eq_true rfl⟩ hl.1 rfl (Nat.le_of_ble_eq_true rfl) dX10_markAt_10 ⟨Nat.le_of_ble_eq_true rfl, Nat.le_of_ble_eq_true rfl⟩ (fun r2 ir2 Fr2 Gr2 _ locs hp hH hS => ?_)
  obtain ⟨hu, rfl⟩ := hp
  cases hu
  refine lv_if_eq (pc := 13) (tgt := 25) C0.1 C0.2.1 dX10_markAt_13 (by decide) (fun c3 => ?_) (fun c3 => ?_)
  · have : Int64.toInt 0 = 0 := rfl
    have : Int64.toInt (x1.toInt64) = Int32.toInt x1 := Int32.toInt_toInt64 _
    have c3 := in_0i c3
    refine lv_bipush (pc := 25) (v := (-12)) C0.1 C0.2.1 dX10_markAt_25 (by decide) ?_
    exact xiret (pc := 27) C0 hr hH hS dX10_markAt_27 ⟨rfl, trivial⟩
  · have : Int64.toInt 0 = 0 := rfl
    have : Int64.toInt (x1.toInt64) = Int32.toInt x1 := Int32.toInt_toInt64 _
    have c3 := in_1i c3
    refine lv_aload_n (pc := 16) C0.1 C0.2.1 dX10_markAt_16 rfl (lv_at hl 0 rfl) ?_
    refine xget (pc := 17) C0 hH 78 77 clX10 ⟨Nat.le_of_ble_eq_true rfl, Nat.le_of_ble_eq_true rfl⟩ ⟨rfl, rfl⟩ (Nat.le_of_ble_eq_true rfl) fl_X10_166 (v := .ref (b + 129)) rfl dX10_markAt_17 ?_
    refine lv_iload_n (pc := 20) C0.1 C0.2.1 dX10_markAt_20 rfl (lv_at hl 1 rfl) ?_
    refine xiald (pc := 21) (N := 200) C0 hH 129 ⟨Nat.le_of_ble_eq_true rfl, Nat.le_of_ble_eq_true rfl⟩ ⟨rfl, rfl⟩ (vI (by omega) (by omega)) dX10_markAt_21 ?_
    refine lv_goto (pc := 22) (tgt := 27) C0.1 C0.2.1 dX10_markAt_22 (by decide) ?_
    exact xiret (pc := 27) C0 hr hH hS dX10_markAt_27 ⟨rfl, trivial⟩
set_option maxHeartbeats 4000000 in
set_option maxRecDepth 100000 in
theorem m_mended (l : Launch) (D : va_G) (tA : Nat → ClassId) (b : Nat) (i F : Nat → Nat → Int32) (G : Nat → Nat → Int64) (x : Int32) (hI : IMm i F) : xMI l yX10_mended cX10_mended 2 (some .int) 1 25 D tA b 78 52 i F G [.ref (b + 78), .int x] (fun r u => u = (i, F, G) ∧ True) := by
  refine xstart RX10 rfl (by decide) (Nat.le_of_ble_eq_true rfl) ?_
  intro p e s m below meth c ls C0 hr hH hS hl
  have hl : lv_has ls 2 [(0, .ref (b + 78)), (1, .int x)] := hl
  have rg_x := fb_rng x
  have hI0 := hI
  obtain ⟨hsz, hbt, hks, hsrc, hTK, hCB, hWA, hwr, hmk, hG, hKA, hKI⟩ := hI0
  have hTKl := hTK.1

  refine lv_iload_n (pc := 0) C0.1 C0.2.1 dX10_mended_0 rfl (lv_at hl 1 rfl) ?_
  refine lv_i2l (pc := 1) (v := x.toInt64) C0.1 C0.2.1 dX10_mended_1 rfl ?_
  refine lv_lconst (pc := 2) (v := 0) C0.1 C0.2.1 dX10_mended_2 (by decide) ?_
  refine lv_lconst (pc := 3) (v := 1) C0.1 C0.2.1 dX10_mended_3 (by decide) ?_
  refine xcSI (pc := 4) [.long x.toInt64, .long 0, .long 1] (c_X10_in l D tA b 78 52 i F G x.toInt64 0 1) C0 hH hS cw_X10_175 rfl ⟨Nat.le_of_ble_eq_true rfl, Nat.le_of_ble_eq_true rfl⟩ hl.1 rfl (Nat.le_of_ble_eq_true rfl) dX10_mended_4 ⟨Nat.le_of_ble_eq_true rfl, Nat.le_of_ble_eq_true rfl⟩ (fun r1 ir1 Fr1 Gr1 _ locs hp hH hS => ?_)
  obtain ⟨hu, rfl⟩ := hp
  cases hu
  refine lv_if_eq (pc := 7) (tgt := 19) C0.1 C0.2.1 dX10_mended_7 (by decide) (fun c2 => ?_) (fun c2 => ?_)
  · have : Int64.toInt 0 = 0 := rfl
    have : Int64.toInt 1 = 1 := rfl
    have c2 := in_0i c2
    refine lv_bipush (pc := 19) (v := (-2)) C0.1 C0.2.1 dX10_mended_19 (by decide) ?_
    exact xiret (pc := 21) C0 hr hH hS dX10_mended_21 ⟨rfl, trivial⟩
  · have : Int64.toInt 0 = 0 := rfl
    have : Int64.toInt 1 = 1 := rfl
    have c2 := in_1i c2
    refine lv_aload_n (pc := 10) C0.1 C0.2.1 dX10_mended_10 rfl (lv_at hl 0 rfl) ?_
    refine xget (pc := 11) C0 hH 78 75 clX10 ⟨Nat.le_of_ble_eq_true rfl, Nat.le_of_ble_eq_true rfl⟩ ⟨rfl, rfl⟩ (Nat.le_of_ble_eq_true rfl) fl_X10_163 (v := .ref (b + 128)) rfl dX10_mended_11 ?_
    refine lv_iload_n (pc := 14) C0.1 C0.2.1 dX10_mended_14 rfl (lv_at hl 1 rfl) ?_
    refine xiald (pc := 15) (N := 2) C0 hH 128 ⟨Nat.le_of_ble_eq_true rfl, Nat.le_of_ble_eq_true rfl⟩ ⟨rfl, rfl⟩ (vI (by omega) (by omega)) dX10_mended_15 ?_
    refine lv_goto (pc := 16) (tgt := 21) C0.1 C0.2.1 dX10_mended_16 (by decide) ?_
    exact xiret (pc := 21) C0 hr hH hS dX10_mended_21 ⟨rfl, trivial⟩
set_option maxHeartbeats 4000000 in
set_option maxRecDepth 100000 in
theorem m_written (l : Launch) (D : va_G) (tA : Nat → ClassId) (b : Nat) (i F : Nat → Nat → Int32) (G : Nat → Nat → Int64) (x : Int32) (hI : IMm i F) : xMI l yX10_written cX10_written 2 (some .int) 1 25 D tA b 78 52 i F G [.ref (b + 78), .int x] (fun r u => u = (i, F, G) ∧ True) := by
  refine xstart RX10 rfl (by decide) (Nat.le_of_ble_eq_true rfl) ?_
  intro p e s m below meth c ls C0 hr hH hS hl
  have hl : lv_has ls 2 [(0, .ref (b + 78)), (1, .int x)] := hl
  have rg_x := fb_rng x
  have hI0 := hI
  obtain ⟨hsz, hbt, hks, hsrc, hTK, hCB, hWA, hwr, hmk, hG, hKA, hKI⟩ := hI0
  have hTKl := hTK.1

  refine lv_iload_n (pc := 0) C0.1 C0.2.1 dX10_written_0 rfl (lv_at hl 1 rfl) ?_
  refine lv_i2l (pc := 1) (v := x.toInt64) C0.1 C0.2.1 dX10_written_1 rfl ?_
  refine lv_lconst (pc := 2) (v := 0) C0.1 C0.2.1 dX10_written_2 (by decide) ?_
  refine lv_aload_n (pc := 3) C0.1 C0.2.1 dX10_written_3 rfl (lv_at hl 0 rfl) ?_
  refine xget (pc := 4) C0 hH 78 54 clX10 ⟨Nat.le_of_ble_eq_true rfl, Nat.le_of_ble_eq_true rfl⟩ ⟨rfl, rfl⟩ (Nat.le_of_ble_eq_true rfl) fl_X10_378 (v := .int (i 78 54)) rfl dX10_written_4 ?_
  refine lv_iconst (pc := 7) (v := 1) C0.1 C0.2.1 dX10_written_7 (by decide) ?_
  have : Int32.toInt 1 = 1 := rfl
  refine lv_isub (pc := 8) C0.1 C0.2.1 dX10_written_8 ?_
  refine lv_topi (fun x1 ex1 => ?_)
  have hx1 : Int32.toInt x1 = Int32.toInt (i 78 54) - Int32.toInt 1 := by rw [ex1]; exact fb_subI (by omega) (by omega)
  refine lv_i2l (pc := 9) (v := x1.toInt64) C0.1 C0.2.1 dX10_written_9 rfl ?_
  refine xcSI (pc := 10) [.long x.toInt64, .long 0, .long x1.toInt64] (c_X10_in l D tA b 78 52 i F G x.toInt64 0 x1.toInt64) C0 hH hS cw_X10_175 rfl ⟨Nat.le_of_ble_eq_true rfl, Nat.le_of_ble_eq_true rfl⟩ hl.1 rfl (Nat.le_of_ble_eq_true rfl) dX10_written_10 ⟨Nat.le_of_ble_eq_true rfl, Nat.le_of_ble_eq_true rfl⟩ (fun r2 ir2 Fr2 Gr2 _ locs hp hH hS => ?_)
  obtain ⟨hu, rfl⟩ := hp
  cases hu
  refine lv_if_eq (pc := 13) (tgt := 29) C0.1 C0.2.1 dX10_written_13 (by decide) (fun c3 => ?_) (fun c3 => ?_)
  · have : Int64.toInt 0 = 0 := rfl
    have : Int64.toInt (x1.toInt64) = Int32.toInt x1 := Int32.toInt_toInt64 _
    have c3 := in_0i c3
    refine lv_bipush (pc := 29) (v := (-9)) C0.1 C0.2.1 dX10_written_29 (by decide) ?_
    exact xiret (pc := 31) C0 hr hH hS dX10_written_31 ⟨rfl, trivial⟩
  · have : Int64.toInt 0 = 0 := rfl
    have : Int64.toInt (x1.toInt64) = Int32.toInt x1 := Int32.toInt_toInt64 _
    have c3 := in_1i c3
    refine lv_aload_n (pc := 16) C0.1 C0.2.1 dX10_written_16 rfl (lv_at hl 0 rfl) ?_
    refine xget (pc := 17) C0 hH 78 53 clX10 ⟨Nat.le_of_ble_eq_true rfl, Nat.le_of_ble_eq_true rfl⟩ ⟨rfl, rfl⟩ (Nat.le_of_ble_eq_true rfl) fl_X10_121 (v := .ref (b + 114)) rfl dX10_written_17 ?_
    refine lv_iload_n (pc := 20) C0.1 C0.2.1 dX10_written_20 rfl (lv_at hl 1 rfl) ?_
    refine xbald (pc := 21) (N := 4000) C0 hH 114 ⟨Nat.le_of_ble_eq_true rfl, Nat.le_of_ble_eq_true rfl⟩ ⟨rfl, rfl⟩ (vI (by omega) (by omega)) dX10_written_21 ?_
    refine lv_sipush (pc := 22) (v := 255) C0.1 C0.2.1 dX10_written_22 (by decide) ?_
    refine lv_iand (pc := 25) C0.1 C0.2.1 dX10_written_25 ?_
    refine lv_goto (pc := 26) (tgt := 31) C0.1 C0.2.1 dX10_written_26 (by decide) ?_
    exact xiret (pc := 31) C0 hr hH hS dX10_written_31 ⟨rfl, trivial⟩
set_option maxHeartbeats 4000000 in
set_option maxRecDepth 100000 in
theorem m_fault (l : Launch) (D : va_G) (tA : Nat → ClassId) (b : Nat) (i F : Nat → Nat → Int32) (G : Nat → Nat → Int64) (x : Int32) (hI : IMm i F) : xMI l yX10_fault cX10_fault 2 (some .int) 1 25 D tA b 78 52 i F G [.ref (b + 78), .int x] (fun r u => u = (i, F, G) ∧ True) := by
  refine xstart RX10 rfl (by decide) (Nat.le_of_ble_eq_true rfl) ?_
  intro p e s m below meth c ls C0 hr hH hS hl
  have hl : lv_has ls 2 [(0, .ref (b + 78)), (1, .int x)] := hl
  have rg_x := fb_rng x
  have hI0 := hI
  obtain ⟨hsz, hbt, hks, hsrc, hTK, hCB, hWA, hwr, hmk, hG, hKA, hKI⟩ := hI0
  have hTKl := hTK.1

  refine lv_iload_n (pc := 0) C0.1 C0.2.1 dX10_fault_0 rfl (lv_at hl 1 rfl) ?_
  refine lv_i2l (pc := 1) (v := x.toInt64) C0.1 C0.2.1 dX10_fault_1 rfl ?_
  refine lv_lconst (pc := 2) (v := 0) C0.1 C0.2.1 dX10_fault_2 (by decide) ?_
  refine lv_ldc2 (pc := 3) C0.1 C0.2.1 C0.2.2.2.1 (C0.2.2.2.2.1 _ kl_X10_206) dX10_fault_3 ?_
  refine xcSI (pc := 6) [.long x.toInt64, .long 0, .long 3] (c_X10_in l D tA b 78 52 i F G x.toInt64 0 3) C0 hH hS cw_X10_175 rfl ⟨Nat.le_of_ble_eq_true rfl, Nat.le_of_ble_eq_true rfl⟩ hl.1 rfl (Nat.le_of_ble_eq_true rfl) dX10_fault_6 ⟨Nat.le_of_ble_eq_true rfl, Nat.le_of_ble_eq_true rfl⟩ (fun r1 ir1 Fr1 Gr1 _ locs hp hH hS => ?_)
  obtain ⟨hu, rfl⟩ := hp
  cases hu
  refine lv_if_eq (pc := 9) (tgt := 21) C0.1 C0.2.1 dX10_fault_9 (by decide) (fun c2 => ?_) (fun c2 => ?_)
  · have : Int64.toInt 0 = 0 := rfl
    have : Int64.toInt 3 = 3 := rfl
    have c2 := in_0i c2
    refine lv_bipush (pc := 21) (v := (-2)) C0.1 C0.2.1 dX10_fault_21 (by decide) ?_
    exact xiret (pc := 23) C0 hr hH hS dX10_fault_23 ⟨rfl, trivial⟩
  · have : Int64.toInt 0 = 0 := rfl
    have : Int64.toInt 3 = 3 := rfl
    have c2 := in_1i c2
    refine lv_aload_n (pc := 12) C0.1 C0.2.1 dX10_fault_12 rfl (lv_at hl 0 rfl) ?_
    refine xget (pc := 13) C0 hH 78 16 clX10 ⟨Nat.le_of_ble_eq_true rfl, Nat.le_of_ble_eq_true rfl⟩ ⟨rfl, rfl⟩ (Nat.le_of_ble_eq_true rfl) fl_X10_36 (v := .ref (b + 87)) rfl dX10_fault_13 ?_
    refine lv_iload_n (pc := 16) C0.1 C0.2.1 dX10_fault_16 rfl (lv_at hl 1 rfl) ?_
    refine xiald (pc := 17) (N := 4) C0 hH 87 ⟨Nat.le_of_ble_eq_true rfl, Nat.le_of_ble_eq_true rfl⟩ ⟨rfl, rfl⟩ (vI (by omega) (by omega)) dX10_fault_17 ?_
    refine lv_goto (pc := 18) (tgt := 23) C0.1 C0.2.1 dX10_fault_18 (by decide) ?_
    exact xiret (pc := 23) C0 hr hH hS dX10_fault_23 ⟨rfl, trivial⟩
set_option maxHeartbeats 4000000 in
set_option maxRecDepth 100000 in
theorem m_count (l : Launch) (D : va_G) (tA : Nat → ClassId) (b : Nat) (i F : Nat → Nat → Int32) (G : Nat → Nat → Int64) (x : Int32) (hI : IMm i F) : xMI l yX10_count cX10_count 2 (some .int) 1 25 D tA b 78 52 i F G [.ref (b + 78), .int x] (fun r u => u = (i, F, G) ∧ True) := by
  refine xstart RX10 rfl (by decide) (Nat.le_of_ble_eq_true rfl) ?_
  intro p e s m below meth c ls C0 hr hH hS hl
  have hl : lv_has ls 2 [(0, .ref (b + 78)), (1, .int x)] := hl
  have rg_x := fb_rng x
  have hI0 := hI
  obtain ⟨hsz, hbt, hks, hsrc, hTK, hCB, hWA, hwr, hmk, hG, hKA, hKI⟩ := hI0
  have hTKl := hTK.1

  refine lv_iload_n (pc := 0) C0.1 C0.2.1 dX10_count_0 rfl (lv_at hl 1 rfl) ?_
  refine lv_iconst (pc := 1) (v := 3) C0.1 C0.2.1 dX10_count_1 (by decide) ?_
  refine lv_icmp_eq (pc := 2) (tgt := 10) C0.1 C0.2.1 dX10_count_2 (by decide) (fun c1 => ?_) (fun c1 => ?_)
  · have : Int32.toInt 3 = 3 := rfl
    have c1 := congrArg Int32.toInt c1
    refine lv_iload_n (pc := 10) C0.1 C0.2.1 dX10_count_10 rfl (lv_at hl 1 rfl) ?_
    refine lv_iconst (pc := 11) (v := 3) C0.1 C0.2.1 dX10_count_11 (by decide) ?_
    refine lv_icmp_ne (pc := 12) (tgt := 22) C0.1 C0.2.1 dX10_count_12 (by decide) (fun c2 => ?_) (fun c2 => ?_)
    · have : Int32.toInt 3 = 3 := rfl
      have c2 : ¬ _ := fun q => c2 (Int32.toInt_inj.mp q)
      refine lv_aload_n (pc := 22) C0.1 C0.2.1 dX10_count_22 rfl (lv_at hl 0 rfl) ?_
      refine xget (pc := 23) C0 hH 78 12 clX10 ⟨Nat.le_of_ble_eq_true rfl, Nat.le_of_ble_eq_true rfl⟩ ⟨rfl, rfl⟩ (Nat.le_of_ble_eq_true rfl) fl_X10_219 (v := .int (i 78 12)) rfl dX10_count_23 ?_
      exact xiret (pc := 26) C0 hr hH hS dX10_count_26 ⟨rfl, trivial⟩
    · have : Int32.toInt 3 = 3 := rfl
      have c2 := congrArg Int32.toInt c2
      refine lv_aload_n (pc := 15) C0.1 C0.2.1 dX10_count_15 rfl (lv_at hl 0 rfl) ?_
      refine xcVI (pc := 16) 78 [] (m_lines l D tA b i F G  (show 0 ≤ Int32.toInt (i 78 12) ∧ Int32.toInt (i 78 12) ≤ 600 from by omega)) C0 hH hS clX10 rfl ⟨⟨Nat.le_of_ble_eq_true rfl, Nat.le_of_ble_eq_true rfl⟩, rfl, rfl⟩ cw_X10_226 rfl ⟨Nat.le_of_ble_eq_true rfl, Nat.le_of_ble_eq_true rfl⟩ hl.1 rfl (Nat.le_of_ble_eq_true rfl) dX10_count_16 ⟨Nat.le_of_ble_eq_true rfl, Nat.le_of_ble_eq_true rfl⟩ (fun r3 ir3 Fr3 Gr3 _ locs hp hH hS => ?_)
      obtain ⟨hu, hpr3⟩ := hp
      cases hu
      refine lv_goto (pc := 19) (tgt := 26) C0.1 C0.2.1 dX10_count_19 (by decide) ?_
      exact xiret (pc := 26) C0 hr hH hS dX10_count_26 ⟨rfl, trivial⟩
  · have : Int32.toInt 3 = 3 := rfl
    have c1 : ¬ _ := fun q => c1 (Int32.toInt_inj.mp q)
    refine lv_iload_n (pc := 5) C0.1 C0.2.1 dX10_count_5 rfl (lv_at hl 1 rfl) ?_
    refine lv_iconst (pc := 6) (v := 4) C0.1 C0.2.1 dX10_count_6 (by decide) ?_
    refine lv_icmp_ne (pc := 7) (tgt := 27) C0.1 C0.2.1 dX10_count_7 (by decide) (fun c4 => ?_) (fun c4 => ?_)
    · have : Int32.toInt 4 = 4 := rfl
      have c4 : ¬ _ := fun q => c4 (Int32.toInt_inj.mp q)
      refine lv_iload_n (pc := 27) C0.1 C0.2.1 dX10_count_27 rfl (lv_at hl 1 rfl) ?_
      refine lv_i2l (pc := 28) (v := x.toInt64) C0.1 C0.2.1 dX10_count_28 rfl ?_
      refine lv_lconst (pc := 29) (v := 0) C0.1 C0.2.1 dX10_count_29 (by decide) ?_
      refine lv_ldc2 (pc := 30) C0.1 C0.2.1 C0.2.2.2.1 (C0.2.2.2.2.1 _ kl_X10_350) dX10_count_30 ?_
      refine xcSI (pc := 33) [.long x.toInt64, .long 0, .long 2] (c_X10_in l D tA b 78 52 i F G x.toInt64 0 2) C0 hH hS cw_X10_175 rfl ⟨Nat.le_of_ble_eq_true rfl, Nat.le_of_ble_eq_true rfl⟩ hl.1 rfl (Nat.le_of_ble_eq_true rfl) dX10_count_33 ⟨Nat.le_of_ble_eq_true rfl, Nat.le_of_ble_eq_true rfl⟩ (fun r5 ir5 Fr5 Gr5 _ locs hp hH hS => ?_)
      obtain ⟨hu, rfl⟩ := hp
      cases hu
      refine lv_if_ne (pc := 36) (tgt := 42) C0.1 C0.2.1 dX10_count_36 (by decide) (fun c6 => ?_) (fun c6 => ?_)
      · have : Int64.toInt 0 = 0 := rfl
        have : Int64.toInt 2 = 2 := rfl
        have c6 := in_1i c6
        refine lv_aload_n (pc := 42) C0.1 C0.2.1 dX10_count_42 rfl (lv_at hl 0 rfl) ?_
        refine xget (pc := 43) C0 hH 78 15 clX10 ⟨Nat.le_of_ble_eq_true rfl, Nat.le_of_ble_eq_true rfl⟩ ⟨rfl, rfl⟩ (Nat.le_of_ble_eq_true rfl) fl_X10_211 (v := .int (i 78 15)) rfl dX10_count_43 ?_
        refine lv_iconst (pc := 46) (v := 1) C0.1 C0.2.1 dX10_count_46 (by decide) ?_
        refine lv_icmp_eq (pc := 47) (tgt := 55) C0.1 C0.2.1 dX10_count_47 (by decide) (fun c7 => ?_) (fun c7 => ?_)
        · have : Int32.toInt 1 = 1 := rfl
          have c7 := congrArg Int32.toInt c7
          refine lv_iload_n (pc := 55) C0.1 C0.2.1 dX10_count_55 rfl (lv_at hl 1 rfl) ?_
          refine lv_if_ne (pc := 56) (tgt := 66) C0.1 C0.2.1 dX10_count_56 (by decide) (fun c8 => ?_) (fun c8 => ?_)
          · have : Int32.toInt 0 = 0 := rfl
            have c8 : ¬ _ := fun q => c8 (Int32.toInt_inj.mp q)
            refine lv_iload_n (pc := 66) C0.1 C0.2.1 dX10_count_66 rfl (lv_at hl 1 rfl) ?_
            refine lv_iconst (pc := 67) (v := 1) C0.1 C0.2.1 dX10_count_67 (by decide) ?_
            refine lv_icmp_ne (pc := 68) (tgt := 78) C0.1 C0.2.1 dX10_count_68 (by decide) (fun c9 => ?_) (fun c9 => ?_)
            · have : Int32.toInt 1 = 1 := rfl
              have c9 : ¬ _ := fun q => c9 (Int32.toInt_inj.mp q)
              refine lv_aload_n (pc := 78) C0.1 C0.2.1 dX10_count_78 rfl (lv_at hl 0 rfl) ?_
              refine xget (pc := 79) C0 hH 78 40 clX10 ⟨Nat.le_of_ble_eq_true rfl, Nat.le_of_ble_eq_true rfl⟩ ⟨rfl, rfl⟩ (Nat.le_of_ble_eq_true rfl) fl_X10_287 (v := .int (i 78 40)) rfl dX10_count_79 ?_
              exact xiret (pc := 82) C0 hr hH hS dX10_count_82 ⟨rfl, trivial⟩
            · have : Int32.toInt 1 = 1 := rfl
              have c9 := congrArg Int32.toInt c9
              refine lv_aload_n (pc := 71) C0.1 C0.2.1 dX10_count_71 rfl (lv_at hl 0 rfl) ?_
              refine xget (pc := 72) C0 hH 78 32 clX10 ⟨Nat.le_of_ble_eq_true rfl, Nat.le_of_ble_eq_true rfl⟩ ⟨rfl, rfl⟩ (Nat.le_of_ble_eq_true rfl) fl_X10_281 (v := .int (i 78 32)) rfl dX10_count_72 ?_
              refine lv_goto (pc := 75) (tgt := 82) C0.1 C0.2.1 dX10_count_75 (by decide) ?_
              exact xiret (pc := 82) C0 hr hH hS dX10_count_82 ⟨rfl, trivial⟩
          · have : Int32.toInt 0 = 0 := rfl
            have c8 := congrArg Int32.toInt c8
            refine lv_aload_n (pc := 59) C0.1 C0.2.1 dX10_count_59 rfl (lv_at hl 0 rfl) ?_
            refine xget (pc := 60) C0 hH 78 19 clX10 ⟨Nat.le_of_ble_eq_true rfl, Nat.le_of_ble_eq_true rfl⟩ ⟨rfl, rfl⟩ (Nat.le_of_ble_eq_true rfl) fl_X10_258 (v := .int (i 78 19)) rfl dX10_count_60 ?_
            refine lv_goto (pc := 63) (tgt := 82) C0.1 C0.2.1 dX10_count_63 (by decide) ?_
            exact xiret (pc := 82) C0 hr hH hS dX10_count_82 ⟨rfl, trivial⟩
        · have : Int32.toInt 1 = 1 := rfl
          have c7 : ¬ _ := fun q => c7 (Int32.toInt_inj.mp q)
          refine lv_bipush (pc := 50) (v := (-3)) C0.1 C0.2.1 dX10_count_50 (by decide) ?_
          refine lv_goto (pc := 52) (tgt := 82) C0.1 C0.2.1 dX10_count_52 (by decide) ?_
          exact xiret (pc := 82) C0 hr hH hS dX10_count_82 ⟨rfl, trivial⟩
      · have : Int64.toInt 0 = 0 := rfl
        have : Int64.toInt 2 = 2 := rfl
        have c6 := in_0i c6
        refine lv_bipush (pc := 39) (v := (-2)) C0.1 C0.2.1 dX10_count_39 (by decide) ?_
        exact xiret (pc := 41) C0 hr hH hS dX10_count_41 ⟨rfl, trivial⟩
    · have : Int32.toInt 4 = 4 := rfl
      have c4 := congrArg Int32.toInt c4
      refine lv_iload_n (pc := 10) C0.1 C0.2.1 dX10_count_10 rfl (lv_at hl 1 rfl) ?_
      refine lv_iconst (pc := 11) (v := 3) C0.1 C0.2.1 dX10_count_11 (by decide) ?_
      refine lv_icmp_ne (pc := 12) (tgt := 22) C0.1 C0.2.1 dX10_count_12 (by decide) (fun c10 => ?_) (fun c10 => ?_)
      · have : Int32.toInt 3 = 3 := rfl
        have c10 : ¬ _ := fun q => c10 (Int32.toInt_inj.mp q)
        refine lv_aload_n (pc := 22) C0.1 C0.2.1 dX10_count_22 rfl (lv_at hl 0 rfl) ?_
        refine xget (pc := 23) C0 hH 78 12 clX10 ⟨Nat.le_of_ble_eq_true rfl, Nat.le_of_ble_eq_true rfl⟩ ⟨rfl, rfl⟩ (Nat.le_of_ble_eq_true rfl) fl_X10_219 (v := .int (i 78 12)) rfl dX10_count_23 ?_
        exact xiret (pc := 26) C0 hr hH hS dX10_count_26 ⟨rfl, trivial⟩
      · have : Int32.toInt 3 = 3 := rfl
        have c10 := congrArg Int32.toInt c10
        refine lv_aload_n (pc := 15) C0.1 C0.2.1 dX10_count_15 rfl (lv_at hl 0 rfl) ?_
        refine xcVI (pc := 16) 78 [] (m_lines l D tA b i F G  (show 0 ≤ Int32.toInt (i 78 12) ∧ Int32.toInt (i 78 12) ≤ 600 from by omega)) C0 hH hS clX10 rfl ⟨⟨Nat.le_of_ble_eq_true rfl, Nat.le_of_ble_eq_true rfl⟩, rfl, rfl⟩ cw_X10_226 rfl ⟨Nat.le_of_ble_eq_true rfl, Nat.le_of_ble_eq_true rfl⟩ hl.1 rfl (Nat.le_of_ble_eq_true rfl) dX10_count_16 ⟨Nat.le_of_ble_eq_true rfl, Nat.le_of_ble_eq_true rfl⟩ (fun r11 ir11 Fr11 Gr11 _ locs hp hH hS => ?_)
        obtain ⟨hu, hpr11⟩ := hp
        cases hu
        refine lv_goto (pc := 19) (tgt := 26) C0.1 C0.2.1 dX10_count_19 (by decide) ?_
        exact xiret (pc := 26) C0 hr hH hS dX10_count_26 ⟨rfl, trivial⟩
set_option maxHeartbeats 4000000 in
set_option maxRecDepth 100000 in
theorem m_reach (l : Launch) (D : va_G) (tA : Nat → ClassId) (b : Nat) (i F : Nat → Nat → Int32) (G : Nat → Nat → Int64) (x y z : Int32) (hI : IMm i F) : xMI l yX10_reach cX10_reach 6 (some .int) 2 47 D tA b 78 52 i F G [.ref (b + 78), .int x, .int y, .int z] (fun r u => u = (i, F, G) ∧ True) := by
  refine xstart RX10 rfl (by decide) (Nat.le_of_ble_eq_true rfl) ?_
  intro p e s m below meth c ls C0 hr hH hS hl
  have hl : lv_has ls 6 [(0, .ref (b + 78)), (1, .int x), (2, .int y), (3, .int z)] := hl
  have rg_x := fb_rng x
  have rg_y := fb_rng y
  have rg_z := fb_rng z
  have hI0 := hI
  obtain ⟨hsz, hbt, hks, hsrc, hTK, hCB, hWA, hwr, hmk, hG, hKA, hKI⟩ := hI0
  have hTKl := hTK.1
  have L138 : ∀ (d : Nat) (cc : Int32) (H : Heap) (locs : List Loc) (ls : Array Slot), (0 ≤ cc.toInt ∧ cc.toInt < 601) → Hd D tA b 78 52 zz i F G H → va_S (xA b 78 52) s.heap H locs → lv_has ls 6 [(5, .int cc), (0, .ref (b + 78)), (3, .int z)] → W p l e (xR 2 47) s m ([.ref (b + 78), .int x, .int y, .int z] : List Value).toArray below meth c H locs 0 0 (MQ below (va_Qi (fun r u => u = (i, F, G) ∧ True) (xB D tA b 78 52 zz) (xA b 78 52)) ([.ref (b + 78), .int x, .int y, .int z] : List Value).toArray s 0 0 (xA b 78 52)) (F0 m 138 ls []) := by
    intro d
    intro cc H locs ls h1 hH hS hl
    have rg_cc := fb_rng cc
    refine lv_iload_n (pc := 138) C0.1 C0.2.1 dX10_reach_138 rfl (lv_at hl 2 rfl) ?_
    refine lv_iconst (pc := 139) (v := 2) C0.1 C0.2.1 dX10_reach_139 (by decide) ?_
    refine lv_irem (pc := 140) C0.1 C0.2.1 dX10_reach_140 (by decide) ?_
    refine lv_if_ne (pc := 141) (tgt := 154) C0.1 C0.2.1 dX10_reach_141 (by decide) (fun c201 => ?_) (fun c201 => ?_)
    · have : Int32.toInt 0 = 0 := rfl
      have c201 : ¬ _ := fun q => c201 (Int32.toInt_inj.mp q)
      refine lv_aload_n (pc := 154) C0.1 C0.2.1 dX10_reach_154 rfl (lv_at hl 1 rfl) ?_
      refine xget (pc := 155) C0 hH 78 29 clX10 ⟨Nat.le_of_ble_eq_true rfl, Nat.le_of_ble_eq_true rfl⟩ ⟨rfl, rfl⟩ (Nat.le_of_ble_eq_true rfl) fl_X10_70 (v := .ref (b + 97)) rfl dX10_reach_155 ?_
      refine lv_iload (pc := 158) C0.1 C0.2.1 dX10_reach_158 (lv_at hl 0 rfl) ?_
      refine xiald (pc := 160) (N := 601) C0 hH 97 ⟨Nat.le_of_ble_eq_true rfl, Nat.le_of_ble_eq_true rfl⟩ ⟨rfl, rfl⟩ (vI (by omega) (by omega)) dX10_reach_160 ?_
      exact xiret (pc := 161) C0 hr hH hS dX10_reach_161 ⟨rfl, trivial⟩
    · have : Int32.toInt 0 = 0 := rfl
      have c201 := congrArg Int32.toInt c201
      refine lv_aload_n (pc := 144) C0.1 C0.2.1 dX10_reach_144 rfl (lv_at hl 1 rfl) ?_
      refine xget (pc := 145) C0 hH 78 28 clX10 ⟨Nat.le_of_ble_eq_true rfl, Nat.le_of_ble_eq_true rfl⟩ ⟨rfl, rfl⟩ (Nat.le_of_ble_eq_true rfl) fl_X10_67 (v := .ref (b + 96)) rfl dX10_reach_145 ?_
      refine lv_iload (pc := 148) C0.1 C0.2.1 dX10_reach_148 (lv_at hl 0 rfl) ?_
      refine xiald (pc := 150) (N := 601) C0 hH 96 ⟨Nat.le_of_ble_eq_true rfl, Nat.le_of_ble_eq_true rfl⟩ ⟨rfl, rfl⟩ (vI (by omega) (by omega)) dX10_reach_150 ?_
      refine lv_goto (pc := 151) (tgt := 161) C0.1 C0.2.1 dX10_reach_151 (by decide) ?_
      exact xiret (pc := 161) C0 hr hH hS dX10_reach_161 ⟨rfl, trivial⟩
  have L94 : ∀ (d : Nat) (tt : Int32) (H : Heap) (locs : List Loc) (ls : Array Slot), (tt.toInt = -9 ∨ (0 ≤ tt.toInt ∧ tt.toInt < (i 78 19).toInt)) → Hd D tA b 78 52 zz i F G H → va_S (xA b 78 52) s.heap H locs → lv_has ls 6 [(4, .int tt), (0, .ref (b + 78)), (3, .int z)] → W p l e (xR 2 47) s m ([.ref (b + 78), .int x, .int y, .int z] : List Value).toArray below meth c H locs 0 0 (MQ below (va_Qi (fun r u => u = (i, F, G) ∧ True) (xB D tA b 78 52 zz) (xA b 78 52)) ([.ref (b + 78), .int x, .int y, .int z] : List Value).toArray s 0 0 (xA b 78 52)) (F0 m 94 ls []) := by
    intro d
    intro tt H locs ls h1 hH hS hl
    have rg_tt := fb_rng tt
    refine lv_iload (pc := 94) C0.1 C0.2.1 dX10_reach_94 (lv_at hl 0 rfl) ?_
    refine lv_bipush (pc := 96) (v := (-9)) C0.1 C0.2.1 dX10_reach_96 (by decide) ?_
    refine lv_icmp_ne (pc := 98) (tgt := 104) C0.1 C0.2.1 dX10_reach_98 (by decide) (fun c201 => ?_) (fun c201 => ?_)
    · have : Int32.toInt (-9) = (-9) := rfl
      have c201 : ¬ _ := fun q => c201 (Int32.toInt_inj.mp q)
      have ct := clI (x := tt) (by omega)
      have hat := hTK.2.1 (Int32.toNatClampNeg tt)
      have hma := (hTK.2.2 (Int32.toNatClampNeg tt) (by omega)).1
      refine lv_iload_n (pc := 104) C0.1 C0.2.1 dX10_reach_104 rfl (lv_at hl 2 rfl) ?_
      refine lv_iconst (pc := 105) (v := 2) C0.1 C0.2.1 dX10_reach_105 (by decide) ?_
      refine lv_icmp_ge (pc := 106) (tgt := 119) C0.1 C0.2.1 dX10_reach_106 (by decide) (fun c202 => ?_) (fun c202 => ?_)
      · have : Int32.toInt 2 = 2 := rfl
        have c202 := Int32.le_iff_toInt_le.mp c202
        refine lv_aload_n (pc := 119) C0.1 C0.2.1 dX10_reach_119 rfl (lv_at hl 1 rfl) ?_
        refine xget (pc := 120) C0 hH 78 21 clX10 ⟨Nat.le_of_ble_eq_true rfl, Nat.le_of_ble_eq_true rfl⟩ ⟨rfl, rfl⟩ (Nat.le_of_ble_eq_true rfl) fl_X10_45 (v := .ref (b + 89)) rfl dX10_reach_120 ?_
        refine lv_iload (pc := 123) C0.1 C0.2.1 dX10_reach_123 (lv_at hl 0 rfl) ?_
        refine xiald (pc := 125) (N := 600) C0 hH 89 ⟨Nat.le_of_ble_eq_true rfl, Nat.le_of_ble_eq_true rfl⟩ ⟨rfl, rfl⟩ (vI (by omega) (by omega)) dX10_reach_125 ?_
        refine lv_aload_n (pc := 126) C0.1 C0.2.1 dX10_reach_126 rfl (lv_at hl 1 rfl) ?_
        refine xget (pc := 127) C0 hH 78 22 clX10 ⟨Nat.le_of_ble_eq_true rfl, Nat.le_of_ble_eq_true rfl⟩ ⟨rfl, rfl⟩ (Nat.le_of_ble_eq_true rfl) fl_X10_48 (v := .ref (b + 90)) rfl dX10_reach_127 ?_
        refine lv_iload (pc := 130) C0.1 C0.2.1 dX10_reach_130 (lv_at hl 0 rfl) ?_
        refine xiald (pc := 132) (N := 600) C0 hH 90 ⟨Nat.le_of_ble_eq_true rfl, Nat.le_of_ble_eq_true rfl⟩ ⟨rfl, rfl⟩ (vI (by omega) (by omega)) dX10_reach_132 ?_
        refine lv_iadd (pc := 133) C0.1 C0.2.1 dX10_reach_133 ?_
        refine lv_topi (fun x203 ex203 => ?_)
        have hx203 : Int32.toInt x203 = Int32.toInt (F 89 (Int32.toNatClampNeg tt)) + Int32.toInt (F 90 (Int32.toNatClampNeg tt)) := by rw [ex203]; exact fb_addI (by omega) (by omega)
        refine lv_iconst (pc := 134) (v := 1) C0.1 C0.2.1 dX10_reach_134 (by decide) ?_
        have : Int32.toInt 1 = 1 := rfl
        refine lv_isub (pc := 135) C0.1 C0.2.1 dX10_reach_135 ?_
        refine lv_topi (fun x204 ex204 => ?_)
        have hx204 : Int32.toInt x204 = Int32.toInt x203 - Int32.toInt 1 := by rw [ex204]; exact fb_subI (by omega) (by omega)
        refine lv_istore (pc := 136) (lv' := [(5, .int x204), (4, .int tt), (0, .ref (b + 78)), (3, .int z)]) C0.1 C0.2.1 dX10_reach_136 hl (by decide) rfl (fun ls hl => ?_)
        exact L138 0 x204 _ _ _ (by have := congrArg Int32.toInt ex204; omega) hH hS (lv_sub hl [0, 2, 3] rfl)
      · have : Int32.toInt 2 = 2 := rfl
        have c202 : ¬ _ := fun q => c202 (Int32.le_iff_toInt_le.mpr q)
        refine lv_aload_n (pc := 109) C0.1 C0.2.1 dX10_reach_109 rfl (lv_at hl 1 rfl) ?_
        refine xget (pc := 110) C0 hH 78 21 clX10 ⟨Nat.le_of_ble_eq_true rfl, Nat.le_of_ble_eq_true rfl⟩ ⟨rfl, rfl⟩ (Nat.le_of_ble_eq_true rfl) fl_X10_45 (v := .ref (b + 89)) rfl dX10_reach_110 ?_
        refine lv_iload (pc := 113) C0.1 C0.2.1 dX10_reach_113 (lv_at hl 0 rfl) ?_
        refine xiald (pc := 115) (N := 600) C0 hH 89 ⟨Nat.le_of_ble_eq_true rfl, Nat.le_of_ble_eq_true rfl⟩ ⟨rfl, rfl⟩ (vI (by omega) (by omega)) dX10_reach_115 ?_
        refine lv_goto (pc := 116) (tgt := 136) C0.1 C0.2.1 dX10_reach_116 (by decide) ?_
        refine lv_topi (fun x205 ex205 => ?_)
        refine lv_istore (pc := 136) (lv' := [(5, .int x205), (4, .int tt), (0, .ref (b + 78)), (3, .int z)]) C0.1 C0.2.1 dX10_reach_136 hl (by decide) rfl (fun ls hl => ?_)
        exact L138 0 x205 _ _ _ (by have := congrArg Int32.toInt ex205; omega) hH hS (lv_sub hl [0, 2, 3] rfl)
    · have : Int32.toInt (-9) = (-9) := rfl
      have c201 := congrArg Int32.toInt c201
      refine lv_bipush (pc := 101) (v := (-9)) C0.1 C0.2.1 dX10_reach_101 (by decide) ?_
      exact xiret (pc := 103) C0 hr hH hS dX10_reach_103 ⟨rfl, trivial⟩
  refine lv_aload_n (pc := 0) C0.1 C0.2.1 dX10_reach_0 rfl (lv_at hl 0 rfl) ?_
  refine xget (pc := 1) C0 hH 78 15 clX10 ⟨Nat.le_of_ble_eq_true rfl, Nat.le_of_ble_eq_true rfl⟩ ⟨rfl, rfl⟩ (Nat.le_of_ble_eq_true rfl) fl_X10_211 (v := .int (i 78 15)) rfl dX10_reach_1 ?_
  refine lv_iconst (pc := 4) (v := 1) C0.1 C0.2.1 dX10_reach_4 (by decide) ?_
  refine lv_icmp_eq (pc := 5) (tgt := 11) C0.1 C0.2.1 dX10_reach_5 (by decide) (fun c1 => ?_) (fun c1 => ?_)
  · have : Int32.toInt 1 = 1 := rfl
    have c1 := congrArg Int32.toInt c1
    have hGT := hG (by have : Int32.toInt 1 = 1 := rfl; omega)
    have hGl := GTm.lin hGT
    have hz := hGT.2.1
    refine lv_iload_n (pc := 11) C0.1 C0.2.1 dX10_reach_11 rfl (lv_at hl 2 rfl) ?_
    refine lv_i2l (pc := 12) (v := y.toInt64) C0.1 C0.2.1 dX10_reach_12 rfl ?_
    refine lv_lconst (pc := 13) (v := 0) C0.1 C0.2.1 dX10_reach_13 (by decide) ?_
    refine lv_iload_n (pc := 14) C0.1 C0.2.1 dX10_reach_14 rfl (lv_at hl 1 rfl) ?_
    refine lv_if_eq (pc := 15) (tgt := 25) C0.1 C0.2.1 dX10_reach_15 (by decide) (fun c2 => ?_) (fun c2 => ?_)
    · have : Int32.toInt 0 = 0 := rfl
      have c2 := congrArg Int32.toInt c2
      refine lv_aload_n (pc := 25) C0.1 C0.2.1 dX10_reach_25 rfl (lv_at hl 0 rfl) ?_
      refine xget (pc := 26) C0 hH 78 40 clX10 ⟨Nat.le_of_ble_eq_true rfl, Nat.le_of_ble_eq_true rfl⟩ ⟨rfl, rfl⟩ (Nat.le_of_ble_eq_true rfl) fl_X10_287 (v := .int (i 78 40)) rfl dX10_reach_26 ?_
      refine lv_iconst (pc := 29) (v := 1) C0.1 C0.2.1 dX10_reach_29 (by decide) ?_
      have : Int32.toInt 1 = 1 := rfl
      refine lv_isub (pc := 30) C0.1 C0.2.1 dX10_reach_30 ?_
      refine lv_topi (fun x3 ex3 => ?_)
      have hx3 : Int32.toInt x3 = Int32.toInt (i 78 40) - Int32.toInt 1 := by rw [ex3]; exact fb_subI (by omega) (by omega)
      refine lv_i2l (pc := 31) (v := x3.toInt64) C0.1 C0.2.1 dX10_reach_31 rfl ?_
      refine xcSI (pc := 32) [.long y.toInt64, .long 0, .long x3.toInt64] (c_X10_in l D tA b 78 52 i F G y.toInt64 0 x3.toInt64) C0 hH hS cw_X10_175 rfl ⟨Nat.le_of_ble_eq_true rfl, Nat.le_of_ble_eq_true rfl⟩ hl.1 rfl (Nat.le_of_ble_eq_true rfl) dX10_reach_32 ⟨Nat.le_of_ble_eq_true rfl, Nat.le_of_ble_eq_true rfl⟩ (fun r4 ir4 Fr4 Gr4 _ locs hp hH hS => ?_)
      obtain ⟨hu, rfl⟩ := hp
      cases hu
      refine lv_if_ne (pc := 35) (tgt := 40) C0.1 C0.2.1 dX10_reach_35 (by decide) (fun c5 => ?_) (fun c5 => ?_)
      · have : Int64.toInt 0 = 0 := rfl
        have : Int64.toInt (x3.toInt64) = Int32.toInt x3 := Int32.toInt_toInt64 _
        have c5 := in_1i c5
        refine lv_iload_n (pc := 40) C0.1 C0.2.1 dX10_reach_40 rfl (lv_at hl 3 rfl) ?_
        refine lv_i2l (pc := 41) (v := z.toInt64) C0.1 C0.2.1 dX10_reach_41 rfl ?_
        refine lv_lconst (pc := 42) (v := 0) C0.1 C0.2.1 dX10_reach_42 (by decide) ?_
        refine lv_ldc2 (pc := 43) C0.1 C0.2.1 C0.2.2.2.1 (C0.2.2.2.2.1 _ kl_X10_206) dX10_reach_43 ?_
        refine xcSI (pc := 46) [.long z.toInt64, .long 0, .long 3] (c_X10_in l D tA b 78 52 i F G z.toInt64 0 3) C0 hH hS cw_X10_175 rfl ⟨Nat.le_of_ble_eq_true rfl, Nat.le_of_ble_eq_true rfl⟩ hl.1 rfl (Nat.le_of_ble_eq_true rfl) dX10_reach_46 ⟨Nat.le_of_ble_eq_true rfl, Nat.le_of_ble_eq_true rfl⟩ (fun r6 ir6 Fr6 Gr6 _ locs hp hH hS => ?_)
        obtain ⟨hu, rfl⟩ := hp
        cases hu
        refine lv_if_ne (pc := 49) (tgt := 55) C0.1 C0.2.1 dX10_reach_49 (by decide) (fun c7 => ?_) (fun c7 => ?_)
        · have : Int64.toInt 0 = 0 := rfl
          have : Int64.toInt 3 = 3 := rfl
          have c7 := in_1i c7
          refine lv_iload_n (pc := 55) C0.1 C0.2.1 dX10_reach_55 rfl (lv_at hl 1 rfl) ?_
          refine lv_if_eq (pc := 56) (tgt := 77) C0.1 C0.2.1 dX10_reach_56 (by decide) (fun c8 => ?_) (fun c8 => ?_)
          · have : Int32.toInt 0 = 0 := rfl
            have c8 := congrArg Int32.toInt c8
            refine lv_aload_n (pc := 77) C0.1 C0.2.1 dX10_reach_77 rfl (lv_at hl 0 rfl) ?_
            refine lv_iload_n (pc := 78) C0.1 C0.2.1 dX10_reach_78 rfl (lv_at hl 2 rfl) ?_
            refine lv_iload_n (pc := 79) C0.1 C0.2.1 dX10_reach_79 rfl (lv_at hl 3 rfl) ?_
            refine lv_iconst (pc := 80) (v := 1) C0.1 C0.2.1 dX10_reach_80 (by decide) ?_
            refine lv_icmp_le (pc := 81) (tgt := 88) C0.1 C0.2.1 dX10_reach_81 (by decide) (fun c9 => ?_) (fun c9 => ?_)
            · have : Int32.toInt 1 = 1 := rfl
              have c9 := Int32.le_iff_toInt_le.mp c9
              refine lv_iconst (pc := 88) (v := 0) C0.1 C0.2.1 dX10_reach_88 (by decide) ?_
              refine xcVI (pc := 89) 78 [.int y, .int 0] (m_endOfItem l D tA b i F G y 0 hWA hz hTKl) C0 hH hS clX10 rfl ⟨⟨Nat.le_of_ble_eq_true rfl, Nat.le_of_ble_eq_true rfl⟩, rfl, rfl⟩ cw_X10_364 rfl ⟨Nat.le_of_ble_eq_true rfl, Nat.le_of_ble_eq_true rfl⟩ hl.1 rfl (Nat.le_of_ble_eq_true rfl) dX10_reach_89 ⟨Nat.le_of_ble_eq_true rfl, Nat.le_of_ble_eq_true rfl⟩ (fun r10 ir10 Fr10 Gr10 _ locs hp hH hS => ?_)
              obtain ⟨hu, hpr10⟩ := hp
              cases hu
              refine lv_istore (pc := 92) (lv' := [(4, .int r10), (0, .ref (b + 78)), (1, .int x), (2, .int y), (3, .int z)]) C0.1 C0.2.1 dX10_reach_92 hl (by decide) rfl (fun ls hl => ?_)
              exact L94 0 r10 _ _ _ (by omega) hH hS (lv_sub hl [0, 1, 4] rfl)
            · have : Int32.toInt 1 = 1 := rfl
              have c9 : ¬ _ := fun q => c9 (Int32.le_iff_toInt_le.mpr q)
              refine lv_iconst (pc := 84) (v := 1) C0.1 C0.2.1 dX10_reach_84 (by decide) ?_
              refine lv_goto (pc := 85) (tgt := 89) C0.1 C0.2.1 dX10_reach_85 (by decide) ?_
              refine xcVI (pc := 89) 78 [.int y, .int 1] (m_endOfItem l D tA b i F G y 1 hWA hz hTKl) C0 hH hS clX10 rfl ⟨⟨Nat.le_of_ble_eq_true rfl, Nat.le_of_ble_eq_true rfl⟩, rfl, rfl⟩ cw_X10_364 rfl ⟨Nat.le_of_ble_eq_true rfl, Nat.le_of_ble_eq_true rfl⟩ hl.1 rfl (Nat.le_of_ble_eq_true rfl) dX10_reach_89 ⟨Nat.le_of_ble_eq_true rfl, Nat.le_of_ble_eq_true rfl⟩ (fun r11 ir11 Fr11 Gr11 _ locs hp hH hS => ?_)
              obtain ⟨hu, hpr11⟩ := hp
              cases hu
              refine lv_istore (pc := 92) (lv' := [(4, .int r11), (0, .ref (b + 78)), (1, .int x), (2, .int y), (3, .int z)]) C0.1 C0.2.1 dX10_reach_92 hl (by decide) rfl (fun ls hl => ?_)
              exact L94 0 r11 _ _ _ (by omega) hH hS (lv_sub hl [0, 1, 4] rfl)
          · have : Int32.toInt 0 = 0 := rfl
            have c8 : ¬ _ := fun q => c8 (Int32.toInt_inj.mp q)
            refine lv_aload_n (pc := 59) C0.1 C0.2.1 dX10_reach_59 rfl (lv_at hl 0 rfl) ?_
            refine lv_iload_n (pc := 60) C0.1 C0.2.1 dX10_reach_60 rfl (lv_at hl 2 rfl) ?_
            refine lv_iload_n (pc := 61) C0.1 C0.2.1 dX10_reach_61 rfl (lv_at hl 3 rfl) ?_
            refine lv_iconst (pc := 62) (v := 1) C0.1 C0.2.1 dX10_reach_62 (by decide) ?_
            refine lv_icmp_le (pc := 63) (tgt := 70) C0.1 C0.2.1 dX10_reach_63 (by decide) (fun c12 => ?_) (fun c12 => ?_)
            · have : Int32.toInt 1 = 1 := rfl
              have c12 := Int32.le_iff_toInt_le.mp c12
              refine lv_iconst (pc := 70) (v := 0) C0.1 C0.2.1 dX10_reach_70 (by decide) ?_
              refine xcVI (pc := 71) 78 [.int y, .int 0] (m_endOfBlock l D tA b i F G y 0 hWA hz hTKl) C0 hH hS clX10 rfl ⟨⟨Nat.le_of_ble_eq_true rfl, Nat.le_of_ble_eq_true rfl⟩, rfl, rfl⟩ cw_X10_358 rfl ⟨Nat.le_of_ble_eq_true rfl, Nat.le_of_ble_eq_true rfl⟩ hl.1 rfl (Nat.le_of_ble_eq_true rfl) dX10_reach_71 ⟨Nat.le_of_ble_eq_true rfl, Nat.le_of_ble_eq_true rfl⟩ (fun r13 ir13 Fr13 Gr13 _ locs hp hH hS => ?_)
              obtain ⟨hu, hpr13⟩ := hp
              cases hu
              refine lv_goto (pc := 74) (tgt := 92) C0.1 C0.2.1 dX10_reach_74 (by decide) ?_
              refine lv_istore (pc := 92) (lv' := [(4, .int r13), (0, .ref (b + 78)), (1, .int x), (2, .int y), (3, .int z)]) C0.1 C0.2.1 dX10_reach_92 hl (by decide) rfl (fun ls hl => ?_)
              exact L94 0 r13 _ _ _ (by omega) hH hS (lv_sub hl [0, 1, 4] rfl)
            · have : Int32.toInt 1 = 1 := rfl
              have c12 : ¬ _ := fun q => c12 (Int32.le_iff_toInt_le.mpr q)
              refine lv_iconst (pc := 66) (v := 1) C0.1 C0.2.1 dX10_reach_66 (by decide) ?_
              refine lv_goto (pc := 67) (tgt := 71) C0.1 C0.2.1 dX10_reach_67 (by decide) ?_
              refine xcVI (pc := 71) 78 [.int y, .int 1] (m_endOfBlock l D tA b i F G y 1 hWA hz hTKl) C0 hH hS clX10 rfl ⟨⟨Nat.le_of_ble_eq_true rfl, Nat.le_of_ble_eq_true rfl⟩, rfl, rfl⟩ cw_X10_358 rfl ⟨Nat.le_of_ble_eq_true rfl, Nat.le_of_ble_eq_true rfl⟩ hl.1 rfl (Nat.le_of_ble_eq_true rfl) dX10_reach_71 ⟨Nat.le_of_ble_eq_true rfl, Nat.le_of_ble_eq_true rfl⟩ (fun r14 ir14 Fr14 Gr14 _ locs hp hH hS => ?_)
              obtain ⟨hu, hpr14⟩ := hp
              cases hu
              refine lv_goto (pc := 74) (tgt := 92) C0.1 C0.2.1 dX10_reach_74 (by decide) ?_
              refine lv_istore (pc := 92) (lv' := [(4, .int r14), (0, .ref (b + 78)), (1, .int x), (2, .int y), (3, .int z)]) C0.1 C0.2.1 dX10_reach_92 hl (by decide) rfl (fun ls hl => ?_)
              exact L94 0 r14 _ _ _ (by omega) hH hS (lv_sub hl [0, 1, 4] rfl)
        · have : Int64.toInt 0 = 0 := rfl
          have : Int64.toInt 3 = 3 := rfl
          have c7 := in_0i c7
          refine lv_bipush (pc := 52) (v := (-2)) C0.1 C0.2.1 dX10_reach_52 (by decide) ?_
          exact xiret (pc := 54) C0 hr hH hS dX10_reach_54 ⟨rfl, trivial⟩
      · have : Int64.toInt 0 = 0 := rfl
        have : Int64.toInt (x3.toInt64) = Int32.toInt x3 := Int32.toInt_toInt64 _
        have c5 := in_0i c5
        refine lv_iconst (pc := 38) (v := (-1)) C0.1 C0.2.1 dX10_reach_38 (by decide) ?_
        exact xiret (pc := 39) C0 hr hH hS dX10_reach_39 ⟨rfl, trivial⟩
    · have : Int32.toInt 0 = 0 := rfl
      have c2 : ¬ _ := fun q => c2 (Int32.toInt_inj.mp q)
      refine lv_aload_n (pc := 18) C0.1 C0.2.1 dX10_reach_18 rfl (lv_at hl 0 rfl) ?_
      refine xget (pc := 19) C0 hH 78 32 clX10 ⟨Nat.le_of_ble_eq_true rfl, Nat.le_of_ble_eq_true rfl⟩ ⟨rfl, rfl⟩ (Nat.le_of_ble_eq_true rfl) fl_X10_281 (v := .int (i 78 32)) rfl dX10_reach_19 ?_
      refine lv_goto (pc := 22) (tgt := 29) C0.1 C0.2.1 dX10_reach_22 (by decide) ?_
      refine lv_iconst (pc := 29) (v := 1) C0.1 C0.2.1 dX10_reach_29 (by decide) ?_
      have : Int32.toInt 1 = 1 := rfl
      refine lv_isub (pc := 30) C0.1 C0.2.1 dX10_reach_30 ?_
      refine lv_topi (fun x15 ex15 => ?_)
      have hx15 : Int32.toInt x15 = Int32.toInt (i 78 32) - Int32.toInt 1 := by rw [ex15]; exact fb_subI (by omega) (by omega)
      refine lv_i2l (pc := 31) (v := x15.toInt64) C0.1 C0.2.1 dX10_reach_31 rfl ?_
      refine xcSI (pc := 32) [.long y.toInt64, .long 0, .long x15.toInt64] (c_X10_in l D tA b 78 52 i F G y.toInt64 0 x15.toInt64) C0 hH hS cw_X10_175 rfl ⟨Nat.le_of_ble_eq_true rfl, Nat.le_of_ble_eq_true rfl⟩ hl.1 rfl (Nat.le_of_ble_eq_true rfl) dX10_reach_32 ⟨Nat.le_of_ble_eq_true rfl, Nat.le_of_ble_eq_true rfl⟩ (fun r16 ir16 Fr16 Gr16 _ locs hp hH hS => ?_)
      obtain ⟨hu, rfl⟩ := hp
      cases hu
      refine lv_if_ne (pc := 35) (tgt := 40) C0.1 C0.2.1 dX10_reach_35 (by decide) (fun c17 => ?_) (fun c17 => ?_)
      · have : Int64.toInt 0 = 0 := rfl
        have : Int64.toInt (x15.toInt64) = Int32.toInt x15 := Int32.toInt_toInt64 _
        have c17 := in_1i c17
        refine lv_iload_n (pc := 40) C0.1 C0.2.1 dX10_reach_40 rfl (lv_at hl 3 rfl) ?_
        refine lv_i2l (pc := 41) (v := z.toInt64) C0.1 C0.2.1 dX10_reach_41 rfl ?_
        refine lv_lconst (pc := 42) (v := 0) C0.1 C0.2.1 dX10_reach_42 (by decide) ?_
        refine lv_ldc2 (pc := 43) C0.1 C0.2.1 C0.2.2.2.1 (C0.2.2.2.2.1 _ kl_X10_206) dX10_reach_43 ?_
        refine xcSI (pc := 46) [.long z.toInt64, .long 0, .long 3] (c_X10_in l D tA b 78 52 i F G z.toInt64 0 3) C0 hH hS cw_X10_175 rfl ⟨Nat.le_of_ble_eq_true rfl, Nat.le_of_ble_eq_true rfl⟩ hl.1 rfl (Nat.le_of_ble_eq_true rfl) dX10_reach_46 ⟨Nat.le_of_ble_eq_true rfl, Nat.le_of_ble_eq_true rfl⟩ (fun r18 ir18 Fr18 Gr18 _ locs hp hH hS => ?_)
        obtain ⟨hu, rfl⟩ := hp
        cases hu
        refine lv_if_ne (pc := 49) (tgt := 55) C0.1 C0.2.1 dX10_reach_49 (by decide) (fun c19 => ?_) (fun c19 => ?_)
        · have : Int64.toInt 0 = 0 := rfl
          have : Int64.toInt 3 = 3 := rfl
          have c19 := in_1i c19
          refine lv_iload_n (pc := 55) C0.1 C0.2.1 dX10_reach_55 rfl (lv_at hl 1 rfl) ?_
          refine lv_if_eq (pc := 56) (tgt := 77) C0.1 C0.2.1 dX10_reach_56 (by decide) (fun c20 => ?_) (fun c20 => ?_)
          · have : Int32.toInt 0 = 0 := rfl
            have c20 := congrArg Int32.toInt c20
            refine lv_aload_n (pc := 77) C0.1 C0.2.1 dX10_reach_77 rfl (lv_at hl 0 rfl) ?_
            refine lv_iload_n (pc := 78) C0.1 C0.2.1 dX10_reach_78 rfl (lv_at hl 2 rfl) ?_
            refine lv_iload_n (pc := 79) C0.1 C0.2.1 dX10_reach_79 rfl (lv_at hl 3 rfl) ?_
            refine lv_iconst (pc := 80) (v := 1) C0.1 C0.2.1 dX10_reach_80 (by decide) ?_
            refine lv_icmp_le (pc := 81) (tgt := 88) C0.1 C0.2.1 dX10_reach_81 (by decide) (fun c21 => ?_) (fun c21 => ?_)
            · have : Int32.toInt 1 = 1 := rfl
              have c21 := Int32.le_iff_toInt_le.mp c21
              refine lv_iconst (pc := 88) (v := 0) C0.1 C0.2.1 dX10_reach_88 (by decide) ?_
              refine xcVI (pc := 89) 78 [.int y, .int 0] (m_endOfItem l D tA b i F G y 0 hWA hz hTKl) C0 hH hS clX10 rfl ⟨⟨Nat.le_of_ble_eq_true rfl, Nat.le_of_ble_eq_true rfl⟩, rfl, rfl⟩ cw_X10_364 rfl ⟨Nat.le_of_ble_eq_true rfl, Nat.le_of_ble_eq_true rfl⟩ hl.1 rfl (Nat.le_of_ble_eq_true rfl) dX10_reach_89 ⟨Nat.le_of_ble_eq_true rfl, Nat.le_of_ble_eq_true rfl⟩ (fun r22 ir22 Fr22 Gr22 _ locs hp hH hS => ?_)
              obtain ⟨hu, hpr22⟩ := hp
              cases hu
              refine lv_istore (pc := 92) (lv' := [(4, .int r22), (0, .ref (b + 78)), (1, .int x), (2, .int y), (3, .int z)]) C0.1 C0.2.1 dX10_reach_92 hl (by decide) rfl (fun ls hl => ?_)
              exact L94 0 r22 _ _ _ (by omega) hH hS (lv_sub hl [0, 1, 4] rfl)
            · have : Int32.toInt 1 = 1 := rfl
              have c21 : ¬ _ := fun q => c21 (Int32.le_iff_toInt_le.mpr q)
              refine lv_iconst (pc := 84) (v := 1) C0.1 C0.2.1 dX10_reach_84 (by decide) ?_
              refine lv_goto (pc := 85) (tgt := 89) C0.1 C0.2.1 dX10_reach_85 (by decide) ?_
              refine xcVI (pc := 89) 78 [.int y, .int 1] (m_endOfItem l D tA b i F G y 1 hWA hz hTKl) C0 hH hS clX10 rfl ⟨⟨Nat.le_of_ble_eq_true rfl, Nat.le_of_ble_eq_true rfl⟩, rfl, rfl⟩ cw_X10_364 rfl ⟨Nat.le_of_ble_eq_true rfl, Nat.le_of_ble_eq_true rfl⟩ hl.1 rfl (Nat.le_of_ble_eq_true rfl) dX10_reach_89 ⟨Nat.le_of_ble_eq_true rfl, Nat.le_of_ble_eq_true rfl⟩ (fun r23 ir23 Fr23 Gr23 _ locs hp hH hS => ?_)
              obtain ⟨hu, hpr23⟩ := hp
              cases hu
              refine lv_istore (pc := 92) (lv' := [(4, .int r23), (0, .ref (b + 78)), (1, .int x), (2, .int y), (3, .int z)]) C0.1 C0.2.1 dX10_reach_92 hl (by decide) rfl (fun ls hl => ?_)
              exact L94 0 r23 _ _ _ (by omega) hH hS (lv_sub hl [0, 1, 4] rfl)
          · have : Int32.toInt 0 = 0 := rfl
            have c20 : ¬ _ := fun q => c20 (Int32.toInt_inj.mp q)
            refine lv_aload_n (pc := 59) C0.1 C0.2.1 dX10_reach_59 rfl (lv_at hl 0 rfl) ?_
            refine lv_iload_n (pc := 60) C0.1 C0.2.1 dX10_reach_60 rfl (lv_at hl 2 rfl) ?_
            refine lv_iload_n (pc := 61) C0.1 C0.2.1 dX10_reach_61 rfl (lv_at hl 3 rfl) ?_
            refine lv_iconst (pc := 62) (v := 1) C0.1 C0.2.1 dX10_reach_62 (by decide) ?_
            refine lv_icmp_le (pc := 63) (tgt := 70) C0.1 C0.2.1 dX10_reach_63 (by decide) (fun c24 => ?_) (fun c24 => ?_)
            · have : Int32.toInt 1 = 1 := rfl
              have c24 := Int32.le_iff_toInt_le.mp c24
              refine lv_iconst (pc := 70) (v := 0) C0.1 C0.2.1 dX10_reach_70 (by decide) ?_
              refine xcVI (pc := 71) 78 [.int y, .int 0] (m_endOfBlock l D tA b i F G y 0 hWA hz hTKl) C0 hH hS clX10 rfl ⟨⟨Nat.le_of_ble_eq_true rfl, Nat.le_of_ble_eq_true rfl⟩, rfl, rfl⟩ cw_X10_358 rfl ⟨Nat.le_of_ble_eq_true rfl, Nat.le_of_ble_eq_true rfl⟩ hl.1 rfl (Nat.le_of_ble_eq_true rfl) dX10_reach_71 ⟨Nat.le_of_ble_eq_true rfl, Nat.le_of_ble_eq_true rfl⟩ (fun r25 ir25 Fr25 Gr25 _ locs hp hH hS => ?_)
              obtain ⟨hu, hpr25⟩ := hp
              cases hu
              refine lv_goto (pc := 74) (tgt := 92) C0.1 C0.2.1 dX10_reach_74 (by decide) ?_
              refine lv_istore (pc := 92) (lv' := [(4, .int r25), (0, .ref (b + 78)), (1, .int x), (2, .int y), (3, .int z)]) C0.1 C0.2.1 dX10_reach_92 hl (by decide) rfl (fun ls hl => ?_)
              exact L94 0 r25 _ _ _ (by omega) hH hS (lv_sub hl [0, 1, 4] rfl)
            · have : Int32.toInt 1 = 1 := rfl
              have c24 : ¬ _ := fun q => c24 (Int32.le_iff_toInt_le.mpr q)
              refine lv_iconst (pc := 66) (v := 1) C0.1 C0.2.1 dX10_reach_66 (by decide) ?_
              refine lv_goto (pc := 67) (tgt := 71) C0.1 C0.2.1 dX10_reach_67 (by decide) ?_
              refine xcVI (pc := 71) 78 [.int y, .int 1] (m_endOfBlock l D tA b i F G y 1 hWA hz hTKl) C0 hH hS clX10 rfl ⟨⟨Nat.le_of_ble_eq_true rfl, Nat.le_of_ble_eq_true rfl⟩, rfl, rfl⟩ cw_X10_358 rfl ⟨Nat.le_of_ble_eq_true rfl, Nat.le_of_ble_eq_true rfl⟩ hl.1 rfl (Nat.le_of_ble_eq_true rfl) dX10_reach_71 ⟨Nat.le_of_ble_eq_true rfl, Nat.le_of_ble_eq_true rfl⟩ (fun r26 ir26 Fr26 Gr26 _ locs hp hH hS => ?_)
              obtain ⟨hu, hpr26⟩ := hp
              cases hu
              refine lv_goto (pc := 74) (tgt := 92) C0.1 C0.2.1 dX10_reach_74 (by decide) ?_
              refine lv_istore (pc := 92) (lv' := [(4, .int r26), (0, .ref (b + 78)), (1, .int x), (2, .int y), (3, .int z)]) C0.1 C0.2.1 dX10_reach_92 hl (by decide) rfl (fun ls hl => ?_)
              exact L94 0 r26 _ _ _ (by omega) hH hS (lv_sub hl [0, 1, 4] rfl)
        · have : Int64.toInt 0 = 0 := rfl
          have : Int64.toInt 3 = 3 := rfl
          have c19 := in_0i c19
          refine lv_bipush (pc := 52) (v := (-2)) C0.1 C0.2.1 dX10_reach_52 (by decide) ?_
          exact xiret (pc := 54) C0 hr hH hS dX10_reach_54 ⟨rfl, trivial⟩
      · have : Int64.toInt 0 = 0 := rfl
        have : Int64.toInt (x15.toInt64) = Int32.toInt x15 := Int32.toInt_toInt64 _
        have c17 := in_0i c17
        refine lv_iconst (pc := 38) (v := (-1)) C0.1 C0.2.1 dX10_reach_38 (by decide) ?_
        exact xiret (pc := 39) C0 hr hH hS dX10_reach_39 ⟨rfl, trivial⟩
  · have : Int32.toInt 1 = 1 := rfl
    have c1 : ¬ _ := fun q => c1 (Int32.toInt_inj.mp q)
    refine lv_bipush (pc := 8) (v := (-3)) C0.1 C0.2.1 dX10_reach_8 (by decide) ?_
    exact xiret (pc := 10) C0 hr hH hS dX10_reach_10 ⟨rfl, trivial⟩
