set_option maxRecDepth 20000 in
theorem fl_X10_258 : Cond.fieldLink RX10 258 (TX10 19).1 (TX10 19).2.1 (TX10 19).2.2.1 ∈ WALL := wm 1043 (by decide +kernel) rfl
set_option maxRecDepth 20000 in
theorem cw_X10_274 : CwV RX10 274 yX10_behind cX10_behind 4 (some .int) 2 := ⟨wm 1384 (by decide +kernel) rfl, wm 1386 (by decide +kernel) rfl, wms 49 (by decide +kernel) rfl, wm 11 (by decide +kernel) rfl, wm 1387 rfl rfl, by decide +kernel⟩
set_option maxRecDepth 20000 in
theorem cw_X10_270 : CwV RX10 270 yX10_add cX10_add 8 none 4 := ⟨wm 1377 (by decide +kernel) rfl, wm 1379 (by decide +kernel) rfl, wms 48 (by decide +kernel) rfl, wm 11 (by decide +kernel) rfl, wm 1380 rfl rfl, by decide +kernel⟩
set_option maxRecDepth 20000 in
theorem cw_X10_264 : CwV RX10 264 yX10_next cX10_next 4 (some .int) 2 := ⟨wm 1369 (by decide +kernel) rfl, wm 1371 (by decide +kernel) rfl, wms 46 (by decide +kernel) rfl, wm 11 (by decide +kernel) rfl, wm 1372 rfl rfl, by decide +kernel⟩
set_option maxRecDepth 20000 in
theorem cw_X10_267 : CwV RX10 267 yX10_tabsFit cX10_tabsFit 4 (some .boolean) 2 := ⟨wm 1361 (by decide +kernel) rfl, wm 1363 (by decide +kernel) rfl, wms 44 (by decide +kernel) rfl, wm 11 (by decide +kernel) rfl, wm 1364 rfl rfl, by decide +kernel⟩
set_option maxRecDepth 20000 in
theorem cw_X10_278 : CwV RX10 278 yX10_cutOne cX10_cutOne 7 (some .int) 2 := ⟨wm 1373 (by decide +kernel) rfl, wm 1375 (by decide +kernel) rfl, wms 47 (by decide +kernel) rfl, wm 11 (by decide +kernel) rfl, wm 1376 rfl rfl, by decide +kernel⟩
theorem dX10_add_79 : decode cX10_add 79 = .ok (.iload 7, 2) := by decide +kernel
theorem dX10_add_81 : decode cX10_add 81 = .ok (.iload_n 3, 1) := by decide +kernel
theorem dX10_add_82 : decode cX10_add 82 = .ok (.if_icmp .ge 43, 3) := by decide +kernel
theorem dX10_add_125 : decode cX10_add 125 = .ok (.aload_n 0, 1) := by decide +kernel
theorem dX10_add_126 : decode cX10_add 126 = .ok (.getfield 61, 3) := by decide +kernel
theorem dX10_add_129 : decode cX10_add 129 = .ok (.aload_n 0, 1) := by decide +kernel
theorem dX10_add_130 : decode cX10_add 130 = .ok (.getfield 258, 3) := by decide +kernel
theorem dX10_add_133 : decode cX10_add 133 = .ok (.lload 5, 2) := by decide +kernel
theorem dX10_add_135 : decode cX10_add 135 = .ok (.lastore, 1) := by decide +kernel
theorem dX10_add_136 : decode cX10_add 136 = .ok (.aload_n 0, 1) := by decide +kernel
theorem dX10_add_137 : decode cX10_add 137 = .ok (.dup, 1) := by decide +kernel
theorem dX10_add_138 : decode cX10_add 138 = .ok (.getfield 258, 3) := by decide +kernel
theorem dX10_add_141 : decode cX10_add 141 = .ok (.iconst 1, 1) := by decide +kernel
theorem dX10_add_142 : decode cX10_add 142 = .ok (.iadd, 1) := by decide +kernel
theorem dX10_add_143 : decode cX10_add 143 = .ok (.putfield 258, 3) := by decide +kernel
theorem dX10_add_146 : decode cX10_add 146 = .ok (.return_, 1) := by decide +kernel
theorem dX10_add_85 : decode cX10_add 85 = .ok (.iload_n 1, 1) := by decide +kernel
theorem dX10_add_86 : decode cX10_add 86 = .ok (.ifCond .eq 8, 3) := by decide +kernel
theorem dX10_add_94 : decode cX10_add 94 = .ok (.lload 5, 2) := by decide +kernel
theorem dX10_add_96 : decode cX10_add 96 = .ok (.aload_n 0, 1) := by decide +kernel
theorem dX10_add_97 : decode cX10_add 97 = .ok (.getfield 39, 3) := by decide +kernel
theorem dX10_add_100 : decode cX10_add 100 = .ok (.iload 7, 2) := by decide +kernel
theorem dX10_add_102 : decode cX10_add 102 = .ok (.baload, 1) := by decide +kernel
theorem dX10_add_103 : decode cX10_add 103 = .ok (.i2l, 1) := by decide +kernel
theorem dX10_add_104 : decode cX10_add 104 = .ok (.ldc2_w 169, 3) := by decide +kernel
theorem dX10_add_107 : decode cX10_add 107 = .ok (.land, 1) := by decide +kernel
theorem dX10_add_108 : decode cX10_add 108 = .ok (.bipush 8, 2) := by decide +kernel
theorem dX10_add_110 : decode cX10_add 110 = .ok (.iload 7, 2) := by decide +kernel
theorem dX10_add_112 : decode cX10_add 112 = .ok (.iload_n 2, 1) := by decide +kernel
theorem dX10_add_113 : decode cX10_add 113 = .ok (.isub, 1) := by decide +kernel
theorem dX10_add_114 : decode cX10_add 114 = .ok (.imul, 1) := by decide +kernel
theorem dX10_add_115 : decode cX10_add 115 = .ok (.lshl, 1) := by decide +kernel
theorem dX10_add_116 : decode cX10_add 116 = .ok (.lor, 1) := by decide +kernel
theorem dX10_add_117 : decode cX10_add 117 = .ok (.lstore 5, 2) := by decide +kernel
theorem dX10_add_119 : decode cX10_add 119 = .ok (.iinc 7 1, 3) := by decide +kernel
theorem dX10_add_122 : decode cX10_add 122 = .ok (.goto (-43), 3) := by decide +kernel
theorem dX10_add_89 : decode cX10_add 89 = .ok (.iload_n 1, 1) := by decide +kernel
theorem dX10_add_90 : decode cX10_add 90 = .ok (.iconst 2, 1) := by decide +kernel
theorem dX10_add_91 : decode cX10_add 91 = .ok (.if_icmp .ne 34, 3) := by decide +kernel
theorem dX10_add_0 : decode cX10_add 0 = .ok (.aload_n 0, 1) := by decide +kernel
theorem dX10_add_1 : decode cX10_add 1 = .ok (.getfield 42, 3) := by decide +kernel
theorem dX10_add_4 : decode cX10_add 4 = .ok (.aload_n 0, 1) := by decide +kernel
theorem dX10_add_5 : decode cX10_add 5 = .ok (.getfield 258, 3) := by decide +kernel
theorem dX10_add_8 : decode cX10_add 8 = .ok (.iload_n 1, 1) := by decide +kernel
theorem dX10_add_9 : decode cX10_add 9 = .ok (.iastore, 1) := by decide +kernel
theorem dX10_add_10 : decode cX10_add 10 = .ok (.aload_n 0, 1) := by decide +kernel
theorem dX10_add_11 : decode cX10_add 11 = .ok (.getfield 45, 3) := by decide +kernel
theorem dX10_add_14 : decode cX10_add 14 = .ok (.aload_n 0, 1) := by decide +kernel
theorem dX10_add_15 : decode cX10_add 15 = .ok (.getfield 258, 3) := by decide +kernel
theorem dX10_add_18 : decode cX10_add 18 = .ok (.iload_n 2, 1) := by decide +kernel
theorem dX10_add_19 : decode cX10_add 19 = .ok (.iastore, 1) := by decide +kernel
theorem dX10_add_20 : decode cX10_add 20 = .ok (.aload_n 0, 1) := by decide +kernel
theorem dX10_add_21 : decode cX10_add 21 = .ok (.getfield 48, 3) := by decide +kernel
theorem dX10_add_24 : decode cX10_add 24 = .ok (.aload_n 0, 1) := by decide +kernel
theorem dX10_add_25 : decode cX10_add 25 = .ok (.getfield 258, 3) := by decide +kernel
theorem dX10_add_28 : decode cX10_add 28 = .ok (.iload_n 3, 1) := by decide +kernel
theorem dX10_add_29 : decode cX10_add 29 = .ok (.iload_n 2, 1) := by decide +kernel
theorem dX10_add_30 : decode cX10_add 30 = .ok (.isub, 1) := by decide +kernel
theorem dX10_add_31 : decode cX10_add 31 = .ok (.iastore, 1) := by decide +kernel
theorem dX10_add_32 : decode cX10_add 32 = .ok (.aload_n 0, 1) := by decide +kernel
theorem dX10_add_33 : decode cX10_add 33 = .ok (.getfield 51, 3) := by decide +kernel
theorem dX10_add_36 : decode cX10_add 36 = .ok (.aload_n 0, 1) := by decide +kernel
theorem dX10_add_37 : decode cX10_add 37 = .ok (.getfield 258, 3) := by decide +kernel
theorem dX10_add_40 : decode cX10_add 40 = .ok (.aload_n 0, 1) := by decide +kernel
theorem dX10_add_41 : decode cX10_add 41 = .ok (.getfield 67, 3) := by decide +kernel
theorem dX10_add_44 : decode cX10_add 44 = .ok (.iload_n 2, 1) := by decide +kernel
theorem dX10_add_45 : decode cX10_add 45 = .ok (.iaload, 1) := by decide +kernel
theorem dX10_add_46 : decode cX10_add 46 = .ok (.iastore, 1) := by decide +kernel
theorem dX10_add_47 : decode cX10_add 47 = .ok (.aload_n 0, 1) := by decide +kernel
theorem dX10_add_48 : decode cX10_add 48 = .ok (.getfield 54, 3) := by decide +kernel
theorem dX10_add_51 : decode cX10_add 51 = .ok (.aload_n 0, 1) := by decide +kernel
theorem dX10_add_52 : decode cX10_add 52 = .ok (.getfield 258, 3) := by decide +kernel
theorem dX10_add_55 : decode cX10_add 55 = .ok (.aload_n 0, 1) := by decide +kernel
theorem dX10_add_56 : decode cX10_add 56 = .ok (.getfield 70, 3) := by decide +kernel
theorem dX10_add_59 : decode cX10_add 59 = .ok (.iload_n 2, 1) := by decide +kernel
theorem dX10_add_60 : decode cX10_add 60 = .ok (.iaload, 1) := by decide +kernel
theorem dX10_add_61 : decode cX10_add 61 = .ok (.iastore, 1) := by decide +kernel
theorem dX10_add_62 : decode cX10_add 62 = .ok (.aload_n 0, 1) := by decide +kernel
theorem dX10_add_63 : decode cX10_add 63 = .ok (.getfield 57, 3) := by decide +kernel
theorem dX10_add_66 : decode cX10_add 66 = .ok (.aload_n 0, 1) := by decide +kernel
theorem dX10_add_67 : decode cX10_add 67 = .ok (.getfield 258, 3) := by decide +kernel
theorem dX10_add_70 : decode cX10_add 70 = .ok (.iload 4, 2) := by decide +kernel
theorem dX10_add_72 : decode cX10_add 72 = .ok (.bastore, 1) := by decide +kernel
theorem dX10_add_73 : decode cX10_add 73 = .ok (.lconst 0, 1) := by decide +kernel
theorem dX10_add_74 : decode cX10_add 74 = .ok (.lstore 5, 2) := by decide +kernel
theorem dX10_add_76 : decode cX10_add 76 = .ok (.iload_n 2, 1) := by decide +kernel
theorem dX10_add_77 : decode cX10_add 77 = .ok (.istore 7, 2) := by decide +kernel
theorem dX10_cutOne_0 : decode cX10_cutOne 0 = .ok (.aload_n 0, 1) := by decide +kernel
theorem dX10_cutOne_1 : decode cX10_cutOne 1 = .ok (.getfield 39, 3) := by decide +kernel
theorem dX10_cutOne_4 : decode cX10_cutOne 4 = .ok (.iload_n 1, 1) := by decide +kernel
theorem dX10_cutOne_5 : decode cX10_cutOne 5 = .ok (.baload, 1) := by decide +kernel
theorem dX10_cutOne_6 : decode cX10_cutOne 6 = .ok (.istore_n 3, 1) := by decide +kernel
theorem dX10_cutOne_7 : decode cX10_cutOne 7 = .ok (.iload_n 3, 1) := by decide +kernel
theorem dX10_cutOne_8 : decode cX10_cutOne 8 = .ok (.bipush 39, 2) := by decide +kernel
theorem dX10_cutOne_10 : decode cX10_cutOne 10 = .ok (.if_icmp .ne 72, 3) := by decide +kernel
theorem dX10_cutOne_82 : decode cX10_cutOne 82 = .ok (.iload_n 3, 1) := by decide +kernel
theorem dX10_cutOne_83 : decode cX10_cutOne 83 = .ok (.invokestatic 171, 3) := by decide +kernel
theorem dX10_cutOne_86 : decode cX10_cutOne 86 = .ok (.istore 4, 2) := by decide +kernel
theorem dX10_cutOne_88 : decode cX10_cutOne 88 = .ok (.iload 4, 2) := by decide +kernel
theorem dX10_cutOne_90 : decode cX10_cutOne 90 = .ok (.ifCond .ne 10, 3) := by decide +kernel
theorem dX10_cutOne_100 : decode cX10_cutOne 100 = .ok (.aload_n 0, 1) := by decide +kernel
theorem dX10_cutOne_101 : decode cX10_cutOne 101 = .ok (.iload_n 1, 1) := by decide +kernel
theorem dX10_cutOne_102 : decode cX10_cutOne 102 = .ok (.iload 4, 2) := by decide +kernel
theorem dX10_cutOne_104 : decode cX10_cutOne 104 = .ok (.invokevirtual 274, 3) := by decide +kernel
theorem dX10_cutOne_107 : decode cX10_cutOne 107 = .ok (.istore 5, 2) := by decide +kernel
theorem dX10_cutOne_109 : decode cX10_cutOne 109 = .ok (.iload 5, 2) := by decide +kernel
theorem dX10_cutOne_111 : decode cX10_cutOne 111 = .ok (.iload_n 1, 1) := by decide +kernel
theorem dX10_cutOne_112 : decode cX10_cutOne 112 = .ok (.isub, 1) := by decide +kernel
theorem dX10_cutOne_113 : decode cX10_cutOne 113 = .ok (.iload 4, 2) := by decide +kernel
theorem dX10_cutOne_115 : decode cX10_cutOne 115 = .ok (.ifCond .eq 8, 3) := by decide +kernel
theorem dX10_cutOne_123 : decode cX10_cutOne 123 = .ok (.bipush 9, 2) := by decide +kernel
theorem dX10_cutOne_125 : decode cX10_cutOne 125 = .ok (.if_icmp .le 14, 3) := by decide +kernel
theorem dX10_cutOne_139 : decode cX10_cutOne 139 = .ok (.aload_n 0, 1) := by decide +kernel
theorem dX10_cutOne_140 : decode cX10_cutOne 140 = .ok (.iload 4, 2) := by decide +kernel
theorem dX10_cutOne_142 : decode cX10_cutOne 142 = .ok (.ifCond .eq 7, 3) := by decide +kernel
theorem dX10_cutOne_149 : decode cX10_cutOne 149 = .ok (.iconst 1, 1) := by decide +kernel
theorem dX10_cutOne_150 : decode cX10_cutOne 150 = .ok (.iload_n 1, 1) := by decide +kernel
theorem dX10_cutOne_151 : decode cX10_cutOne 151 = .ok (.iload 5, 2) := by decide +kernel
theorem dX10_cutOne_153 : decode cX10_cutOne 153 = .ok (.iload_n 2, 1) := by decide +kernel
theorem dX10_cutOne_154 : decode cX10_cutOne 154 = .ok (.invokevirtual 270, 3) := by decide +kernel
theorem dX10_cutOne_157 : decode cX10_cutOne 157 = .ok (.iload 5, 2) := by decide +kernel
theorem dX10_cutOne_159 : decode cX10_cutOne 159 = .ok (.ireturn, 1) := by decide +kernel
theorem dX10_cutOne_145 : decode cX10_cutOne 145 = .ok (.iconst 0, 1) := by decide +kernel
theorem dX10_cutOne_146 : decode cX10_cutOne 146 = .ok (.goto 4, 3) := by decide +kernel
theorem dX10_cutOne_128 : decode cX10_cutOne 128 = .ok (.aload_n 0, 1) := by decide +kernel
theorem dX10_cutOne_129 : decode cX10_cutOne 129 = .ok (.iconst 1, 1) := by decide +kernel
theorem dX10_cutOne_130 : decode cX10_cutOne 130 = .ok (.iload_n 1, 1) := by decide +kernel
theorem dX10_cutOne_131 : decode cX10_cutOne 131 = .ok (.invokevirtual 254, 3) := by decide +kernel
theorem dX10_cutOne_134 : decode cX10_cutOne 134 = .ok (.istore 6, 2) := by decide +kernel
theorem dX10_cutOne_136 : decode cX10_cutOne 136 = .ok (.bipush (-9), 2) := by decide +kernel
theorem dX10_cutOne_138 : decode cX10_cutOne 138 = .ok (.ireturn, 1) := by decide +kernel
theorem dX10_cutOne_118 : decode cX10_cutOne 118 = .ok (.bipush 8, 2) := by decide +kernel
theorem dX10_cutOne_120 : decode cX10_cutOne 120 = .ok (.goto 5, 3) := by decide +kernel
theorem dX10_cutOne_93 : decode cX10_cutOne 93 = .ok (.iload_n 3, 1) := by decide +kernel
theorem dX10_cutOne_94 : decode cX10_cutOne 94 = .ok (.invokestatic 261, 3) := by decide +kernel
theorem dX10_cutOne_97 : decode cX10_cutOne 97 = .ok (.ifCond .eq 63, 3) := by decide +kernel
theorem dX10_cutOne_160 : decode cX10_cutOne 160 = .ok (.iload_n 3, 1) := by decide +kernel
theorem dX10_cutOne_161 : decode cX10_cutOne 161 = .ok (.invokestatic 179, 3) := by decide +kernel
theorem dX10_cutOne_164 : decode cX10_cutOne 164 = .ok (.ifCond .ne 14, 3) := by decide +kernel
theorem dX10_cutOne_178 : decode cX10_cutOne 178 = .ok (.aload_n 0, 1) := by decide +kernel
theorem dX10_cutOne_179 : decode cX10_cutOne 179 = .ok (.iconst 2, 1) := by decide +kernel
theorem dX10_cutOne_180 : decode cX10_cutOne 180 = .ok (.iload_n 1, 1) := by decide +kernel
theorem dX10_cutOne_181 : decode cX10_cutOne 181 = .ok (.iload_n 1, 1) := by decide +kernel
theorem dX10_cutOne_182 : decode cX10_cutOne 182 = .ok (.iconst 1, 1) := by decide +kernel
theorem dX10_cutOne_183 : decode cX10_cutOne 183 = .ok (.iadd, 1) := by decide +kernel
theorem dX10_cutOne_184 : decode cX10_cutOne 184 = .ok (.iload_n 2, 1) := by decide +kernel
theorem dX10_cutOne_185 : decode cX10_cutOne 185 = .ok (.invokevirtual 270, 3) := by decide +kernel
theorem dX10_cutOne_188 : decode cX10_cutOne 188 = .ok (.iload_n 1, 1) := by decide +kernel
theorem dX10_cutOne_189 : decode cX10_cutOne 189 = .ok (.iconst 1, 1) := by decide +kernel
theorem dX10_cutOne_190 : decode cX10_cutOne 190 = .ok (.iadd, 1) := by decide +kernel
theorem dX10_cutOne_191 : decode cX10_cutOne 191 = .ok (.ireturn, 1) := by decide +kernel
theorem dX10_cutOne_167 : decode cX10_cutOne 167 = .ok (.aload_n 0, 1) := by decide +kernel
theorem dX10_cutOne_168 : decode cX10_cutOne 168 = .ok (.iconst 1, 1) := by decide +kernel
theorem dX10_cutOne_169 : decode cX10_cutOne 169 = .ok (.iload_n 1, 1) := by decide +kernel
theorem dX10_cutOne_170 : decode cX10_cutOne 170 = .ok (.invokevirtual 254, 3) := by decide +kernel
theorem dX10_cutOne_173 : decode cX10_cutOne 173 = .ok (.istore 5, 2) := by decide +kernel
theorem dX10_cutOne_175 : decode cX10_cutOne 175 = .ok (.bipush (-9), 2) := by decide +kernel
theorem dX10_cutOne_177 : decode cX10_cutOne 177 = .ok (.ireturn, 1) := by decide +kernel
theorem dX10_cutOne_13 : decode cX10_cutOne 13 = .ok (.aload_n 0, 1) := by decide +kernel
theorem dX10_cutOne_14 : decode cX10_cutOne 14 = .ok (.iload_n 1, 1) := by decide +kernel
theorem dX10_cutOne_15 : decode cX10_cutOne 15 = .ok (.iconst 1, 1) := by decide +kernel
theorem dX10_cutOne_16 : decode cX10_cutOne 16 = .ok (.iadd, 1) := by decide +kernel
theorem dX10_cutOne_17 : decode cX10_cutOne 17 = .ok (.bipush 39, 2) := by decide +kernel
theorem dX10_cutOne_19 : decode cX10_cutOne 19 = .ok (.invokevirtual 264, 3) := by decide +kernel
theorem dX10_cutOne_22 : decode cX10_cutOne 22 = .ok (.istore 4, 2) := by decide +kernel
theorem dX10_cutOne_24 : decode cX10_cutOne 24 = .ok (.iload 4, 2) := by decide +kernel
theorem dX10_cutOne_26 : decode cX10_cutOne 26 = .ok (.aload_n 0, 1) := by decide +kernel
theorem dX10_cutOne_27 : decode cX10_cutOne 27 = .ok (.getfield 251, 3) := by decide +kernel
theorem dX10_cutOne_30 : decode cX10_cutOne 30 = .ok (.if_icmp .ge 13, 3) := by decide +kernel
theorem dX10_cutOne_43 : decode cX10_cutOne 43 = .ok (.aload_n 0, 1) := by decide +kernel
theorem dX10_cutOne_44 : decode cX10_cutOne 44 = .ok (.iconst 1, 1) := by decide +kernel
theorem dX10_cutOne_45 : decode cX10_cutOne 45 = .ok (.iload_n 1, 1) := by decide +kernel
theorem dX10_cutOne_46 : decode cX10_cutOne 46 = .ok (.invokevirtual 254, 3) := by decide +kernel
theorem dX10_cutOne_49 : decode cX10_cutOne 49 = .ok (.istore 5, 2) := by decide +kernel
theorem dX10_cutOne_51 : decode cX10_cutOne 51 = .ok (.iload 5, 2) := by decide +kernel
theorem dX10_cutOne_53 : decode cX10_cutOne 53 = .ok (.ifCond .eq 14, 3) := by decide +kernel
theorem dX10_cutOne_67 : decode cX10_cutOne 67 = .ok (.iload 5, 2) := by decide +kernel
theorem dX10_cutOne_69 : decode cX10_cutOne 69 = .ok (.ifCond .eq 10, 3) := by decide +kernel
theorem dX10_cutOne_79 : decode cX10_cutOne 79 = .ok (.bipush (-9), 2) := by decide +kernel
theorem dX10_cutOne_81 : decode cX10_cutOne 81 = .ok (.ireturn, 1) := by decide +kernel
theorem dX10_cutOne_33 : decode cX10_cutOne 33 = .ok (.aload_n 0, 1) := by decide +kernel
theorem dX10_cutOne_34 : decode cX10_cutOne 34 = .ok (.iload_n 1, 1) := by decide +kernel
theorem dX10_cutOne_35 : decode cX10_cutOne 35 = .ok (.iload 4, 2) := by decide +kernel
theorem dX10_cutOne_37 : decode cX10_cutOne 37 = .ok (.invokevirtual 267, 3) := by decide +kernel
theorem dX10_cutOne_40 : decode cX10_cutOne 40 = .ok (.goto 9, 3) := by decide +kernel
theorem dX10_cutOne_56 : decode cX10_cutOne 56 = .ok (.aload_n 0, 1) := by decide +kernel
theorem dX10_cutOne_57 : decode cX10_cutOne 57 = .ok (.iconst 3, 1) := by decide +kernel
theorem dX10_cutOne_58 : decode cX10_cutOne 58 = .ok (.iload_n 1, 1) := by decide +kernel
theorem dX10_cutOne_59 : decode cX10_cutOne 59 = .ok (.iload 4, 2) := by decide +kernel
theorem dX10_cutOne_61 : decode cX10_cutOne 61 = .ok (.iconst 1, 1) := by decide +kernel
theorem dX10_cutOne_62 : decode cX10_cutOne 62 = .ok (.iadd, 1) := by decide +kernel
theorem dX10_cutOne_63 : decode cX10_cutOne 63 = .ok (.iload_n 2, 1) := by decide +kernel
theorem dX10_cutOne_64 : decode cX10_cutOne 64 = .ok (.invokevirtual 270, 3) := by decide +kernel
theorem dX10_cutOne_72 : decode cX10_cutOne 72 = .ok (.iload 4, 2) := by decide +kernel
theorem dX10_cutOne_74 : decode cX10_cutOne 74 = .ok (.iconst 1, 1) := by decide +kernel
theorem dX10_cutOne_75 : decode cX10_cutOne 75 = .ok (.iadd, 1) := by decide +kernel
theorem dX10_cutOne_76 : decode cX10_cutOne 76 = .ok (.goto 5, 3) := by decide +kernel
theorem dX10_cutUp_9 : decode cX10_cutUp 9 = .ok (.iload_n 2, 1) := by decide +kernel
theorem dX10_cutUp_10 : decode cX10_cutUp 10 = .ok (.aload_n 0, 1) := by decide +kernel
theorem dX10_cutUp_11 : decode cX10_cutUp 11 = .ok (.getfield 251, 3) := by decide +kernel
theorem dX10_cutUp_14 : decode cX10_cutUp 14 = .ok (.if_icmp .ge 108, 3) := by decide +kernel
theorem dX10_cutUp_122 : decode cX10_cutUp 122 = .ok (.iconst 1, 1) := by decide +kernel
theorem dX10_cutUp_123 : decode cX10_cutUp 123 = .ok (.ireturn, 1) := by decide +kernel
theorem dX10_cutUp_17 : decode cX10_cutUp 17 = .ok (.aload_n 0, 1) := by decide +kernel
theorem dX10_cutUp_18 : decode cX10_cutUp 18 = .ok (.getfield 39, 3) := by decide +kernel
theorem dX10_cutUp_21 : decode cX10_cutUp 21 = .ok (.iload_n 2, 1) := by decide +kernel
theorem dX10_cutUp_22 : decode cX10_cutUp 22 = .ok (.baload, 1) := by decide +kernel
theorem dX10_cutUp_23 : decode cX10_cutUp 23 = .ok (.istore_n 3, 1) := by decide +kernel
theorem dX10_cutUp_24 : decode cX10_cutUp 24 = .ok (.iload_n 3, 1) := by decide +kernel
theorem dX10_cutUp_25 : decode cX10_cutUp 25 = .ok (.bipush 10, 2) := by decide +kernel
theorem dX10_cutUp_27 : decode cX10_cutUp 27 = .ok (.if_icmp .ne 11, 3) := by decide +kernel
theorem dX10_cutUp_38 : decode cX10_cutUp 38 = .ok (.iload_n 3, 1) := by decide +kernel
theorem dX10_cutUp_39 : decode cX10_cutUp 39 = .ok (.bipush 32, 2) := by decide +kernel
theorem dX10_cutUp_41 : decode cX10_cutUp 41 = .ok (.if_icmp .eq 9, 3) := by decide +kernel
theorem dX10_cutUp_50 : decode cX10_cutUp 50 = .ok (.aload_n 0, 1) := by decide +kernel
theorem dX10_cutUp_51 : decode cX10_cutUp 51 = .ok (.iload_n 2, 1) := by decide +kernel
theorem dX10_cutUp_52 : decode cX10_cutUp 52 = .ok (.iload_n 2, 1) := by decide +kernel
theorem dX10_cutUp_53 : decode cX10_cutUp 53 = .ok (.iconst 1, 1) := by decide +kernel
theorem dX10_cutUp_54 : decode cX10_cutUp 54 = .ok (.iadd, 1) := by decide +kernel
theorem dX10_cutUp_55 : decode cX10_cutUp 55 = .ok (.invokevirtual 267, 3) := by decide +kernel
theorem dX10_cutUp_58 : decode cX10_cutUp 58 = .ok (.ifCond .ne 5, 3) := by decide +kernel
theorem dX10_cutUp_63 : decode cX10_cutUp 63 = .ok (.iinc 2 1, 3) := by decide +kernel
theorem dX10_cutUp_66 : decode cX10_cutUp 66 = .ok (.goto 53, 3) := by decide +kernel
theorem dX10_cutUp_119 : decode cX10_cutUp 119 = .ok (.goto (-110), 3) := by decide +kernel
theorem dX10_cutUp_61 : decode cX10_cutUp 61 = .ok (.iconst 0, 1) := by decide +kernel
theorem dX10_cutUp_62 : decode cX10_cutUp 62 = .ok (.ireturn, 1) := by decide +kernel
theorem dX10_cutUp_44 : decode cX10_cutUp 44 = .ok (.iload_n 3, 1) := by decide +kernel
theorem dX10_cutUp_45 : decode cX10_cutUp 45 = .ok (.bipush 9, 2) := by decide +kernel
theorem dX10_cutUp_47 : decode cX10_cutUp 47 = .ok (.if_icmp .ne 22, 3) := by decide +kernel
theorem dX10_cutUp_69 : decode cX10_cutUp 69 = .ok (.iload_n 3, 1) := by decide +kernel
theorem dX10_cutUp_70 : decode cX10_cutUp 70 = .ok (.bipush 35, 2) := by decide +kernel
theorem dX10_cutUp_72 : decode cX10_cutUp 72 = .ok (.if_icmp .ne 30, 3) := by decide +kernel
theorem dX10_cutUp_102 : decode cX10_cutUp 102 = .ok (.aload_n 0, 1) := by decide +kernel
theorem dX10_cutUp_103 : decode cX10_cutUp 103 = .ok (.iload_n 2, 1) := by decide +kernel
theorem dX10_cutUp_104 : decode cX10_cutUp 104 = .ok (.iload_n 1, 1) := by decide +kernel
theorem dX10_cutUp_105 : decode cX10_cutUp 105 = .ok (.invokevirtual 278, 3) := by decide +kernel
theorem dX10_cutUp_108 : decode cX10_cutUp 108 = .ok (.istore_n 2, 1) := by decide +kernel
theorem dX10_cutUp_109 : decode cX10_cutUp 109 = .ok (.iconst 0, 1) := by decide +kernel
theorem dX10_cutUp_110 : decode cX10_cutUp 110 = .ok (.istore_n 1, 1) := by decide +kernel
theorem dX10_cutUp_111 : decode cX10_cutUp 111 = .ok (.iload_n 2, 1) := by decide +kernel
theorem dX10_cutUp_112 : decode cX10_cutUp 112 = .ok (.bipush (-9), 2) := by decide +kernel
theorem dX10_cutUp_114 : decode cX10_cutUp 114 = .ok (.if_icmp .ne 5, 3) := by decide +kernel
theorem dX10_cutUp_117 : decode cX10_cutUp 117 = .ok (.iconst 0, 1) := by decide +kernel
theorem dX10_cutUp_118 : decode cX10_cutUp 118 = .ok (.ireturn, 1) := by decide +kernel
theorem dX10_cutUp_75 : decode cX10_cutUp 75 = .ok (.aload_n 0, 1) := by decide +kernel
theorem dX10_cutUp_76 : decode cX10_cutUp 76 = .ok (.iload_n 2, 1) := by decide +kernel
theorem dX10_cutUp_77 : decode cX10_cutUp 77 = .ok (.bipush 10, 2) := by decide +kernel
theorem dX10_cutUp_79 : decode cX10_cutUp 79 = .ok (.invokevirtual 264, 3) := by decide +kernel
theorem dX10_cutUp_82 : decode cX10_cutUp 82 = .ok (.istore 4, 2) := by decide +kernel
theorem dX10_cutUp_84 : decode cX10_cutUp 84 = .ok (.aload_n 0, 1) := by decide +kernel
theorem dX10_cutUp_85 : decode cX10_cutUp 85 = .ok (.iload_n 2, 1) := by decide +kernel
theorem dX10_cutUp_86 : decode cX10_cutUp 86 = .ok (.iload 4, 2) := by decide +kernel
theorem dX10_cutUp_88 : decode cX10_cutUp 88 = .ok (.invokevirtual 267, 3) := by decide +kernel
theorem dX10_cutUp_91 : decode cX10_cutUp 91 = .ok (.ifCond .ne 5, 3) := by decide +kernel
theorem dX10_cutUp_96 : decode cX10_cutUp 96 = .ok (.iload 4, 2) := by decide +kernel
theorem dX10_cutUp_98 : decode cX10_cutUp 98 = .ok (.istore_n 2, 1) := by decide +kernel
theorem dX10_cutUp_99 : decode cX10_cutUp 99 = .ok (.goto 20, 3) := by decide +kernel
theorem dX10_cutUp_94 : decode cX10_cutUp 94 = .ok (.iconst 0, 1) := by decide +kernel
theorem dX10_cutUp_95 : decode cX10_cutUp 95 = .ok (.ireturn, 1) := by decide +kernel
theorem dX10_cutUp_30 : decode cX10_cutUp 30 = .ok (.iconst 1, 1) := by decide +kernel
theorem dX10_cutUp_31 : decode cX10_cutUp 31 = .ok (.istore_n 1, 1) := by decide +kernel
theorem dX10_cutUp_32 : decode cX10_cutUp 32 = .ok (.iinc 2 1, 3) := by decide +kernel
theorem dX10_cutUp_35 : decode cX10_cutUp 35 = .ok (.goto 84, 3) := by decide +kernel
theorem dX10_cutUp_0 : decode cX10_cutUp 0 = .ok (.aload_n 0, 1) := by decide +kernel
theorem dX10_cutUp_1 : decode cX10_cutUp 1 = .ok (.iconst 0, 1) := by decide +kernel
theorem dX10_cutUp_2 : decode cX10_cutUp 2 = .ok (.putfield 258, 3) := by decide +kernel
theorem dX10_cutUp_5 : decode cX10_cutUp 5 = .ok (.iconst 1, 1) := by decide +kernel
theorem dX10_cutUp_6 : decode cX10_cutUp 6 = .ok (.istore_n 1, 1) := by decide +kernel
theorem dX10_cutUp_7 : decode cX10_cutUp 7 = .ok (.iconst 0, 1) := by decide +kernel
theorem dX10_cutUp_8 : decode cX10_cutUp 8 = .ok (.istore_n 2, 1) := by decide +kernel
set_option maxHeartbeats 4000000 in
set_option maxRecDepth 100000 in
theorem m_add_85 (l : Launch) (D : va_G) (tA : Nat → ClassId) (b : Nat) (i F : Nat → Nat → Int32) (G : Nat → Nat → Int64) (x yy z w : Int32) (hi_78_17 : i 78 17 = nI 85) (hTK : TKm i F) (hHD : HD i F) (hCB : CB F) (htk6 : (i 78 19).toInt < 600) (hft : 0 ≤ yy.toInt ∧ yy.toInt + 1 ≤ z.toInt ∧ z.toInt ≤ 600) (hw : w = 0 ∨ w = 1) (hfr : (i 78 19).toInt = 0 → w = 1) : xMV l yX10_add cX10_add 8 none 0 0 D tA b 78 52 i F G [.ref (b + 78), .int x, .int yy, .int z, .int w] (fun u => RO [19] [88, 89, 90, 91, 92, 93, 94] i F G u ∧ TKm u.1 u.2.1 ∧ HD u.1 u.2.1 ∧ (u.1 78 19).toInt = (i 78 19).toInt + 1) := by
  refine xstart RX10 rfl (by decide) (Nat.le_of_ble_eq_true rfl) ?_
  intro p e s m below meth c ls C0 hr hH hS hl
  have hl : lv_has ls 8 [(0, .ref (b + 78)), (1, .int x), (2, .int yy), (3, .int z), (4, .int w)] := hl
  have rg_x := fb_rng x
  have rg_yy := fb_rng yy
  have rg_z := fb_rng z
  have rg_w := fb_rng w
  have hTL := hTK.1
  have L79 : ∀ (d : Nat) (k mm cc : Int32) (t : Int64) (iv Fv : Nat → Nat → Int32) (Gv : Nat → Nat → Int64) (H : Heap) (locs : List Loc) (ls : Array Slot), (yy.toInt ≤ k.toInt) → (z.toInt - k.toInt ≤ d) → (RO [] [88, 89, 90, 91, 92, 93, 94] i F G (iv, Fv, Gv)) → (Fv 89 = upd (F 89) (Int32.toNatClampNeg (i 78 19)) yy) → (Fv 90 = upd (F 90) (Int32.toNatClampNeg (i 78 19)) mm) → (Fv 92 = upd (F 92) (Int32.toNatClampNeg (i 78 19)) cc) → (Fv 93 = upd (F 93) (Int32.toNatClampNeg (i 78 19)) w) → (mm.toInt = z.toInt - yy.toInt) → (0 ≤ cc.toInt) → Hd D tA b 78 52 zz iv Fv Gv H → va_S (xA b 78 52) s.heap H locs → lv_has ls 8 [(7, .int k), (5, .long t), (0, .ref (b + 78)), (1, .int x), (2, .int yy), (3, .int z), (4, .int w)] → W p l e (xR 0 0) s m ([.ref (b + 78), .int x, .int yy, .int z, .int w] : List Value).toArray below meth c H locs 0 0 (MQ below (va_Qv (fun u => RO [19] [88, 89, 90, 91, 92, 93, 94] i F G u ∧ TKm u.1 u.2.1 ∧ HD u.1 u.2.1 ∧ (u.1 78 19).toInt = (i 78 19).toInt + 1) (xB D tA b 78 52 zz) (xA b 78 52)) ([.ref (b + 78), .int x, .int yy, .int z, .int w] : List Value).toArray s 0 0 (xA b 78 52)) (F0 m 79 ls []) := by
    intro d
    induction d with
    | zero =>
      intro k mm cc t iv Fv Gv H locs ls h1 h2 h3 h4 h5 h6 h7 h8 h9 hH hS hl
      have rg_k := fb_rng k
      have rg_mm := fb_rng mm
      have rg_cc := fb_rng cc
      have hi_78_17 : iv 78 17 = nI 85 := (h3.1 78 17 (Or.inr (by decide))).trans hi_78_17
      have ek19 : Int32.toInt (iv 78 19) = Int32.toInt (i 78 19) := congrArg Int32.toInt (h3.1 78 19 (Or.inr (by decide)))
      have e19 : iv 78 19 = i 78 19 := h3.1 78 19 (Or.inr (by decide))
      refine lv_iload (pc := 79) C0.1 C0.2.1 dX10_add_79 (lv_at hl 0 rfl) ?_
      refine lv_iload_n (pc := 81) C0.1 C0.2.1 dX10_add_81 rfl (lv_at hl 5 rfl) ?_
      refine lv_icmp_ge (pc := 82) (tgt := 125) C0.1 C0.2.1 dX10_add_82 (by decide) (fun _ => ?_) (fun c => absurd (Int32.le_iff_toInt_le.mpr (by omega)) c)
      refine lv_aload_n (pc := 125) C0.1 C0.2.1 dX10_add_125 rfl (lv_at hl 2 rfl) ?_
      refine xget (pc := 126) C0 hH 78 26 clX10 ⟨Nat.le_of_ble_eq_true rfl, Nat.le_of_ble_eq_true rfl⟩ ⟨rfl, rfl⟩ (Nat.le_of_ble_eq_true rfl) fl_X10_61 (v := .ref (b + 94)) rfl dX10_add_126 ?_
      refine lv_aload_n (pc := 129) C0.1 C0.2.1 dX10_add_129 rfl (lv_at hl 2 rfl) ?_
      refine xget (pc := 130) C0 hH 78 19 clX10 ⟨Nat.le_of_ble_eq_true rfl, Nat.le_of_ble_eq_true rfl⟩ ⟨rfl, rfl⟩ (Nat.le_of_ble_eq_true rfl) fl_X10_258 (v := .int (iv 78 19)) rfl dX10_add_130 ?_
      refine lv_lload (pc := 133) C0.1 C0.2.1 dX10_add_133 (lv_at hl 1 rfl) ?_
      refine xlast (pc := 135) (N := 600) C0 (Nat.le_of_ble_eq_true rfl) hH hS 94 ⟨Nat.le_of_ble_eq_true rfl, Nat.le_of_ble_eq_true rfl⟩ ⟨rfl, rfl⟩ (vI (by omega) (by omega)) dX10_add_135 (fun _ locs hH hS => ?_)
      have hH : Hd D tA b 78 52 zz iv Fv (va_up Gv 94 (vp_updL (Gv 94) (Int32.toNatClampNeg (iv 78 19)) t)) _ := hH
      refine lv_aload_n (pc := 136) C0.1 C0.2.1 dX10_add_136 rfl (lv_at hl 2 rfl) ?_
      refine lv_dup (pc := 137) C0.1 C0.2.1 dX10_add_137 rfl ?_
      refine xget (pc := 138) C0 hH 78 19 clX10 ⟨Nat.le_of_ble_eq_true rfl, Nat.le_of_ble_eq_true rfl⟩ ⟨rfl, rfl⟩ (Nat.le_of_ble_eq_true rfl) fl_X10_258 (v := .int (iv 78 19)) rfl dX10_add_138 ?_
      refine lv_iconst (pc := 141) (v := 1) C0.1 C0.2.1 dX10_add_141 (by decide) ?_
      have : Int32.toInt 1 = 1 := rfl
      refine lv_iadd (pc := 142) C0.1 C0.2.1 dX10_add_142 ?_
      refine lv_topi (fun x201 ex201 => ?_)
      have hx201 : Int32.toInt x201 = Int32.toInt (iv 78 19) + Int32.toInt 1 := by rw [ex201]; exact fb_addI (by omega) (by omega)
      refine xputI (pc := 143) C0 (Nat.le_of_ble_eq_true rfl) hH hS 78 19 clX10 ⟨Nat.le_of_ble_eq_true rfl, Nat.le_of_ble_eq_true rfl⟩ ⟨rfl, rfl⟩ ⟨Nat.le_of_ble_eq_true rfl, rfl, rfl⟩ fl_X10_258 (x := x201) ⟨rfl, rfl⟩ dX10_add_143 (fun _ locs hH hS _ => ?_)
      have hH : Hd D tA b 78 52 zz (up2 iv 78 19 x201) Fv (va_up Gv 94 (vp_updL (Gv 94) (Int32.toNatClampNeg (iv 78 19)) t)) _ := hH
      exact xvret (pc := 146) C0 hr hH hS dX10_add_146 ⟨(RO.g (RO.i (RO.tr RO.rf h3 (by decide) (by decide)) (by decide)) (by decide)), TKm.add (t := x201) hTK htk6 (by omega) h9 (by omega) rfl h4 h5 h6, HD.add (t := x201) hHD hTK.1.1 hfr (by omega) h7, (show Int32.toInt x201 = _ from by omega)⟩
    | succ d ih79 =>
      intro k mm cc t iv Fv Gv H locs ls h1 h2 h3 h4 h5 h6 h7 h8 h9 hH hS hl
      have rg_k := fb_rng k
      have rg_mm := fb_rng mm
      have rg_cc := fb_rng cc
      have hi_78_17 : iv 78 17 = nI 85 := (h3.1 78 17 (Or.inr (by decide))).trans hi_78_17
      have ek19 : Int32.toInt (iv 78 19) = Int32.toInt (i 78 19) := congrArg Int32.toInt (h3.1 78 19 (Or.inr (by decide)))
      have e19 : iv 78 19 = i 78 19 := h3.1 78 19 (Or.inr (by decide))
      refine lv_iload (pc := 79) C0.1 C0.2.1 dX10_add_79 (lv_at hl 0 rfl) ?_
      refine lv_iload_n (pc := 81) C0.1 C0.2.1 dX10_add_81 rfl (lv_at hl 5 rfl) ?_
      refine lv_icmp_ge (pc := 82) (tgt := 125) C0.1 C0.2.1 dX10_add_82 (by decide) (fun c201 => ?_) (fun c201 => ?_)
      · have c201 := Int32.le_iff_toInt_le.mp c201
        refine lv_aload_n (pc := 125) C0.1 C0.2.1 dX10_add_125 rfl (lv_at hl 2 rfl) ?_
        refine xget (pc := 126) C0 hH 78 26 clX10 ⟨Nat.le_of_ble_eq_true rfl, Nat.le_of_ble_eq_true rfl⟩ ⟨rfl, rfl⟩ (Nat.le_of_ble_eq_true rfl) fl_X10_61 (v := .ref (b + 94)) rfl dX10_add_126 ?_
        refine lv_aload_n (pc := 129) C0.1 C0.2.1 dX10_add_129 rfl (lv_at hl 2 rfl) ?_
        refine xget (pc := 130) C0 hH 78 19 clX10 ⟨Nat.le_of_ble_eq_true rfl, Nat.le_of_ble_eq_true rfl⟩ ⟨rfl, rfl⟩ (Nat.le_of_ble_eq_true rfl) fl_X10_258 (v := .int (iv 78 19)) rfl dX10_add_130 ?_
        refine lv_lload (pc := 133) C0.1 C0.2.1 dX10_add_133 (lv_at hl 1 rfl) ?_
        refine xlast (pc := 135) (N := 600) C0 (Nat.le_of_ble_eq_true rfl) hH hS 94 ⟨Nat.le_of_ble_eq_true rfl, Nat.le_of_ble_eq_true rfl⟩ ⟨rfl, rfl⟩ (vI (by omega) (by omega)) dX10_add_135 (fun _ locs hH hS => ?_)
        have hH : Hd D tA b 78 52 zz iv Fv (va_up Gv 94 (vp_updL (Gv 94) (Int32.toNatClampNeg (iv 78 19)) t)) _ := hH
        refine lv_aload_n (pc := 136) C0.1 C0.2.1 dX10_add_136 rfl (lv_at hl 2 rfl) ?_
        refine lv_dup (pc := 137) C0.1 C0.2.1 dX10_add_137 rfl ?_
        refine xget (pc := 138) C0 hH 78 19 clX10 ⟨Nat.le_of_ble_eq_true rfl, Nat.le_of_ble_eq_true rfl⟩ ⟨rfl, rfl⟩ (Nat.le_of_ble_eq_true rfl) fl_X10_258 (v := .int (iv 78 19)) rfl dX10_add_138 ?_
        refine lv_iconst (pc := 141) (v := 1) C0.1 C0.2.1 dX10_add_141 (by decide) ?_
        have : Int32.toInt 1 = 1 := rfl
        refine lv_iadd (pc := 142) C0.1 C0.2.1 dX10_add_142 ?_
        refine lv_topi (fun x202 ex202 => ?_)
        have hx202 : Int32.toInt x202 = Int32.toInt (iv 78 19) + Int32.toInt 1 := by rw [ex202]; exact fb_addI (by omega) (by omega)
        refine xputI (pc := 143) C0 (Nat.le_of_ble_eq_true rfl) hH hS 78 19 clX10 ⟨Nat.le_of_ble_eq_true rfl, Nat.le_of_ble_eq_true rfl⟩ ⟨rfl, rfl⟩ ⟨Nat.le_of_ble_eq_true rfl, rfl, rfl⟩ fl_X10_258 (x := x202) ⟨rfl, rfl⟩ dX10_add_143 (fun _ locs hH hS _ => ?_)
        have hH : Hd D tA b 78 52 zz (up2 iv 78 19 x202) Fv (va_up Gv 94 (vp_updL (Gv 94) (Int32.toNatClampNeg (iv 78 19)) t)) _ := hH
        exact xvret (pc := 146) C0 hr hH hS dX10_add_146 ⟨(RO.g (RO.i (RO.tr RO.rf h3 (by decide) (by decide)) (by decide)) (by decide)), TKm.add (t := x202) hTK htk6 (by omega) h9 (by omega) rfl h4 h5 h6, HD.add (t := x202) hHD hTK.1.1 hfr (by omega) h7, (show Int32.toInt x202 = _ from by omega)⟩
      · have c201 : ¬ _ := fun q => c201 (Int32.le_iff_toInt_le.mpr q)
        refine lv_iload_n (pc := 85) C0.1 C0.2.1 dX10_add_85 rfl (lv_at hl 3 rfl) ?_
        refine lv_if_eq (pc := 86) (tgt := 94) C0.1 C0.2.1 dX10_add_86 (by decide) (fun c203 => ?_) (fun c203 => ?_)
        · have : Int32.toInt 0 = 0 := rfl
          have c203 := congrArg Int32.toInt c203
          refine lv_lload (pc := 94) C0.1 C0.2.1 dX10_add_94 (lv_at hl 1 rfl) ?_
          refine lv_aload_n (pc := 96) C0.1 C0.2.1 dX10_add_96 rfl (lv_at hl 2 rfl) ?_
          refine xget (pc := 97) C0 hH 78 17 clX10 ⟨Nat.le_of_ble_eq_true rfl, Nat.le_of_ble_eq_true rfl⟩ ⟨rfl, rfl⟩ (Nat.le_of_ble_eq_true rfl) fl_X10_39 (v := .ref (b + 85)) (by show Value.ref (b + (iv 78 17).toNatClampNeg) = _; rw [hi_78_17]; rfl) dX10_add_97 ?_
          refine lv_iload (pc := 100) C0.1 C0.2.1 dX10_add_100 (lv_at hl 0 rfl) ?_
          refine xbald (pc := 102) (N := 600) C0 hH 85 ⟨Nat.le_of_ble_eq_true rfl, Nat.le_of_ble_eq_true rfl⟩ ⟨rfl, rfl⟩ (vI (by omega) (by omega)) dX10_add_102 ?_
          refine lv_i2l (pc := 103) (v := (Fv 85 (Int32.toNatClampNeg k)).toInt64) C0.1 C0.2.1 dX10_add_103 rfl ?_
          refine lv_ldc2 (pc := 104) C0.1 C0.2.1 C0.2.2.2.1 (C0.2.2.2.2.1 _ kl_X10_169) dX10_add_104 ?_
          refine lv_land (pc := 107) C0.1 C0.2.1 dX10_add_107 ?_
          refine lv_bipush (pc := 108) (v := 8) C0.1 C0.2.1 dX10_add_108 (by decide) ?_
          refine lv_iload (pc := 110) C0.1 C0.2.1 dX10_add_110 (lv_at hl 0 rfl) ?_
          refine lv_iload_n (pc := 112) C0.1 C0.2.1 dX10_add_112 rfl (lv_at hl 4 rfl) ?_
          refine lv_isub (pc := 113) C0.1 C0.2.1 dX10_add_113 ?_
          refine lv_imul (pc := 114) C0.1 C0.2.1 dX10_add_114 ?_
          obtain ⟨x204, ex204⟩ : ∃ y : Int64, y = (((Fv 85 (Int32.toNatClampNeg k)).toInt64) &&& 255) <<< ((8 * (k - yy)).toInt64 &&& 63) := ⟨_, rfl⟩
          refine lv_lshl (pc := 115) (v := x204) C0.1 C0.2.1 dX10_add_115 (by rw [ex204]) ?_
          refine lv_lor (pc := 116) C0.1 C0.2.1 dX10_add_116 ?_
          refine lv_topl (fun x205 ex205 => ?_)
          refine lv_lstore (pc := 117) (lv' := [(5, .long x205), (7, .int k), (0, .ref (b + 78)), (1, .int x), (2, .int yy), (3, .int z), (4, .int w)]) C0.1 C0.2.1 dX10_add_117 hl (by decide) rfl (fun ls hl => ?_)
          obtain ⟨x206, ex206⟩ : ∃ y_ : Int32, y_ = k + 1 := ⟨_, rfl⟩
          have : Int32.toInt 1 = 1 := rfl
          have hx206 : Int32.toInt x206 = Int32.toInt k + Int32.toInt 1 := by rw [ex206]; exact fb_addI (by omega) (by omega)
          refine lv_iinc (pc := 119) (v := x206) (lv' := [(7, .int x206), (5, .long x205), (0, .ref (b + 78)), (1, .int x), (2, .int yy), (3, .int z), (4, .int w)]) C0.1 C0.2.1 dX10_add_119 hl (k := 1) rfl (by rw [ex206]; rfl) (by decide) rfl (fun ls hl => ?_)
          refine lv_goto (pc := 122) (tgt := 79) C0.1 C0.2.1 dX10_add_122 (by decide) ?_
          exact ih79 x206 mm cc x205 iv Fv Gv _ _ _ (by omega) (by omega) h3 h4 h5 h6 h7 h8 h9 hH hS (lv_sub hl [0, 1, 2, 3, 4, 5, 6] rfl)
        · have : Int32.toInt 0 = 0 := rfl
          have c203 : ¬ _ := fun q => c203 (Int32.toInt_inj.mp q)
          refine lv_iload_n (pc := 89) C0.1 C0.2.1 dX10_add_89 rfl (lv_at hl 3 rfl) ?_
          refine lv_iconst (pc := 90) (v := 2) C0.1 C0.2.1 dX10_add_90 (by decide) ?_
          refine lv_icmp_ne (pc := 91) (tgt := 125) C0.1 C0.2.1 dX10_add_91 (by decide) (fun c207 => ?_) (fun c207 => ?_)
          · have : Int32.toInt 2 = 2 := rfl
            have c207 : ¬ _ := fun q => c207 (Int32.toInt_inj.mp q)
            refine lv_aload_n (pc := 125) C0.1 C0.2.1 dX10_add_125 rfl (lv_at hl 2 rfl) ?_
            refine xget (pc := 126) C0 hH 78 26 clX10 ⟨Nat.le_of_ble_eq_true rfl, Nat.le_of_ble_eq_true rfl⟩ ⟨rfl, rfl⟩ (Nat.le_of_ble_eq_true rfl) fl_X10_61 (v := .ref (b + 94)) rfl dX10_add_126 ?_
            refine lv_aload_n (pc := 129) C0.1 C0.2.1 dX10_add_129 rfl (lv_at hl 2 rfl) ?_
            refine xget (pc := 130) C0 hH 78 19 clX10 ⟨Nat.le_of_ble_eq_true rfl, Nat.le_of_ble_eq_true rfl⟩ ⟨rfl, rfl⟩ (Nat.le_of_ble_eq_true rfl) fl_X10_258 (v := .int (iv 78 19)) rfl dX10_add_130 ?_
            refine lv_lload (pc := 133) C0.1 C0.2.1 dX10_add_133 (lv_at hl 1 rfl) ?_
            refine xlast (pc := 135) (N := 600) C0 (Nat.le_of_ble_eq_true rfl) hH hS 94 ⟨Nat.le_of_ble_eq_true rfl, Nat.le_of_ble_eq_true rfl⟩ ⟨rfl, rfl⟩ (vI (by omega) (by omega)) dX10_add_135 (fun _ locs hH hS => ?_)
            have hH : Hd D tA b 78 52 zz iv Fv (va_up Gv 94 (vp_updL (Gv 94) (Int32.toNatClampNeg (iv 78 19)) t)) _ := hH
            refine lv_aload_n (pc := 136) C0.1 C0.2.1 dX10_add_136 rfl (lv_at hl 2 rfl) ?_
            refine lv_dup (pc := 137) C0.1 C0.2.1 dX10_add_137 rfl ?_
            refine xget (pc := 138) C0 hH 78 19 clX10 ⟨Nat.le_of_ble_eq_true rfl, Nat.le_of_ble_eq_true rfl⟩ ⟨rfl, rfl⟩ (Nat.le_of_ble_eq_true rfl) fl_X10_258 (v := .int (iv 78 19)) rfl dX10_add_138 ?_
            refine lv_iconst (pc := 141) (v := 1) C0.1 C0.2.1 dX10_add_141 (by decide) ?_
            have : Int32.toInt 1 = 1 := rfl
            refine lv_iadd (pc := 142) C0.1 C0.2.1 dX10_add_142 ?_
            refine lv_topi (fun x208 ex208 => ?_)
            have hx208 : Int32.toInt x208 = Int32.toInt (iv 78 19) + Int32.toInt 1 := by rw [ex208]; exact fb_addI (by omega) (by omega)
            refine xputI (pc := 143) C0 (Nat.le_of_ble_eq_true rfl) hH hS 78 19 clX10 ⟨Nat.le_of_ble_eq_true rfl, Nat.le_of_ble_eq_true rfl⟩ ⟨rfl, rfl⟩ ⟨Nat.le_of_ble_eq_true rfl, rfl, rfl⟩ fl_X10_258 (x := x208) ⟨rfl, rfl⟩ dX10_add_143 (fun _ locs hH hS _ => ?_)
            have hH : Hd D tA b 78 52 zz (up2 iv 78 19 x208) Fv (va_up Gv 94 (vp_updL (Gv 94) (Int32.toNatClampNeg (iv 78 19)) t)) _ := hH
            exact xvret (pc := 146) C0 hr hH hS dX10_add_146 ⟨(RO.g (RO.i (RO.tr RO.rf h3 (by decide) (by decide)) (by decide)) (by decide)), TKm.add (t := x208) hTK htk6 (by omega) h9 (by omega) rfl h4 h5 h6, HD.add (t := x208) hHD hTK.1.1 hfr (by omega) h7, (show Int32.toInt x208 = _ from by omega)⟩
          · have : Int32.toInt 2 = 2 := rfl
            have c207 := congrArg Int32.toInt c207
            refine lv_lload (pc := 94) C0.1 C0.2.1 dX10_add_94 (lv_at hl 1 rfl) ?_
            refine lv_aload_n (pc := 96) C0.1 C0.2.1 dX10_add_96 rfl (lv_at hl 2 rfl) ?_
            refine xget (pc := 97) C0 hH 78 17 clX10 ⟨Nat.le_of_ble_eq_true rfl, Nat.le_of_ble_eq_true rfl⟩ ⟨rfl, rfl⟩ (Nat.le_of_ble_eq_true rfl) fl_X10_39 (v := .ref (b + 85)) (by show Value.ref (b + (iv 78 17).toNatClampNeg) = _; rw [hi_78_17]; rfl) dX10_add_97 ?_
            refine lv_iload (pc := 100) C0.1 C0.2.1 dX10_add_100 (lv_at hl 0 rfl) ?_
            refine xbald (pc := 102) (N := 600) C0 hH 85 ⟨Nat.le_of_ble_eq_true rfl, Nat.le_of_ble_eq_true rfl⟩ ⟨rfl, rfl⟩ (vI (by omega) (by omega)) dX10_add_102 ?_
            refine lv_i2l (pc := 103) (v := (Fv 85 (Int32.toNatClampNeg k)).toInt64) C0.1 C0.2.1 dX10_add_103 rfl ?_
            refine lv_ldc2 (pc := 104) C0.1 C0.2.1 C0.2.2.2.1 (C0.2.2.2.2.1 _ kl_X10_169) dX10_add_104 ?_
            refine lv_land (pc := 107) C0.1 C0.2.1 dX10_add_107 ?_
            refine lv_bipush (pc := 108) (v := 8) C0.1 C0.2.1 dX10_add_108 (by decide) ?_
            refine lv_iload (pc := 110) C0.1 C0.2.1 dX10_add_110 (lv_at hl 0 rfl) ?_
            refine lv_iload_n (pc := 112) C0.1 C0.2.1 dX10_add_112 rfl (lv_at hl 4 rfl) ?_
            refine lv_isub (pc := 113) C0.1 C0.2.1 dX10_add_113 ?_
            refine lv_imul (pc := 114) C0.1 C0.2.1 dX10_add_114 ?_
            obtain ⟨x209, ex209⟩ : ∃ y : Int64, y = (((Fv 85 (Int32.toNatClampNeg k)).toInt64) &&& 255) <<< ((8 * (k - yy)).toInt64 &&& 63) := ⟨_, rfl⟩
            refine lv_lshl (pc := 115) (v := x209) C0.1 C0.2.1 dX10_add_115 (by rw [ex209]) ?_
            refine lv_lor (pc := 116) C0.1 C0.2.1 dX10_add_116 ?_
            refine lv_topl (fun x210 ex210 => ?_)
            refine lv_lstore (pc := 117) (lv' := [(5, .long x210), (7, .int k), (0, .ref (b + 78)), (1, .int x), (2, .int yy), (3, .int z), (4, .int w)]) C0.1 C0.2.1 dX10_add_117 hl (by decide) rfl (fun ls hl => ?_)
            obtain ⟨x211, ex211⟩ : ∃ y_ : Int32, y_ = k + 1 := ⟨_, rfl⟩
            have : Int32.toInt 1 = 1 := rfl
            have hx211 : Int32.toInt x211 = Int32.toInt k + Int32.toInt 1 := by rw [ex211]; exact fb_addI (by omega) (by omega)
            refine lv_iinc (pc := 119) (v := x211) (lv' := [(7, .int x211), (5, .long x210), (0, .ref (b + 78)), (1, .int x), (2, .int yy), (3, .int z), (4, .int w)]) C0.1 C0.2.1 dX10_add_119 hl (k := 1) rfl (by rw [ex211]; rfl) (by decide) rfl (fun ls hl => ?_)
            refine lv_goto (pc := 122) (tgt := 79) C0.1 C0.2.1 dX10_add_122 (by decide) ?_
            exact ih79 x211 mm cc x210 iv Fv Gv _ _ _ (by omega) (by omega) h3 h4 h5 h6 h7 h8 h9 hH hS (lv_sub hl [0, 1, 2, 3, 4, 5, 6] rfl)
  refine lv_aload_n (pc := 0) C0.1 C0.2.1 dX10_add_0 rfl (lv_at hl 0 rfl) ?_
  refine xget (pc := 1) C0 hH 78 20 clX10 ⟨Nat.le_of_ble_eq_true rfl, Nat.le_of_ble_eq_true rfl⟩ ⟨rfl, rfl⟩ (Nat.le_of_ble_eq_true rfl) fl_X10_42 (v := .ref (b + 88)) rfl dX10_add_1 ?_
  refine lv_aload_n (pc := 4) C0.1 C0.2.1 dX10_add_4 rfl (lv_at hl 0 rfl) ?_
  refine xget (pc := 5) C0 hH 78 19 clX10 ⟨Nat.le_of_ble_eq_true rfl, Nat.le_of_ble_eq_true rfl⟩ ⟨rfl, rfl⟩ (Nat.le_of_ble_eq_true rfl) fl_X10_258 (v := .int (i 78 19)) rfl dX10_add_5 ?_
  refine lv_iload_n (pc := 8) C0.1 C0.2.1 dX10_add_8 rfl (lv_at hl 1 rfl) ?_
  refine xiast (pc := 9) (N := 600) C0 (Nat.le_of_ble_eq_true rfl) hH hS 88 ⟨Nat.le_of_ble_eq_true rfl, Nat.le_of_ble_eq_true rfl⟩ ⟨rfl, rfl⟩ (vI (by omega) (by omega)) dX10_add_9 (fun _ locs hH hS _ => ?_)
  have hH : Hd D tA b 78 52 zz i (va_up F 88 (upd (F 88) (Int32.toNatClampNeg (i 78 19)) x)) G _ := hH
  refine lv_aload_n (pc := 10) C0.1 C0.2.1 dX10_add_10 rfl (lv_at hl 0 rfl) ?_
  refine xget (pc := 11) C0 hH 78 21 clX10 ⟨Nat.le_of_ble_eq_true rfl, Nat.le_of_ble_eq_true rfl⟩ ⟨rfl, rfl⟩ (Nat.le_of_ble_eq_true rfl) fl_X10_45 (v := .ref (b + 89)) rfl dX10_add_11 ?_
  refine lv_aload_n (pc := 14) C0.1 C0.2.1 dX10_add_14 rfl (lv_at hl 0 rfl) ?_
  refine xget (pc := 15) C0 hH 78 19 clX10 ⟨Nat.le_of_ble_eq_true rfl, Nat.le_of_ble_eq_true rfl⟩ ⟨rfl, rfl⟩ (Nat.le_of_ble_eq_true rfl) fl_X10_258 (v := .int (i 78 19)) rfl dX10_add_15 ?_
  refine lv_iload_n (pc := 18) C0.1 C0.2.1 dX10_add_18 rfl (lv_at hl 2 rfl) ?_
  refine xiast (pc := 19) (N := 600) C0 (Nat.le_of_ble_eq_true rfl) hH hS 89 ⟨Nat.le_of_ble_eq_true rfl, Nat.le_of_ble_eq_true rfl⟩ ⟨rfl, rfl⟩ (vI (by omega) (by omega)) dX10_add_19 (fun _ locs hH hS _ => ?_)
  have hH : Hd D tA b 78 52 zz i (va_up (va_up F 88 (upd (F 88) (Int32.toNatClampNeg (i 78 19)) x)) 89 (upd (F 89) (Int32.toNatClampNeg (i 78 19)) yy)) G _ := hH
  refine lv_aload_n (pc := 20) C0.1 C0.2.1 dX10_add_20 rfl (lv_at hl 0 rfl) ?_
  refine xget (pc := 21) C0 hH 78 22 clX10 ⟨Nat.le_of_ble_eq_true rfl, Nat.le_of_ble_eq_true rfl⟩ ⟨rfl, rfl⟩ (Nat.le_of_ble_eq_true rfl) fl_X10_48 (v := .ref (b + 90)) rfl dX10_add_21 ?_
  refine lv_aload_n (pc := 24) C0.1 C0.2.1 dX10_add_24 rfl (lv_at hl 0 rfl) ?_
  refine xget (pc := 25) C0 hH 78 19 clX10 ⟨Nat.le_of_ble_eq_true rfl, Nat.le_of_ble_eq_true rfl⟩ ⟨rfl, rfl⟩ (Nat.le_of_ble_eq_true rfl) fl_X10_258 (v := .int (i 78 19)) rfl dX10_add_25 ?_
  refine lv_iload_n (pc := 28) C0.1 C0.2.1 dX10_add_28 rfl (lv_at hl 3 rfl) ?_
  refine lv_iload_n (pc := 29) C0.1 C0.2.1 dX10_add_29 rfl (lv_at hl 2 rfl) ?_
  refine lv_isub (pc := 30) C0.1 C0.2.1 dX10_add_30 ?_
  refine lv_topi (fun x1 ex1 => ?_)
  have hx1 : Int32.toInt x1 = Int32.toInt z - Int32.toInt yy := by rw [ex1]; exact fb_subI (by omega) (by omega)
  refine xiast (pc := 31) (N := 600) C0 (Nat.le_of_ble_eq_true rfl) hH hS 90 ⟨Nat.le_of_ble_eq_true rfl, Nat.le_of_ble_eq_true rfl⟩ ⟨rfl, rfl⟩ (vI (by omega) (by omega)) dX10_add_31 (fun _ locs hH hS _ => ?_)
  have hH : Hd D tA b 78 52 zz i (va_up (va_up (va_up F 88 (upd (F 88) (Int32.toNatClampNeg (i 78 19)) x)) 89 (upd (F 89) (Int32.toNatClampNeg (i 78 19)) yy)) 90 (upd (F 90) (Int32.toNatClampNeg (i 78 19)) x1)) G _ := hH
  refine lv_aload_n (pc := 32) C0.1 C0.2.1 dX10_add_32 rfl (lv_at hl 0 rfl) ?_
  refine xget (pc := 33) C0 hH 78 23 clX10 ⟨Nat.le_of_ble_eq_true rfl, Nat.le_of_ble_eq_true rfl⟩ ⟨rfl, rfl⟩ (Nat.le_of_ble_eq_true rfl) fl_X10_51 (v := .ref (b + 91)) rfl dX10_add_33 ?_
  refine lv_aload_n (pc := 36) C0.1 C0.2.1 dX10_add_36 rfl (lv_at hl 0 rfl) ?_
  refine xget (pc := 37) C0 hH 78 19 clX10 ⟨Nat.le_of_ble_eq_true rfl, Nat.le_of_ble_eq_true rfl⟩ ⟨rfl, rfl⟩ (Nat.le_of_ble_eq_true rfl) fl_X10_258 (v := .int (i 78 19)) rfl dX10_add_37 ?_
  refine lv_aload_n (pc := 40) C0.1 C0.2.1 dX10_add_40 rfl (lv_at hl 0 rfl) ?_
  refine xget (pc := 41) C0 hH 78 28 clX10 ⟨Nat.le_of_ble_eq_true rfl, Nat.le_of_ble_eq_true rfl⟩ ⟨rfl, rfl⟩ (Nat.le_of_ble_eq_true rfl) fl_X10_67 (v := .ref (b + 96)) rfl dX10_add_41 ?_
  refine lv_iload_n (pc := 44) C0.1 C0.2.1 dX10_add_44 rfl (lv_at hl 2 rfl) ?_
  refine xiald (pc := 45) (N := 601) C0 hH 96 ⟨Nat.le_of_ble_eq_true rfl, Nat.le_of_ble_eq_true rfl⟩ ⟨rfl, rfl⟩ (vI (by omega) (by omega)) dX10_add_45 ?_
  refine xiast (pc := 46) (N := 600) C0 (Nat.le_of_ble_eq_true rfl) hH hS 91 ⟨Nat.le_of_ble_eq_true rfl, Nat.le_of_ble_eq_true rfl⟩ ⟨rfl, rfl⟩ (vI (by omega) (by omega)) dX10_add_46 (fun _ locs hH hS _ => ?_)
  have hH : Hd D tA b 78 52 zz i (va_up (va_up (va_up (va_up F 88 (upd (F 88) (Int32.toNatClampNeg (i 78 19)) x)) 89 (upd (F 89) (Int32.toNatClampNeg (i 78 19)) yy)) 90 (upd (F 90) (Int32.toNatClampNeg (i 78 19)) x1)) 91 (upd (F 91) (Int32.toNatClampNeg (i 78 19)) (F 96 (Int32.toNatClampNeg yy)))) G _ := hH
  refine lv_aload_n (pc := 47) C0.1 C0.2.1 dX10_add_47 rfl (lv_at hl 0 rfl) ?_
  refine xget (pc := 48) C0 hH 78 24 clX10 ⟨Nat.le_of_ble_eq_true rfl, Nat.le_of_ble_eq_true rfl⟩ ⟨rfl, rfl⟩ (Nat.le_of_ble_eq_true rfl) fl_X10_54 (v := .ref (b + 92)) rfl dX10_add_48 ?_
  refine lv_aload_n (pc := 51) C0.1 C0.2.1 dX10_add_51 rfl (lv_at hl 0 rfl) ?_
  refine xget (pc := 52) C0 hH 78 19 clX10 ⟨Nat.le_of_ble_eq_true rfl, Nat.le_of_ble_eq_true rfl⟩ ⟨rfl, rfl⟩ (Nat.le_of_ble_eq_true rfl) fl_X10_258 (v := .int (i 78 19)) rfl dX10_add_52 ?_
  refine lv_aload_n (pc := 55) C0.1 C0.2.1 dX10_add_55 rfl (lv_at hl 0 rfl) ?_
  refine xget (pc := 56) C0 hH 78 29 clX10 ⟨Nat.le_of_ble_eq_true rfl, Nat.le_of_ble_eq_true rfl⟩ ⟨rfl, rfl⟩ (Nat.le_of_ble_eq_true rfl) fl_X10_70 (v := .ref (b + 97)) rfl dX10_add_56 ?_
  refine lv_iload_n (pc := 59) C0.1 C0.2.1 dX10_add_59 rfl (lv_at hl 2 rfl) ?_
  refine xiald (pc := 60) (N := 601) C0 hH 97 ⟨Nat.le_of_ble_eq_true rfl, Nat.le_of_ble_eq_true rfl⟩ ⟨rfl, rfl⟩ (vI (by omega) (by omega)) dX10_add_60 ?_
  refine xiast (pc := 61) (N := 600) C0 (Nat.le_of_ble_eq_true rfl) hH hS 92 ⟨Nat.le_of_ble_eq_true rfl, Nat.le_of_ble_eq_true rfl⟩ ⟨rfl, rfl⟩ (vI (by omega) (by omega)) dX10_add_61 (fun _ locs hH hS _ => ?_)
  have hH : Hd D tA b 78 52 zz i (va_up (va_up (va_up (va_up (va_up F 88 (upd (F 88) (Int32.toNatClampNeg (i 78 19)) x)) 89 (upd (F 89) (Int32.toNatClampNeg (i 78 19)) yy)) 90 (upd (F 90) (Int32.toNatClampNeg (i 78 19)) x1)) 91 (upd (F 91) (Int32.toNatClampNeg (i 78 19)) (F 96 (Int32.toNatClampNeg yy)))) 92 (upd (F 92) (Int32.toNatClampNeg (i 78 19)) (F 97 (Int32.toNatClampNeg yy)))) G _ := hH
  refine lv_aload_n (pc := 62) C0.1 C0.2.1 dX10_add_62 rfl (lv_at hl 0 rfl) ?_
  refine xget (pc := 63) C0 hH 78 25 clX10 ⟨Nat.le_of_ble_eq_true rfl, Nat.le_of_ble_eq_true rfl⟩ ⟨rfl, rfl⟩ (Nat.le_of_ble_eq_true rfl) fl_X10_57 (v := .ref (b + 93)) rfl dX10_add_63 ?_
  refine lv_aload_n (pc := 66) C0.1 C0.2.1 dX10_add_66 rfl (lv_at hl 0 rfl) ?_
  refine xget (pc := 67) C0 hH 78 19 clX10 ⟨Nat.le_of_ble_eq_true rfl, Nat.le_of_ble_eq_true rfl⟩ ⟨rfl, rfl⟩ (Nat.le_of_ble_eq_true rfl) fl_X10_258 (v := .int (i 78 19)) rfl dX10_add_67 ?_
  refine lv_iload (pc := 70) C0.1 C0.2.1 dX10_add_70 (lv_at hl 4 rfl) ?_
  refine xzast (pc := 72) (N := 600) C0 (Nat.le_of_ble_eq_true rfl) hH hS 93 ⟨Nat.le_of_ble_eq_true rfl, Nat.le_of_ble_eq_true rfl⟩ ⟨rfl, rfl⟩ hw (vI (by omega) (by omega)) dX10_add_72 (fun _ locs hH hS => ?_)
  have hH : Hd D tA b 78 52 zz i (va_up (va_up (va_up (va_up (va_up (va_up F 88 (upd (F 88) (Int32.toNatClampNeg (i 78 19)) x)) 89 (upd (F 89) (Int32.toNatClampNeg (i 78 19)) yy)) 90 (upd (F 90) (Int32.toNatClampNeg (i 78 19)) x1)) 91 (upd (F 91) (Int32.toNatClampNeg (i 78 19)) (F 96 (Int32.toNatClampNeg yy)))) 92 (upd (F 92) (Int32.toNatClampNeg (i 78 19)) (F 97 (Int32.toNatClampNeg yy)))) 93 (upd (F 93) (Int32.toNatClampNeg (i 78 19)) w)) G _ := hH
  refine lv_lconst (pc := 73) (v := 0) C0.1 C0.2.1 dX10_add_73 (by decide) ?_
  refine lv_lstore (pc := 74) (lv' := [(5, .long 0), (0, .ref (b + 78)), (1, .int x), (2, .int yy), (3, .int z), (4, .int w)]) C0.1 C0.2.1 dX10_add_74 hl (by decide) rfl (fun ls hl => ?_)
  refine lv_iload_n (pc := 76) C0.1 C0.2.1 dX10_add_76 rfl (lv_at hl 3 rfl) ?_
  refine lv_istore (pc := 77) (lv' := [(7, .int yy), (5, .long 0), (0, .ref (b + 78)), (1, .int x), (2, .int yy), (3, .int z), (4, .int w)]) C0.1 C0.2.1 dX10_add_77 hl (by decide) rfl (fun ls hl => ?_)
  exact L79 (z.toInt - yy.toInt).toNat yy x1 (F 97 (Int32.toNatClampNeg yy)) 0 i (va_up (va_up (va_up (va_up (va_up (va_up F 88 (upd (F 88) (Int32.toNatClampNeg (i 78 19)) x)) 89 (upd (F 89) (Int32.toNatClampNeg (i 78 19)) yy)) 90 (upd (F 90) (Int32.toNatClampNeg (i 78 19)) x1)) 91 (upd (F 91) (Int32.toNatClampNeg (i 78 19)) (F 96 (Int32.toNatClampNeg yy)))) 92 (upd (F 92) (Int32.toNatClampNeg (i 78 19)) (F 97 (Int32.toNatClampNeg yy)))) 93 (upd (F 93) (Int32.toNatClampNeg (i 78 19)) w)) G _ _ _ (by omega) (by omega) (RO.f (RO.f (RO.f (RO.f (RO.f (RO.f RO.rf (by decide)) (by decide)) (by decide)) (by decide)) (by decide)) (by decide)) rfl rfl rfl rfl (by omega) (hCB _) hH hS (lv_sub hl [0, 1, 2, 3, 4, 5, 6] rfl)
set_option maxHeartbeats 4000000 in
set_option maxRecDepth 100000 in
theorem m_cutOne_85 (l : Launch) (D : va_G) (tA : Nat → ClassId) (b : Nat) (i F : Nat → Nat → Int32) (G : Nat → Nat → Int64) (x y : Int32) (hi_78_17 : i 78 17 = nI 85) (hlen : 0 ≤ (i 78 18).toInt ∧ (i 78 18).toInt ≤ 600) (hTK : TKm i F) (hHD : HD i F) (hCB : CB F) (hPI : PLI i) (hx : 0 ≤ x.toInt ∧ x.toInt < (i 78 18).toInt) (htx : (i 78 19).toInt ≤ x.toInt) (hy01 : y = 0 ∨ y = 1) (hfr : (i 78 19).toInt = 0 → y = 1) : xMI l yX10_cutOne cX10_cutOne 7 (some .int) 2 45 D tA b 78 52 i F G [.ref (b + 78), .int x, .int y] (fun r u => RO [19, 30, 31] [88, 89, 90, 91, 92, 93, 94] i F G u ∧ TKm u.1 u.2.1 ∧ HD u.1 u.2.1 ∧ PLI u.1 ∧ ((r.toInt = -9 ∧ (0 ≤ (u.1 78 31).toInt ∧ (u.1 78 31).toInt ≤ 600)) ∨ ((x.toInt + 1 ≤ r.toInt ∧ r.toInt ≤ (i 78 18).toInt) ∧ 1 ≤ (u.1 78 19).toInt)) ∧ (u.1 78 19).toInt ≤ (i 78 19).toInt + 1) := by
  refine xstart RX10 rfl (by decide) (Nat.le_of_ble_eq_true rfl) ?_
  intro p e s m below meth c ls C0 hr hH hS hl
  have hl : lv_has ls 7 [(0, .ref (b + 78)), (1, .int x), (2, .int y)] := hl
  have rg_x := fb_rng x
  have rg_y := fb_rng y
  have hTL := hTK.1
  refine lv_aload_n (pc := 0) C0.1 C0.2.1 dX10_cutOne_0 rfl (lv_at hl 0 rfl) ?_
  refine xget (pc := 1) C0 hH 78 17 clX10 ⟨Nat.le_of_ble_eq_true rfl, Nat.le_of_ble_eq_true rfl⟩ ⟨rfl, rfl⟩ (Nat.le_of_ble_eq_true rfl) fl_X10_39 (v := .ref (b + 85)) (by show Value.ref (b + (i 78 17).toNatClampNeg) = _; rw [hi_78_17]; rfl) dX10_cutOne_1 ?_
  refine lv_iload_n (pc := 4) C0.1 C0.2.1 dX10_cutOne_4 rfl (lv_at hl 1 rfl) ?_
  refine xbald (pc := 5) (N := 600) C0 hH 85 ⟨Nat.le_of_ble_eq_true rfl, Nat.le_of_ble_eq_true rfl⟩ ⟨rfl, rfl⟩ (vI (by omega) (by omega)) dX10_cutOne_5 ?_
  refine lv_topi (fun x1 ex1 => ?_)
  refine lv_istore_n (pc := 6) (lv' := [(3, .int x1), (0, .ref (b + 78)), (1, .int x), (2, .int y)]) C0.1 C0.2.1 dX10_cutOne_6 rfl hl (by decide) rfl (fun ls hl => ?_)
  refine lv_iload_n (pc := 7) C0.1 C0.2.1 dX10_cutOne_7 rfl (lv_at hl 0 rfl) ?_
  refine lv_bipush (pc := 8) (v := 39) C0.1 C0.2.1 dX10_cutOne_8 (by decide) ?_
  refine lv_icmp_ne (pc := 10) (tgt := 82) C0.1 C0.2.1 dX10_cutOne_10 (by decide) (fun c2 => ?_) (fun c2 => ?_)
  · have : Int32.toInt 39 = 39 := rfl
    have c2 : ¬ _ := fun q => c2 (Int32.toInt_inj.mp q)
    refine lv_iload_n (pc := 82) C0.1 C0.2.1 dX10_cutOne_82 rfl (lv_at hl 0 rfl) ?_
    refine xcSI (pc := 83) [.int x1] (c_X10_isLetter l D tA b 78 52 i F G x1) C0 hH hS cw_X10_171 rfl ⟨Nat.le_of_ble_eq_true rfl, Nat.le_of_ble_eq_true rfl⟩ hl.1 rfl (Nat.le_of_ble_eq_true rfl) dX10_cutOne_83 ⟨Nat.le_of_ble_eq_true rfl, Nat.le_of_ble_eq_true rfl⟩ (fun r3 ir3 Fr3 Gr3 _ locs hp hH hS => ?_)
    obtain ⟨hu, rfl⟩ := hp
    cases hu
    refine lv_topi (fun x4 ex4 => ?_)
    refine lv_istore (pc := 86) (lv' := [(4, .int x4), (3, .int x1), (0, .ref (b + 78)), (1, .int x), (2, .int y)]) C0.1 C0.2.1 dX10_cutOne_86 hl (by decide) rfl (fun ls hl => ?_)
    refine lv_iload (pc := 88) C0.1 C0.2.1 dX10_cutOne_88 (lv_at hl 0 rfl) ?_
    refine lv_if_ne (pc := 90) (tgt := 100) C0.1 C0.2.1 dX10_cutOne_90 (by decide) (fun c5 => ?_) (fun c5 => ?_)
    · have : Int32.toInt 0 = 0 := rfl
      have c5 : ¬ _ := fun q => c5 (Int32.toInt_inj.mp q)
      have hbh : (¬ x4 = 0 → ¬ lt_ (F 85 (Int32.toNatClampNeg x)) = 0) ∧ (x4 = 0 → ¬ dg (F 85 (Int32.toNatClampNeg x)) = 0) := ⟨fun q => by rw [← ex1, ← ex4]; exact q, fun q => absurd (congrArg Int32.toInt q) (by assumption)⟩
      refine lv_aload_n (pc := 100) C0.1 C0.2.1 dX10_cutOne_100 rfl (lv_at hl 2 rfl) ?_
      refine lv_iload_n (pc := 101) C0.1 C0.2.1 dX10_cutOne_101 rfl (lv_at hl 3 rfl) ?_
      refine lv_iload (pc := 102) C0.1 C0.2.1 dX10_cutOne_102 (lv_at hl 0 rfl) ?_
      refine xcVI (pc := 104) 78 [.int x, .int x4] (m_behind_85 l D tA b i F G x x4 hi_78_17 (show 0 ≤ Int32.toInt (i 78 18) ∧ Int32.toInt (i 78 18) ≤ 600 from by omega) (by omega) hbh (by omega)) C0 hH hS clX10 rfl ⟨⟨Nat.le_of_ble_eq_true rfl, Nat.le_of_ble_eq_true rfl⟩, rfl, rfl⟩ cw_X10_274 rfl ⟨Nat.le_of_ble_eq_true rfl, Nat.le_of_ble_eq_true rfl⟩ hl.1 rfl (Nat.le_of_ble_eq_true rfl) dX10_cutOne_104 ⟨Nat.le_of_ble_eq_true rfl, Nat.le_of_ble_eq_true rfl⟩ (fun r6 ir6 Fr6 Gr6 _ locs hp hH hS => ?_)
      obtain ⟨hu, hpr6⟩ := hp
      cases hu
      refine lv_istore (pc := 107) (lv' := [(5, .int r6), (4, .int x4), (3, .int x1), (0, .ref (b + 78)), (1, .int x), (2, .int y)]) C0.1 C0.2.1 dX10_cutOne_107 hl (by decide) rfl (fun ls hl => ?_)
      refine lv_iload (pc := 109) C0.1 C0.2.1 dX10_cutOne_109 (lv_at hl 0 rfl) ?_
      refine lv_iload_n (pc := 111) C0.1 C0.2.1 dX10_cutOne_111 rfl (lv_at hl 4 rfl) ?_
      refine lv_isub (pc := 112) C0.1 C0.2.1 dX10_cutOne_112 ?_
      refine lv_topi (fun x7 ex7 => ?_)
      have hx7 : Int32.toInt x7 = Int32.toInt r6 - Int32.toInt x := by rw [ex7]; exact fb_subI (by omega) (by omega)
      refine lv_iload (pc := 113) C0.1 C0.2.1 dX10_cutOne_113 (lv_at hl 1 rfl) ?_
      refine lv_if_eq (pc := 115) (tgt := 123) C0.1 C0.2.1 dX10_cutOne_115 (by decide) (fun c8 => ?_) (fun c8 => ?_)
      · have : Int32.toInt 0 = 0 := rfl
        have c8 := congrArg Int32.toInt c8
        refine lv_bipush (pc := 123) (v := 9) C0.1 C0.2.1 dX10_cutOne_123 (by decide) ?_
        refine lv_icmp_le (pc := 125) (tgt := 139) C0.1 C0.2.1 dX10_cutOne_125 (by decide) (fun c9 => ?_) (fun c9 => ?_)
        · have : Int32.toInt 9 = 9 := rfl
          have c9 := Int32.le_iff_toInt_le.mp c9
          refine lv_aload_n (pc := 139) C0.1 C0.2.1 dX10_cutOne_139 rfl (lv_at hl 3 rfl) ?_
          refine lv_iload (pc := 140) C0.1 C0.2.1 dX10_cutOne_140 (lv_at hl 1 rfl) ?_
          refine lv_if_eq (pc := 142) (tgt := 149) C0.1 C0.2.1 dX10_cutOne_142 (by decide) (fun c10 => ?_) (fun c10 => ?_)
          · have : Int32.toInt 0 = 0 := rfl
            have c10 := congrArg Int32.toInt c10
            refine lv_iconst (pc := 149) (v := 1) C0.1 C0.2.1 dX10_cutOne_149 (by decide) ?_
            refine lv_iload_n (pc := 150) C0.1 C0.2.1 dX10_cutOne_150 rfl (lv_at hl 4 rfl) ?_
            refine lv_iload (pc := 151) C0.1 C0.2.1 dX10_cutOne_151 (lv_at hl 0 rfl) ?_
            refine lv_iload_n (pc := 153) C0.1 C0.2.1 dX10_cutOne_153 rfl (lv_at hl 5 rfl) ?_
            refine xcVV (pc := 154) 78 [.int 1, .int x, .int r6, .int y] (m_add_85 l D tA b i F G 1 x r6 y hi_78_17 hTK hHD hCB (show Int32.toInt (i 78 19) < 600 from by omega) (show 0 ≤ Int32.toInt x ∧ Int32.toInt x + 1 ≤ Int32.toInt r6 ∧ Int32.toInt r6 ≤ 600 from by omega) hy01 (fun q => hfr (by have q : Int32.toInt (i 78 19) = 0 := q; omega))) C0 hH hS clX10 rfl ⟨⟨Nat.le_of_ble_eq_true rfl, Nat.le_of_ble_eq_true rfl⟩, rfl, rfl⟩ cw_X10_270 rfl ⟨Nat.le_of_ble_eq_true rfl, Nat.le_of_ble_eq_true rfl⟩ hl.1 rfl (Nat.le_of_ble_eq_true rfl) dX10_cutOne_154 ⟨Nat.le_of_ble_eq_true rfl, Nat.le_of_ble_eq_true rfl⟩ (fun ir11 Fr11 Gr11 _ locs hp hH hS => ?_)
            obtain ⟨honr11, hTK, hHD, ht19r11⟩ := hp
            have hTK : TKm ir11 Fr11 := hTK
            have hHD : HD ir11 Fr11 := hHD
            have ht19r11 : (ir11 78 19).toInt = Int32.toInt (i 78 19) + 1 := ht19r11
            have hCB : CB Fr11 := CB.ro (F := F) hCB honr11 (by decide)
            have hPI : PLI ir11 := PLI.ro (i := i) (F := F) hPI honr11 (by decide)
            have hi_78_17 : ir11 78 17 = nI 85 := (honr11.1 78 17 (Or.inr (by decide))).trans hi_78_17
            have ek_18r11 : Int32.toInt (ir11 78 18) = Int32.toInt (i 78 18) := congrArg Int32.toInt (honr11.1 78 18 (Or.inr (by decide)))
            refine lv_iload (pc := 157) C0.1 C0.2.1 dX10_cutOne_157 (lv_at hl 0 rfl) ?_
            exact xiret (pc := 159) C0 hr hH hS dX10_cutOne_159 ⟨(RO.tr RO.rf honr11 (by decide) (by decide)), hTK, hHD, hPI, Or.inr ⟨⟨by omega, by omega⟩, (show 1 ≤ Int32.toInt (ir11 78 19) from by omega)⟩, (show Int32.toInt (ir11 78 19) ≤ _ from by omega)⟩
          · have : Int32.toInt 0 = 0 := rfl
            have c10 : ¬ _ := fun q => c10 (Int32.toInt_inj.mp q)
            refine lv_iconst (pc := 145) (v := 0) C0.1 C0.2.1 dX10_cutOne_145 (by decide) ?_
            refine lv_goto (pc := 146) (tgt := 150) C0.1 C0.2.1 dX10_cutOne_146 (by decide) ?_
            refine lv_iload_n (pc := 150) C0.1 C0.2.1 dX10_cutOne_150 rfl (lv_at hl 4 rfl) ?_
            refine lv_iload (pc := 151) C0.1 C0.2.1 dX10_cutOne_151 (lv_at hl 0 rfl) ?_
            refine lv_iload_n (pc := 153) C0.1 C0.2.1 dX10_cutOne_153 rfl (lv_at hl 5 rfl) ?_
            refine xcVV (pc := 154) 78 [.int 0, .int x, .int r6, .int y] (m_add_85 l D tA b i F G 0 x r6 y hi_78_17 hTK hHD hCB (show Int32.toInt (i 78 19) < 600 from by omega) (show 0 ≤ Int32.toInt x ∧ Int32.toInt x + 1 ≤ Int32.toInt r6 ∧ Int32.toInt r6 ≤ 600 from by omega) hy01 (fun q => hfr (by have q : Int32.toInt (i 78 19) = 0 := q; omega))) C0 hH hS clX10 rfl ⟨⟨Nat.le_of_ble_eq_true rfl, Nat.le_of_ble_eq_true rfl⟩, rfl, rfl⟩ cw_X10_270 rfl ⟨Nat.le_of_ble_eq_true rfl, Nat.le_of_ble_eq_true rfl⟩ hl.1 rfl (Nat.le_of_ble_eq_true rfl) dX10_cutOne_154 ⟨Nat.le_of_ble_eq_true rfl, Nat.le_of_ble_eq_true rfl⟩ (fun ir12 Fr12 Gr12 _ locs hp hH hS => ?_)
            obtain ⟨honr12, hTK, hHD, ht19r12⟩ := hp
            have hTK : TKm ir12 Fr12 := hTK
            have hHD : HD ir12 Fr12 := hHD
            have ht19r12 : (ir12 78 19).toInt = Int32.toInt (i 78 19) + 1 := ht19r12
            have hCB : CB Fr12 := CB.ro (F := F) hCB honr12 (by decide)
            have hPI : PLI ir12 := PLI.ro (i := i) (F := F) hPI honr12 (by decide)
            have hi_78_17 : ir12 78 17 = nI 85 := (honr12.1 78 17 (Or.inr (by decide))).trans hi_78_17
            have ek_18r12 : Int32.toInt (ir12 78 18) = Int32.toInt (i 78 18) := congrArg Int32.toInt (honr12.1 78 18 (Or.inr (by decide)))
            refine lv_iload (pc := 157) C0.1 C0.2.1 dX10_cutOne_157 (lv_at hl 0 rfl) ?_
            exact xiret (pc := 159) C0 hr hH hS dX10_cutOne_159 ⟨(RO.tr RO.rf honr12 (by decide) (by decide)), hTK, hHD, hPI, Or.inr ⟨⟨by omega, by omega⟩, (show 1 ≤ Int32.toInt (ir12 78 19) from by omega)⟩, (show Int32.toInt (ir12 78 19) ≤ _ from by omega)⟩
        · have : Int32.toInt 9 = 9 := rfl
          have c9 : ¬ _ := fun q => c9 (Int32.le_iff_toInt_le.mpr q)
          refine lv_aload_n (pc := 128) C0.1 C0.2.1 dX10_cutOne_128 rfl (lv_at hl 3 rfl) ?_
          refine lv_iconst (pc := 129) (v := 1) C0.1 C0.2.1 dX10_cutOne_129 (by decide) ?_
          refine lv_iload_n (pc := 130) C0.1 C0.2.1 dX10_cutOne_130 rfl (lv_at hl 4 rfl) ?_
          refine xcVI (pc := 131) 78 [.int 1, .int x] (m_fail l D tA b i F G 1 x) C0 hH hS clX10 rfl ⟨⟨Nat.le_of_ble_eq_true rfl, Nat.le_of_ble_eq_true rfl⟩, rfl, rfl⟩ cw_X10_254 rfl ⟨Nat.le_of_ble_eq_true rfl, Nat.le_of_ble_eq_true rfl⟩ hl.1 rfl (Nat.le_of_ble_eq_true rfl) dX10_cutOne_131 ⟨Nat.le_of_ble_eq_true rfl, Nat.le_of_ble_eq_true rfl⟩ (fun r13 ir13 Fr13 Gr13 _ locs hp hH hS => ?_)
          obtain ⟨hu, rfl⟩ := hp
          cases hu
          have hH : Hd D tA b 78 52 zz (up2 (up2 i 78 30 1) 78 31 x) F G _ := hH
          refine lv_istore (pc := 134) (lv' := [(6, .int 0), (5, .int r6), (4, .int x4), (3, .int x1), (0, .ref (b + 78)), (1, .int x), (2, .int y)]) C0.1 C0.2.1 dX10_cutOne_134 hl (by decide) rfl (fun ls hl => ?_)
          refine lv_bipush (pc := 136) (v := (-9)) C0.1 C0.2.1 dX10_cutOne_136 (by decide) ?_
          exact xiret (pc := 138) C0 hr hH hS dX10_cutOne_138 ⟨(RO.i (RO.i RO.rf (by decide)) (by decide)), hTK, hHD, (Or.inr (show 0 ≤ Int32.toInt x ∧ Int32.toInt x ≤ 600 from by omega)), Or.inl ⟨rfl, (show 0 ≤ Int32.toInt x ∧ Int32.toInt x ≤ 600 from by omega)⟩, (show Int32.toInt (i 78 19) ≤ _ from by omega)⟩
      · have : Int32.toInt 0 = 0 := rfl
        have c8 : ¬ _ := fun q => c8 (Int32.toInt_inj.mp q)
        refine lv_bipush (pc := 118) (v := 8) C0.1 C0.2.1 dX10_cutOne_118 (by decide) ?_
        refine lv_goto (pc := 120) (tgt := 125) C0.1 C0.2.1 dX10_cutOne_120 (by decide) ?_
        refine lv_icmp_le (pc := 125) (tgt := 139) C0.1 C0.2.1 dX10_cutOne_125 (by decide) (fun c14 => ?_) (fun c14 => ?_)
        · have : Int32.toInt 8 = 8 := rfl
          have c14 := Int32.le_iff_toInt_le.mp c14
          refine lv_aload_n (pc := 139) C0.1 C0.2.1 dX10_cutOne_139 rfl (lv_at hl 3 rfl) ?_
          refine lv_iload (pc := 140) C0.1 C0.2.1 dX10_cutOne_140 (lv_at hl 1 rfl) ?_
          refine lv_if_eq (pc := 142) (tgt := 149) C0.1 C0.2.1 dX10_cutOne_142 (by decide) (fun c15 => ?_) (fun c15 => ?_)
          · have : Int32.toInt 0 = 0 := rfl
            have c15 := congrArg Int32.toInt c15
            refine lv_iconst (pc := 149) (v := 1) C0.1 C0.2.1 dX10_cutOne_149 (by decide) ?_
            refine lv_iload_n (pc := 150) C0.1 C0.2.1 dX10_cutOne_150 rfl (lv_at hl 4 rfl) ?_
            refine lv_iload (pc := 151) C0.1 C0.2.1 dX10_cutOne_151 (lv_at hl 0 rfl) ?_
            refine lv_iload_n (pc := 153) C0.1 C0.2.1 dX10_cutOne_153 rfl (lv_at hl 5 rfl) ?_
            refine xcVV (pc := 154) 78 [.int 1, .int x, .int r6, .int y] (m_add_85 l D tA b i F G 1 x r6 y hi_78_17 hTK hHD hCB (show Int32.toInt (i 78 19) < 600 from by omega) (show 0 ≤ Int32.toInt x ∧ Int32.toInt x + 1 ≤ Int32.toInt r6 ∧ Int32.toInt r6 ≤ 600 from by omega) hy01 (fun q => hfr (by have q : Int32.toInt (i 78 19) = 0 := q; omega))) C0 hH hS clX10 rfl ⟨⟨Nat.le_of_ble_eq_true rfl, Nat.le_of_ble_eq_true rfl⟩, rfl, rfl⟩ cw_X10_270 rfl ⟨Nat.le_of_ble_eq_true rfl, Nat.le_of_ble_eq_true rfl⟩ hl.1 rfl (Nat.le_of_ble_eq_true rfl) dX10_cutOne_154 ⟨Nat.le_of_ble_eq_true rfl, Nat.le_of_ble_eq_true rfl⟩ (fun ir16 Fr16 Gr16 _ locs hp hH hS => ?_)
            obtain ⟨honr16, hTK, hHD, ht19r16⟩ := hp
            have hTK : TKm ir16 Fr16 := hTK
            have hHD : HD ir16 Fr16 := hHD
            have ht19r16 : (ir16 78 19).toInt = Int32.toInt (i 78 19) + 1 := ht19r16
            have hCB : CB Fr16 := CB.ro (F := F) hCB honr16 (by decide)
            have hPI : PLI ir16 := PLI.ro (i := i) (F := F) hPI honr16 (by decide)
            have hi_78_17 : ir16 78 17 = nI 85 := (honr16.1 78 17 (Or.inr (by decide))).trans hi_78_17
            have ek_18r16 : Int32.toInt (ir16 78 18) = Int32.toInt (i 78 18) := congrArg Int32.toInt (honr16.1 78 18 (Or.inr (by decide)))
            refine lv_iload (pc := 157) C0.1 C0.2.1 dX10_cutOne_157 (lv_at hl 0 rfl) ?_
            exact xiret (pc := 159) C0 hr hH hS dX10_cutOne_159 ⟨(RO.tr RO.rf honr16 (by decide) (by decide)), hTK, hHD, hPI, Or.inr ⟨⟨by omega, by omega⟩, (show 1 ≤ Int32.toInt (ir16 78 19) from by omega)⟩, (show Int32.toInt (ir16 78 19) ≤ _ from by omega)⟩
          · have : Int32.toInt 0 = 0 := rfl
            have c15 : ¬ _ := fun q => c15 (Int32.toInt_inj.mp q)
            refine lv_iconst (pc := 145) (v := 0) C0.1 C0.2.1 dX10_cutOne_145 (by decide) ?_
            refine lv_goto (pc := 146) (tgt := 150) C0.1 C0.2.1 dX10_cutOne_146 (by decide) ?_
            refine lv_iload_n (pc := 150) C0.1 C0.2.1 dX10_cutOne_150 rfl (lv_at hl 4 rfl) ?_
            refine lv_iload (pc := 151) C0.1 C0.2.1 dX10_cutOne_151 (lv_at hl 0 rfl) ?_
            refine lv_iload_n (pc := 153) C0.1 C0.2.1 dX10_cutOne_153 rfl (lv_at hl 5 rfl) ?_
            refine xcVV (pc := 154) 78 [.int 0, .int x, .int r6, .int y] (m_add_85 l D tA b i F G 0 x r6 y hi_78_17 hTK hHD hCB (show Int32.toInt (i 78 19) < 600 from by omega) (show 0 ≤ Int32.toInt x ∧ Int32.toInt x + 1 ≤ Int32.toInt r6 ∧ Int32.toInt r6 ≤ 600 from by omega) hy01 (fun q => hfr (by have q : Int32.toInt (i 78 19) = 0 := q; omega))) C0 hH hS clX10 rfl ⟨⟨Nat.le_of_ble_eq_true rfl, Nat.le_of_ble_eq_true rfl⟩, rfl, rfl⟩ cw_X10_270 rfl ⟨Nat.le_of_ble_eq_true rfl, Nat.le_of_ble_eq_true rfl⟩ hl.1 rfl (Nat.le_of_ble_eq_true rfl) dX10_cutOne_154 ⟨Nat.le_of_ble_eq_true rfl, Nat.le_of_ble_eq_true rfl⟩ (fun ir17 Fr17 Gr17 _ locs hp hH hS => ?_)
            obtain ⟨honr17, hTK, hHD, ht19r17⟩ := hp
            have hTK : TKm ir17 Fr17 := hTK
            have hHD : HD ir17 Fr17 := hHD
            have ht19r17 : (ir17 78 19).toInt = Int32.toInt (i 78 19) + 1 := ht19r17
            have hCB : CB Fr17 := CB.ro (F := F) hCB honr17 (by decide)
            have hPI : PLI ir17 := PLI.ro (i := i) (F := F) hPI honr17 (by decide)
            have hi_78_17 : ir17 78 17 = nI 85 := (honr17.1 78 17 (Or.inr (by decide))).trans hi_78_17
            have ek_18r17 : Int32.toInt (ir17 78 18) = Int32.toInt (i 78 18) := congrArg Int32.toInt (honr17.1 78 18 (Or.inr (by decide)))
            refine lv_iload (pc := 157) C0.1 C0.2.1 dX10_cutOne_157 (lv_at hl 0 rfl) ?_
            exact xiret (pc := 159) C0 hr hH hS dX10_cutOne_159 ⟨(RO.tr RO.rf honr17 (by decide) (by decide)), hTK, hHD, hPI, Or.inr ⟨⟨by omega, by omega⟩, (show 1 ≤ Int32.toInt (ir17 78 19) from by omega)⟩, (show Int32.toInt (ir17 78 19) ≤ _ from by omega)⟩
        · have : Int32.toInt 8 = 8 := rfl
          have c14 : ¬ _ := fun q => c14 (Int32.le_iff_toInt_le.mpr q)
          refine lv_aload_n (pc := 128) C0.1 C0.2.1 dX10_cutOne_128 rfl (lv_at hl 3 rfl) ?_
          refine lv_iconst (pc := 129) (v := 1) C0.1 C0.2.1 dX10_cutOne_129 (by decide) ?_
          refine lv_iload_n (pc := 130) C0.1 C0.2.1 dX10_cutOne_130 rfl (lv_at hl 4 rfl) ?_
          refine xcVI (pc := 131) 78 [.int 1, .int x] (m_fail l D tA b i F G 1 x) C0 hH hS clX10 rfl ⟨⟨Nat.le_of_ble_eq_true rfl, Nat.le_of_ble_eq_true rfl⟩, rfl, rfl⟩ cw_X10_254 rfl ⟨Nat.le_of_ble_eq_true rfl, Nat.le_of_ble_eq_true rfl⟩ hl.1 rfl (Nat.le_of_ble_eq_true rfl) dX10_cutOne_131 ⟨Nat.le_of_ble_eq_true rfl, Nat.le_of_ble_eq_true rfl⟩ (fun r18 ir18 Fr18 Gr18 _ locs hp hH hS => ?_)
          obtain ⟨hu, rfl⟩ := hp
          cases hu
          have hH : Hd D tA b 78 52 zz (up2 (up2 i 78 30 1) 78 31 x) F G _ := hH
          refine lv_istore (pc := 134) (lv' := [(6, .int 0), (5, .int r6), (4, .int x4), (3, .int x1), (0, .ref (b + 78)), (1, .int x), (2, .int y)]) C0.1 C0.2.1 dX10_cutOne_134 hl (by decide) rfl (fun ls hl => ?_)
          refine lv_bipush (pc := 136) (v := (-9)) C0.1 C0.2.1 dX10_cutOne_136 (by decide) ?_
          exact xiret (pc := 138) C0 hr hH hS dX10_cutOne_138 ⟨(RO.i (RO.i RO.rf (by decide)) (by decide)), hTK, hHD, (Or.inr (show 0 ≤ Int32.toInt x ∧ Int32.toInt x ≤ 600 from by omega)), Or.inl ⟨rfl, (show 0 ≤ Int32.toInt x ∧ Int32.toInt x ≤ 600 from by omega)⟩, (show Int32.toInt (i 78 19) ≤ _ from by omega)⟩
    · have : Int32.toInt 0 = 0 := rfl
      have c5 := congrArg Int32.toInt c5
      refine lv_iload_n (pc := 93) C0.1 C0.2.1 dX10_cutOne_93 rfl (lv_at hl 1 rfl) ?_
      refine xcSI (pc := 94) [.int x1] (m_isDigit l D tA b i F G x1) C0 hH hS cw_X10_261 rfl ⟨Nat.le_of_ble_eq_true rfl, Nat.le_of_ble_eq_true rfl⟩ hl.1 rfl (Nat.le_of_ble_eq_true rfl) dX10_cutOne_94 ⟨Nat.le_of_ble_eq_true rfl, Nat.le_of_ble_eq_true rfl⟩ (fun r19 ir19 Fr19 Gr19 _ locs hp hH hS => ?_)
      obtain ⟨hu, rfl⟩ := hp
      cases hu
      refine lv_if_eq (pc := 97) (tgt := 160) C0.1 C0.2.1 dX10_cutOne_97 (by decide) (fun c20 => ?_) (fun c20 => ?_)
      · have : Int32.toInt 0 = 0 := rfl
        have c20 := congrArg Int32.toInt c20
        refine lv_iload_n (pc := 160) C0.1 C0.2.1 dX10_cutOne_160 rfl (lv_at hl 1 rfl) ?_
        refine xcSI (pc := 161) [.int x1] (m_isMark l D tA b i F G x1 ) C0 hH hS cw_X10_179 rfl ⟨Nat.le_of_ble_eq_true rfl, Nat.le_of_ble_eq_true rfl⟩ hl.1 rfl (Nat.le_of_ble_eq_true rfl) dX10_cutOne_161 ⟨Nat.le_of_ble_eq_true rfl, Nat.le_of_ble_eq_true rfl⟩ (fun r21 ir21 Fr21 Gr21 _ locs hp hH hS => ?_)
        obtain ⟨hu, hpr21⟩ := hp
        cases hu
        refine lv_if_ne (pc := 164) (tgt := 178) C0.1 C0.2.1 dX10_cutOne_164 (by decide) (fun c22 => ?_) (fun c22 => ?_)
        · have : Int32.toInt 0 = 0 := rfl
          have c22 : ¬ _ := fun q => c22 (Int32.toInt_inj.mp q)
          refine lv_aload_n (pc := 178) C0.1 C0.2.1 dX10_cutOne_178 rfl (lv_at hl 2 rfl) ?_
          refine lv_iconst (pc := 179) (v := 2) C0.1 C0.2.1 dX10_cutOne_179 (by decide) ?_
          refine lv_iload_n (pc := 180) C0.1 C0.2.1 dX10_cutOne_180 rfl (lv_at hl 3 rfl) ?_
          refine lv_iload_n (pc := 181) C0.1 C0.2.1 dX10_cutOne_181 rfl (lv_at hl 3 rfl) ?_
          refine lv_iconst (pc := 182) (v := 1) C0.1 C0.2.1 dX10_cutOne_182 (by decide) ?_
          have : Int32.toInt 1 = 1 := rfl
          refine lv_iadd (pc := 183) C0.1 C0.2.1 dX10_cutOne_183 ?_
          refine lv_topi (fun x23 ex23 => ?_)
          have hx23 : Int32.toInt x23 = Int32.toInt x + Int32.toInt 1 := by rw [ex23]; exact fb_addI (by omega) (by omega)
          refine lv_iload_n (pc := 184) C0.1 C0.2.1 dX10_cutOne_184 rfl (lv_at hl 4 rfl) ?_
          refine xcVV (pc := 185) 78 [.int 2, .int x, .int x23, .int y] (m_add_85 l D tA b i F G 2 x x23 y hi_78_17 hTK hHD hCB (show Int32.toInt (i 78 19) < 600 from by omega) (show 0 ≤ Int32.toInt x ∧ Int32.toInt x + 1 ≤ Int32.toInt x23 ∧ Int32.toInt x23 ≤ 600 from by omega) hy01 (fun q => hfr (by have q : Int32.toInt (i 78 19) = 0 := q; omega))) C0 hH hS clX10 rfl ⟨⟨Nat.le_of_ble_eq_true rfl, Nat.le_of_ble_eq_true rfl⟩, rfl, rfl⟩ cw_X10_270 rfl ⟨Nat.le_of_ble_eq_true rfl, Nat.le_of_ble_eq_true rfl⟩ hl.1 rfl (Nat.le_of_ble_eq_true rfl) dX10_cutOne_185 ⟨Nat.le_of_ble_eq_true rfl, Nat.le_of_ble_eq_true rfl⟩ (fun ir24 Fr24 Gr24 _ locs hp hH hS => ?_)
          obtain ⟨honr24, hTK, hHD, ht19r24⟩ := hp
          have hTK : TKm ir24 Fr24 := hTK
          have hHD : HD ir24 Fr24 := hHD
          have ht19r24 : (ir24 78 19).toInt = Int32.toInt (i 78 19) + 1 := ht19r24
          have hCB : CB Fr24 := CB.ro (F := F) hCB honr24 (by decide)
          have hPI : PLI ir24 := PLI.ro (i := i) (F := F) hPI honr24 (by decide)
          have hi_78_17 : ir24 78 17 = nI 85 := (honr24.1 78 17 (Or.inr (by decide))).trans hi_78_17
          have ek_18r24 : Int32.toInt (ir24 78 18) = Int32.toInt (i 78 18) := congrArg Int32.toInt (honr24.1 78 18 (Or.inr (by decide)))
          refine lv_iload_n (pc := 188) C0.1 C0.2.1 dX10_cutOne_188 rfl (lv_at hl 3 rfl) ?_
          refine lv_iconst (pc := 189) (v := 1) C0.1 C0.2.1 dX10_cutOne_189 (by decide) ?_
          have : Int32.toInt 1 = 1 := rfl
          refine lv_iadd (pc := 190) C0.1 C0.2.1 dX10_cutOne_190 ?_
          refine lv_topi (fun x25 ex25 => ?_)
          have hx25 : Int32.toInt x25 = Int32.toInt x + Int32.toInt 1 := by rw [ex25]; exact fb_addI (by omega) (by omega)
          exact xiret (pc := 191) C0 hr hH hS dX10_cutOne_191 ⟨(RO.tr RO.rf honr24 (by decide) (by decide)), hTK, hHD, hPI, Or.inr ⟨⟨by omega, by omega⟩, (show 1 ≤ Int32.toInt (ir24 78 19) from by omega)⟩, (show Int32.toInt (ir24 78 19) ≤ _ from by omega)⟩
        · have : Int32.toInt 0 = 0 := rfl
          have c22 := congrArg Int32.toInt c22
          refine lv_aload_n (pc := 167) C0.1 C0.2.1 dX10_cutOne_167 rfl (lv_at hl 2 rfl) ?_
          refine lv_iconst (pc := 168) (v := 1) C0.1 C0.2.1 dX10_cutOne_168 (by decide) ?_
          refine lv_iload_n (pc := 169) C0.1 C0.2.1 dX10_cutOne_169 rfl (lv_at hl 3 rfl) ?_
          refine xcVI (pc := 170) 78 [.int 1, .int x] (m_fail l D tA b i F G 1 x) C0 hH hS clX10 rfl ⟨⟨Nat.le_of_ble_eq_true rfl, Nat.le_of_ble_eq_true rfl⟩, rfl, rfl⟩ cw_X10_254 rfl ⟨Nat.le_of_ble_eq_true rfl, Nat.le_of_ble_eq_true rfl⟩ hl.1 rfl (Nat.le_of_ble_eq_true rfl) dX10_cutOne_170 ⟨Nat.le_of_ble_eq_true rfl, Nat.le_of_ble_eq_true rfl⟩ (fun r26 ir26 Fr26 Gr26 _ locs hp hH hS => ?_)
          obtain ⟨hu, rfl⟩ := hp
          cases hu
          have hH : Hd D tA b 78 52 zz (up2 (up2 i 78 30 1) 78 31 x) F G _ := hH
          refine lv_istore (pc := 173) (lv' := [(5, .int 0), (4, .int x4), (3, .int x1), (0, .ref (b + 78)), (1, .int x), (2, .int y)]) C0.1 C0.2.1 dX10_cutOne_173 hl (by decide) rfl (fun ls hl => ?_)
          refine lv_bipush (pc := 175) (v := (-9)) C0.1 C0.2.1 dX10_cutOne_175 (by decide) ?_
          exact xiret (pc := 177) C0 hr hH hS dX10_cutOne_177 ⟨(RO.i (RO.i RO.rf (by decide)) (by decide)), hTK, hHD, (Or.inr (show 0 ≤ Int32.toInt x ∧ Int32.toInt x ≤ 600 from by omega)), Or.inl ⟨rfl, (show 0 ≤ Int32.toInt x ∧ Int32.toInt x ≤ 600 from by omega)⟩, (show Int32.toInt (i 78 19) ≤ _ from by omega)⟩
      · have : Int32.toInt 0 = 0 := rfl
        have c20 : ¬ _ := fun q => c20 (Int32.toInt_inj.mp q)
        have hbh : (¬ x4 = 0 → ¬ lt_ (F 85 (Int32.toNatClampNeg x)) = 0) ∧ (x4 = 0 → ¬ dg (F 85 (Int32.toNatClampNeg x)) = 0) := ⟨fun q => absurd (Int32.toInt_inj.mp (by assumption)) q, fun _ => by rw [← ex1]; first | assumption | exact fun w => absurd (congrArg Int32.toInt w) (by assumption)⟩
        refine lv_aload_n (pc := 100) C0.1 C0.2.1 dX10_cutOne_100 rfl (lv_at hl 2 rfl) ?_
        refine lv_iload_n (pc := 101) C0.1 C0.2.1 dX10_cutOne_101 rfl (lv_at hl 3 rfl) ?_
        refine lv_iload (pc := 102) C0.1 C0.2.1 dX10_cutOne_102 (lv_at hl 0 rfl) ?_
        refine xcVI (pc := 104) 78 [.int x, .int x4] (m_behind_85 l D tA b i F G x x4 hi_78_17 (show 0 ≤ Int32.toInt (i 78 18) ∧ Int32.toInt (i 78 18) ≤ 600 from by omega) (by omega) hbh (by omega)) C0 hH hS clX10 rfl ⟨⟨Nat.le_of_ble_eq_true rfl, Nat.le_of_ble_eq_true rfl⟩, rfl, rfl⟩ cw_X10_274 rfl ⟨Nat.le_of_ble_eq_true rfl, Nat.le_of_ble_eq_true rfl⟩ hl.1 rfl (Nat.le_of_ble_eq_true rfl) dX10_cutOne_104 ⟨Nat.le_of_ble_eq_true rfl, Nat.le_of_ble_eq_true rfl⟩ (fun r27 ir27 Fr27 Gr27 _ locs hp hH hS => ?_)
        obtain ⟨hu, hpr27⟩ := hp
        cases hu
        refine lv_istore (pc := 107) (lv' := [(5, .int r27), (4, .int x4), (3, .int x1), (0, .ref (b + 78)), (1, .int x), (2, .int y)]) C0.1 C0.2.1 dX10_cutOne_107 hl (by decide) rfl (fun ls hl => ?_)
        refine lv_iload (pc := 109) C0.1 C0.2.1 dX10_cutOne_109 (lv_at hl 0 rfl) ?_
        refine lv_iload_n (pc := 111) C0.1 C0.2.1 dX10_cutOne_111 rfl (lv_at hl 4 rfl) ?_
        refine lv_isub (pc := 112) C0.1 C0.2.1 dX10_cutOne_112 ?_
        refine lv_topi (fun x28 ex28 => ?_)
        have hx28 : Int32.toInt x28 = Int32.toInt r27 - Int32.toInt x := by rw [ex28]; exact fb_subI (by omega) (by omega)
        refine lv_iload (pc := 113) C0.1 C0.2.1 dX10_cutOne_113 (lv_at hl 1 rfl) ?_
        refine lv_if_eq (pc := 115) (tgt := 123) C0.1 C0.2.1 dX10_cutOne_115 (by decide) (fun c29 => ?_) (fun c29 => ?_)
        · have : Int32.toInt 0 = 0 := rfl
          have c29 := congrArg Int32.toInt c29
          refine lv_bipush (pc := 123) (v := 9) C0.1 C0.2.1 dX10_cutOne_123 (by decide) ?_
          refine lv_icmp_le (pc := 125) (tgt := 139) C0.1 C0.2.1 dX10_cutOne_125 (by decide) (fun c30 => ?_) (fun c30 => ?_)
          · have : Int32.toInt 9 = 9 := rfl
            have c30 := Int32.le_iff_toInt_le.mp c30
            refine lv_aload_n (pc := 139) C0.1 C0.2.1 dX10_cutOne_139 rfl (lv_at hl 3 rfl) ?_
            refine lv_iload (pc := 140) C0.1 C0.2.1 dX10_cutOne_140 (lv_at hl 1 rfl) ?_
            refine lv_if_eq (pc := 142) (tgt := 149) C0.1 C0.2.1 dX10_cutOne_142 (by decide) (fun c31 => ?_) (fun c31 => ?_)
            · have : Int32.toInt 0 = 0 := rfl
              have c31 := congrArg Int32.toInt c31
              refine lv_iconst (pc := 149) (v := 1) C0.1 C0.2.1 dX10_cutOne_149 (by decide) ?_
              refine lv_iload_n (pc := 150) C0.1 C0.2.1 dX10_cutOne_150 rfl (lv_at hl 4 rfl) ?_
              refine lv_iload (pc := 151) C0.1 C0.2.1 dX10_cutOne_151 (lv_at hl 0 rfl) ?_
              refine lv_iload_n (pc := 153) C0.1 C0.2.1 dX10_cutOne_153 rfl (lv_at hl 5 rfl) ?_
              refine xcVV (pc := 154) 78 [.int 1, .int x, .int r27, .int y] (m_add_85 l D tA b i F G 1 x r27 y hi_78_17 hTK hHD hCB (show Int32.toInt (i 78 19) < 600 from by omega) (show 0 ≤ Int32.toInt x ∧ Int32.toInt x + 1 ≤ Int32.toInt r27 ∧ Int32.toInt r27 ≤ 600 from by omega) hy01 (fun q => hfr (by have q : Int32.toInt (i 78 19) = 0 := q; omega))) C0 hH hS clX10 rfl ⟨⟨Nat.le_of_ble_eq_true rfl, Nat.le_of_ble_eq_true rfl⟩, rfl, rfl⟩ cw_X10_270 rfl ⟨Nat.le_of_ble_eq_true rfl, Nat.le_of_ble_eq_true rfl⟩ hl.1 rfl (Nat.le_of_ble_eq_true rfl) dX10_cutOne_154 ⟨Nat.le_of_ble_eq_true rfl, Nat.le_of_ble_eq_true rfl⟩ (fun ir32 Fr32 Gr32 _ locs hp hH hS => ?_)
              obtain ⟨honr32, hTK, hHD, ht19r32⟩ := hp
              have hTK : TKm ir32 Fr32 := hTK
              have hHD : HD ir32 Fr32 := hHD
              have ht19r32 : (ir32 78 19).toInt = Int32.toInt (i 78 19) + 1 := ht19r32
              have hCB : CB Fr32 := CB.ro (F := F) hCB honr32 (by decide)
              have hPI : PLI ir32 := PLI.ro (i := i) (F := F) hPI honr32 (by decide)
              have hi_78_17 : ir32 78 17 = nI 85 := (honr32.1 78 17 (Or.inr (by decide))).trans hi_78_17
              have ek_18r32 : Int32.toInt (ir32 78 18) = Int32.toInt (i 78 18) := congrArg Int32.toInt (honr32.1 78 18 (Or.inr (by decide)))
              refine lv_iload (pc := 157) C0.1 C0.2.1 dX10_cutOne_157 (lv_at hl 0 rfl) ?_
              exact xiret (pc := 159) C0 hr hH hS dX10_cutOne_159 ⟨(RO.tr RO.rf honr32 (by decide) (by decide)), hTK, hHD, hPI, Or.inr ⟨⟨by omega, by omega⟩, (show 1 ≤ Int32.toInt (ir32 78 19) from by omega)⟩, (show Int32.toInt (ir32 78 19) ≤ _ from by omega)⟩
            · have : Int32.toInt 0 = 0 := rfl
              have c31 : ¬ _ := fun q => c31 (Int32.toInt_inj.mp q)
              refine lv_iconst (pc := 145) (v := 0) C0.1 C0.2.1 dX10_cutOne_145 (by decide) ?_
              refine lv_goto (pc := 146) (tgt := 150) C0.1 C0.2.1 dX10_cutOne_146 (by decide) ?_
              refine lv_iload_n (pc := 150) C0.1 C0.2.1 dX10_cutOne_150 rfl (lv_at hl 4 rfl) ?_
              refine lv_iload (pc := 151) C0.1 C0.2.1 dX10_cutOne_151 (lv_at hl 0 rfl) ?_
              refine lv_iload_n (pc := 153) C0.1 C0.2.1 dX10_cutOne_153 rfl (lv_at hl 5 rfl) ?_
              refine xcVV (pc := 154) 78 [.int 0, .int x, .int r27, .int y] (m_add_85 l D tA b i F G 0 x r27 y hi_78_17 hTK hHD hCB (show Int32.toInt (i 78 19) < 600 from by omega) (show 0 ≤ Int32.toInt x ∧ Int32.toInt x + 1 ≤ Int32.toInt r27 ∧ Int32.toInt r27 ≤ 600 from by omega) hy01 (fun q => hfr (by have q : Int32.toInt (i 78 19) = 0 := q; omega))) C0 hH hS clX10 rfl ⟨⟨Nat.le_of_ble_eq_true rfl, Nat.le_of_ble_eq_true rfl⟩, rfl, rfl⟩ cw_X10_270 rfl ⟨Nat.le_of_ble_eq_true rfl, Nat.le_of_ble_eq_true rfl⟩ hl.1 rfl (Nat.le_of_ble_eq_true rfl) dX10_cutOne_154 ⟨Nat.le_of_ble_eq_true rfl, Nat.le_of_ble_eq_true rfl⟩ (fun ir33 Fr33 Gr33 _ locs hp hH hS => ?_)
              obtain ⟨honr33, hTK, hHD, ht19r33⟩ := hp
              have hTK : TKm ir33 Fr33 := hTK
              have hHD : HD ir33 Fr33 := hHD
              have ht19r33 : (ir33 78 19).toInt = Int32.toInt (i 78 19) + 1 := ht19r33
              have hCB : CB Fr33 := CB.ro (F := F) hCB honr33 (by decide)
              have hPI : PLI ir33 := PLI.ro (i := i) (F := F) hPI honr33 (by decide)
              have hi_78_17 : ir33 78 17 = nI 85 := (honr33.1 78 17 (Or.inr (by decide))).trans hi_78_17
              have ek_18r33 : Int32.toInt (ir33 78 18) = Int32.toInt (i 78 18) := congrArg Int32.toInt (honr33.1 78 18 (Or.inr (by decide)))
              refine lv_iload (pc := 157) C0.1 C0.2.1 dX10_cutOne_157 (lv_at hl 0 rfl) ?_
              exact xiret (pc := 159) C0 hr hH hS dX10_cutOne_159 ⟨(RO.tr RO.rf honr33 (by decide) (by decide)), hTK, hHD, hPI, Or.inr ⟨⟨by omega, by omega⟩, (show 1 ≤ Int32.toInt (ir33 78 19) from by omega)⟩, (show Int32.toInt (ir33 78 19) ≤ _ from by omega)⟩
          · have : Int32.toInt 9 = 9 := rfl
            have c30 : ¬ _ := fun q => c30 (Int32.le_iff_toInt_le.mpr q)
            refine lv_aload_n (pc := 128) C0.1 C0.2.1 dX10_cutOne_128 rfl (lv_at hl 3 rfl) ?_
            refine lv_iconst (pc := 129) (v := 1) C0.1 C0.2.1 dX10_cutOne_129 (by decide) ?_
            refine lv_iload_n (pc := 130) C0.1 C0.2.1 dX10_cutOne_130 rfl (lv_at hl 4 rfl) ?_
            refine xcVI (pc := 131) 78 [.int 1, .int x] (m_fail l D tA b i F G 1 x) C0 hH hS clX10 rfl ⟨⟨Nat.le_of_ble_eq_true rfl, Nat.le_of_ble_eq_true rfl⟩, rfl, rfl⟩ cw_X10_254 rfl ⟨Nat.le_of_ble_eq_true rfl, Nat.le_of_ble_eq_true rfl⟩ hl.1 rfl (Nat.le_of_ble_eq_true rfl) dX10_cutOne_131 ⟨Nat.le_of_ble_eq_true rfl, Nat.le_of_ble_eq_true rfl⟩ (fun r34 ir34 Fr34 Gr34 _ locs hp hH hS => ?_)
            obtain ⟨hu, rfl⟩ := hp
            cases hu
            have hH : Hd D tA b 78 52 zz (up2 (up2 i 78 30 1) 78 31 x) F G _ := hH
            refine lv_istore (pc := 134) (lv' := [(6, .int 0), (5, .int r27), (4, .int x4), (3, .int x1), (0, .ref (b + 78)), (1, .int x), (2, .int y)]) C0.1 C0.2.1 dX10_cutOne_134 hl (by decide) rfl (fun ls hl => ?_)
            refine lv_bipush (pc := 136) (v := (-9)) C0.1 C0.2.1 dX10_cutOne_136 (by decide) ?_
            exact xiret (pc := 138) C0 hr hH hS dX10_cutOne_138 ⟨(RO.i (RO.i RO.rf (by decide)) (by decide)), hTK, hHD, (Or.inr (show 0 ≤ Int32.toInt x ∧ Int32.toInt x ≤ 600 from by omega)), Or.inl ⟨rfl, (show 0 ≤ Int32.toInt x ∧ Int32.toInt x ≤ 600 from by omega)⟩, (show Int32.toInt (i 78 19) ≤ _ from by omega)⟩
        · have : Int32.toInt 0 = 0 := rfl
          have c29 : ¬ _ := fun q => c29 (Int32.toInt_inj.mp q)
          refine lv_bipush (pc := 118) (v := 8) C0.1 C0.2.1 dX10_cutOne_118 (by decide) ?_
          refine lv_goto (pc := 120) (tgt := 125) C0.1 C0.2.1 dX10_cutOne_120 (by decide) ?_
          refine lv_icmp_le (pc := 125) (tgt := 139) C0.1 C0.2.1 dX10_cutOne_125 (by decide) (fun c35 => ?_) (fun c35 => ?_)
          · have : Int32.toInt 8 = 8 := rfl
            have c35 := Int32.le_iff_toInt_le.mp c35
            refine lv_aload_n (pc := 139) C0.1 C0.2.1 dX10_cutOne_139 rfl (lv_at hl 3 rfl) ?_
            refine lv_iload (pc := 140) C0.1 C0.2.1 dX10_cutOne_140 (lv_at hl 1 rfl) ?_
            refine lv_if_eq (pc := 142) (tgt := 149) C0.1 C0.2.1 dX10_cutOne_142 (by decide) (fun c36 => ?_) (fun c36 => ?_)
            · have : Int32.toInt 0 = 0 := rfl
              have c36 := congrArg Int32.toInt c36
              refine lv_iconst (pc := 149) (v := 1) C0.1 C0.2.1 dX10_cutOne_149 (by decide) ?_
              refine lv_iload_n (pc := 150) C0.1 C0.2.1 dX10_cutOne_150 rfl (lv_at hl 4 rfl) ?_
              refine lv_iload (pc := 151) C0.1 C0.2.1 dX10_cutOne_151 (lv_at hl 0 rfl) ?_
              refine lv_iload_n (pc := 153) C0.1 C0.2.1 dX10_cutOne_153 rfl (lv_at hl 5 rfl) ?_
              refine xcVV (pc := 154) 78 [.int 1, .int x, .int r27, .int y] (m_add_85 l D tA b i F G 1 x r27 y hi_78_17 hTK hHD hCB (show Int32.toInt (i 78 19) < 600 from by omega) (show 0 ≤ Int32.toInt x ∧ Int32.toInt x + 1 ≤ Int32.toInt r27 ∧ Int32.toInt r27 ≤ 600 from by omega) hy01 (fun q => hfr (by have q : Int32.toInt (i 78 19) = 0 := q; omega))) C0 hH hS clX10 rfl ⟨⟨Nat.le_of_ble_eq_true rfl, Nat.le_of_ble_eq_true rfl⟩, rfl, rfl⟩ cw_X10_270 rfl ⟨Nat.le_of_ble_eq_true rfl, Nat.le_of_ble_eq_true rfl⟩ hl.1 rfl (Nat.le_of_ble_eq_true rfl) dX10_cutOne_154 ⟨Nat.le_of_ble_eq_true rfl, Nat.le_of_ble_eq_true rfl⟩ (fun ir37 Fr37 Gr37 _ locs hp hH hS => ?_)
              obtain ⟨honr37, hTK, hHD, ht19r37⟩ := hp
              have hTK : TKm ir37 Fr37 := hTK
              have hHD : HD ir37 Fr37 := hHD
              have ht19r37 : (ir37 78 19).toInt = Int32.toInt (i 78 19) + 1 := ht19r37
              have hCB : CB Fr37 := CB.ro (F := F) hCB honr37 (by decide)
              have hPI : PLI ir37 := PLI.ro (i := i) (F := F) hPI honr37 (by decide)
              have hi_78_17 : ir37 78 17 = nI 85 := (honr37.1 78 17 (Or.inr (by decide))).trans hi_78_17
              have ek_18r37 : Int32.toInt (ir37 78 18) = Int32.toInt (i 78 18) := congrArg Int32.toInt (honr37.1 78 18 (Or.inr (by decide)))
              refine lv_iload (pc := 157) C0.1 C0.2.1 dX10_cutOne_157 (lv_at hl 0 rfl) ?_
              exact xiret (pc := 159) C0 hr hH hS dX10_cutOne_159 ⟨(RO.tr RO.rf honr37 (by decide) (by decide)), hTK, hHD, hPI, Or.inr ⟨⟨by omega, by omega⟩, (show 1 ≤ Int32.toInt (ir37 78 19) from by omega)⟩, (show Int32.toInt (ir37 78 19) ≤ _ from by omega)⟩
            · have : Int32.toInt 0 = 0 := rfl
              have c36 : ¬ _ := fun q => c36 (Int32.toInt_inj.mp q)
              refine lv_iconst (pc := 145) (v := 0) C0.1 C0.2.1 dX10_cutOne_145 (by decide) ?_
              refine lv_goto (pc := 146) (tgt := 150) C0.1 C0.2.1 dX10_cutOne_146 (by decide) ?_
              refine lv_iload_n (pc := 150) C0.1 C0.2.1 dX10_cutOne_150 rfl (lv_at hl 4 rfl) ?_
              refine lv_iload (pc := 151) C0.1 C0.2.1 dX10_cutOne_151 (lv_at hl 0 rfl) ?_
              refine lv_iload_n (pc := 153) C0.1 C0.2.1 dX10_cutOne_153 rfl (lv_at hl 5 rfl) ?_
              refine xcVV (pc := 154) 78 [.int 0, .int x, .int r27, .int y] (m_add_85 l D tA b i F G 0 x r27 y hi_78_17 hTK hHD hCB (show Int32.toInt (i 78 19) < 600 from by omega) (show 0 ≤ Int32.toInt x ∧ Int32.toInt x + 1 ≤ Int32.toInt r27 ∧ Int32.toInt r27 ≤ 600 from by omega) hy01 (fun q => hfr (by have q : Int32.toInt (i 78 19) = 0 := q; omega))) C0 hH hS clX10 rfl ⟨⟨Nat.le_of_ble_eq_true rfl, Nat.le_of_ble_eq_true rfl⟩, rfl, rfl⟩ cw_X10_270 rfl ⟨Nat.le_of_ble_eq_true rfl, Nat.le_of_ble_eq_true rfl⟩ hl.1 rfl (Nat.le_of_ble_eq_true rfl) dX10_cutOne_154 ⟨Nat.le_of_ble_eq_true rfl, Nat.le_of_ble_eq_true rfl⟩ (fun ir38 Fr38 Gr38 _ locs hp hH hS => ?_)
              obtain ⟨honr38, hTK, hHD, ht19r38⟩ := hp
              have hTK : TKm ir38 Fr38 := hTK
              have hHD : HD ir38 Fr38 := hHD
              have ht19r38 : (ir38 78 19).toInt = Int32.toInt (i 78 19) + 1 := ht19r38
              have hCB : CB Fr38 := CB.ro (F := F) hCB honr38 (by decide)
              have hPI : PLI ir38 := PLI.ro (i := i) (F := F) hPI honr38 (by decide)
              have hi_78_17 : ir38 78 17 = nI 85 := (honr38.1 78 17 (Or.inr (by decide))).trans hi_78_17
              have ek_18r38 : Int32.toInt (ir38 78 18) = Int32.toInt (i 78 18) := congrArg Int32.toInt (honr38.1 78 18 (Or.inr (by decide)))
              refine lv_iload (pc := 157) C0.1 C0.2.1 dX10_cutOne_157 (lv_at hl 0 rfl) ?_
              exact xiret (pc := 159) C0 hr hH hS dX10_cutOne_159 ⟨(RO.tr RO.rf honr38 (by decide) (by decide)), hTK, hHD, hPI, Or.inr ⟨⟨by omega, by omega⟩, (show 1 ≤ Int32.toInt (ir38 78 19) from by omega)⟩, (show Int32.toInt (ir38 78 19) ≤ _ from by omega)⟩
          · have : Int32.toInt 8 = 8 := rfl
            have c35 : ¬ _ := fun q => c35 (Int32.le_iff_toInt_le.mpr q)
            refine lv_aload_n (pc := 128) C0.1 C0.2.1 dX10_cutOne_128 rfl (lv_at hl 3 rfl) ?_
            refine lv_iconst (pc := 129) (v := 1) C0.1 C0.2.1 dX10_cutOne_129 (by decide) ?_
            refine lv_iload_n (pc := 130) C0.1 C0.2.1 dX10_cutOne_130 rfl (lv_at hl 4 rfl) ?_
            refine xcVI (pc := 131) 78 [.int 1, .int x] (m_fail l D tA b i F G 1 x) C0 hH hS clX10 rfl ⟨⟨Nat.le_of_ble_eq_true rfl, Nat.le_of_ble_eq_true rfl⟩, rfl, rfl⟩ cw_X10_254 rfl ⟨Nat.le_of_ble_eq_true rfl, Nat.le_of_ble_eq_true rfl⟩ hl.1 rfl (Nat.le_of_ble_eq_true rfl) dX10_cutOne_131 ⟨Nat.le_of_ble_eq_true rfl, Nat.le_of_ble_eq_true rfl⟩ (fun r39 ir39 Fr39 Gr39 _ locs hp hH hS => ?_)
            obtain ⟨hu, rfl⟩ := hp
            cases hu
            have hH : Hd D tA b 78 52 zz (up2 (up2 i 78 30 1) 78 31 x) F G _ := hH
            refine lv_istore (pc := 134) (lv' := [(6, .int 0), (5, .int r27), (4, .int x4), (3, .int x1), (0, .ref (b + 78)), (1, .int x), (2, .int y)]) C0.1 C0.2.1 dX10_cutOne_134 hl (by decide) rfl (fun ls hl => ?_)
            refine lv_bipush (pc := 136) (v := (-9)) C0.1 C0.2.1 dX10_cutOne_136 (by decide) ?_
            exact xiret (pc := 138) C0 hr hH hS dX10_cutOne_138 ⟨(RO.i (RO.i RO.rf (by decide)) (by decide)), hTK, hHD, (Or.inr (show 0 ≤ Int32.toInt x ∧ Int32.toInt x ≤ 600 from by omega)), Or.inl ⟨rfl, (show 0 ≤ Int32.toInt x ∧ Int32.toInt x ≤ 600 from by omega)⟩, (show Int32.toInt (i 78 19) ≤ _ from by omega)⟩
  · have : Int32.toInt 39 = 39 := rfl
    have c2 := congrArg Int32.toInt c2
    refine lv_aload_n (pc := 13) C0.1 C0.2.1 dX10_cutOne_13 rfl (lv_at hl 1 rfl) ?_
    refine lv_iload_n (pc := 14) C0.1 C0.2.1 dX10_cutOne_14 rfl (lv_at hl 2 rfl) ?_
    refine lv_iconst (pc := 15) (v := 1) C0.1 C0.2.1 dX10_cutOne_15 (by decide) ?_
    have : Int32.toInt 1 = 1 := rfl
    refine lv_iadd (pc := 16) C0.1 C0.2.1 dX10_cutOne_16 ?_
    refine lv_topi (fun x40 ex40 => ?_)
    have hx40 : Int32.toInt x40 = Int32.toInt x + Int32.toInt 1 := by rw [ex40]; exact fb_addI (by omega) (by omega)
    refine lv_bipush (pc := 17) (v := 39) C0.1 C0.2.1 dX10_cutOne_17 (by decide) ?_
    refine xcVI (pc := 19) 78 [.int x40, .int 39] (m_next_85 l D tA b i F G x40 39 hi_78_17 (show 0 ≤ Int32.toInt (i 78 18) ∧ Int32.toInt (i 78 18) ≤ 600 from by omega) (show 0 ≤ Int32.toInt x40 ∧ Int32.toInt x40 ≤ Int32.toInt (i 78 18) from by omega)) C0 hH hS clX10 rfl ⟨⟨Nat.le_of_ble_eq_true rfl, Nat.le_of_ble_eq_true rfl⟩, rfl, rfl⟩ cw_X10_264 rfl ⟨Nat.le_of_ble_eq_true rfl, Nat.le_of_ble_eq_true rfl⟩ hl.1 rfl (Nat.le_of_ble_eq_true rfl) dX10_cutOne_19 ⟨Nat.le_of_ble_eq_true rfl, Nat.le_of_ble_eq_true rfl⟩ (fun r41 ir41 Fr41 Gr41 _ locs hp hH hS => ?_)
    obtain ⟨hu, hpr41⟩ := hp
    cases hu
    refine lv_istore (pc := 22) (lv' := [(4, .int r41), (3, .int x1), (0, .ref (b + 78)), (1, .int x), (2, .int y)]) C0.1 C0.2.1 dX10_cutOne_22 hl (by decide) rfl (fun ls hl => ?_)
    refine lv_iload (pc := 24) C0.1 C0.2.1 dX10_cutOne_24 (lv_at hl 0 rfl) ?_
    refine lv_aload_n (pc := 26) C0.1 C0.2.1 dX10_cutOne_26 rfl (lv_at hl 2 rfl) ?_
    refine xget (pc := 27) C0 hH 78 18 clX10 ⟨Nat.le_of_ble_eq_true rfl, Nat.le_of_ble_eq_true rfl⟩ ⟨rfl, rfl⟩ (Nat.le_of_ble_eq_true rfl) fl_X10_251 (v := .int (i 78 18)) rfl dX10_cutOne_27 ?_
    refine lv_icmp_ge (pc := 30) (tgt := 43) C0.1 C0.2.1 dX10_cutOne_30 (by decide) (fun c42 => ?_) (fun c42 => ?_)
    · have c42 := Int32.le_iff_toInt_le.mp c42
      refine lv_aload_n (pc := 43) C0.1 C0.2.1 dX10_cutOne_43 rfl (lv_at hl 2 rfl) ?_
      refine lv_iconst (pc := 44) (v := 1) C0.1 C0.2.1 dX10_cutOne_44 (by decide) ?_
      refine lv_iload_n (pc := 45) C0.1 C0.2.1 dX10_cutOne_45 rfl (lv_at hl 3 rfl) ?_
      refine xcVI (pc := 46) 78 [.int 1, .int x] (m_fail l D tA b i F G 1 x) C0 hH hS clX10 rfl ⟨⟨Nat.le_of_ble_eq_true rfl, Nat.le_of_ble_eq_true rfl⟩, rfl, rfl⟩ cw_X10_254 rfl ⟨Nat.le_of_ble_eq_true rfl, Nat.le_of_ble_eq_true rfl⟩ hl.1 rfl (Nat.le_of_ble_eq_true rfl) dX10_cutOne_46 ⟨Nat.le_of_ble_eq_true rfl, Nat.le_of_ble_eq_true rfl⟩ (fun r43 ir43 Fr43 Gr43 _ locs hp hH hS => ?_)
      obtain ⟨hu, rfl⟩ := hp
      cases hu
      have hH : Hd D tA b 78 52 zz (up2 (up2 i 78 30 1) 78 31 x) F G _ := hH
      refine lv_istore (pc := 49) (lv' := [(5, .int 0), (4, .int r41), (3, .int x1), (0, .ref (b + 78)), (1, .int x), (2, .int y)]) C0.1 C0.2.1 dX10_cutOne_49 hl (by decide) rfl (fun ls hl => ?_)
      refine lv_iload (pc := 51) C0.1 C0.2.1 dX10_cutOne_51 (lv_at hl 0 rfl) ?_
      refine lv_if_eq (pc := 53) (tgt := 67) C0.1 C0.2.1 dX10_cutOne_53 (by decide) (fun _ => ?_) (fun c => absurd (by decide) c)
      refine lv_iload (pc := 67) C0.1 C0.2.1 dX10_cutOne_67 (lv_at hl 0 rfl) ?_
      refine lv_if_eq (pc := 69) (tgt := 79) C0.1 C0.2.1 dX10_cutOne_69 (by decide) (fun _ => ?_) (fun c => absurd (by decide) c)
      refine lv_bipush (pc := 79) (v := (-9)) C0.1 C0.2.1 dX10_cutOne_79 (by decide) ?_
      exact xiret (pc := 81) C0 hr hH hS dX10_cutOne_81 ⟨(RO.i (RO.i RO.rf (by decide)) (by decide)), hTK, hHD, (Or.inr (show 0 ≤ Int32.toInt x ∧ Int32.toInt x ≤ 600 from by omega)), Or.inl ⟨rfl, (show 0 ≤ Int32.toInt x ∧ Int32.toInt x ≤ 600 from by omega)⟩, (show Int32.toInt (i 78 19) ≤ _ from by omega)⟩
    · have c42 : ¬ _ := fun q => c42 (Int32.le_iff_toInt_le.mpr q)
      refine lv_aload_n (pc := 33) C0.1 C0.2.1 dX10_cutOne_33 rfl (lv_at hl 2 rfl) ?_
      refine lv_iload_n (pc := 34) C0.1 C0.2.1 dX10_cutOne_34 rfl (lv_at hl 3 rfl) ?_
      refine lv_iload (pc := 35) C0.1 C0.2.1 dX10_cutOne_35 (lv_at hl 0 rfl) ?_
      refine xcVI (pc := 37) 78 [.int x, .int r41] (m_tabsFit_85 l D tA b i F G x r41 hi_78_17 (by omega)) C0 hH hS clX10 rfl ⟨⟨Nat.le_of_ble_eq_true rfl, Nat.le_of_ble_eq_true rfl⟩, rfl, rfl⟩ cw_X10_267 rfl ⟨Nat.le_of_ble_eq_true rfl, Nat.le_of_ble_eq_true rfl⟩ hl.1 rfl (Nat.le_of_ble_eq_true rfl) dX10_cutOne_37 ⟨Nat.le_of_ble_eq_true rfl, Nat.le_of_ble_eq_true rfl⟩ (fun r44 ir44 Fr44 Gr44 _ locs hp hH hS => ?_)
      obtain ⟨honr44, h01r44, hplr44, hpir44⟩ := hp
      try dsimp only at hplr44 hpir44
      have hTK : TKm ir44 Fr44 := TKm.ro (i := i) (F := F) hTK honr44 (by decide)
      have hHD : HD ir44 Fr44 := HD.ro (i := i) (F := F) hHD honr44 (by decide)
      have hCB : CB Fr44 := CB.ro (F := F) hCB honr44 (by decide)
      have hPI := hpir44 hPI
      have hi_78_17 : ir44 78 17 = nI 85 := (honr44.1 78 17 (Or.inr (by decide))).trans hi_78_17
      have ek_18r44 : Int32.toInt (ir44 78 18) = Int32.toInt (i 78 18) := congrArg Int32.toInt (honr44.1 78 18 (Or.inr (by decide)))
      have ek_19r44 : Int32.toInt (ir44 78 19) = Int32.toInt (i 78 19) := congrArg Int32.toInt (honr44.1 78 19 (Or.inr (by decide)))
      refine lv_goto (pc := 40) (tgt := 49) C0.1 C0.2.1 dX10_cutOne_40 (by decide) ?_
      refine lv_istore (pc := 49) (lv' := [(5, .int r44), (4, .int r41), (3, .int x1), (0, .ref (b + 78)), (1, .int x), (2, .int y)]) C0.1 C0.2.1 dX10_cutOne_49 hl (by decide) rfl (fun ls hl => ?_)
      refine lv_iload (pc := 51) C0.1 C0.2.1 dX10_cutOne_51 (lv_at hl 0 rfl) ?_
      refine lv_if_eq (pc := 53) (tgt := 67) C0.1 C0.2.1 dX10_cutOne_53 (by decide) (fun c45 => ?_) (fun c45 => ?_)
      · have : Int32.toInt 0 = 0 := rfl
        have c45 := congrArg Int32.toInt c45
        refine lv_iload (pc := 67) C0.1 C0.2.1 dX10_cutOne_67 (lv_at hl 0 rfl) ?_
        have : Int32.toInt 0 = 0 := rfl
        refine lv_if_eq (pc := 69) (tgt := 79) C0.1 C0.2.1 dX10_cutOne_69 (by decide) (fun _ => ?_) (fun c => absurd (Int32.toInt_inj.mp (by omega)) c)
        refine lv_bipush (pc := 79) (v := (-9)) C0.1 C0.2.1 dX10_cutOne_79 (by decide) ?_
        exact xiret (pc := 81) C0 hr hH hS dX10_cutOne_81 ⟨(RO.tr RO.rf honr44 (by decide) (by decide)), hTK, hHD, hPI, Or.inl ⟨rfl, hplr44 (by first | assumption | exact Int32.toInt_inj.mp (by assumption))⟩, (show Int32.toInt (ir44 78 19) ≤ _ from by omega)⟩
      · have : Int32.toInt 0 = 0 := rfl
        have c45 : ¬ _ := fun q => c45 (Int32.toInt_inj.mp q)
        refine lv_aload_n (pc := 56) C0.1 C0.2.1 dX10_cutOne_56 rfl (lv_at hl 3 rfl) ?_
        refine lv_iconst (pc := 57) (v := 3) C0.1 C0.2.1 dX10_cutOne_57 (by decide) ?_
        refine lv_iload_n (pc := 58) C0.1 C0.2.1 dX10_cutOne_58 rfl (lv_at hl 4 rfl) ?_
        refine lv_iload (pc := 59) C0.1 C0.2.1 dX10_cutOne_59 (lv_at hl 1 rfl) ?_
        refine lv_iconst (pc := 61) (v := 1) C0.1 C0.2.1 dX10_cutOne_61 (by decide) ?_
        have : Int32.toInt 1 = 1 := rfl
        refine lv_iadd (pc := 62) C0.1 C0.2.1 dX10_cutOne_62 ?_
        refine lv_topi (fun x46 ex46 => ?_)
        have hx46 : Int32.toInt x46 = Int32.toInt r41 + Int32.toInt 1 := by rw [ex46]; exact fb_addI (by omega) (by omega)
        refine lv_iload_n (pc := 63) C0.1 C0.2.1 dX10_cutOne_63 rfl (lv_at hl 5 rfl) ?_
        refine xcVV (pc := 64) 78 [.int 3, .int x, .int x46, .int y] (m_add_85 l D tA b ir44 Fr44 Gr44 3 x x46 y hi_78_17 hTK hHD hCB (show Int32.toInt (ir44 78 19) < 600 from by omega) (show 0 ≤ Int32.toInt x ∧ Int32.toInt x + 1 ≤ Int32.toInt x46 ∧ Int32.toInt x46 ≤ 600 from by omega) hy01 (fun q => hfr (by have q : Int32.toInt (ir44 78 19) = 0 := q; omega))) C0 hH hS clX10 rfl ⟨⟨Nat.le_of_ble_eq_true rfl, Nat.le_of_ble_eq_true rfl⟩, rfl, rfl⟩ cw_X10_270 rfl ⟨Nat.le_of_ble_eq_true rfl, Nat.le_of_ble_eq_true rfl⟩ hl.1 rfl (Nat.le_of_ble_eq_true rfl) dX10_cutOne_64 ⟨Nat.le_of_ble_eq_true rfl, Nat.le_of_ble_eq_true rfl⟩ (fun ir47 Fr47 Gr47 _ locs hp hH hS => ?_)
        obtain ⟨honr47, hTK, hHD, ht19r47⟩ := hp
        have hTK : TKm ir47 Fr47 := hTK
        have hHD : HD ir47 Fr47 := hHD
        have ht19r47 : (ir47 78 19).toInt = Int32.toInt (ir44 78 19) + 1 := ht19r47
        have hCB : CB Fr47 := CB.ro (F := Fr44) hCB honr47 (by decide)
        have hPI : PLI ir47 := PLI.ro (i := ir44) (F := Fr44) hPI honr47 (by decide)
        have hi_78_17 : ir47 78 17 = nI 85 := (honr47.1 78 17 (Or.inr (by decide))).trans hi_78_17
        have ek_18r47 : Int32.toInt (ir47 78 18) = Int32.toInt (ir44 78 18) := congrArg Int32.toInt (honr47.1 78 18 (Or.inr (by decide)))
        refine lv_iload (pc := 67) C0.1 C0.2.1 dX10_cutOne_67 (lv_at hl 0 rfl) ?_
        have : Int32.toInt 0 = 0 := rfl
        refine lv_if_eq (pc := 69) (tgt := 79) C0.1 C0.2.1 dX10_cutOne_69 (by decide) (fun c => absurd c (fun q => absurd (congrArg Int32.toInt q) (by omega))) (fun _ => ?_)
        refine lv_iload (pc := 72) C0.1 C0.2.1 dX10_cutOne_72 (lv_at hl 1 rfl) ?_
        refine lv_iconst (pc := 74) (v := 1) C0.1 C0.2.1 dX10_cutOne_74 (by decide) ?_
        have : Int32.toInt 1 = 1 := rfl
        refine lv_iadd (pc := 75) C0.1 C0.2.1 dX10_cutOne_75 ?_
        refine lv_topi (fun x48 ex48 => ?_)
        have hx48 : Int32.toInt x48 = Int32.toInt r41 + Int32.toInt 1 := by rw [ex48]; exact fb_addI (by omega) (by omega)
        refine lv_goto (pc := 76) (tgt := 81) C0.1 C0.2.1 dX10_cutOne_76 (by decide) ?_
        exact xiret (pc := 81) C0 hr hH hS dX10_cutOne_81 ⟨(RO.tr (RO.tr RO.rf honr44 (by decide) (by decide)) honr47 (by decide) (by decide)), hTK, hHD, hPI, Or.inr ⟨⟨by omega, by omega⟩, (show 1 ≤ Int32.toInt (ir47 78 19) from by omega)⟩, (show Int32.toInt (ir47 78 19) ≤ _ from by omega)⟩
set_option maxHeartbeats 4000000 in
set_option maxRecDepth 100000 in
theorem m_cutUp_85 (l : Launch) (D : va_G) (tA : Nat → ClassId) (b : Nat) (i F : Nat → Nat → Int32) (G : Nat → Nat → Int64)  (hi_78_17 : i 78 17 = nI 85) (hlen : 0 ≤ (i 78 18).toInt ∧ (i 78 18).toInt ≤ 600) (hTA : TA (F 89) (F 90)) (hCB : CB F) (hPI : PLI i) : xMI l yX10_cutUp cX10_cutUp 5 (some .boolean) 3 71 D tA b 78 52 i F G [.ref (b + 78)] (fun r u => RO [19, 30, 31] [88, 89, 90, 91, 92, 93, 94] i F G u ∧ TKm u.1 u.2.1 ∧ HD u.1 u.2.1 ∧ PLI u.1 ∧ (r = 0 ∨ r = 1) ∧ (r = 0 → (0 ≤ (u.1 78 31).toInt ∧ (u.1 78 31).toInt ≤ 600))) := by
  refine xstart RX10 rfl (by decide) (Nat.le_of_ble_eq_true rfl) ?_
  intro p e s m below meth c ls C0 hr hH hS hl
  have hl : lv_has ls 5 [(0, .ref (b + 78))] := hl
  have L9 : ∀ (d : Nat) (fr k : Int32) (iv Fv : Nat → Nat → Int32) (Gv : Nat → Nat → Int64) (H : Heap) (locs : List Loc) (ls : Array Slot), (0 ≤ k.toInt ∧ k.toInt ≤ (i 78 18).toInt) → ((i 78 18).toInt - k.toInt ≤ d) → (RO [19, 30, 31] [88, 89, 90, 91, 92, 93, 94] i F G (iv, Fv, Gv)) → (TKm iv Fv) → (HD iv Fv) → (PLI iv) → ((iv 78 19).toInt ≤ k.toInt) → (fr = 0 ∨ fr = 1) → ((iv 78 19).toInt = 0 → fr = 1) → Hd D tA b 78 52 zz iv Fv Gv H → va_S (xA b 78 52) s.heap H locs → lv_has ls 5 [(2, .int k), (1, .int fr), (0, .ref (b + 78))] → W p l e (xR 3 71) s m ([.ref (b + 78)] : List Value).toArray below meth c H locs 0 0 (MQ below (va_Qi (fun r u => RO [19, 30, 31] [88, 89, 90, 91, 92, 93, 94] i F G u ∧ TKm u.1 u.2.1 ∧ HD u.1 u.2.1 ∧ PLI u.1 ∧ (r = 0 ∨ r = 1) ∧ (r = 0 → (0 ≤ (u.1 78 31).toInt ∧ (u.1 78 31).toInt ≤ 600))) (xB D tA b 78 52 zz) (xA b 78 52)) ([.ref (b + 78)] : List Value).toArray s 0 0 (xA b 78 52)) (F0 m 9 ls []) := by
    intro d
    induction d with
    | zero =>
      intro fr k iv Fv Gv H locs ls h1 h2 h3 h4 h5 h6 h7 h8 h9 hH hS hl
      have rg_fr := fb_rng fr
      have rg_k := fb_rng k
      have hi_78_17 : iv 78 17 = nI 85 := (h3.1 78 17 (Or.inr (by decide))).trans hi_78_17
      have ek18 : Int32.toInt (iv 78 18) = Int32.toInt (i 78 18) := congrArg Int32.toInt (h3.1 78 18 (Or.inr (by decide)))
      have hTK := h4
      have hHD := h5
      have hPI := h6
      have hCB : CB Fv := CB.ro hCB h3 (by decide)
      have hTL := hTK.1
      refine lv_iload_n (pc := 9) C0.1 C0.2.1 dX10_cutUp_9 rfl (lv_at hl 0 rfl) ?_
      refine lv_aload_n (pc := 10) C0.1 C0.2.1 dX10_cutUp_10 rfl (lv_at hl 2 rfl) ?_
      refine xget (pc := 11) C0 hH 78 18 clX10 ⟨Nat.le_of_ble_eq_true rfl, Nat.le_of_ble_eq_true rfl⟩ ⟨rfl, rfl⟩ (Nat.le_of_ble_eq_true rfl) fl_X10_251 (v := .int (iv 78 18)) rfl dX10_cutUp_11 ?_
      refine lv_icmp_ge (pc := 14) (tgt := 122) C0.1 C0.2.1 dX10_cutUp_14 (by decide) (fun _ => ?_) (fun c => absurd (Int32.le_iff_toInt_le.mpr (by omega)) c)
      refine lv_iconst (pc := 122) (v := 1) C0.1 C0.2.1 dX10_cutUp_122 (by decide) ?_
      exact xzret (pc := 123) C0 hr hH hS dX10_cutUp_123 (by decide) ⟨h3, hTK, hHD, hPI, Or.inr rfl, fun q => absurd q (by decide)⟩
    | succ d ih9 =>
      intro fr k iv Fv Gv H locs ls h1 h2 h3 h4 h5 h6 h7 h8 h9 hH hS hl
      have rg_fr := fb_rng fr
      have rg_k := fb_rng k
      have hi_78_17 : iv 78 17 = nI 85 := (h3.1 78 17 (Or.inr (by decide))).trans hi_78_17
      have ek18 : Int32.toInt (iv 78 18) = Int32.toInt (i 78 18) := congrArg Int32.toInt (h3.1 78 18 (Or.inr (by decide)))
      have hTK := h4
      have hHD := h5
      have hPI := h6
      have hCB : CB Fv := CB.ro hCB h3 (by decide)
      have hTL := hTK.1
      refine lv_iload_n (pc := 9) C0.1 C0.2.1 dX10_cutUp_9 rfl (lv_at hl 0 rfl) ?_
      refine lv_aload_n (pc := 10) C0.1 C0.2.1 dX10_cutUp_10 rfl (lv_at hl 2 rfl) ?_
      refine xget (pc := 11) C0 hH 78 18 clX10 ⟨Nat.le_of_ble_eq_true rfl, Nat.le_of_ble_eq_true rfl⟩ ⟨rfl, rfl⟩ (Nat.le_of_ble_eq_true rfl) fl_X10_251 (v := .int (iv 78 18)) rfl dX10_cutUp_11 ?_
      refine lv_icmp_ge (pc := 14) (tgt := 122) C0.1 C0.2.1 dX10_cutUp_14 (by decide) (fun c201 => ?_) (fun c201 => ?_)
      · have c201 := Int32.le_iff_toInt_le.mp c201
        refine lv_iconst (pc := 122) (v := 1) C0.1 C0.2.1 dX10_cutUp_122 (by decide) ?_
        exact xzret (pc := 123) C0 hr hH hS dX10_cutUp_123 (by decide) ⟨h3, hTK, hHD, hPI, Or.inr rfl, fun q => absurd q (by decide)⟩
      · have c201 : ¬ _ := fun q => c201 (Int32.le_iff_toInt_le.mpr q)
        refine lv_aload_n (pc := 17) C0.1 C0.2.1 dX10_cutUp_17 rfl (lv_at hl 2 rfl) ?_
        refine xget (pc := 18) C0 hH 78 17 clX10 ⟨Nat.le_of_ble_eq_true rfl, Nat.le_of_ble_eq_true rfl⟩ ⟨rfl, rfl⟩ (Nat.le_of_ble_eq_true rfl) fl_X10_39 (v := .ref (b + 85)) (by show Value.ref (b + (iv 78 17).toNatClampNeg) = _; rw [hi_78_17]; rfl) dX10_cutUp_18 ?_
        refine lv_iload_n (pc := 21) C0.1 C0.2.1 dX10_cutUp_21 rfl (lv_at hl 0 rfl) ?_
        refine xbald (pc := 22) (N := 600) C0 hH 85 ⟨Nat.le_of_ble_eq_true rfl, Nat.le_of_ble_eq_true rfl⟩ ⟨rfl, rfl⟩ (vI (by omega) (by omega)) dX10_cutUp_22 ?_
        refine lv_topi (fun x202 ex202 => ?_)
        refine lv_istore_n (pc := 23) (lv' := [(3, .int x202), (2, .int k), (1, .int fr), (0, .ref (b + 78))]) C0.1 C0.2.1 dX10_cutUp_23 rfl hl (by decide) rfl (fun ls hl => ?_)
        refine lv_iload_n (pc := 24) C0.1 C0.2.1 dX10_cutUp_24 rfl (lv_at hl 0 rfl) ?_
        refine lv_bipush (pc := 25) (v := 10) C0.1 C0.2.1 dX10_cutUp_25 (by decide) ?_
        refine lv_icmp_ne (pc := 27) (tgt := 38) C0.1 C0.2.1 dX10_cutUp_27 (by decide) (fun c203 => ?_) (fun c203 => ?_)
        · have : Int32.toInt 10 = 10 := rfl
          have c203 : ¬ _ := fun q => c203 (Int32.toInt_inj.mp q)
          refine lv_iload_n (pc := 38) C0.1 C0.2.1 dX10_cutUp_38 rfl (lv_at hl 0 rfl) ?_
          refine lv_bipush (pc := 39) (v := 32) C0.1 C0.2.1 dX10_cutUp_39 (by decide) ?_
          refine lv_icmp_eq (pc := 41) (tgt := 50) C0.1 C0.2.1 dX10_cutUp_41 (by decide) (fun c204 => ?_) (fun c204 => ?_)
          · have : Int32.toInt 32 = 32 := rfl
            have c204 := congrArg Int32.toInt c204
            refine lv_aload_n (pc := 50) C0.1 C0.2.1 dX10_cutUp_50 rfl (lv_at hl 3 rfl) ?_
            refine lv_iload_n (pc := 51) C0.1 C0.2.1 dX10_cutUp_51 rfl (lv_at hl 1 rfl) ?_
            refine lv_iload_n (pc := 52) C0.1 C0.2.1 dX10_cutUp_52 rfl (lv_at hl 1 rfl) ?_
            refine lv_iconst (pc := 53) (v := 1) C0.1 C0.2.1 dX10_cutUp_53 (by decide) ?_
            have : Int32.toInt 1 = 1 := rfl
            refine lv_iadd (pc := 54) C0.1 C0.2.1 dX10_cutUp_54 ?_
            refine lv_topi (fun x205 ex205 => ?_)
            have hx205 : Int32.toInt x205 = Int32.toInt k + Int32.toInt 1 := by rw [ex205]; exact fb_addI (by omega) (by omega)
            refine xcVI (pc := 55) 78 [.int k, .int x205] (m_tabsFit_85 l D tA b iv Fv Gv k x205 hi_78_17 (by omega)) C0 hH hS clX10 rfl ⟨⟨Nat.le_of_ble_eq_true rfl, Nat.le_of_ble_eq_true rfl⟩, rfl, rfl⟩ cw_X10_267 rfl ⟨Nat.le_of_ble_eq_true rfl, Nat.le_of_ble_eq_true rfl⟩ hl.1 rfl (Nat.le_of_ble_eq_true rfl) dX10_cutUp_55 ⟨Nat.le_of_ble_eq_true rfl, Nat.le_of_ble_eq_true rfl⟩ (fun r206 ir206 Fr206 Gr206 _ locs hp hH hS => ?_)
            obtain ⟨honr206, h01r206, hplr206, hpir206⟩ := hp
            try dsimp only at hplr206 hpir206
            have hTK : TKm ir206 Fr206 := TKm.ro (i := iv) (F := Fv) hTK honr206 (by decide)
            have hHD : HD ir206 Fr206 := HD.ro (i := iv) (F := Fv) hHD honr206 (by decide)
            have hCB : CB Fr206 := CB.ro (F := Fv) hCB honr206 (by decide)
            have hPI := hpir206 hPI
            have hi_78_17 : ir206 78 17 = nI 85 := (honr206.1 78 17 (Or.inr (by decide))).trans hi_78_17
            have ek_18r206 : Int32.toInt (ir206 78 18) = Int32.toInt (iv 78 18) := congrArg Int32.toInt (honr206.1 78 18 (Or.inr (by decide)))
            have ek_19r206 : Int32.toInt (ir206 78 19) = Int32.toInt (iv 78 19) := congrArg Int32.toInt (honr206.1 78 19 (Or.inr (by decide)))
            refine lv_if_ne (pc := 58) (tgt := 63) C0.1 C0.2.1 dX10_cutUp_58 (by decide) (fun c207 => ?_) (fun c207 => ?_)
            · have : Int32.toInt 0 = 0 := rfl
              have c207 : ¬ _ := fun q => c207 (Int32.toInt_inj.mp q)
              obtain ⟨x208, ex208⟩ : ∃ y_ : Int32, y_ = k + 1 := ⟨_, rfl⟩
              have : Int32.toInt 1 = 1 := rfl
              have hx208 : Int32.toInt x208 = Int32.toInt k + Int32.toInt 1 := by rw [ex208]; exact fb_addI (by omega) (by omega)
              refine lv_iinc (pc := 63) (v := x208) (lv' := [(2, .int x208), (3, .int x202), (1, .int fr), (0, .ref (b + 78))]) C0.1 C0.2.1 dX10_cutUp_63 hl (k := 1) rfl (by rw [ex208]; rfl) (by decide) rfl (fun ls hl => ?_)
              refine lv_goto (pc := 66) (tgt := 119) C0.1 C0.2.1 dX10_cutUp_66 (by decide) ?_
              refine lv_goto (pc := 119) (tgt := 9) C0.1 C0.2.1 dX10_cutUp_119 (by decide) ?_
              exact ih9 fr x208 ir206 Fr206 Gr206 _ _ _ (by omega) (by omega) (RO.tr h3 honr206 (by decide) (by decide)) hTK hHD hPI (show Int32.toInt (ir206 78 19) ≤ _ from by omega) h8 (fun q => by have q : Int32.toInt (ir206 78 19) = 0 := q; first | rfl | exact h9 (by omega) | (exfalso; omega)) hH hS (lv_sub hl [0, 2, 3] rfl)
            · have : Int32.toInt 0 = 0 := rfl
              have c207 := congrArg Int32.toInt c207
              refine lv_iconst (pc := 61) (v := 0) C0.1 C0.2.1 dX10_cutUp_61 (by decide) ?_
              exact xzret (pc := 62) C0 hr hH hS dX10_cutUp_62 (by decide) ⟨(RO.tr h3 honr206 (by decide) (by decide)), hTK, hHD, hPI, Or.inl rfl, fun _ => (by first | exact hplr206 (by first | assumption | exact Int32.toInt_inj.mp (by assumption)) | omega)⟩
          · have : Int32.toInt 32 = 32 := rfl
            have c204 : ¬ _ := fun q => c204 (Int32.toInt_inj.mp q)
            refine lv_iload_n (pc := 44) C0.1 C0.2.1 dX10_cutUp_44 rfl (lv_at hl 0 rfl) ?_
            refine lv_bipush (pc := 45) (v := 9) C0.1 C0.2.1 dX10_cutUp_45 (by decide) ?_
            refine lv_icmp_ne (pc := 47) (tgt := 69) C0.1 C0.2.1 dX10_cutUp_47 (by decide) (fun c209 => ?_) (fun c209 => ?_)
            · have : Int32.toInt 9 = 9 := rfl
              have c209 : ¬ _ := fun q => c209 (Int32.toInt_inj.mp q)
              refine lv_iload_n (pc := 69) C0.1 C0.2.1 dX10_cutUp_69 rfl (lv_at hl 0 rfl) ?_
              refine lv_bipush (pc := 70) (v := 35) C0.1 C0.2.1 dX10_cutUp_70 (by decide) ?_
              refine lv_icmp_ne (pc := 72) (tgt := 102) C0.1 C0.2.1 dX10_cutUp_72 (by decide) (fun c210 => ?_) (fun c210 => ?_)
              · have : Int32.toInt 35 = 35 := rfl
                have c210 : ¬ _ := fun q => c210 (Int32.toInt_inj.mp q)
                refine lv_aload_n (pc := 102) C0.1 C0.2.1 dX10_cutUp_102 rfl (lv_at hl 3 rfl) ?_
                refine lv_iload_n (pc := 103) C0.1 C0.2.1 dX10_cutUp_103 rfl (lv_at hl 1 rfl) ?_
                refine lv_iload_n (pc := 104) C0.1 C0.2.1 dX10_cutUp_104 rfl (lv_at hl 2 rfl) ?_
                refine xcVI (pc := 105) 78 [.int k, .int fr] (m_cutOne_85 l D tA b iv Fv Gv k fr hi_78_17 (show 0 ≤ Int32.toInt (iv 78 18) ∧ Int32.toInt (iv 78 18) ≤ 600 from by omega) hTK hHD hCB hPI (show 0 ≤ Int32.toInt k ∧ Int32.toInt k < Int32.toInt (iv 78 18) from by omega) (show Int32.toInt (iv 78 19) ≤ Int32.toInt k from by omega) h8 h9) C0 hH hS clX10 rfl ⟨⟨Nat.le_of_ble_eq_true rfl, Nat.le_of_ble_eq_true rfl⟩, rfl, rfl⟩ cw_X10_278 rfl ⟨Nat.le_of_ble_eq_true rfl, Nat.le_of_ble_eq_true rfl⟩ hl.1 rfl (Nat.le_of_ble_eq_true rfl) dX10_cutUp_105 ⟨Nat.le_of_ble_eq_true rfl, Nat.le_of_ble_eq_true rfl⟩ (fun r211 ir211 Fr211 Gr211 _ locs hp hH hS => ?_)
                obtain ⟨honr211, hTK, hHD, hPI, hcor211, hctr211⟩ := hp
                have hTK : TKm ir211 Fr211 := hTK
                have hHD : HD ir211 Fr211 := hHD
                have hPI : PLI ir211 := hPI
                have hctr211 : (ir211 78 19).toInt ≤ Int32.toInt (iv 78 19) + 1 := hctr211
                have hcor211 : (Int32.toInt r211 = -9 ∧ (0 ≤ (ir211 78 31).toInt ∧ (ir211 78 31).toInt ≤ 600)) ∨ ((Int32.toInt k + 1 ≤ Int32.toInt r211 ∧ Int32.toInt r211 ≤ Int32.toInt (iv 78 18)) ∧ 1 ≤ (ir211 78 19).toInt) := hcor211
                have hCB : CB Fr211 := CB.ro (F := Fv) hCB honr211 (by decide)
                have hi_78_17 : ir211 78 17 = nI 85 := (honr211.1 78 17 (Or.inr (by decide))).trans hi_78_17
                have ek_18r211 : Int32.toInt (ir211 78 18) = Int32.toInt (iv 78 18) := congrArg Int32.toInt (honr211.1 78 18 (Or.inr (by decide)))
                refine lv_istore_n (pc := 108) (lv' := [(2, .int r211), (3, .int x202), (1, .int fr), (0, .ref (b + 78))]) C0.1 C0.2.1 dX10_cutUp_108 rfl hl (by decide) rfl (fun ls hl => ?_)
                refine lv_iconst (pc := 109) (v := 0) C0.1 C0.2.1 dX10_cutUp_109 (by decide) ?_
                refine lv_istore_n (pc := 110) (lv' := [(1, .int 0), (2, .int r211), (3, .int x202), (0, .ref (b + 78))]) C0.1 C0.2.1 dX10_cutUp_110 rfl hl (by decide) rfl (fun ls hl => ?_)
                refine lv_iload_n (pc := 111) C0.1 C0.2.1 dX10_cutUp_111 rfl (lv_at hl 1 rfl) ?_
                refine lv_bipush (pc := 112) (v := (-9)) C0.1 C0.2.1 dX10_cutUp_112 (by decide) ?_
                refine lv_icmp_ne (pc := 114) (tgt := 119) C0.1 C0.2.1 dX10_cutUp_114 (by decide) (fun c212 => ?_) (fun c212 => ?_)
                · have : Int32.toInt (-9) = (-9) := rfl
                  have c212 : ¬ _ := fun q => c212 (Int32.toInt_inj.mp q)
                  refine lv_goto (pc := 119) (tgt := 9) C0.1 C0.2.1 dX10_cutUp_119 (by decide) ?_
                  exact ih9 0 r211 ir211 Fr211 Gr211 _ _ _ (by omega) (by omega) (RO.tr h3 honr211 (by decide) (by decide)) hTK hHD hPI (show Int32.toInt (ir211 78 19) ≤ _ from by omega) (by decide) (fun q => by have q : Int32.toInt (ir211 78 19) = 0 := q; first | rfl | exact h9 (by omega) | (exfalso; omega)) hH hS (lv_sub hl [1, 0, 3] rfl)
                · have : Int32.toInt (-9) = (-9) := rfl
                  have c212 := congrArg Int32.toInt c212
                  refine lv_iconst (pc := 117) (v := 0) C0.1 C0.2.1 dX10_cutUp_117 (by decide) ?_
                  exact xzret (pc := 118) C0 hr hH hS dX10_cutUp_118 (by decide) ⟨(RO.tr h3 honr211 (by decide) (by decide)), hTK, hHD, hPI, Or.inl rfl, fun _ => (show 0 ≤ (ir211 78 31).toInt ∧ (ir211 78 31).toInt ≤ 600 from by omega)⟩
              · have : Int32.toInt 35 = 35 := rfl
                have c210 := congrArg Int32.toInt c210
                have hne10 : ¬ Fv 85 (Int32.toNatClampNeg k) = 10 := fun q => by have e := congrArg Int32.toInt (ex202.trans q); omega
                refine lv_aload_n (pc := 75) C0.1 C0.2.1 dX10_cutUp_75 rfl (lv_at hl 3 rfl) ?_
                refine lv_iload_n (pc := 76) C0.1 C0.2.1 dX10_cutUp_76 rfl (lv_at hl 1 rfl) ?_
                refine lv_bipush (pc := 77) (v := 10) C0.1 C0.2.1 dX10_cutUp_77 (by decide) ?_
                refine xcVI (pc := 79) 78 [.int k, .int 10] (m_next_85 l D tA b iv Fv Gv k 10 hi_78_17 (show 0 ≤ Int32.toInt (iv 78 18) ∧ Int32.toInt (iv 78 18) ≤ 600 from by omega) (show 0 ≤ Int32.toInt k ∧ Int32.toInt k ≤ Int32.toInt (iv 78 18) from by omega)) C0 hH hS clX10 rfl ⟨⟨Nat.le_of_ble_eq_true rfl, Nat.le_of_ble_eq_true rfl⟩, rfl, rfl⟩ cw_X10_264 rfl ⟨Nat.le_of_ble_eq_true rfl, Nat.le_of_ble_eq_true rfl⟩ hl.1 rfl (Nat.le_of_ble_eq_true rfl) dX10_cutUp_79 ⟨Nat.le_of_ble_eq_true rfl, Nat.le_of_ble_eq_true rfl⟩ (fun r213 ir213 Fr213 Gr213 _ locs hp hH hS => ?_)
                obtain ⟨hu, hpr213⟩ := hp
                cases hu
                refine lv_istore (pc := 82) (lv' := [(4, .int r213), (3, .int x202), (2, .int k), (1, .int fr), (0, .ref (b + 78))]) C0.1 C0.2.1 dX10_cutUp_82 hl (by decide) rfl (fun ls hl => ?_)
                have hnx := hpr213.2 (by omega) hne10
                refine lv_aload_n (pc := 84) C0.1 C0.2.1 dX10_cutUp_84 rfl (lv_at hl 4 rfl) ?_
                refine lv_iload_n (pc := 85) C0.1 C0.2.1 dX10_cutUp_85 rfl (lv_at hl 2 rfl) ?_
                refine lv_iload (pc := 86) C0.1 C0.2.1 dX10_cutUp_86 (lv_at hl 0 rfl) ?_
                refine xcVI (pc := 88) 78 [.int k, .int r213] (m_tabsFit_85 l D tA b iv Fv Gv k r213 hi_78_17 (by omega)) C0 hH hS clX10 rfl ⟨⟨Nat.le_of_ble_eq_true rfl, Nat.le_of_ble_eq_true rfl⟩, rfl, rfl⟩ cw_X10_267 rfl ⟨Nat.le_of_ble_eq_true rfl, Nat.le_of_ble_eq_true rfl⟩ hl.1 rfl (Nat.le_of_ble_eq_true rfl) dX10_cutUp_88 ⟨Nat.le_of_ble_eq_true rfl, Nat.le_of_ble_eq_true rfl⟩ (fun r214 ir214 Fr214 Gr214 _ locs hp hH hS => ?_)
                obtain ⟨honr214, h01r214, hplr214, hpir214⟩ := hp
                try dsimp only at hplr214 hpir214
                have hTK : TKm ir214 Fr214 := TKm.ro (i := iv) (F := Fv) hTK honr214 (by decide)
                have hHD : HD ir214 Fr214 := HD.ro (i := iv) (F := Fv) hHD honr214 (by decide)
                have hCB : CB Fr214 := CB.ro (F := Fv) hCB honr214 (by decide)
                have hPI := hpir214 hPI
                have hi_78_17 : ir214 78 17 = nI 85 := (honr214.1 78 17 (Or.inr (by decide))).trans hi_78_17
                have ek_18r214 : Int32.toInt (ir214 78 18) = Int32.toInt (iv 78 18) := congrArg Int32.toInt (honr214.1 78 18 (Or.inr (by decide)))
                have ek_19r214 : Int32.toInt (ir214 78 19) = Int32.toInt (iv 78 19) := congrArg Int32.toInt (honr214.1 78 19 (Or.inr (by decide)))
                refine lv_if_ne (pc := 91) (tgt := 96) C0.1 C0.2.1 dX10_cutUp_91 (by decide) (fun c215 => ?_) (fun c215 => ?_)
                · have : Int32.toInt 0 = 0 := rfl
                  have c215 : ¬ _ := fun q => c215 (Int32.toInt_inj.mp q)
                  refine lv_iload (pc := 96) C0.1 C0.2.1 dX10_cutUp_96 (lv_at hl 0 rfl) ?_
                  refine lv_istore_n (pc := 98) (lv' := [(2, .int r213), (4, .int r213), (3, .int x202), (1, .int fr), (0, .ref (b + 78))]) C0.1 C0.2.1 dX10_cutUp_98 rfl hl (by decide) rfl (fun ls hl => ?_)
                  refine lv_goto (pc := 99) (tgt := 119) C0.1 C0.2.1 dX10_cutUp_99 (by decide) ?_
                  refine lv_goto (pc := 119) (tgt := 9) C0.1 C0.2.1 dX10_cutUp_119 (by decide) ?_
                  exact ih9 fr r213 ir214 Fr214 Gr214 _ _ _ (by omega) (by omega) (RO.tr h3 honr214 (by decide) (by decide)) hTK hHD hPI (show Int32.toInt (ir214 78 19) ≤ _ from by omega) h8 (fun q => by have q : Int32.toInt (ir214 78 19) = 0 := q; first | rfl | exact h9 (by omega) | (exfalso; omega)) hH hS (lv_sub hl [0, 3, 4] rfl)
                · have : Int32.toInt 0 = 0 := rfl
                  have c215 := congrArg Int32.toInt c215
                  refine lv_iconst (pc := 94) (v := 0) C0.1 C0.2.1 dX10_cutUp_94 (by decide) ?_
                  exact xzret (pc := 95) C0 hr hH hS dX10_cutUp_95 (by decide) ⟨(RO.tr h3 honr214 (by decide) (by decide)), hTK, hHD, hPI, Or.inl rfl, fun _ => (by first | exact hplr214 (by first | assumption | exact Int32.toInt_inj.mp (by assumption)) | omega)⟩
            · have : Int32.toInt 9 = 9 := rfl
              have c209 := congrArg Int32.toInt c209
              refine lv_aload_n (pc := 50) C0.1 C0.2.1 dX10_cutUp_50 rfl (lv_at hl 3 rfl) ?_
              refine lv_iload_n (pc := 51) C0.1 C0.2.1 dX10_cutUp_51 rfl (lv_at hl 1 rfl) ?_
              refine lv_iload_n (pc := 52) C0.1 C0.2.1 dX10_cutUp_52 rfl (lv_at hl 1 rfl) ?_
              refine lv_iconst (pc := 53) (v := 1) C0.1 C0.2.1 dX10_cutUp_53 (by decide) ?_
              have : Int32.toInt 1 = 1 := rfl
              refine lv_iadd (pc := 54) C0.1 C0.2.1 dX10_cutUp_54 ?_
              refine lv_topi (fun x216 ex216 => ?_)
              have hx216 : Int32.toInt x216 = Int32.toInt k + Int32.toInt 1 := by rw [ex216]; exact fb_addI (by omega) (by omega)
              refine xcVI (pc := 55) 78 [.int k, .int x216] (m_tabsFit_85 l D tA b iv Fv Gv k x216 hi_78_17 (by omega)) C0 hH hS clX10 rfl ⟨⟨Nat.le_of_ble_eq_true rfl, Nat.le_of_ble_eq_true rfl⟩, rfl, rfl⟩ cw_X10_267 rfl ⟨Nat.le_of_ble_eq_true rfl, Nat.le_of_ble_eq_true rfl⟩ hl.1 rfl (Nat.le_of_ble_eq_true rfl) dX10_cutUp_55 ⟨Nat.le_of_ble_eq_true rfl, Nat.le_of_ble_eq_true rfl⟩ (fun r217 ir217 Fr217 Gr217 _ locs hp hH hS => ?_)
              obtain ⟨honr217, h01r217, hplr217, hpir217⟩ := hp
              try dsimp only at hplr217 hpir217
              have hTK : TKm ir217 Fr217 := TKm.ro (i := iv) (F := Fv) hTK honr217 (by decide)
              have hHD : HD ir217 Fr217 := HD.ro (i := iv) (F := Fv) hHD honr217 (by decide)
              have hCB : CB Fr217 := CB.ro (F := Fv) hCB honr217 (by decide)
              have hPI := hpir217 hPI
              have hi_78_17 : ir217 78 17 = nI 85 := (honr217.1 78 17 (Or.inr (by decide))).trans hi_78_17
              have ek_18r217 : Int32.toInt (ir217 78 18) = Int32.toInt (iv 78 18) := congrArg Int32.toInt (honr217.1 78 18 (Or.inr (by decide)))
              have ek_19r217 : Int32.toInt (ir217 78 19) = Int32.toInt (iv 78 19) := congrArg Int32.toInt (honr217.1 78 19 (Or.inr (by decide)))
              refine lv_if_ne (pc := 58) (tgt := 63) C0.1 C0.2.1 dX10_cutUp_58 (by decide) (fun c218 => ?_) (fun c218 => ?_)
              · have : Int32.toInt 0 = 0 := rfl
                have c218 : ¬ _ := fun q => c218 (Int32.toInt_inj.mp q)
                obtain ⟨x219, ex219⟩ : ∃ y_ : Int32, y_ = k + 1 := ⟨_, rfl⟩
                have : Int32.toInt 1 = 1 := rfl
                have hx219 : Int32.toInt x219 = Int32.toInt k + Int32.toInt 1 := by rw [ex219]; exact fb_addI (by omega) (by omega)
                refine lv_iinc (pc := 63) (v := x219) (lv' := [(2, .int x219), (3, .int x202), (1, .int fr), (0, .ref (b + 78))]) C0.1 C0.2.1 dX10_cutUp_63 hl (k := 1) rfl (by rw [ex219]; rfl) (by decide) rfl (fun ls hl => ?_)
                refine lv_goto (pc := 66) (tgt := 119) C0.1 C0.2.1 dX10_cutUp_66 (by decide) ?_
                refine lv_goto (pc := 119) (tgt := 9) C0.1 C0.2.1 dX10_cutUp_119 (by decide) ?_
                exact ih9 fr x219 ir217 Fr217 Gr217 _ _ _ (by omega) (by omega) (RO.tr h3 honr217 (by decide) (by decide)) hTK hHD hPI (show Int32.toInt (ir217 78 19) ≤ _ from by omega) h8 (fun q => by have q : Int32.toInt (ir217 78 19) = 0 := q; first | rfl | exact h9 (by omega) | (exfalso; omega)) hH hS (lv_sub hl [0, 2, 3] rfl)
              · have : Int32.toInt 0 = 0 := rfl
                have c218 := congrArg Int32.toInt c218
                refine lv_iconst (pc := 61) (v := 0) C0.1 C0.2.1 dX10_cutUp_61 (by decide) ?_
                exact xzret (pc := 62) C0 hr hH hS dX10_cutUp_62 (by decide) ⟨(RO.tr h3 honr217 (by decide) (by decide)), hTK, hHD, hPI, Or.inl rfl, fun _ => (by first | exact hplr217 (by first | assumption | exact Int32.toInt_inj.mp (by assumption)) | omega)⟩
        · have : Int32.toInt 10 = 10 := rfl
          have c203 := congrArg Int32.toInt c203
          refine lv_iconst (pc := 30) (v := 1) C0.1 C0.2.1 dX10_cutUp_30 (by decide) ?_
          refine lv_istore_n (pc := 31) (lv' := [(1, .int 1), (3, .int x202), (2, .int k), (0, .ref (b + 78))]) C0.1 C0.2.1 dX10_cutUp_31 rfl hl (by decide) rfl (fun ls hl => ?_)
          obtain ⟨x220, ex220⟩ : ∃ y_ : Int32, y_ = k + 1 := ⟨_, rfl⟩
          have : Int32.toInt 1 = 1 := rfl
          have hx220 : Int32.toInt x220 = Int32.toInt k + Int32.toInt 1 := by rw [ex220]; exact fb_addI (by omega) (by omega)
          refine lv_iinc (pc := 32) (v := x220) (lv' := [(2, .int x220), (1, .int 1), (3, .int x202), (0, .ref (b + 78))]) C0.1 C0.2.1 dX10_cutUp_32 hl (k := 2) rfl (by rw [ex220]; rfl) (by decide) rfl (fun ls hl => ?_)
          refine lv_goto (pc := 35) (tgt := 119) C0.1 C0.2.1 dX10_cutUp_35 (by decide) ?_
          refine lv_goto (pc := 119) (tgt := 9) C0.1 C0.2.1 dX10_cutUp_119 (by decide) ?_
          exact ih9 1 x220 iv Fv Gv _ _ _ (by omega) (by omega) h3 hTK hHD hPI (show Int32.toInt (iv 78 19) ≤ _ from by omega) (by decide) (fun q => by have q : Int32.toInt (iv 78 19) = 0 := q; first | rfl | exact h9 (by omega) | (exfalso; omega)) hH hS (lv_sub hl [0, 1, 3] rfl)
  refine lv_aload_n (pc := 0) C0.1 C0.2.1 dX10_cutUp_0 rfl (lv_at hl 0 rfl) ?_
  refine lv_iconst (pc := 1) (v := 0) C0.1 C0.2.1 dX10_cutUp_1 (by decide) ?_
  refine xputI (pc := 2) C0 (Nat.le_of_ble_eq_true rfl) hH hS 78 19 clX10 ⟨Nat.le_of_ble_eq_true rfl, Nat.le_of_ble_eq_true rfl⟩ ⟨rfl, rfl⟩ ⟨Nat.le_of_ble_eq_true rfl, rfl, rfl⟩ fl_X10_258 (x := 0) ⟨rfl, rfl⟩ dX10_cutUp_2 (fun _ locs hH hS _ => ?_)
  have hH : Hd D tA b 78 52 zz (up2 i 78 19 0) F G _ := hH
  refine lv_iconst (pc := 5) (v := 1) C0.1 C0.2.1 dX10_cutUp_5 (by decide) ?_
  refine lv_istore_n (pc := 6) (lv' := [(1, .int 1), (0, .ref (b + 78))]) C0.1 C0.2.1 dX10_cutUp_6 rfl hl (by decide) rfl (fun ls hl => ?_)
  refine lv_iconst (pc := 7) (v := 0) C0.1 C0.2.1 dX10_cutUp_7 (by decide) ?_
  refine lv_istore_n (pc := 8) (lv' := [(2, .int 0), (1, .int 1), (0, .ref (b + 78))]) C0.1 C0.2.1 dX10_cutUp_8 rfl hl (by decide) rfl (fun ls hl => ?_)
  exact L9 600 1 0 (up2 i 78 19 0) F G _ _ _ (by have : Int32.toInt 0 = 0 := rfl; omega) (by have : Int32.toInt 0 = 0 := rfl; omega) (RO.i RO.rf (by decide)) ⟨by show 0 ≤ Int32.toInt 0 ∧ Int32.toInt 0 ≤ 600; decide, hTA, fun k hk => absurd hk (by show ¬ (k : Int) < Int32.toInt 0; have : Int32.toInt 0 = 0 := rfl; omega)⟩ (fun q => absurd q (by show ¬ 0 < Int32.toInt 0; decide)) hPI (by show Int32.toInt 0 ≤ _; decide) (Or.inr rfl) (fun _ => rfl) hH hS (lv_sub hl [0, 1, 2] rfl)
set_option maxHeartbeats 4000000 in
set_option maxRecDepth 100000 in
theorem m_add_86 (l : Launch) (D : va_G) (tA : Nat → ClassId) (b : Nat) (i F : Nat → Nat → Int32) (G : Nat → Nat → Int64) (x yy z w : Int32) (hi_78_17 : i 78 17 = nI 86) (hTK : TKm i F) (hHD : HD i F) (hCB : CB F) (htk6 : (i 78 19).toInt < 600) (hft : 0 ≤ yy.toInt ∧ yy.toInt + 1 ≤ z.toInt ∧ z.toInt ≤ 600) (hw : w = 0 ∨ w = 1) (hfr : (i 78 19).toInt = 0 → w = 1) : xMV l yX10_add cX10_add 8 none 0 0 D tA b 78 52 i F G [.ref (b + 78), .int x, .int yy, .int z, .int w] (fun u => RO [19] [88, 89, 90, 91, 92, 93, 94] i F G u ∧ TKm u.1 u.2.1 ∧ HD u.1 u.2.1 ∧ (u.1 78 19).toInt = (i 78 19).toInt + 1) := by
  refine xstart RX10 rfl (by decide) (Nat.le_of_ble_eq_true rfl) ?_
  intro p e s m below meth c ls C0 hr hH hS hl
  have hl : lv_has ls 8 [(0, .ref (b + 78)), (1, .int x), (2, .int yy), (3, .int z), (4, .int w)] := hl
  have rg_x := fb_rng x
  have rg_yy := fb_rng yy
  have rg_z := fb_rng z
  have rg_w := fb_rng w
  have hTL := hTK.1
  have L79 : ∀ (d : Nat) (k mm cc : Int32) (t : Int64) (iv Fv : Nat → Nat → Int32) (Gv : Nat → Nat → Int64) (H : Heap) (locs : List Loc) (ls : Array Slot), (yy.toInt ≤ k.toInt) → (z.toInt - k.toInt ≤ d) → (RO [] [88, 89, 90, 91, 92, 93, 94] i F G (iv, Fv, Gv)) → (Fv 89 = upd (F 89) (Int32.toNatClampNeg (i 78 19)) yy) → (Fv 90 = upd (F 90) (Int32.toNatClampNeg (i 78 19)) mm) → (Fv 92 = upd (F 92) (Int32.toNatClampNeg (i 78 19)) cc) → (Fv 93 = upd (F 93) (Int32.toNatClampNeg (i 78 19)) w) → (mm.toInt = z.toInt - yy.toInt) → (0 ≤ cc.toInt) → Hd D tA b 78 52 zz iv Fv Gv H → va_S (xA b 78 52) s.heap H locs → lv_has ls 8 [(7, .int k), (5, .long t), (0, .ref (b + 78)), (1, .int x), (2, .int yy), (3, .int z), (4, .int w)] → W p l e (xR 0 0) s m ([.ref (b + 78), .int x, .int yy, .int z, .int w] : List Value).toArray below meth c H locs 0 0 (MQ below (va_Qv (fun u => RO [19] [88, 89, 90, 91, 92, 93, 94] i F G u ∧ TKm u.1 u.2.1 ∧ HD u.1 u.2.1 ∧ (u.1 78 19).toInt = (i 78 19).toInt + 1) (xB D tA b 78 52 zz) (xA b 78 52)) ([.ref (b + 78), .int x, .int yy, .int z, .int w] : List Value).toArray s 0 0 (xA b 78 52)) (F0 m 79 ls []) := by
    intro d
    induction d with
    | zero =>
      intro k mm cc t iv Fv Gv H locs ls h1 h2 h3 h4 h5 h6 h7 h8 h9 hH hS hl
      have rg_k := fb_rng k
      have rg_mm := fb_rng mm
      have rg_cc := fb_rng cc
      have hi_78_17 : iv 78 17 = nI 86 := (h3.1 78 17 (Or.inr (by decide))).trans hi_78_17
      have ek19 : Int32.toInt (iv 78 19) = Int32.toInt (i 78 19) := congrArg Int32.toInt (h3.1 78 19 (Or.inr (by decide)))
      have e19 : iv 78 19 = i 78 19 := h3.1 78 19 (Or.inr (by decide))
      refine lv_iload (pc := 79) C0.1 C0.2.1 dX10_add_79 (lv_at hl 0 rfl) ?_
      refine lv_iload_n (pc := 81) C0.1 C0.2.1 dX10_add_81 rfl (lv_at hl 5 rfl) ?_
      refine lv_icmp_ge (pc := 82) (tgt := 125) C0.1 C0.2.1 dX10_add_82 (by decide) (fun _ => ?_) (fun c => absurd (Int32.le_iff_toInt_le.mpr (by omega)) c)
      refine lv_aload_n (pc := 125) C0.1 C0.2.1 dX10_add_125 rfl (lv_at hl 2 rfl) ?_
      refine xget (pc := 126) C0 hH 78 26 clX10 ⟨Nat.le_of_ble_eq_true rfl, Nat.le_of_ble_eq_true rfl⟩ ⟨rfl, rfl⟩ (Nat.le_of_ble_eq_true rfl) fl_X10_61 (v := .ref (b + 94)) rfl dX10_add_126 ?_
      refine lv_aload_n (pc := 129) C0.1 C0.2.1 dX10_add_129 rfl (lv_at hl 2 rfl) ?_
      refine xget (pc := 130) C0 hH 78 19 clX10 ⟨Nat.le_of_ble_eq_true rfl, Nat.le_of_ble_eq_true rfl⟩ ⟨rfl, rfl⟩ (Nat.le_of_ble_eq_true rfl) fl_X10_258 (v := .int (iv 78 19)) rfl dX10_add_130 ?_
      refine lv_lload (pc := 133) C0.1 C0.2.1 dX10_add_133 (lv_at hl 1 rfl) ?_
      refine xlast (pc := 135) (N := 600) C0 (Nat.le_of_ble_eq_true rfl) hH hS 94 ⟨Nat.le_of_ble_eq_true rfl, Nat.le_of_ble_eq_true rfl⟩ ⟨rfl, rfl⟩ (vI (by omega) (by omega)) dX10_add_135 (fun _ locs hH hS => ?_)
      have hH : Hd D tA b 78 52 zz iv Fv (va_up Gv 94 (vp_updL (Gv 94) (Int32.toNatClampNeg (iv 78 19)) t)) _ := hH
      refine lv_aload_n (pc := 136) C0.1 C0.2.1 dX10_add_136 rfl (lv_at hl 2 rfl) ?_
      refine lv_dup (pc := 137) C0.1 C0.2.1 dX10_add_137 rfl ?_
      refine xget (pc := 138) C0 hH 78 19 clX10 ⟨Nat.le_of_ble_eq_true rfl, Nat.le_of_ble_eq_true rfl⟩ ⟨rfl, rfl⟩ (Nat.le_of_ble_eq_true rfl) fl_X10_258 (v := .int (iv 78 19)) rfl dX10_add_138 ?_
      refine lv_iconst (pc := 141) (v := 1) C0.1 C0.2.1 dX10_add_141 (by decide) ?_
      have : Int32.toInt 1 = 1 := rfl
      refine lv_iadd (pc := 142) C0.1 C0.2.1 dX10_add_142 ?_
      refine lv_topi (fun x201 ex201 => ?_)
      have hx201 : Int32.toInt x201 = Int32.toInt (iv 78 19) + Int32.toInt 1 := by rw [ex201]; exact fb_addI (by omega) (by omega)
      refine xputI (pc := 143) C0 (Nat.le_of_ble_eq_true rfl) hH hS 78 19 clX10 ⟨Nat.le_of_ble_eq_true rfl, Nat.le_of_ble_eq_true rfl⟩ ⟨rfl, rfl⟩ ⟨Nat.le_of_ble_eq_true rfl, rfl, rfl⟩ fl_X10_258 (x := x201) ⟨rfl, rfl⟩ dX10_add_143 (fun _ locs hH hS _ => ?_)
      have hH : Hd D tA b 78 52 zz (up2 iv 78 19 x201) Fv (va_up Gv 94 (vp_updL (Gv 94) (Int32.toNatClampNeg (iv 78 19)) t)) _ := hH
      exact xvret (pc := 146) C0 hr hH hS dX10_add_146 ⟨(RO.g (RO.i (RO.tr RO.rf h3 (by decide) (by decide)) (by decide)) (by decide)), TKm.add (t := x201) hTK htk6 (by omega) h9 (by omega) rfl h4 h5 h6, HD.add (t := x201) hHD hTK.1.1 hfr (by omega) h7, (show Int32.toInt x201 = _ from by omega)⟩
    | succ d ih79 =>
      intro k mm cc t iv Fv Gv H locs ls h1 h2 h3 h4 h5 h6 h7 h8 h9 hH hS hl
      have rg_k := fb_rng k
      have rg_mm := fb_rng mm
      have rg_cc := fb_rng cc
      have hi_78_17 : iv 78 17 = nI 86 := (h3.1 78 17 (Or.inr (by decide))).trans hi_78_17
      have ek19 : Int32.toInt (iv 78 19) = Int32.toInt (i 78 19) := congrArg Int32.toInt (h3.1 78 19 (Or.inr (by decide)))
      have e19 : iv 78 19 = i 78 19 := h3.1 78 19 (Or.inr (by decide))
      refine lv_iload (pc := 79) C0.1 C0.2.1 dX10_add_79 (lv_at hl 0 rfl) ?_
      refine lv_iload_n (pc := 81) C0.1 C0.2.1 dX10_add_81 rfl (lv_at hl 5 rfl) ?_
      refine lv_icmp_ge (pc := 82) (tgt := 125) C0.1 C0.2.1 dX10_add_82 (by decide) (fun c201 => ?_) (fun c201 => ?_)
      · have c201 := Int32.le_iff_toInt_le.mp c201
        refine lv_aload_n (pc := 125) C0.1 C0.2.1 dX10_add_125 rfl (lv_at hl 2 rfl) ?_
        refine xget (pc := 126) C0 hH 78 26 clX10 ⟨Nat.le_of_ble_eq_true rfl, Nat.le_of_ble_eq_true rfl⟩ ⟨rfl, rfl⟩ (Nat.le_of_ble_eq_true rfl) fl_X10_61 (v := .ref (b + 94)) rfl dX10_add_126 ?_
        refine lv_aload_n (pc := 129) C0.1 C0.2.1 dX10_add_129 rfl (lv_at hl 2 rfl) ?_
        refine xget (pc := 130) C0 hH 78 19 clX10 ⟨Nat.le_of_ble_eq_true rfl, Nat.le_of_ble_eq_true rfl⟩ ⟨rfl, rfl⟩ (Nat.le_of_ble_eq_true rfl) fl_X10_258 (v := .int (iv 78 19)) rfl dX10_add_130 ?_
        refine lv_lload (pc := 133) C0.1 C0.2.1 dX10_add_133 (lv_at hl 1 rfl) ?_
        refine xlast (pc := 135) (N := 600) C0 (Nat.le_of_ble_eq_true rfl) hH hS 94 ⟨Nat.le_of_ble_eq_true rfl, Nat.le_of_ble_eq_true rfl⟩ ⟨rfl, rfl⟩ (vI (by omega) (by omega)) dX10_add_135 (fun _ locs hH hS => ?_)
        have hH : Hd D tA b 78 52 zz iv Fv (va_up Gv 94 (vp_updL (Gv 94) (Int32.toNatClampNeg (iv 78 19)) t)) _ := hH
        refine lv_aload_n (pc := 136) C0.1 C0.2.1 dX10_add_136 rfl (lv_at hl 2 rfl) ?_
        refine lv_dup (pc := 137) C0.1 C0.2.1 dX10_add_137 rfl ?_
        refine xget (pc := 138) C0 hH 78 19 clX10 ⟨Nat.le_of_ble_eq_true rfl, Nat.le_of_ble_eq_true rfl⟩ ⟨rfl, rfl⟩ (Nat.le_of_ble_eq_true rfl) fl_X10_258 (v := .int (iv 78 19)) rfl dX10_add_138 ?_
        refine lv_iconst (pc := 141) (v := 1) C0.1 C0.2.1 dX10_add_141 (by decide) ?_
        have : Int32.toInt 1 = 1 := rfl
        refine lv_iadd (pc := 142) C0.1 C0.2.1 dX10_add_142 ?_
        refine lv_topi (fun x202 ex202 => ?_)
        have hx202 : Int32.toInt x202 = Int32.toInt (iv 78 19) + Int32.toInt 1 := by rw [ex202]; exact fb_addI (by omega) (by omega)
        refine xputI (pc := 143) C0 (Nat.le_of_ble_eq_true rfl) hH hS 78 19 clX10 ⟨Nat.le_of_ble_eq_true rfl, Nat.le_of_ble_eq_true rfl⟩ ⟨rfl, rfl⟩ ⟨Nat.le_of_ble_eq_true rfl, rfl, rfl⟩ fl_X10_258 (x := x202) ⟨rfl, rfl⟩ dX10_add_143 (fun _ locs hH hS _ => ?_)
        have hH : Hd D tA b 78 52 zz (up2 iv 78 19 x202) Fv (va_up Gv 94 (vp_updL (Gv 94) (Int32.toNatClampNeg (iv 78 19)) t)) _ := hH
        exact xvret (pc := 146) C0 hr hH hS dX10_add_146 ⟨(RO.g (RO.i (RO.tr RO.rf h3 (by decide) (by decide)) (by decide)) (by decide)), TKm.add (t := x202) hTK htk6 (by omega) h9 (by omega) rfl h4 h5 h6, HD.add (t := x202) hHD hTK.1.1 hfr (by omega) h7, (show Int32.toInt x202 = _ from by omega)⟩
      · have c201 : ¬ _ := fun q => c201 (Int32.le_iff_toInt_le.mpr q)
        refine lv_iload_n (pc := 85) C0.1 C0.2.1 dX10_add_85 rfl (lv_at hl 3 rfl) ?_
        refine lv_if_eq (pc := 86) (tgt := 94) C0.1 C0.2.1 dX10_add_86 (by decide) (fun c203 => ?_) (fun c203 => ?_)
        · have : Int32.toInt 0 = 0 := rfl
          have c203 := congrArg Int32.toInt c203
          refine lv_lload (pc := 94) C0.1 C0.2.1 dX10_add_94 (lv_at hl 1 rfl) ?_
          refine lv_aload_n (pc := 96) C0.1 C0.2.1 dX10_add_96 rfl (lv_at hl 2 rfl) ?_
          refine xget (pc := 97) C0 hH 78 17 clX10 ⟨Nat.le_of_ble_eq_true rfl, Nat.le_of_ble_eq_true rfl⟩ ⟨rfl, rfl⟩ (Nat.le_of_ble_eq_true rfl) fl_X10_39 (v := .ref (b + 86)) (by show Value.ref (b + (iv 78 17).toNatClampNeg) = _; rw [hi_78_17]; rfl) dX10_add_97 ?_
          refine lv_iload (pc := 100) C0.1 C0.2.1 dX10_add_100 (lv_at hl 0 rfl) ?_
          refine xbald (pc := 102) (N := 600) C0 hH 86 ⟨Nat.le_of_ble_eq_true rfl, Nat.le_of_ble_eq_true rfl⟩ ⟨rfl, rfl⟩ (vI (by omega) (by omega)) dX10_add_102 ?_
          refine lv_i2l (pc := 103) (v := (Fv 86 (Int32.toNatClampNeg k)).toInt64) C0.1 C0.2.1 dX10_add_103 rfl ?_
          refine lv_ldc2 (pc := 104) C0.1 C0.2.1 C0.2.2.2.1 (C0.2.2.2.2.1 _ kl_X10_169) dX10_add_104 ?_
          refine lv_land (pc := 107) C0.1 C0.2.1 dX10_add_107 ?_
          refine lv_bipush (pc := 108) (v := 8) C0.1 C0.2.1 dX10_add_108 (by decide) ?_
          refine lv_iload (pc := 110) C0.1 C0.2.1 dX10_add_110 (lv_at hl 0 rfl) ?_
          refine lv_iload_n (pc := 112) C0.1 C0.2.1 dX10_add_112 rfl (lv_at hl 4 rfl) ?_
          refine lv_isub (pc := 113) C0.1 C0.2.1 dX10_add_113 ?_
          refine lv_imul (pc := 114) C0.1 C0.2.1 dX10_add_114 ?_
          obtain ⟨x204, ex204⟩ : ∃ y : Int64, y = (((Fv 86 (Int32.toNatClampNeg k)).toInt64) &&& 255) <<< ((8 * (k - yy)).toInt64 &&& 63) := ⟨_, rfl⟩
          refine lv_lshl (pc := 115) (v := x204) C0.1 C0.2.1 dX10_add_115 (by rw [ex204]) ?_
          refine lv_lor (pc := 116) C0.1 C0.2.1 dX10_add_116 ?_
          refine lv_topl (fun x205 ex205 => ?_)
          refine lv_lstore (pc := 117) (lv' := [(5, .long x205), (7, .int k), (0, .ref (b + 78)), (1, .int x), (2, .int yy), (3, .int z), (4, .int w)]) C0.1 C0.2.1 dX10_add_117 hl (by decide) rfl (fun ls hl => ?_)
          obtain ⟨x206, ex206⟩ : ∃ y_ : Int32, y_ = k + 1 := ⟨_, rfl⟩
          have : Int32.toInt 1 = 1 := rfl
          have hx206 : Int32.toInt x206 = Int32.toInt k + Int32.toInt 1 := by rw [ex206]; exact fb_addI (by omega) (by omega)
          refine lv_iinc (pc := 119) (v := x206) (lv' := [(7, .int x206), (5, .long x205), (0, .ref (b + 78)), (1, .int x), (2, .int yy), (3, .int z), (4, .int w)]) C0.1 C0.2.1 dX10_add_119 hl (k := 1) rfl (by rw [ex206]; rfl) (by decide) rfl (fun ls hl => ?_)
          refine lv_goto (pc := 122) (tgt := 79) C0.1 C0.2.1 dX10_add_122 (by decide) ?_
          exact ih79 x206 mm cc x205 iv Fv Gv _ _ _ (by omega) (by omega) h3 h4 h5 h6 h7 h8 h9 hH hS (lv_sub hl [0, 1, 2, 3, 4, 5, 6] rfl)
        · have : Int32.toInt 0 = 0 := rfl
          have c203 : ¬ _ := fun q => c203 (Int32.toInt_inj.mp q)
          refine lv_iload_n (pc := 89) C0.1 C0.2.1 dX10_add_89 rfl (lv_at hl 3 rfl) ?_
          refine lv_iconst (pc := 90) (v := 2) C0.1 C0.2.1 dX10_add_90 (by decide) ?_
          refine lv_icmp_ne (pc := 91) (tgt := 125) C0.1 C0.2.1 dX10_add_91 (by decide) (fun c207 => ?_) (fun c207 => ?_)
          · have : Int32.toInt 2 = 2 := rfl
            have c207 : ¬ _ := fun q => c207 (Int32.toInt_inj.mp q)
            refine lv_aload_n (pc := 125) C0.1 C0.2.1 dX10_add_125 rfl (lv_at hl 2 rfl) ?_
            refine xget (pc := 126) C0 hH 78 26 clX10 ⟨Nat.le_of_ble_eq_true rfl, Nat.le_of_ble_eq_true rfl⟩ ⟨rfl, rfl⟩ (Nat.le_of_ble_eq_true rfl) fl_X10_61 (v := .ref (b + 94)) rfl dX10_add_126 ?_
            refine lv_aload_n (pc := 129) C0.1 C0.2.1 dX10_add_129 rfl (lv_at hl 2 rfl) ?_
            refine xget (pc := 130) C0 hH 78 19 clX10 ⟨Nat.le_of_ble_eq_true rfl, Nat.le_of_ble_eq_true rfl⟩ ⟨rfl, rfl⟩ (Nat.le_of_ble_eq_true rfl) fl_X10_258 (v := .int (iv 78 19)) rfl dX10_add_130 ?_
            refine lv_lload (pc := 133) C0.1 C0.2.1 dX10_add_133 (lv_at hl 1 rfl) ?_
            refine xlast (pc := 135) (N := 600) C0 (Nat.le_of_ble_eq_true rfl) hH hS 94 ⟨Nat.le_of_ble_eq_true rfl, Nat.le_of_ble_eq_true rfl⟩ ⟨rfl, rfl⟩ (vI (by omega) (by omega)) dX10_add_135 (fun _ locs hH hS => ?_)
            have hH : Hd D tA b 78 52 zz iv Fv (va_up Gv 94 (vp_updL (Gv 94) (Int32.toNatClampNeg (iv 78 19)) t)) _ := hH
            refine lv_aload_n (pc := 136) C0.1 C0.2.1 dX10_add_136 rfl (lv_at hl 2 rfl) ?_
            refine lv_dup (pc := 137) C0.1 C0.2.1 dX10_add_137 rfl ?_
            refine xget (pc := 138) C0 hH 78 19 clX10 ⟨Nat.le_of_ble_eq_true rfl, Nat.le_of_ble_eq_true rfl⟩ ⟨rfl, rfl⟩ (Nat.le_of_ble_eq_true rfl) fl_X10_258 (v := .int (iv 78 19)) rfl dX10_add_138 ?_
            refine lv_iconst (pc := 141) (v := 1) C0.1 C0.2.1 dX10_add_141 (by decide) ?_
            have : Int32.toInt 1 = 1 := rfl
            refine lv_iadd (pc := 142) C0.1 C0.2.1 dX10_add_142 ?_
            refine lv_topi (fun x208 ex208 => ?_)
            have hx208 : Int32.toInt x208 = Int32.toInt (iv 78 19) + Int32.toInt 1 := by rw [ex208]; exact fb_addI (by omega) (by omega)
            refine xputI (pc := 143) C0 (Nat.le_of_ble_eq_true rfl) hH hS 78 19 clX10 ⟨Nat.le_of_ble_eq_true rfl, Nat.le_of_ble_eq_true rfl⟩ ⟨rfl, rfl⟩ ⟨Nat.le_of_ble_eq_true rfl, rfl, rfl⟩ fl_X10_258 (x := x208) ⟨rfl, rfl⟩ dX10_add_143 (fun _ locs hH hS _ => ?_)
            have hH : Hd D tA b 78 52 zz (up2 iv 78 19 x208) Fv (va_up Gv 94 (vp_updL (Gv 94) (Int32.toNatClampNeg (iv 78 19)) t)) _ := hH
            exact xvret (pc := 146) C0 hr hH hS dX10_add_146 ⟨(RO.g (RO.i (RO.tr RO.rf h3 (by decide) (by decide)) (by decide)) (by decide)), TKm.add (t := x208) hTK htk6 (by omega) h9 (by omega) rfl h4 h5 h6, HD.add (t := x208) hHD hTK.1.1 hfr (by omega) h7, (show Int32.toInt x208 = _ from by omega)⟩
          · have : Int32.toInt 2 = 2 := rfl
            have c207 := congrArg Int32.toInt c207
            refine lv_lload (pc := 94) C0.1 C0.2.1 dX10_add_94 (lv_at hl 1 rfl) ?_
            refine lv_aload_n (pc := 96) C0.1 C0.2.1 dX10_add_96 rfl (lv_at hl 2 rfl) ?_
            refine xget (pc := 97) C0 hH 78 17 clX10 ⟨Nat.le_of_ble_eq_true rfl, Nat.le_of_ble_eq_true rfl⟩ ⟨rfl, rfl⟩ (Nat.le_of_ble_eq_true rfl) fl_X10_39 (v := .ref (b + 86)) (by show Value.ref (b + (iv 78 17).toNatClampNeg) = _; rw [hi_78_17]; rfl) dX10_add_97 ?_
            refine lv_iload (pc := 100) C0.1 C0.2.1 dX10_add_100 (lv_at hl 0 rfl) ?_
            refine xbald (pc := 102) (N := 600) C0 hH 86 ⟨Nat.le_of_ble_eq_true rfl, Nat.le_of_ble_eq_true rfl⟩ ⟨rfl, rfl⟩ (vI (by omega) (by omega)) dX10_add_102 ?_
            refine lv_i2l (pc := 103) (v := (Fv 86 (Int32.toNatClampNeg k)).toInt64) C0.1 C0.2.1 dX10_add_103 rfl ?_
            refine lv_ldc2 (pc := 104) C0.1 C0.2.1 C0.2.2.2.1 (C0.2.2.2.2.1 _ kl_X10_169) dX10_add_104 ?_
            refine lv_land (pc := 107) C0.1 C0.2.1 dX10_add_107 ?_
            refine lv_bipush (pc := 108) (v := 8) C0.1 C0.2.1 dX10_add_108 (by decide) ?_
            refine lv_iload (pc := 110) C0.1 C0.2.1 dX10_add_110 (lv_at hl 0 rfl) ?_
            refine lv_iload_n (pc := 112) C0.1 C0.2.1 dX10_add_112 rfl (lv_at hl 4 rfl) ?_
            refine lv_isub (pc := 113) C0.1 C0.2.1 dX10_add_113 ?_
            refine lv_imul (pc := 114) C0.1 C0.2.1 dX10_add_114 ?_
            obtain ⟨x209, ex209⟩ : ∃ y : Int64, y = (((Fv 86 (Int32.toNatClampNeg k)).toInt64) &&& 255) <<< ((8 * (k - yy)).toInt64 &&& 63) := ⟨_, rfl⟩
            refine lv_lshl (pc := 115) (v := x209) C0.1 C0.2.1 dX10_add_115 (by rw [ex209]) ?_
            refine lv_lor (pc := 116) C0.1 C0.2.1 dX10_add_116 ?_
            refine lv_topl (fun x210 ex210 => ?_)
            refine lv_lstore (pc := 117) (lv' := [(5, .long x210), (7, .int k), (0, .ref (b + 78)), (1, .int x), (2, .int yy), (3, .int z), (4, .int w)]) C0.1 C0.2.1 dX10_add_117 hl (by decide) rfl (fun ls hl => ?_)
            obtain ⟨x211, ex211⟩ : ∃ y_ : Int32, y_ = k + 1 := ⟨_, rfl⟩
            have : Int32.toInt 1 = 1 := rfl
            have hx211 : Int32.toInt x211 = Int32.toInt k + Int32.toInt 1 := by rw [ex211]; exact fb_addI (by omega) (by omega)
            refine lv_iinc (pc := 119) (v := x211) (lv' := [(7, .int x211), (5, .long x210), (0, .ref (b + 78)), (1, .int x), (2, .int yy), (3, .int z), (4, .int w)]) C0.1 C0.2.1 dX10_add_119 hl (k := 1) rfl (by rw [ex211]; rfl) (by decide) rfl (fun ls hl => ?_)
            refine lv_goto (pc := 122) (tgt := 79) C0.1 C0.2.1 dX10_add_122 (by decide) ?_
            exact ih79 x211 mm cc x210 iv Fv Gv _ _ _ (by omega) (by omega) h3 h4 h5 h6 h7 h8 h9 hH hS (lv_sub hl [0, 1, 2, 3, 4, 5, 6] rfl)
  refine lv_aload_n (pc := 0) C0.1 C0.2.1 dX10_add_0 rfl (lv_at hl 0 rfl) ?_
  refine xget (pc := 1) C0 hH 78 20 clX10 ⟨Nat.le_of_ble_eq_true rfl, Nat.le_of_ble_eq_true rfl⟩ ⟨rfl, rfl⟩ (Nat.le_of_ble_eq_true rfl) fl_X10_42 (v := .ref (b + 88)) rfl dX10_add_1 ?_
  refine lv_aload_n (pc := 4) C0.1 C0.2.1 dX10_add_4 rfl (lv_at hl 0 rfl) ?_
  refine xget (pc := 5) C0 hH 78 19 clX10 ⟨Nat.le_of_ble_eq_true rfl, Nat.le_of_ble_eq_true rfl⟩ ⟨rfl, rfl⟩ (Nat.le_of_ble_eq_true rfl) fl_X10_258 (v := .int (i 78 19)) rfl dX10_add_5 ?_
  refine lv_iload_n (pc := 8) C0.1 C0.2.1 dX10_add_8 rfl (lv_at hl 1 rfl) ?_
  refine xiast (pc := 9) (N := 600) C0 (Nat.le_of_ble_eq_true rfl) hH hS 88 ⟨Nat.le_of_ble_eq_true rfl, Nat.le_of_ble_eq_true rfl⟩ ⟨rfl, rfl⟩ (vI (by omega) (by omega)) dX10_add_9 (fun _ locs hH hS _ => ?_)
  have hH : Hd D tA b 78 52 zz i (va_up F 88 (upd (F 88) (Int32.toNatClampNeg (i 78 19)) x)) G _ := hH
  refine lv_aload_n (pc := 10) C0.1 C0.2.1 dX10_add_10 rfl (lv_at hl 0 rfl) ?_
  refine xget (pc := 11) C0 hH 78 21 clX10 ⟨Nat.le_of_ble_eq_true rfl, Nat.le_of_ble_eq_true rfl⟩ ⟨rfl, rfl⟩ (Nat.le_of_ble_eq_true rfl) fl_X10_45 (v := .ref (b + 89)) rfl dX10_add_11 ?_
  refine lv_aload_n (pc := 14) C0.1 C0.2.1 dX10_add_14 rfl (lv_at hl 0 rfl) ?_
  refine xget (pc := 15) C0 hH 78 19 clX10 ⟨Nat.le_of_ble_eq_true rfl, Nat.le_of_ble_eq_true rfl⟩ ⟨rfl, rfl⟩ (Nat.le_of_ble_eq_true rfl) fl_X10_258 (v := .int (i 78 19)) rfl dX10_add_15 ?_
  refine lv_iload_n (pc := 18) C0.1 C0.2.1 dX10_add_18 rfl (lv_at hl 2 rfl) ?_
  refine xiast (pc := 19) (N := 600) C0 (Nat.le_of_ble_eq_true rfl) hH hS 89 ⟨Nat.le_of_ble_eq_true rfl, Nat.le_of_ble_eq_true rfl⟩ ⟨rfl, rfl⟩ (vI (by omega) (by omega)) dX10_add_19 (fun _ locs hH hS _ => ?_)
  have hH : Hd D tA b 78 52 zz i (va_up (va_up F 88 (upd (F 88) (Int32.toNatClampNeg (i 78 19)) x)) 89 (upd (F 89) (Int32.toNatClampNeg (i 78 19)) yy)) G _ := hH
  refine lv_aload_n (pc := 20) C0.1 C0.2.1 dX10_add_20 rfl (lv_at hl 0 rfl) ?_
  refine xget (pc := 21) C0 hH 78 22 clX10 ⟨Nat.le_of_ble_eq_true rfl, Nat.le_of_ble_eq_true rfl⟩ ⟨rfl, rfl⟩ (Nat.le_of_ble_eq_true rfl) fl_X10_48 (v := .ref (b + 90)) rfl dX10_add_21 ?_
  refine lv_aload_n (pc := 24) C0.1 C0.2.1 dX10_add_24 rfl (lv_at hl 0 rfl) ?_
  refine xget (pc := 25) C0 hH 78 19 clX10 ⟨Nat.le_of_ble_eq_true rfl, Nat.le_of_ble_eq_true rfl⟩ ⟨rfl, rfl⟩ (Nat.le_of_ble_eq_true rfl) fl_X10_258 (v := .int (i 78 19)) rfl dX10_add_25 ?_
  refine lv_iload_n (pc := 28) C0.1 C0.2.1 dX10_add_28 rfl (lv_at hl 3 rfl) ?_
  refine lv_iload_n (pc := 29) C0.1 C0.2.1 dX10_add_29 rfl (lv_at hl 2 rfl) ?_
  refine lv_isub (pc := 30) C0.1 C0.2.1 dX10_add_30 ?_
  refine lv_topi (fun x1 ex1 => ?_)
  have hx1 : Int32.toInt x1 = Int32.toInt z - Int32.toInt yy := by rw [ex1]; exact fb_subI (by omega) (by omega)
  refine xiast (pc := 31) (N := 600) C0 (Nat.le_of_ble_eq_true rfl) hH hS 90 ⟨Nat.le_of_ble_eq_true rfl, Nat.le_of_ble_eq_true rfl⟩ ⟨rfl, rfl⟩ (vI (by omega) (by omega)) dX10_add_31 (fun _ locs hH hS _ => ?_)
  have hH : Hd D tA b 78 52 zz i (va_up (va_up (va_up F 88 (upd (F 88) (Int32.toNatClampNeg (i 78 19)) x)) 89 (upd (F 89) (Int32.toNatClampNeg (i 78 19)) yy)) 90 (upd (F 90) (Int32.toNatClampNeg (i 78 19)) x1)) G _ := hH
  refine lv_aload_n (pc := 32) C0.1 C0.2.1 dX10_add_32 rfl (lv_at hl 0 rfl) ?_
  refine xget (pc := 33) C0 hH 78 23 clX10 ⟨Nat.le_of_ble_eq_true rfl, Nat.le_of_ble_eq_true rfl⟩ ⟨rfl, rfl⟩ (Nat.le_of_ble_eq_true rfl) fl_X10_51 (v := .ref (b + 91)) rfl dX10_add_33 ?_
  refine lv_aload_n (pc := 36) C0.1 C0.2.1 dX10_add_36 rfl (lv_at hl 0 rfl) ?_
  refine xget (pc := 37) C0 hH 78 19 clX10 ⟨Nat.le_of_ble_eq_true rfl, Nat.le_of_ble_eq_true rfl⟩ ⟨rfl, rfl⟩ (Nat.le_of_ble_eq_true rfl) fl_X10_258 (v := .int (i 78 19)) rfl dX10_add_37 ?_
  refine lv_aload_n (pc := 40) C0.1 C0.2.1 dX10_add_40 rfl (lv_at hl 0 rfl) ?_
  refine xget (pc := 41) C0 hH 78 28 clX10 ⟨Nat.le_of_ble_eq_true rfl, Nat.le_of_ble_eq_true rfl⟩ ⟨rfl, rfl⟩ (Nat.le_of_ble_eq_true rfl) fl_X10_67 (v := .ref (b + 96)) rfl dX10_add_41 ?_
  refine lv_iload_n (pc := 44) C0.1 C0.2.1 dX10_add_44 rfl (lv_at hl 2 rfl) ?_
  refine xiald (pc := 45) (N := 601) C0 hH 96 ⟨Nat.le_of_ble_eq_true rfl, Nat.le_of_ble_eq_true rfl⟩ ⟨rfl, rfl⟩ (vI (by omega) (by omega)) dX10_add_45 ?_
  refine xiast (pc := 46) (N := 600) C0 (Nat.le_of_ble_eq_true rfl) hH hS 91 ⟨Nat.le_of_ble_eq_true rfl, Nat.le_of_ble_eq_true rfl⟩ ⟨rfl, rfl⟩ (vI (by omega) (by omega)) dX10_add_46 (fun _ locs hH hS _ => ?_)
  have hH : Hd D tA b 78 52 zz i (va_up (va_up (va_up (va_up F 88 (upd (F 88) (Int32.toNatClampNeg (i 78 19)) x)) 89 (upd (F 89) (Int32.toNatClampNeg (i 78 19)) yy)) 90 (upd (F 90) (Int32.toNatClampNeg (i 78 19)) x1)) 91 (upd (F 91) (Int32.toNatClampNeg (i 78 19)) (F 96 (Int32.toNatClampNeg yy)))) G _ := hH
  refine lv_aload_n (pc := 47) C0.1 C0.2.1 dX10_add_47 rfl (lv_at hl 0 rfl) ?_
  refine xget (pc := 48) C0 hH 78 24 clX10 ⟨Nat.le_of_ble_eq_true rfl, Nat.le_of_ble_eq_true rfl⟩ ⟨rfl, rfl⟩ (Nat.le_of_ble_eq_true rfl) fl_X10_54 (v := .ref (b + 92)) rfl dX10_add_48 ?_
  refine lv_aload_n (pc := 51) C0.1 C0.2.1 dX10_add_51 rfl (lv_at hl 0 rfl) ?_
  refine xget (pc := 52) C0 hH 78 19 clX10 ⟨Nat.le_of_ble_eq_true rfl, Nat.le_of_ble_eq_true rfl⟩ ⟨rfl, rfl⟩ (Nat.le_of_ble_eq_true rfl) fl_X10_258 (v := .int (i 78 19)) rfl dX10_add_52 ?_
  refine lv_aload_n (pc := 55) C0.1 C0.2.1 dX10_add_55 rfl (lv_at hl 0 rfl) ?_
  refine xget (pc := 56) C0 hH 78 29 clX10 ⟨Nat.le_of_ble_eq_true rfl, Nat.le_of_ble_eq_true rfl⟩ ⟨rfl, rfl⟩ (Nat.le_of_ble_eq_true rfl) fl_X10_70 (v := .ref (b + 97)) rfl dX10_add_56 ?_
  refine lv_iload_n (pc := 59) C0.1 C0.2.1 dX10_add_59 rfl (lv_at hl 2 rfl) ?_
  refine xiald (pc := 60) (N := 601) C0 hH 97 ⟨Nat.le_of_ble_eq_true rfl, Nat.le_of_ble_eq_true rfl⟩ ⟨rfl, rfl⟩ (vI (by omega) (by omega)) dX10_add_60 ?_
  refine xiast (pc := 61) (N := 600) C0 (Nat.le_of_ble_eq_true rfl) hH hS 92 ⟨Nat.le_of_ble_eq_true rfl, Nat.le_of_ble_eq_true rfl⟩ ⟨rfl, rfl⟩ (vI (by omega) (by omega)) dX10_add_61 (fun _ locs hH hS _ => ?_)
  have hH : Hd D tA b 78 52 zz i (va_up (va_up (va_up (va_up (va_up F 88 (upd (F 88) (Int32.toNatClampNeg (i 78 19)) x)) 89 (upd (F 89) (Int32.toNatClampNeg (i 78 19)) yy)) 90 (upd (F 90) (Int32.toNatClampNeg (i 78 19)) x1)) 91 (upd (F 91) (Int32.toNatClampNeg (i 78 19)) (F 96 (Int32.toNatClampNeg yy)))) 92 (upd (F 92) (Int32.toNatClampNeg (i 78 19)) (F 97 (Int32.toNatClampNeg yy)))) G _ := hH
  refine lv_aload_n (pc := 62) C0.1 C0.2.1 dX10_add_62 rfl (lv_at hl 0 rfl) ?_
  refine xget (pc := 63) C0 hH 78 25 clX10 ⟨Nat.le_of_ble_eq_true rfl, Nat.le_of_ble_eq_true rfl⟩ ⟨rfl, rfl⟩ (Nat.le_of_ble_eq_true rfl) fl_X10_57 (v := .ref (b + 93)) rfl dX10_add_63 ?_
  refine lv_aload_n (pc := 66) C0.1 C0.2.1 dX10_add_66 rfl (lv_at hl 0 rfl) ?_
  refine xget (pc := 67) C0 hH 78 19 clX10 ⟨Nat.le_of_ble_eq_true rfl, Nat.le_of_ble_eq_true rfl⟩ ⟨rfl, rfl⟩ (Nat.le_of_ble_eq_true rfl) fl_X10_258 (v := .int (i 78 19)) rfl dX10_add_67 ?_
  refine lv_iload (pc := 70) C0.1 C0.2.1 dX10_add_70 (lv_at hl 4 rfl) ?_
  refine xzast (pc := 72) (N := 600) C0 (Nat.le_of_ble_eq_true rfl) hH hS 93 ⟨Nat.le_of_ble_eq_true rfl, Nat.le_of_ble_eq_true rfl⟩ ⟨rfl, rfl⟩ hw (vI (by omega) (by omega)) dX10_add_72 (fun _ locs hH hS => ?_)
  have hH : Hd D tA b 78 52 zz i (va_up (va_up (va_up (va_up (va_up (va_up F 88 (upd (F 88) (Int32.toNatClampNeg (i 78 19)) x)) 89 (upd (F 89) (Int32.toNatClampNeg (i 78 19)) yy)) 90 (upd (F 90) (Int32.toNatClampNeg (i 78 19)) x1)) 91 (upd (F 91) (Int32.toNatClampNeg (i 78 19)) (F 96 (Int32.toNatClampNeg yy)))) 92 (upd (F 92) (Int32.toNatClampNeg (i 78 19)) (F 97 (Int32.toNatClampNeg yy)))) 93 (upd (F 93) (Int32.toNatClampNeg (i 78 19)) w)) G _ := hH
  refine lv_lconst (pc := 73) (v := 0) C0.1 C0.2.1 dX10_add_73 (by decide) ?_
  refine lv_lstore (pc := 74) (lv' := [(5, .long 0), (0, .ref (b + 78)), (1, .int x), (2, .int yy), (3, .int z), (4, .int w)]) C0.1 C0.2.1 dX10_add_74 hl (by decide) rfl (fun ls hl => ?_)
  refine lv_iload_n (pc := 76) C0.1 C0.2.1 dX10_add_76 rfl (lv_at hl 3 rfl) ?_
  refine lv_istore (pc := 77) (lv' := [(7, .int yy), (5, .long 0), (0, .ref (b + 78)), (1, .int x), (2, .int yy), (3, .int z), (4, .int w)]) C0.1 C0.2.1 dX10_add_77 hl (by decide) rfl (fun ls hl => ?_)
  exact L79 (z.toInt - yy.toInt).toNat yy x1 (F 97 (Int32.toNatClampNeg yy)) 0 i (va_up (va_up (va_up (va_up (va_up (va_up F 88 (upd (F 88) (Int32.toNatClampNeg (i 78 19)) x)) 89 (upd (F 89) (Int32.toNatClampNeg (i 78 19)) yy)) 90 (upd (F 90) (Int32.toNatClampNeg (i 78 19)) x1)) 91 (upd (F 91) (Int32.toNatClampNeg (i 78 19)) (F 96 (Int32.toNatClampNeg yy)))) 92 (upd (F 92) (Int32.toNatClampNeg (i 78 19)) (F 97 (Int32.toNatClampNeg yy)))) 93 (upd (F 93) (Int32.toNatClampNeg (i 78 19)) w)) G _ _ _ (by omega) (by omega) (RO.f (RO.f (RO.f (RO.f (RO.f (RO.f RO.rf (by decide)) (by decide)) (by decide)) (by decide)) (by decide)) (by decide)) rfl rfl rfl rfl (by omega) (hCB _) hH hS (lv_sub hl [0, 1, 2, 3, 4, 5, 6] rfl)
set_option maxHeartbeats 4000000 in
set_option maxRecDepth 100000 in
theorem m_cutOne_86 (l : Launch) (D : va_G) (tA : Nat → ClassId) (b : Nat) (i F : Nat → Nat → Int32) (G : Nat → Nat → Int64) (x y : Int32) (hi_78_17 : i 78 17 = nI 86) (hlen : 0 ≤ (i 78 18).toInt ∧ (i 78 18).toInt ≤ 600) (hTK : TKm i F) (hHD : HD i F) (hCB : CB F) (hPI : PLI i) (hx : 0 ≤ x.toInt ∧ x.toInt < (i 78 18).toInt) (htx : (i 78 19).toInt ≤ x.toInt) (hy01 : y = 0 ∨ y = 1) (hfr : (i 78 19).toInt = 0 → y = 1) : xMI l yX10_cutOne cX10_cutOne 7 (some .int) 2 45 D tA b 78 52 i F G [.ref (b + 78), .int x, .int y] (fun r u => RO [19, 30, 31] [88, 89, 90, 91, 92, 93, 94] i F G u ∧ TKm u.1 u.2.1 ∧ HD u.1 u.2.1 ∧ PLI u.1 ∧ ((r.toInt = -9 ∧ (0 ≤ (u.1 78 31).toInt ∧ (u.1 78 31).toInt ≤ 600)) ∨ ((x.toInt + 1 ≤ r.toInt ∧ r.toInt ≤ (i 78 18).toInt) ∧ 1 ≤ (u.1 78 19).toInt)) ∧ (u.1 78 19).toInt ≤ (i 78 19).toInt + 1) := by
  refine xstart RX10 rfl (by decide) (Nat.le_of_ble_eq_true rfl) ?_
  intro p e s m below meth c ls C0 hr hH hS hl
  have hl : lv_has ls 7 [(0, .ref (b + 78)), (1, .int x), (2, .int y)] := hl
  have rg_x := fb_rng x
  have rg_y := fb_rng y
  have hTL := hTK.1
  refine lv_aload_n (pc := 0) C0.1 C0.2.1 dX10_cutOne_0 rfl (lv_at hl 0 rfl) ?_
  refine xget (pc := 1) C0 hH 78 17 clX10 ⟨Nat.le_of_ble_eq_true rfl, Nat.le_of_ble_eq_true rfl⟩ ⟨rfl, rfl⟩ (Nat.le_of_ble_eq_true rfl) fl_X10_39 (v := .ref (b + 86)) (by show Value.ref (b + (i 78 17).toNatClampNeg) = _; rw [hi_78_17]; rfl) dX10_cutOne_1 ?_
  refine lv_iload_n (pc := 4) C0.1 C0.2.1 dX10_cutOne_4 rfl (lv_at hl 1 rfl) ?_
  refine xbald (pc := 5) (N := 600) C0 hH 86 ⟨Nat.le_of_ble_eq_true rfl, Nat.le_of_ble_eq_true rfl⟩ ⟨rfl, rfl⟩ (vI (by omega) (by omega)) dX10_cutOne_5 ?_
  refine lv_topi (fun x1 ex1 => ?_)
  refine lv_istore_n (pc := 6) (lv' := [(3, .int x1), (0, .ref (b + 78)), (1, .int x), (2, .int y)]) C0.1 C0.2.1 dX10_cutOne_6 rfl hl (by decide) rfl (fun ls hl => ?_)
  refine lv_iload_n (pc := 7) C0.1 C0.2.1 dX10_cutOne_7 rfl (lv_at hl 0 rfl) ?_
  refine lv_bipush (pc := 8) (v := 39) C0.1 C0.2.1 dX10_cutOne_8 (by decide) ?_
  refine lv_icmp_ne (pc := 10) (tgt := 82) C0.1 C0.2.1 dX10_cutOne_10 (by decide) (fun c2 => ?_) (fun c2 => ?_)
  · have : Int32.toInt 39 = 39 := rfl
    have c2 : ¬ _ := fun q => c2 (Int32.toInt_inj.mp q)
    refine lv_iload_n (pc := 82) C0.1 C0.2.1 dX10_cutOne_82 rfl (lv_at hl 0 rfl) ?_
    refine xcSI (pc := 83) [.int x1] (c_X10_isLetter l D tA b 78 52 i F G x1) C0 hH hS cw_X10_171 rfl ⟨Nat.le_of_ble_eq_true rfl, Nat.le_of_ble_eq_true rfl⟩ hl.1 rfl (Nat.le_of_ble_eq_true rfl) dX10_cutOne_83 ⟨Nat.le_of_ble_eq_true rfl, Nat.le_of_ble_eq_true rfl⟩ (fun r3 ir3 Fr3 Gr3 _ locs hp hH hS => ?_)
    obtain ⟨hu, rfl⟩ := hp
    cases hu
    refine lv_topi (fun x4 ex4 => ?_)
    refine lv_istore (pc := 86) (lv' := [(4, .int x4), (3, .int x1), (0, .ref (b + 78)), (1, .int x), (2, .int y)]) C0.1 C0.2.1 dX10_cutOne_86 hl (by decide) rfl (fun ls hl => ?_)
    refine lv_iload (pc := 88) C0.1 C0.2.1 dX10_cutOne_88 (lv_at hl 0 rfl) ?_
    refine lv_if_ne (pc := 90) (tgt := 100) C0.1 C0.2.1 dX10_cutOne_90 (by decide) (fun c5 => ?_) (fun c5 => ?_)
    · have : Int32.toInt 0 = 0 := rfl
      have c5 : ¬ _ := fun q => c5 (Int32.toInt_inj.mp q)
      have hbh : (¬ x4 = 0 → ¬ lt_ (F 86 (Int32.toNatClampNeg x)) = 0) ∧ (x4 = 0 → ¬ dg (F 86 (Int32.toNatClampNeg x)) = 0) := ⟨fun q => by rw [← ex1, ← ex4]; exact q, fun q => absurd (congrArg Int32.toInt q) (by assumption)⟩
      refine lv_aload_n (pc := 100) C0.1 C0.2.1 dX10_cutOne_100 rfl (lv_at hl 2 rfl) ?_
      refine lv_iload_n (pc := 101) C0.1 C0.2.1 dX10_cutOne_101 rfl (lv_at hl 3 rfl) ?_
      refine lv_iload (pc := 102) C0.1 C0.2.1 dX10_cutOne_102 (lv_at hl 0 rfl) ?_
      refine xcVI (pc := 104) 78 [.int x, .int x4] (m_behind_86 l D tA b i F G x x4 hi_78_17 (show 0 ≤ Int32.toInt (i 78 18) ∧ Int32.toInt (i 78 18) ≤ 600 from by omega) (by omega) hbh (by omega)) C0 hH hS clX10 rfl ⟨⟨Nat.le_of_ble_eq_true rfl, Nat.le_of_ble_eq_true rfl⟩, rfl, rfl⟩ cw_X10_274 rfl ⟨Nat.le_of_ble_eq_true rfl, Nat.le_of_ble_eq_true rfl⟩ hl.1 rfl (Nat.le_of_ble_eq_true rfl) dX10_cutOne_104 ⟨Nat.le_of_ble_eq_true rfl, Nat.le_of_ble_eq_true rfl⟩ (fun r6 ir6 Fr6 Gr6 _ locs hp hH hS => ?_)
      obtain ⟨hu, hpr6⟩ := hp
      cases hu
      refine lv_istore (pc := 107) (lv' := [(5, .int r6), (4, .int x4), (3, .int x1), (0, .ref (b + 78)), (1, .int x), (2, .int y)]) C0.1 C0.2.1 dX10_cutOne_107 hl (by decide) rfl (fun ls hl => ?_)
      refine lv_iload (pc := 109) C0.1 C0.2.1 dX10_cutOne_109 (lv_at hl 0 rfl) ?_
      refine lv_iload_n (pc := 111) C0.1 C0.2.1 dX10_cutOne_111 rfl (lv_at hl 4 rfl) ?_
      refine lv_isub (pc := 112) C0.1 C0.2.1 dX10_cutOne_112 ?_
      refine lv_topi (fun x7 ex7 => ?_)
      have hx7 : Int32.toInt x7 = Int32.toInt r6 - Int32.toInt x := by rw [ex7]; exact fb_subI (by omega) (by omega)
      refine lv_iload (pc := 113) C0.1 C0.2.1 dX10_cutOne_113 (lv_at hl 1 rfl) ?_
      refine lv_if_eq (pc := 115) (tgt := 123) C0.1 C0.2.1 dX10_cutOne_115 (by decide) (fun c8 => ?_) (fun c8 => ?_)
      · have : Int32.toInt 0 = 0 := rfl
        have c8 := congrArg Int32.toInt c8
        refine lv_bipush (pc := 123) (v := 9) C0.1 C0.2.1 dX10_cutOne_123 (by decide) ?_
        refine lv_icmp_le (pc := 125) (tgt := 139) C0.1 C0.2.1 dX10_cutOne_125 (by decide) (fun c9 => ?_) (fun c9 => ?_)
        · have : Int32.toInt 9 = 9 := rfl
          have c9 := Int32.le_iff_toInt_le.mp c9
          refine lv_aload_n (pc := 139) C0.1 C0.2.1 dX10_cutOne_139 rfl (lv_at hl 3 rfl) ?_
          refine lv_iload (pc := 140) C0.1 C0.2.1 dX10_cutOne_140 (lv_at hl 1 rfl) ?_
          refine lv_if_eq (pc := 142) (tgt := 149) C0.1 C0.2.1 dX10_cutOne_142 (by decide) (fun c10 => ?_) (fun c10 => ?_)
          · have : Int32.toInt 0 = 0 := rfl
            have c10 := congrArg Int32.toInt c10
            refine lv_iconst (pc := 149) (v := 1) C0.1 C0.2.1 dX10_cutOne_149 (by decide) ?_
            refine lv_iload_n (pc := 150) C0.1 C0.2.1 dX10_cutOne_150 rfl (lv_at hl 4 rfl) ?_
            refine lv_iload (pc := 151) C0.1 C0.2.1 dX10_cutOne_151 (lv_at hl 0 rfl) ?_
            refine lv_iload_n (pc := 153) C0.1 C0.2.1 dX10_cutOne_153 rfl (lv_at hl 5 rfl) ?_
            refine xcVV (pc := 154) 78 [.int 1, .int x, .int r6, .int y] (m_add_86 l D tA b i F G 1 x r6 y hi_78_17 hTK hHD hCB (show Int32.toInt (i 78 19) < 600 from by omega) (show 0 ≤ Int32.toInt x ∧ Int32.toInt x + 1 ≤ Int32.toInt r6 ∧ Int32.toInt r6 ≤ 600 from by omega) hy01 (fun q => hfr (by have q : Int32.toInt (i 78 19) = 0 := q; omega))) C0 hH hS clX10 rfl ⟨⟨Nat.le_of_ble_eq_true rfl, Nat.le_of_ble_eq_true rfl⟩, rfl, rfl⟩ cw_X10_270 rfl ⟨Nat.le_of_ble_eq_true rfl, Nat.le_of_ble_eq_true rfl⟩ hl.1 rfl (Nat.le_of_ble_eq_true rfl) dX10_cutOne_154 ⟨Nat.le_of_ble_eq_true rfl, Nat.le_of_ble_eq_true rfl⟩ (fun ir11 Fr11 Gr11 _ locs hp hH hS => ?_)
            obtain ⟨honr11, hTK, hHD, ht19r11⟩ := hp
            have hTK : TKm ir11 Fr11 := hTK
            have hHD : HD ir11 Fr11 := hHD
            have ht19r11 : (ir11 78 19).toInt = Int32.toInt (i 78 19) + 1 := ht19r11
            have hCB : CB Fr11 := CB.ro (F := F) hCB honr11 (by decide)
            have hPI : PLI ir11 := PLI.ro (i := i) (F := F) hPI honr11 (by decide)
            have hi_78_17 : ir11 78 17 = nI 86 := (honr11.1 78 17 (Or.inr (by decide))).trans hi_78_17
            have ek_18r11 : Int32.toInt (ir11 78 18) = Int32.toInt (i 78 18) := congrArg Int32.toInt (honr11.1 78 18 (Or.inr (by decide)))
            refine lv_iload (pc := 157) C0.1 C0.2.1 dX10_cutOne_157 (lv_at hl 0 rfl) ?_
            exact xiret (pc := 159) C0 hr hH hS dX10_cutOne_159 ⟨(RO.tr RO.rf honr11 (by decide) (by decide)), hTK, hHD, hPI, Or.inr ⟨⟨by omega, by omega⟩, (show 1 ≤ Int32.toInt (ir11 78 19) from by omega)⟩, (show Int32.toInt (ir11 78 19) ≤ _ from by omega)⟩
          · have : Int32.toInt 0 = 0 := rfl
            have c10 : ¬ _ := fun q => c10 (Int32.toInt_inj.mp q)
            refine lv_iconst (pc := 145) (v := 0) C0.1 C0.2.1 dX10_cutOne_145 (by decide) ?_
            refine lv_goto (pc := 146) (tgt := 150) C0.1 C0.2.1 dX10_cutOne_146 (by decide) ?_
            refine lv_iload_n (pc := 150) C0.1 C0.2.1 dX10_cutOne_150 rfl (lv_at hl 4 rfl) ?_
            refine lv_iload (pc := 151) C0.1 C0.2.1 dX10_cutOne_151 (lv_at hl 0 rfl) ?_
            refine lv_iload_n (pc := 153) C0.1 C0.2.1 dX10_cutOne_153 rfl (lv_at hl 5 rfl) ?_
            refine xcVV (pc := 154) 78 [.int 0, .int x, .int r6, .int y] (m_add_86 l D tA b i F G 0 x r6 y hi_78_17 hTK hHD hCB (show Int32.toInt (i 78 19) < 600 from by omega) (show 0 ≤ Int32.toInt x ∧ Int32.toInt x + 1 ≤ Int32.toInt r6 ∧ Int32.toInt r6 ≤ 600 from by omega) hy01 (fun q => hfr (by have q : Int32.toInt (i 78 19) = 0 := q; omega))) C0 hH hS clX10 rfl ⟨⟨Nat.le_of_ble_eq_true rfl, Nat.le_of_ble_eq_true rfl⟩, rfl, rfl⟩ cw_X10_270 rfl ⟨Nat.le_of_ble_eq_true rfl, Nat.le_of_ble_eq_true rfl⟩ hl.1 rfl (Nat.le_of_ble_eq_true rfl) dX10_cutOne_154 ⟨Nat.le_of_ble_eq_true rfl, Nat.le_of_ble_eq_true rfl⟩ (fun ir12 Fr12 Gr12 _ locs hp hH hS => ?_)
            obtain ⟨honr12, hTK, hHD, ht19r12⟩ := hp
            have hTK : TKm ir12 Fr12 := hTK
            have hHD : HD ir12 Fr12 := hHD
            have ht19r12 : (ir12 78 19).toInt = Int32.toInt (i 78 19) + 1 := ht19r12
            have hCB : CB Fr12 := CB.ro (F := F) hCB honr12 (by decide)
            have hPI : PLI ir12 := PLI.ro (i := i) (F := F) hPI honr12 (by decide)
            have hi_78_17 : ir12 78 17 = nI 86 := (honr12.1 78 17 (Or.inr (by decide))).trans hi_78_17
            have ek_18r12 : Int32.toInt (ir12 78 18) = Int32.toInt (i 78 18) := congrArg Int32.toInt (honr12.1 78 18 (Or.inr (by decide)))
            refine lv_iload (pc := 157) C0.1 C0.2.1 dX10_cutOne_157 (lv_at hl 0 rfl) ?_
            exact xiret (pc := 159) C0 hr hH hS dX10_cutOne_159 ⟨(RO.tr RO.rf honr12 (by decide) (by decide)), hTK, hHD, hPI, Or.inr ⟨⟨by omega, by omega⟩, (show 1 ≤ Int32.toInt (ir12 78 19) from by omega)⟩, (show Int32.toInt (ir12 78 19) ≤ _ from by omega)⟩
        · have : Int32.toInt 9 = 9 := rfl
          have c9 : ¬ _ := fun q => c9 (Int32.le_iff_toInt_le.mpr q)
          refine lv_aload_n (pc := 128) C0.1 C0.2.1 dX10_cutOne_128 rfl (lv_at hl 3 rfl) ?_
          refine lv_iconst (pc := 129) (v := 1) C0.1 C0.2.1 dX10_cutOne_129 (by decide) ?_
          refine lv_iload_n (pc := 130) C0.1 C0.2.1 dX10_cutOne_130 rfl (lv_at hl 4 rfl) ?_
          refine xcVI (pc := 131) 78 [.int 1, .int x] (m_fail l D tA b i F G 1 x) C0 hH hS clX10 rfl ⟨⟨Nat.le_of_ble_eq_true rfl, Nat.le_of_ble_eq_true rfl⟩, rfl, rfl⟩ cw_X10_254 rfl ⟨Nat.le_of_ble_eq_true rfl, Nat.le_of_ble_eq_true rfl⟩ hl.1 rfl (Nat.le_of_ble_eq_true rfl) dX10_cutOne_131 ⟨Nat.le_of_ble_eq_true rfl, Nat.le_of_ble_eq_true rfl⟩ (fun r13 ir13 Fr13 Gr13 _ locs hp hH hS => ?_)
          obtain ⟨hu, rfl⟩ := hp
          cases hu
          have hH : Hd D tA b 78 52 zz (up2 (up2 i 78 30 1) 78 31 x) F G _ := hH
          refine lv_istore (pc := 134) (lv' := [(6, .int 0), (5, .int r6), (4, .int x4), (3, .int x1), (0, .ref (b + 78)), (1, .int x), (2, .int y)]) C0.1 C0.2.1 dX10_cutOne_134 hl (by decide) rfl (fun ls hl => ?_)
          refine lv_bipush (pc := 136) (v := (-9)) C0.1 C0.2.1 dX10_cutOne_136 (by decide) ?_
          exact xiret (pc := 138) C0 hr hH hS dX10_cutOne_138 ⟨(RO.i (RO.i RO.rf (by decide)) (by decide)), hTK, hHD, (Or.inr (show 0 ≤ Int32.toInt x ∧ Int32.toInt x ≤ 600 from by omega)), Or.inl ⟨rfl, (show 0 ≤ Int32.toInt x ∧ Int32.toInt x ≤ 600 from by omega)⟩, (show Int32.toInt (i 78 19) ≤ _ from by omega)⟩
      · have : Int32.toInt 0 = 0 := rfl
        have c8 : ¬ _ := fun q => c8 (Int32.toInt_inj.mp q)
        refine lv_bipush (pc := 118) (v := 8) C0.1 C0.2.1 dX10_cutOne_118 (by decide) ?_
        refine lv_goto (pc := 120) (tgt := 125) C0.1 C0.2.1 dX10_cutOne_120 (by decide) ?_
        refine lv_icmp_le (pc := 125) (tgt := 139) C0.1 C0.2.1 dX10_cutOne_125 (by decide) (fun c14 => ?_) (fun c14 => ?_)
        · have : Int32.toInt 8 = 8 := rfl
          have c14 := Int32.le_iff_toInt_le.mp c14
          refine lv_aload_n (pc := 139) C0.1 C0.2.1 dX10_cutOne_139 rfl (lv_at hl 3 rfl) ?_
          refine lv_iload (pc := 140) C0.1 C0.2.1 dX10_cutOne_140 (lv_at hl 1 rfl) ?_
          refine lv_if_eq (pc := 142) (tgt := 149) C0.1 C0.2.1 dX10_cutOne_142 (by decide) (fun c15 => ?_) (fun c15 => ?_)
          · have : Int32.toInt 0 = 0 := rfl
            have c15 := congrArg Int32.toInt c15
            refine lv_iconst (pc := 149) (v := 1) C0.1 C0.2.1 dX10_cutOne_149 (by decide) ?_
            refine lv_iload_n (pc := 150) C0.1 C0.2.1 dX10_cutOne_150 rfl (lv_at hl 4 rfl) ?_
            refine lv_iload (pc := 151) C0.1 C0.2.1 dX10_cutOne_151 (lv_at hl 0 rfl) ?_
            refine lv_iload_n (pc := 153) C0.1 C0.2.1 dX10_cutOne_153 rfl (lv_at hl 5 rfl) ?_
            refine xcVV (pc := 154) 78 [.int 1, .int x, .int r6, .int y] (m_add_86 l D tA b i F G 1 x r6 y hi_78_17 hTK hHD hCB (show Int32.toInt (i 78 19) < 600 from by omega) (show 0 ≤ Int32.toInt x ∧ Int32.toInt x + 1 ≤ Int32.toInt r6 ∧ Int32.toInt r6 ≤ 600 from by omega) hy01 (fun q => hfr (by have q : Int32.toInt (i 78 19) = 0 := q; omega))) C0 hH hS clX10 rfl ⟨⟨Nat.le_of_ble_eq_true rfl, Nat.le_of_ble_eq_true rfl⟩, rfl, rfl⟩ cw_X10_270 rfl ⟨Nat.le_of_ble_eq_true rfl, Nat.le_of_ble_eq_true rfl⟩ hl.1 rfl (Nat.le_of_ble_eq_true rfl) dX10_cutOne_154 ⟨Nat.le_of_ble_eq_true rfl, Nat.le_of_ble_eq_true rfl⟩ (fun ir16 Fr16 Gr16 _ locs hp hH hS => ?_)
            obtain ⟨honr16, hTK, hHD, ht19r16⟩ := hp
            have hTK : TKm ir16 Fr16 := hTK
            have hHD : HD ir16 Fr16 := hHD
            have ht19r16 : (ir16 78 19).toInt = Int32.toInt (i 78 19) + 1 := ht19r16
            have hCB : CB Fr16 := CB.ro (F := F) hCB honr16 (by decide)
            have hPI : PLI ir16 := PLI.ro (i := i) (F := F) hPI honr16 (by decide)
            have hi_78_17 : ir16 78 17 = nI 86 := (honr16.1 78 17 (Or.inr (by decide))).trans hi_78_17
            have ek_18r16 : Int32.toInt (ir16 78 18) = Int32.toInt (i 78 18) := congrArg Int32.toInt (honr16.1 78 18 (Or.inr (by decide)))
            refine lv_iload (pc := 157) C0.1 C0.2.1 dX10_cutOne_157 (lv_at hl 0 rfl) ?_
            exact xiret (pc := 159) C0 hr hH hS dX10_cutOne_159 ⟨(RO.tr RO.rf honr16 (by decide) (by decide)), hTK, hHD, hPI, Or.inr ⟨⟨by omega, by omega⟩, (show 1 ≤ Int32.toInt (ir16 78 19) from by omega)⟩, (show Int32.toInt (ir16 78 19) ≤ _ from by omega)⟩
          · have : Int32.toInt 0 = 0 := rfl
            have c15 : ¬ _ := fun q => c15 (Int32.toInt_inj.mp q)
            refine lv_iconst (pc := 145) (v := 0) C0.1 C0.2.1 dX10_cutOne_145 (by decide) ?_
            refine lv_goto (pc := 146) (tgt := 150) C0.1 C0.2.1 dX10_cutOne_146 (by decide) ?_
            refine lv_iload_n (pc := 150) C0.1 C0.2.1 dX10_cutOne_150 rfl (lv_at hl 4 rfl) ?_
            refine lv_iload (pc := 151) C0.1 C0.2.1 dX10_cutOne_151 (lv_at hl 0 rfl) ?_
            refine lv_iload_n (pc := 153) C0.1 C0.2.1 dX10_cutOne_153 rfl (lv_at hl 5 rfl) ?_
            refine xcVV (pc := 154) 78 [.int 0, .int x, .int r6, .int y] (m_add_86 l D tA b i F G 0 x r6 y hi_78_17 hTK hHD hCB (show Int32.toInt (i 78 19) < 600 from by omega) (show 0 ≤ Int32.toInt x ∧ Int32.toInt x + 1 ≤ Int32.toInt r6 ∧ Int32.toInt r6 ≤ 600 from by omega) hy01 (fun q => hfr (by have q : Int32.toInt (i 78 19) = 0 := q; omega))) C0 hH hS clX10 rfl ⟨⟨Nat.le_of_ble_eq_true rfl, Nat.le_of_ble_eq_true rfl⟩, rfl, rfl⟩ cw_X10_270 rfl ⟨Nat.le_of_ble_eq_true rfl, Nat.le_of_ble_eq_true rfl⟩ hl.1 rfl (Nat.le_of_ble_eq_true rfl) dX10_cutOne_154 ⟨Nat.le_of_ble_eq_true rfl, Nat.le_of_ble_eq_true rfl⟩ (fun ir17 Fr17 Gr17 _ locs hp hH hS => ?_)
            obtain ⟨honr17, hTK, hHD, ht19r17⟩ := hp
            have hTK : TKm ir17 Fr17 := hTK
            have hHD : HD ir17 Fr17 := hHD
            have ht19r17 : (ir17 78 19).toInt = Int32.toInt (i 78 19) + 1 := ht19r17
            have hCB : CB Fr17 := CB.ro (F := F) hCB honr17 (by decide)
            have hPI : PLI ir17 := PLI.ro (i := i) (F := F) hPI honr17 (by decide)
            have hi_78_17 : ir17 78 17 = nI 86 := (honr17.1 78 17 (Or.inr (by decide))).trans hi_78_17
            have ek_18r17 : Int32.toInt (ir17 78 18) = Int32.toInt (i 78 18) := congrArg Int32.toInt (honr17.1 78 18 (Or.inr (by decide)))
            refine lv_iload (pc := 157) C0.1 C0.2.1 dX10_cutOne_157 (lv_at hl 0 rfl) ?_
            exact xiret (pc := 159) C0 hr hH hS dX10_cutOne_159 ⟨(RO.tr RO.rf honr17 (by decide) (by decide)), hTK, hHD, hPI, Or.inr ⟨⟨by omega, by omega⟩, (show 1 ≤ Int32.toInt (ir17 78 19) from by omega)⟩, (show Int32.toInt (ir17 78 19) ≤ _ from by omega)⟩
        · have : Int32.toInt 8 = 8 := rfl
          have c14 : ¬ _ := fun q => c14 (Int32.le_iff_toInt_le.mpr q)
          refine lv_aload_n (pc := 128) C0.1 C0.2.1 dX10_cutOne_128 rfl (lv_at hl 3 rfl) ?_
          refine lv_iconst (pc := 129) (v := 1) C0.1 C0.2.1 dX10_cutOne_129 (by decide) ?_
          refine lv_iload_n (pc := 130) C0.1 C0.2.1 dX10_cutOne_130 rfl (lv_at hl 4 rfl) ?_
          refine xcVI (pc := 131) 78 [.int 1, .int x] (m_fail l D tA b i F G 1 x) C0 hH hS clX10 rfl ⟨⟨Nat.le_of_ble_eq_true rfl, Nat.le_of_ble_eq_true rfl⟩, rfl, rfl⟩ cw_X10_254 rfl ⟨Nat.le_of_ble_eq_true rfl, Nat.le_of_ble_eq_true rfl⟩ hl.1 rfl (Nat.le_of_ble_eq_true rfl) dX10_cutOne_131 ⟨Nat.le_of_ble_eq_true rfl, Nat.le_of_ble_eq_true rfl⟩ (fun r18 ir18 Fr18 Gr18 _ locs hp hH hS => ?_)
          obtain ⟨hu, rfl⟩ := hp
          cases hu
          have hH : Hd D tA b 78 52 zz (up2 (up2 i 78 30 1) 78 31 x) F G _ := hH
          refine lv_istore (pc := 134) (lv' := [(6, .int 0), (5, .int r6), (4, .int x4), (3, .int x1), (0, .ref (b + 78)), (1, .int x), (2, .int y)]) C0.1 C0.2.1 dX10_cutOne_134 hl (by decide) rfl (fun ls hl => ?_)
          refine lv_bipush (pc := 136) (v := (-9)) C0.1 C0.2.1 dX10_cutOne_136 (by decide) ?_
          exact xiret (pc := 138) C0 hr hH hS dX10_cutOne_138 ⟨(RO.i (RO.i RO.rf (by decide)) (by decide)), hTK, hHD, (Or.inr (show 0 ≤ Int32.toInt x ∧ Int32.toInt x ≤ 600 from by omega)), Or.inl ⟨rfl, (show 0 ≤ Int32.toInt x ∧ Int32.toInt x ≤ 600 from by omega)⟩, (show Int32.toInt (i 78 19) ≤ _ from by omega)⟩
    · have : Int32.toInt 0 = 0 := rfl
      have c5 := congrArg Int32.toInt c5
      refine lv_iload_n (pc := 93) C0.1 C0.2.1 dX10_cutOne_93 rfl (lv_at hl 1 rfl) ?_
      refine xcSI (pc := 94) [.int x1] (m_isDigit l D tA b i F G x1) C0 hH hS cw_X10_261 rfl ⟨Nat.le_of_ble_eq_true rfl, Nat.le_of_ble_eq_true rfl⟩ hl.1 rfl (Nat.le_of_ble_eq_true rfl) dX10_cutOne_94 ⟨Nat.le_of_ble_eq_true rfl, Nat.le_of_ble_eq_true rfl⟩ (fun r19 ir19 Fr19 Gr19 _ locs hp hH hS => ?_)
      obtain ⟨hu, rfl⟩ := hp
      cases hu
      refine lv_if_eq (pc := 97) (tgt := 160) C0.1 C0.2.1 dX10_cutOne_97 (by decide) (fun c20 => ?_) (fun c20 => ?_)
      · have : Int32.toInt 0 = 0 := rfl
        have c20 := congrArg Int32.toInt c20
        refine lv_iload_n (pc := 160) C0.1 C0.2.1 dX10_cutOne_160 rfl (lv_at hl 1 rfl) ?_
        refine xcSI (pc := 161) [.int x1] (m_isMark l D tA b i F G x1 ) C0 hH hS cw_X10_179 rfl ⟨Nat.le_of_ble_eq_true rfl, Nat.le_of_ble_eq_true rfl⟩ hl.1 rfl (Nat.le_of_ble_eq_true rfl) dX10_cutOne_161 ⟨Nat.le_of_ble_eq_true rfl, Nat.le_of_ble_eq_true rfl⟩ (fun r21 ir21 Fr21 Gr21 _ locs hp hH hS => ?_)
        obtain ⟨hu, hpr21⟩ := hp
        cases hu
        refine lv_if_ne (pc := 164) (tgt := 178) C0.1 C0.2.1 dX10_cutOne_164 (by decide) (fun c22 => ?_) (fun c22 => ?_)
        · have : Int32.toInt 0 = 0 := rfl
          have c22 : ¬ _ := fun q => c22 (Int32.toInt_inj.mp q)
          refine lv_aload_n (pc := 178) C0.1 C0.2.1 dX10_cutOne_178 rfl (lv_at hl 2 rfl) ?_
          refine lv_iconst (pc := 179) (v := 2) C0.1 C0.2.1 dX10_cutOne_179 (by decide) ?_
          refine lv_iload_n (pc := 180) C0.1 C0.2.1 dX10_cutOne_180 rfl (lv_at hl 3 rfl) ?_
          refine lv_iload_n (pc := 181) C0.1 C0.2.1 dX10_cutOne_181 rfl (lv_at hl 3 rfl) ?_
          refine lv_iconst (pc := 182) (v := 1) C0.1 C0.2.1 dX10_cutOne_182 (by decide) ?_
          have : Int32.toInt 1 = 1 := rfl
          refine lv_iadd (pc := 183) C0.1 C0.2.1 dX10_cutOne_183 ?_
          refine lv_topi (fun x23 ex23 => ?_)
          have hx23 : Int32.toInt x23 = Int32.toInt x + Int32.toInt 1 := by rw [ex23]; exact fb_addI (by omega) (by omega)
          refine lv_iload_n (pc := 184) C0.1 C0.2.1 dX10_cutOne_184 rfl (lv_at hl 4 rfl) ?_
          refine xcVV (pc := 185) 78 [.int 2, .int x, .int x23, .int y] (m_add_86 l D tA b i F G 2 x x23 y hi_78_17 hTK hHD hCB (show Int32.toInt (i 78 19) < 600 from by omega) (show 0 ≤ Int32.toInt x ∧ Int32.toInt x + 1 ≤ Int32.toInt x23 ∧ Int32.toInt x23 ≤ 600 from by omega) hy01 (fun q => hfr (by have q : Int32.toInt (i 78 19) = 0 := q; omega))) C0 hH hS clX10 rfl ⟨⟨Nat.le_of_ble_eq_true rfl, Nat.le_of_ble_eq_true rfl⟩, rfl, rfl⟩ cw_X10_270 rfl ⟨Nat.le_of_ble_eq_true rfl, Nat.le_of_ble_eq_true rfl⟩ hl.1 rfl (Nat.le_of_ble_eq_true rfl) dX10_cutOne_185 ⟨Nat.le_of_ble_eq_true rfl, Nat.le_of_ble_eq_true rfl⟩ (fun ir24 Fr24 Gr24 _ locs hp hH hS => ?_)
          obtain ⟨honr24, hTK, hHD, ht19r24⟩ := hp
          have hTK : TKm ir24 Fr24 := hTK
          have hHD : HD ir24 Fr24 := hHD
          have ht19r24 : (ir24 78 19).toInt = Int32.toInt (i 78 19) + 1 := ht19r24
          have hCB : CB Fr24 := CB.ro (F := F) hCB honr24 (by decide)
          have hPI : PLI ir24 := PLI.ro (i := i) (F := F) hPI honr24 (by decide)
          have hi_78_17 : ir24 78 17 = nI 86 := (honr24.1 78 17 (Or.inr (by decide))).trans hi_78_17
          have ek_18r24 : Int32.toInt (ir24 78 18) = Int32.toInt (i 78 18) := congrArg Int32.toInt (honr24.1 78 18 (Or.inr (by decide)))
          refine lv_iload_n (pc := 188) C0.1 C0.2.1 dX10_cutOne_188 rfl (lv_at hl 3 rfl) ?_
          refine lv_iconst (pc := 189) (v := 1) C0.1 C0.2.1 dX10_cutOne_189 (by decide) ?_
          have : Int32.toInt 1 = 1 := rfl
          refine lv_iadd (pc := 190) C0.1 C0.2.1 dX10_cutOne_190 ?_
          refine lv_topi (fun x25 ex25 => ?_)
          have hx25 : Int32.toInt x25 = Int32.toInt x + Int32.toInt 1 := by rw [ex25]; exact fb_addI (by omega) (by omega)
          exact xiret (pc := 191) C0 hr hH hS dX10_cutOne_191 ⟨(RO.tr RO.rf honr24 (by decide) (by decide)), hTK, hHD, hPI, Or.inr ⟨⟨by omega, by omega⟩, (show 1 ≤ Int32.toInt (ir24 78 19) from by omega)⟩, (show Int32.toInt (ir24 78 19) ≤ _ from by omega)⟩
        · have : Int32.toInt 0 = 0 := rfl
          have c22 := congrArg Int32.toInt c22
          refine lv_aload_n (pc := 167) C0.1 C0.2.1 dX10_cutOne_167 rfl (lv_at hl 2 rfl) ?_
          refine lv_iconst (pc := 168) (v := 1) C0.1 C0.2.1 dX10_cutOne_168 (by decide) ?_
          refine lv_iload_n (pc := 169) C0.1 C0.2.1 dX10_cutOne_169 rfl (lv_at hl 3 rfl) ?_
          refine xcVI (pc := 170) 78 [.int 1, .int x] (m_fail l D tA b i F G 1 x) C0 hH hS clX10 rfl ⟨⟨Nat.le_of_ble_eq_true rfl, Nat.le_of_ble_eq_true rfl⟩, rfl, rfl⟩ cw_X10_254 rfl ⟨Nat.le_of_ble_eq_true rfl, Nat.le_of_ble_eq_true rfl⟩ hl.1 rfl (Nat.le_of_ble_eq_true rfl) dX10_cutOne_170 ⟨Nat.le_of_ble_eq_true rfl, Nat.le_of_ble_eq_true rfl⟩ (fun r26 ir26 Fr26 Gr26 _ locs hp hH hS => ?_)
          obtain ⟨hu, rfl⟩ := hp
          cases hu
          have hH : Hd D tA b 78 52 zz (up2 (up2 i 78 30 1) 78 31 x) F G _ := hH
          refine lv_istore (pc := 173) (lv' := [(5, .int 0), (4, .int x4), (3, .int x1), (0, .ref (b + 78)), (1, .int x), (2, .int y)]) C0.1 C0.2.1 dX10_cutOne_173 hl (by decide) rfl (fun ls hl => ?_)
          refine lv_bipush (pc := 175) (v := (-9)) C0.1 C0.2.1 dX10_cutOne_175 (by decide) ?_
          exact xiret (pc := 177) C0 hr hH hS dX10_cutOne_177 ⟨(RO.i (RO.i RO.rf (by decide)) (by decide)), hTK, hHD, (Or.inr (show 0 ≤ Int32.toInt x ∧ Int32.toInt x ≤ 600 from by omega)), Or.inl ⟨rfl, (show 0 ≤ Int32.toInt x ∧ Int32.toInt x ≤ 600 from by omega)⟩, (show Int32.toInt (i 78 19) ≤ _ from by omega)⟩
      · have : Int32.toInt 0 = 0 := rfl
        have c20 : ¬ _ := fun q => c20 (Int32.toInt_inj.mp q)
        have hbh : (¬ x4 = 0 → ¬ lt_ (F 86 (Int32.toNatClampNeg x)) = 0) ∧ (x4 = 0 → ¬ dg (F 86 (Int32.toNatClampNeg x)) = 0) := ⟨fun q => absurd (Int32.toInt_inj.mp (by assumption)) q, fun _ => by rw [← ex1]; first | assumption | exact fun w => absurd (congrArg Int32.toInt w) (by assumption)⟩
        refine lv_aload_n (pc := 100) C0.1 C0.2.1 dX10_cutOne_100 rfl (lv_at hl 2 rfl) ?_
        refine lv_iload_n (pc := 101) C0.1 C0.2.1 dX10_cutOne_101 rfl (lv_at hl 3 rfl) ?_
        refine lv_iload (pc := 102) C0.1 C0.2.1 dX10_cutOne_102 (lv_at hl 0 rfl) ?_
        refine xcVI (pc := 104) 78 [.int x, .int x4] (m_behind_86 l D tA b i F G x x4 hi_78_17 (show 0 ≤ Int32.toInt (i 78 18) ∧ Int32.toInt (i 78 18) ≤ 600 from by omega) (by omega) hbh (by omega)) C0 hH hS clX10 rfl ⟨⟨Nat.le_of_ble_eq_true rfl, Nat.le_of_ble_eq_true rfl⟩, rfl, rfl⟩ cw_X10_274 rfl ⟨Nat.le_of_ble_eq_true rfl, Nat.le_of_ble_eq_true rfl⟩ hl.1 rfl (Nat.le_of_ble_eq_true rfl) dX10_cutOne_104 ⟨Nat.le_of_ble_eq_true rfl, Nat.le_of_ble_eq_true rfl⟩ (fun r27 ir27 Fr27 Gr27 _ locs hp hH hS => ?_)
        obtain ⟨hu, hpr27⟩ := hp
        cases hu
        refine lv_istore (pc := 107) (lv' := [(5, .int r27), (4, .int x4), (3, .int x1), (0, .ref (b + 78)), (1, .int x), (2, .int y)]) C0.1 C0.2.1 dX10_cutOne_107 hl (by decide) rfl (fun ls hl => ?_)
        refine lv_iload (pc := 109) C0.1 C0.2.1 dX10_cutOne_109 (lv_at hl 0 rfl) ?_
        refine lv_iload_n (pc := 111) C0.1 C0.2.1 dX10_cutOne_111 rfl (lv_at hl 4 rfl) ?_
        refine lv_isub (pc := 112) C0.1 C0.2.1 dX10_cutOne_112 ?_
        refine lv_topi (fun x28 ex28 => ?_)
        have hx28 : Int32.toInt x28 = Int32.toInt r27 - Int32.toInt x := by rw [ex28]; exact fb_subI (by omega) (by omega)
        refine lv_iload (pc := 113) C0.1 C0.2.1 dX10_cutOne_113 (lv_at hl 1 rfl) ?_
        refine lv_if_eq (pc := 115) (tgt := 123) C0.1 C0.2.1 dX10_cutOne_115 (by decide) (fun c29 => ?_) (fun c29 => ?_)
        · have : Int32.toInt 0 = 0 := rfl
          have c29 := congrArg Int32.toInt c29
          refine lv_bipush (pc := 123) (v := 9) C0.1 C0.2.1 dX10_cutOne_123 (by decide) ?_
          refine lv_icmp_le (pc := 125) (tgt := 139) C0.1 C0.2.1 dX10_cutOne_125 (by decide) (fun c30 => ?_) (fun c30 => ?_)
          · have : Int32.toInt 9 = 9 := rfl
            have c30 := Int32.le_iff_toInt_le.mp c30
            refine lv_aload_n (pc := 139) C0.1 C0.2.1 dX10_cutOne_139 rfl (lv_at hl 3 rfl) ?_
            refine lv_iload (pc := 140) C0.1 C0.2.1 dX10_cutOne_140 (lv_at hl 1 rfl) ?_
            refine lv_if_eq (pc := 142) (tgt := 149) C0.1 C0.2.1 dX10_cutOne_142 (by decide) (fun c31 => ?_) (fun c31 => ?_)
            · have : Int32.toInt 0 = 0 := rfl
              have c31 := congrArg Int32.toInt c31
              refine lv_iconst (pc := 149) (v := 1) C0.1 C0.2.1 dX10_cutOne_149 (by decide) ?_
              refine lv_iload_n (pc := 150) C0.1 C0.2.1 dX10_cutOne_150 rfl (lv_at hl 4 rfl) ?_
              refine lv_iload (pc := 151) C0.1 C0.2.1 dX10_cutOne_151 (lv_at hl 0 rfl) ?_
              refine lv_iload_n (pc := 153) C0.1 C0.2.1 dX10_cutOne_153 rfl (lv_at hl 5 rfl) ?_
              refine xcVV (pc := 154) 78 [.int 1, .int x, .int r27, .int y] (m_add_86 l D tA b i F G 1 x r27 y hi_78_17 hTK hHD hCB (show Int32.toInt (i 78 19) < 600 from by omega) (show 0 ≤ Int32.toInt x ∧ Int32.toInt x + 1 ≤ Int32.toInt r27 ∧ Int32.toInt r27 ≤ 600 from by omega) hy01 (fun q => hfr (by have q : Int32.toInt (i 78 19) = 0 := q; omega))) C0 hH hS clX10 rfl ⟨⟨Nat.le_of_ble_eq_true rfl, Nat.le_of_ble_eq_true rfl⟩, rfl, rfl⟩ cw_X10_270 rfl ⟨Nat.le_of_ble_eq_true rfl, Nat.le_of_ble_eq_true rfl⟩ hl.1 rfl (Nat.le_of_ble_eq_true rfl) dX10_cutOne_154 ⟨Nat.le_of_ble_eq_true rfl, Nat.le_of_ble_eq_true rfl⟩ (fun ir32 Fr32 Gr32 _ locs hp hH hS => ?_)
              obtain ⟨honr32, hTK, hHD, ht19r32⟩ := hp
              have hTK : TKm ir32 Fr32 := hTK
              have hHD : HD ir32 Fr32 := hHD
              have ht19r32 : (ir32 78 19).toInt = Int32.toInt (i 78 19) + 1 := ht19r32
              have hCB : CB Fr32 := CB.ro (F := F) hCB honr32 (by decide)
              have hPI : PLI ir32 := PLI.ro (i := i) (F := F) hPI honr32 (by decide)
              have hi_78_17 : ir32 78 17 = nI 86 := (honr32.1 78 17 (Or.inr (by decide))).trans hi_78_17
              have ek_18r32 : Int32.toInt (ir32 78 18) = Int32.toInt (i 78 18) := congrArg Int32.toInt (honr32.1 78 18 (Or.inr (by decide)))
              refine lv_iload (pc := 157) C0.1 C0.2.1 dX10_cutOne_157 (lv_at hl 0 rfl) ?_
              exact xiret (pc := 159) C0 hr hH hS dX10_cutOne_159 ⟨(RO.tr RO.rf honr32 (by decide) (by decide)), hTK, hHD, hPI, Or.inr ⟨⟨by omega, by omega⟩, (show 1 ≤ Int32.toInt (ir32 78 19) from by omega)⟩, (show Int32.toInt (ir32 78 19) ≤ _ from by omega)⟩
            · have : Int32.toInt 0 = 0 := rfl
              have c31 : ¬ _ := fun q => c31 (Int32.toInt_inj.mp q)
              refine lv_iconst (pc := 145) (v := 0) C0.1 C0.2.1 dX10_cutOne_145 (by decide) ?_
              refine lv_goto (pc := 146) (tgt := 150) C0.1 C0.2.1 dX10_cutOne_146 (by decide) ?_
              refine lv_iload_n (pc := 150) C0.1 C0.2.1 dX10_cutOne_150 rfl (lv_at hl 4 rfl) ?_
              refine lv_iload (pc := 151) C0.1 C0.2.1 dX10_cutOne_151 (lv_at hl 0 rfl) ?_
              refine lv_iload_n (pc := 153) C0.1 C0.2.1 dX10_cutOne_153 rfl (lv_at hl 5 rfl) ?_
              refine xcVV (pc := 154) 78 [.int 0, .int x, .int r27, .int y] (m_add_86 l D tA b i F G 0 x r27 y hi_78_17 hTK hHD hCB (show Int32.toInt (i 78 19) < 600 from by omega) (show 0 ≤ Int32.toInt x ∧ Int32.toInt x + 1 ≤ Int32.toInt r27 ∧ Int32.toInt r27 ≤ 600 from by omega) hy01 (fun q => hfr (by have q : Int32.toInt (i 78 19) = 0 := q; omega))) C0 hH hS clX10 rfl ⟨⟨Nat.le_of_ble_eq_true rfl, Nat.le_of_ble_eq_true rfl⟩, rfl, rfl⟩ cw_X10_270 rfl ⟨Nat.le_of_ble_eq_true rfl, Nat.le_of_ble_eq_true rfl⟩ hl.1 rfl (Nat.le_of_ble_eq_true rfl) dX10_cutOne_154 ⟨Nat.le_of_ble_eq_true rfl, Nat.le_of_ble_eq_true rfl⟩ (fun ir33 Fr33 Gr33 _ locs hp hH hS => ?_)
              obtain ⟨honr33, hTK, hHD, ht19r33⟩ := hp
              have hTK : TKm ir33 Fr33 := hTK
              have hHD : HD ir33 Fr33 := hHD
              have ht19r33 : (ir33 78 19).toInt = Int32.toInt (i 78 19) + 1 := ht19r33
              have hCB : CB Fr33 := CB.ro (F := F) hCB honr33 (by decide)
              have hPI : PLI ir33 := PLI.ro (i := i) (F := F) hPI honr33 (by decide)
              have hi_78_17 : ir33 78 17 = nI 86 := (honr33.1 78 17 (Or.inr (by decide))).trans hi_78_17
              have ek_18r33 : Int32.toInt (ir33 78 18) = Int32.toInt (i 78 18) := congrArg Int32.toInt (honr33.1 78 18 (Or.inr (by decide)))
              refine lv_iload (pc := 157) C0.1 C0.2.1 dX10_cutOne_157 (lv_at hl 0 rfl) ?_
              exact xiret (pc := 159) C0 hr hH hS dX10_cutOne_159 ⟨(RO.tr RO.rf honr33 (by decide) (by decide)), hTK, hHD, hPI, Or.inr ⟨⟨by omega, by omega⟩, (show 1 ≤ Int32.toInt (ir33 78 19) from by omega)⟩, (show Int32.toInt (ir33 78 19) ≤ _ from by omega)⟩
          · have : Int32.toInt 9 = 9 := rfl
            have c30 : ¬ _ := fun q => c30 (Int32.le_iff_toInt_le.mpr q)
            refine lv_aload_n (pc := 128) C0.1 C0.2.1 dX10_cutOne_128 rfl (lv_at hl 3 rfl) ?_
            refine lv_iconst (pc := 129) (v := 1) C0.1 C0.2.1 dX10_cutOne_129 (by decide) ?_
            refine lv_iload_n (pc := 130) C0.1 C0.2.1 dX10_cutOne_130 rfl (lv_at hl 4 rfl) ?_
            refine xcVI (pc := 131) 78 [.int 1, .int x] (m_fail l D tA b i F G 1 x) C0 hH hS clX10 rfl ⟨⟨Nat.le_of_ble_eq_true rfl, Nat.le_of_ble_eq_true rfl⟩, rfl, rfl⟩ cw_X10_254 rfl ⟨Nat.le_of_ble_eq_true rfl, Nat.le_of_ble_eq_true rfl⟩ hl.1 rfl (Nat.le_of_ble_eq_true rfl) dX10_cutOne_131 ⟨Nat.le_of_ble_eq_true rfl, Nat.le_of_ble_eq_true rfl⟩ (fun r34 ir34 Fr34 Gr34 _ locs hp hH hS => ?_)
            obtain ⟨hu, rfl⟩ := hp
            cases hu
            have hH : Hd D tA b 78 52 zz (up2 (up2 i 78 30 1) 78 31 x) F G _ := hH
            refine lv_istore (pc := 134) (lv' := [(6, .int 0), (5, .int r27), (4, .int x4), (3, .int x1), (0, .ref (b + 78)), (1, .int x), (2, .int y)]) C0.1 C0.2.1 dX10_cutOne_134 hl (by decide) rfl (fun ls hl => ?_)
            refine lv_bipush (pc := 136) (v := (-9)) C0.1 C0.2.1 dX10_cutOne_136 (by decide) ?_
            exact xiret (pc := 138) C0 hr hH hS dX10_cutOne_138 ⟨(RO.i (RO.i RO.rf (by decide)) (by decide)), hTK, hHD, (Or.inr (show 0 ≤ Int32.toInt x ∧ Int32.toInt x ≤ 600 from by omega)), Or.inl ⟨rfl, (show 0 ≤ Int32.toInt x ∧ Int32.toInt x ≤ 600 from by omega)⟩, (show Int32.toInt (i 78 19) ≤ _ from by omega)⟩
        · have : Int32.toInt 0 = 0 := rfl
          have c29 : ¬ _ := fun q => c29 (Int32.toInt_inj.mp q)
          refine lv_bipush (pc := 118) (v := 8) C0.1 C0.2.1 dX10_cutOne_118 (by decide) ?_
          refine lv_goto (pc := 120) (tgt := 125) C0.1 C0.2.1 dX10_cutOne_120 (by decide) ?_
          refine lv_icmp_le (pc := 125) (tgt := 139) C0.1 C0.2.1 dX10_cutOne_125 (by decide) (fun c35 => ?_) (fun c35 => ?_)
          · have : Int32.toInt 8 = 8 := rfl
            have c35 := Int32.le_iff_toInt_le.mp c35
            refine lv_aload_n (pc := 139) C0.1 C0.2.1 dX10_cutOne_139 rfl (lv_at hl 3 rfl) ?_
            refine lv_iload (pc := 140) C0.1 C0.2.1 dX10_cutOne_140 (lv_at hl 1 rfl) ?_
            refine lv_if_eq (pc := 142) (tgt := 149) C0.1 C0.2.1 dX10_cutOne_142 (by decide) (fun c36 => ?_) (fun c36 => ?_)
            · have : Int32.toInt 0 = 0 := rfl
              have c36 := congrArg Int32.toInt c36
              refine lv_iconst (pc := 149) (v := 1) C0.1 C0.2.1 dX10_cutOne_149 (by decide) ?_
              refine lv_iload_n (pc := 150) C0.1 C0.2.1 dX10_cutOne_150 rfl (lv_at hl 4 rfl) ?_
              refine lv_iload (pc := 151) C0.1 C0.2.1 dX10_cutOne_151 (lv_at hl 0 rfl) ?_
              refine lv_iload_n (pc := 153) C0.1 C0.2.1 dX10_cutOne_153 rfl (lv_at hl 5 rfl) ?_
              refine xcVV (pc := 154) 78 [.int 1, .int x, .int r27, .int y] (m_add_86 l D tA b i F G 1 x r27 y hi_78_17 hTK hHD hCB (show Int32.toInt (i 78 19) < 600 from by omega) (show 0 ≤ Int32.toInt x ∧ Int32.toInt x + 1 ≤ Int32.toInt r27 ∧ Int32.toInt r27 ≤ 600 from by omega) hy01 (fun q => hfr (by have q : Int32.toInt (i 78 19) = 0 := q; omega))) C0 hH hS clX10 rfl ⟨⟨Nat.le_of_ble_eq_true rfl, Nat.le_of_ble_eq_true rfl⟩, rfl, rfl⟩ cw_X10_270 rfl ⟨Nat.le_of_ble_eq_true rfl, Nat.le_of_ble_eq_true rfl⟩ hl.1 rfl (Nat.le_of_ble_eq_true rfl) dX10_cutOne_154 ⟨Nat.le_of_ble_eq_true rfl, Nat.le_of_ble_eq_true rfl⟩ (fun ir37 Fr37 Gr37 _ locs hp hH hS => ?_)
              obtain ⟨honr37, hTK, hHD, ht19r37⟩ := hp
              have hTK : TKm ir37 Fr37 := hTK
              have hHD : HD ir37 Fr37 := hHD
              have ht19r37 : (ir37 78 19).toInt = Int32.toInt (i 78 19) + 1 := ht19r37
              have hCB : CB Fr37 := CB.ro (F := F) hCB honr37 (by decide)
              have hPI : PLI ir37 := PLI.ro (i := i) (F := F) hPI honr37 (by decide)
              have hi_78_17 : ir37 78 17 = nI 86 := (honr37.1 78 17 (Or.inr (by decide))).trans hi_78_17
              have ek_18r37 : Int32.toInt (ir37 78 18) = Int32.toInt (i 78 18) := congrArg Int32.toInt (honr37.1 78 18 (Or.inr (by decide)))
              refine lv_iload (pc := 157) C0.1 C0.2.1 dX10_cutOne_157 (lv_at hl 0 rfl) ?_
              exact xiret (pc := 159) C0 hr hH hS dX10_cutOne_159 ⟨(RO.tr RO.rf honr37 (by decide) (by decide)), hTK, hHD, hPI, Or.inr ⟨⟨by omega, by omega⟩, (show 1 ≤ Int32.toInt (ir37 78 19) from by omega)⟩, (show Int32.toInt (ir37 78 19) ≤ _ from by omega)⟩
            · have : Int32.toInt 0 = 0 := rfl
              have c36 : ¬ _ := fun q => c36 (Int32.toInt_inj.mp q)
              refine lv_iconst (pc := 145) (v := 0) C0.1 C0.2.1 dX10_cutOne_145 (by decide) ?_
              refine lv_goto (pc := 146) (tgt := 150) C0.1 C0.2.1 dX10_cutOne_146 (by decide) ?_
              refine lv_iload_n (pc := 150) C0.1 C0.2.1 dX10_cutOne_150 rfl (lv_at hl 4 rfl) ?_
              refine lv_iload (pc := 151) C0.1 C0.2.1 dX10_cutOne_151 (lv_at hl 0 rfl) ?_
              refine lv_iload_n (pc := 153) C0.1 C0.2.1 dX10_cutOne_153 rfl (lv_at hl 5 rfl) ?_
              refine xcVV (pc := 154) 78 [.int 0, .int x, .int r27, .int y] (m_add_86 l D tA b i F G 0 x r27 y hi_78_17 hTK hHD hCB (show Int32.toInt (i 78 19) < 600 from by omega) (show 0 ≤ Int32.toInt x ∧ Int32.toInt x + 1 ≤ Int32.toInt r27 ∧ Int32.toInt r27 ≤ 600 from by omega) hy01 (fun q => hfr (by have q : Int32.toInt (i 78 19) = 0 := q; omega))) C0 hH hS clX10 rfl ⟨⟨Nat.le_of_ble_eq_true rfl, Nat.le_of_ble_eq_true rfl⟩, rfl, rfl⟩ cw_X10_270 rfl ⟨Nat.le_of_ble_eq_true rfl, Nat.le_of_ble_eq_true rfl⟩ hl.1 rfl (Nat.le_of_ble_eq_true rfl) dX10_cutOne_154 ⟨Nat.le_of_ble_eq_true rfl, Nat.le_of_ble_eq_true rfl⟩ (fun ir38 Fr38 Gr38 _ locs hp hH hS => ?_)
              obtain ⟨honr38, hTK, hHD, ht19r38⟩ := hp
              have hTK : TKm ir38 Fr38 := hTK
              have hHD : HD ir38 Fr38 := hHD
              have ht19r38 : (ir38 78 19).toInt = Int32.toInt (i 78 19) + 1 := ht19r38
              have hCB : CB Fr38 := CB.ro (F := F) hCB honr38 (by decide)
              have hPI : PLI ir38 := PLI.ro (i := i) (F := F) hPI honr38 (by decide)
              have hi_78_17 : ir38 78 17 = nI 86 := (honr38.1 78 17 (Or.inr (by decide))).trans hi_78_17
              have ek_18r38 : Int32.toInt (ir38 78 18) = Int32.toInt (i 78 18) := congrArg Int32.toInt (honr38.1 78 18 (Or.inr (by decide)))
              refine lv_iload (pc := 157) C0.1 C0.2.1 dX10_cutOne_157 (lv_at hl 0 rfl) ?_
              exact xiret (pc := 159) C0 hr hH hS dX10_cutOne_159 ⟨(RO.tr RO.rf honr38 (by decide) (by decide)), hTK, hHD, hPI, Or.inr ⟨⟨by omega, by omega⟩, (show 1 ≤ Int32.toInt (ir38 78 19) from by omega)⟩, (show Int32.toInt (ir38 78 19) ≤ _ from by omega)⟩
          · have : Int32.toInt 8 = 8 := rfl
            have c35 : ¬ _ := fun q => c35 (Int32.le_iff_toInt_le.mpr q)
            refine lv_aload_n (pc := 128) C0.1 C0.2.1 dX10_cutOne_128 rfl (lv_at hl 3 rfl) ?_
            refine lv_iconst (pc := 129) (v := 1) C0.1 C0.2.1 dX10_cutOne_129 (by decide) ?_
            refine lv_iload_n (pc := 130) C0.1 C0.2.1 dX10_cutOne_130 rfl (lv_at hl 4 rfl) ?_
            refine xcVI (pc := 131) 78 [.int 1, .int x] (m_fail l D tA b i F G 1 x) C0 hH hS clX10 rfl ⟨⟨Nat.le_of_ble_eq_true rfl, Nat.le_of_ble_eq_true rfl⟩, rfl, rfl⟩ cw_X10_254 rfl ⟨Nat.le_of_ble_eq_true rfl, Nat.le_of_ble_eq_true rfl⟩ hl.1 rfl (Nat.le_of_ble_eq_true rfl) dX10_cutOne_131 ⟨Nat.le_of_ble_eq_true rfl, Nat.le_of_ble_eq_true rfl⟩ (fun r39 ir39 Fr39 Gr39 _ locs hp hH hS => ?_)
            obtain ⟨hu, rfl⟩ := hp
            cases hu
            have hH : Hd D tA b 78 52 zz (up2 (up2 i 78 30 1) 78 31 x) F G _ := hH
            refine lv_istore (pc := 134) (lv' := [(6, .int 0), (5, .int r27), (4, .int x4), (3, .int x1), (0, .ref (b + 78)), (1, .int x), (2, .int y)]) C0.1 C0.2.1 dX10_cutOne_134 hl (by decide) rfl (fun ls hl => ?_)
            refine lv_bipush (pc := 136) (v := (-9)) C0.1 C0.2.1 dX10_cutOne_136 (by decide) ?_
            exact xiret (pc := 138) C0 hr hH hS dX10_cutOne_138 ⟨(RO.i (RO.i RO.rf (by decide)) (by decide)), hTK, hHD, (Or.inr (show 0 ≤ Int32.toInt x ∧ Int32.toInt x ≤ 600 from by omega)), Or.inl ⟨rfl, (show 0 ≤ Int32.toInt x ∧ Int32.toInt x ≤ 600 from by omega)⟩, (show Int32.toInt (i 78 19) ≤ _ from by omega)⟩
  · have : Int32.toInt 39 = 39 := rfl
    have c2 := congrArg Int32.toInt c2
    refine lv_aload_n (pc := 13) C0.1 C0.2.1 dX10_cutOne_13 rfl (lv_at hl 1 rfl) ?_
    refine lv_iload_n (pc := 14) C0.1 C0.2.1 dX10_cutOne_14 rfl (lv_at hl 2 rfl) ?_
    refine lv_iconst (pc := 15) (v := 1) C0.1 C0.2.1 dX10_cutOne_15 (by decide) ?_
    have : Int32.toInt 1 = 1 := rfl
    refine lv_iadd (pc := 16) C0.1 C0.2.1 dX10_cutOne_16 ?_
    refine lv_topi (fun x40 ex40 => ?_)
    have hx40 : Int32.toInt x40 = Int32.toInt x + Int32.toInt 1 := by rw [ex40]; exact fb_addI (by omega) (by omega)
    refine lv_bipush (pc := 17) (v := 39) C0.1 C0.2.1 dX10_cutOne_17 (by decide) ?_
    refine xcVI (pc := 19) 78 [.int x40, .int 39] (m_next_86 l D tA b i F G x40 39 hi_78_17 (show 0 ≤ Int32.toInt (i 78 18) ∧ Int32.toInt (i 78 18) ≤ 600 from by omega) (show 0 ≤ Int32.toInt x40 ∧ Int32.toInt x40 ≤ Int32.toInt (i 78 18) from by omega)) C0 hH hS clX10 rfl ⟨⟨Nat.le_of_ble_eq_true rfl, Nat.le_of_ble_eq_true rfl⟩, rfl, rfl⟩ cw_X10_264 rfl ⟨Nat.le_of_ble_eq_true rfl, Nat.le_of_ble_eq_true rfl⟩ hl.1 rfl (Nat.le_of_ble_eq_true rfl) dX10_cutOne_19 ⟨Nat.le_of_ble_eq_true rfl, Nat.le_of_ble_eq_true rfl⟩ (fun r41 ir41 Fr41 Gr41 _ locs hp hH hS => ?_)
    obtain ⟨hu, hpr41⟩ := hp
    cases hu
    refine lv_istore (pc := 22) (lv' := [(4, .int r41), (3, .int x1), (0, .ref (b + 78)), (1, .int x), (2, .int y)]) C0.1 C0.2.1 dX10_cutOne_22 hl (by decide) rfl (fun ls hl => ?_)
    refine lv_iload (pc := 24) C0.1 C0.2.1 dX10_cutOne_24 (lv_at hl 0 rfl) ?_
    refine lv_aload_n (pc := 26) C0.1 C0.2.1 dX10_cutOne_26 rfl (lv_at hl 2 rfl) ?_
    refine xget (pc := 27) C0 hH 78 18 clX10 ⟨Nat.le_of_ble_eq_true rfl, Nat.le_of_ble_eq_true rfl⟩ ⟨rfl, rfl⟩ (Nat.le_of_ble_eq_true rfl) fl_X10_251 (v := .int (i 78 18)) rfl dX10_cutOne_27 ?_
    refine lv_icmp_ge (pc := 30) (tgt := 43) C0.1 C0.2.1 dX10_cutOne_30 (by decide) (fun c42 => ?_) (fun c42 => ?_)
    · have c42 := Int32.le_iff_toInt_le.mp c42
      refine lv_aload_n (pc := 43) C0.1 C0.2.1 dX10_cutOne_43 rfl (lv_at hl 2 rfl) ?_
      refine lv_iconst (pc := 44) (v := 1) C0.1 C0.2.1 dX10_cutOne_44 (by decide) ?_
      refine lv_iload_n (pc := 45) C0.1 C0.2.1 dX10_cutOne_45 rfl (lv_at hl 3 rfl) ?_
      refine xcVI (pc := 46) 78 [.int 1, .int x] (m_fail l D tA b i F G 1 x) C0 hH hS clX10 rfl ⟨⟨Nat.le_of_ble_eq_true rfl, Nat.le_of_ble_eq_true rfl⟩, rfl, rfl⟩ cw_X10_254 rfl ⟨Nat.le_of_ble_eq_true rfl, Nat.le_of_ble_eq_true rfl⟩ hl.1 rfl (Nat.le_of_ble_eq_true rfl) dX10_cutOne_46 ⟨Nat.le_of_ble_eq_true rfl, Nat.le_of_ble_eq_true rfl⟩ (fun r43 ir43 Fr43 Gr43 _ locs hp hH hS => ?_)
      obtain ⟨hu, rfl⟩ := hp
      cases hu
      have hH : Hd D tA b 78 52 zz (up2 (up2 i 78 30 1) 78 31 x) F G _ := hH
      refine lv_istore (pc := 49) (lv' := [(5, .int 0), (4, .int r41), (3, .int x1), (0, .ref (b + 78)), (1, .int x), (2, .int y)]) C0.1 C0.2.1 dX10_cutOne_49 hl (by decide) rfl (fun ls hl => ?_)
      refine lv_iload (pc := 51) C0.1 C0.2.1 dX10_cutOne_51 (lv_at hl 0 rfl) ?_
      refine lv_if_eq (pc := 53) (tgt := 67) C0.1 C0.2.1 dX10_cutOne_53 (by decide) (fun _ => ?_) (fun c => absurd (by decide) c)
      refine lv_iload (pc := 67) C0.1 C0.2.1 dX10_cutOne_67 (lv_at hl 0 rfl) ?_
      refine lv_if_eq (pc := 69) (tgt := 79) C0.1 C0.2.1 dX10_cutOne_69 (by decide) (fun _ => ?_) (fun c => absurd (by decide) c)
      refine lv_bipush (pc := 79) (v := (-9)) C0.1 C0.2.1 dX10_cutOne_79 (by decide) ?_
      exact xiret (pc := 81) C0 hr hH hS dX10_cutOne_81 ⟨(RO.i (RO.i RO.rf (by decide)) (by decide)), hTK, hHD, (Or.inr (show 0 ≤ Int32.toInt x ∧ Int32.toInt x ≤ 600 from by omega)), Or.inl ⟨rfl, (show 0 ≤ Int32.toInt x ∧ Int32.toInt x ≤ 600 from by omega)⟩, (show Int32.toInt (i 78 19) ≤ _ from by omega)⟩
    · have c42 : ¬ _ := fun q => c42 (Int32.le_iff_toInt_le.mpr q)
      refine lv_aload_n (pc := 33) C0.1 C0.2.1 dX10_cutOne_33 rfl (lv_at hl 2 rfl) ?_
      refine lv_iload_n (pc := 34) C0.1 C0.2.1 dX10_cutOne_34 rfl (lv_at hl 3 rfl) ?_
      refine lv_iload (pc := 35) C0.1 C0.2.1 dX10_cutOne_35 (lv_at hl 0 rfl) ?_
      refine xcVI (pc := 37) 78 [.int x, .int r41] (m_tabsFit_86 l D tA b i F G x r41 hi_78_17 (by omega)) C0 hH hS clX10 rfl ⟨⟨Nat.le_of_ble_eq_true rfl, Nat.le_of_ble_eq_true rfl⟩, rfl, rfl⟩ cw_X10_267 rfl ⟨Nat.le_of_ble_eq_true rfl, Nat.le_of_ble_eq_true rfl⟩ hl.1 rfl (Nat.le_of_ble_eq_true rfl) dX10_cutOne_37 ⟨Nat.le_of_ble_eq_true rfl, Nat.le_of_ble_eq_true rfl⟩ (fun r44 ir44 Fr44 Gr44 _ locs hp hH hS => ?_)
      obtain ⟨honr44, h01r44, hplr44, hpir44⟩ := hp
      try dsimp only at hplr44 hpir44
      have hTK : TKm ir44 Fr44 := TKm.ro (i := i) (F := F) hTK honr44 (by decide)
      have hHD : HD ir44 Fr44 := HD.ro (i := i) (F := F) hHD honr44 (by decide)
      have hCB : CB Fr44 := CB.ro (F := F) hCB honr44 (by decide)
      have hPI := hpir44 hPI
      have hi_78_17 : ir44 78 17 = nI 86 := (honr44.1 78 17 (Or.inr (by decide))).trans hi_78_17
      have ek_18r44 : Int32.toInt (ir44 78 18) = Int32.toInt (i 78 18) := congrArg Int32.toInt (honr44.1 78 18 (Or.inr (by decide)))
      have ek_19r44 : Int32.toInt (ir44 78 19) = Int32.toInt (i 78 19) := congrArg Int32.toInt (honr44.1 78 19 (Or.inr (by decide)))
      refine lv_goto (pc := 40) (tgt := 49) C0.1 C0.2.1 dX10_cutOne_40 (by decide) ?_
      refine lv_istore (pc := 49) (lv' := [(5, .int r44), (4, .int r41), (3, .int x1), (0, .ref (b + 78)), (1, .int x), (2, .int y)]) C0.1 C0.2.1 dX10_cutOne_49 hl (by decide) rfl (fun ls hl => ?_)
      refine lv_iload (pc := 51) C0.1 C0.2.1 dX10_cutOne_51 (lv_at hl 0 rfl) ?_
      refine lv_if_eq (pc := 53) (tgt := 67) C0.1 C0.2.1 dX10_cutOne_53 (by decide) (fun c45 => ?_) (fun c45 => ?_)
      · have : Int32.toInt 0 = 0 := rfl
        have c45 := congrArg Int32.toInt c45
        refine lv_iload (pc := 67) C0.1 C0.2.1 dX10_cutOne_67 (lv_at hl 0 rfl) ?_
        have : Int32.toInt 0 = 0 := rfl
        refine lv_if_eq (pc := 69) (tgt := 79) C0.1 C0.2.1 dX10_cutOne_69 (by decide) (fun _ => ?_) (fun c => absurd (Int32.toInt_inj.mp (by omega)) c)
        refine lv_bipush (pc := 79) (v := (-9)) C0.1 C0.2.1 dX10_cutOne_79 (by decide) ?_
        exact xiret (pc := 81) C0 hr hH hS dX10_cutOne_81 ⟨(RO.tr RO.rf honr44 (by decide) (by decide)), hTK, hHD, hPI, Or.inl ⟨rfl, hplr44 (by first | assumption | exact Int32.toInt_inj.mp (by assumption))⟩, (show Int32.toInt (ir44 78 19) ≤ _ from by omega)⟩
      · have : Int32.toInt 0 = 0 := rfl
        have c45 : ¬ _ := fun q => c45 (Int32.toInt_inj.mp q)
        refine lv_aload_n (pc := 56) C0.1 C0.2.1 dX10_cutOne_56 rfl (lv_at hl 3 rfl) ?_
        refine lv_iconst (pc := 57) (v := 3) C0.1 C0.2.1 dX10_cutOne_57 (by decide) ?_
        refine lv_iload_n (pc := 58) C0.1 C0.2.1 dX10_cutOne_58 rfl (lv_at hl 4 rfl) ?_
        refine lv_iload (pc := 59) C0.1 C0.2.1 dX10_cutOne_59 (lv_at hl 1 rfl) ?_
        refine lv_iconst (pc := 61) (v := 1) C0.1 C0.2.1 dX10_cutOne_61 (by decide) ?_
        have : Int32.toInt 1 = 1 := rfl
        refine lv_iadd (pc := 62) C0.1 C0.2.1 dX10_cutOne_62 ?_
        refine lv_topi (fun x46 ex46 => ?_)
        have hx46 : Int32.toInt x46 = Int32.toInt r41 + Int32.toInt 1 := by rw [ex46]; exact fb_addI (by omega) (by omega)
        refine lv_iload_n (pc := 63) C0.1 C0.2.1 dX10_cutOne_63 rfl (lv_at hl 5 rfl) ?_
        refine xcVV (pc := 64) 78 [.int 3, .int x, .int x46, .int y] (m_add_86 l D tA b ir44 Fr44 Gr44 3 x x46 y hi_78_17 hTK hHD hCB (show Int32.toInt (ir44 78 19) < 600 from by omega) (show 0 ≤ Int32.toInt x ∧ Int32.toInt x + 1 ≤ Int32.toInt x46 ∧ Int32.toInt x46 ≤ 600 from by omega) hy01 (fun q => hfr (by have q : Int32.toInt (ir44 78 19) = 0 := q; omega))) C0 hH hS clX10 rfl ⟨⟨Nat.le_of_ble_eq_true rfl, Nat.le_of_ble_eq_true rfl⟩, rfl, rfl⟩ cw_X10_270 rfl ⟨Nat.le_of_ble_eq_true rfl, Nat.le_of_ble_eq_true rfl⟩ hl.1 rfl (Nat.le_of_ble_eq_true rfl) dX10_cutOne_64 ⟨Nat.le_of_ble_eq_true rfl, Nat.le_of_ble_eq_true rfl⟩ (fun ir47 Fr47 Gr47 _ locs hp hH hS => ?_)
        obtain ⟨honr47, hTK, hHD, ht19r47⟩ := hp
        have hTK : TKm ir47 Fr47 := hTK
        have hHD : HD ir47 Fr47 := hHD
        have ht19r47 : (ir47 78 19).toInt = Int32.toInt (ir44 78 19) + 1 := ht19r47
        have hCB : CB Fr47 := CB.ro (F := Fr44) hCB honr47 (by decide)
        have hPI : PLI ir47 := PLI.ro (i := ir44) (F := Fr44) hPI honr47 (by decide)
        have hi_78_17 : ir47 78 17 = nI 86 := (honr47.1 78 17 (Or.inr (by decide))).trans hi_78_17
        have ek_18r47 : Int32.toInt (ir47 78 18) = Int32.toInt (ir44 78 18) := congrArg Int32.toInt (honr47.1 78 18 (Or.inr (by decide)))
        refine lv_iload (pc := 67) C0.1 C0.2.1 dX10_cutOne_67 (lv_at hl 0 rfl) ?_
        have : Int32.toInt 0 = 0 := rfl
        refine lv_if_eq (pc := 69) (tgt := 79) C0.1 C0.2.1 dX10_cutOne_69 (by decide) (fun c => absurd c (fun q => absurd (congrArg Int32.toInt q) (by omega))) (fun _ => ?_)
        refine lv_iload (pc := 72) C0.1 C0.2.1 dX10_cutOne_72 (lv_at hl 1 rfl) ?_
        refine lv_iconst (pc := 74) (v := 1) C0.1 C0.2.1 dX10_cutOne_74 (by decide) ?_
        have : Int32.toInt 1 = 1 := rfl
        refine lv_iadd (pc := 75) C0.1 C0.2.1 dX10_cutOne_75 ?_
        refine lv_topi (fun x48 ex48 => ?_)
        have hx48 : Int32.toInt x48 = Int32.toInt r41 + Int32.toInt 1 := by rw [ex48]; exact fb_addI (by omega) (by omega)
        refine lv_goto (pc := 76) (tgt := 81) C0.1 C0.2.1 dX10_cutOne_76 (by decide) ?_
        exact xiret (pc := 81) C0 hr hH hS dX10_cutOne_81 ⟨(RO.tr (RO.tr RO.rf honr44 (by decide) (by decide)) honr47 (by decide) (by decide)), hTK, hHD, hPI, Or.inr ⟨⟨by omega, by omega⟩, (show 1 ≤ Int32.toInt (ir47 78 19) from by omega)⟩, (show Int32.toInt (ir47 78 19) ≤ _ from by omega)⟩
set_option maxHeartbeats 4000000 in
set_option maxRecDepth 100000 in
theorem m_cutUp_86 (l : Launch) (D : va_G) (tA : Nat → ClassId) (b : Nat) (i F : Nat → Nat → Int32) (G : Nat → Nat → Int64)  (hi_78_17 : i 78 17 = nI 86) (hlen : 0 ≤ (i 78 18).toInt ∧ (i 78 18).toInt ≤ 600) (hTA : TA (F 89) (F 90)) (hCB : CB F) (hPI : PLI i) : xMI l yX10_cutUp cX10_cutUp 5 (some .boolean) 3 71 D tA b 78 52 i F G [.ref (b + 78)] (fun r u => RO [19, 30, 31] [88, 89, 90, 91, 92, 93, 94] i F G u ∧ TKm u.1 u.2.1 ∧ HD u.1 u.2.1 ∧ PLI u.1 ∧ (r = 0 ∨ r = 1) ∧ (r = 0 → (0 ≤ (u.1 78 31).toInt ∧ (u.1 78 31).toInt ≤ 600))) := by
  refine xstart RX10 rfl (by decide) (Nat.le_of_ble_eq_true rfl) ?_
  intro p e s m below meth c ls C0 hr hH hS hl
  have hl : lv_has ls 5 [(0, .ref (b + 78))] := hl
  have L9 : ∀ (d : Nat) (fr k : Int32) (iv Fv : Nat → Nat → Int32) (Gv : Nat → Nat → Int64) (H : Heap) (locs : List Loc) (ls : Array Slot), (0 ≤ k.toInt ∧ k.toInt ≤ (i 78 18).toInt) → ((i 78 18).toInt - k.toInt ≤ d) → (RO [19, 30, 31] [88, 89, 90, 91, 92, 93, 94] i F G (iv, Fv, Gv)) → (TKm iv Fv) → (HD iv Fv) → (PLI iv) → ((iv 78 19).toInt ≤ k.toInt) → (fr = 0 ∨ fr = 1) → ((iv 78 19).toInt = 0 → fr = 1) → Hd D tA b 78 52 zz iv Fv Gv H → va_S (xA b 78 52) s.heap H locs → lv_has ls 5 [(2, .int k), (1, .int fr), (0, .ref (b + 78))] → W p l e (xR 3 71) s m ([.ref (b + 78)] : List Value).toArray below meth c H locs 0 0 (MQ below (va_Qi (fun r u => RO [19, 30, 31] [88, 89, 90, 91, 92, 93, 94] i F G u ∧ TKm u.1 u.2.1 ∧ HD u.1 u.2.1 ∧ PLI u.1 ∧ (r = 0 ∨ r = 1) ∧ (r = 0 → (0 ≤ (u.1 78 31).toInt ∧ (u.1 78 31).toInt ≤ 600))) (xB D tA b 78 52 zz) (xA b 78 52)) ([.ref (b + 78)] : List Value).toArray s 0 0 (xA b 78 52)) (F0 m 9 ls []) := by
    intro d
    induction d with
    | zero =>
      intro fr k iv Fv Gv H locs ls h1 h2 h3 h4 h5 h6 h7 h8 h9 hH hS hl
      have rg_fr := fb_rng fr
      have rg_k := fb_rng k
      have hi_78_17 : iv 78 17 = nI 86 := (h3.1 78 17 (Or.inr (by decide))).trans hi_78_17
      have ek18 : Int32.toInt (iv 78 18) = Int32.toInt (i 78 18) := congrArg Int32.toInt (h3.1 78 18 (Or.inr (by decide)))
      have hTK := h4
      have hHD := h5
      have hPI := h6
      have hCB : CB Fv := CB.ro hCB h3 (by decide)
      have hTL := hTK.1
      refine lv_iload_n (pc := 9) C0.1 C0.2.1 dX10_cutUp_9 rfl (lv_at hl 0 rfl) ?_
      refine lv_aload_n (pc := 10) C0.1 C0.2.1 dX10_cutUp_10 rfl (lv_at hl 2 rfl) ?_
      refine xget (pc := 11) C0 hH 78 18 clX10 ⟨Nat.le_of_ble_eq_true rfl, Nat.le_of_ble_eq_true rfl⟩ ⟨rfl, rfl⟩ (Nat.le_of_ble_eq_true rfl) fl_X10_251 (v := .int (iv 78 18)) rfl dX10_cutUp_11 ?_
      refine lv_icmp_ge (pc := 14) (tgt := 122) C0.1 C0.2.1 dX10_cutUp_14 (by decide) (fun _ => ?_) (fun c => absurd (Int32.le_iff_toInt_le.mpr (by omega)) c)
      refine lv_iconst (pc := 122) (v := 1) C0.1 C0.2.1 dX10_cutUp_122 (by decide) ?_
      exact xzret (pc := 123) C0 hr hH hS dX10_cutUp_123 (by decide) ⟨h3, hTK, hHD, hPI, Or.inr rfl, fun q => absurd q (by decide)⟩
    | succ d ih9 =>
      intro fr k iv Fv Gv H locs ls h1 h2 h3 h4 h5 h6 h7 h8 h9 hH hS hl
      have rg_fr := fb_rng fr
      have rg_k := fb_rng k
      have hi_78_17 : iv 78 17 = nI 86 := (h3.1 78 17 (Or.inr (by decide))).trans hi_78_17
      have ek18 : Int32.toInt (iv 78 18) = Int32.toInt (i 78 18) := congrArg Int32.toInt (h3.1 78 18 (Or.inr (by decide)))
      have hTK := h4
      have hHD := h5
      have hPI := h6
      have hCB : CB Fv := CB.ro hCB h3 (by decide)
      have hTL := hTK.1
      refine lv_iload_n (pc := 9) C0.1 C0.2.1 dX10_cutUp_9 rfl (lv_at hl 0 rfl) ?_
      refine lv_aload_n (pc := 10) C0.1 C0.2.1 dX10_cutUp_10 rfl (lv_at hl 2 rfl) ?_
      refine xget (pc := 11) C0 hH 78 18 clX10 ⟨Nat.le_of_ble_eq_true rfl, Nat.le_of_ble_eq_true rfl⟩ ⟨rfl, rfl⟩ (Nat.le_of_ble_eq_true rfl) fl_X10_251 (v := .int (iv 78 18)) rfl dX10_cutUp_11 ?_
      refine lv_icmp_ge (pc := 14) (tgt := 122) C0.1 C0.2.1 dX10_cutUp_14 (by decide) (fun c201 => ?_) (fun c201 => ?_)
      · have c201 := Int32.le_iff_toInt_le.mp c201
        refine lv_iconst (pc := 122) (v := 1) C0.1 C0.2.1 dX10_cutUp_122 (by decide) ?_
        exact xzret (pc := 123) C0 hr hH hS dX10_cutUp_123 (by decide) ⟨h3, hTK, hHD, hPI, Or.inr rfl, fun q => absurd q (by decide)⟩
      · have c201 : ¬ _ := fun q => c201 (Int32.le_iff_toInt_le.mpr q)
        refine lv_aload_n (pc := 17) C0.1 C0.2.1 dX10_cutUp_17 rfl (lv_at hl 2 rfl) ?_
        refine xget (pc := 18) C0 hH 78 17 clX10 ⟨Nat.le_of_ble_eq_true rfl, Nat.le_of_ble_eq_true rfl⟩ ⟨rfl, rfl⟩ (Nat.le_of_ble_eq_true rfl) fl_X10_39 (v := .ref (b + 86)) (by show Value.ref (b + (iv 78 17).toNatClampNeg) = _; rw [hi_78_17]; rfl) dX10_cutUp_18 ?_
        refine lv_iload_n (pc := 21) C0.1 C0.2.1 dX10_cutUp_21 rfl (lv_at hl 0 rfl) ?_
        refine xbald (pc := 22) (N := 600) C0 hH 86 ⟨Nat.le_of_ble_eq_true rfl, Nat.le_of_ble_eq_true rfl⟩ ⟨rfl, rfl⟩ (vI (by omega) (by omega)) dX10_cutUp_22 ?_
        refine lv_topi (fun x202 ex202 => ?_)
        refine lv_istore_n (pc := 23) (lv' := [(3, .int x202), (2, .int k), (1, .int fr), (0, .ref (b + 78))]) C0.1 C0.2.1 dX10_cutUp_23 rfl hl (by decide) rfl (fun ls hl => ?_)
        refine lv_iload_n (pc := 24) C0.1 C0.2.1 dX10_cutUp_24 rfl (lv_at hl 0 rfl) ?_
        refine lv_bipush (pc := 25) (v := 10) C0.1 C0.2.1 dX10_cutUp_25 (by decide) ?_
        refine lv_icmp_ne (pc := 27) (tgt := 38) C0.1 C0.2.1 dX10_cutUp_27 (by decide) (fun c203 => ?_) (fun c203 => ?_)
        · have : Int32.toInt 10 = 10 := rfl
          have c203 : ¬ _ := fun q => c203 (Int32.toInt_inj.mp q)
          refine lv_iload_n (pc := 38) C0.1 C0.2.1 dX10_cutUp_38 rfl (lv_at hl 0 rfl) ?_
          refine lv_bipush (pc := 39) (v := 32) C0.1 C0.2.1 dX10_cutUp_39 (by decide) ?_
          refine lv_icmp_eq (pc := 41) (tgt := 50) C0.1 C0.2.1 dX10_cutUp_41 (by decide) (fun c204 => ?_) (fun c204 => ?_)
          · have : Int32.toInt 32 = 32 := rfl
            have c204 := congrArg Int32.toInt c204
            refine lv_aload_n (pc := 50) C0.1 C0.2.1 dX10_cutUp_50 rfl (lv_at hl 3 rfl) ?_
            refine lv_iload_n (pc := 51) C0.1 C0.2.1 dX10_cutUp_51 rfl (lv_at hl 1 rfl) ?_
            refine lv_iload_n (pc := 52) C0.1 C0.2.1 dX10_cutUp_52 rfl (lv_at hl 1 rfl) ?_
            refine lv_iconst (pc := 53) (v := 1) C0.1 C0.2.1 dX10_cutUp_53 (by decide) ?_
            have : Int32.toInt 1 = 1 := rfl
            refine lv_iadd (pc := 54) C0.1 C0.2.1 dX10_cutUp_54 ?_
            refine lv_topi (fun x205 ex205 => ?_)
            have hx205 : Int32.toInt x205 = Int32.toInt k + Int32.toInt 1 := by rw [ex205]; exact fb_addI (by omega) (by omega)
            refine xcVI (pc := 55) 78 [.int k, .int x205] (m_tabsFit_86 l D tA b iv Fv Gv k x205 hi_78_17 (by omega)) C0 hH hS clX10 rfl ⟨⟨Nat.le_of_ble_eq_true rfl, Nat.le_of_ble_eq_true rfl⟩, rfl, rfl⟩ cw_X10_267 rfl ⟨Nat.le_of_ble_eq_true rfl, Nat.le_of_ble_eq_true rfl⟩ hl.1 rfl (Nat.le_of_ble_eq_true rfl) dX10_cutUp_55 ⟨Nat.le_of_ble_eq_true rfl, Nat.le_of_ble_eq_true rfl⟩ (fun r206 ir206 Fr206 Gr206 _ locs hp hH hS => ?_)
            obtain ⟨honr206, h01r206, hplr206, hpir206⟩ := hp
            try dsimp only at hplr206 hpir206
            have hTK : TKm ir206 Fr206 := TKm.ro (i := iv) (F := Fv) hTK honr206 (by decide)
            have hHD : HD ir206 Fr206 := HD.ro (i := iv) (F := Fv) hHD honr206 (by decide)
            have hCB : CB Fr206 := CB.ro (F := Fv) hCB honr206 (by decide)
            have hPI := hpir206 hPI
            have hi_78_17 : ir206 78 17 = nI 86 := (honr206.1 78 17 (Or.inr (by decide))).trans hi_78_17
            have ek_18r206 : Int32.toInt (ir206 78 18) = Int32.toInt (iv 78 18) := congrArg Int32.toInt (honr206.1 78 18 (Or.inr (by decide)))
            have ek_19r206 : Int32.toInt (ir206 78 19) = Int32.toInt (iv 78 19) := congrArg Int32.toInt (honr206.1 78 19 (Or.inr (by decide)))
            refine lv_if_ne (pc := 58) (tgt := 63) C0.1 C0.2.1 dX10_cutUp_58 (by decide) (fun c207 => ?_) (fun c207 => ?_)
            · have : Int32.toInt 0 = 0 := rfl
              have c207 : ¬ _ := fun q => c207 (Int32.toInt_inj.mp q)
              obtain ⟨x208, ex208⟩ : ∃ y_ : Int32, y_ = k + 1 := ⟨_, rfl⟩
              have : Int32.toInt 1 = 1 := rfl
              have hx208 : Int32.toInt x208 = Int32.toInt k + Int32.toInt 1 := by rw [ex208]; exact fb_addI (by omega) (by omega)
              refine lv_iinc (pc := 63) (v := x208) (lv' := [(2, .int x208), (3, .int x202), (1, .int fr), (0, .ref (b + 78))]) C0.1 C0.2.1 dX10_cutUp_63 hl (k := 1) rfl (by rw [ex208]; rfl) (by decide) rfl (fun ls hl => ?_)
              refine lv_goto (pc := 66) (tgt := 119) C0.1 C0.2.1 dX10_cutUp_66 (by decide) ?_
              refine lv_goto (pc := 119) (tgt := 9) C0.1 C0.2.1 dX10_cutUp_119 (by decide) ?_
              exact ih9 fr x208 ir206 Fr206 Gr206 _ _ _ (by omega) (by omega) (RO.tr h3 honr206 (by decide) (by decide)) hTK hHD hPI (show Int32.toInt (ir206 78 19) ≤ _ from by omega) h8 (fun q => by have q : Int32.toInt (ir206 78 19) = 0 := q; first | rfl | exact h9 (by omega) | (exfalso; omega)) hH hS (lv_sub hl [0, 2, 3] rfl)
            · have : Int32.toInt 0 = 0 := rfl
              have c207 := congrArg Int32.toInt c207
              refine lv_iconst (pc := 61) (v := 0) C0.1 C0.2.1 dX10_cutUp_61 (by decide) ?_
              exact xzret (pc := 62) C0 hr hH hS dX10_cutUp_62 (by decide) ⟨(RO.tr h3 honr206 (by decide) (by decide)), hTK, hHD, hPI, Or.inl rfl, fun _ => (by first | exact hplr206 (by first | assumption | exact Int32.toInt_inj.mp (by assumption)) | omega)⟩
          · have : Int32.toInt 32 = 32 := rfl
            have c204 : ¬ _ := fun q => c204 (Int32.toInt_inj.mp q)
            refine lv_iload_n (pc := 44) C0.1 C0.2.1 dX10_cutUp_44 rfl (lv_at hl 0 rfl) ?_
            refine lv_bipush (pc := 45) (v := 9) C0.1 C0.2.1 dX10_cutUp_45 (by decide) ?_
            refine lv_icmp_ne (pc := 47) (tgt := 69) C0.1 C0.2.1 dX10_cutUp_47 (by decide) (fun c209 => ?_) (fun c209 => ?_)
            · have : Int32.toInt 9 = 9 := rfl
              have c209 : ¬ _ := fun q => c209 (Int32.toInt_inj.mp q)
              refine lv_iload_n (pc := 69) C0.1 C0.2.1 dX10_cutUp_69 rfl (lv_at hl 0 rfl) ?_
              refine lv_bipush (pc := 70) (v := 35) C0.1 C0.2.1 dX10_cutUp_70 (by decide) ?_
              refine lv_icmp_ne (pc := 72) (tgt := 102) C0.1 C0.2.1 dX10_cutUp_72 (by decide) (fun c210 => ?_) (fun c210 => ?_)
              · have : Int32.toInt 35 = 35 := rfl
                have c210 : ¬ _ := fun q => c210 (Int32.toInt_inj.mp q)
                refine lv_aload_n (pc := 102) C0.1 C0.2.1 dX10_cutUp_102 rfl (lv_at hl 3 rfl) ?_
                refine lv_iload_n (pc := 103) C0.1 C0.2.1 dX10_cutUp_103 rfl (lv_at hl 1 rfl) ?_
                refine lv_iload_n (pc := 104) C0.1 C0.2.1 dX10_cutUp_104 rfl (lv_at hl 2 rfl) ?_
                refine xcVI (pc := 105) 78 [.int k, .int fr] (m_cutOne_86 l D tA b iv Fv Gv k fr hi_78_17 (show 0 ≤ Int32.toInt (iv 78 18) ∧ Int32.toInt (iv 78 18) ≤ 600 from by omega) hTK hHD hCB hPI (show 0 ≤ Int32.toInt k ∧ Int32.toInt k < Int32.toInt (iv 78 18) from by omega) (show Int32.toInt (iv 78 19) ≤ Int32.toInt k from by omega) h8 h9) C0 hH hS clX10 rfl ⟨⟨Nat.le_of_ble_eq_true rfl, Nat.le_of_ble_eq_true rfl⟩, rfl, rfl⟩ cw_X10_278 rfl ⟨Nat.le_of_ble_eq_true rfl, Nat.le_of_ble_eq_true rfl⟩ hl.1 rfl (Nat.le_of_ble_eq_true rfl) dX10_cutUp_105 ⟨Nat.le_of_ble_eq_true rfl, Nat.le_of_ble_eq_true rfl⟩ (fun r211 ir211 Fr211 Gr211 _ locs hp hH hS => ?_)
                obtain ⟨honr211, hTK, hHD, hPI, hcor211, hctr211⟩ := hp
                have hTK : TKm ir211 Fr211 := hTK
                have hHD : HD ir211 Fr211 := hHD
                have hPI : PLI ir211 := hPI
                have hctr211 : (ir211 78 19).toInt ≤ Int32.toInt (iv 78 19) + 1 := hctr211
                have hcor211 : (Int32.toInt r211 = -9 ∧ (0 ≤ (ir211 78 31).toInt ∧ (ir211 78 31).toInt ≤ 600)) ∨ ((Int32.toInt k + 1 ≤ Int32.toInt r211 ∧ Int32.toInt r211 ≤ Int32.toInt (iv 78 18)) ∧ 1 ≤ (ir211 78 19).toInt) := hcor211
                have hCB : CB Fr211 := CB.ro (F := Fv) hCB honr211 (by decide)
                have hi_78_17 : ir211 78 17 = nI 86 := (honr211.1 78 17 (Or.inr (by decide))).trans hi_78_17
                have ek_18r211 : Int32.toInt (ir211 78 18) = Int32.toInt (iv 78 18) := congrArg Int32.toInt (honr211.1 78 18 (Or.inr (by decide)))
                refine lv_istore_n (pc := 108) (lv' := [(2, .int r211), (3, .int x202), (1, .int fr), (0, .ref (b + 78))]) C0.1 C0.2.1 dX10_cutUp_108 rfl hl (by decide) rfl (fun ls hl => ?_)
                refine lv_iconst (pc := 109) (v := 0) C0.1 C0.2.1 dX10_cutUp_109 (by decide) ?_
                refine lv_istore_n (pc := 110) (lv' := [(1, .int 0), (2, .int r211), (3, .int x202), (0, .ref (b + 78))]) C0.1 C0.2.1 dX10_cutUp_110 rfl hl (by decide) rfl (fun ls hl => ?_)
                refine lv_iload_n (pc := 111) C0.1 C0.2.1 dX10_cutUp_111 rfl (lv_at hl 1 rfl) ?_
                refine lv_bipush (pc := 112) (v := (-9)) C0.1 C0.2.1 dX10_cutUp_112 (by decide) ?_
                refine lv_icmp_ne (pc := 114) (tgt := 119) C0.1 C0.2.1 dX10_cutUp_114 (by decide) (fun c212 => ?_) (fun c212 => ?_)
                · have : Int32.toInt (-9) = (-9) := rfl
                  have c212 : ¬ _ := fun q => c212 (Int32.toInt_inj.mp q)
                  refine lv_goto (pc := 119) (tgt := 9) C0.1 C0.2.1 dX10_cutUp_119 (by decide) ?_
                  exact ih9 0 r211 ir211 Fr211 Gr211 _ _ _ (by omega) (by omega) (RO.tr h3 honr211 (by decide) (by decide)) hTK hHD hPI (show Int32.toInt (ir211 78 19) ≤ _ from by omega) (by decide) (fun q => by have q : Int32.toInt (ir211 78 19) = 0 := q; first | rfl | exact h9 (by omega) | (exfalso; omega)) hH hS (lv_sub hl [1, 0, 3] rfl)
                · have : Int32.toInt (-9) = (-9) := rfl
                  have c212 := congrArg Int32.toInt c212
                  refine lv_iconst (pc := 117) (v := 0) C0.1 C0.2.1 dX10_cutUp_117 (by decide) ?_
                  exact xzret (pc := 118) C0 hr hH hS dX10_cutUp_118 (by decide) ⟨(RO.tr h3 honr211 (by decide) (by decide)), hTK, hHD, hPI, Or.inl rfl, fun _ => (show 0 ≤ (ir211 78 31).toInt ∧ (ir211 78 31).toInt ≤ 600 from by omega)⟩
              · have : Int32.toInt 35 = 35 := rfl
                have c210 := congrArg Int32.toInt c210
                have hne10 : ¬ Fv 86 (Int32.toNatClampNeg k) = 10 := fun q => by have e := congrArg Int32.toInt (ex202.trans q); omega
                refine lv_aload_n (pc := 75) C0.1 C0.2.1 dX10_cutUp_75 rfl (lv_at hl 3 rfl) ?_
                refine lv_iload_n (pc := 76) C0.1 C0.2.1 dX10_cutUp_76 rfl (lv_at hl 1 rfl) ?_
                refine lv_bipush (pc := 77) (v := 10) C0.1 C0.2.1 dX10_cutUp_77 (by decide) ?_
                refine xcVI (pc := 79) 78 [.int k, .int 10] (m_next_86 l D tA b iv Fv Gv k 10 hi_78_17 (show 0 ≤ Int32.toInt (iv 78 18) ∧ Int32.toInt (iv 78 18) ≤ 600 from by omega) (show 0 ≤ Int32.toInt k ∧ Int32.toInt k ≤ Int32.toInt (iv 78 18) from by omega)) C0 hH hS clX10 rfl ⟨⟨Nat.le_of_ble_eq_true rfl, Nat.le_of_ble_eq_true rfl⟩, rfl, rfl⟩ cw_X10_264 rfl ⟨Nat.le_of_ble_eq_true rfl, Nat.le_of_ble_eq_true rfl⟩ hl.1 rfl (Nat.le_of_ble_eq_true rfl) dX10_cutUp_79 ⟨Nat.le_of_ble_eq_true rfl, Nat.le_of_ble_eq_true rfl⟩ (fun r213 ir213 Fr213 Gr213 _ locs hp hH hS => ?_)
                obtain ⟨hu, hpr213⟩ := hp
                cases hu
                refine lv_istore (pc := 82) (lv' := [(4, .int r213), (3, .int x202), (2, .int k), (1, .int fr), (0, .ref (b + 78))]) C0.1 C0.2.1 dX10_cutUp_82 hl (by decide) rfl (fun ls hl => ?_)
                have hnx := hpr213.2 (by omega) hne10
                refine lv_aload_n (pc := 84) C0.1 C0.2.1 dX10_cutUp_84 rfl (lv_at hl 4 rfl) ?_
                refine lv_iload_n (pc := 85) C0.1 C0.2.1 dX10_cutUp_85 rfl (lv_at hl 2 rfl) ?_
                refine lv_iload (pc := 86) C0.1 C0.2.1 dX10_cutUp_86 (lv_at hl 0 rfl) ?_
                refine xcVI (pc := 88) 78 [.int k, .int r213] (m_tabsFit_86 l D tA b iv Fv Gv k r213 hi_78_17 (by omega)) C0 hH hS clX10 rfl ⟨⟨Nat.le_of_ble_eq_true rfl, Nat.le_of_ble_eq_true rfl⟩, rfl, rfl⟩ cw_X10_267 rfl ⟨Nat.le_of_ble_eq_true rfl, Nat.le_of_ble_eq_true rfl⟩ hl.1 rfl (Nat.le_of_ble_eq_true rfl) dX10_cutUp_88 ⟨Nat.le_of_ble_eq_true rfl, Nat.le_of_ble_eq_true rfl⟩ (fun r214 ir214 Fr214 Gr214 _ locs hp hH hS => ?_)
                obtain ⟨honr214, h01r214, hplr214, hpir214⟩ := hp
                try dsimp only at hplr214 hpir214
                have hTK : TKm ir214 Fr214 := TKm.ro (i := iv) (F := Fv) hTK honr214 (by decide)
                have hHD : HD ir214 Fr214 := HD.ro (i := iv) (F := Fv) hHD honr214 (by decide)
                have hCB : CB Fr214 := CB.ro (F := Fv) hCB honr214 (by decide)
                have hPI := hpir214 hPI
                have hi_78_17 : ir214 78 17 = nI 86 := (honr214.1 78 17 (Or.inr (by decide))).trans hi_78_17
                have ek_18r214 : Int32.toInt (ir214 78 18) = Int32.toInt (iv 78 18) := congrArg Int32.toInt (honr214.1 78 18 (Or.inr (by decide)))
                have ek_19r214 : Int32.toInt (ir214 78 19) = Int32.toInt (iv 78 19) := congrArg Int32.toInt (honr214.1 78 19 (Or.inr (by decide)))
                refine lv_if_ne (pc := 91) (tgt := 96) C0.1 C0.2.1 dX10_cutUp_91 (by decide) (fun c215 => ?_) (fun c215 => ?_)
                · have : Int32.toInt 0 = 0 := rfl
                  have c215 : ¬ _ := fun q => c215 (Int32.toInt_inj.mp q)
                  refine lv_iload (pc := 96) C0.1 C0.2.1 dX10_cutUp_96 (lv_at hl 0 rfl) ?_
                  refine lv_istore_n (pc := 98) (lv' := [(2, .int r213), (4, .int r213), (3, .int x202), (1, .int fr), (0, .ref (b + 78))]) C0.1 C0.2.1 dX10_cutUp_98 rfl hl (by decide) rfl (fun ls hl => ?_)
                  refine lv_goto (pc := 99) (tgt := 119) C0.1 C0.2.1 dX10_cutUp_99 (by decide) ?_
                  refine lv_goto (pc := 119) (tgt := 9) C0.1 C0.2.1 dX10_cutUp_119 (by decide) ?_
                  exact ih9 fr r213 ir214 Fr214 Gr214 _ _ _ (by omega) (by omega) (RO.tr h3 honr214 (by decide) (by decide)) hTK hHD hPI (show Int32.toInt (ir214 78 19) ≤ _ from by omega) h8 (fun q => by have q : Int32.toInt (ir214 78 19) = 0 := q; first | rfl | exact h9 (by omega) | (exfalso; omega)) hH hS (lv_sub hl [0, 3, 4] rfl)
                · have : Int32.toInt 0 = 0 := rfl
                  have c215 := congrArg Int32.toInt c215
                  refine lv_iconst (pc := 94) (v := 0) C0.1 C0.2.1 dX10_cutUp_94 (by decide) ?_
                  exact xzret (pc := 95) C0 hr hH hS dX10_cutUp_95 (by decide) ⟨(RO.tr h3 honr214 (by decide) (by decide)), hTK, hHD, hPI, Or.inl rfl, fun _ => (by first | exact hplr214 (by first | assumption | exact Int32.toInt_inj.mp (by assumption)) | omega)⟩
            · have : Int32.toInt 9 = 9 := rfl
              have c209 := congrArg Int32.toInt c209
              refine lv_aload_n (pc := 50) C0.1 C0.2.1 dX10_cutUp_50 rfl (lv_at hl 3 rfl) ?_
              refine lv_iload_n (pc := 51) C0.1 C0.2.1 dX10_cutUp_51 rfl (lv_at hl 1 rfl) ?_
              refine lv_iload_n (pc := 52) C0.1 C0.2.1 dX10_cutUp_52 rfl (lv_at hl 1 rfl) ?_
              refine lv_iconst (pc := 53) (v := 1) C0.1 C0.2.1 dX10_cutUp_53 (by decide) ?_
              have : Int32.toInt 1 = 1 := rfl
              refine lv_iadd (pc := 54) C0.1 C0.2.1 dX10_cutUp_54 ?_
              refine lv_topi (fun x216 ex216 => ?_)
              have hx216 : Int32.toInt x216 = Int32.toInt k + Int32.toInt 1 := by rw [ex216]; exact fb_addI (by omega) (by omega)
              refine xcVI (pc := 55) 78 [.int k, .int x216] (m_tabsFit_86 l D tA b iv Fv Gv k x216 hi_78_17 (by omega)) C0 hH hS clX10 rfl ⟨⟨Nat.le_of_ble_eq_true rfl, Nat.le_of_ble_eq_true rfl⟩, rfl, rfl⟩ cw_X10_267 rfl ⟨Nat.le_of_ble_eq_true rfl, Nat.le_of_ble_eq_true rfl⟩ hl.1 rfl (Nat.le_of_ble_eq_true rfl) dX10_cutUp_55 ⟨Nat.le_of_ble_eq_true rfl, Nat.le_of_ble_eq_true rfl⟩ (fun r217 ir217 Fr217 Gr217 _ locs hp hH hS => ?_)
              obtain ⟨honr217, h01r217, hplr217, hpir217⟩ := hp
              try dsimp only at hplr217 hpir217
              have hTK : TKm ir217 Fr217 := TKm.ro (i := iv) (F := Fv) hTK honr217 (by decide)
              have hHD : HD ir217 Fr217 := HD.ro (i := iv) (F := Fv) hHD honr217 (by decide)
              have hCB : CB Fr217 := CB.ro (F := Fv) hCB honr217 (by decide)
              have hPI := hpir217 hPI
              have hi_78_17 : ir217 78 17 = nI 86 := (honr217.1 78 17 (Or.inr (by decide))).trans hi_78_17
              have ek_18r217 : Int32.toInt (ir217 78 18) = Int32.toInt (iv 78 18) := congrArg Int32.toInt (honr217.1 78 18 (Or.inr (by decide)))
              have ek_19r217 : Int32.toInt (ir217 78 19) = Int32.toInt (iv 78 19) := congrArg Int32.toInt (honr217.1 78 19 (Or.inr (by decide)))
              refine lv_if_ne (pc := 58) (tgt := 63) C0.1 C0.2.1 dX10_cutUp_58 (by decide) (fun c218 => ?_) (fun c218 => ?_)
              · have : Int32.toInt 0 = 0 := rfl
                have c218 : ¬ _ := fun q => c218 (Int32.toInt_inj.mp q)
                obtain ⟨x219, ex219⟩ : ∃ y_ : Int32, y_ = k + 1 := ⟨_, rfl⟩
                have : Int32.toInt 1 = 1 := rfl
                have hx219 : Int32.toInt x219 = Int32.toInt k + Int32.toInt 1 := by rw [ex219]; exact fb_addI (by omega) (by omega)
                refine lv_iinc (pc := 63) (v := x219) (lv' := [(2, .int x219), (3, .int x202), (1, .int fr), (0, .ref (b + 78))]) C0.1 C0.2.1 dX10_cutUp_63 hl (k := 1) rfl (by rw [ex219]; rfl) (by decide) rfl (fun ls hl => ?_)
                refine lv_goto (pc := 66) (tgt := 119) C0.1 C0.2.1 dX10_cutUp_66 (by decide) ?_
                refine lv_goto (pc := 119) (tgt := 9) C0.1 C0.2.1 dX10_cutUp_119 (by decide) ?_
                exact ih9 fr x219 ir217 Fr217 Gr217 _ _ _ (by omega) (by omega) (RO.tr h3 honr217 (by decide) (by decide)) hTK hHD hPI (show Int32.toInt (ir217 78 19) ≤ _ from by omega) h8 (fun q => by have q : Int32.toInt (ir217 78 19) = 0 := q; first | rfl | exact h9 (by omega) | (exfalso; omega)) hH hS (lv_sub hl [0, 2, 3] rfl)
              · have : Int32.toInt 0 = 0 := rfl
                have c218 := congrArg Int32.toInt c218
                refine lv_iconst (pc := 61) (v := 0) C0.1 C0.2.1 dX10_cutUp_61 (by decide) ?_
                exact xzret (pc := 62) C0 hr hH hS dX10_cutUp_62 (by decide) ⟨(RO.tr h3 honr217 (by decide) (by decide)), hTK, hHD, hPI, Or.inl rfl, fun _ => (by first | exact hplr217 (by first | assumption | exact Int32.toInt_inj.mp (by assumption)) | omega)⟩
        · have : Int32.toInt 10 = 10 := rfl
          have c203 := congrArg Int32.toInt c203
          refine lv_iconst (pc := 30) (v := 1) C0.1 C0.2.1 dX10_cutUp_30 (by decide) ?_
          refine lv_istore_n (pc := 31) (lv' := [(1, .int 1), (3, .int x202), (2, .int k), (0, .ref (b + 78))]) C0.1 C0.2.1 dX10_cutUp_31 rfl hl (by decide) rfl (fun ls hl => ?_)
          obtain ⟨x220, ex220⟩ : ∃ y_ : Int32, y_ = k + 1 := ⟨_, rfl⟩
          have : Int32.toInt 1 = 1 := rfl
          have hx220 : Int32.toInt x220 = Int32.toInt k + Int32.toInt 1 := by rw [ex220]; exact fb_addI (by omega) (by omega)
          refine lv_iinc (pc := 32) (v := x220) (lv' := [(2, .int x220), (1, .int 1), (3, .int x202), (0, .ref (b + 78))]) C0.1 C0.2.1 dX10_cutUp_32 hl (k := 2) rfl (by rw [ex220]; rfl) (by decide) rfl (fun ls hl => ?_)
          refine lv_goto (pc := 35) (tgt := 119) C0.1 C0.2.1 dX10_cutUp_35 (by decide) ?_
          refine lv_goto (pc := 119) (tgt := 9) C0.1 C0.2.1 dX10_cutUp_119 (by decide) ?_
          exact ih9 1 x220 iv Fv Gv _ _ _ (by omega) (by omega) h3 hTK hHD hPI (show Int32.toInt (iv 78 19) ≤ _ from by omega) (by decide) (fun q => by have q : Int32.toInt (iv 78 19) = 0 := q; first | rfl | exact h9 (by omega) | (exfalso; omega)) hH hS (lv_sub hl [0, 1, 3] rfl)
  refine lv_aload_n (pc := 0) C0.1 C0.2.1 dX10_cutUp_0 rfl (lv_at hl 0 rfl) ?_
  refine lv_iconst (pc := 1) (v := 0) C0.1 C0.2.1 dX10_cutUp_1 (by decide) ?_
  refine xputI (pc := 2) C0 (Nat.le_of_ble_eq_true rfl) hH hS 78 19 clX10 ⟨Nat.le_of_ble_eq_true rfl, Nat.le_of_ble_eq_true rfl⟩ ⟨rfl, rfl⟩ ⟨Nat.le_of_ble_eq_true rfl, rfl, rfl⟩ fl_X10_258 (x := 0) ⟨rfl, rfl⟩ dX10_cutUp_2 (fun _ locs hH hS _ => ?_)
  have hH : Hd D tA b 78 52 zz (up2 i 78 19 0) F G _ := hH
  refine lv_iconst (pc := 5) (v := 1) C0.1 C0.2.1 dX10_cutUp_5 (by decide) ?_
  refine lv_istore_n (pc := 6) (lv' := [(1, .int 1), (0, .ref (b + 78))]) C0.1 C0.2.1 dX10_cutUp_6 rfl hl (by decide) rfl (fun ls hl => ?_)
  refine lv_iconst (pc := 7) (v := 0) C0.1 C0.2.1 dX10_cutUp_7 (by decide) ?_
  refine lv_istore_n (pc := 8) (lv' := [(2, .int 0), (1, .int 1), (0, .ref (b + 78))]) C0.1 C0.2.1 dX10_cutUp_8 rfl hl (by decide) rfl (fun ls hl => ?_)
  exact L9 600 1 0 (up2 i 78 19 0) F G _ _ _ (by have : Int32.toInt 0 = 0 := rfl; omega) (by have : Int32.toInt 0 = 0 := rfl; omega) (RO.i RO.rf (by decide)) ⟨by show 0 ≤ Int32.toInt 0 ∧ Int32.toInt 0 ≤ 600; decide, hTA, fun k hk => absurd hk (by show ¬ (k : Int) < Int32.toInt 0; have : Int32.toInt 0 = 0 := rfl; omega)⟩ (fun q => absurd q (by show ¬ 0 < Int32.toInt 0; decide)) hPI (by show Int32.toInt 0 ≤ _; decide) (Or.inr rfl) (fun _ => rfl) hH hS (lv_sub hl [0, 1, 2] rfl)
