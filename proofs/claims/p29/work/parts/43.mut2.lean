set_option maxRecDepth 20000 in
theorem cw_X9_303 : CwV RX9 303 yX7_anyOn cX7_anyOn 3 (some .boolean) 1 := ⟨wm 981 (by decide +kernel) rfl, wm 982 (by decide +kernel) rfl, wm 983 (by decide +kernel) rfl, wm 5 (by decide +kernel) rfl, wm 984 rfl rfl, by decide +kernel⟩
set_option maxRecDepth 20000 in
theorem cw_X9_306 : CwV RX9 306 yX6_refusalOfSlide cX6_refusalOfSlide 5 (some .int) 2 := ⟨wm 985 (by decide +kernel) rfl, wm 606 (by decide +kernel) rfl, wm 607 (by decide +kernel) rfl, wm 3 (by decide +kernel) rfl, wm 608 rfl rfl, by decide +kernel⟩
set_option maxRecDepth 20000 in
theorem cw_X9_309 : CwV RX9 309 yX7_slideColumns cX7_slideColumns 8 none 4 := ⟨wm 986 (by decide +kernel) rfl, wm 987 (by decide +kernel) rfl, wm 988 (by decide +kernel) rfl, wm 5 (by decide +kernel) rfl, wm 989 rfl rfl, by decide +kernel⟩
set_option maxRecDepth 20000 in
theorem cw_X9_313 : CwV RX9 313 yX8_grow cX8_grow 4 none 2 := ⟨wm 993 (by decide +kernel) rfl, wm 701 (by decide +kernel) rfl, wm 702 (by decide +kernel) rfl, wm 6 (by decide +kernel) rfl, wm 703 rfl rfl, by decide +kernel⟩
set_option maxRecDepth 20000 in
theorem fl_X9_317 : Cond.fieldLink RX9 317 (TX8 4).1 (TX8 4).2.1 (TX8 4).2.2.1 ∈ WALL := wm 281 (by decide +kernel) rfl
set_option maxRecDepth 20000 in
theorem fl_X9_268 : Cond.fieldLink RX9 268 (TX9 9).1 (TX9 9).2.1 (TX9 9).2.2.1 ∈ WALL := wm 383 (by decide +kernel) rfl
set_option maxRecDepth 20000 in
theorem cw_X9_271 : CwV RX9 271 yX9_findMend cX9_findMend 5 (some .boolean) 0 := ⟨wm 977 (by decide +kernel) rfl, wm 979 (by decide +kernel) rfl, wms 35 (by decide +kernel) rfl, wm 1 (by decide +kernel) rfl, wm 980 rfl rfl, by decide +kernel⟩
set_option maxRecDepth 20000 in
theorem cw_X9_274 : CwS RX9 274 yJ7_fill_53178 cJ7_fill_53178 4 none 2 := ⟨wm 1002 (by decide +kernel) rfl, wm 1003 (by decide +kernel) rfl, wm 19 (by decide +kernel) rfl, wm 1004 rfl rfl, by decide +kernel⟩
set_option maxRecDepth 20000 in
theorem cw_X9_251 : CwV RX9 251 yX3_at cX3_at 2 (some .int) 1 := ⟨wm 948 (by decide +kernel) rfl, wm 949 (by decide +kernel) rfl, wm 950 (by decide +kernel) rfl, wm 10 (by decide +kernel) rfl, wm 951 rfl rfl, by decide +kernel⟩
set_option maxRecDepth 20000 in
theorem fl_X9_298 : Cond.fieldLink RX9 298 (TX3 2).1 (TX3 2).2.1 (TX3 2).2.2.1 ∈ WALL := wm 366 (by decide +kernel) rfl
set_option maxRecDepth 20000 in
theorem fl_X9_302 : Cond.fieldLink RX9 302 (TX3 1).1 (TX3 1).2.1 (TX3 1).2.2.1 ∈ WALL := wm 364 (by decide +kernel) rfl
set_option maxRecDepth 20000 in
theorem cw_X9_240 : CwV RX9 240 yX5_drawPlainly cX5_drawPlainly 9 none 3 := ⟨wm 875 (by decide +kernel) rfl, wm 876 (by decide +kernel) rfl, wm 877 (by decide +kernel) rfl, wm 9 (by decide +kernel) rfl, wm 878 rfl rfl, by decide +kernel⟩
set_option maxRecDepth 20000 in
theorem cw_X9_244 : CwV RX9 244 yX9_showDraft cX9_showDraft 2 (some .int) 0 := ⟨wm 908 (by decide +kernel) rfl, wm 910 (by decide +kernel) rfl, wms 27 (by decide +kernel) rfl, wm 1 (by decide +kernel) rfl, wm 911 rfl rfl, by decide +kernel⟩
set_option maxRecDepth 20000 in
theorem cw_X9_247 : CwV RX9 247 yX5_drawAnew cX5_drawAnew 10 (some .boolean) 4 := ⟨wm 916 (by decide +kernel) rfl, wm 917 (by decide +kernel) rfl, wm 918 (by decide +kernel) rfl, wm 9 (by decide +kernel) rfl, wm 919 rfl rfl, by decide +kernel⟩
set_option maxRecDepth 20000 in
theorem cw_X9_67 : CwV RX9 67 yX1_tellOpener cX1_tellOpener 6 (some .int) 2 := ⟨wm 421 (by decide +kernel) rfl, wm 422 (by decide +kernel) rfl, wm 423 (by decide +kernel) rfl, wm 2 (by decide +kernel) rfl, wm 424 rfl rfl, by decide +kernel⟩
set_option maxRecDepth 20000 in
theorem cw_X9_79 : CwV RX9 79 yX1_tellCloser cX1_tellCloser 5 (some .int) 1 := ⟨wm 559 (by decide +kernel) rfl, wm 560 (by decide +kernel) rfl, wm 561 (by decide +kernel) rfl, wm 2 (by decide +kernel) rfl, wm 562 rfl rfl, by decide +kernel⟩
set_option maxRecDepth 20000 in
theorem cw_X9_83 : CwV RX9 83 yX1_tellGoer cX1_tellGoer 2 (some .int) 1 := ⟨wm 567 (by decide +kernel) rfl, wm 568 (by decide +kernel) rfl, wm 569 (by decide +kernel) rfl, wm 2 (by decide +kernel) rfl, wm 570 rfl rfl, by decide +kernel⟩
set_option maxRecDepth 20000 in
theorem cw_X9_75 : CwV RX9 75 yX1_tellPair cX1_tellPair 3 (some .int) 2 := ⟨wm 551 (by decide +kernel) rfl, wm 552 (by decide +kernel) rfl, wm 553 (by decide +kernel) rfl, wm 2 (by decide +kernel) rfl, wm 554 rfl rfl, by decide +kernel⟩
set_option maxRecDepth 20000 in
theorem cw_X9_86 : CwV RX9 86 yX1_tellTab cX1_tellTab 3 (some .int) 1 := ⟨wm 575 (by decide +kernel) rfl, wm 576 (by decide +kernel) rfl, wm 577 (by decide +kernel) rfl, wm 2 (by decide +kernel) rfl, wm 578 rfl rfl, by decide +kernel⟩
theorem dX9_findMend_46 : decode cX9_findMend 46 = .ok (.iload_n 2, 1) := by decide +kernel
theorem dX9_findMend_47 : decode cX9_findMend 47 = .ok (.iconst 4, 1) := by decide +kernel
theorem dX9_findMend_48 : decode cX9_findMend 48 = .ok (.if_icmp .gt 170, 3) := by decide +kernel
theorem dX9_findMend_218 : decode cX9_findMend 218 = .ok (.iconst 0, 1) := by decide +kernel
theorem dX9_findMend_219 : decode cX9_findMend 219 = .ok (.ireturn, 1) := by decide +kernel
theorem dX9_findMend_53 : decode cX9_findMend 53 = .ok (.iload_n 3, 1) := by decide +kernel
theorem dX9_findMend_54 : decode cX9_findMend 54 = .ok (.iload_n 1, 1) := by decide +kernel
theorem dX9_findMend_55 : decode cX9_findMend 55 = .ok (.if_icmp .ge 157, 3) := by decide +kernel
theorem dX9_findMend_212 : decode cX9_findMend 212 = .ok (.iinc 2 1, 3) := by decide +kernel
theorem dX9_findMend_215 : decode cX9_findMend 215 = .ok (.goto (-169), 3) := by decide +kernel
theorem dX9_findMend_62 : decode cX9_findMend 62 = .ok (.iload 4, 2) := by decide +kernel
theorem dX9_findMend_64 : decode cX9_findMend 64 = .ok (.iload_n 2, 1) := by decide +kernel
theorem dX9_findMend_65 : decode cX9_findMend 65 = .ok (.if_icmp .gt 141, 3) := by decide +kernel
theorem dX9_findMend_206 : decode cX9_findMend 206 = .ok (.iinc 3 1, 3) := by decide +kernel
theorem dX9_findMend_209 : decode cX9_findMend 209 = .ok (.goto (-156), 3) := by decide +kernel
theorem dX9_findMend_68 : decode cX9_findMend 68 = .ok (.aload_n 0, 1) := by decide +kernel
theorem dX9_findMend_69 : decode cX9_findMend 69 = .ok (.getfield 29, 3) := by decide +kernel
theorem dX9_findMend_72 : decode cX9_findMend 72 = .ok (.getfield 118, 3) := by decide +kernel
theorem dX9_findMend_75 : decode cX9_findMend 75 = .ok (.iload_n 3, 1) := by decide +kernel
theorem dX9_findMend_76 : decode cX9_findMend 76 = .ok (.invokevirtual 303, 3) := by decide +kernel
theorem dX9_findMend_79 : decode cX9_findMend 79 = .ok (.ifCond .eq 127, 3) := by decide +kernel
theorem dX9_findMend_82 : decode cX9_findMend 82 = .ok (.aload_n 0, 1) := by decide +kernel
theorem dX9_findMend_83 : decode cX9_findMend 83 = .ok (.getfield 19, 3) := by decide +kernel
theorem dX9_findMend_86 : decode cX9_findMend 86 = .ok (.iload_n 3, 1) := by decide +kernel
theorem dX9_findMend_87 : decode cX9_findMend 87 = .ok (.iload 4, 2) := by decide +kernel
theorem dX9_findMend_89 : decode cX9_findMend 89 = .ok (.invokevirtual 306, 3) := by decide +kernel
theorem dX9_findMend_92 : decode cX9_findMend 92 = .ok (.ifCond .eq 6, 3) := by decide +kernel
theorem dX9_findMend_98 : decode cX9_findMend 98 = .ok (.aload_n 0, 1) := by decide +kernel
theorem dX9_findMend_99 : decode cX9_findMend 99 = .ok (.getfield 29, 3) := by decide +kernel
theorem dX9_findMend_102 : decode cX9_findMend 102 = .ok (.getfield 118, 3) := by decide +kernel
theorem dX9_findMend_105 : decode cX9_findMend 105 = .ok (.aload_n 0, 1) := by decide +kernel
theorem dX9_findMend_106 : decode cX9_findMend 106 = .ok (.getfield 19, 3) := by decide +kernel
theorem dX9_findMend_109 : decode cX9_findMend 109 = .ok (.iload_n 3, 1) := by decide +kernel
theorem dX9_findMend_110 : decode cX9_findMend 110 = .ok (.iload 4, 2) := by decide +kernel
theorem dX9_findMend_112 : decode cX9_findMend 112 = .ok (.aload_n 0, 1) := by decide +kernel
theorem dX9_findMend_113 : decode cX9_findMend 113 = .ok (.getfield 12, 3) := by decide +kernel
theorem dX9_findMend_116 : decode cX9_findMend 116 = .ok (.getfield 292, 3) := by decide +kernel
theorem dX9_findMend_119 : decode cX9_findMend 119 = .ok (.invokevirtual 309, 3) := by decide +kernel
theorem dX9_findMend_122 : decode cX9_findMend 122 = .ok (.aload_n 0, 1) := by decide +kernel
theorem dX9_findMend_123 : decode cX9_findMend 123 = .ok (.getfield 33, 3) := by decide +kernel
theorem dX9_findMend_126 : decode cX9_findMend 126 = .ok (.getfield 133, 3) := by decide +kernel
theorem dX9_findMend_129 : decode cX9_findMend 129 = .ok (.aload_n 0, 1) := by decide +kernel
theorem dX9_findMend_130 : decode cX9_findMend 130 = .ok (.getfield 29, 3) := by decide +kernel
theorem dX9_findMend_133 : decode cX9_findMend 133 = .ok (.getfield 118, 3) := by decide +kernel
theorem dX9_findMend_136 : decode cX9_findMend 136 = .ok (.aload_n 0, 1) := by decide +kernel
theorem dX9_findMend_137 : decode cX9_findMend 137 = .ok (.getfield 19, 3) := by decide +kernel
theorem dX9_findMend_140 : decode cX9_findMend 140 = .ok (.getfield 102, 3) := by decide +kernel
theorem dX9_findMend_143 : decode cX9_findMend 143 = .ok (.invokevirtual 313, 3) := by decide +kernel
theorem dX9_findMend_146 : decode cX9_findMend 146 = .ok (.aload_n 0, 1) := by decide +kernel
theorem dX9_findMend_147 : decode cX9_findMend 147 = .ok (.getfield 29, 3) := by decide +kernel
theorem dX9_findMend_150 : decode cX9_findMend 150 = .ok (.getfield 118, 3) := by decide +kernel
theorem dX9_findMend_153 : decode cX9_findMend 153 = .ok (.aload_n 0, 1) := by decide +kernel
theorem dX9_findMend_154 : decode cX9_findMend 154 = .ok (.getfield 19, 3) := by decide +kernel
theorem dX9_findMend_157 : decode cX9_findMend 157 = .ok (.iload_n 3, 1) := by decide +kernel
theorem dX9_findMend_158 : decode cX9_findMend 158 = .ok (.iconst 0, 1) := by decide +kernel
theorem dX9_findMend_159 : decode cX9_findMend 159 = .ok (.aload_n 0, 1) := by decide +kernel
theorem dX9_findMend_160 : decode cX9_findMend 160 = .ok (.getfield 12, 3) := by decide +kernel
theorem dX9_findMend_163 : decode cX9_findMend 163 = .ok (.getfield 292, 3) := by decide +kernel
theorem dX9_findMend_166 : decode cX9_findMend 166 = .ok (.invokevirtual 309, 3) := by decide +kernel
theorem dX9_findMend_169 : decode cX9_findMend 169 = .ok (.aload_n 0, 1) := by decide +kernel
theorem dX9_findMend_170 : decode cX9_findMend 170 = .ok (.getfield 33, 3) := by decide +kernel
theorem dX9_findMend_173 : decode cX9_findMend 173 = .ok (.getfield 133, 3) := by decide +kernel
theorem dX9_findMend_176 : decode cX9_findMend 176 = .ok (.getfield 317, 3) := by decide +kernel
theorem dX9_findMend_179 : decode cX9_findMend 179 = .ok (.ifCond .ne 16, 3) := by decide +kernel
theorem dX9_findMend_195 : decode cX9_findMend 195 = .ok (.iload 4, 2) := by decide +kernel
theorem dX9_findMend_197 : decode cX9_findMend 197 = .ok (.iconst 2, 1) := by decide +kernel
theorem dX9_findMend_198 : decode cX9_findMend 198 = .ok (.iload_n 2, 1) := by decide +kernel
theorem dX9_findMend_199 : decode cX9_findMend 199 = .ok (.imul, 1) := by decide +kernel
theorem dX9_findMend_200 : decode cX9_findMend 200 = .ok (.iadd, 1) := by decide +kernel
theorem dX9_findMend_201 : decode cX9_findMend 201 = .ok (.istore 4, 2) := by decide +kernel
theorem dX9_findMend_203 : decode cX9_findMend 203 = .ok (.goto (-141), 3) := by decide +kernel
theorem dX9_findMend_182 : decode cX9_findMend 182 = .ok (.aload_n 0, 1) := by decide +kernel
theorem dX9_findMend_183 : decode cX9_findMend 183 = .ok (.iload_n 3, 1) := by decide +kernel
theorem dX9_findMend_184 : decode cX9_findMend 184 = .ok (.putfield 57, 3) := by decide +kernel
theorem dX9_findMend_187 : decode cX9_findMend 187 = .ok (.aload_n 0, 1) := by decide +kernel
theorem dX9_findMend_188 : decode cX9_findMend 188 = .ok (.iload 4, 2) := by decide +kernel
theorem dX9_findMend_190 : decode cX9_findMend 190 = .ok (.putfield 60, 3) := by decide +kernel
theorem dX9_findMend_193 : decode cX9_findMend 193 = .ok (.iconst 1, 1) := by decide +kernel
theorem dX9_findMend_194 : decode cX9_findMend 194 = .ok (.ireturn, 1) := by decide +kernel
theorem dX9_findMend_95 : decode cX9_findMend 95 = .ok (.goto 100, 3) := by decide +kernel
theorem dX9_findMend_58 : decode cX9_findMend 58 = .ok (.iload_n 2, 1) := by decide +kernel
theorem dX9_findMend_59 : decode cX9_findMend 59 = .ok (.ineg, 1) := by decide +kernel
theorem dX9_findMend_60 : decode cX9_findMend 60 = .ok (.istore 4, 2) := by decide +kernel
theorem dX9_findMend_51 : decode cX9_findMend 51 = .ok (.iconst 0, 1) := by decide +kernel
theorem dX9_findMend_52 : decode cX9_findMend 52 = .ok (.istore_n 3, 1) := by decide +kernel
theorem dX9_findMend_0 : decode cX9_findMend 0 = .ok (.aload_n 0, 1) := by decide +kernel
theorem dX9_findMend_1 : decode cX9_findMend 1 = .ok (.getfield 29, 3) := by decide +kernel
theorem dX9_findMend_4 : decode cX9_findMend 4 = .ok (.getfield 112, 3) := by decide +kernel
theorem dX9_findMend_7 : decode cX9_findMend 7 = .ok (.iconst 3, 1) := by decide +kernel
theorem dX9_findMend_8 : decode cX9_findMend 8 = .ok (.if_icmp .eq 16, 3) := by decide +kernel
theorem dX9_findMend_24 : decode cX9_findMend 24 = .ok (.aload_n 0, 1) := by decide +kernel
theorem dX9_findMend_25 : decode cX9_findMend 25 = .ok (.getfield 19, 3) := by decide +kernel
theorem dX9_findMend_28 : decode cX9_findMend 28 = .ok (.invokevirtual 153, 3) := by decide +kernel
theorem dX9_findMend_31 : decode cX9_findMend 31 = .ok (.aload_n 0, 1) := by decide +kernel
theorem dX9_findMend_32 : decode cX9_findMend 32 = .ok (.getfield 29, 3) := by decide +kernel
theorem dX9_findMend_35 : decode cX9_findMend 35 = .ok (.getfield 127, 3) := by decide +kernel
theorem dX9_findMend_38 : decode cX9_findMend 38 = .ok (.iconst 1, 1) := by decide +kernel
theorem dX9_findMend_39 : decode cX9_findMend 39 = .ok (.iadd, 1) := by decide +kernel
theorem dX9_findMend_40 : decode cX9_findMend 40 = .ok (.invokestatic 260, 3) := by decide +kernel
theorem dX9_findMend_43 : decode cX9_findMend 43 = .ok (.istore_n 1, 1) := by decide +kernel
theorem dX9_findMend_44 : decode cX9_findMend 44 = .ok (.iconst 1, 1) := by decide +kernel
theorem dX9_findMend_45 : decode cX9_findMend 45 = .ok (.istore_n 2, 1) := by decide +kernel
theorem dX9_findMend_11 : decode cX9_findMend 11 = .ok (.aload_n 0, 1) := by decide +kernel
theorem dX9_findMend_12 : decode cX9_findMend 12 = .ok (.getfield 29, 3) := by decide +kernel
theorem dX9_findMend_15 : decode cX9_findMend 15 = .ok (.getfield 112, 3) := by decide +kernel
theorem dX9_findMend_18 : decode cX9_findMend 18 = .ok (.iconst 4, 1) := by decide +kernel
theorem dX9_findMend_19 : decode cX9_findMend 19 = .ok (.if_icmp .eq 5, 3) := by decide +kernel
theorem dX9_findMend_22 : decode cX9_findMend 22 = .ok (.iconst 0, 1) := by decide +kernel
theorem dX9_findMend_23 : decode cX9_findMend 23 = .ok (.ireturn, 1) := by decide +kernel
theorem dX9_mend_0 : decode cX9_mend 0 = .ok (.aload_n 0, 1) := by decide +kernel
theorem dX9_mend_1 : decode cX9_mend 1 = .ok (.getfield 53, 3) := by decide +kernel
theorem dX9_mend_4 : decode cX9_mend 4 = .ok (.iconst 2, 1) := by decide +kernel
theorem dX9_mend_5 : decode cX9_mend 5 = .ok (.if_icmp .eq 6, 3) := by decide +kernel
theorem dX9_mend_11 : decode cX9_mend 11 = .ok (.aload_n 0, 1) := by decide +kernel
theorem dX9_mend_12 : decode cX9_mend 12 = .ok (.getfield 268, 3) := by decide +kernel
theorem dX9_mend_15 : decode cX9_mend 15 = .ok (.bipush 30, 2) := by decide +kernel
theorem dX9_mend_17 : decode cX9_mend 17 = .ok (.if_icmp .lt 6, 3) := by decide +kernel
theorem dX9_mend_23 : decode cX9_mend 23 = .ok (.aload_n 0, 1) := by decide +kernel
theorem dX9_mend_24 : decode cX9_mend 24 = .ok (.bipush (-9), 2) := by decide +kernel
theorem dX9_mend_26 : decode cX9_mend 26 = .ok (.putfield 57, 3) := by decide +kernel
theorem dX9_mend_29 : decode cX9_mend 29 = .ok (.aload_n 0, 1) := by decide +kernel
theorem dX9_mend_30 : decode cX9_mend 30 = .ok (.bipush (-9), 2) := by decide +kernel
theorem dX9_mend_32 : decode cX9_mend 32 = .ok (.putfield 60, 3) := by decide +kernel
theorem dX9_mend_35 : decode cX9_mend 35 = .ok (.aload_n 0, 1) := by decide +kernel
theorem dX9_mend_36 : decode cX9_mend 36 = .ok (.invokevirtual 271, 3) := by decide +kernel
theorem dX9_mend_39 : decode cX9_mend 39 = .ok (.ifCond .ne 5, 3) := by decide +kernel
theorem dX9_mend_44 : decode cX9_mend 44 = .ok (.aload_n 0, 1) := by decide +kernel
theorem dX9_mend_45 : decode cX9_mend 45 = .ok (.getfield 19, 3) := by decide +kernel
theorem dX9_mend_48 : decode cX9_mend 48 = .ok (.aload_n 0, 1) := by decide +kernel
theorem dX9_mend_49 : decode cX9_mend 49 = .ok (.getfield 57, 3) := by decide +kernel
theorem dX9_mend_52 : decode cX9_mend 52 = .ok (.aload_n 0, 1) := by decide +kernel
theorem dX9_mend_53 : decode cX9_mend 53 = .ok (.getfield 60, 3) := by decide +kernel
theorem dX9_mend_56 : decode cX9_mend 56 = .ok (.invokevirtual 95, 3) := by decide +kernel
theorem dX9_mend_59 : decode cX9_mend 59 = .ok (.pop, 1) := by decide +kernel
theorem dX9_mend_60 : decode cX9_mend 60 = .ok (.aload_n 0, 1) := by decide +kernel
theorem dX9_mend_61 : decode cX9_mend 61 = .ok (.dup, 1) := by decide +kernel
theorem dX9_mend_62 : decode cX9_mend 62 = .ok (.getfield 268, 3) := by decide +kernel
theorem dX9_mend_65 : decode cX9_mend 65 = .ok (.iconst 1, 1) := by decide +kernel
theorem dX9_mend_66 : decode cX9_mend 66 = .ok (.iadd, 1) := by decide +kernel
theorem dX9_mend_67 : decode cX9_mend 67 = .ok (.putfield 268, 3) := by decide +kernel
theorem dX9_mend_70 : decode cX9_mend 70 = .ok (.aload_n 0, 1) := by decide +kernel
theorem dX9_mend_71 : decode cX9_mend 71 = .ok (.iconst 0, 1) := by decide +kernel
theorem dX9_mend_72 : decode cX9_mend 72 = .ok (.putfield 53, 3) := by decide +kernel
theorem dX9_mend_75 : decode cX9_mend 75 = .ok (.iconst 1, 1) := by decide +kernel
theorem dX9_mend_76 : decode cX9_mend 76 = .ok (.ireturn, 1) := by decide +kernel
theorem dX9_mend_42 : decode cX9_mend 42 = .ok (.iconst 0, 1) := by decide +kernel
theorem dX9_mend_43 : decode cX9_mend 43 = .ok (.ireturn, 1) := by decide +kernel
theorem dX9_mend_20 : decode cX9_mend 20 = .ok (.bipush (-4), 2) := by decide +kernel
theorem dX9_mend_22 : decode cX9_mend 22 = .ok (.ireturn, 1) := by decide +kernel
theorem dX9_mend_8 : decode cX9_mend 8 = .ok (.bipush (-3), 2) := by decide +kernel
theorem dX9_mend_10 : decode cX9_mend 10 = .ok (.ireturn, 1) := by decide +kernel
theorem dJ7_fill_53178_0 : decode cJ7_fill_53178 0 = .ok (.iconst 0, 1) := by decide +kernel
theorem dJ7_fill_53178_1 : decode cJ7_fill_53178 1 = .ok (.istore_n 2, 1) := by decide +kernel
theorem dJ7_fill_53178_2 : decode cJ7_fill_53178 2 = .ok (.aload_n 0, 1) := by decide +kernel
theorem dJ7_fill_53178_3 : decode cJ7_fill_53178 3 = .ok (.arraylength, 1) := by decide +kernel
theorem dJ7_fill_53178_4 : decode cJ7_fill_53178 4 = .ok (.istore_n 3, 1) := by decide +kernel
theorem dJ7_fill_53178_5 : decode cJ7_fill_53178 5 = .ok (.iload_n 2, 1) := by decide +kernel
theorem dJ7_fill_53178_6 : decode cJ7_fill_53178 6 = .ok (.iload_n 3, 1) := by decide +kernel
theorem dJ7_fill_53178_7 : decode cJ7_fill_53178 7 = .ok (.if_icmp .ge 13, 3) := by decide +kernel
theorem dJ7_fill_53178_20 : decode cJ7_fill_53178 20 = .ok (.return_, 1) := by decide +kernel
theorem dJ7_fill_53178_10 : decode cJ7_fill_53178 10 = .ok (.aload_n 0, 1) := by decide +kernel
theorem dJ7_fill_53178_11 : decode cJ7_fill_53178 11 = .ok (.iload_n 2, 1) := by decide +kernel
theorem dJ7_fill_53178_12 : decode cJ7_fill_53178 12 = .ok (.iload_n 1, 1) := by decide +kernel
theorem dJ7_fill_53178_13 : decode cJ7_fill_53178 13 = .ok (.iastore, 1) := by decide +kernel
theorem dJ7_fill_53178_14 : decode cJ7_fill_53178 14 = .ok (.iinc 2 1, 3) := by decide +kernel
theorem dJ7_fill_53178_17 : decode cJ7_fill_53178 17 = .ok (.goto (-12), 3) := by decide +kernel
theorem dX9_marks_0 : decode cX9_marks 0 = .ok (.iload_n 1, 1) := by decide +kernel
theorem dX9_marks_1 : decode cX9_marks 1 = .ok (.ifCond .ge 6, 3) := by decide +kernel
theorem dX9_marks_7 : decode cX9_marks 7 = .ok (.iload_n 1, 1) := by decide +kernel
theorem dX9_marks_8 : decode cX9_marks 8 = .ok (.sipush 200, 3) := by decide +kernel
theorem dX9_marks_11 : decode cX9_marks 11 = .ok (.if_icmp .le 6, 3) := by decide +kernel
theorem dX9_marks_17 : decode cX9_marks 17 = .ok (.aload_n 0, 1) := by decide +kernel
theorem dX9_marks_18 : decode cX9_marks 18 = .ok (.getfield 63, 3) := by decide +kernel
theorem dX9_marks_21 : decode cX9_marks 21 = .ok (.iconst 0, 1) := by decide +kernel
theorem dX9_marks_22 : decode cX9_marks 22 = .ok (.invokestatic 274, 3) := by decide +kernel
theorem dX9_marks_25 : decode cX9_marks 25 = .ok (.aload_n 0, 1) := by decide +kernel
theorem dX9_marks_26 : decode cX9_marks 26 = .ok (.iload_n 1, 1) := by decide +kernel
theorem dX9_marks_27 : decode cX9_marks 27 = .ok (.putfield 280, 3) := by decide +kernel
theorem dX9_marks_30 : decode cX9_marks 30 = .ok (.iload_n 1, 1) := by decide +kernel
theorem dX9_marks_31 : decode cX9_marks 31 = .ok (.ireturn, 1) := by decide +kernel
theorem dX9_marks_14 : decode cX9_marks 14 = .ok (.bipush (-2), 2) := by decide +kernel
theorem dX9_marks_16 : decode cX9_marks 16 = .ok (.ireturn, 1) := by decide +kernel
theorem dX9_marks_4 : decode cX9_marks 4 = .ok (.bipush (-13), 2) := by decide +kernel
theorem dX9_marks_6 : decode cX9_marks 6 = .ok (.ireturn, 1) := by decide +kernel
theorem dX9_written_0 : decode cX9_written 0 = .ok (.aload_n 0, 1) := by decide +kernel
theorem dX9_written_1 : decode cX9_written 1 = .ok (.getfield 46, 3) := by decide +kernel
theorem dX9_written_4 : decode cX9_written 4 = .ok (.iload_n 1, 1) := by decide +kernel
theorem dX9_written_5 : decode cX9_written 5 = .ok (.invokevirtual 251, 3) := by decide +kernel
theorem dX9_written_8 : decode cX9_written 8 = .ok (.ireturn, 1) := by decide +kernel
theorem dX9_showDraft_0 : decode cX9_showDraft 0 = .ok (.aload_n 0, 1) := by decide +kernel
theorem dX9_showDraft_1 : decode cX9_showDraft 1 = .ok (.getfield 50, 3) := by decide +kernel
theorem dX9_showDraft_4 : decode cX9_showDraft 4 = .ok (.getfield 298, 3) := by decide +kernel
theorem dX9_showDraft_7 : decode cX9_showDraft 7 = .ok (.ifCond .eq 6, 3) := by decide +kernel
theorem dX9_showDraft_13 : decode cX9_showDraft 13 = .ok (.aload_n 0, 1) := by decide +kernel
theorem dX9_showDraft_14 : decode cX9_showDraft 14 = .ok (.getfield 46, 3) := by decide +kernel
theorem dX9_showDraft_17 : decode cX9_showDraft 17 = .ok (.astore_n 1, 1) := by decide +kernel
theorem dX9_showDraft_18 : decode cX9_showDraft 18 = .ok (.aload_n 0, 1) := by decide +kernel
theorem dX9_showDraft_19 : decode cX9_showDraft 19 = .ok (.aload_n 0, 1) := by decide +kernel
theorem dX9_showDraft_20 : decode cX9_showDraft 20 = .ok (.getfield 50, 3) := by decide +kernel
theorem dX9_showDraft_23 : decode cX9_showDraft 23 = .ok (.putfield 46, 3) := by decide +kernel
theorem dX9_showDraft_26 : decode cX9_showDraft 26 = .ok (.aload_n 0, 1) := by decide +kernel
theorem dX9_showDraft_27 : decode cX9_showDraft 27 = .ok (.aload_n 1, 1) := by decide +kernel
theorem dX9_showDraft_28 : decode cX9_showDraft 28 = .ok (.putfield 50, 3) := by decide +kernel
theorem dX9_showDraft_31 : decode cX9_showDraft 31 = .ok (.aload_n 0, 1) := by decide +kernel
theorem dX9_showDraft_32 : decode cX9_showDraft 32 = .ok (.getfield 46, 3) := by decide +kernel
theorem dX9_showDraft_35 : decode cX9_showDraft 35 = .ok (.getfield 302, 3) := by decide +kernel
theorem dX9_showDraft_38 : decode cX9_showDraft 38 = .ok (.ireturn, 1) := by decide +kernel
theorem dX9_showDraft_10 : decode cX9_showDraft 10 = .ok (.bipush (-4), 2) := by decide +kernel
theorem dX9_showDraft_12 : decode cX9_showDraft 12 = .ok (.ireturn, 1) := by decide +kernel
theorem dX9_plain_0 : decode cX9_plain 0 = .ok (.aload_n 0, 1) := by decide +kernel
theorem dX9_plain_1 : decode cX9_plain 1 = .ok (.getfield 53, 3) := by decide +kernel
theorem dX9_plain_4 : decode cX9_plain 4 = .ok (.iconst 1, 1) := by decide +kernel
theorem dX9_plain_5 : decode cX9_plain 5 = .ok (.if_icmp .eq 6, 3) := by decide +kernel
theorem dX9_plain_11 : decode cX9_plain 11 = .ok (.aload_n 0, 1) := by decide +kernel
theorem dX9_plain_12 : decode cX9_plain 12 = .ok (.getfield 39, 3) := by decide +kernel
theorem dX9_plain_15 : decode cX9_plain 15 = .ok (.aload_n 0, 1) := by decide +kernel
theorem dX9_plain_16 : decode cX9_plain 16 = .ok (.getfield 29, 3) := by decide +kernel
theorem dX9_plain_19 : decode cX9_plain 19 = .ok (.aload_n 0, 1) := by decide +kernel
theorem dX9_plain_20 : decode cX9_plain 20 = .ok (.getfield 19, 3) := by decide +kernel
theorem dX9_plain_23 : decode cX9_plain 23 = .ok (.aload_n 0, 1) := by decide +kernel
theorem dX9_plain_24 : decode cX9_plain 24 = .ok (.getfield 50, 3) := by decide +kernel
theorem dX9_plain_27 : decode cX9_plain 27 = .ok (.invokevirtual 240, 3) := by decide +kernel
theorem dX9_plain_30 : decode cX9_plain 30 = .ok (.aload_n 0, 1) := by decide +kernel
theorem dX9_plain_31 : decode cX9_plain 31 = .ok (.invokevirtual 244, 3) := by decide +kernel
theorem dX9_plain_34 : decode cX9_plain 34 = .ok (.ireturn, 1) := by decide +kernel
theorem dX9_plain_8 : decode cX9_plain 8 = .ok (.bipush (-3), 2) := by decide +kernel
theorem dX9_plain_10 : decode cX9_plain 10 = .ok (.ireturn, 1) := by decide +kernel
theorem dX9_write_0 : decode cX9_write 0 = .ok (.iload_n 1, 1) := by decide +kernel
theorem dX9_write_1 : decode cX9_write 1 = .ok (.iconst 1, 1) := by decide +kernel
theorem dX9_write_2 : decode cX9_write 2 = .ok (.if_icmp .lt 9, 3) := by decide +kernel
theorem dX9_write_11 : decode cX9_write 11 = .ok (.bipush (-2), 2) := by decide +kernel
theorem dX9_write_13 : decode cX9_write 13 = .ok (.ireturn, 1) := by decide +kernel
theorem dX9_write_5 : decode cX9_write 5 = .ok (.iload_n 1, 1) := by decide +kernel
theorem dX9_write_6 : decode cX9_write 6 = .ok (.bipush 8, 2) := by decide +kernel
theorem dX9_write_8 : decode cX9_write 8 = .ok (.if_icmp .le 6, 3) := by decide +kernel
theorem dX9_write_14 : decode cX9_write 14 = .ok (.aload_n 0, 1) := by decide +kernel
theorem dX9_write_15 : decode cX9_write 15 = .ok (.getfield 53, 3) := by decide +kernel
theorem dX9_write_18 : decode cX9_write 18 = .ok (.iconst 1, 1) := by decide +kernel
theorem dX9_write_19 : decode cX9_write 19 = .ok (.if_icmp .ne 26, 3) := by decide +kernel
theorem dX9_write_45 : decode cX9_write 45 = .ok (.bipush (-3), 2) := by decide +kernel
theorem dX9_write_47 : decode cX9_write 47 = .ok (.ireturn, 1) := by decide +kernel
theorem dX9_write_22 : decode cX9_write 22 = .ok (.aload_n 0, 1) := by decide +kernel
theorem dX9_write_23 : decode cX9_write 23 = .ok (.getfield 39, 3) := by decide +kernel
theorem dX9_write_26 : decode cX9_write 26 = .ok (.aload_n 0, 1) := by decide +kernel
theorem dX9_write_27 : decode cX9_write 27 = .ok (.getfield 29, 3) := by decide +kernel
theorem dX9_write_30 : decode cX9_write 30 = .ok (.aload_n 0, 1) := by decide +kernel
theorem dX9_write_31 : decode cX9_write 31 = .ok (.getfield 19, 3) := by decide +kernel
theorem dX9_write_34 : decode cX9_write 34 = .ok (.aload_n 0, 1) := by decide +kernel
theorem dX9_write_35 : decode cX9_write 35 = .ok (.getfield 50, 3) := by decide +kernel
theorem dX9_write_38 : decode cX9_write 38 = .ok (.iload_n 1, 1) := by decide +kernel
theorem dX9_write_39 : decode cX9_write 39 = .ok (.invokevirtual 247, 3) := by decide +kernel
theorem dX9_write_42 : decode cX9_write 42 = .ok (.ifCond .ne 6, 3) := by decide +kernel
theorem dX9_write_48 : decode cX9_write 48 = .ok (.aload_n 0, 1) := by decide +kernel
theorem dX9_write_49 : decode cX9_write 49 = .ok (.invokevirtual 244, 3) := by decide +kernel
theorem dX9_write_52 : decode cX9_write 52 = .ok (.ireturn, 1) := by decide +kernel
theorem dX9_opener_0 : decode cX9_opener 0 = .ok (.aload_n 0, 1) := by decide +kernel
theorem dX9_opener_1 : decode cX9_opener 1 = .ok (.aload_n 0, 1) := by decide +kernel
theorem dX9_opener_2 : decode cX9_opener 2 = .ok (.getfield 12, 3) := by decide +kernel
theorem dX9_opener_5 : decode cX9_opener 5 = .ok (.lload_n 1, 1) := by decide +kernel
theorem dX9_opener_6 : decode cX9_opener 6 = .ok (.iload_n 3, 1) := by decide +kernel
theorem dX9_opener_7 : decode cX9_opener 7 = .ok (.invokevirtual 67, 3) := by decide +kernel
theorem dX9_opener_10 : decode cX9_opener 10 = .ok (.invokevirtual 71, 3) := by decide +kernel
theorem dX9_opener_13 : decode cX9_opener 13 = .ok (.ireturn, 1) := by decide +kernel
theorem dX9_closer_0 : decode cX9_closer 0 = .ok (.aload_n 0, 1) := by decide +kernel
theorem dX9_closer_1 : decode cX9_closer 1 = .ok (.aload_n 0, 1) := by decide +kernel
theorem dX9_closer_2 : decode cX9_closer 2 = .ok (.getfield 12, 3) := by decide +kernel
theorem dX9_closer_5 : decode cX9_closer 5 = .ok (.lload_n 1, 1) := by decide +kernel
theorem dX9_closer_6 : decode cX9_closer 6 = .ok (.invokevirtual 79, 3) := by decide +kernel
theorem dX9_closer_9 : decode cX9_closer 9 = .ok (.invokevirtual 71, 3) := by decide +kernel
theorem dX9_closer_12 : decode cX9_closer 12 = .ok (.ireturn, 1) := by decide +kernel
theorem dX9_goer_0 : decode cX9_goer 0 = .ok (.aload_n 0, 1) := by decide +kernel
theorem dX9_goer_1 : decode cX9_goer 1 = .ok (.aload_n 0, 1) := by decide +kernel
theorem dX9_goer_2 : decode cX9_goer 2 = .ok (.getfield 12, 3) := by decide +kernel
theorem dX9_goer_5 : decode cX9_goer 5 = .ok (.iload_n 1, 1) := by decide +kernel
theorem dX9_goer_6 : decode cX9_goer 6 = .ok (.invokevirtual 83, 3) := by decide +kernel
theorem dX9_goer_9 : decode cX9_goer 9 = .ok (.invokevirtual 71, 3) := by decide +kernel
theorem dX9_goer_12 : decode cX9_goer 12 = .ok (.ireturn, 1) := by decide +kernel
theorem dX9_pair_0 : decode cX9_pair 0 = .ok (.aload_n 0, 1) := by decide +kernel
theorem dX9_pair_1 : decode cX9_pair 1 = .ok (.aload_n 0, 1) := by decide +kernel
theorem dX9_pair_2 : decode cX9_pair 2 = .ok (.getfield 12, 3) := by decide +kernel
theorem dX9_pair_5 : decode cX9_pair 5 = .ok (.iload_n 1, 1) := by decide +kernel
theorem dX9_pair_6 : decode cX9_pair 6 = .ok (.iload_n 2, 1) := by decide +kernel
theorem dX9_pair_7 : decode cX9_pair 7 = .ok (.invokevirtual 75, 3) := by decide +kernel
theorem dX9_pair_10 : decode cX9_pair 10 = .ok (.invokevirtual 71, 3) := by decide +kernel
theorem dX9_pair_13 : decode cX9_pair 13 = .ok (.ireturn, 1) := by decide +kernel
theorem dX9_tab_0 : decode cX9_tab 0 = .ok (.aload_n 0, 1) := by decide +kernel
theorem dX9_tab_1 : decode cX9_tab 1 = .ok (.aload_n 0, 1) := by decide +kernel
theorem dX9_tab_2 : decode cX9_tab 2 = .ok (.getfield 12, 3) := by decide +kernel
theorem dX9_tab_5 : decode cX9_tab 5 = .ok (.iload_n 1, 1) := by decide +kernel
theorem dX9_tab_6 : decode cX9_tab 6 = .ok (.invokevirtual 86, 3) := by decide +kernel
theorem dX9_tab_9 : decode cX9_tab 9 = .ok (.invokevirtual 71, 3) := by decide +kernel
theorem dX9_tab_12 : decode cX9_tab 12 = .ok (.ireturn, 1) := by decide +kernel
set_option maxHeartbeats 4000000 in
set_option maxRecDepth 100000 in
theorem g_X9_findMend (l : Launch) (D : va_G) (tA : Nat → ClassId) (b : Nat) (i F : Nat → Nat → Int32) (G : Nat → Nat → Int64)  (hI : IC i F) (htd : 0 ≤ (i 1 2).toInt ∧ (i 1 2).toInt ≤ 24) : xMI l yX9_findMend cX9_findMend 5 (some .boolean) 6 143 D tA b 0 78 i F G [.ref (b + 0)] (fun r u => IC u.1 u.2.1 ∧ u.1 1 = i 1 ∧ u.2.1 3 = F 3 ∧ u.2.2 = G) := by
  refine xstart RX9 rfl (by decide) (Nat.le_of_ble_eq_true rfl) ?_
  intro p e s m below meth c ls C0 hr hH hS hl
  have hl : lv_has ls 5 [(0, .ref (b + 0))] := hl
  have hI0 := hI
  obtain ⟨hsz, hbf, hsz6, hbf7, htk, hF, hQ, htk2, hG, hQ2, hPg, hpt, hrw⟩ := hI0
  have hL := Tf17.lin hF
  have hL2 := Tf48.lin hG
  have hBs : i 1 = i 1 ∧ F 3 = F 3 ∧ G = G := ⟨rfl, rfl, rfl⟩
  have L46 : ∀ (d : Nat) (fa ln : Int32) (iv Fv : Nat → Nat → Int32) (Gv : Nat → Nat → Int64) (H : Heap) (locs : List Loc) (ls : Array Slot), (IC iv Fv) → (iv 1 = i 1 ∧ Fv 3 = F 3 ∧ Gv = G) → (5 - fa.toInt ≤ d) → (1 ≤ fa.toInt ∧ fa.toInt ≤ 5) → Hd D tA b 0 78 zz iv Fv Gv H → va_S (xA b 0 78) s.heap H locs → lv_has ls 5 [(2, .int fa), (1, .int ln), (0, .ref (b + 0))] → W p l e (xR 6 143) s m ([.ref (b + 0)] : List Value).toArray below meth c H locs 0 0 (MQ below (va_Qi (fun r u => IC u.1 u.2.1 ∧ u.1 1 = i 1 ∧ u.2.1 3 = F 3 ∧ u.2.2 = G) (xB D tA b 0 78 zz) (xA b 0 78)) ([.ref (b + 0)] : List Value).toArray s 0 0 (xA b 0 78)) (F0 m 46 ls []) := by
    intro d
    induction d with
    | zero =>
      intro fa ln iv Fv Gv H locs ls a1 a2 a3 a4 hH hS hl
      have rg_fa := fb_rng fa
      have rg_ln := fb_rng ln
      have hI := a1
      have hBs := a2
      have hI0 := hI
      obtain ⟨hsz, hbf, hsz6, hbf7, htk, hF, hQ, htk2, hG, hQ2, hPg, hpt, hrw⟩ := hI0
      have hL := Tf17.lin hF
      have hL2 := Tf48.lin hG
      have ek12 : Int32.toInt (iv 1 2) = Int32.toInt (i 1 2) := congrArg Int32.toInt (congrFun hBs.1 2)
      refine lv_iload_n (pc := 46) C0.1 C0.2.1 dX9_findMend_46 rfl (lv_at hl 0 rfl) ?_
      refine lv_iconst (pc := 47) (v := 4) C0.1 C0.2.1 dX9_findMend_47 (by decide) ?_
      have : Int32.toInt 4 = 4 := rfl
      refine lv_icmp_gt (pc := 48) (tgt := 218) C0.1 C0.2.1 dX9_findMend_48 (by decide) (fun _ => ?_) (fun c => absurd (Int32.lt_iff_toInt_lt.mpr (by omega)) c)
      refine lv_iconst (pc := 218) (v := 0) C0.1 C0.2.1 dX9_findMend_218 (by decide) ?_
      exact xzret (pc := 219) C0 hr hH hS dX9_findMend_219 (by decide) ⟨hI, hBs⟩
    | succ d ih46 =>
      intro fa ln iv Fv Gv H locs ls a1 a2 a3 a4 hH hS hl
      have rg_fa := fb_rng fa
      have rg_ln := fb_rng ln
      have L53 : ∀ (d : Nat) (li : Int32) (iv Fv : Nat → Nat → Int32) (Gv : Nat → Nat → Int64) (H : Heap) (locs : List Loc) (ls : Array Slot), (IC iv Fv) → (iv 1 = i 1 ∧ Fv 3 = F 3 ∧ Gv = G) → (ln.toInt - li.toInt ≤ d) → (0 ≤ li.toInt) → (fa.toInt ≤ 4) → Hd D tA b 0 78 zz iv Fv Gv H → va_S (xA b 0 78) s.heap H locs → lv_has ls 5 [(3, .int li), (2, .int fa), (1, .int ln), (0, .ref (b + 0))] → W p l e (xR 6 143) s m ([.ref (b + 0)] : List Value).toArray below meth c H locs 0 0 (MQ below (va_Qi (fun r u => IC u.1 u.2.1 ∧ u.1 1 = i 1 ∧ u.2.1 3 = F 3 ∧ u.2.2 = G) (xB D tA b 0 78 zz) (xA b 0 78)) ([.ref (b + 0)] : List Value).toArray s 0 0 (xA b 0 78)) (F0 m 53 ls []) := by
        intro d
        induction d with
        | zero =>
          intro li iv Fv Gv H locs ls b1 b2 b3 b4 b5 hH hS hl
          have rg_li := fb_rng li
          have hI := b1
          have hBs := b2
          have hI0 := hI
          obtain ⟨hsz, hbf, hsz6, hbf7, htk, hF, hQ, htk2, hG, hQ2, hPg, hpt, hrw⟩ := hI0
          have hL := Tf17.lin hF
          have hL2 := Tf48.lin hG
          have ek12 : Int32.toInt (iv 1 2) = Int32.toInt (i 1 2) := congrArg Int32.toInt (congrFun hBs.1 2)
          refine lv_iload_n (pc := 53) C0.1 C0.2.1 dX9_findMend_53 rfl (lv_at hl 0 rfl) ?_
          refine lv_iload_n (pc := 54) C0.1 C0.2.1 dX9_findMend_54 rfl (lv_at hl 2 rfl) ?_
          refine lv_icmp_ge (pc := 55) (tgt := 212) C0.1 C0.2.1 dX9_findMend_55 (by decide) (fun _ => ?_) (fun c => absurd (Int32.le_iff_toInt_le.mpr (by omega)) c)
          obtain ⟨x301, ex301⟩ : ∃ y_ : Int32, y_ = fa + 1 := ⟨_, rfl⟩
          have : Int32.toInt 1 = 1 := rfl
          have hx301 : Int32.toInt x301 = Int32.toInt fa + Int32.toInt 1 := by rw [ex301]; exact fb_addI (by omega) (by omega)
          refine lv_iinc (pc := 212) (v := x301) (lv' := [(2, .int x301), (3, .int li), (1, .int ln), (0, .ref (b + 0))]) C0.1 C0.2.1 dX9_findMend_212 hl (k := 1) rfl (by rw [ex301]; rfl) (by decide) rfl (fun ls hl => ?_)
          refine lv_goto (pc := 215) (tgt := 46) C0.1 C0.2.1 dX9_findMend_215 (by decide) ?_
          exact ih46 x301 ln iv Fv Gv _ _ _ hI hBs (by omega) (by omega) hH hS (lv_sub hl [0, 2, 3] rfl)
        | succ d ih53 =>
          intro li iv Fv Gv H locs ls b1 b2 b3 b4 b5 hH hS hl
          have rg_li := fb_rng li
          have L62 : ∀ (d : Nat) (by_ : Int32) (iv Fv : Nat → Nat → Int32) (Gv : Nat → Nat → Int64) (H : Heap) (locs : List Loc) (ls : Array Slot), (IC iv Fv) → (iv 1 = i 1 ∧ Fv 3 = F 3 ∧ Gv = G) → (fa.toInt + 1 - by_.toInt ≤ d) → (- fa.toInt ≤ by_.toInt ∧ by_.toInt ≤ 3 * fa.toInt) → (li.toInt < ln.toInt) → Hd D tA b 0 78 zz iv Fv Gv H → va_S (xA b 0 78) s.heap H locs → lv_has ls 5 [(4, .int by_), (3, .int li), (2, .int fa), (1, .int ln), (0, .ref (b + 0))] → W p l e (xR 6 143) s m ([.ref (b + 0)] : List Value).toArray below meth c H locs 0 0 (MQ below (va_Qi (fun r u => IC u.1 u.2.1 ∧ u.1 1 = i 1 ∧ u.2.1 3 = F 3 ∧ u.2.2 = G) (xB D tA b 0 78 zz) (xA b 0 78)) ([.ref (b + 0)] : List Value).toArray s 0 0 (xA b 0 78)) (F0 m 62 ls []) := by
            intro d
            induction d with
            | zero =>
              intro by_ iv Fv Gv H locs ls c1 c2 c3 c4 c5 hH hS hl
              have rg_by_ := fb_rng by_
              have hI := c1
              have hBs := c2
              have hI0 := hI
              obtain ⟨hsz, hbf, hsz6, hbf7, htk, hF, hQ, htk2, hG, hQ2, hPg, hpt, hrw⟩ := hI0
              have hL := Tf17.lin hF
              have hL2 := Tf48.lin hG
              have ek12 : Int32.toInt (iv 1 2) = Int32.toInt (i 1 2) := congrArg Int32.toInt (congrFun hBs.1 2)
              refine lv_iload (pc := 62) C0.1 C0.2.1 dX9_findMend_62 (lv_at hl 0 rfl) ?_
              refine lv_iload_n (pc := 64) C0.1 C0.2.1 dX9_findMend_64 rfl (lv_at hl 2 rfl) ?_
              refine lv_icmp_gt (pc := 65) (tgt := 206) C0.1 C0.2.1 dX9_findMend_65 (by decide) (fun _ => ?_) (fun c => absurd (Int32.lt_iff_toInt_lt.mpr (by omega)) c)
              obtain ⟨x401, ex401⟩ : ∃ y_ : Int32, y_ = li + 1 := ⟨_, rfl⟩
              have : Int32.toInt 1 = 1 := rfl
              have hx401 : Int32.toInt x401 = Int32.toInt li + Int32.toInt 1 := by rw [ex401]; exact fb_addI (by omega) (by omega)
              refine lv_iinc (pc := 206) (v := x401) (lv' := [(3, .int x401), (4, .int by_), (2, .int fa), (1, .int ln), (0, .ref (b + 0))]) C0.1 C0.2.1 dX9_findMend_206 hl (k := 1) rfl (by rw [ex401]; rfl) (by decide) rfl (fun ls hl => ?_)
              refine lv_goto (pc := 209) (tgt := 53) C0.1 C0.2.1 dX9_findMend_209 (by decide) ?_
              exact ih53 x401 iv Fv Gv _ _ _ hI hBs (by omega) (by omega) (by omega) hH hS (lv_sub hl [0, 2, 3, 4] rfl)
            | succ d ih62 =>
              intro by_ iv Fv Gv H locs ls c1 c2 c3 c4 c5 hH hS hl
              have rg_by_ := fb_rng by_
              have hI := c1
              have hBs := c2
              have hI0 := hI
              obtain ⟨hsz, hbf, hsz6, hbf7, htk, hF, hQ, htk2, hG, hQ2, hPg, hpt, hrw⟩ := hI0
              have hL := Tf17.lin hF
              have hL2 := Tf48.lin hG
              have ek12 : Int32.toInt (iv 1 2) = Int32.toInt (i 1 2) := congrArg Int32.toInt (congrFun hBs.1 2)
              refine lv_iload (pc := 62) C0.1 C0.2.1 dX9_findMend_62 (lv_at hl 0 rfl) ?_
              refine lv_iload_n (pc := 64) C0.1 C0.2.1 dX9_findMend_64 rfl (lv_at hl 2 rfl) ?_
              refine lv_icmp_gt (pc := 65) (tgt := 206) C0.1 C0.2.1 dX9_findMend_65 (by decide) (fun c401 => ?_) (fun c401 => ?_)
              · have c401 := Int32.lt_iff_toInt_lt.mp c401
                obtain ⟨x402, ex402⟩ : ∃ y_ : Int32, y_ = li + 1 := ⟨_, rfl⟩
                have : Int32.toInt 1 = 1 := rfl
                have hx402 : Int32.toInt x402 = Int32.toInt li + Int32.toInt 1 := by rw [ex402]; exact fb_addI (by omega) (by omega)
                refine lv_iinc (pc := 206) (v := x402) (lv' := [(3, .int x402), (4, .int by_), (2, .int fa), (1, .int ln), (0, .ref (b + 0))]) C0.1 C0.2.1 dX9_findMend_206 hl (k := 1) rfl (by rw [ex402]; rfl) (by decide) rfl (fun ls hl => ?_)
                refine lv_goto (pc := 209) (tgt := 53) C0.1 C0.2.1 dX9_findMend_209 (by decide) ?_
                exact ih53 x402 iv Fv Gv _ _ _ hI hBs (by omega) (by omega) (by omega) hH hS (lv_sub hl [0, 2, 3, 4] rfl)
              · have c401 : ¬ _ := fun q => c401 (Int32.lt_iff_toInt_lt.mpr q)
                refine lv_aload_n (pc := 68) C0.1 C0.2.1 dX9_findMend_68 rfl (lv_at hl 4 rfl) ?_
                refine xget (pc := 69) C0 hH 0 3 clX9 ⟨Nat.le_of_ble_eq_true rfl, Nat.le_of_ble_eq_true rfl⟩ ⟨rfl, rfl⟩ (Nat.le_of_ble_eq_true rfl) fl_X9_29 (v := .ref (b + 8)) rfl dX9_findMend_69 ?_
                refine xget (pc := 72) C0 hH 8 0 clX4 ⟨Nat.le_of_ble_eq_true rfl, Nat.le_of_ble_eq_true rfl⟩ ⟨rfl, rfl⟩ (Nat.le_of_ble_eq_true rfl) fl_X9_118 (v := .ref (b + 9)) rfl dX9_findMend_72 ?_
                refine lv_iload_n (pc := 75) C0.1 C0.2.1 dX9_findMend_75 rfl (lv_at hl 1 rfl) ?_
                refine xcVI (pc := 76) 9 [.int li] (g_X7_anyOn_9 l D tA b iv Fv Gv li (show 0 ≤ Int32.toInt (iv 9 7) ∧ Int32.toInt (iv 9 7) ≤ 600 from by omega)) C0 hH hS clX7 rfl ⟨⟨Nat.le_of_ble_eq_true rfl, Nat.le_of_ble_eq_true rfl⟩, rfl, rfl⟩ cw_X9_303 rfl ⟨Nat.le_of_ble_eq_true rfl, Nat.le_of_ble_eq_true rfl⟩ hl.1 rfl (Nat.le_of_ble_eq_true rfl) dX9_findMend_76 ⟨Nat.le_of_ble_eq_true rfl, Nat.le_of_ble_eq_true rfl⟩ (fun r403 ir403 Fr403 Gr403 _ locs hp hH hS => ?_)
                obtain ⟨hu, hpr403⟩ := hp
                cases hu
                refine lv_if_eq (pc := 79) (tgt := 206) C0.1 C0.2.1 dX9_findMend_79 (by decide) (fun c404 => ?_) (fun c404 => ?_)
                · have : Int32.toInt 0 = 0 := rfl
                  have c404 := congrArg Int32.toInt c404
                  obtain ⟨x405, ex405⟩ : ∃ y_ : Int32, y_ = li + 1 := ⟨_, rfl⟩
                  have : Int32.toInt 1 = 1 := rfl
                  have hx405 : Int32.toInt x405 = Int32.toInt li + Int32.toInt 1 := by rw [ex405]; exact fb_addI (by omega) (by omega)
                  refine lv_iinc (pc := 206) (v := x405) (lv' := [(3, .int x405), (4, .int by_), (2, .int fa), (1, .int ln), (0, .ref (b + 0))]) C0.1 C0.2.1 dX9_findMend_206 hl (k := 1) rfl (by rw [ex405]; rfl) (by decide) rfl (fun ls hl => ?_)
                  refine lv_goto (pc := 209) (tgt := 53) C0.1 C0.2.1 dX9_findMend_209 (by decide) ?_
                  exact ih53 x405 iv Fv Gv _ _ _ hI hBs (by omega) (by omega) (by omega) hH hS (lv_sub hl [0, 2, 3, 4] rfl)
                · have : Int32.toInt 0 = 0 := rfl
                  have c404 : ¬ _ := fun q => c404 (Int32.toInt_inj.mp q)
                  refine lv_aload_n (pc := 82) C0.1 C0.2.1 dX9_findMend_82 rfl (lv_at hl 4 rfl) ?_
                  refine xget (pc := 83) C0 hH 0 1 clX9 ⟨Nat.le_of_ble_eq_true rfl, Nat.le_of_ble_eq_true rfl⟩ ⟨rfl, rfl⟩ (Nat.le_of_ble_eq_true rfl) fl_X9_19 (v := .ref (b + 4)) rfl dX9_findMend_83 ?_
                  refine lv_iload_n (pc := 86) C0.1 C0.2.1 dX9_findMend_86 rfl (lv_at hl 1 rfl) ?_
                  refine lv_iload (pc := 87) C0.1 C0.2.1 dX9_findMend_87 (lv_at hl 0 rfl) ?_
                  refine xcVI (pc := 89) 4 [.int li, .int by_] (g_X6_refusalOfSlide_4 l D tA b iv Fv Gv li by_ hsz) C0 hH hS clX6 rfl ⟨⟨Nat.le_of_ble_eq_true rfl, Nat.le_of_ble_eq_true rfl⟩, rfl, rfl⟩ cw_X9_306 rfl ⟨Nat.le_of_ble_eq_true rfl, Nat.le_of_ble_eq_true rfl⟩ hl.1 rfl (Nat.le_of_ble_eq_true rfl) dX9_findMend_89 ⟨Nat.le_of_ble_eq_true rfl, Nat.le_of_ble_eq_true rfl⟩ (fun r406 ir406 Fr406 Gr406 _ locs hp hH hS => ?_)
                  obtain ⟨hu, hpr406⟩ := hp
                  cases hu
                  refine lv_if_eq (pc := 92) (tgt := 98) C0.1 C0.2.1 dX9_findMend_92 (by decide) (fun c407 => ?_) (fun c407 => ?_)
                  · have : Int32.toInt 0 = 0 := rfl
                    have c407 := congrArg Int32.toInt c407
                    refine lv_aload_n (pc := 98) C0.1 C0.2.1 dX9_findMend_98 rfl (lv_at hl 4 rfl) ?_
                    refine xget (pc := 99) C0 hH 0 3 clX9 ⟨Nat.le_of_ble_eq_true rfl, Nat.le_of_ble_eq_true rfl⟩ ⟨rfl, rfl⟩ (Nat.le_of_ble_eq_true rfl) fl_X9_29 (v := .ref (b + 8)) rfl dX9_findMend_99 ?_
                    refine xget (pc := 102) C0 hH 8 0 clX4 ⟨Nat.le_of_ble_eq_true rfl, Nat.le_of_ble_eq_true rfl⟩ ⟨rfl, rfl⟩ (Nat.le_of_ble_eq_true rfl) fl_X9_118 (v := .ref (b + 9)) rfl dX9_findMend_102 ?_
                    refine lv_aload_n (pc := 105) C0.1 C0.2.1 dX9_findMend_105 rfl (lv_at hl 4 rfl) ?_
                    refine xget (pc := 106) C0 hH 0 1 clX9 ⟨Nat.le_of_ble_eq_true rfl, Nat.le_of_ble_eq_true rfl⟩ ⟨rfl, rfl⟩ (Nat.le_of_ble_eq_true rfl) fl_X9_19 (v := .ref (b + 4)) rfl dX9_findMend_106 ?_
                    refine lv_iload_n (pc := 109) C0.1 C0.2.1 dX9_findMend_109 rfl (lv_at hl 1 rfl) ?_
                    refine lv_iload (pc := 110) C0.1 C0.2.1 dX9_findMend_110 (lv_at hl 0 rfl) ?_
                    refine lv_aload_n (pc := 112) C0.1 C0.2.1 dX9_findMend_112 rfl (lv_at hl 4 rfl) ?_
                    refine xget (pc := 113) C0 hH 0 0 clX9 ⟨Nat.le_of_ble_eq_true rfl, Nat.le_of_ble_eq_true rfl⟩ ⟨rfl, rfl⟩ (Nat.le_of_ble_eq_true rfl) fl_X9_12 (v := .ref (b + 1)) rfl dX9_findMend_113 ?_
                    refine xget (pc := 116) C0 hH 1 7 clX1 ⟨Nat.le_of_ble_eq_true rfl, Nat.le_of_ble_eq_true rfl⟩ ⟨rfl, rfl⟩ (Nat.le_of_ble_eq_true rfl) fl_X9_292 (v := .int (iv 1 7)) rfl dX9_findMend_116 ?_
                    refine xcVV (pc := 119) 9 [.ref (b + 4), .int li, .int by_, .int (iv 1 7)] (g_X7_slideColumns_9 l D tA b iv Fv Gv li by_ (iv 1 7) hsz htk) C0 hH hS clX7 rfl ⟨⟨Nat.le_of_ble_eq_true rfl, Nat.le_of_ble_eq_true rfl⟩, rfl, rfl⟩ cw_X9_309 rfl ⟨Nat.le_of_ble_eq_true rfl, Nat.le_of_ble_eq_true rfl⟩ hl.1 rfl (Nat.le_of_ble_eq_true rfl) dX9_findMend_119 ⟨Nat.le_of_ble_eq_true rfl, Nat.le_of_ble_eq_true rfl⟩ (fun ir408 Fr408 Gr408 _ locs hp hH hS => ?_)
                    obtain ⟨honr408, _ar408⟩ := hp
                    have hI : IC ir408 Fr408 := IC.c (i := iv) (F := Fv) hI honr408 
                    have hBs : ir408 1 = i 1 ∧ Fr408 3 = F 3 ∧ Gr408 = G := ⟨(honr408.1 1 (by decide)).1.trans hBs.1, (honr408.1 3 (by decide)).2.trans hBs.2.1, honr408.2.trans hBs.2.2⟩
                    have hI0 := hI
                    obtain ⟨hsz, hbf, hsz6, hbf7, htk, hF, hQ, htk2, hG, hQ2, hPg, hpt, hrw⟩ := hI0
                    have hL := Tf17.lin hF
                    have hL2 := Tf48.lin hG
                    have ek_1_2r408 : Int32.toInt (ir408 1 2) = Int32.toInt (iv 1 2) := congrArg Int32.toInt (congrFun (honr408.1 1 (by decide)).1 2)
                    refine lv_aload_n (pc := 122) C0.1 C0.2.1 dX9_findMend_122 rfl (lv_at hl 4 rfl) ?_
                    refine xget (pc := 123) C0 hH 0 4 clX9 ⟨Nat.le_of_ble_eq_true rfl, Nat.le_of_ble_eq_true rfl⟩ ⟨rfl, rfl⟩ (Nat.le_of_ble_eq_true rfl) fl_X9_33 (v := .ref (b + 39)) rfl dX9_findMend_123 ?_
                    refine xget (pc := 126) C0 hH 39 1 clX4 ⟨Nat.le_of_ble_eq_true rfl, Nat.le_of_ble_eq_true rfl⟩ ⟨rfl, rfl⟩ (Nat.le_of_ble_eq_true rfl) fl_X9_133 (v := .ref (b + 48)) rfl dX9_findMend_126 ?_
                    refine lv_aload_n (pc := 129) C0.1 C0.2.1 dX9_findMend_129 rfl (lv_at hl 4 rfl) ?_
                    refine xget (pc := 130) C0 hH 0 3 clX9 ⟨Nat.le_of_ble_eq_true rfl, Nat.le_of_ble_eq_true rfl⟩ ⟨rfl, rfl⟩ (Nat.le_of_ble_eq_true rfl) fl_X9_29 (v := .ref (b + 8)) rfl dX9_findMend_130 ?_
                    refine xget (pc := 133) C0 hH 8 0 clX4 ⟨Nat.le_of_ble_eq_true rfl, Nat.le_of_ble_eq_true rfl⟩ ⟨rfl, rfl⟩ (Nat.le_of_ble_eq_true rfl) fl_X9_118 (v := .ref (b + 9)) rfl dX9_findMend_133 ?_
                    refine lv_aload_n (pc := 136) C0.1 C0.2.1 dX9_findMend_136 rfl (lv_at hl 4 rfl) ?_
                    refine xget (pc := 137) C0 hH 0 1 clX9 ⟨Nat.le_of_ble_eq_true rfl, Nat.le_of_ble_eq_true rfl⟩ ⟨rfl, rfl⟩ (Nat.le_of_ble_eq_true rfl) fl_X9_19 (v := .ref (b + 4)) rfl dX9_findMend_137 ?_
                    refine xget (pc := 140) C0 hH 4 1 clX6 ⟨Nat.le_of_ble_eq_true rfl, Nat.le_of_ble_eq_true rfl⟩ ⟨rfl, rfl⟩ (Nat.le_of_ble_eq_true rfl) fl_X9_102 (v := .int (ir408 4 1)) rfl dX9_findMend_140 ?_
                    refine xcVV (pc := 143) 48 [.ref (b + 9), .int (ir408 4 1)] (g_X8_grow_48_9 l D tA b ir408 Fr408 Gr408 (ir408 4 1) hG htk) C0 hH hS clX8 rfl ⟨⟨Nat.le_of_ble_eq_true rfl, Nat.le_of_ble_eq_true rfl⟩, rfl, rfl⟩ cw_X9_313 rfl ⟨Nat.le_of_ble_eq_true rfl, Nat.le_of_ble_eq_true rfl⟩ hl.1 rfl (Nat.le_of_ble_eq_true rfl) dX9_findMend_143 ⟨Nat.le_of_ble_eq_true rfl, Nat.le_of_ble_eq_true rfl⟩ (fun ir409 Fr409 Gr409 _ locs hp hH hS => ?_)
                    obtain ⟨honr409, a1r409, a2r409⟩ := hp
                    have hI : IC ir409 Fr409 := IC.g (i := ir408) (F := Fr408) hI honr409 a1r409 a2r409
                    have hBs : ir409 1 = i 1 ∧ Fr409 3 = F 3 ∧ Gr409 = G := ⟨(honr409.1 1 (by decide)).1.trans hBs.1, (honr409.1 3 (by decide)).2.trans hBs.2.1, honr409.2.trans hBs.2.2⟩
                    have hI0 := hI
                    obtain ⟨hsz, hbf, hsz6, hbf7, htk, hF, hQ, htk2, hG, hQ2, hPg, hpt, hrw⟩ := hI0
                    have hL := Tf17.lin hF
                    have hL2 := Tf48.lin hG
                    have ek_1_2r409 : Int32.toInt (ir409 1 2) = Int32.toInt (ir408 1 2) := congrArg Int32.toInt (congrFun (honr409.1 1 (by decide)).1 2)
                    refine lv_aload_n (pc := 146) C0.1 C0.2.1 dX9_findMend_146 rfl (lv_at hl 4 rfl) ?_
                    refine xget (pc := 147) C0 hH 0 3 clX9 ⟨Nat.le_of_ble_eq_true rfl, Nat.le_of_ble_eq_true rfl⟩ ⟨rfl, rfl⟩ (Nat.le_of_ble_eq_true rfl) fl_X9_29 (v := .ref (b + 8)) rfl dX9_findMend_147 ?_
                    refine xget (pc := 150) C0 hH 8 0 clX4 ⟨Nat.le_of_ble_eq_true rfl, Nat.le_of_ble_eq_true rfl⟩ ⟨rfl, rfl⟩ (Nat.le_of_ble_eq_true rfl) fl_X9_118 (v := .ref (b + 9)) rfl dX9_findMend_150 ?_
                    refine lv_aload_n (pc := 153) C0.1 C0.2.1 dX9_findMend_153 rfl (lv_at hl 4 rfl) ?_
                    refine xget (pc := 154) C0 hH 0 1 clX9 ⟨Nat.le_of_ble_eq_true rfl, Nat.le_of_ble_eq_true rfl⟩ ⟨rfl, rfl⟩ (Nat.le_of_ble_eq_true rfl) fl_X9_19 (v := .ref (b + 4)) rfl dX9_findMend_154 ?_
                    refine lv_iload_n (pc := 157) C0.1 C0.2.1 dX9_findMend_157 rfl (lv_at hl 1 rfl) ?_
                    refine lv_iconst (pc := 158) (v := 0) C0.1 C0.2.1 dX9_findMend_158 (by decide) ?_
                    refine lv_aload_n (pc := 159) C0.1 C0.2.1 dX9_findMend_159 rfl (lv_at hl 4 rfl) ?_
                    refine xget (pc := 160) C0 hH 0 0 clX9 ⟨Nat.le_of_ble_eq_true rfl, Nat.le_of_ble_eq_true rfl⟩ ⟨rfl, rfl⟩ (Nat.le_of_ble_eq_true rfl) fl_X9_12 (v := .ref (b + 1)) rfl dX9_findMend_160 ?_
                    refine xget (pc := 163) C0 hH 1 7 clX1 ⟨Nat.le_of_ble_eq_true rfl, Nat.le_of_ble_eq_true rfl⟩ ⟨rfl, rfl⟩ (Nat.le_of_ble_eq_true rfl) fl_X9_292 (v := .int (ir409 1 7)) rfl dX9_findMend_163 ?_
                    refine xcVV (pc := 166) 9 [.ref (b + 4), .int li, .int 0, .int (ir409 1 7)] (g_X7_slideColumns_9 l D tA b ir409 Fr409 Gr409 li 0 (ir409 1 7) hsz htk) C0 hH hS clX7 rfl ⟨⟨Nat.le_of_ble_eq_true rfl, Nat.le_of_ble_eq_true rfl⟩, rfl, rfl⟩ cw_X9_309 rfl ⟨Nat.le_of_ble_eq_true rfl, Nat.le_of_ble_eq_true rfl⟩ hl.1 rfl (Nat.le_of_ble_eq_true rfl) dX9_findMend_166 ⟨Nat.le_of_ble_eq_true rfl, Nat.le_of_ble_eq_true rfl⟩ (fun ir410 Fr410 Gr410 _ locs hp hH hS => ?_)
                    obtain ⟨honr410, _ar410⟩ := hp
                    have hI : IC ir410 Fr410 := IC.c (i := ir409) (F := Fr409) hI honr410 
                    have hBs : ir410 1 = i 1 ∧ Fr410 3 = F 3 ∧ Gr410 = G := ⟨(honr410.1 1 (by decide)).1.trans hBs.1, (honr410.1 3 (by decide)).2.trans hBs.2.1, honr410.2.trans hBs.2.2⟩
                    have hI0 := hI
                    obtain ⟨hsz, hbf, hsz6, hbf7, htk, hF, hQ, htk2, hG, hQ2, hPg, hpt, hrw⟩ := hI0
                    have hL := Tf17.lin hF
                    have hL2 := Tf48.lin hG
                    have ek_1_2r410 : Int32.toInt (ir410 1 2) = Int32.toInt (ir409 1 2) := congrArg Int32.toInt (congrFun (honr410.1 1 (by decide)).1 2)
                    refine lv_aload_n (pc := 169) C0.1 C0.2.1 dX9_findMend_169 rfl (lv_at hl 4 rfl) ?_
                    refine xget (pc := 170) C0 hH 0 4 clX9 ⟨Nat.le_of_ble_eq_true rfl, Nat.le_of_ble_eq_true rfl⟩ ⟨rfl, rfl⟩ (Nat.le_of_ble_eq_true rfl) fl_X9_33 (v := .ref (b + 39)) rfl dX9_findMend_170 ?_
                    refine xget (pc := 173) C0 hH 39 1 clX4 ⟨Nat.le_of_ble_eq_true rfl, Nat.le_of_ble_eq_true rfl⟩ ⟨rfl, rfl⟩ (Nat.le_of_ble_eq_true rfl) fl_X9_133 (v := .ref (b + 48)) rfl dX9_findMend_173 ?_
                    refine xget (pc := 176) C0 hH 48 4 clX8 ⟨Nat.le_of_ble_eq_true rfl, Nat.le_of_ble_eq_true rfl⟩ ⟨rfl, rfl⟩ (Nat.le_of_ble_eq_true rfl) fl_X9_317 (v := .int (ir410 48 4)) rfl dX9_findMend_176 ?_
                    refine lv_if_ne (pc := 179) (tgt := 195) C0.1 C0.2.1 dX9_findMend_179 (by decide) (fun c411 => ?_) (fun c411 => ?_)
                    · have : Int32.toInt 0 = 0 := rfl
                      have c411 : ¬ _ := fun q => c411 (Int32.toInt_inj.mp q)
                      refine lv_iload (pc := 195) C0.1 C0.2.1 dX9_findMend_195 (lv_at hl 0 rfl) ?_
                      refine lv_iconst (pc := 197) (v := 2) C0.1 C0.2.1 dX9_findMend_197 (by decide) ?_
                      refine lv_iload_n (pc := 198) C0.1 C0.2.1 dX9_findMend_198 rfl (lv_at hl 2 rfl) ?_
                      refine lv_imul (pc := 199) C0.1 C0.2.1 dX9_findMend_199 ?_
                      refine lv_topi (fun x412 ex412 => ?_)
                      have hx412 : Int32.toInt x412 = 2 * Int32.toInt fa := by rw [ex412]; exact fb_mulI (x := 2) (show -2147483648 ≤ 2 * Int32.toInt fa from by omega) (show 2 * Int32.toInt fa < 2147483648 from by omega)
                      refine lv_iadd (pc := 200) C0.1 C0.2.1 dX9_findMend_200 ?_
                      refine lv_topi (fun x413 ex413 => ?_)
                      have hx413 : Int32.toInt x413 = Int32.toInt by_ + Int32.toInt x412 := by rw [ex413]; exact fb_addI (by omega) (by omega)
                      refine lv_istore (pc := 201) (lv' := [(4, .int x413), (3, .int li), (2, .int fa), (1, .int ln), (0, .ref (b + 0))]) C0.1 C0.2.1 dX9_findMend_201 hl (by decide) rfl (fun ls hl => ?_)
                      refine lv_goto (pc := 203) (tgt := 62) C0.1 C0.2.1 dX9_findMend_203 (by decide) ?_
                      exact ih62 x413 ir410 Fr410 Gr410 _ _ _ hI hBs (by omega) (by omega) (by omega) hH hS (lv_sub hl [0, 1, 2, 3, 4] rfl)
                    · have : Int32.toInt 0 = 0 := rfl
                      have c411 := congrArg Int32.toInt c411
                      refine lv_aload_n (pc := 182) C0.1 C0.2.1 dX9_findMend_182 rfl (lv_at hl 4 rfl) ?_
                      refine lv_iload_n (pc := 183) C0.1 C0.2.1 dX9_findMend_183 rfl (lv_at hl 1 rfl) ?_
                      refine xputI (pc := 184) C0 (Nat.le_of_ble_eq_true rfl) hH hS 0 10 clX9 ⟨Nat.le_of_ble_eq_true rfl, Nat.le_of_ble_eq_true rfl⟩ ⟨rfl, rfl⟩ ⟨Nat.le_of_ble_eq_true rfl, rfl, rfl⟩ fl_X9_57 (x := li) ⟨rfl, rfl⟩ dX9_findMend_184 (fun _ locs hH hS _ => ?_)
                      have hH : Hd D tA b 0 78 zz (up2 ir410 0 10 li) Fr410 Gr410 _ := hH
                      refine lv_aload_n (pc := 187) C0.1 C0.2.1 dX9_findMend_187 rfl (lv_at hl 4 rfl) ?_
                      refine lv_iload (pc := 188) C0.1 C0.2.1 dX9_findMend_188 (lv_at hl 0 rfl) ?_
                      refine xputI (pc := 190) C0 (Nat.le_of_ble_eq_true rfl) hH hS 0 11 clX9 ⟨Nat.le_of_ble_eq_true rfl, Nat.le_of_ble_eq_true rfl⟩ ⟨rfl, rfl⟩ ⟨Nat.le_of_ble_eq_true rfl, rfl, rfl⟩ fl_X9_60 (x := by_) ⟨rfl, rfl⟩ dX9_findMend_190 (fun _ locs hH hS _ => ?_)
                      have hH : Hd D tA b 0 78 zz (up2 (up2 ir410 0 10 li) 0 11 by_) Fr410 Gr410 _ := hH
                      refine lv_iconst (pc := 193) (v := 1) C0.1 C0.2.1 dX9_findMend_193 (by decide) ?_
                      exact xzret (pc := 194) C0 hr hH hS dX9_findMend_194 (by decide) ⟨hI, hBs⟩
                  · have : Int32.toInt 0 = 0 := rfl
                    have c407 : ¬ _ := fun q => c407 (Int32.toInt_inj.mp q)
                    refine lv_goto (pc := 95) (tgt := 195) C0.1 C0.2.1 dX9_findMend_95 (by decide) ?_
                    refine lv_iload (pc := 195) C0.1 C0.2.1 dX9_findMend_195 (lv_at hl 0 rfl) ?_
                    refine lv_iconst (pc := 197) (v := 2) C0.1 C0.2.1 dX9_findMend_197 (by decide) ?_
                    refine lv_iload_n (pc := 198) C0.1 C0.2.1 dX9_findMend_198 rfl (lv_at hl 2 rfl) ?_
                    refine lv_imul (pc := 199) C0.1 C0.2.1 dX9_findMend_199 ?_
                    refine lv_topi (fun x414 ex414 => ?_)
                    have hx414 : Int32.toInt x414 = 2 * Int32.toInt fa := by rw [ex414]; exact fb_mulI (x := 2) (show -2147483648 ≤ 2 * Int32.toInt fa from by omega) (show 2 * Int32.toInt fa < 2147483648 from by omega)
                    refine lv_iadd (pc := 200) C0.1 C0.2.1 dX9_findMend_200 ?_
                    refine lv_topi (fun x415 ex415 => ?_)
                    have hx415 : Int32.toInt x415 = Int32.toInt by_ + Int32.toInt x414 := by rw [ex415]; exact fb_addI (by omega) (by omega)
                    refine lv_istore (pc := 201) (lv' := [(4, .int x415), (3, .int li), (2, .int fa), (1, .int ln), (0, .ref (b + 0))]) C0.1 C0.2.1 dX9_findMend_201 hl (by decide) rfl (fun ls hl => ?_)
                    refine lv_goto (pc := 203) (tgt := 62) C0.1 C0.2.1 dX9_findMend_203 (by decide) ?_
                    exact ih62 x415 iv Fv Gv _ _ _ hI hBs (by omega) (by omega) (by omega) hH hS (lv_sub hl [0, 1, 2, 3, 4] rfl)
          have hI := b1
          have hBs := b2
          have hI0 := hI
          obtain ⟨hsz, hbf, hsz6, hbf7, htk, hF, hQ, htk2, hG, hQ2, hPg, hpt, hrw⟩ := hI0
          have hL := Tf17.lin hF
          have hL2 := Tf48.lin hG
          have ek12 : Int32.toInt (iv 1 2) = Int32.toInt (i 1 2) := congrArg Int32.toInt (congrFun hBs.1 2)
          refine lv_iload_n (pc := 53) C0.1 C0.2.1 dX9_findMend_53 rfl (lv_at hl 0 rfl) ?_
          refine lv_iload_n (pc := 54) C0.1 C0.2.1 dX9_findMend_54 rfl (lv_at hl 2 rfl) ?_
          refine lv_icmp_ge (pc := 55) (tgt := 212) C0.1 C0.2.1 dX9_findMend_55 (by decide) (fun c301 => ?_) (fun c301 => ?_)
          · have c301 := Int32.le_iff_toInt_le.mp c301
            obtain ⟨x302, ex302⟩ : ∃ y_ : Int32, y_ = fa + 1 := ⟨_, rfl⟩
            have : Int32.toInt 1 = 1 := rfl
            have hx302 : Int32.toInt x302 = Int32.toInt fa + Int32.toInt 1 := by rw [ex302]; exact fb_addI (by omega) (by omega)
            refine lv_iinc (pc := 212) (v := x302) (lv' := [(2, .int x302), (3, .int li), (1, .int ln), (0, .ref (b + 0))]) C0.1 C0.2.1 dX9_findMend_212 hl (k := 1) rfl (by rw [ex302]; rfl) (by decide) rfl (fun ls hl => ?_)
            refine lv_goto (pc := 215) (tgt := 46) C0.1 C0.2.1 dX9_findMend_215 (by decide) ?_
            exact ih46 x302 ln iv Fv Gv _ _ _ hI hBs (by omega) (by omega) hH hS (lv_sub hl [0, 2, 3] rfl)
          · have c301 : ¬ _ := fun q => c301 (Int32.le_iff_toInt_le.mpr q)
            refine lv_iload_n (pc := 58) C0.1 C0.2.1 dX9_findMend_58 rfl (lv_at hl 1 rfl) ?_
            refine lv_ineg (pc := 59) C0.1 C0.2.1 dX9_findMend_59 ?_
            refine lv_topi (fun x303 ex303 => ?_)
            have hx303 : Int32.toInt x303 = - Int32.toInt fa := by rw [ex303]; exact fb_negI (by omega)
            refine lv_istore (pc := 60) (lv' := [(4, .int x303), (3, .int li), (2, .int fa), (1, .int ln), (0, .ref (b + 0))]) C0.1 C0.2.1 dX9_findMend_60 hl (by decide) rfl (fun ls hl => ?_)
            exact L62 9 x303 iv Fv Gv _ _ _ hI hBs (by omega) (by omega) (by omega) hH hS (lv_sub hl [0, 1, 2, 3, 4] rfl)
      have hI := a1
      have hBs := a2
      have hI0 := hI
      obtain ⟨hsz, hbf, hsz6, hbf7, htk, hF, hQ, htk2, hG, hQ2, hPg, hpt, hrw⟩ := hI0
      have hL := Tf17.lin hF
      have hL2 := Tf48.lin hG
      have ek12 : Int32.toInt (iv 1 2) = Int32.toInt (i 1 2) := congrArg Int32.toInt (congrFun hBs.1 2)
      refine lv_iload_n (pc := 46) C0.1 C0.2.1 dX9_findMend_46 rfl (lv_at hl 0 rfl) ?_
      refine lv_iconst (pc := 47) (v := 4) C0.1 C0.2.1 dX9_findMend_47 (by decide) ?_
      refine lv_icmp_gt (pc := 48) (tgt := 218) C0.1 C0.2.1 dX9_findMend_48 (by decide) (fun c201 => ?_) (fun c201 => ?_)
      · have : Int32.toInt 4 = 4 := rfl
        have c201 := Int32.lt_iff_toInt_lt.mp c201
        refine lv_iconst (pc := 218) (v := 0) C0.1 C0.2.1 dX9_findMend_218 (by decide) ?_
        exact xzret (pc := 219) C0 hr hH hS dX9_findMend_219 (by decide) ⟨hI, hBs⟩
      · have : Int32.toInt 4 = 4 := rfl
        have c201 : ¬ _ := fun q => c201 (Int32.lt_iff_toInt_lt.mpr q)
        refine lv_iconst (pc := 51) (v := 0) C0.1 C0.2.1 dX9_findMend_51 (by decide) ?_
        refine lv_istore_n (pc := 52) (lv' := [(3, .int 0), (2, .int fa), (1, .int ln), (0, .ref (b + 0))]) C0.1 C0.2.1 dX9_findMend_52 rfl hl (by decide) rfl (fun ls hl => ?_)
        exact L53 (ln.toInt).toNat 0 iv Fv Gv _ _ _ hI hBs (by have : Int32.toInt 0 = 0 := rfl; omega) (by have : Int32.toInt 0 = 0 := rfl; omega) (by omega) hH hS (lv_sub hl [0, 1, 2, 3] rfl)
  refine lv_aload_n (pc := 0) C0.1 C0.2.1 dX9_findMend_0 rfl (lv_at hl 0 rfl) ?_
  refine xget (pc := 1) C0 hH 0 3 clX9 ⟨Nat.le_of_ble_eq_true rfl, Nat.le_of_ble_eq_true rfl⟩ ⟨rfl, rfl⟩ (Nat.le_of_ble_eq_true rfl) fl_X9_29 (v := .ref (b + 8)) rfl dX9_findMend_1 ?_
  refine xget (pc := 4) C0 hH 8 2 clX4 ⟨Nat.le_of_ble_eq_true rfl, Nat.le_of_ble_eq_true rfl⟩ ⟨rfl, rfl⟩ (Nat.le_of_ble_eq_true rfl) fl_X9_112 (v := .int (i 8 2)) rfl dX9_findMend_4 ?_
  refine lv_iconst (pc := 7) (v := 3) C0.1 C0.2.1 dX9_findMend_7 (by decide) ?_
  refine lv_icmp_eq (pc := 8) (tgt := 24) C0.1 C0.2.1 dX9_findMend_8 (by decide) (fun c1 => ?_) (fun c1 => ?_)
  · have : Int32.toInt 3 = 3 := rfl
    have c1 := congrArg Int32.toInt c1
    refine lv_aload_n (pc := 24) C0.1 C0.2.1 dX9_findMend_24 rfl (lv_at hl 0 rfl) ?_
    refine xget (pc := 25) C0 hH 0 1 clX9 ⟨Nat.le_of_ble_eq_true rfl, Nat.le_of_ble_eq_true rfl⟩ ⟨rfl, rfl⟩ (Nat.le_of_ble_eq_true rfl) fl_X9_19 (v := .ref (b + 4)) rfl dX9_findMend_25 ?_
    refine xcVI (pc := 28) 4 [] (g_X6_lineCount_4 l D tA b i F G  (show 0 ≤ Int32.toInt (i 4 1) ∧ Int32.toInt (i 4 1) ≤ 600 from by omega)) C0 hH hS clX6 rfl ⟨⟨Nat.le_of_ble_eq_true rfl, Nat.le_of_ble_eq_true rfl⟩, rfl, rfl⟩ cw_X9_153 rfl ⟨Nat.le_of_ble_eq_true rfl, Nat.le_of_ble_eq_true rfl⟩ hl.1 rfl (Nat.le_of_ble_eq_true rfl) dX9_findMend_28 ⟨Nat.le_of_ble_eq_true rfl, Nat.le_of_ble_eq_true rfl⟩ (fun r2 ir2 Fr2 Gr2 _ locs hp hH hS => ?_)
    obtain ⟨hu, hpr2⟩ := hp
    cases hu
    refine lv_aload_n (pc := 31) C0.1 C0.2.1 dX9_findMend_31 rfl (lv_at hl 0 rfl) ?_
    refine xget (pc := 32) C0 hH 0 3 clX9 ⟨Nat.le_of_ble_eq_true rfl, Nat.le_of_ble_eq_true rfl⟩ ⟨rfl, rfl⟩ (Nat.le_of_ble_eq_true rfl) fl_X9_29 (v := .ref (b + 8)) rfl dX9_findMend_32 ?_
    refine xget (pc := 35) C0 hH 8 4 clX4 ⟨Nat.le_of_ble_eq_true rfl, Nat.le_of_ble_eq_true rfl⟩ ⟨rfl, rfl⟩ (Nat.le_of_ble_eq_true rfl) fl_X9_127 (v := .int (i 8 4)) rfl dX9_findMend_35 ?_
    refine lv_iconst (pc := 38) (v := 1) C0.1 C0.2.1 dX9_findMend_38 (by decide) ?_
    refine lv_iadd (pc := 39) C0.1 C0.2.1 dX9_findMend_39 ?_
    refine va_mmin (pc := 40) C0.1 C0.2.1 (C0.2.2.1.trans hl.1.symm) C0.2.2.2.1 (C0.2.2.2.2.1 _ mm_X9_260.1) (C0.2.2.2.2.1 _ mm_X9_260.2.1) (C0.2.2.2.2.1 _ mm_X9_260.2.2.1) (C0.2.2.2.2.1 _ mm_X9_260.2.2.2) (Nat.le_of_ble_eq_true rfl) (Nat.le_of_ble_eq_true rfl) (Nat.le_of_ble_eq_true rfl) (Nat.le_of_ble_eq_true rfl) dX9_findMend_40 ?_
    refine lv_topi (fun x3 ex3 => ?_)
    refine lv_istore_n (pc := 43) (lv' := [(1, .int x3), (0, .ref (b + 0))]) C0.1 C0.2.1 dX9_findMend_43 rfl hl (by decide) rfl (fun ls hl => ?_)
    refine lv_iconst (pc := 44) (v := 1) C0.1 C0.2.1 dX9_findMend_44 (by decide) ?_
    refine lv_istore_n (pc := 45) (lv' := [(2, .int 1), (1, .int x3), (0, .ref (b + 0))]) C0.1 C0.2.1 dX9_findMend_45 rfl hl (by decide) rfl (fun ls hl => ?_)
    exact L46 4 1 x3 i F G _ _ _ hI hBs (by decide) (by decide) hH hS (lv_sub hl [0, 1, 2] rfl)
  · have : Int32.toInt 3 = 3 := rfl
    have c1 : ¬ _ := fun q => c1 (Int32.toInt_inj.mp q)
    refine lv_aload_n (pc := 11) C0.1 C0.2.1 dX9_findMend_11 rfl (lv_at hl 0 rfl) ?_
    refine xget (pc := 12) C0 hH 0 3 clX9 ⟨Nat.le_of_ble_eq_true rfl, Nat.le_of_ble_eq_true rfl⟩ ⟨rfl, rfl⟩ (Nat.le_of_ble_eq_true rfl) fl_X9_29 (v := .ref (b + 8)) rfl dX9_findMend_12 ?_
    refine xget (pc := 15) C0 hH 8 2 clX4 ⟨Nat.le_of_ble_eq_true rfl, Nat.le_of_ble_eq_true rfl⟩ ⟨rfl, rfl⟩ (Nat.le_of_ble_eq_true rfl) fl_X9_112 (v := .int (i 8 2)) rfl dX9_findMend_15 ?_
    refine lv_iconst (pc := 18) (v := 4) C0.1 C0.2.1 dX9_findMend_18 (by decide) ?_
    refine lv_icmp_eq (pc := 19) (tgt := 24) C0.1 C0.2.1 dX9_findMend_19 (by decide) (fun c4 => ?_) (fun c4 => ?_)
    · have : Int32.toInt 4 = 4 := rfl
      have c4 := congrArg Int32.toInt c4
      refine lv_aload_n (pc := 24) C0.1 C0.2.1 dX9_findMend_24 rfl (lv_at hl 0 rfl) ?_
      refine xget (pc := 25) C0 hH 0 1 clX9 ⟨Nat.le_of_ble_eq_true rfl, Nat.le_of_ble_eq_true rfl⟩ ⟨rfl, rfl⟩ (Nat.le_of_ble_eq_true rfl) fl_X9_19 (v := .ref (b + 4)) rfl dX9_findMend_25 ?_
      refine xcVI (pc := 28) 4 [] (g_X6_lineCount_4 l D tA b i F G  (show 0 ≤ Int32.toInt (i 4 1) ∧ Int32.toInt (i 4 1) ≤ 600 from by omega)) C0 hH hS clX6 rfl ⟨⟨Nat.le_of_ble_eq_true rfl, Nat.le_of_ble_eq_true rfl⟩, rfl, rfl⟩ cw_X9_153 rfl ⟨Nat.le_of_ble_eq_true rfl, Nat.le_of_ble_eq_true rfl⟩ hl.1 rfl (Nat.le_of_ble_eq_true rfl) dX9_findMend_28 ⟨Nat.le_of_ble_eq_true rfl, Nat.le_of_ble_eq_true rfl⟩ (fun r5 ir5 Fr5 Gr5 _ locs hp hH hS => ?_)
      obtain ⟨hu, hpr5⟩ := hp
      cases hu
      refine lv_aload_n (pc := 31) C0.1 C0.2.1 dX9_findMend_31 rfl (lv_at hl 0 rfl) ?_
      refine xget (pc := 32) C0 hH 0 3 clX9 ⟨Nat.le_of_ble_eq_true rfl, Nat.le_of_ble_eq_true rfl⟩ ⟨rfl, rfl⟩ (Nat.le_of_ble_eq_true rfl) fl_X9_29 (v := .ref (b + 8)) rfl dX9_findMend_32 ?_
      refine xget (pc := 35) C0 hH 8 4 clX4 ⟨Nat.le_of_ble_eq_true rfl, Nat.le_of_ble_eq_true rfl⟩ ⟨rfl, rfl⟩ (Nat.le_of_ble_eq_true rfl) fl_X9_127 (v := .int (i 8 4)) rfl dX9_findMend_35 ?_
      refine lv_iconst (pc := 38) (v := 1) C0.1 C0.2.1 dX9_findMend_38 (by decide) ?_
      refine lv_iadd (pc := 39) C0.1 C0.2.1 dX9_findMend_39 ?_
      refine va_mmin (pc := 40) C0.1 C0.2.1 (C0.2.2.1.trans hl.1.symm) C0.2.2.2.1 (C0.2.2.2.2.1 _ mm_X9_260.1) (C0.2.2.2.2.1 _ mm_X9_260.2.1) (C0.2.2.2.2.1 _ mm_X9_260.2.2.1) (C0.2.2.2.2.1 _ mm_X9_260.2.2.2) (Nat.le_of_ble_eq_true rfl) (Nat.le_of_ble_eq_true rfl) (Nat.le_of_ble_eq_true rfl) (Nat.le_of_ble_eq_true rfl) dX9_findMend_40 ?_
      refine lv_topi (fun x6 ex6 => ?_)
      refine lv_istore_n (pc := 43) (lv' := [(1, .int x6), (0, .ref (b + 0))]) C0.1 C0.2.1 dX9_findMend_43 rfl hl (by decide) rfl (fun ls hl => ?_)
      refine lv_iconst (pc := 44) (v := 1) C0.1 C0.2.1 dX9_findMend_44 (by decide) ?_
      refine lv_istore_n (pc := 45) (lv' := [(2, .int 1), (1, .int x6), (0, .ref (b + 0))]) C0.1 C0.2.1 dX9_findMend_45 rfl hl (by decide) rfl (fun ls hl => ?_)
      exact L46 4 1 x6 i F G _ _ _ hI hBs (by decide) (by decide) hH hS (lv_sub hl [0, 1, 2] rfl)
    · have : Int32.toInt 4 = 4 := rfl
      have c4 : ¬ _ := fun q => c4 (Int32.toInt_inj.mp q)
      refine lv_iconst (pc := 22) (v := 0) C0.1 C0.2.1 dX9_findMend_22 (by decide) ?_
      exact xzret (pc := 23) C0 hr hH hS dX9_findMend_23 (by decide) ⟨hI, hBs⟩
set_option maxHeartbeats 4000000 in
set_option maxRecDepth 100000 in
theorem g_X9_mend (l : Launch) (D : va_G) (tA : Nat → ClassId) (b : Nat) (i F : Nat → Nat → Int32) (G : Nat → Nat → Int64)  (hI : IC i F) (htd : 0 ≤ (i 1 2).toInt ∧ (i 1 2).toInt ≤ 24) : xMI l yX9_mend cX9_mend 1 (some .int) 7 167 D tA b 0 78 i F G [.ref (b + 0)] (fun r u => IC u.1 u.2.1 ∧ u.1 1 = i 1 ∧ u.2.1 3 = F 3 ∧ u.2.2 = G) := by
  refine xstart RX9 rfl (by decide) (Nat.le_of_ble_eq_true rfl) ?_
  intro p e s m below meth c ls C0 hr hH hS hl
  have hl : lv_has ls 1 [(0, .ref (b + 0))] := hl
  have hI0 := hI
  obtain ⟨hsz, hbf, hsz6, hbf7, htk, hF, hQ, htk2, hG, hQ2, hPg, hpt, hrw⟩ := hI0
  have hL := Tf17.lin hF
  have hL2 := Tf48.lin hG
  have hBs : i 1 = i 1 ∧ F 3 = F 3 ∧ G = G := ⟨rfl, rfl, rfl⟩

  refine lv_aload_n (pc := 0) C0.1 C0.2.1 dX9_mend_0 rfl (lv_at hl 0 rfl) ?_
  refine xget (pc := 1) C0 hH 0 8 clX9 ⟨Nat.le_of_ble_eq_true rfl, Nat.le_of_ble_eq_true rfl⟩ ⟨rfl, rfl⟩ (Nat.le_of_ble_eq_true rfl) fl_X9_53 (v := .int (i 0 8)) rfl dX9_mend_1 ?_
  refine lv_iconst (pc := 4) (v := 2) C0.1 C0.2.1 dX9_mend_4 (by decide) ?_
  refine lv_icmp_eq (pc := 5) (tgt := 11) C0.1 C0.2.1 dX9_mend_5 (by decide) (fun c1 => ?_) (fun c1 => ?_)
  · have : Int32.toInt 2 = 2 := rfl
    have c1 := congrArg Int32.toInt c1
    refine lv_aload_n (pc := 11) C0.1 C0.2.1 dX9_mend_11 rfl (lv_at hl 0 rfl) ?_
    refine xget (pc := 12) C0 hH 0 9 clX9 ⟨Nat.le_of_ble_eq_true rfl, Nat.le_of_ble_eq_true rfl⟩ ⟨rfl, rfl⟩ (Nat.le_of_ble_eq_true rfl) fl_X9_268 (v := .int (i 0 9)) rfl dX9_mend_12 ?_
    refine lv_bipush (pc := 15) (v := 30) C0.1 C0.2.1 dX9_mend_15 (by decide) ?_
    refine lv_icmp_lt (pc := 17) (tgt := 23) C0.1 C0.2.1 dX9_mend_17 (by decide) (fun c2 => ?_) (fun c2 => ?_)
    · have : Int32.toInt 30 = 30 := rfl
      have c2 := Int32.lt_iff_toInt_lt.mp c2
      refine lv_aload_n (pc := 23) C0.1 C0.2.1 dX9_mend_23 rfl (lv_at hl 0 rfl) ?_
      refine lv_bipush (pc := 24) (v := (-9)) C0.1 C0.2.1 dX9_mend_24 (by decide) ?_
      refine xputI (pc := 26) C0 (Nat.le_of_ble_eq_true rfl) hH hS 0 10 clX9 ⟨Nat.le_of_ble_eq_true rfl, Nat.le_of_ble_eq_true rfl⟩ ⟨rfl, rfl⟩ ⟨Nat.le_of_ble_eq_true rfl, rfl, rfl⟩ fl_X9_57 (x := (-9)) ⟨rfl, rfl⟩ dX9_mend_26 (fun _ locs hH hS _ => ?_)
      have hH : Hd D tA b 0 78 zz (up2 i 0 10 (-9)) F G _ := hH
      refine lv_aload_n (pc := 29) C0.1 C0.2.1 dX9_mend_29 rfl (lv_at hl 0 rfl) ?_
      refine lv_bipush (pc := 30) (v := (-9)) C0.1 C0.2.1 dX9_mend_30 (by decide) ?_
      refine xputI (pc := 32) C0 (Nat.le_of_ble_eq_true rfl) hH hS 0 11 clX9 ⟨Nat.le_of_ble_eq_true rfl, Nat.le_of_ble_eq_true rfl⟩ ⟨rfl, rfl⟩ ⟨Nat.le_of_ble_eq_true rfl, rfl, rfl⟩ fl_X9_60 (x := (-9)) ⟨rfl, rfl⟩ dX9_mend_32 (fun _ locs hH hS _ => ?_)
      have hH : Hd D tA b 0 78 zz (up2 (up2 i 0 10 (-9)) 0 11 (-9)) F G _ := hH
      refine lv_aload_n (pc := 35) C0.1 C0.2.1 dX9_mend_35 rfl (lv_at hl 0 rfl) ?_
      refine xcVI (pc := 36) 0 [] (g_X9_findMend l D tA b (up2 (up2 i 0 10 (-9)) 0 11 (-9)) F G hI (show 0 ≤ Int32.toInt (i 1 2) ∧ Int32.toInt (i 1 2) ≤ 24 from by omega)) C0 hH hS clX9 rfl ⟨⟨Nat.le_of_ble_eq_true rfl, Nat.le_of_ble_eq_true rfl⟩, rfl, rfl⟩ cw_X9_271 rfl ⟨Nat.le_of_ble_eq_true rfl, Nat.le_of_ble_eq_true rfl⟩ hl.1 rfl (Nat.le_of_ble_eq_true rfl) dX9_mend_36 ⟨Nat.le_of_ble_eq_true rfl, Nat.le_of_ble_eq_true rfl⟩ (fun r3 ir3 Fr3 Gr3 _ locs hp hH hS => ?_)
      obtain ⟨hI, hb1r3, hb2r3, hb3r3⟩ := hp
      have hI : IC ir3 Fr3 := hI
      have hBs : ir3 1 = i 1 ∧ Fr3 3 = F 3 ∧ Gr3 = G := ⟨hb1r3, hb2r3, hb3r3⟩
      have hI0 := hI
      obtain ⟨hsz, hbf, hsz6, hbf7, htk, hF, hQ, htk2, hG, hQ2, hPg, hpt, hrw⟩ := hI0
      have hL := Tf17.lin hF
      have hL2 := Tf48.lin hG
      refine lv_if_ne (pc := 39) (tgt := 44) C0.1 C0.2.1 dX9_mend_39 (by decide) (fun c4 => ?_) (fun c4 => ?_)
      · have : Int32.toInt 0 = 0 := rfl
        have c4 : ¬ _ := fun q => c4 (Int32.toInt_inj.mp q)
        refine lv_aload_n (pc := 44) C0.1 C0.2.1 dX9_mend_44 rfl (lv_at hl 0 rfl) ?_
        refine xget (pc := 45) C0 hH 0 1 clX9 ⟨Nat.le_of_ble_eq_true rfl, Nat.le_of_ble_eq_true rfl⟩ ⟨rfl, rfl⟩ (Nat.le_of_ble_eq_true rfl) fl_X9_19 (v := .ref (b + 4)) rfl dX9_mend_45 ?_
        refine lv_aload_n (pc := 48) C0.1 C0.2.1 dX9_mend_48 rfl (lv_at hl 0 rfl) ?_
        refine xget (pc := 49) C0 hH 0 10 clX9 ⟨Nat.le_of_ble_eq_true rfl, Nat.le_of_ble_eq_true rfl⟩ ⟨rfl, rfl⟩ (Nat.le_of_ble_eq_true rfl) fl_X9_57 (v := .int (ir3 0 10)) rfl dX9_mend_49 ?_
        refine lv_aload_n (pc := 52) C0.1 C0.2.1 dX9_mend_52 rfl (lv_at hl 0 rfl) ?_
        refine xget (pc := 53) C0 hH 0 11 clX9 ⟨Nat.le_of_ble_eq_true rfl, Nat.le_of_ble_eq_true rfl⟩ ⟨rfl, rfl⟩ (Nat.le_of_ble_eq_true rfl) fl_X9_60 (v := .int (ir3 0 11)) rfl dX9_mend_53 ?_
        refine xcVI (pc := 56) 4 [.int (ir3 0 10), .int (ir3 0 11)] (g_X6_slide_4 l D tA b ir3 Fr3 Gr3 (ir3 0 10) (ir3 0 11) hsz hbf) C0 hH hS clX6 rfl ⟨⟨Nat.le_of_ble_eq_true rfl, Nat.le_of_ble_eq_true rfl⟩, rfl, rfl⟩ cw_X9_95 rfl ⟨Nat.le_of_ble_eq_true rfl, Nat.le_of_ble_eq_true rfl⟩ hl.1 rfl (Nat.le_of_ble_eq_true rfl) dX9_mend_56 ⟨Nat.le_of_ble_eq_true rfl, Nat.le_of_ble_eq_true rfl⟩ (fun r5 ir5 Fr5 Gr5 _ locs hp hH hS => ?_)
        obtain ⟨honr5, a1r5, a2r5, a3r5⟩ := hp
        have hI : IC ir5 Fr5 := IC.t (i := ir3) (F := Fr3) hI honr5 ⟨a1r5, a2r5⟩ a3r5
        have hBs : ir5 1 = i 1 ∧ Fr5 3 = F 3 ∧ Gr5 = G := ⟨(honr5.1 1 (by decide)).1.trans hBs.1, (honr5.1 3 (by decide)).2.trans hBs.2.1, honr5.2.trans hBs.2.2⟩
        have hI0 := hI
        obtain ⟨hsz, hbf, hsz6, hbf7, htk, hF, hQ, htk2, hG, hQ2, hPg, hpt, hrw⟩ := hI0
        have hL := Tf17.lin hF
        have hL2 := Tf48.lin hG
        have ek_1_2r5 : Int32.toInt (ir5 1 2) = Int32.toInt (ir3 1 2) := congrArg Int32.toInt (congrFun (honr5.1 1 (by decide)).1 2)
        refine lv_pop (pc := 59) C0.1 C0.2.1 dX9_mend_59 rfl ?_
        refine lv_aload_n (pc := 60) C0.1 C0.2.1 dX9_mend_60 rfl (lv_at hl 0 rfl) ?_
        refine lv_dup (pc := 61) C0.1 C0.2.1 dX9_mend_61 rfl ?_
        refine xget (pc := 62) C0 hH 0 9 clX9 ⟨Nat.le_of_ble_eq_true rfl, Nat.le_of_ble_eq_true rfl⟩ ⟨rfl, rfl⟩ (Nat.le_of_ble_eq_true rfl) fl_X9_268 (v := .int (ir5 0 9)) rfl dX9_mend_62 ?_
        refine lv_iconst (pc := 65) (v := 1) C0.1 C0.2.1 dX9_mend_65 (by decide) ?_
        refine lv_iadd (pc := 66) C0.1 C0.2.1 dX9_mend_66 ?_
        refine lv_topi (fun x6 ex6 => ?_)
        refine xputI (pc := 67) C0 (Nat.le_of_ble_eq_true rfl) hH hS 0 9 clX9 ⟨Nat.le_of_ble_eq_true rfl, Nat.le_of_ble_eq_true rfl⟩ ⟨rfl, rfl⟩ ⟨Nat.le_of_ble_eq_true rfl, rfl, rfl⟩ fl_X9_268 (x := x6) ⟨rfl, rfl⟩ dX9_mend_67 (fun _ locs hH hS _ => ?_)
        have hH : Hd D tA b 0 78 zz (up2 ir5 0 9 x6) Fr5 Gr5 _ := hH
        refine lv_aload_n (pc := 70) C0.1 C0.2.1 dX9_mend_70 rfl (lv_at hl 0 rfl) ?_
        refine lv_iconst (pc := 71) (v := 0) C0.1 C0.2.1 dX9_mend_71 (by decide) ?_
        refine xputI (pc := 72) C0 (Nat.le_of_ble_eq_true rfl) hH hS 0 8 clX9 ⟨Nat.le_of_ble_eq_true rfl, Nat.le_of_ble_eq_true rfl⟩ ⟨rfl, rfl⟩ ⟨Nat.le_of_ble_eq_true rfl, rfl, rfl⟩ fl_X9_53 (x := 0) ⟨rfl, rfl⟩ dX9_mend_72 (fun _ locs hH hS _ => ?_)
        have hH : Hd D tA b 0 78 zz (up2 (up2 ir5 0 9 x6) 0 8 0) Fr5 Gr5 _ := hH
        refine lv_iconst (pc := 75) (v := 1) C0.1 C0.2.1 dX9_mend_75 (by decide) ?_
        exact xiret (pc := 76) C0 hr hH hS dX9_mend_76 ⟨hI, hBs⟩
      · have : Int32.toInt 0 = 0 := rfl
        have c4 := congrArg Int32.toInt c4
        refine lv_iconst (pc := 42) (v := 0) C0.1 C0.2.1 dX9_mend_42 (by decide) ?_
        exact xiret (pc := 43) C0 hr hH hS dX9_mend_43 ⟨hI, hBs⟩
    · have : Int32.toInt 30 = 30 := rfl
      have c2 : ¬ _ := fun q => c2 (Int32.lt_iff_toInt_lt.mpr q)
      refine lv_bipush (pc := 20) (v := (-4)) C0.1 C0.2.1 dX9_mend_20 (by decide) ?_
      exact xiret (pc := 22) C0 hr hH hS dX9_mend_22 ⟨hI, hBs⟩
  · have : Int32.toInt 2 = 2 := rfl
    have c1 : ¬ _ := fun q => c1 (Int32.toInt_inj.mp q)
    refine lv_bipush (pc := 8) (v := (-3)) C0.1 C0.2.1 dX9_mend_8 (by decide) ?_
    exact xiret (pc := 10) C0 hr hH hS dX9_mend_10 ⟨hI, hBs⟩
set_option maxHeartbeats 4000000 in
set_option maxRecDepth 100000 in
theorem g_J7_fillI (l : Launch) (D : va_G) (tA : Nat → ClassId) (b : Nat) (i F : Nat → Nat → Int32) (G : Nat → Nat → Int64) (x : Int32)  : xMV l yJ7_fill_53178 cJ7_fill_53178 4 none 0 0 D tA b 0 78 i F G [.ref (b + 77), .int x] (fun u => On 77 78 i F G u ∧ True) := by
  refine xstart RJ7 rfl (by decide) (Nat.le_of_ble_eq_true rfl) ?_
  intro p e s m below meth c ls C0 hr hH hS hl
  have hl : lv_has ls 4 [(0, .ref (b + 77)), (1, .int x)] := hl
  have rg_x := fb_rng x
  have h20 : Int32.toInt (nI 200) = 200 := rfl
  have LOOP : ∀ (d : Nat) (k : Int32) (iv Fv : Nat → Nat → Int32) (Gv : Nat → Nat → Int64) (H : Heap) (locs : List Loc) (ls : Array Slot), (0 ≤ k.toInt) → (200 - k.toInt ≤ d) → (On 77 78 i F G (iv, Fv, Gv)) → Hd D tA b 0 78 zz iv Fv Gv H → va_S (xA b 0 78) s.heap H locs → lv_has ls 4 [(3, .int (nI 200)), (2, .int k), (0, .ref (b + 77)), (1, .int x)] → W p l e (xR 0 0) s m ([.ref (b + 77), .int x] : List Value).toArray below meth c H locs 0 0 (MQ below (va_Qv (fun u => On 77 78 i F G u ∧ True) (xB D tA b 0 78 zz) (xA b 0 78)) ([.ref (b + 77), .int x] : List Value).toArray s 0 0 (xA b 0 78)) (F0 m 5 ls []) := by
    intro d
    induction d with
    | zero =>
      intro k iv Fv Gv H locs ls h1 h2 h3 hH hS hl
      have rg_k := fb_rng k
      refine lv_iload_n (pc := 5) C0.1 C0.2.1 dJ7_fill_53178_5 rfl (lv_at hl 1 rfl) ?_
      refine lv_iload_n (pc := 6) C0.1 C0.2.1 dJ7_fill_53178_6 rfl (lv_at hl 0 rfl) ?_
      have : Int32.toInt (nI 200) = 200 := rfl
      refine lv_icmp_ge (pc := 7) (tgt := 20) C0.1 C0.2.1 dJ7_fill_53178_7 (by decide) (fun _ => ?_) (fun c => absurd (Int32.le_iff_toInt_le.mpr (by omega)) c)
      exact xvret (pc := 20) C0 hr hH hS dJ7_fill_53178_20 ⟨h3, trivial⟩
    | succ d ih =>
      intro k iv Fv Gv H locs ls h1 h2 h3 hH hS hl
      have rg_k := fb_rng k
      refine lv_iload_n (pc := 5) C0.1 C0.2.1 dJ7_fill_53178_5 rfl (lv_at hl 1 rfl) ?_
      refine lv_iload_n (pc := 6) C0.1 C0.2.1 dJ7_fill_53178_6 rfl (lv_at hl 0 rfl) ?_
      refine lv_icmp_ge (pc := 7) (tgt := 20) C0.1 C0.2.1 dJ7_fill_53178_7 (by decide) (fun c101 => ?_) (fun c101 => ?_)
      · have c101 := Int32.le_iff_toInt_le.mp c101
        exact xvret (pc := 20) C0 hr hH hS dJ7_fill_53178_20 ⟨h3, trivial⟩
      · have c101 : ¬ _ := fun q => c101 (Int32.le_iff_toInt_le.mpr q)
        refine lv_aload_n (pc := 10) C0.1 C0.2.1 dJ7_fill_53178_10 rfl (lv_at hl 2 rfl) ?_
        refine lv_iload_n (pc := 11) C0.1 C0.2.1 dJ7_fill_53178_11 rfl (lv_at hl 1 rfl) ?_
        refine lv_iload_n (pc := 12) C0.1 C0.2.1 dJ7_fill_53178_12 rfl (lv_at hl 3 rfl) ?_
        refine xiast (pc := 13) (N := 200) C0 (Nat.le_of_ble_eq_true rfl) hH hS 77 ⟨Nat.le_of_ble_eq_true rfl, Nat.le_of_ble_eq_true rfl⟩ ⟨rfl, rfl⟩ (vI (by omega) (by omega)) dJ7_fill_53178_13 (fun _ locs hH hS _ => ?_)
        have hH : Hd D tA b 0 78 zz iv (va_up Fv 77 (upd (Fv 77) (Int32.toNatClampNeg k) x)) Gv _ := hH
        obtain ⟨x102, ex102⟩ : ∃ y_ : Int32, y_ = k + 1 := ⟨_, rfl⟩
        have : Int32.toInt 1 = 1 := rfl
        have hx102 : Int32.toInt x102 = Int32.toInt k + Int32.toInt 1 := by rw [ex102]; exact fb_addI (by omega) (by omega)
        refine lv_iinc (pc := 14) (v := x102) (lv' := [(2, .int x102), (3, .int (nI 200)), (0, .ref (b + 77)), (1, .int x)]) C0.1 C0.2.1 dJ7_fill_53178_14 hl (k := 1) rfl (by rw [ex102]; rfl) (by decide) rfl (fun ls hl => ?_)
        refine lv_goto (pc := 17) (tgt := 5) C0.1 C0.2.1 dJ7_fill_53178_17 (by decide) ?_
        exact ih x102 iv (va_up Fv 77 (upd (Fv 77) (Int32.toNatClampNeg k) x)) Gv _ _ _ (by omega) (by omega) (On.f h3 (by decide)) hH hS (lv_sub hl [1, 0, 2, 3] rfl)
  refine lv_iconst (pc := 0) (v := 0) C0.1 C0.2.1 dJ7_fill_53178_0 (by decide) ?_
  refine lv_istore_n (pc := 1) (lv' := [(2, .int 0), (0, .ref (b + 77)), (1, .int x)]) C0.1 C0.2.1 dJ7_fill_53178_1 rfl hl (by decide) rfl (fun ls hl => ?_)
  refine lv_aload_n (pc := 2) C0.1 C0.2.1 dJ7_fill_53178_2 rfl (lv_at hl 1 rfl) ?_
  refine xalen (pc := 3) (N := 200) (t := 50) C0 hH 77 ⟨Nat.le_of_ble_eq_true rfl, Nat.le_of_ble_eq_true rfl⟩ ⟨rfl, rfl⟩ (by decide) dJ7_fill_53178_3 ?_
  refine lv_istore_n (pc := 4) (lv' := [(3, .int (nI 200)), (2, .int 0), (0, .ref (b + 77)), (1, .int x)]) C0.1 C0.2.1 dJ7_fill_53178_4 rfl hl (by decide) rfl (fun ls hl => ?_)
  exact LOOP 200 0 i F G _ _ _ (by have : Int32.toInt 0 = 0 := rfl; omega) (by have : Int32.toInt 0 = 0 := rfl; omega) On.rf hH hS (lv_sub hl [0, 1, 2, 3] rfl)
set_option maxHeartbeats 4000000 in
set_option maxRecDepth 100000 in
theorem g_X9_marks (l : Launch) (D : va_G) (tA : Nat → ClassId) (b : Nat) (i F : Nat → Nat → Int32) (G : Nat → Nat → Int64) (x : Int32) (hI : IC i F) (htd : 0 ≤ (i 1 2).toInt ∧ (i 1 2).toInt ≤ 24) : xMI l yX9_marks cX9_marks 2 (some .int) 1 23 D tA b 0 78 i F G [.ref (b + 0), .int x] (fun r u => (IC u.1 u.2.1 ∧ u.1 1 = i 1 ∧ u.2.1 3 = F 3 ∧ u.2.2 = G) ∧ ((x.toInt < 0 ∧ r = -13) ∨ (200 < x.toInt ∧ r = -2) ∨ ((0 ≤ x.toInt ∧ x.toInt ≤ 200) ∧ r = x))) := by
  refine xstart RX9 rfl (by decide) (Nat.le_of_ble_eq_true rfl) ?_
  intro p e s m below meth c ls C0 hr hH hS hl
  have hl : lv_has ls 2 [(0, .ref (b + 0)), (1, .int x)] := hl
  have rg_x := fb_rng x
  have hI0 := hI
  obtain ⟨hsz, hbf, hsz6, hbf7, htk, hF, hQ, htk2, hG, hQ2, hPg, hpt, hrw⟩ := hI0
  have hL := Tf17.lin hF
  have hL2 := Tf48.lin hG
  have hBs : i 1 = i 1 ∧ F 3 = F 3 ∧ G = G := ⟨rfl, rfl, rfl⟩

  refine lv_iload_n (pc := 0) C0.1 C0.2.1 dX9_marks_0 rfl (lv_at hl 1 rfl) ?_
  refine lv_if_ge (pc := 1) (tgt := 7) C0.1 C0.2.1 dX9_marks_1 (by decide) (fun c1 => ?_) (fun c1 => ?_)
  · have : Int32.toInt 0 = 0 := rfl
    have c1 := Int32.le_iff_toInt_le.mp c1
    refine lv_iload_n (pc := 7) C0.1 C0.2.1 dX9_marks_7 rfl (lv_at hl 1 rfl) ?_
    refine lv_sipush (pc := 8) (v := 200) C0.1 C0.2.1 dX9_marks_8 (by decide) ?_
    refine lv_icmp_le (pc := 11) (tgt := 17) C0.1 C0.2.1 dX9_marks_11 (by decide) (fun c2 => ?_) (fun c2 => ?_)
    · have : Int32.toInt 200 = 200 := rfl
      have c2 := Int32.le_iff_toInt_le.mp c2
      refine lv_aload_n (pc := 17) C0.1 C0.2.1 dX9_marks_17 rfl (lv_at hl 0 rfl) ?_
      refine xget (pc := 18) C0 hH 0 12 clX9 ⟨Nat.le_of_ble_eq_true rfl, Nat.le_of_ble_eq_true rfl⟩ ⟨rfl, rfl⟩ (Nat.le_of_ble_eq_true rfl) fl_X9_63 (v := .ref (b + 77)) rfl dX9_marks_18 ?_
      refine lv_iconst (pc := 21) (v := 0) C0.1 C0.2.1 dX9_marks_21 (by decide) ?_
      refine xcSV (pc := 22) [.ref (b + 77), .int 0] (g_J7_fillI l D tA b i F G 0 ) C0 hH hS cw_X9_274 rfl ⟨Nat.le_of_ble_eq_true rfl, Nat.le_of_ble_eq_true rfl⟩ hl.1 rfl (Nat.le_of_ble_eq_true rfl) dX9_marks_22 ⟨Nat.le_of_ble_eq_true rfl, Nat.le_of_ble_eq_true rfl⟩ (fun ir3 Fr3 Gr3 _ locs hp hH hS => ?_)
      obtain ⟨honr3, _ar3⟩ := hp
      have hI : IC ir3 Fr3 := IC.r (i := i) (F := F) hI honr3 
      have hBs : ir3 1 = i 1 ∧ Fr3 3 = F 3 ∧ Gr3 = G := ⟨(honr3.1 1 (by decide)).1.trans hBs.1, (honr3.1 3 (by decide)).2.trans hBs.2.1, honr3.2.trans hBs.2.2⟩
      have hI0 := hI
      obtain ⟨hsz, hbf, hsz6, hbf7, htk, hF, hQ, htk2, hG, hQ2, hPg, hpt, hrw⟩ := hI0
      have hL := Tf17.lin hF
      have hL2 := Tf48.lin hG
      have ek_1_2r3 : Int32.toInt (ir3 1 2) = Int32.toInt (i 1 2) := congrArg Int32.toInt (congrFun (honr3.1 1 (by decide)).1 2)
      refine lv_aload_n (pc := 25) C0.1 C0.2.1 dX9_marks_25 rfl (lv_at hl 0 rfl) ?_
      refine lv_iload_n (pc := 26) C0.1 C0.2.1 dX9_marks_26 rfl (lv_at hl 1 rfl) ?_
      refine xputI (pc := 27) C0 (Nat.le_of_ble_eq_true rfl) hH hS 0 13 clX9 ⟨Nat.le_of_ble_eq_true rfl, Nat.le_of_ble_eq_true rfl⟩ ⟨rfl, rfl⟩ ⟨Nat.le_of_ble_eq_true rfl, rfl, rfl⟩ fl_X9_280 (x := x) ⟨rfl, rfl⟩ dX9_marks_27 (fun _ locs hH hS _ => ?_)
      have hH : Hd D tA b 0 78 zz (up2 ir3 0 13 x) Fr3 Gr3 _ := hH
      refine lv_iload_n (pc := 30) C0.1 C0.2.1 dX9_marks_30 rfl (lv_at hl 1 rfl) ?_
      exact xiret (pc := 31) C0 hr hH hS dX9_marks_31 ⟨⟨⟨hsz, hbf, hsz6, hbf7, htk, hF, hQ, htk2, hG, hQ2, hPg, hpt, ⟨by show 0 ≤ x.toInt; omega, by show x.toInt ≤ 200; omega⟩⟩, hBs⟩, Or.inr (Or.inr ⟨by omega, rfl⟩)⟩
    · have : Int32.toInt 200 = 200 := rfl
      have c2 : ¬ _ := fun q => c2 (Int32.le_iff_toInt_le.mpr q)
      refine lv_bipush (pc := 14) (v := (-2)) C0.1 C0.2.1 dX9_marks_14 (by decide) ?_
      exact xiret (pc := 16) C0 hr hH hS dX9_marks_16 ⟨⟨hI, hBs⟩, Or.inr (Or.inl ⟨by omega, rfl⟩)⟩
  · have : Int32.toInt 0 = 0 := rfl
    have c1 : ¬ _ := fun q => c1 (Int32.le_iff_toInt_le.mpr q)
    refine lv_bipush (pc := 4) (v := (-13)) C0.1 C0.2.1 dX9_marks_4 (by decide) ?_
    exact xiret (pc := 6) C0 hr hH hS dX9_marks_6 ⟨⟨hI, hBs⟩, Or.inl ⟨by omega, rfl⟩⟩
set_option maxHeartbeats 4000000 in
set_option maxRecDepth 100000 in
theorem g_X9_writtenA (l : Launch) (D : va_G) (tA : Nat → ClassId) (b : Nat) (i F : Nat → Nat → Int32) (G : Nat → Nat → Int64) (x : Int32) (hI : IC i F) (hi_0_6 : i 0 6 = nI 73) (hi_0_7 : i 0 7 = nI 75) : xMI l yX9_written cX9_written 2 (some .int) 1 21 D tA b 0 78 i F G [.ref (b + 0), .int x] (fun r u => u = (i, F, G) ∧ True) := by
  refine xstart RX9 rfl (by decide) (Nat.le_of_ble_eq_true rfl) ?_
  intro p e s m below meth c ls C0 hr hH hS hl
  have hl : lv_has ls 2 [(0, .ref (b + 0)), (1, .int x)] := hl
  have rg_x := fb_rng x
  have hI0 := hI
  obtain ⟨hsz, hbf, hsz6, hbf7, htk, hF, hQ, htk2, hG, hQ2, hPg, hpt, hrw⟩ := hI0
  have hL := Tf17.lin hF
  have hL2 := Tf48.lin hG
  have hBs : i 1 = i 1 ∧ F 3 = F 3 ∧ G = G := ⟨rfl, rfl, rfl⟩
  refine lv_aload_n (pc := 0) C0.1 C0.2.1 dX9_written_0 rfl (lv_at hl 0 rfl) ?_
  refine xget (pc := 1) C0 hH 0 6 clX9 ⟨Nat.le_of_ble_eq_true rfl, Nat.le_of_ble_eq_true rfl⟩ ⟨rfl, rfl⟩ (Nat.le_of_ble_eq_true rfl) fl_X9_46 (v := .ref (b + 73)) (by show Value.ref (b + (i 0 6).toNatClampNeg) = _; rw [hi_0_6]; rfl) dX9_written_1 ?_
  refine lv_iload_n (pc := 4) C0.1 C0.2.1 dX9_written_4 rfl (lv_at hl 1 rfl) ?_
  refine xcVI (pc := 5) 73 [.int x] (g_X3_at_73 l D tA b i F G x (show 0 ≤ Int32.toInt (i 73 1) ∧ Int32.toInt (i 73 1) ≤ 4000 from by omega)) C0 hH hS clX3 rfl ⟨⟨Nat.le_of_ble_eq_true rfl, Nat.le_of_ble_eq_true rfl⟩, rfl, rfl⟩ cw_X9_251 rfl ⟨Nat.le_of_ble_eq_true rfl, Nat.le_of_ble_eq_true rfl⟩ hl.1 rfl (Nat.le_of_ble_eq_true rfl) dX9_written_5 ⟨Nat.le_of_ble_eq_true rfl, Nat.le_of_ble_eq_true rfl⟩ (fun r1 ir1 Fr1 Gr1 _ locs hp hH hS => ?_)
  obtain ⟨hu, hpr1⟩ := hp
  cases hu
  exact xiret (pc := 8) C0 hr hH hS dX9_written_8 ⟨rfl, trivial⟩
set_option maxHeartbeats 4000000 in
set_option maxRecDepth 100000 in
theorem g_X9_showDraftA (l : Launch) (D : va_G) (tA : Nat → ClassId) (b : Nat) (i F : Nat → Nat → Int32) (G : Nat → Nat → Int64)  (hi_0_6 : i 0 6 = nI 73) (hi_0_7 : i 0 7 = nI 75) : xMI l yX9_showDraft cX9_showDraft 2 (some .int) 0 0 D tA b 0 78 i F G [.ref (b + 0)] (fun r u => u = (i, F, G) ∨ u = (up2 (up2 i 0 6 (nI 75)) 0 7 (nI 73), F, G)) := by
  refine xstart RX9 rfl (by decide) (Nat.le_of_ble_eq_true rfl) ?_
  intro p e s m below meth c ls C0 hr hH hS hl
  have hl : lv_has ls 2 [(0, .ref (b + 0))] := hl
  refine lv_aload_n (pc := 0) C0.1 C0.2.1 dX9_showDraft_0 rfl (lv_at hl 0 rfl) ?_
  refine xget (pc := 1) C0 hH 0 7 clX9 ⟨Nat.le_of_ble_eq_true rfl, Nat.le_of_ble_eq_true rfl⟩ ⟨rfl, rfl⟩ (Nat.le_of_ble_eq_true rfl) fl_X9_50 (v := .ref (b + 75)) (by show Value.ref (b + (i 0 7).toNatClampNeg) = _; rw [hi_0_7]; rfl) dX9_showDraft_1 ?_
  refine xget (pc := 4) C0 hH 75 2 clX3 ⟨Nat.le_of_ble_eq_true rfl, Nat.le_of_ble_eq_true rfl⟩ ⟨rfl, rfl⟩ (Nat.le_of_ble_eq_true rfl) fl_X9_298 (v := .int (i 75 2)) rfl dX9_showDraft_4 ?_
  refine lv_if_eq (pc := 7) (tgt := 13) C0.1 C0.2.1 dX9_showDraft_7 (by decide) (fun c1 => ?_) (fun c1 => ?_)
  · have : Int32.toInt 0 = 0 := rfl
    have c1 := congrArg Int32.toInt c1
    refine lv_aload_n (pc := 13) C0.1 C0.2.1 dX9_showDraft_13 rfl (lv_at hl 0 rfl) ?_
    refine xget (pc := 14) C0 hH 0 6 clX9 ⟨Nat.le_of_ble_eq_true rfl, Nat.le_of_ble_eq_true rfl⟩ ⟨rfl, rfl⟩ (Nat.le_of_ble_eq_true rfl) fl_X9_46 (v := .ref (b + 73)) (by show Value.ref (b + (i 0 6).toNatClampNeg) = _; rw [hi_0_6]; rfl) dX9_showDraft_14 ?_
    refine lv_astore_n (pc := 17) (lv' := [(1, .ref (b + 73)), (0, .ref (b + 0))]) C0.1 C0.2.1 dX9_showDraft_17 rfl hl (by decide) rfl (fun ls hl => ?_)
    refine lv_aload_n (pc := 18) C0.1 C0.2.1 dX9_showDraft_18 rfl (lv_at hl 1 rfl) ?_
    refine lv_aload_n (pc := 19) C0.1 C0.2.1 dX9_showDraft_19 rfl (lv_at hl 1 rfl) ?_
    refine xget (pc := 20) C0 hH 0 7 clX9 ⟨Nat.le_of_ble_eq_true rfl, Nat.le_of_ble_eq_true rfl⟩ ⟨rfl, rfl⟩ (Nat.le_of_ble_eq_true rfl) fl_X9_50 (v := .ref (b + 75)) (by show Value.ref (b + (i 0 7).toNatClampNeg) = _; rw [hi_0_7]; rfl) dX9_showDraft_20 ?_
    refine xputR (pc := 23) C0 (Nat.le_of_ble_eq_true rfl) hH hS 0 6 75 clX9 ⟨Nat.le_of_ble_eq_true rfl, Nat.le_of_ble_eq_true rfl⟩ ⟨rfl, rfl⟩ ⟨Nat.le_of_ble_eq_true rfl, rfl, rfl⟩ (by decide) fl_X9_46 (fun q => ⟨rfl, rfl⟩) dX9_showDraft_23 (fun _ locs hH hS _ => ?_)
    rw [upz_zz] at hH
    have hH : Hd D tA b 0 78 zz (up2 i 0 6 (nI 75)) F G _ := hH
    refine lv_aload_n (pc := 26) C0.1 C0.2.1 dX9_showDraft_26 rfl (lv_at hl 1 rfl) ?_
    refine lv_aload_n (pc := 27) C0.1 C0.2.1 dX9_showDraft_27 rfl (lv_at hl 0 rfl) ?_
    refine xputR (pc := 28) C0 (Nat.le_of_ble_eq_true rfl) hH hS 0 7 73 clX9 ⟨Nat.le_of_ble_eq_true rfl, Nat.le_of_ble_eq_true rfl⟩ ⟨rfl, rfl⟩ ⟨Nat.le_of_ble_eq_true rfl, rfl, rfl⟩ (by decide) fl_X9_50 (fun q => ⟨rfl, rfl⟩) dX9_showDraft_28 (fun _ locs hH hS _ => ?_)
    rw [upz_zz] at hH
    have hH : Hd D tA b 0 78 zz (up2 (up2 i 0 6 (nI 75)) 0 7 (nI 73)) F G _ := hH
    refine lv_aload_n (pc := 31) C0.1 C0.2.1 dX9_showDraft_31 rfl (lv_at hl 1 rfl) ?_
    refine xget (pc := 32) C0 hH 0 6 clX9 ⟨Nat.le_of_ble_eq_true rfl, Nat.le_of_ble_eq_true rfl⟩ ⟨rfl, rfl⟩ (Nat.le_of_ble_eq_true rfl) fl_X9_46 (v := .ref (b + 75)) (by rfl) dX9_showDraft_32 ?_
    refine xget (pc := 35) C0 hH 75 1 clX3 ⟨Nat.le_of_ble_eq_true rfl, Nat.le_of_ble_eq_true rfl⟩ ⟨rfl, rfl⟩ (Nat.le_of_ble_eq_true rfl) fl_X9_302 (v := .int (i 75 1)) rfl dX9_showDraft_35 ?_
    exact xiret (pc := 38) C0 hr hH hS dX9_showDraft_38 (Or.inr rfl)
  · have : Int32.toInt 0 = 0 := rfl
    have c1 : ¬ _ := fun q => c1 (Int32.toInt_inj.mp q)
    refine lv_bipush (pc := 10) (v := (-4)) C0.1 C0.2.1 dX9_showDraft_10 (by decide) ?_
    exact xiret (pc := 12) C0 hr hH hS dX9_showDraft_12 (Or.inl rfl)
set_option maxHeartbeats 4000000 in
set_option maxRecDepth 100000 in
theorem g_X9_plainA (l : Launch) (D : va_G) (tA : Nat → ClassId) (b : Nat) (i F : Nat → Nat → Int32) (G : Nat → Nat → Int64)  (hI : IC i F) (htd : 0 ≤ (i 1 2).toInt ∧ (i 1 2).toInt ≤ 24) (hi_0_6 : i 0 6 = nI 73) (hi_0_7 : i 0 7 = nI 75) : xMI l yX9_plain cX9_plain 1 (some .int) 5 116 D tA b 0 78 i F G [.ref (b + 0)] (fun r u => IC u.1 u.2.1 ∧ u.1 1 = i 1 ∧ u.2.1 3 = F 3 ∧ u.2.2 = G) := by
  refine xstart RX9 rfl (by decide) (Nat.le_of_ble_eq_true rfl) ?_
  intro p e s m below meth c ls C0 hr hH hS hl
  have hl : lv_has ls 1 [(0, .ref (b + 0))] := hl
  have hI0 := hI
  obtain ⟨hsz, hbf, hsz6, hbf7, htk, hF, hQ, htk2, hG, hQ2, hPg, hpt, hrw⟩ := hI0
  have hL := Tf17.lin hF
  have hL2 := Tf48.lin hG
  have hBs : i 1 = i 1 ∧ F 3 = F 3 ∧ G = G := ⟨rfl, rfl, rfl⟩

  refine lv_aload_n (pc := 0) C0.1 C0.2.1 dX9_plain_0 rfl (lv_at hl 0 rfl) ?_
  refine xget (pc := 1) C0 hH 0 8 clX9 ⟨Nat.le_of_ble_eq_true rfl, Nat.le_of_ble_eq_true rfl⟩ ⟨rfl, rfl⟩ (Nat.le_of_ble_eq_true rfl) fl_X9_53 (v := .int (i 0 8)) rfl dX9_plain_1 ?_
  refine lv_iconst (pc := 4) (v := 1) C0.1 C0.2.1 dX9_plain_4 (by decide) ?_
  refine lv_icmp_eq (pc := 5) (tgt := 11) C0.1 C0.2.1 dX9_plain_5 (by decide) (fun c1 => ?_) (fun c1 => ?_)
  · have : Int32.toInt 1 = 1 := rfl
    have c1 := congrArg Int32.toInt c1
    refine lv_aload_n (pc := 11) C0.1 C0.2.1 dX9_plain_11 rfl (lv_at hl 0 rfl) ?_
    refine xget (pc := 12) C0 hH 0 5 clX9 ⟨Nat.le_of_ble_eq_true rfl, Nat.le_of_ble_eq_true rfl⟩ ⟨rfl, rfl⟩ (Nat.le_of_ble_eq_true rfl) fl_X9_39 (v := .ref (b + 70)) rfl dX9_plain_12 ?_
    refine lv_aload_n (pc := 15) C0.1 C0.2.1 dX9_plain_15 rfl (lv_at hl 0 rfl) ?_
    refine xget (pc := 16) C0 hH 0 3 clX9 ⟨Nat.le_of_ble_eq_true rfl, Nat.le_of_ble_eq_true rfl⟩ ⟨rfl, rfl⟩ (Nat.le_of_ble_eq_true rfl) fl_X9_29 (v := .ref (b + 8)) rfl dX9_plain_16 ?_
    refine lv_aload_n (pc := 19) C0.1 C0.2.1 dX9_plain_19 rfl (lv_at hl 0 rfl) ?_
    refine xget (pc := 20) C0 hH 0 1 clX9 ⟨Nat.le_of_ble_eq_true rfl, Nat.le_of_ble_eq_true rfl⟩ ⟨rfl, rfl⟩ (Nat.le_of_ble_eq_true rfl) fl_X9_19 (v := .ref (b + 4)) rfl dX9_plain_20 ?_
    refine lv_aload_n (pc := 23) C0.1 C0.2.1 dX9_plain_23 rfl (lv_at hl 0 rfl) ?_
    refine xget (pc := 24) C0 hH 0 7 clX9 ⟨Nat.le_of_ble_eq_true rfl, Nat.le_of_ble_eq_true rfl⟩ ⟨rfl, rfl⟩ (Nat.le_of_ble_eq_true rfl) fl_X9_50 (v := .ref (b + 75)) (by show Value.ref (b + (i 0 7).toNatClampNeg) = _; rw [hi_0_7]; rfl) dX9_plain_24 ?_
    refine xcVV (pc := 27) 70 [.ref (b + 8), .ref (b + 4), .ref (b + 75)] (g_X5_drawPlainly_75 l D tA b i F G  hF hQ hPg hsz) C0 hH hS clX5 rfl ⟨⟨Nat.le_of_ble_eq_true rfl, Nat.le_of_ble_eq_true rfl⟩, rfl, rfl⟩ cw_X9_240 rfl ⟨Nat.le_of_ble_eq_true rfl, Nat.le_of_ble_eq_true rfl⟩ hl.1 rfl (Nat.le_of_ble_eq_true rfl) dX9_plain_27 ⟨Nat.le_of_ble_eq_true rfl, Nat.le_of_ble_eq_true rfl⟩ (fun ir2 Fr2 Gr2 _ locs hp hH hS => ?_)
    obtain ⟨honr2, a1r2, a2r2⟩ := hp
    have hI : IC ir2 Fr2 := IC.s (i := i) (F := F) hI honr2 ⟨a1r2, a2r2⟩
    have hBs : ir2 1 = i 1 ∧ Fr2 3 = F 3 ∧ Gr2 = G := ⟨(honr2.1 1 (by decide)).1.trans hBs.1, (honr2.1 3 (by decide)).2.trans hBs.2.1, honr2.2.trans hBs.2.2⟩
    have hI0 := hI
    obtain ⟨hsz, hbf, hsz6, hbf7, htk, hF, hQ, htk2, hG, hQ2, hPg, hpt, hrw⟩ := hI0
    have hL := Tf17.lin hF
    have hL2 := Tf48.lin hG
    have ek_1_2r2 : Int32.toInt (ir2 1 2) = Int32.toInt (i 1 2) := congrArg Int32.toInt (congrFun (honr2.1 1 (by decide)).1 2)
    refine lv_aload_n (pc := 30) C0.1 C0.2.1 dX9_plain_30 rfl (lv_at hl 0 rfl) ?_
    refine xcVI (pc := 31) 0 [] (g_X9_showDraftA l D tA b ir2 Fr2 Gr2 ((congrFun (honr2.1 0 (by decide)).1 6).trans hi_0_6) ((congrFun (honr2.1 0 (by decide)).1 7).trans hi_0_7)) C0 hH hS clX9 rfl ⟨⟨Nat.le_of_ble_eq_true rfl, Nat.le_of_ble_eq_true rfl⟩, rfl, rfl⟩ cw_X9_244 rfl ⟨Nat.le_of_ble_eq_true rfl, Nat.le_of_ble_eq_true rfl⟩ hl.1 rfl (Nat.le_of_ble_eq_true rfl) dX9_plain_31 ⟨Nat.le_of_ble_eq_true rfl, Nat.le_of_ble_eq_true rfl⟩ (fun r3 ir3 Fr3 Gr3 _ locs hp hH hS => ?_)
    have hI : IC ir3 Fr3 := by
      rcases hp with q | q
      · cases q; exact hI
      · cases q; exact ⟨hsz, hbf, hsz6, hbf7, htk, hF, hQ, htk2, hG, hQ2, hPg, Or.inr ⟨rfl, rfl⟩, hrw⟩
    have hBs : ir3 1 = i 1 ∧ Fr3 3 = F 3 ∧ Gr3 = G := by
      rcases hp with q | q
      · cases q; exact hBs
      · cases q; exact hBs
    exact xiret (pc := 34) C0 hr hH hS dX9_plain_34 ⟨hI, hBs⟩
  · have : Int32.toInt 1 = 1 := rfl
    have c1 : ¬ _ := fun q => c1 (Int32.toInt_inj.mp q)
    refine lv_bipush (pc := 8) (v := (-3)) C0.1 C0.2.1 dX9_plain_8 (by decide) ?_
    exact xiret (pc := 10) C0 hr hH hS dX9_plain_10 ⟨hI, hBs⟩
set_option maxHeartbeats 4000000 in
set_option maxRecDepth 100000 in
theorem g_X9_writeA (l : Launch) (D : va_G) (tA : Nat → ClassId) (b : Nat) (i F : Nat → Nat → Int32) (G : Nat → Nat → Int64) (x : Int32) (hI : IC i F) (htd : 0 ≤ (i 1 2).toInt ∧ (i 1 2).toInt ≤ 24) (hi_0_6 : i 0 6 = nI 73) (hi_0_7 : i 0 7 = nI 75) : xMI l yX9_write cX9_write 2 (some .int) 5 123 D tA b 0 78 i F G [.ref (b + 0), .int x] (fun r u => IC u.1 u.2.1 ∧ u.1 1 = i 1 ∧ u.2.1 3 = F 3 ∧ u.2.2 = G) := by
  refine xstart RX9 rfl (by decide) (Nat.le_of_ble_eq_true rfl) ?_
  intro p e s m below meth c ls C0 hr hH hS hl
  have hl : lv_has ls 2 [(0, .ref (b + 0)), (1, .int x)] := hl
  have rg_x := fb_rng x
  have hI0 := hI
  obtain ⟨hsz, hbf, hsz6, hbf7, htk, hF, hQ, htk2, hG, hQ2, hPg, hpt, hrw⟩ := hI0
  have hL := Tf17.lin hF
  have hL2 := Tf48.lin hG
  have hBs : i 1 = i 1 ∧ F 3 = F 3 ∧ G = G := ⟨rfl, rfl, rfl⟩

  refine lv_iload_n (pc := 0) C0.1 C0.2.1 dX9_write_0 rfl (lv_at hl 1 rfl) ?_
  refine lv_iconst (pc := 1) (v := 1) C0.1 C0.2.1 dX9_write_1 (by decide) ?_
  refine lv_icmp_lt (pc := 2) (tgt := 11) C0.1 C0.2.1 dX9_write_2 (by decide) (fun c1 => ?_) (fun c1 => ?_)
  · have : Int32.toInt 1 = 1 := rfl
    have c1 := Int32.lt_iff_toInt_lt.mp c1
    refine lv_bipush (pc := 11) (v := (-2)) C0.1 C0.2.1 dX9_write_11 (by decide) ?_
    exact xiret (pc := 13) C0 hr hH hS dX9_write_13 ⟨hI, hBs⟩
  · have : Int32.toInt 1 = 1 := rfl
    have c1 : ¬ _ := fun q => c1 (Int32.lt_iff_toInt_lt.mpr q)
    refine lv_iload_n (pc := 5) C0.1 C0.2.1 dX9_write_5 rfl (lv_at hl 1 rfl) ?_
    refine lv_bipush (pc := 6) (v := 8) C0.1 C0.2.1 dX9_write_6 (by decide) ?_
    refine lv_icmp_le (pc := 8) (tgt := 14) C0.1 C0.2.1 dX9_write_8 (by decide) (fun c2 => ?_) (fun c2 => ?_)
    · have : Int32.toInt 8 = 8 := rfl
      have c2 := Int32.le_iff_toInt_le.mp c2
      refine lv_aload_n (pc := 14) C0.1 C0.2.1 dX9_write_14 rfl (lv_at hl 0 rfl) ?_
      refine xget (pc := 15) C0 hH 0 8 clX9 ⟨Nat.le_of_ble_eq_true rfl, Nat.le_of_ble_eq_true rfl⟩ ⟨rfl, rfl⟩ (Nat.le_of_ble_eq_true rfl) fl_X9_53 (v := .int (i 0 8)) rfl dX9_write_15 ?_
      refine lv_iconst (pc := 18) (v := 1) C0.1 C0.2.1 dX9_write_18 (by decide) ?_
      refine lv_icmp_ne (pc := 19) (tgt := 45) C0.1 C0.2.1 dX9_write_19 (by decide) (fun c3 => ?_) (fun c3 => ?_)
      · have : Int32.toInt 1 = 1 := rfl
        have c3 : ¬ _ := fun q => c3 (Int32.toInt_inj.mp q)
        refine lv_bipush (pc := 45) (v := (-3)) C0.1 C0.2.1 dX9_write_45 (by decide) ?_
        exact xiret (pc := 47) C0 hr hH hS dX9_write_47 ⟨hI, hBs⟩
      · have : Int32.toInt 1 = 1 := rfl
        have c3 := congrArg Int32.toInt c3
        refine lv_aload_n (pc := 22) C0.1 C0.2.1 dX9_write_22 rfl (lv_at hl 0 rfl) ?_
        refine xget (pc := 23) C0 hH 0 5 clX9 ⟨Nat.le_of_ble_eq_true rfl, Nat.le_of_ble_eq_true rfl⟩ ⟨rfl, rfl⟩ (Nat.le_of_ble_eq_true rfl) fl_X9_39 (v := .ref (b + 70)) rfl dX9_write_23 ?_
        refine lv_aload_n (pc := 26) C0.1 C0.2.1 dX9_write_26 rfl (lv_at hl 0 rfl) ?_
        refine xget (pc := 27) C0 hH 0 3 clX9 ⟨Nat.le_of_ble_eq_true rfl, Nat.le_of_ble_eq_true rfl⟩ ⟨rfl, rfl⟩ (Nat.le_of_ble_eq_true rfl) fl_X9_29 (v := .ref (b + 8)) rfl dX9_write_27 ?_
        refine lv_aload_n (pc := 30) C0.1 C0.2.1 dX9_write_30 rfl (lv_at hl 0 rfl) ?_
        refine xget (pc := 31) C0 hH 0 1 clX9 ⟨Nat.le_of_ble_eq_true rfl, Nat.le_of_ble_eq_true rfl⟩ ⟨rfl, rfl⟩ (Nat.le_of_ble_eq_true rfl) fl_X9_19 (v := .ref (b + 4)) rfl dX9_write_31 ?_
        refine lv_aload_n (pc := 34) C0.1 C0.2.1 dX9_write_34 rfl (lv_at hl 0 rfl) ?_
        refine xget (pc := 35) C0 hH 0 7 clX9 ⟨Nat.le_of_ble_eq_true rfl, Nat.le_of_ble_eq_true rfl⟩ ⟨rfl, rfl⟩ (Nat.le_of_ble_eq_true rfl) fl_X9_50 (v := .ref (b + 75)) (by show Value.ref (b + (i 0 7).toNatClampNeg) = _; rw [hi_0_7]; rfl) dX9_write_35 ?_
        refine lv_iload_n (pc := 38) C0.1 C0.2.1 dX9_write_38 rfl (lv_at hl 1 rfl) ?_
        refine xcVI (pc := 39) 70 [.ref (b + 8), .ref (b + 4), .ref (b + 75), .int x] (g_X5_drawAnew_75 l D tA b i F G x hF hQ hPg hsz) C0 hH hS clX5 rfl ⟨⟨Nat.le_of_ble_eq_true rfl, Nat.le_of_ble_eq_true rfl⟩, rfl, rfl⟩ cw_X9_247 rfl ⟨Nat.le_of_ble_eq_true rfl, Nat.le_of_ble_eq_true rfl⟩ hl.1 rfl (Nat.le_of_ble_eq_true rfl) dX9_write_39 ⟨Nat.le_of_ble_eq_true rfl, Nat.le_of_ble_eq_true rfl⟩ (fun r4 ir4 Fr4 Gr4 _ locs hp hH hS => ?_)
        obtain ⟨honr4, a1r4, a2r4⟩ := hp
        have hI : IC ir4 Fr4 := IC.s (i := i) (F := F) hI honr4 ⟨a1r4, a2r4⟩
        have hBs : ir4 1 = i 1 ∧ Fr4 3 = F 3 ∧ Gr4 = G := ⟨(honr4.1 1 (by decide)).1.trans hBs.1, (honr4.1 3 (by decide)).2.trans hBs.2.1, honr4.2.trans hBs.2.2⟩
        have hI0 := hI
        obtain ⟨hsz, hbf, hsz6, hbf7, htk, hF, hQ, htk2, hG, hQ2, hPg, hpt, hrw⟩ := hI0
        have hL := Tf17.lin hF
        have hL2 := Tf48.lin hG
        have ek_1_2r4 : Int32.toInt (ir4 1 2) = Int32.toInt (i 1 2) := congrArg Int32.toInt (congrFun (honr4.1 1 (by decide)).1 2)
        refine lv_if_ne (pc := 42) (tgt := 48) C0.1 C0.2.1 dX9_write_42 (by decide) (fun c5 => ?_) (fun c5 => ?_)
        · have : Int32.toInt 0 = 0 := rfl
          have c5 : ¬ _ := fun q => c5 (Int32.toInt_inj.mp q)
          refine lv_aload_n (pc := 48) C0.1 C0.2.1 dX9_write_48 rfl (lv_at hl 0 rfl) ?_
          refine xcVI (pc := 49) 0 [] (g_X9_showDraftA l D tA b ir4 Fr4 Gr4 ((congrFun (honr4.1 0 (by decide)).1 6).trans hi_0_6) ((congrFun (honr4.1 0 (by decide)).1 7).trans hi_0_7)) C0 hH hS clX9 rfl ⟨⟨Nat.le_of_ble_eq_true rfl, Nat.le_of_ble_eq_true rfl⟩, rfl, rfl⟩ cw_X9_244 rfl ⟨Nat.le_of_ble_eq_true rfl, Nat.le_of_ble_eq_true rfl⟩ hl.1 rfl (Nat.le_of_ble_eq_true rfl) dX9_write_49 ⟨Nat.le_of_ble_eq_true rfl, Nat.le_of_ble_eq_true rfl⟩ (fun r6 ir6 Fr6 Gr6 _ locs hp hH hS => ?_)
          have hI : IC ir6 Fr6 := by
            rcases hp with q | q
            · cases q; exact hI
            · cases q; exact ⟨hsz, hbf, hsz6, hbf7, htk, hF, hQ, htk2, hG, hQ2, hPg, Or.inr ⟨rfl, rfl⟩, hrw⟩
          have hBs : ir6 1 = i 1 ∧ Fr6 3 = F 3 ∧ Gr6 = G := by
            rcases hp with q | q
            · cases q; exact hBs
            · cases q; exact hBs
          exact xiret (pc := 52) C0 hr hH hS dX9_write_52 ⟨hI, hBs⟩
        · have : Int32.toInt 0 = 0 := rfl
          have c5 := congrArg Int32.toInt c5
          refine lv_bipush (pc := 45) (v := (-3)) C0.1 C0.2.1 dX9_write_45 (by decide) ?_
          exact xiret (pc := 47) C0 hr hH hS dX9_write_47 ⟨hI, hBs⟩
    · have : Int32.toInt 8 = 8 := rfl
      have c2 : ¬ _ := fun q => c2 (Int32.le_iff_toInt_le.mpr q)
      refine lv_bipush (pc := 11) (v := (-2)) C0.1 C0.2.1 dX9_write_11 (by decide) ?_
      exact xiret (pc := 13) C0 hr hH hS dX9_write_13 ⟨hI, hBs⟩
set_option maxHeartbeats 4000000 in
set_option maxRecDepth 100000 in
theorem g_X9_writtenB (l : Launch) (D : va_G) (tA : Nat → ClassId) (b : Nat) (i F : Nat → Nat → Int32) (G : Nat → Nat → Int64) (x : Int32) (hI : IC i F) (hi_0_6 : i 0 6 = nI 75) (hi_0_7 : i 0 7 = nI 73) : xMI l yX9_written cX9_written 2 (some .int) 1 21 D tA b 0 78 i F G [.ref (b + 0), .int x] (fun r u => u = (i, F, G) ∧ True) := by
  refine xstart RX9 rfl (by decide) (Nat.le_of_ble_eq_true rfl) ?_
  intro p e s m below meth c ls C0 hr hH hS hl
  have hl : lv_has ls 2 [(0, .ref (b + 0)), (1, .int x)] := hl
  have rg_x := fb_rng x
  have hI0 := hI
  obtain ⟨hsz, hbf, hsz6, hbf7, htk, hF, hQ, htk2, hG, hQ2, hPg, hpt, hrw⟩ := hI0
  have hL := Tf17.lin hF
  have hL2 := Tf48.lin hG
  have hBs : i 1 = i 1 ∧ F 3 = F 3 ∧ G = G := ⟨rfl, rfl, rfl⟩
  refine lv_aload_n (pc := 0) C0.1 C0.2.1 dX9_written_0 rfl (lv_at hl 0 rfl) ?_
  refine xget (pc := 1) C0 hH 0 6 clX9 ⟨Nat.le_of_ble_eq_true rfl, Nat.le_of_ble_eq_true rfl⟩ ⟨rfl, rfl⟩ (Nat.le_of_ble_eq_true rfl) fl_X9_46 (v := .ref (b + 75)) (by show Value.ref (b + (i 0 6).toNatClampNeg) = _; rw [hi_0_6]; rfl) dX9_written_1 ?_
  refine lv_iload_n (pc := 4) C0.1 C0.2.1 dX9_written_4 rfl (lv_at hl 1 rfl) ?_
  refine xcVI (pc := 5) 75 [.int x] (g_X3_at_75 l D tA b i F G x (show 0 ≤ Int32.toInt (i 75 1) ∧ Int32.toInt (i 75 1) ≤ 4000 from by omega)) C0 hH hS clX3 rfl ⟨⟨Nat.le_of_ble_eq_true rfl, Nat.le_of_ble_eq_true rfl⟩, rfl, rfl⟩ cw_X9_251 rfl ⟨Nat.le_of_ble_eq_true rfl, Nat.le_of_ble_eq_true rfl⟩ hl.1 rfl (Nat.le_of_ble_eq_true rfl) dX9_written_5 ⟨Nat.le_of_ble_eq_true rfl, Nat.le_of_ble_eq_true rfl⟩ (fun r1 ir1 Fr1 Gr1 _ locs hp hH hS => ?_)
  obtain ⟨hu, hpr1⟩ := hp
  cases hu
  exact xiret (pc := 8) C0 hr hH hS dX9_written_8 ⟨rfl, trivial⟩
set_option maxHeartbeats 4000000 in
set_option maxRecDepth 100000 in
theorem g_X9_showDraftB (l : Launch) (D : va_G) (tA : Nat → ClassId) (b : Nat) (i F : Nat → Nat → Int32) (G : Nat → Nat → Int64)  (hi_0_6 : i 0 6 = nI 75) (hi_0_7 : i 0 7 = nI 73) : xMI l yX9_showDraft cX9_showDraft 2 (some .int) 0 0 D tA b 0 78 i F G [.ref (b + 0)] (fun r u => u = (i, F, G) ∨ u = (up2 (up2 i 0 6 (nI 73)) 0 7 (nI 75), F, G)) := by
  refine xstart RX9 rfl (by decide) (Nat.le_of_ble_eq_true rfl) ?_
  intro p e s m below meth c ls C0 hr hH hS hl
  have hl : lv_has ls 2 [(0, .ref (b + 0))] := hl
  refine lv_aload_n (pc := 0) C0.1 C0.2.1 dX9_showDraft_0 rfl (lv_at hl 0 rfl) ?_
  refine xget (pc := 1) C0 hH 0 7 clX9 ⟨Nat.le_of_ble_eq_true rfl, Nat.le_of_ble_eq_true rfl⟩ ⟨rfl, rfl⟩ (Nat.le_of_ble_eq_true rfl) fl_X9_50 (v := .ref (b + 73)) (by show Value.ref (b + (i 0 7).toNatClampNeg) = _; rw [hi_0_7]; rfl) dX9_showDraft_1 ?_
  refine xget (pc := 4) C0 hH 73 2 clX3 ⟨Nat.le_of_ble_eq_true rfl, Nat.le_of_ble_eq_true rfl⟩ ⟨rfl, rfl⟩ (Nat.le_of_ble_eq_true rfl) fl_X9_298 (v := .int (i 73 2)) rfl dX9_showDraft_4 ?_
  refine lv_if_eq (pc := 7) (tgt := 13) C0.1 C0.2.1 dX9_showDraft_7 (by decide) (fun c1 => ?_) (fun c1 => ?_)
  · have : Int32.toInt 0 = 0 := rfl
    have c1 := congrArg Int32.toInt c1
    refine lv_aload_n (pc := 13) C0.1 C0.2.1 dX9_showDraft_13 rfl (lv_at hl 0 rfl) ?_
    refine xget (pc := 14) C0 hH 0 6 clX9 ⟨Nat.le_of_ble_eq_true rfl, Nat.le_of_ble_eq_true rfl⟩ ⟨rfl, rfl⟩ (Nat.le_of_ble_eq_true rfl) fl_X9_46 (v := .ref (b + 75)) (by show Value.ref (b + (i 0 6).toNatClampNeg) = _; rw [hi_0_6]; rfl) dX9_showDraft_14 ?_
    refine lv_astore_n (pc := 17) (lv' := [(1, .ref (b + 75)), (0, .ref (b + 0))]) C0.1 C0.2.1 dX9_showDraft_17 rfl hl (by decide) rfl (fun ls hl => ?_)
    refine lv_aload_n (pc := 18) C0.1 C0.2.1 dX9_showDraft_18 rfl (lv_at hl 1 rfl) ?_
    refine lv_aload_n (pc := 19) C0.1 C0.2.1 dX9_showDraft_19 rfl (lv_at hl 1 rfl) ?_
    refine xget (pc := 20) C0 hH 0 7 clX9 ⟨Nat.le_of_ble_eq_true rfl, Nat.le_of_ble_eq_true rfl⟩ ⟨rfl, rfl⟩ (Nat.le_of_ble_eq_true rfl) fl_X9_50 (v := .ref (b + 73)) (by show Value.ref (b + (i 0 7).toNatClampNeg) = _; rw [hi_0_7]; rfl) dX9_showDraft_20 ?_
    refine xputR (pc := 23) C0 (Nat.le_of_ble_eq_true rfl) hH hS 0 6 73 clX9 ⟨Nat.le_of_ble_eq_true rfl, Nat.le_of_ble_eq_true rfl⟩ ⟨rfl, rfl⟩ ⟨Nat.le_of_ble_eq_true rfl, rfl, rfl⟩ (by decide) fl_X9_46 (fun q => ⟨rfl, rfl⟩) dX9_showDraft_23 (fun _ locs hH hS _ => ?_)
    rw [upz_zz] at hH
    have hH : Hd D tA b 0 78 zz (up2 i 0 6 (nI 73)) F G _ := hH
    refine lv_aload_n (pc := 26) C0.1 C0.2.1 dX9_showDraft_26 rfl (lv_at hl 1 rfl) ?_
    refine lv_aload_n (pc := 27) C0.1 C0.2.1 dX9_showDraft_27 rfl (lv_at hl 0 rfl) ?_
    refine xputR (pc := 28) C0 (Nat.le_of_ble_eq_true rfl) hH hS 0 7 75 clX9 ⟨Nat.le_of_ble_eq_true rfl, Nat.le_of_ble_eq_true rfl⟩ ⟨rfl, rfl⟩ ⟨Nat.le_of_ble_eq_true rfl, rfl, rfl⟩ (by decide) fl_X9_50 (fun q => ⟨rfl, rfl⟩) dX9_showDraft_28 (fun _ locs hH hS _ => ?_)
    rw [upz_zz] at hH
    have hH : Hd D tA b 0 78 zz (up2 (up2 i 0 6 (nI 73)) 0 7 (nI 75)) F G _ := hH
    refine lv_aload_n (pc := 31) C0.1 C0.2.1 dX9_showDraft_31 rfl (lv_at hl 1 rfl) ?_
    refine xget (pc := 32) C0 hH 0 6 clX9 ⟨Nat.le_of_ble_eq_true rfl, Nat.le_of_ble_eq_true rfl⟩ ⟨rfl, rfl⟩ (Nat.le_of_ble_eq_true rfl) fl_X9_46 (v := .ref (b + 73)) (by rfl) dX9_showDraft_32 ?_
    refine xget (pc := 35) C0 hH 73 1 clX3 ⟨Nat.le_of_ble_eq_true rfl, Nat.le_of_ble_eq_true rfl⟩ ⟨rfl, rfl⟩ (Nat.le_of_ble_eq_true rfl) fl_X9_302 (v := .int (i 73 1)) rfl dX9_showDraft_35 ?_
    exact xiret (pc := 38) C0 hr hH hS dX9_showDraft_38 (Or.inr rfl)
  · have : Int32.toInt 0 = 0 := rfl
    have c1 : ¬ _ := fun q => c1 (Int32.toInt_inj.mp q)
    refine lv_bipush (pc := 10) (v := (-4)) C0.1 C0.2.1 dX9_showDraft_10 (by decide) ?_
    exact xiret (pc := 12) C0 hr hH hS dX9_showDraft_12 (Or.inl rfl)
set_option maxHeartbeats 4000000 in
set_option maxRecDepth 100000 in
theorem g_X9_plainB (l : Launch) (D : va_G) (tA : Nat → ClassId) (b : Nat) (i F : Nat → Nat → Int32) (G : Nat → Nat → Int64)  (hI : IC i F) (htd : 0 ≤ (i 1 2).toInt ∧ (i 1 2).toInt ≤ 24) (hi_0_6 : i 0 6 = nI 75) (hi_0_7 : i 0 7 = nI 73) : xMI l yX9_plain cX9_plain 1 (some .int) 5 116 D tA b 0 78 i F G [.ref (b + 0)] (fun r u => IC u.1 u.2.1 ∧ u.1 1 = i 1 ∧ u.2.1 3 = F 3 ∧ u.2.2 = G) := by
  refine xstart RX9 rfl (by decide) (Nat.le_of_ble_eq_true rfl) ?_
  intro p e s m below meth c ls C0 hr hH hS hl
  have hl : lv_has ls 1 [(0, .ref (b + 0))] := hl
  have hI0 := hI
  obtain ⟨hsz, hbf, hsz6, hbf7, htk, hF, hQ, htk2, hG, hQ2, hPg, hpt, hrw⟩ := hI0
  have hL := Tf17.lin hF
  have hL2 := Tf48.lin hG
  have hBs : i 1 = i 1 ∧ F 3 = F 3 ∧ G = G := ⟨rfl, rfl, rfl⟩

  refine lv_aload_n (pc := 0) C0.1 C0.2.1 dX9_plain_0 rfl (lv_at hl 0 rfl) ?_
  refine xget (pc := 1) C0 hH 0 8 clX9 ⟨Nat.le_of_ble_eq_true rfl, Nat.le_of_ble_eq_true rfl⟩ ⟨rfl, rfl⟩ (Nat.le_of_ble_eq_true rfl) fl_X9_53 (v := .int (i 0 8)) rfl dX9_plain_1 ?_
  refine lv_iconst (pc := 4) (v := 1) C0.1 C0.2.1 dX9_plain_4 (by decide) ?_
  refine lv_icmp_eq (pc := 5) (tgt := 11) C0.1 C0.2.1 dX9_plain_5 (by decide) (fun c1 => ?_) (fun c1 => ?_)
  · have : Int32.toInt 1 = 1 := rfl
    have c1 := congrArg Int32.toInt c1
    refine lv_aload_n (pc := 11) C0.1 C0.2.1 dX9_plain_11 rfl (lv_at hl 0 rfl) ?_
    refine xget (pc := 12) C0 hH 0 5 clX9 ⟨Nat.le_of_ble_eq_true rfl, Nat.le_of_ble_eq_true rfl⟩ ⟨rfl, rfl⟩ (Nat.le_of_ble_eq_true rfl) fl_X9_39 (v := .ref (b + 70)) rfl dX9_plain_12 ?_
    refine lv_aload_n (pc := 15) C0.1 C0.2.1 dX9_plain_15 rfl (lv_at hl 0 rfl) ?_
    refine xget (pc := 16) C0 hH 0 3 clX9 ⟨Nat.le_of_ble_eq_true rfl, Nat.le_of_ble_eq_true rfl⟩ ⟨rfl, rfl⟩ (Nat.le_of_ble_eq_true rfl) fl_X9_29 (v := .ref (b + 8)) rfl dX9_plain_16 ?_
    refine lv_aload_n (pc := 19) C0.1 C0.2.1 dX9_plain_19 rfl (lv_at hl 0 rfl) ?_
    refine xget (pc := 20) C0 hH 0 1 clX9 ⟨Nat.le_of_ble_eq_true rfl, Nat.le_of_ble_eq_true rfl⟩ ⟨rfl, rfl⟩ (Nat.le_of_ble_eq_true rfl) fl_X9_19 (v := .ref (b + 4)) rfl dX9_plain_20 ?_
    refine lv_aload_n (pc := 23) C0.1 C0.2.1 dX9_plain_23 rfl (lv_at hl 0 rfl) ?_
    refine xget (pc := 24) C0 hH 0 7 clX9 ⟨Nat.le_of_ble_eq_true rfl, Nat.le_of_ble_eq_true rfl⟩ ⟨rfl, rfl⟩ (Nat.le_of_ble_eq_true rfl) fl_X9_50 (v := .ref (b + 73)) (by show Value.ref (b + (i 0 7).toNatClampNeg) = _; rw [hi_0_7]; rfl) dX9_plain_24 ?_
    refine xcVV (pc := 27) 70 [.ref (b + 8), .ref (b + 4), .ref (b + 73)] (g_X5_drawPlainly_73 l D tA b i F G  hF hQ hPg hsz) C0 hH hS clX5 rfl ⟨⟨Nat.le_of_ble_eq_true rfl, Nat.le_of_ble_eq_true rfl⟩, rfl, rfl⟩ cw_X9_240 rfl ⟨Nat.le_of_ble_eq_true rfl, Nat.le_of_ble_eq_true rfl⟩ hl.1 rfl (Nat.le_of_ble_eq_true rfl) dX9_plain_27 ⟨Nat.le_of_ble_eq_true rfl, Nat.le_of_ble_eq_true rfl⟩ (fun ir2 Fr2 Gr2 _ locs hp hH hS => ?_)
    obtain ⟨honr2, a1r2, a2r2⟩ := hp
    have hI : IC ir2 Fr2 := IC.s (i := i) (F := F) hI honr2 ⟨a1r2, a2r2⟩
    have hBs : ir2 1 = i 1 ∧ Fr2 3 = F 3 ∧ Gr2 = G := ⟨(honr2.1 1 (by decide)).1.trans hBs.1, (honr2.1 3 (by decide)).2.trans hBs.2.1, honr2.2.trans hBs.2.2⟩
    have hI0 := hI
    obtain ⟨hsz, hbf, hsz6, hbf7, htk, hF, hQ, htk2, hG, hQ2, hPg, hpt, hrw⟩ := hI0
    have hL := Tf17.lin hF
    have hL2 := Tf48.lin hG
    have ek_1_2r2 : Int32.toInt (ir2 1 2) = Int32.toInt (i 1 2) := congrArg Int32.toInt (congrFun (honr2.1 1 (by decide)).1 2)
    refine lv_aload_n (pc := 30) C0.1 C0.2.1 dX9_plain_30 rfl (lv_at hl 0 rfl) ?_
    refine xcVI (pc := 31) 0 [] (g_X9_showDraftB l D tA b ir2 Fr2 Gr2 ((congrFun (honr2.1 0 (by decide)).1 6).trans hi_0_6) ((congrFun (honr2.1 0 (by decide)).1 7).trans hi_0_7)) C0 hH hS clX9 rfl ⟨⟨Nat.le_of_ble_eq_true rfl, Nat.le_of_ble_eq_true rfl⟩, rfl, rfl⟩ cw_X9_244 rfl ⟨Nat.le_of_ble_eq_true rfl, Nat.le_of_ble_eq_true rfl⟩ hl.1 rfl (Nat.le_of_ble_eq_true rfl) dX9_plain_31 ⟨Nat.le_of_ble_eq_true rfl, Nat.le_of_ble_eq_true rfl⟩ (fun r3 ir3 Fr3 Gr3 _ locs hp hH hS => ?_)
    have hI : IC ir3 Fr3 := by
      rcases hp with q | q
      · cases q; exact hI
      · cases q; exact ⟨hsz, hbf, hsz6, hbf7, htk, hF, hQ, htk2, hG, hQ2, hPg, Or.inl ⟨rfl, rfl⟩, hrw⟩
    have hBs : ir3 1 = i 1 ∧ Fr3 3 = F 3 ∧ Gr3 = G := by
      rcases hp with q | q
      · cases q; exact hBs
      · cases q; exact hBs
    exact xiret (pc := 34) C0 hr hH hS dX9_plain_34 ⟨hI, hBs⟩
  · have : Int32.toInt 1 = 1 := rfl
    have c1 : ¬ _ := fun q => c1 (Int32.toInt_inj.mp q)
    refine lv_bipush (pc := 8) (v := (-3)) C0.1 C0.2.1 dX9_plain_8 (by decide) ?_
    exact xiret (pc := 10) C0 hr hH hS dX9_plain_10 ⟨hI, hBs⟩
set_option maxHeartbeats 4000000 in
set_option maxRecDepth 100000 in
theorem g_X9_writeB (l : Launch) (D : va_G) (tA : Nat → ClassId) (b : Nat) (i F : Nat → Nat → Int32) (G : Nat → Nat → Int64) (x : Int32) (hI : IC i F) (htd : 0 ≤ (i 1 2).toInt ∧ (i 1 2).toInt ≤ 24) (hi_0_6 : i 0 6 = nI 75) (hi_0_7 : i 0 7 = nI 73) : xMI l yX9_write cX9_write 2 (some .int) 5 123 D tA b 0 78 i F G [.ref (b + 0), .int x] (fun r u => IC u.1 u.2.1 ∧ u.1 1 = i 1 ∧ u.2.1 3 = F 3 ∧ u.2.2 = G) := by
  refine xstart RX9 rfl (by decide) (Nat.le_of_ble_eq_true rfl) ?_
  intro p e s m below meth c ls C0 hr hH hS hl
  have hl : lv_has ls 2 [(0, .ref (b + 0)), (1, .int x)] := hl
  have rg_x := fb_rng x
  have hI0 := hI
  obtain ⟨hsz, hbf, hsz6, hbf7, htk, hF, hQ, htk2, hG, hQ2, hPg, hpt, hrw⟩ := hI0
  have hL := Tf17.lin hF
  have hL2 := Tf48.lin hG
  have hBs : i 1 = i 1 ∧ F 3 = F 3 ∧ G = G := ⟨rfl, rfl, rfl⟩

  refine lv_iload_n (pc := 0) C0.1 C0.2.1 dX9_write_0 rfl (lv_at hl 1 rfl) ?_
  refine lv_iconst (pc := 1) (v := 1) C0.1 C0.2.1 dX9_write_1 (by decide) ?_
  refine lv_icmp_lt (pc := 2) (tgt := 11) C0.1 C0.2.1 dX9_write_2 (by decide) (fun c1 => ?_) (fun c1 => ?_)
  · have : Int32.toInt 1 = 1 := rfl
    have c1 := Int32.lt_iff_toInt_lt.mp c1
    refine lv_bipush (pc := 11) (v := (-2)) C0.1 C0.2.1 dX9_write_11 (by decide) ?_
    exact xiret (pc := 13) C0 hr hH hS dX9_write_13 ⟨hI, hBs⟩
  · have : Int32.toInt 1 = 1 := rfl
    have c1 : ¬ _ := fun q => c1 (Int32.lt_iff_toInt_lt.mpr q)
    refine lv_iload_n (pc := 5) C0.1 C0.2.1 dX9_write_5 rfl (lv_at hl 1 rfl) ?_
    refine lv_bipush (pc := 6) (v := 8) C0.1 C0.2.1 dX9_write_6 (by decide) ?_
    refine lv_icmp_le (pc := 8) (tgt := 14) C0.1 C0.2.1 dX9_write_8 (by decide) (fun c2 => ?_) (fun c2 => ?_)
    · have : Int32.toInt 8 = 8 := rfl
      have c2 := Int32.le_iff_toInt_le.mp c2
      refine lv_aload_n (pc := 14) C0.1 C0.2.1 dX9_write_14 rfl (lv_at hl 0 rfl) ?_
      refine xget (pc := 15) C0 hH 0 8 clX9 ⟨Nat.le_of_ble_eq_true rfl, Nat.le_of_ble_eq_true rfl⟩ ⟨rfl, rfl⟩ (Nat.le_of_ble_eq_true rfl) fl_X9_53 (v := .int (i 0 8)) rfl dX9_write_15 ?_
      refine lv_iconst (pc := 18) (v := 1) C0.1 C0.2.1 dX9_write_18 (by decide) ?_
      refine lv_icmp_ne (pc := 19) (tgt := 45) C0.1 C0.2.1 dX9_write_19 (by decide) (fun c3 => ?_) (fun c3 => ?_)
      · have : Int32.toInt 1 = 1 := rfl
        have c3 : ¬ _ := fun q => c3 (Int32.toInt_inj.mp q)
        refine lv_bipush (pc := 45) (v := (-3)) C0.1 C0.2.1 dX9_write_45 (by decide) ?_
        exact xiret (pc := 47) C0 hr hH hS dX9_write_47 ⟨hI, hBs⟩
      · have : Int32.toInt 1 = 1 := rfl
        have c3 := congrArg Int32.toInt c3
        refine lv_aload_n (pc := 22) C0.1 C0.2.1 dX9_write_22 rfl (lv_at hl 0 rfl) ?_
        refine xget (pc := 23) C0 hH 0 5 clX9 ⟨Nat.le_of_ble_eq_true rfl, Nat.le_of_ble_eq_true rfl⟩ ⟨rfl, rfl⟩ (Nat.le_of_ble_eq_true rfl) fl_X9_39 (v := .ref (b + 70)) rfl dX9_write_23 ?_
        refine lv_aload_n (pc := 26) C0.1 C0.2.1 dX9_write_26 rfl (lv_at hl 0 rfl) ?_
        refine xget (pc := 27) C0 hH 0 3 clX9 ⟨Nat.le_of_ble_eq_true rfl, Nat.le_of_ble_eq_true rfl⟩ ⟨rfl, rfl⟩ (Nat.le_of_ble_eq_true rfl) fl_X9_29 (v := .ref (b + 8)) rfl dX9_write_27 ?_
        refine lv_aload_n (pc := 30) C0.1 C0.2.1 dX9_write_30 rfl (lv_at hl 0 rfl) ?_
        refine xget (pc := 31) C0 hH 0 1 clX9 ⟨Nat.le_of_ble_eq_true rfl, Nat.le_of_ble_eq_true rfl⟩ ⟨rfl, rfl⟩ (Nat.le_of_ble_eq_true rfl) fl_X9_19 (v := .ref (b + 4)) rfl dX9_write_31 ?_
        refine lv_aload_n (pc := 34) C0.1 C0.2.1 dX9_write_34 rfl (lv_at hl 0 rfl) ?_
        refine xget (pc := 35) C0 hH 0 7 clX9 ⟨Nat.le_of_ble_eq_true rfl, Nat.le_of_ble_eq_true rfl⟩ ⟨rfl, rfl⟩ (Nat.le_of_ble_eq_true rfl) fl_X9_50 (v := .ref (b + 73)) (by show Value.ref (b + (i 0 7).toNatClampNeg) = _; rw [hi_0_7]; rfl) dX9_write_35 ?_
        refine lv_iload_n (pc := 38) C0.1 C0.2.1 dX9_write_38 rfl (lv_at hl 1 rfl) ?_
        refine xcVI (pc := 39) 70 [.ref (b + 8), .ref (b + 4), .ref (b + 73), .int x] (g_X5_drawAnew_73 l D tA b i F G x hF hQ hPg hsz) C0 hH hS clX5 rfl ⟨⟨Nat.le_of_ble_eq_true rfl, Nat.le_of_ble_eq_true rfl⟩, rfl, rfl⟩ cw_X9_247 rfl ⟨Nat.le_of_ble_eq_true rfl, Nat.le_of_ble_eq_true rfl⟩ hl.1 rfl (Nat.le_of_ble_eq_true rfl) dX9_write_39 ⟨Nat.le_of_ble_eq_true rfl, Nat.le_of_ble_eq_true rfl⟩ (fun r4 ir4 Fr4 Gr4 _ locs hp hH hS => ?_)
        obtain ⟨honr4, a1r4, a2r4⟩ := hp
        have hI : IC ir4 Fr4 := IC.s (i := i) (F := F) hI honr4 ⟨a1r4, a2r4⟩
        have hBs : ir4 1 = i 1 ∧ Fr4 3 = F 3 ∧ Gr4 = G := ⟨(honr4.1 1 (by decide)).1.trans hBs.1, (honr4.1 3 (by decide)).2.trans hBs.2.1, honr4.2.trans hBs.2.2⟩
        have hI0 := hI
        obtain ⟨hsz, hbf, hsz6, hbf7, htk, hF, hQ, htk2, hG, hQ2, hPg, hpt, hrw⟩ := hI0
        have hL := Tf17.lin hF
        have hL2 := Tf48.lin hG
        have ek_1_2r4 : Int32.toInt (ir4 1 2) = Int32.toInt (i 1 2) := congrArg Int32.toInt (congrFun (honr4.1 1 (by decide)).1 2)
        refine lv_if_ne (pc := 42) (tgt := 48) C0.1 C0.2.1 dX9_write_42 (by decide) (fun c5 => ?_) (fun c5 => ?_)
        · have : Int32.toInt 0 = 0 := rfl
          have c5 : ¬ _ := fun q => c5 (Int32.toInt_inj.mp q)
          refine lv_aload_n (pc := 48) C0.1 C0.2.1 dX9_write_48 rfl (lv_at hl 0 rfl) ?_
          refine xcVI (pc := 49) 0 [] (g_X9_showDraftB l D tA b ir4 Fr4 Gr4 ((congrFun (honr4.1 0 (by decide)).1 6).trans hi_0_6) ((congrFun (honr4.1 0 (by decide)).1 7).trans hi_0_7)) C0 hH hS clX9 rfl ⟨⟨Nat.le_of_ble_eq_true rfl, Nat.le_of_ble_eq_true rfl⟩, rfl, rfl⟩ cw_X9_244 rfl ⟨Nat.le_of_ble_eq_true rfl, Nat.le_of_ble_eq_true rfl⟩ hl.1 rfl (Nat.le_of_ble_eq_true rfl) dX9_write_49 ⟨Nat.le_of_ble_eq_true rfl, Nat.le_of_ble_eq_true rfl⟩ (fun r6 ir6 Fr6 Gr6 _ locs hp hH hS => ?_)
          have hI : IC ir6 Fr6 := by
            rcases hp with q | q
            · cases q; exact hI
            · cases q; exact ⟨hsz, hbf, hsz6, hbf7, htk, hF, hQ, htk2, hG, hQ2, hPg, Or.inl ⟨rfl, rfl⟩, hrw⟩
          have hBs : ir6 1 = i 1 ∧ Fr6 3 = F 3 ∧ Gr6 = G := by
            rcases hp with q | q
            · cases q; exact hBs
            · cases q; exact hBs
          exact xiret (pc := 52) C0 hr hH hS dX9_write_52 ⟨hI, hBs⟩
        · have : Int32.toInt 0 = 0 := rfl
          have c5 := congrArg Int32.toInt c5
          refine lv_bipush (pc := 45) (v := (-3)) C0.1 C0.2.1 dX9_write_45 (by decide) ?_
          exact xiret (pc := 47) C0 hr hH hS dX9_write_47 ⟨hI, hBs⟩
    · have : Int32.toInt 8 = 8 := rfl
      have c2 : ¬ _ := fun q => c2 (Int32.le_iff_toInt_le.mpr q)
      refine lv_bipush (pc := 11) (v := (-2)) C0.1 C0.2.1 dX9_write_11 (by decide) ?_
      exact xiret (pc := 13) C0 hr hH hS dX9_write_13 ⟨hI, hBs⟩
theorem g_X9_written (l : Launch) (D : va_G) (tA : Nat → ClassId) (b : Nat) (i F : Nat → Nat → Int32) (G : Nat → Nat → Int64) (x : Int32) (hI : IC i F) : xMI l yX9_written cX9_written 2 (some .int) 1 21 D tA b 0 78 i F G [.ref (b + 0), .int x] (fun r u => u = (i, F, G) ∧ True) := by
  rcases hI.2.2.2.2.2.2.2.2.2.2.2.1 with ⟨q1, q2⟩ | ⟨q1, q2⟩
  · exact g_X9_writtenA l D tA b i F G x hI q1 q2
  · exact g_X9_writtenB l D tA b i F G x hI q1 q2
theorem g_X9_plain (l : Launch) (D : va_G) (tA : Nat → ClassId) (b : Nat) (i F : Nat → Nat → Int32) (G : Nat → Nat → Int64)  (hI : IC i F) (htd : 0 ≤ (i 1 2).toInt ∧ (i 1 2).toInt ≤ 24) : xMI l yX9_plain cX9_plain 1 (some .int) 5 116 D tA b 0 78 i F G [.ref (b + 0)] (fun r u => IC u.1 u.2.1 ∧ u.1 1 = i 1 ∧ u.2.1 3 = F 3 ∧ u.2.2 = G) := by
  rcases hI.2.2.2.2.2.2.2.2.2.2.2.1 with ⟨q1, q2⟩ | ⟨q1, q2⟩
  · exact g_X9_plainA l D tA b i F G  hI htd q1 q2
  · exact g_X9_plainB l D tA b i F G  hI htd q1 q2
theorem g_X9_write (l : Launch) (D : va_G) (tA : Nat → ClassId) (b : Nat) (i F : Nat → Nat → Int32) (G : Nat → Nat → Int64) (x : Int32) (hI : IC i F) (htd : 0 ≤ (i 1 2).toInt ∧ (i 1 2).toInt ≤ 24) : xMI l yX9_write cX9_write 2 (some .int) 5 123 D tA b 0 78 i F G [.ref (b + 0), .int x] (fun r u => IC u.1 u.2.1 ∧ u.1 1 = i 1 ∧ u.2.1 3 = F 3 ∧ u.2.2 = G) := by
  rcases hI.2.2.2.2.2.2.2.2.2.2.2.1 with ⟨q1, q2⟩ | ⟨q1, q2⟩
  · exact g_X9_writeA l D tA b i F G x hI htd q1 q2
  · exact g_X9_writeB l D tA b i F G x hI htd q1 q2
set_option maxHeartbeats 4000000 in
set_option maxRecDepth 100000 in
theorem g_X9_opener (l : Launch) (D : va_G) (tA : Nat → ClassId) (b : Nat) (i F : Nat → Nat → Int32) (G : Nat → Nat → Int64) (w : Int64) (y : Int32) (S : Int64 → Prop) (hI : IC i F) (hB : BkC i F G S) : xMI l yX9_opener cX9_opener 4 (some .int) 6 137 D tA b 0 78 i F G [.ref (b + 0), .long w, .int y] (fun r u => IC u.1 u.2.1 ∧ (∃ S2, tlR ((wdI (nmw w) = 0 ∧ mk1 (nmw w) = 0) ∨ ¬ (y.toInt = 1 ∨ y.toInt = 2 ∨ y.toInt = 3 ∨ y.toInt = 5)) (S (nmw w)) (i 1 3) 8 S S2 (fun x => x = nmw w) r (u.1 1 3) ∧ BkC u.1 u.2.1 u.2.2 S2) ∧ (u.1 1 4 = i 1 4 ∧ u.1 1 5 = i 1 5 ∧ u.1 1 6 = i 1 6 ∧ u.1 1 7 = i 1 7)) := by
  refine xstart RX9 rfl (by decide) (Nat.le_of_ble_eq_true rfl) ?_
  intro p e s m below meth c ls C0 hr hH hS hl
  have hl : lv_has ls 4 [(0, .ref (b + 0)), (1, .long w), (3, .int y)] := hl
  have rg_y := fb_rng y
  refine lv_aload_n (pc := 0) C0.1 C0.2.1 dX9_opener_0 rfl (lv_at hl 0 rfl) ?_
  refine lv_aload_n (pc := 1) C0.1 C0.2.1 dX9_opener_1 rfl (lv_at hl 0 rfl) ?_
  refine xget (pc := 2) C0 hH 0 0 clX9 ⟨Nat.le_of_ble_eq_true rfl, Nat.le_of_ble_eq_true rfl⟩ ⟨rfl, rfl⟩ (Nat.le_of_ble_eq_true rfl) fl_X9_12 (v := .ref (b + 1)) rfl dX9_opener_2 ?_
  refine lv_lload_n (pc := 5) C0.1 C0.2.1 dX9_opener_5 rfl (lv_at hl 1 rfl) ?_
  refine lv_iload_n (pc := 6) C0.1 C0.2.1 dX9_opener_6 rfl (lv_at hl 2 rfl) ?_
  refine xcVI (pc := 7) 1 [.long w, .int y] (g_X1_tellOpener l D tA b i F G w y S hB) C0 hH hS clX1 rfl ⟨⟨Nat.le_of_ble_eq_true rfl, Nat.le_of_ble_eq_true rfl⟩, rfl, rfl⟩ cw_X9_67 rfl ⟨Nat.le_of_ble_eq_true rfl, Nat.le_of_ble_eq_true rfl⟩ hl.1 rfl (Nat.le_of_ble_eq_true rfl) dX9_opener_7 ⟨Nat.le_of_ble_eq_true rfl, Nat.le_of_ble_eq_true rfl⟩ (fun r1 ir1 Fr1 Gr1 _ locs hp hH hS => ?_)
  obtain ⟨hobr1, hmr1⟩ := hp
  have hI : IC ir1 Fr1 := IC.ob (G := G) hI hobr1
  have hBs : ir1 1 = ir1 1 ∧ Fr1 3 = Fr1 3 ∧ Gr1 = Gr1 := ⟨rfl, rfl, rfl⟩
  refine xcVI (pc := 10) 0 [.int r1] (g_X9_unread l D tA b ir1 Fr1 Gr1 r1) C0 hH hS clX9 rfl ⟨⟨Nat.le_of_ble_eq_true rfl, Nat.le_of_ble_eq_true rfl⟩, rfl, rfl⟩ cw_X9_71 rfl ⟨Nat.le_of_ble_eq_true rfl, Nat.le_of_ble_eq_true rfl⟩ hl.1 rfl (Nat.le_of_ble_eq_true rfl) dX9_opener_10 ⟨Nat.le_of_ble_eq_true rfl, Nat.le_of_ble_eq_true rfl⟩ (fun r2 ir2 Fr2 Gr2 _ locs hp hH hS => ?_)
  obtain ⟨honr2, rfl, h8r2⟩ := hp
  have hI : IC ir2 Fr2 := IC.z hI honr2 h8r2
  have hBs : ir2 1 = ir1 1 ∧ Fr2 3 = Fr1 3 ∧ Gr2 = Gr1 := ⟨(honr2.1 1 (by decide)).1, (honr2.1 3 (by decide)).2, honr2.2⟩
  exact xiret (pc := 13) C0 hr hH hS dX9_opener_13 ⟨hI, (by obtain ⟨⟨S2, h1, h2⟩, h3⟩ := hmr1; exact ⟨S2, by show tlR _ _ _ _ _ _ _ _ (ir2 1 3); rw [congrFun hBs.1 3]; exact h1, BkC.bs h2 hBs⟩), (by obtain ⟨_, h3⟩ := hmr1; obtain ⟨e1, e2, e3, e4⟩ := h3; exact ⟨(congrFun hBs.1 4).trans e1, (congrFun hBs.1 5).trans e2, (congrFun hBs.1 6).trans e3, (congrFun hBs.1 7).trans e4⟩)⟩
set_option maxHeartbeats 4000000 in
set_option maxRecDepth 100000 in
theorem g_X9_closer (l : Launch) (D : va_G) (tA : Nat → ClassId) (b : Nat) (i F : Nat → Nat → Int32) (G : Nat → Nat → Int64) (w : Int64) (S : Int64 → Prop) (hI : IC i F) (hB : BkC i F G S) : xMI l yX9_closer cX9_closer 3 (some .int) 4 91 D tA b 0 78 i F G [.ref (b + 0), .long w] (fun r u => IC u.1 u.2.1 ∧ (∃ S2, tlR (wdI (nmw w) = 0) (S (nmw w)) (i 1 5) 4 S S2 (fun x => x = nmw w) r (u.1 1 5) ∧ BkC u.1 u.2.1 u.2.2 S2) ∧ (u.1 1 3 = i 1 3 ∧ u.1 1 4 = i 1 4 ∧ u.1 1 6 = i 1 6 ∧ u.1 1 7 = i 1 7)) := by
  refine xstart RX9 rfl (by decide) (Nat.le_of_ble_eq_true rfl) ?_
  intro p e s m below meth c ls C0 hr hH hS hl
  have hl : lv_has ls 3 [(0, .ref (b + 0)), (1, .long w)] := hl
  refine lv_aload_n (pc := 0) C0.1 C0.2.1 dX9_closer_0 rfl (lv_at hl 0 rfl) ?_
  refine lv_aload_n (pc := 1) C0.1 C0.2.1 dX9_closer_1 rfl (lv_at hl 0 rfl) ?_
  refine xget (pc := 2) C0 hH 0 0 clX9 ⟨Nat.le_of_ble_eq_true rfl, Nat.le_of_ble_eq_true rfl⟩ ⟨rfl, rfl⟩ (Nat.le_of_ble_eq_true rfl) fl_X9_12 (v := .ref (b + 1)) rfl dX9_closer_2 ?_
  refine lv_lload_n (pc := 5) C0.1 C0.2.1 dX9_closer_5 rfl (lv_at hl 1 rfl) ?_
  refine xcVI (pc := 6) 1 [.long w] (g_X1_tellCloser l D tA b i F G w S hB) C0 hH hS clX1 rfl ⟨⟨Nat.le_of_ble_eq_true rfl, Nat.le_of_ble_eq_true rfl⟩, rfl, rfl⟩ cw_X9_79 rfl ⟨Nat.le_of_ble_eq_true rfl, Nat.le_of_ble_eq_true rfl⟩ hl.1 rfl (Nat.le_of_ble_eq_true rfl) dX9_closer_6 ⟨Nat.le_of_ble_eq_true rfl, Nat.le_of_ble_eq_true rfl⟩ (fun r1 ir1 Fr1 Gr1 _ locs hp hH hS => ?_)
  obtain ⟨hobr1, hmr1⟩ := hp
  have hI : IC ir1 Fr1 := IC.ob (G := G) hI hobr1
  have hBs : ir1 1 = ir1 1 ∧ Fr1 3 = Fr1 3 ∧ Gr1 = Gr1 := ⟨rfl, rfl, rfl⟩
  refine xcVI (pc := 9) 0 [.int r1] (g_X9_unread l D tA b ir1 Fr1 Gr1 r1) C0 hH hS clX9 rfl ⟨⟨Nat.le_of_ble_eq_true rfl, Nat.le_of_ble_eq_true rfl⟩, rfl, rfl⟩ cw_X9_71 rfl ⟨Nat.le_of_ble_eq_true rfl, Nat.le_of_ble_eq_true rfl⟩ hl.1 rfl (Nat.le_of_ble_eq_true rfl) dX9_closer_9 ⟨Nat.le_of_ble_eq_true rfl, Nat.le_of_ble_eq_true rfl⟩ (fun r2 ir2 Fr2 Gr2 _ locs hp hH hS => ?_)
  obtain ⟨honr2, rfl, h8r2⟩ := hp
  have hI : IC ir2 Fr2 := IC.z hI honr2 h8r2
  have hBs : ir2 1 = ir1 1 ∧ Fr2 3 = Fr1 3 ∧ Gr2 = Gr1 := ⟨(honr2.1 1 (by decide)).1, (honr2.1 3 (by decide)).2, honr2.2⟩
  exact xiret (pc := 12) C0 hr hH hS dX9_closer_12 ⟨hI, (by obtain ⟨⟨S2, h1, h2⟩, h3⟩ := hmr1; exact ⟨S2, by show tlR _ _ _ _ _ _ _ _ (ir2 1 5); rw [congrFun hBs.1 5]; exact h1, BkC.bs h2 hBs⟩), (by obtain ⟨_, h3⟩ := hmr1; obtain ⟨e1, e2, e3, e4⟩ := h3; exact ⟨(congrFun hBs.1 3).trans e1, (congrFun hBs.1 4).trans e2, (congrFun hBs.1 6).trans e3, (congrFun hBs.1 7).trans e4⟩)⟩
set_option maxHeartbeats 4000000 in
set_option maxRecDepth 100000 in
theorem g_X9_goer (l : Launch) (D : va_G) (tA : Nat → ClassId) (b : Nat) (i F : Nat → Nat → Int32) (G : Nat → Nat → Int64) (x : Int32) (S : Int64 → Prop) (hI : IC i F) (hB : BkC i F G S) : xMI l yX9_goer cX9_goer 2 (some .int) 6 133 D tA b 0 78 i F G [.ref (b + 0), .int x] (fun r u => IC u.1 u.2.1 ∧ (∃ S2, tlR (mk1 x.toInt64 = 0) (S x.toInt64) (i 1 6) 4 S S2 (fun t => t = x.toInt64) r (u.1 1 6) ∧ BkC u.1 u.2.1 u.2.2 S2) ∧ (u.1 1 3 = i 1 3 ∧ u.1 1 4 = i 1 4 ∧ u.1 1 5 = i 1 5 ∧ u.1 1 7 = i 1 7)) := by
  refine xstart RX9 rfl (by decide) (Nat.le_of_ble_eq_true rfl) ?_
  intro p e s m below meth c ls C0 hr hH hS hl
  have hl : lv_has ls 2 [(0, .ref (b + 0)), (1, .int x)] := hl
  have rg_x := fb_rng x
  refine lv_aload_n (pc := 0) C0.1 C0.2.1 dX9_goer_0 rfl (lv_at hl 0 rfl) ?_
  refine lv_aload_n (pc := 1) C0.1 C0.2.1 dX9_goer_1 rfl (lv_at hl 0 rfl) ?_
  refine xget (pc := 2) C0 hH 0 0 clX9 ⟨Nat.le_of_ble_eq_true rfl, Nat.le_of_ble_eq_true rfl⟩ ⟨rfl, rfl⟩ (Nat.le_of_ble_eq_true rfl) fl_X9_12 (v := .ref (b + 1)) rfl dX9_goer_2 ?_
  refine lv_iload_n (pc := 5) C0.1 C0.2.1 dX9_goer_5 rfl (lv_at hl 1 rfl) ?_
  refine xcVI (pc := 6) 1 [.int x] (g_X1_tellGoer l D tA b i F G x S hB) C0 hH hS clX1 rfl ⟨⟨Nat.le_of_ble_eq_true rfl, Nat.le_of_ble_eq_true rfl⟩, rfl, rfl⟩ cw_X9_83 rfl ⟨Nat.le_of_ble_eq_true rfl, Nat.le_of_ble_eq_true rfl⟩ hl.1 rfl (Nat.le_of_ble_eq_true rfl) dX9_goer_6 ⟨Nat.le_of_ble_eq_true rfl, Nat.le_of_ble_eq_true rfl⟩ (fun r1 ir1 Fr1 Gr1 _ locs hp hH hS => ?_)
  obtain ⟨hobr1, hmr1⟩ := hp
  have hI : IC ir1 Fr1 := IC.ob (G := G) hI hobr1
  have hBs : ir1 1 = ir1 1 ∧ Fr1 3 = Fr1 3 ∧ Gr1 = Gr1 := ⟨rfl, rfl, rfl⟩
  refine xcVI (pc := 9) 0 [.int r1] (g_X9_unread l D tA b ir1 Fr1 Gr1 r1) C0 hH hS clX9 rfl ⟨⟨Nat.le_of_ble_eq_true rfl, Nat.le_of_ble_eq_true rfl⟩, rfl, rfl⟩ cw_X9_71 rfl ⟨Nat.le_of_ble_eq_true rfl, Nat.le_of_ble_eq_true rfl⟩ hl.1 rfl (Nat.le_of_ble_eq_true rfl) dX9_goer_9 ⟨Nat.le_of_ble_eq_true rfl, Nat.le_of_ble_eq_true rfl⟩ (fun r2 ir2 Fr2 Gr2 _ locs hp hH hS => ?_)
  obtain ⟨honr2, rfl, h8r2⟩ := hp
  have hI : IC ir2 Fr2 := IC.z hI honr2 h8r2
  have hBs : ir2 1 = ir1 1 ∧ Fr2 3 = Fr1 3 ∧ Gr2 = Gr1 := ⟨(honr2.1 1 (by decide)).1, (honr2.1 3 (by decide)).2, honr2.2⟩
  exact xiret (pc := 12) C0 hr hH hS dX9_goer_12 ⟨hI, (by obtain ⟨⟨S2, h1, h2⟩, h3⟩ := hmr1; exact ⟨S2, by show tlR _ _ _ _ _ _ _ _ (ir2 1 6); rw [congrFun hBs.1 6]; exact h1, BkC.bs h2 hBs⟩), (by obtain ⟨_, h3⟩ := hmr1; obtain ⟨e1, e2, e3, e4⟩ := h3; exact ⟨(congrFun hBs.1 3).trans e1, (congrFun hBs.1 4).trans e2, (congrFun hBs.1 5).trans e3, (congrFun hBs.1 7).trans e4⟩)⟩
set_option maxHeartbeats 4000000 in
set_option maxRecDepth 100000 in
theorem g_X9_pair (l : Launch) (D : va_G) (tA : Nat → ClassId) (b : Nat) (i F : Nat → Nat → Int32) (G : Nat → Nat → Int64) (x y : Int32) (S : Int64 → Prop) (hI : IC i F) (hB : BkC i F G S) : xMI l yX9_pair cX9_pair 3 (some .int) 6 134 D tA b 0 78 i F G [.ref (b + 0), .int x, .int y] (fun r u => IC u.1 u.2.1 ∧ (∃ S2, tlR (mk1 x.toInt64 = 0 ∨ mk1 y.toInt64 = 0) (S x.toInt64 ∨ S y.toInt64 ∨ x = y) (i 1 4) 4 S S2 (fun t => t = x.toInt64 ∨ t = y.toInt64) r (u.1 1 4) ∧ BkC u.1 u.2.1 u.2.2 S2) ∧ (u.1 1 3 = i 1 3 ∧ u.1 1 5 = i 1 5 ∧ u.1 1 6 = i 1 6 ∧ u.1 1 7 = i 1 7)) := by
  refine xstart RX9 rfl (by decide) (Nat.le_of_ble_eq_true rfl) ?_
  intro p e s m below meth c ls C0 hr hH hS hl
  have hl : lv_has ls 3 [(0, .ref (b + 0)), (1, .int x), (2, .int y)] := hl
  have rg_x := fb_rng x
  have rg_y := fb_rng y
  refine lv_aload_n (pc := 0) C0.1 C0.2.1 dX9_pair_0 rfl (lv_at hl 0 rfl) ?_
  refine lv_aload_n (pc := 1) C0.1 C0.2.1 dX9_pair_1 rfl (lv_at hl 0 rfl) ?_
  refine xget (pc := 2) C0 hH 0 0 clX9 ⟨Nat.le_of_ble_eq_true rfl, Nat.le_of_ble_eq_true rfl⟩ ⟨rfl, rfl⟩ (Nat.le_of_ble_eq_true rfl) fl_X9_12 (v := .ref (b + 1)) rfl dX9_pair_2 ?_
  refine lv_iload_n (pc := 5) C0.1 C0.2.1 dX9_pair_5 rfl (lv_at hl 1 rfl) ?_
  refine lv_iload_n (pc := 6) C0.1 C0.2.1 dX9_pair_6 rfl (lv_at hl 2 rfl) ?_
  refine xcVI (pc := 7) 1 [.int x, .int y] (g_X1_tellPair l D tA b i F G x y S hB) C0 hH hS clX1 rfl ⟨⟨Nat.le_of_ble_eq_true rfl, Nat.le_of_ble_eq_true rfl⟩, rfl, rfl⟩ cw_X9_75 rfl ⟨Nat.le_of_ble_eq_true rfl, Nat.le_of_ble_eq_true rfl⟩ hl.1 rfl (Nat.le_of_ble_eq_true rfl) dX9_pair_7 ⟨Nat.le_of_ble_eq_true rfl, Nat.le_of_ble_eq_true rfl⟩ (fun r1 ir1 Fr1 Gr1 _ locs hp hH hS => ?_)
  obtain ⟨hobr1, hmr1⟩ := hp
  have hI : IC ir1 Fr1 := IC.ob (G := G) hI hobr1
  have hBs : ir1 1 = ir1 1 ∧ Fr1 3 = Fr1 3 ∧ Gr1 = Gr1 := ⟨rfl, rfl, rfl⟩
  refine xcVI (pc := 10) 0 [.int r1] (g_X9_unread l D tA b ir1 Fr1 Gr1 r1) C0 hH hS clX9 rfl ⟨⟨Nat.le_of_ble_eq_true rfl, Nat.le_of_ble_eq_true rfl⟩, rfl, rfl⟩ cw_X9_71 rfl ⟨Nat.le_of_ble_eq_true rfl, Nat.le_of_ble_eq_true rfl⟩ hl.1 rfl (Nat.le_of_ble_eq_true rfl) dX9_pair_10 ⟨Nat.le_of_ble_eq_true rfl, Nat.le_of_ble_eq_true rfl⟩ (fun r2 ir2 Fr2 Gr2 _ locs hp hH hS => ?_)
  obtain ⟨honr2, rfl, h8r2⟩ := hp
  have hI : IC ir2 Fr2 := IC.z hI honr2 h8r2
  have hBs : ir2 1 = ir1 1 ∧ Fr2 3 = Fr1 3 ∧ Gr2 = Gr1 := ⟨(honr2.1 1 (by decide)).1, (honr2.1 3 (by decide)).2, honr2.2⟩
  exact xiret (pc := 13) C0 hr hH hS dX9_pair_13 ⟨hI, (by obtain ⟨⟨S2, h1, h2⟩, h3⟩ := hmr1; exact ⟨S2, by show tlR _ _ _ _ _ _ _ _ (ir2 1 4); rw [congrFun hBs.1 4]; exact h1, BkC.bs h2 hBs⟩), (by obtain ⟨_, h3⟩ := hmr1; obtain ⟨e1, e2, e3, e4⟩ := h3; exact ⟨(congrFun hBs.1 3).trans e1, (congrFun hBs.1 5).trans e2, (congrFun hBs.1 6).trans e3, (congrFun hBs.1 7).trans e4⟩)⟩
set_option maxHeartbeats 4000000 in
set_option maxRecDepth 100000 in
theorem g_X9_tab (l : Launch) (D : va_G) (tA : Nat → ClassId) (b : Nat) (i F : Nat → Nat → Int32) (G : Nat → Nat → Int64) (x : Int32) (S : Int64 → Prop) (hI : IC i F) (hB : BkC i F G S) : xMI l yX9_tab cX9_tab 2 (some .int) 1 22 D tA b 0 78 i F G [.ref (b + 0), .int x] (fun r u => IC u.1 u.2.1 ∧ ((¬ (0 ≤ x.toInt ∧ x.toInt ≤ 8) ∧ r = -2 ∧ u.1 1 7 = i 1 7) ∨ ((0 ≤ x.toInt ∧ x.toInt ≤ 8) ∧ r = i 1 7 ∧ u.1 1 7 = x)) ∧ BkC u.1 u.2.1 u.2.2 S ∧ (u.1 1 3 = i 1 3 ∧ u.1 1 4 = i 1 4 ∧ u.1 1 5 = i 1 5 ∧ u.1 1 6 = i 1 6)) := by
  refine xstart RX9 rfl (by decide) (Nat.le_of_ble_eq_true rfl) ?_
  intro p e s m below meth c ls C0 hr hH hS hl
  have hl : lv_has ls 2 [(0, .ref (b + 0)), (1, .int x)] := hl
  have rg_x := fb_rng x
  refine lv_aload_n (pc := 0) C0.1 C0.2.1 dX9_tab_0 rfl (lv_at hl 0 rfl) ?_
  refine lv_aload_n (pc := 1) C0.1 C0.2.1 dX9_tab_1 rfl (lv_at hl 0 rfl) ?_
  refine xget (pc := 2) C0 hH 0 0 clX9 ⟨Nat.le_of_ble_eq_true rfl, Nat.le_of_ble_eq_true rfl⟩ ⟨rfl, rfl⟩ (Nat.le_of_ble_eq_true rfl) fl_X9_12 (v := .ref (b + 1)) rfl dX9_tab_2 ?_
  refine lv_iload_n (pc := 5) C0.1 C0.2.1 dX9_tab_5 rfl (lv_at hl 1 rfl) ?_
  refine xcVI (pc := 6) 1 [.int x] (g_X1_tellTab l D tA b i F G x S hB) C0 hH hS clX1 rfl ⟨⟨Nat.le_of_ble_eq_true rfl, Nat.le_of_ble_eq_true rfl⟩, rfl, rfl⟩ cw_X9_86 rfl ⟨Nat.le_of_ble_eq_true rfl, Nat.le_of_ble_eq_true rfl⟩ hl.1 rfl (Nat.le_of_ble_eq_true rfl) dX9_tab_6 ⟨Nat.le_of_ble_eq_true rfl, Nat.le_of_ble_eq_true rfl⟩ (fun r1 ir1 Fr1 Gr1 _ locs hp hH hS => ?_)
  obtain ⟨hobr1, hmr1⟩ := hp
  have hI : IC ir1 Fr1 := IC.ob (G := G) hI hobr1
  have hBs : ir1 1 = ir1 1 ∧ Fr1 3 = Fr1 3 ∧ Gr1 = Gr1 := ⟨rfl, rfl, rfl⟩
  refine xcVI (pc := 9) 0 [.int r1] (g_X9_unread l D tA b ir1 Fr1 Gr1 r1) C0 hH hS clX9 rfl ⟨⟨Nat.le_of_ble_eq_true rfl, Nat.le_of_ble_eq_true rfl⟩, rfl, rfl⟩ cw_X9_71 rfl ⟨Nat.le_of_ble_eq_true rfl, Nat.le_of_ble_eq_true rfl⟩ hl.1 rfl (Nat.le_of_ble_eq_true rfl) dX9_tab_9 ⟨Nat.le_of_ble_eq_true rfl, Nat.le_of_ble_eq_true rfl⟩ (fun r2 ir2 Fr2 Gr2 _ locs hp hH hS => ?_)
  obtain ⟨honr2, rfl, h8r2⟩ := hp
  have hI : IC ir2 Fr2 := IC.z hI honr2 h8r2
  have hBs : ir2 1 = ir1 1 ∧ Fr2 3 = Fr1 3 ∧ Gr2 = Gr1 := ⟨(honr2.1 1 (by decide)).1, (honr2.1 3 (by decide)).2, honr2.2⟩
  exact xiret (pc := 12) C0 hr hH hS dX9_tab_12 ⟨hI, (by obtain ⟨h1, _, _⟩ := hmr1; show (_ ∧ _ ∧ ir2 1 7 = _) ∨ (_ ∧ _ ∧ ir2 1 7 = _); rw [congrFun hBs.1 7]; exact h1), BkC.bs hmr1.2.1 hBs, (by obtain ⟨_, _, e1, e2, e3, e4⟩ := hmr1; exact ⟨(congrFun hBs.1 3).trans e1, (congrFun hBs.1 4).trans e2, (congrFun hBs.1 5).trans e3, (congrFun hBs.1 6).trans e4⟩)⟩
