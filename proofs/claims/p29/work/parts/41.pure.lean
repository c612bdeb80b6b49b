set_option maxRecDepth 20000 in
theorem cw_X9_286 : CwS RX9 286 yX9_isStepped cX9_isStepped 1 (some .boolean) 1 := ⟨wm 844 (by decide +kernel) rfl, wm 533 (by decide +kernel) rfl, wm 1 (by decide +kernel) rfl, wm 534 rfl rfl, by decide +kernel⟩
set_option maxRecDepth 20000 in
theorem fl_X9_102 : Cond.fieldLink RX9 102 (TX6 1).1 (TX6 1).2.1 (TX6 1).2.2.1 ∈ WALL := wm 74 (by decide +kernel) rfl
set_option maxRecDepth 20000 in
theorem cw_X9_105 : CwV RX9 105 yX6_at cX6_at 2 (some .int) 1 := ⟨wm 638 (by decide +kernel) rfl, wm 614 (by decide +kernel) rfl, wm 615 (by decide +kernel) rfl, wm 3 (by decide +kernel) rfl, wm 616 rfl rfl, by decide +kernel⟩
set_option maxRecDepth 20000 in
theorem fl_X9_112 : Cond.fieldLink RX9 112 (TX4 2).1 (TX4 2).2.1 (TX4 2).2.2.1 ∈ WALL := wm 316 (by decide +kernel) rfl
set_option maxRecDepth 20000 in
theorem fl_X9_115 : Cond.fieldLink RX9 115 (TX4 3).1 (TX4 3).2.1 (TX4 3).2.2.1 ∈ WALL := wm 318 (by decide +kernel) rfl
set_option maxRecDepth 20000 in
theorem fl_X9_127 : Cond.fieldLink RX9 127 (TX4 4).1 (TX4 4).2.1 (TX4 4).2.2.1 ∈ WALL := wm 320 (by decide +kernel) rfl
set_option maxRecDepth 20000 in
theorem fl_X9_130 : Cond.fieldLink RX9 130 (TX4 5).1 (TX4 5).2.1 (TX4 5).2.2.1 ∈ WALL := wm 322 (by decide +kernel) rfl
set_option maxRecDepth 20000 in
theorem fl_X9_118 : Cond.fieldLink RX9 118 (TX4 0).1 (TX4 0).2.1 (TX4 0).2.2.1 ∈ WALL := wm 311 (by decide +kernel) rfl
set_option maxRecDepth 20000 in
theorem fl_X9_122 : Cond.fieldLink RX9 122 (TX7 7).1 (TX7 7).2.1 (TX7 7).2.2.1 ∈ WALL := wm 114 (by decide +kernel) rfl
set_option maxRecDepth 20000 in
theorem fl_X9_133 : Cond.fieldLink RX9 133 (TX4 1).1 (TX4 1).2.1 (TX4 1).2.2.1 ∈ WALL := wm 314 (by decide +kernel) rfl
set_option maxRecDepth 20000 in
theorem fl_X9_137 : Cond.fieldLink RX9 137 (TX8 0).1 (TX8 0).2.1 (TX8 0).2.2.1 ∈ WALL := wm 270 (by decide +kernel) rfl
set_option maxRecDepth 20000 in
theorem fl_X9_143 : Cond.fieldLink RX9 143 (TX0 9).1 (TX0 9).2.1 (TX0 9).2.2.1 ∈ WALL := wm 195 (by decide +kernel) rfl
set_option maxRecDepth 20000 in
theorem fl_X9_146 : Cond.fieldLink RX9 146 (TX8 1).1 (TX8 1).2.1 (TX8 1).2.2.1 ∈ WALL := wm 273 (by decide +kernel) rfl
set_option maxRecDepth 20000 in
theorem fl_X9_150 : Cond.fieldLink RX9 150 (TX2 5).1 (TX2 5).2.1 (TX2 5).2.2.1 ∈ WALL := wm 241 (by decide +kernel) rfl
set_option maxRecDepth 20000 in
theorem cw_X9_153 : CwV RX9 153 yX6_lineCount cX6_lineCount 1 (some .int) 0 := ⟨wm 806 (by decide +kernel) rfl, wm 807 (by decide +kernel) rfl, wm 808 (by decide +kernel) rfl, wm 3 (by decide +kernel) rfl, wm 809 rfl rfl, by decide +kernel⟩
set_option maxRecDepth 20000 in
theorem fl_X9_280 : Cond.fieldLink RX9 280 (TX9 13).1 (TX9 13).2.1 (TX9 13).2.2.1 ∈ WALL := wm 387 (by decide +kernel) rfl
set_option maxRecDepth 20000 in
theorem fl_X9_169 : Cond.fieldLink RX9 169 (TX7 4).1 (TX7 4).2.1 (TX7 4).2.2.1 ∈ WALL := wm 106 (by decide +kernel) rfl
set_option maxRecDepth 20000 in
theorem fl_X9_166 : Cond.fieldLink RX9 166 (TX7 3).1 (TX7 3).2.1 (TX7 3).2.2.1 ∈ WALL := wm 103 (by decide +kernel) rfl
set_option maxRecDepth 20000 in
theorem fl_X9_160 : Cond.fieldLink RX9 160 (TX7 1).1 (TX7 1).2.1 (TX7 1).2.2.1 ∈ WALL := wm 98 (by decide +kernel) rfl
set_option maxRecDepth 20000 in
theorem fl_X9_163 : Cond.fieldLink RX9 163 (TX7 2).1 (TX7 2).2.1 (TX7 2).2.2.1 ∈ WALL := wm 101 (by decide +kernel) rfl
set_option maxRecDepth 20000 in
theorem fl_X9_292 : Cond.fieldLink RX9 292 (TX1 7).1 (TX1 7).2.1 (TX1 7).2.2.1 ∈ WALL := wm 44 (by decide +kernel) rfl
set_option maxRecDepth 20000 in
theorem cw_X9_295 : CwV RX9 295 yX6_columnAt cX6_columnAt 5 (some .int) 2 := ⟨wm 862 (by decide +kernel) rfl, wm 790 (by decide +kernel) rfl, wm 791 (by decide +kernel) rfl, wm 3 (by decide +kernel) rfl, wm 792 rfl rfl, by decide +kernel⟩
set_option maxRecDepth 20000 in
theorem cw_X9_289 : CwV RX9 289 yX6_lineAt cX6_lineAt 4 (some .int) 1 := ⟨wm 861 (by decide +kernel) rfl, wm 786 (by decide +kernel) rfl, wm 787 (by decide +kernel) rfl, wm 3 (by decide +kernel) rfl, wm 788 rfl rfl, by decide +kernel⟩
set_option maxRecDepth 20000 in
theorem fl_X9_157 : Cond.fieldLink RX9 157 (TX7 0).1 (TX7 0).2.1 (TX7 0).2.2.1 ∈ WALL := wm 94 (by decide +kernel) rfl
set_option maxRecDepth 20000 in
theorem fl_X9_172 : Cond.fieldLink RX9 172 (TX8 3).1 (TX8 3).2.1 (TX8 3).2.2.1 ∈ WALL := wm 278 (by decide +kernel) rfl
set_option maxRecDepth 20000 in
theorem fl_X9_176 : Cond.fieldLink RX9 176 (TX8 2).1 (TX8 2).2.1 (TX8 2).2.2.1 ∈ WALL := wm 276 (by decide +kernel) rfl
set_option maxRecDepth 20000 in
theorem cw_X9_179 : CwV RX9 179 yX8_blockOf cX8_blockOf 3 (some .int) 1 := ⟨wm 815 (by decide +kernel) rfl, wm 816 (by decide +kernel) rfl, wm 817 (by decide +kernel) rfl, wm 6 (by decide +kernel) rfl, wm 818 rfl rfl, by decide +kernel⟩
set_option maxRecDepth 20000 in
theorem cw_X9_182 : CwV RX9 182 yX0_has cX0_has 2 (some .boolean) 1 := ⟨wm 823 (by decide +kernel) rfl, wm 713 (by decide +kernel) rfl, wm 714 (by decide +kernel) rfl, wm 7 (by decide +kernel) rfl, wm 715 rfl rfl, by decide +kernel⟩
set_option maxRecDepth 20000 in
theorem fl_X9_186 : Cond.fieldLink RX9 186 (TX0 0).1 (TX0 0).2.1 (TX0 0).2.2.1 ∈ WALL := wm 168 (by decide +kernel) rfl
set_option maxRecDepth 20000 in
theorem fl_X9_189 : Cond.fieldLink RX9 189 (TX0 1).1 (TX0 1).2.1 (TX0 1).2.2.1 ∈ WALL := wm 171 (by decide +kernel) rfl
set_option maxRecDepth 20000 in
theorem fl_X9_190 : Cond.fieldLink RX9 190 (TX0 2).1 (TX0 2).2.1 (TX0 2).2.2.1 ∈ WALL := wm 174 (by decide +kernel) rfl
set_option maxRecDepth 20000 in
theorem fl_X9_193 : Cond.fieldLink RX9 193 (TX0 3).1 (TX0 3).2.1 (TX0 3).2.2.1 ∈ WALL := wm 177 (by decide +kernel) rfl
set_option maxRecDepth 20000 in
theorem fl_X9_196 : Cond.fieldLink RX9 196 (TX0 4).1 (TX0 4).2.1 (TX0 4).2.2.1 ∈ WALL := wm 181 (by decide +kernel) rfl
set_option maxRecDepth 20000 in
theorem fl_X9_199 : Cond.fieldLink RX9 199 (TX0 5).1 (TX0 5).2.1 (TX0 5).2.2.1 ∈ WALL := wm 184 (by decide +kernel) rfl
set_option maxRecDepth 20000 in
theorem fl_X9_202 : Cond.fieldLink RX9 202 (TX0 6).1 (TX0 6).2.1 (TX0 6).2.2.1 ∈ WALL := wm 187 (by decide +kernel) rfl
set_option maxRecDepth 20000 in
theorem fl_X9_205 : Cond.fieldLink RX9 205 (TX0 7).1 (TX0 7).2.1 (TX0 7).2.2.1 ∈ WALL := wm 190 (by decide +kernel) rfl
set_option maxRecDepth 20000 in
theorem cw_X9_208 : CwV RX9 208 yX2_has cX2_has 2 (some .boolean) 1 := ⟨wm 828 (by decide +kernel) rfl, wm 744 (by decide +kernel) rfl, wm 745 (by decide +kernel) rfl, wm 8 (by decide +kernel) rfl, wm 746 rfl rfl, by decide +kernel⟩
set_option maxRecDepth 20000 in
theorem fl_X9_209 : Cond.fieldLink RX9 209 (TX2 0).1 (TX2 0).2.1 (TX2 0).2.2.1 ∈ WALL := wm 226 (by decide +kernel) rfl
set_option maxRecDepth 20000 in
theorem fl_X9_212 : Cond.fieldLink RX9 212 (TX2 2).1 (TX2 2).2.1 (TX2 2).2.2.1 ∈ WALL := wm 233 (by decide +kernel) rfl
set_option maxRecDepth 20000 in
theorem fl_X9_213 : Cond.fieldLink RX9 213 (TX2 3).1 (TX2 3).2.1 (TX2 3).2.2.1 ∈ WALL := wm 236 (by decide +kernel) rfl
set_option maxRecDepth 20000 in
theorem fl_X9_214 : Cond.fieldLink RX9 214 (TX2 4).1 (TX2 4).2.1 (TX2 4).2.2.1 ∈ WALL := wm 238 (by decide +kernel) rfl
set_option maxRecDepth 20000 in
theorem fl_X9_217 : Cond.fieldLink RX9 217 (TX2 1).1 (TX2 1).2.1 (TX2 1).2.2.1 ∈ WALL := wm 229 (by decide +kernel) rfl
set_option maxRecDepth 20000 in
theorem cw_X9_220 : CwV RX9 220 yX2_partOf cX2_partOf 5 (some .int) 2 := ⟨wm 833 (by decide +kernel) rfl, wm 834 (by decide +kernel) rfl, wm 835 (by decide +kernel) rfl, wm 8 (by decide +kernel) rfl, wm 836 rfl rfl, by decide +kernel⟩
set_option maxRecDepth 20000 in
theorem cw_X9_223 : CwS RX9 223 yX9_passesAs cX9_passesAs 2 (some .boolean) 2 := ⟨wm 841 (by decide +kernel) rfl, wm 842 (by decide +kernel) rfl, wm 1 (by decide +kernel) rfl, wm 843 rfl rfl, by decide +kernel⟩
set_option maxRecDepth 20000 in
theorem cw_X9_227 : CwV RX9 227 yX2_find cX2_find 4 (some .int) 2 := ⟨wm 845 (by decide +kernel) rfl, wm 846 (by decide +kernel) rfl, wm 847 (by decide +kernel) rfl, wm 8 (by decide +kernel) rfl, wm 848 rfl rfl, by decide +kernel⟩
set_option maxRecDepth 20000 in
theorem cw_X9_234 : CwV RX9 234 yX9_reachLast cX9_reachLast 4 (some .int) 2 := ⟨wm 857 (by decide +kernel) rfl, wm 859 (by decide +kernel) rfl, wms 24 (by decide +kernel) rfl, wm 1 (by decide +kernel) rfl, wm 860 rfl rfl, by decide +kernel⟩
set_option maxRecDepth 20000 in
theorem cw_X9_230 : CwV RX9 230 yX9_reachFirst cX9_reachFirst 3 (some .int) 2 := ⟨wm 853 (by decide +kernel) rfl, wm 855 (by decide +kernel) rfl, wms 23 (by decide +kernel) rfl, wm 1 (by decide +kernel) rfl, wm 856 rfl rfl, by decide +kernel⟩
set_option maxRecDepth 20000 in
theorem cw_X9_237 : CwV RX9 237 yX8_blockAround cX8_blockAround 3 (some .int) 1 := ⟨wm 867 (by decide +kernel) rfl, wm 868 (by decide +kernel) rfl, wm 869 (by decide +kernel) rfl, wm 6 (by decide +kernel) rfl, wm 870 rfl rfl, by decide +kernel⟩
theorem dX9_passesAs_0 : decode cX9_passesAs 0 = .ok (.iload_n 1, 1) := by decide +kernel
theorem dX9_passesAs_1 : decode cX9_passesAs 1 = .ok (.tableswitch 52 0 2 #[27, 29, 34], 27) := by decide +kernel
theorem dX9_passesAs_28 : decode cX9_passesAs 28 = .ok (.iconst 1, 1) := by decide +kernel
theorem dX9_passesAs_29 : decode cX9_passesAs 29 = .ok (.ireturn, 1) := by decide +kernel
theorem dX9_passesAs_30 : decode cX9_passesAs 30 = .ok (.iload_n 0, 1) := by decide +kernel
theorem dX9_passesAs_31 : decode cX9_passesAs 31 = .ok (.invokestatic 286, 3) := by decide +kernel
theorem dX9_passesAs_34 : decode cX9_passesAs 34 = .ok (.ireturn, 1) := by decide +kernel
theorem dX9_passesAs_35 : decode cX9_passesAs 35 = .ok (.iload_n 0, 1) := by decide +kernel
theorem dX9_passesAs_36 : decode cX9_passesAs 36 = .ok (.invokestatic 286, 3) := by decide +kernel
theorem dX9_passesAs_39 : decode cX9_passesAs 39 = .ok (.ifCond .eq 12, 3) := by decide +kernel
theorem dX9_passesAs_51 : decode cX9_passesAs 51 = .ok (.iconst 0, 1) := by decide +kernel
theorem dX9_passesAs_52 : decode cX9_passesAs 52 = .ok (.ireturn, 1) := by decide +kernel
theorem dX9_passesAs_42 : decode cX9_passesAs 42 = .ok (.iload_n 0, 1) := by decide +kernel
theorem dX9_passesAs_43 : decode cX9_passesAs 43 = .ok (.iconst 1, 1) := by decide +kernel
theorem dX9_passesAs_44 : decode cX9_passesAs 44 = .ok (.if_icmp .eq 7, 3) := by decide +kernel
theorem dX9_passesAs_47 : decode cX9_passesAs 47 = .ok (.iconst 1, 1) := by decide +kernel
theorem dX9_passesAs_48 : decode cX9_passesAs 48 = .ok (.goto 4, 3) := by decide +kernel
theorem dX9_passesAs_53 : decode cX9_passesAs 53 = .ok (.iload_n 0, 1) := by decide +kernel
theorem dX9_passesAs_54 : decode cX9_passesAs 54 = .ok (.iload_n 1, 1) := by decide +kernel
theorem dX9_passesAs_55 : decode cX9_passesAs 55 = .ok (.if_icmp .ne 7, 3) := by decide +kernel
theorem dX9_passesAs_62 : decode cX9_passesAs 62 = .ok (.iconst 0, 1) := by decide +kernel
theorem dX9_passesAs_63 : decode cX9_passesAs 63 = .ok (.ireturn, 1) := by decide +kernel
theorem dX9_passesAs_58 : decode cX9_passesAs 58 = .ok (.iconst 1, 1) := by decide +kernel
theorem dX9_passesAs_59 : decode cX9_passesAs 59 = .ok (.goto 4, 3) := by decide +kernel
theorem dX9_byteAt_0 : decode cX9_byteAt 0 = .ok (.iload_n 1, 1) := by decide +kernel
theorem dX9_byteAt_1 : decode cX9_byteAt 1 = .ok (.ifCond .lt 14, 3) := by decide +kernel
theorem dX9_byteAt_15 : decode cX9_byteAt 15 = .ok (.bipush (-12), 2) := by decide +kernel
theorem dX9_byteAt_17 : decode cX9_byteAt 17 = .ok (.goto 11, 3) := by decide +kernel
theorem dX9_byteAt_28 : decode cX9_byteAt 28 = .ok (.ireturn, 1) := by decide +kernel
theorem dX9_byteAt_4 : decode cX9_byteAt 4 = .ok (.iload_n 1, 1) := by decide +kernel
theorem dX9_byteAt_5 : decode cX9_byteAt 5 = .ok (.aload_n 0, 1) := by decide +kernel
theorem dX9_byteAt_6 : decode cX9_byteAt 6 = .ok (.getfield 19, 3) := by decide +kernel
theorem dX9_byteAt_9 : decode cX9_byteAt 9 = .ok (.getfield 102, 3) := by decide +kernel
theorem dX9_byteAt_12 : decode cX9_byteAt 12 = .ok (.if_icmp .lt 8, 3) := by decide +kernel
theorem dX9_byteAt_20 : decode cX9_byteAt 20 = .ok (.aload_n 0, 1) := by decide +kernel
theorem dX9_byteAt_21 : decode cX9_byteAt 21 = .ok (.getfield 19, 3) := by decide +kernel
theorem dX9_byteAt_24 : decode cX9_byteAt 24 = .ok (.iload_n 1, 1) := by decide +kernel
theorem dX9_byteAt_25 : decode cX9_byteAt 25 = .ok (.invokevirtual 105, 3) := by decide +kernel
theorem dX9_fault_0 : decode cX9_fault 0 = .ok (.iload_n 1, 1) := by decide +kernel
theorem dX9_fault_1 : decode cX9_fault 1 = .ok (.tableswitch 63 0 3 #[31, 39, 47, 55], 31) := by decide +kernel
theorem dX9_fault_32 : decode cX9_fault 32 = .ok (.aload_n 0, 1) := by decide +kernel
theorem dX9_fault_33 : decode cX9_fault 33 = .ok (.getfield 29, 3) := by decide +kernel
theorem dX9_fault_36 : decode cX9_fault 36 = .ok (.getfield 112, 3) := by decide +kernel
theorem dX9_fault_39 : decode cX9_fault 39 = .ok (.ireturn, 1) := by decide +kernel
theorem dX9_fault_40 : decode cX9_fault 40 = .ok (.aload_n 0, 1) := by decide +kernel
theorem dX9_fault_41 : decode cX9_fault 41 = .ok (.getfield 29, 3) := by decide +kernel
theorem dX9_fault_44 : decode cX9_fault 44 = .ok (.getfield 115, 3) := by decide +kernel
theorem dX9_fault_47 : decode cX9_fault 47 = .ok (.ireturn, 1) := by decide +kernel
theorem dX9_fault_48 : decode cX9_fault 48 = .ok (.aload_n 0, 1) := by decide +kernel
theorem dX9_fault_49 : decode cX9_fault 49 = .ok (.getfield 29, 3) := by decide +kernel
theorem dX9_fault_52 : decode cX9_fault 52 = .ok (.getfield 127, 3) := by decide +kernel
theorem dX9_fault_55 : decode cX9_fault 55 = .ok (.ireturn, 1) := by decide +kernel
theorem dX9_fault_56 : decode cX9_fault 56 = .ok (.aload_n 0, 1) := by decide +kernel
theorem dX9_fault_57 : decode cX9_fault 57 = .ok (.getfield 29, 3) := by decide +kernel
theorem dX9_fault_60 : decode cX9_fault 60 = .ok (.getfield 130, 3) := by decide +kernel
theorem dX9_fault_63 : decode cX9_fault 63 = .ok (.ireturn, 1) := by decide +kernel
theorem dX9_fault_64 : decode cX9_fault 64 = .ok (.bipush (-2), 2) := by decide +kernel
theorem dX9_fault_66 : decode cX9_fault 66 = .ok (.ireturn, 1) := by decide +kernel
theorem dX9_count_0 : decode cX9_count 0 = .ok (.iload_n 1, 1) := by decide +kernel
theorem dX9_count_1 : decode cX9_count 1 = .ok (.ifCond .lt 19, 3) := by decide +kernel
theorem dX9_count_20 : decode cX9_count 20 = .ok (.iload_n 1, 1) := by decide +kernel
theorem dX9_count_21 : decode cX9_count 21 = .ok (.tableswitch 90 0 4 #[35, 46, 60, 74, 82], 35) := by decide +kernel
theorem dX9_count_56 : decode cX9_count 56 = .ok (.aload_n 0, 1) := by decide +kernel
theorem dX9_count_57 : decode cX9_count 57 = .ok (.getfield 29, 3) := by decide +kernel
theorem dX9_count_60 : decode cX9_count 60 = .ok (.getfield 118, 3) := by decide +kernel
theorem dX9_count_63 : decode cX9_count 63 = .ok (.getfield 122, 3) := by decide +kernel
theorem dX9_count_66 : decode cX9_count 66 = .ok (.ireturn, 1) := by decide +kernel
theorem dX9_count_67 : decode cX9_count 67 = .ok (.aload_n 0, 1) := by decide +kernel
theorem dX9_count_68 : decode cX9_count 68 = .ok (.getfield 29, 3) := by decide +kernel
theorem dX9_count_71 : decode cX9_count 71 = .ok (.getfield 133, 3) := by decide +kernel
theorem dX9_count_74 : decode cX9_count 74 = .ok (.getfield 137, 3) := by decide +kernel
theorem dX9_count_77 : decode cX9_count 77 = .ok (.getfield 143, 3) := by decide +kernel
theorem dX9_count_80 : decode cX9_count 80 = .ok (.ireturn, 1) := by decide +kernel
theorem dX9_count_81 : decode cX9_count 81 = .ok (.aload_n 0, 1) := by decide +kernel
theorem dX9_count_82 : decode cX9_count 82 = .ok (.getfield 29, 3) := by decide +kernel
theorem dX9_count_85 : decode cX9_count 85 = .ok (.getfield 133, 3) := by decide +kernel
theorem dX9_count_88 : decode cX9_count 88 = .ok (.getfield 146, 3) := by decide +kernel
theorem dX9_count_91 : decode cX9_count 91 = .ok (.getfield 150, 3) := by decide +kernel
theorem dX9_count_94 : decode cX9_count 94 = .ok (.ireturn, 1) := by decide +kernel
theorem dX9_count_95 : decode cX9_count 95 = .ok (.aload_n 0, 1) := by decide +kernel
theorem dX9_count_96 : decode cX9_count 96 = .ok (.getfield 19, 3) := by decide +kernel
theorem dX9_count_99 : decode cX9_count 99 = .ok (.invokevirtual 153, 3) := by decide +kernel
theorem dX9_count_102 : decode cX9_count 102 = .ok (.ireturn, 1) := by decide +kernel
theorem dX9_count_103 : decode cX9_count 103 = .ok (.aload_n 0, 1) := by decide +kernel
theorem dX9_count_104 : decode cX9_count 104 = .ok (.getfield 19, 3) := by decide +kernel
theorem dX9_count_107 : decode cX9_count 107 = .ok (.getfield 102, 3) := by decide +kernel
theorem dX9_count_110 : decode cX9_count 110 = .ok (.ireturn, 1) := by decide +kernel
theorem dX9_count_111 : decode cX9_count 111 = .ok (.bipush (-2), 2) := by decide +kernel
theorem dX9_count_113 : decode cX9_count 113 = .ok (.ireturn, 1) := by decide +kernel
theorem dX9_count_4 : decode cX9_count 4 = .ok (.iload_n 1, 1) := by decide +kernel
theorem dX9_count_5 : decode cX9_count 5 = .ok (.iconst 2, 1) := by decide +kernel
theorem dX9_count_6 : decode cX9_count 6 = .ok (.if_icmp .gt 14, 3) := by decide +kernel
theorem dX9_count_9 : decode cX9_count 9 = .ok (.aload_n 0, 1) := by decide +kernel
theorem dX9_count_10 : decode cX9_count 10 = .ok (.getfield 53, 3) := by decide +kernel
theorem dX9_count_13 : decode cX9_count 13 = .ok (.iconst 1, 1) := by decide +kernel
theorem dX9_count_14 : decode cX9_count 14 = .ok (.if_icmp .eq 6, 3) := by decide +kernel
theorem dX9_count_17 : decode cX9_count 17 = .ok (.bipush (-3), 2) := by decide +kernel
theorem dX9_count_19 : decode cX9_count 19 = .ok (.ireturn, 1) := by decide +kernel
theorem dX9_markAt_0 : decode cX9_markAt 0 = .ok (.iload_n 1, 1) := by decide +kernel
theorem dX9_markAt_1 : decode cX9_markAt 1 = .ok (.ifCond .lt 11, 3) := by decide +kernel
theorem dX9_markAt_12 : decode cX9_markAt 12 = .ok (.bipush (-12), 2) := by decide +kernel
theorem dX9_markAt_14 : decode cX9_markAt 14 = .ok (.goto 9, 3) := by decide +kernel
theorem dX9_markAt_23 : decode cX9_markAt 23 = .ok (.ireturn, 1) := by decide +kernel
theorem dX9_markAt_4 : decode cX9_markAt 4 = .ok (.iload_n 1, 1) := by decide +kernel
theorem dX9_markAt_5 : decode cX9_markAt 5 = .ok (.aload_n 0, 1) := by decide +kernel
theorem dX9_markAt_6 : decode cX9_markAt 6 = .ok (.getfield 280, 3) := by decide +kernel
theorem dX9_markAt_9 : decode cX9_markAt 9 = .ok (.if_icmp .lt 8, 3) := by decide +kernel
theorem dX9_markAt_17 : decode cX9_markAt 17 = .ok (.aload_n 0, 1) := by decide +kernel
theorem dX9_markAt_18 : decode cX9_markAt 18 = .ok (.getfield 63, 3) := by decide +kernel
theorem dX9_markAt_21 : decode cX9_markAt 21 = .ok (.iload_n 1, 1) := by decide +kernel
theorem dX9_markAt_22 : decode cX9_markAt 22 = .ok (.iaload, 1) := by decide +kernel
theorem dX9_mended_0 : decode cX9_mended 0 = .ok (.iload_n 1, 1) := by decide +kernel
theorem dX9_mended_1 : decode cX9_mended 1 = .ok (.lookupswitch 37 #[(0, 27), (1, 32)], 27) := by decide +kernel
theorem dX9_mended_28 : decode cX9_mended 28 = .ok (.aload_n 0, 1) := by decide +kernel
theorem dX9_mended_29 : decode cX9_mended 29 = .ok (.getfield 57, 3) := by decide +kernel
theorem dX9_mended_32 : decode cX9_mended 32 = .ok (.ireturn, 1) := by decide +kernel
theorem dX9_mended_33 : decode cX9_mended 33 = .ok (.aload_n 0, 1) := by decide +kernel
theorem dX9_mended_34 : decode cX9_mended 34 = .ok (.getfield 60, 3) := by decide +kernel
theorem dX9_mended_37 : decode cX9_mended 37 = .ok (.ireturn, 1) := by decide +kernel
theorem dX9_mended_38 : decode cX9_mended 38 = .ok (.bipush (-2), 2) := by decide +kernel
theorem dX9_mended_40 : decode cX9_mended 40 = .ok (.ireturn, 1) := by decide +kernel
theorem dX9_reachFirst_0 : decode cX9_reachFirst 0 = .ok (.iload_n 1, 1) := by decide +kernel
theorem dX9_reachFirst_1 : decode cX9_reachFirst 1 = .ok (.ifCond .lt 17, 3) := by decide +kernel
theorem dX9_reachFirst_18 : decode cX9_reachFirst 18 = .ok (.bipush (-9), 2) := by decide +kernel
theorem dX9_reachFirst_20 : decode cX9_reachFirst 20 = .ok (.ireturn, 1) := by decide +kernel
theorem dX9_reachFirst_4 : decode cX9_reachFirst 4 = .ok (.iload_n 1, 1) := by decide +kernel
theorem dX9_reachFirst_5 : decode cX9_reachFirst 5 = .ok (.aload_n 0, 1) := by decide +kernel
theorem dX9_reachFirst_6 : decode cX9_reachFirst 6 = .ok (.getfield 29, 3) := by decide +kernel
theorem dX9_reachFirst_9 : decode cX9_reachFirst 9 = .ok (.getfield 118, 3) := by decide +kernel
theorem dX9_reachFirst_12 : decode cX9_reachFirst 12 = .ok (.getfield 122, 3) := by decide +kernel
theorem dX9_reachFirst_15 : decode cX9_reachFirst 15 = .ok (.if_icmp .lt 6, 3) := by decide +kernel
theorem dX9_reachFirst_21 : decode cX9_reachFirst 21 = .ok (.iload_n 2, 1) := by decide +kernel
theorem dX9_reachFirst_22 : decode cX9_reachFirst 22 = .ok (.ifCond .eq 18, 3) := by decide +kernel
theorem dX9_reachFirst_40 : decode cX9_reachFirst 40 = .ok (.aload_n 0, 1) := by decide +kernel
theorem dX9_reachFirst_41 : decode cX9_reachFirst 41 = .ok (.getfield 29, 3) := by decide +kernel
theorem dX9_reachFirst_44 : decode cX9_reachFirst 44 = .ok (.getfield 118, 3) := by decide +kernel
theorem dX9_reachFirst_47 : decode cX9_reachFirst 47 = .ok (.getfield 169, 3) := by decide +kernel
theorem dX9_reachFirst_50 : decode cX9_reachFirst 50 = .ok (.iload_n 1, 1) := by decide +kernel
theorem dX9_reachFirst_51 : decode cX9_reachFirst 51 = .ok (.iaload, 1) := by decide +kernel
theorem dX9_reachFirst_52 : decode cX9_reachFirst 52 = .ok (.ireturn, 1) := by decide +kernel
theorem dX9_reachFirst_25 : decode cX9_reachFirst 25 = .ok (.aload_n 0, 1) := by decide +kernel
theorem dX9_reachFirst_26 : decode cX9_reachFirst 26 = .ok (.getfield 29, 3) := by decide +kernel
theorem dX9_reachFirst_29 : decode cX9_reachFirst 29 = .ok (.getfield 118, 3) := by decide +kernel
theorem dX9_reachFirst_32 : decode cX9_reachFirst 32 = .ok (.getfield 166, 3) := by decide +kernel
theorem dX9_reachFirst_35 : decode cX9_reachFirst 35 = .ok (.iload_n 1, 1) := by decide +kernel
theorem dX9_reachFirst_36 : decode cX9_reachFirst 36 = .ok (.iaload, 1) := by decide +kernel
theorem dX9_reachFirst_37 : decode cX9_reachFirst 37 = .ok (.goto 15, 3) := by decide +kernel
theorem dX9_reachLast_0 : decode cX9_reachLast 0 = .ok (.iload_n 1, 1) := by decide +kernel
theorem dX9_reachLast_1 : decode cX9_reachLast 1 = .ok (.ifCond .lt 17, 3) := by decide +kernel
theorem dX9_reachLast_18 : decode cX9_reachLast 18 = .ok (.bipush (-9), 2) := by decide +kernel
theorem dX9_reachLast_20 : decode cX9_reachLast 20 = .ok (.ireturn, 1) := by decide +kernel
theorem dX9_reachLast_4 : decode cX9_reachLast 4 = .ok (.iload_n 1, 1) := by decide +kernel
theorem dX9_reachLast_5 : decode cX9_reachLast 5 = .ok (.aload_n 0, 1) := by decide +kernel
theorem dX9_reachLast_6 : decode cX9_reachLast 6 = .ok (.getfield 29, 3) := by decide +kernel
theorem dX9_reachLast_9 : decode cX9_reachLast 9 = .ok (.getfield 118, 3) := by decide +kernel
theorem dX9_reachLast_12 : decode cX9_reachLast 12 = .ok (.getfield 122, 3) := by decide +kernel
theorem dX9_reachLast_15 : decode cX9_reachLast 15 = .ok (.if_icmp .lt 6, 3) := by decide +kernel
theorem dX9_reachLast_21 : decode cX9_reachLast 21 = .ok (.aload_n 0, 1) := by decide +kernel
theorem dX9_reachLast_22 : decode cX9_reachLast 22 = .ok (.getfield 29, 3) := by decide +kernel
theorem dX9_reachLast_25 : decode cX9_reachLast 25 = .ok (.getfield 118, 3) := by decide +kernel
theorem dX9_reachLast_28 : decode cX9_reachLast 28 = .ok (.getfield 160, 3) := by decide +kernel
theorem dX9_reachLast_31 : decode cX9_reachLast 31 = .ok (.iload_n 1, 1) := by decide +kernel
theorem dX9_reachLast_32 : decode cX9_reachLast 32 = .ok (.iaload, 1) := by decide +kernel
theorem dX9_reachLast_33 : decode cX9_reachLast 33 = .ok (.aload_n 0, 1) := by decide +kernel
theorem dX9_reachLast_34 : decode cX9_reachLast 34 = .ok (.getfield 29, 3) := by decide +kernel
theorem dX9_reachLast_37 : decode cX9_reachLast 37 = .ok (.getfield 118, 3) := by decide +kernel
theorem dX9_reachLast_40 : decode cX9_reachLast 40 = .ok (.getfield 163, 3) := by decide +kernel
theorem dX9_reachLast_43 : decode cX9_reachLast 43 = .ok (.iload_n 1, 1) := by decide +kernel
theorem dX9_reachLast_44 : decode cX9_reachLast 44 = .ok (.iaload, 1) := by decide +kernel
theorem dX9_reachLast_45 : decode cX9_reachLast 45 = .ok (.iadd, 1) := by decide +kernel
theorem dX9_reachLast_46 : decode cX9_reachLast 46 = .ok (.iconst 1, 1) := by decide +kernel
theorem dX9_reachLast_47 : decode cX9_reachLast 47 = .ok (.isub, 1) := by decide +kernel
theorem dX9_reachLast_48 : decode cX9_reachLast 48 = .ok (.istore_n 3, 1) := by decide +kernel
theorem dX9_reachLast_49 : decode cX9_reachLast 49 = .ok (.iload_n 2, 1) := by decide +kernel
theorem dX9_reachLast_50 : decode cX9_reachLast 50 = .ok (.ifCond .eq 14, 3) := by decide +kernel
theorem dX9_reachLast_64 : decode cX9_reachLast 64 = .ok (.aload_n 0, 1) := by decide +kernel
theorem dX9_reachLast_65 : decode cX9_reachLast 65 = .ok (.getfield 19, 3) := by decide +kernel
theorem dX9_reachLast_68 : decode cX9_reachLast 68 = .ok (.iload_n 3, 1) := by decide +kernel
theorem dX9_reachLast_69 : decode cX9_reachLast 69 = .ok (.aload_n 0, 1) := by decide +kernel
theorem dX9_reachLast_70 : decode cX9_reachLast 70 = .ok (.getfield 12, 3) := by decide +kernel
theorem dX9_reachLast_73 : decode cX9_reachLast 73 = .ok (.getfield 292, 3) := by decide +kernel
theorem dX9_reachLast_76 : decode cX9_reachLast 76 = .ok (.invokevirtual 295, 3) := by decide +kernel
theorem dX9_reachLast_79 : decode cX9_reachLast 79 = .ok (.ireturn, 1) := by decide +kernel
theorem dX9_reachLast_53 : decode cX9_reachLast 53 = .ok (.aload_n 0, 1) := by decide +kernel
theorem dX9_reachLast_54 : decode cX9_reachLast 54 = .ok (.getfield 19, 3) := by decide +kernel
theorem dX9_reachLast_57 : decode cX9_reachLast 57 = .ok (.iload_n 3, 1) := by decide +kernel
theorem dX9_reachLast_58 : decode cX9_reachLast 58 = .ok (.invokevirtual 289, 3) := by decide +kernel
theorem dX9_reachLast_61 : decode cX9_reachLast 61 = .ok (.goto 18, 3) := by decide +kernel
theorem dX9_token_0 : decode cX9_token 0 = .ok (.aload_n 0, 1) := by decide +kernel
theorem dX9_token_1 : decode cX9_token 1 = .ok (.getfield 53, 3) := by decide +kernel
theorem dX9_token_4 : decode cX9_token 4 = .ok (.iconst 1, 1) := by decide +kernel
theorem dX9_token_5 : decode cX9_token 5 = .ok (.if_icmp .eq 6, 3) := by decide +kernel
theorem dX9_token_11 : decode cX9_token 11 = .ok (.iload_n 1, 1) := by decide +kernel
theorem dX9_token_12 : decode cX9_token 12 = .ok (.ifCond .lt 17, 3) := by decide +kernel
theorem dX9_token_29 : decode cX9_token 29 = .ok (.iconst (-1), 1) := by decide +kernel
theorem dX9_token_30 : decode cX9_token 30 = .ok (.ireturn, 1) := by decide +kernel
theorem dX9_token_15 : decode cX9_token 15 = .ok (.iload_n 1, 1) := by decide +kernel
theorem dX9_token_16 : decode cX9_token 16 = .ok (.aload_n 0, 1) := by decide +kernel
theorem dX9_token_17 : decode cX9_token 17 = .ok (.getfield 29, 3) := by decide +kernel
theorem dX9_token_20 : decode cX9_token 20 = .ok (.getfield 118, 3) := by decide +kernel
theorem dX9_token_23 : decode cX9_token 23 = .ok (.getfield 122, 3) := by decide +kernel
theorem dX9_token_26 : decode cX9_token 26 = .ok (.if_icmp .lt 5, 3) := by decide +kernel
theorem dX9_token_31 : decode cX9_token 31 = .ok (.iload_n 2, 1) := by decide +kernel
theorem dX9_token_32 : decode cX9_token 32 = .ok (.tableswitch 159 0 7 #[48, 61, 74, 87, 100, 113, 134, 147], 48) := by decide +kernel
theorem dX9_token_80 : decode cX9_token 80 = .ok (.aload_n 0, 1) := by decide +kernel
theorem dX9_token_81 : decode cX9_token 81 = .ok (.getfield 29, 3) := by decide +kernel
theorem dX9_token_84 : decode cX9_token 84 = .ok (.getfield 118, 3) := by decide +kernel
theorem dX9_token_87 : decode cX9_token 87 = .ok (.getfield 157, 3) := by decide +kernel
theorem dX9_token_90 : decode cX9_token 90 = .ok (.iload_n 1, 1) := by decide +kernel
theorem dX9_token_91 : decode cX9_token 91 = .ok (.iaload, 1) := by decide +kernel
theorem dX9_token_92 : decode cX9_token 92 = .ok (.ireturn, 1) := by decide +kernel
theorem dX9_token_93 : decode cX9_token 93 = .ok (.aload_n 0, 1) := by decide +kernel
theorem dX9_token_94 : decode cX9_token 94 = .ok (.getfield 29, 3) := by decide +kernel
theorem dX9_token_97 : decode cX9_token 97 = .ok (.getfield 118, 3) := by decide +kernel
theorem dX9_token_100 : decode cX9_token 100 = .ok (.getfield 160, 3) := by decide +kernel
theorem dX9_token_103 : decode cX9_token 103 = .ok (.iload_n 1, 1) := by decide +kernel
theorem dX9_token_104 : decode cX9_token 104 = .ok (.iaload, 1) := by decide +kernel
theorem dX9_token_105 : decode cX9_token 105 = .ok (.ireturn, 1) := by decide +kernel
theorem dX9_token_106 : decode cX9_token 106 = .ok (.aload_n 0, 1) := by decide +kernel
theorem dX9_token_107 : decode cX9_token 107 = .ok (.getfield 29, 3) := by decide +kernel
theorem dX9_token_110 : decode cX9_token 110 = .ok (.getfield 118, 3) := by decide +kernel
theorem dX9_token_113 : decode cX9_token 113 = .ok (.getfield 163, 3) := by decide +kernel
theorem dX9_token_116 : decode cX9_token 116 = .ok (.iload_n 1, 1) := by decide +kernel
theorem dX9_token_117 : decode cX9_token 117 = .ok (.iaload, 1) := by decide +kernel
theorem dX9_token_118 : decode cX9_token 118 = .ok (.ireturn, 1) := by decide +kernel
theorem dX9_token_119 : decode cX9_token 119 = .ok (.aload_n 0, 1) := by decide +kernel
theorem dX9_token_120 : decode cX9_token 120 = .ok (.getfield 29, 3) := by decide +kernel
theorem dX9_token_123 : decode cX9_token 123 = .ok (.getfield 118, 3) := by decide +kernel
theorem dX9_token_126 : decode cX9_token 126 = .ok (.getfield 166, 3) := by decide +kernel
theorem dX9_token_129 : decode cX9_token 129 = .ok (.iload_n 1, 1) := by decide +kernel
theorem dX9_token_130 : decode cX9_token 130 = .ok (.iaload, 1) := by decide +kernel
theorem dX9_token_131 : decode cX9_token 131 = .ok (.ireturn, 1) := by decide +kernel
theorem dX9_token_132 : decode cX9_token 132 = .ok (.aload_n 0, 1) := by decide +kernel
theorem dX9_token_133 : decode cX9_token 133 = .ok (.getfield 29, 3) := by decide +kernel
theorem dX9_token_136 : decode cX9_token 136 = .ok (.getfield 118, 3) := by decide +kernel
theorem dX9_token_139 : decode cX9_token 139 = .ok (.getfield 169, 3) := by decide +kernel
theorem dX9_token_142 : decode cX9_token 142 = .ok (.iload_n 1, 1) := by decide +kernel
theorem dX9_token_143 : decode cX9_token 143 = .ok (.iaload, 1) := by decide +kernel
theorem dX9_token_144 : decode cX9_token 144 = .ok (.ireturn, 1) := by decide +kernel
theorem dX9_token_145 : decode cX9_token 145 = .ok (.aload_n 0, 1) := by decide +kernel
theorem dX9_token_146 : decode cX9_token 146 = .ok (.getfield 29, 3) := by decide +kernel
theorem dX9_token_149 : decode cX9_token 149 = .ok (.getfield 133, 3) := by decide +kernel
theorem dX9_token_152 : decode cX9_token 152 = .ok (.getfield 172, 3) := by decide +kernel
theorem dX9_token_155 : decode cX9_token 155 = .ok (.iload_n 1, 1) := by decide +kernel
theorem dX9_token_156 : decode cX9_token 156 = .ok (.baload, 1) := by decide +kernel
theorem dX9_token_157 : decode cX9_token 157 = .ok (.ifCond .eq 7, 3) := by decide +kernel
theorem dX9_token_164 : decode cX9_token 164 = .ok (.iconst 0, 1) := by decide +kernel
theorem dX9_token_165 : decode cX9_token 165 = .ok (.ireturn, 1) := by decide +kernel
theorem dX9_token_160 : decode cX9_token 160 = .ok (.iconst 1, 1) := by decide +kernel
theorem dX9_token_161 : decode cX9_token 161 = .ok (.goto 4, 3) := by decide +kernel
theorem dX9_token_166 : decode cX9_token 166 = .ok (.aload_n 0, 1) := by decide +kernel
theorem dX9_token_167 : decode cX9_token 167 = .ok (.getfield 29, 3) := by decide +kernel
theorem dX9_token_170 : decode cX9_token 170 = .ok (.getfield 133, 3) := by decide +kernel
theorem dX9_token_173 : decode cX9_token 173 = .ok (.getfield 176, 3) := by decide +kernel
theorem dX9_token_176 : decode cX9_token 176 = .ok (.iload_n 1, 1) := by decide +kernel
theorem dX9_token_177 : decode cX9_token 177 = .ok (.iaload, 1) := by decide +kernel
theorem dX9_token_178 : decode cX9_token 178 = .ok (.ireturn, 1) := by decide +kernel
theorem dX9_token_179 : decode cX9_token 179 = .ok (.aload_n 0, 1) := by decide +kernel
theorem dX9_token_180 : decode cX9_token 180 = .ok (.getfield 29, 3) := by decide +kernel
theorem dX9_token_183 : decode cX9_token 183 = .ok (.getfield 133, 3) := by decide +kernel
theorem dX9_token_186 : decode cX9_token 186 = .ok (.iload_n 1, 1) := by decide +kernel
theorem dX9_token_187 : decode cX9_token 187 = .ok (.invokevirtual 179, 3) := by decide +kernel
theorem dX9_token_190 : decode cX9_token 190 = .ok (.ireturn, 1) := by decide +kernel
theorem dX9_token_191 : decode cX9_token 191 = .ok (.bipush (-2), 2) := by decide +kernel
theorem dX9_token_193 : decode cX9_token 193 = .ok (.ireturn, 1) := by decide +kernel
theorem dX9_token_8 : decode cX9_token 8 = .ok (.bipush (-3), 2) := by decide +kernel
theorem dX9_token_10 : decode cX9_token 10 = .ok (.ireturn, 1) := by decide +kernel
theorem dX9_block_0 : decode cX9_block 0 = .ok (.aload_n 0, 1) := by decide +kernel
theorem dX9_block_1 : decode cX9_block 1 = .ok (.getfield 29, 3) := by decide +kernel
theorem dX9_block_4 : decode cX9_block 4 = .ok (.getfield 133, 3) := by decide +kernel
theorem dX9_block_7 : decode cX9_block 7 = .ok (.getfield 137, 3) := by decide +kernel
theorem dX9_block_10 : decode cX9_block 10 = .ok (.astore_n 3, 1) := by decide +kernel
theorem dX9_block_11 : decode cX9_block 11 = .ok (.aload_n 0, 1) := by decide +kernel
theorem dX9_block_12 : decode cX9_block 12 = .ok (.getfield 53, 3) := by decide +kernel
theorem dX9_block_15 : decode cX9_block 15 = .ok (.iconst 1, 1) := by decide +kernel
theorem dX9_block_16 : decode cX9_block 16 = .ok (.if_icmp .eq 6, 3) := by decide +kernel
theorem dX9_block_22 : decode cX9_block 22 = .ok (.aload_n 3, 1) := by decide +kernel
theorem dX9_block_23 : decode cX9_block 23 = .ok (.iload_n 1, 1) := by decide +kernel
theorem dX9_block_24 : decode cX9_block 24 = .ok (.invokevirtual 182, 3) := by decide +kernel
theorem dX9_block_27 : decode cX9_block 27 = .ok (.ifCond .ne 5, 3) := by decide +kernel
theorem dX9_block_32 : decode cX9_block 32 = .ok (.iload_n 2, 1) := by decide +kernel
theorem dX9_block_33 : decode cX9_block 33 = .ok (.tableswitch 103 0 7 #[47, 54, 61, 68, 75, 82, 89, 96], 47) := by decide +kernel
theorem dX9_block_80 : decode cX9_block 80 = .ok (.aload_n 3, 1) := by decide +kernel
theorem dX9_block_81 : decode cX9_block 81 = .ok (.getfield 186, 3) := by decide +kernel
theorem dX9_block_84 : decode cX9_block 84 = .ok (.iload_n 1, 1) := by decide +kernel
theorem dX9_block_85 : decode cX9_block 85 = .ok (.iaload, 1) := by decide +kernel
theorem dX9_block_86 : decode cX9_block 86 = .ok (.ireturn, 1) := by decide +kernel
theorem dX9_block_87 : decode cX9_block 87 = .ok (.aload_n 3, 1) := by decide +kernel
theorem dX9_block_88 : decode cX9_block 88 = .ok (.getfield 189, 3) := by decide +kernel
theorem dX9_block_91 : decode cX9_block 91 = .ok (.iload_n 1, 1) := by decide +kernel
theorem dX9_block_92 : decode cX9_block 92 = .ok (.iaload, 1) := by decide +kernel
theorem dX9_block_93 : decode cX9_block 93 = .ok (.ireturn, 1) := by decide +kernel
theorem dX9_block_94 : decode cX9_block 94 = .ok (.aload_n 3, 1) := by decide +kernel
theorem dX9_block_95 : decode cX9_block 95 = .ok (.getfield 190, 3) := by decide +kernel
theorem dX9_block_98 : decode cX9_block 98 = .ok (.iload_n 1, 1) := by decide +kernel
theorem dX9_block_99 : decode cX9_block 99 = .ok (.iaload, 1) := by decide +kernel
theorem dX9_block_100 : decode cX9_block 100 = .ok (.ireturn, 1) := by decide +kernel
theorem dX9_block_101 : decode cX9_block 101 = .ok (.aload_n 3, 1) := by decide +kernel
theorem dX9_block_102 : decode cX9_block 102 = .ok (.getfield 193, 3) := by decide +kernel
theorem dX9_block_105 : decode cX9_block 105 = .ok (.iload_n 1, 1) := by decide +kernel
theorem dX9_block_106 : decode cX9_block 106 = .ok (.iaload, 1) := by decide +kernel
theorem dX9_block_107 : decode cX9_block 107 = .ok (.ireturn, 1) := by decide +kernel
theorem dX9_block_108 : decode cX9_block 108 = .ok (.aload_n 3, 1) := by decide +kernel
theorem dX9_block_109 : decode cX9_block 109 = .ok (.getfield 196, 3) := by decide +kernel
theorem dX9_block_112 : decode cX9_block 112 = .ok (.iload_n 1, 1) := by decide +kernel
theorem dX9_block_113 : decode cX9_block 113 = .ok (.iaload, 1) := by decide +kernel
theorem dX9_block_114 : decode cX9_block 114 = .ok (.ireturn, 1) := by decide +kernel
theorem dX9_block_115 : decode cX9_block 115 = .ok (.aload_n 3, 1) := by decide +kernel
theorem dX9_block_116 : decode cX9_block 116 = .ok (.getfield 199, 3) := by decide +kernel
theorem dX9_block_119 : decode cX9_block 119 = .ok (.iload_n 1, 1) := by decide +kernel
theorem dX9_block_120 : decode cX9_block 120 = .ok (.iaload, 1) := by decide +kernel
theorem dX9_block_121 : decode cX9_block 121 = .ok (.ireturn, 1) := by decide +kernel
theorem dX9_block_122 : decode cX9_block 122 = .ok (.aload_n 3, 1) := by decide +kernel
theorem dX9_block_123 : decode cX9_block 123 = .ok (.getfield 202, 3) := by decide +kernel
theorem dX9_block_126 : decode cX9_block 126 = .ok (.iload_n 1, 1) := by decide +kernel
theorem dX9_block_127 : decode cX9_block 127 = .ok (.iaload, 1) := by decide +kernel
theorem dX9_block_128 : decode cX9_block 128 = .ok (.ireturn, 1) := by decide +kernel
theorem dX9_block_129 : decode cX9_block 129 = .ok (.aload_n 3, 1) := by decide +kernel
theorem dX9_block_130 : decode cX9_block 130 = .ok (.getfield 205, 3) := by decide +kernel
theorem dX9_block_133 : decode cX9_block 133 = .ok (.iload_n 1, 1) := by decide +kernel
theorem dX9_block_134 : decode cX9_block 134 = .ok (.iaload, 1) := by decide +kernel
theorem dX9_block_135 : decode cX9_block 135 = .ok (.ireturn, 1) := by decide +kernel
theorem dX9_block_136 : decode cX9_block 136 = .ok (.bipush (-2), 2) := by decide +kernel
theorem dX9_block_138 : decode cX9_block 138 = .ok (.ireturn, 1) := by decide +kernel
theorem dX9_block_30 : decode cX9_block 30 = .ok (.iconst (-1), 1) := by decide +kernel
theorem dX9_block_31 : decode cX9_block 31 = .ok (.ireturn, 1) := by decide +kernel
theorem dX9_block_19 : decode cX9_block 19 = .ok (.bipush (-3), 2) := by decide +kernel
theorem dX9_block_21 : decode cX9_block 21 = .ok (.ireturn, 1) := by decide +kernel
theorem dX9_item_0 : decode cX9_item 0 = .ok (.aload_n 0, 1) := by decide +kernel
theorem dX9_item_1 : decode cX9_item 1 = .ok (.getfield 29, 3) := by decide +kernel
theorem dX9_item_4 : decode cX9_item 4 = .ok (.getfield 133, 3) := by decide +kernel
theorem dX9_item_7 : decode cX9_item 7 = .ok (.getfield 146, 3) := by decide +kernel
theorem dX9_item_10 : decode cX9_item 10 = .ok (.astore_n 3, 1) := by decide +kernel
theorem dX9_item_11 : decode cX9_item 11 = .ok (.aload_n 0, 1) := by decide +kernel
theorem dX9_item_12 : decode cX9_item 12 = .ok (.getfield 53, 3) := by decide +kernel
theorem dX9_item_15 : decode cX9_item 15 = .ok (.iconst 1, 1) := by decide +kernel
theorem dX9_item_16 : decode cX9_item 16 = .ok (.if_icmp .eq 6, 3) := by decide +kernel
theorem dX9_item_22 : decode cX9_item 22 = .ok (.aload_n 3, 1) := by decide +kernel
theorem dX9_item_23 : decode cX9_item 23 = .ok (.iload_n 1, 1) := by decide +kernel
theorem dX9_item_24 : decode cX9_item 24 = .ok (.invokevirtual 208, 3) := by decide +kernel
theorem dX9_item_27 : decode cX9_item 27 = .ok (.ifCond .ne 5, 3) := by decide +kernel
theorem dX9_item_32 : decode cX9_item 32 = .ok (.iload_n 2, 1) := by decide +kernel
theorem dX9_item_33 : decode cX9_item 33 = .ok (.tableswitch 70 0 4 #[35, 42, 49, 56, 63], 35) := by decide +kernel
theorem dX9_item_68 : decode cX9_item 68 = .ok (.aload_n 3, 1) := by decide +kernel
theorem dX9_item_69 : decode cX9_item 69 = .ok (.getfield 209, 3) := by decide +kernel
theorem dX9_item_72 : decode cX9_item 72 = .ok (.iload_n 1, 1) := by decide +kernel
theorem dX9_item_73 : decode cX9_item 73 = .ok (.iaload, 1) := by decide +kernel
theorem dX9_item_74 : decode cX9_item 74 = .ok (.ireturn, 1) := by decide +kernel
theorem dX9_item_75 : decode cX9_item 75 = .ok (.aload_n 3, 1) := by decide +kernel
theorem dX9_item_76 : decode cX9_item 76 = .ok (.getfield 212, 3) := by decide +kernel
theorem dX9_item_79 : decode cX9_item 79 = .ok (.iload_n 1, 1) := by decide +kernel
theorem dX9_item_80 : decode cX9_item 80 = .ok (.iaload, 1) := by decide +kernel
theorem dX9_item_81 : decode cX9_item 81 = .ok (.ireturn, 1) := by decide +kernel
theorem dX9_item_82 : decode cX9_item 82 = .ok (.aload_n 3, 1) := by decide +kernel
theorem dX9_item_83 : decode cX9_item 83 = .ok (.getfield 213, 3) := by decide +kernel
theorem dX9_item_86 : decode cX9_item 86 = .ok (.iload_n 1, 1) := by decide +kernel
theorem dX9_item_87 : decode cX9_item 87 = .ok (.iaload, 1) := by decide +kernel
theorem dX9_item_88 : decode cX9_item 88 = .ok (.ireturn, 1) := by decide +kernel
theorem dX9_item_89 : decode cX9_item 89 = .ok (.aload_n 3, 1) := by decide +kernel
theorem dX9_item_90 : decode cX9_item 90 = .ok (.getfield 214, 3) := by decide +kernel
theorem dX9_item_93 : decode cX9_item 93 = .ok (.iload_n 1, 1) := by decide +kernel
theorem dX9_item_94 : decode cX9_item 94 = .ok (.iaload, 1) := by decide +kernel
theorem dX9_item_95 : decode cX9_item 95 = .ok (.ireturn, 1) := by decide +kernel
theorem dX9_item_96 : decode cX9_item 96 = .ok (.aload_n 3, 1) := by decide +kernel
theorem dX9_item_97 : decode cX9_item 97 = .ok (.getfield 217, 3) := by decide +kernel
theorem dX9_item_100 : decode cX9_item 100 = .ok (.iload_n 1, 1) := by decide +kernel
theorem dX9_item_101 : decode cX9_item 101 = .ok (.iaload, 1) := by decide +kernel
theorem dX9_item_102 : decode cX9_item 102 = .ok (.ireturn, 1) := by decide +kernel
theorem dX9_item_103 : decode cX9_item 103 = .ok (.bipush (-2), 2) := by decide +kernel
theorem dX9_item_105 : decode cX9_item 105 = .ok (.ireturn, 1) := by decide +kernel
theorem dX9_item_30 : decode cX9_item 30 = .ok (.iconst (-1), 1) := by decide +kernel
theorem dX9_item_31 : decode cX9_item 31 = .ok (.ireturn, 1) := by decide +kernel
theorem dX9_item_19 : decode cX9_item 19 = .ok (.bipush (-3), 2) := by decide +kernel
theorem dX9_item_21 : decode cX9_item 21 = .ok (.ireturn, 1) := by decide +kernel
theorem dX9_part_0 : decode cX9_part 0 = .ok (.aload_n 0, 1) := by decide +kernel
theorem dX9_part_1 : decode cX9_part 1 = .ok (.getfield 29, 3) := by decide +kernel
theorem dX9_part_4 : decode cX9_part 4 = .ok (.getfield 133, 3) := by decide +kernel
theorem dX9_part_7 : decode cX9_part 7 = .ok (.getfield 146, 3) := by decide +kernel
theorem dX9_part_10 : decode cX9_part 10 = .ok (.astore_n 3, 1) := by decide +kernel
theorem dX9_part_11 : decode cX9_part 11 = .ok (.aload_n 0, 1) := by decide +kernel
theorem dX9_part_12 : decode cX9_part 12 = .ok (.getfield 53, 3) := by decide +kernel
theorem dX9_part_15 : decode cX9_part 15 = .ok (.iconst 1, 1) := by decide +kernel
theorem dX9_part_16 : decode cX9_part 16 = .ok (.if_icmp .eq 6, 3) := by decide +kernel
theorem dX9_part_22 : decode cX9_part 22 = .ok (.aload_n 3, 1) := by decide +kernel
theorem dX9_part_23 : decode cX9_part 23 = .ok (.iload_n 1, 1) := by decide +kernel
theorem dX9_part_24 : decode cX9_part 24 = .ok (.invokevirtual 208, 3) := by decide +kernel
theorem dX9_part_27 : decode cX9_part 27 = .ok (.ifCond .ne 5, 3) := by decide +kernel
theorem dX9_part_32 : decode cX9_part 32 = .ok (.iload_n 2, 1) := by decide +kernel
theorem dX9_part_33 : decode cX9_part 33 = .ok (.ifCond .lt 13, 3) := by decide +kernel
theorem dX9_part_46 : decode cX9_part 46 = .ok (.bipush (-12), 2) := by decide +kernel
theorem dX9_part_48 : decode cX9_part 48 = .ok (.ireturn, 1) := by decide +kernel
theorem dX9_part_36 : decode cX9_part 36 = .ok (.iload_n 2, 1) := by decide +kernel
theorem dX9_part_37 : decode cX9_part 37 = .ok (.aload_n 3, 1) := by decide +kernel
theorem dX9_part_38 : decode cX9_part 38 = .ok (.getfield 214, 3) := by decide +kernel
theorem dX9_part_41 : decode cX9_part 41 = .ok (.iload_n 1, 1) := by decide +kernel
theorem dX9_part_42 : decode cX9_part 42 = .ok (.iaload, 1) := by decide +kernel
theorem dX9_part_43 : decode cX9_part 43 = .ok (.if_icmp .lt 6, 3) := by decide +kernel
theorem dX9_part_49 : decode cX9_part 49 = .ok (.aload_n 3, 1) := by decide +kernel
theorem dX9_part_50 : decode cX9_part 50 = .ok (.iload_n 1, 1) := by decide +kernel
theorem dX9_part_51 : decode cX9_part 51 = .ok (.iload_n 2, 1) := by decide +kernel
theorem dX9_part_52 : decode cX9_part 52 = .ok (.invokevirtual 220, 3) := by decide +kernel
theorem dX9_part_55 : decode cX9_part 55 = .ok (.ireturn, 1) := by decide +kernel
theorem dX9_part_30 : decode cX9_part 30 = .ok (.iconst (-1), 1) := by decide +kernel
theorem dX9_part_31 : decode cX9_part 31 = .ok (.ireturn, 1) := by decide +kernel
theorem dX9_part_19 : decode cX9_part 19 = .ok (.bipush (-3), 2) := by decide +kernel
theorem dX9_part_21 : decode cX9_part 21 = .ok (.ireturn, 1) := by decide +kernel
theorem dX9_itemAs_0 : decode cX9_itemAs 0 = .ok (.aload_n 0, 1) := by decide +kernel
theorem dX9_itemAs_1 : decode cX9_itemAs 1 = .ok (.getfield 29, 3) := by decide +kernel
theorem dX9_itemAs_4 : decode cX9_itemAs 4 = .ok (.getfield 133, 3) := by decide +kernel
theorem dX9_itemAs_7 : decode cX9_itemAs 7 = .ok (.getfield 137, 3) := by decide +kernel
theorem dX9_itemAs_10 : decode cX9_itemAs 10 = .ok (.astore 4, 2) := by decide +kernel
theorem dX9_itemAs_12 : decode cX9_itemAs 12 = .ok (.aload_n 0, 1) := by decide +kernel
theorem dX9_itemAs_13 : decode cX9_itemAs 13 = .ok (.getfield 53, 3) := by decide +kernel
theorem dX9_itemAs_16 : decode cX9_itemAs 16 = .ok (.iconst 1, 1) := by decide +kernel
theorem dX9_itemAs_17 : decode cX9_itemAs 17 = .ok (.if_icmp .eq 6, 3) := by decide +kernel
theorem dX9_itemAs_23 : decode cX9_itemAs 23 = .ok (.aload 4, 2) := by decide +kernel
theorem dX9_itemAs_25 : decode cX9_itemAs 25 = .ok (.iload_n 1, 1) := by decide +kernel
theorem dX9_itemAs_26 : decode cX9_itemAs 26 = .ok (.invokevirtual 182, 3) := by decide +kernel
theorem dX9_itemAs_29 : decode cX9_itemAs 29 = .ok (.ifCond .ne 5, 3) := by decide +kernel
theorem dX9_itemAs_34 : decode cX9_itemAs 34 = .ok (.iload_n 2, 1) := by decide +kernel
theorem dX9_itemAs_35 : decode cX9_itemAs 35 = .ok (.ifCond .lt 8, 3) := by decide +kernel
theorem dX9_itemAs_43 : decode cX9_itemAs 43 = .ok (.bipush (-2), 2) := by decide +kernel
theorem dX9_itemAs_45 : decode cX9_itemAs 45 = .ok (.ireturn, 1) := by decide +kernel
theorem dX9_itemAs_38 : decode cX9_itemAs 38 = .ok (.iload_n 2, 1) := by decide +kernel
theorem dX9_itemAs_39 : decode cX9_itemAs 39 = .ok (.iconst 5, 1) := by decide +kernel
theorem dX9_itemAs_40 : decode cX9_itemAs 40 = .ok (.if_icmp .le 6, 3) := by decide +kernel
theorem dX9_itemAs_46 : decode cX9_itemAs 46 = .ok (.aload 4, 2) := by decide +kernel
theorem dX9_itemAs_48 : decode cX9_itemAs 48 = .ok (.getfield 186, 3) := by decide +kernel
theorem dX9_itemAs_51 : decode cX9_itemAs 51 = .ok (.iload_n 1, 1) := by decide +kernel
theorem dX9_itemAs_52 : decode cX9_itemAs 52 = .ok (.iaload, 1) := by decide +kernel
theorem dX9_itemAs_53 : decode cX9_itemAs 53 = .ok (.iload_n 2, 1) := by decide +kernel
theorem dX9_itemAs_54 : decode cX9_itemAs 54 = .ok (.invokestatic 223, 3) := by decide +kernel
theorem dX9_itemAs_57 : decode cX9_itemAs 57 = .ok (.ifCond .ne 6, 3) := by decide +kernel
theorem dX9_itemAs_63 : decode cX9_itemAs 63 = .ok (.iload_n 3, 1) := by decide +kernel
theorem dX9_itemAs_64 : decode cX9_itemAs 64 = .ok (.ifCond .lt 14, 3) := by decide +kernel
theorem dX9_itemAs_78 : decode cX9_itemAs 78 = .ok (.bipush (-12), 2) := by decide +kernel
theorem dX9_itemAs_80 : decode cX9_itemAs 80 = .ok (.ireturn, 1) := by decide +kernel
theorem dX9_itemAs_67 : decode cX9_itemAs 67 = .ok (.iload_n 3, 1) := by decide +kernel
theorem dX9_itemAs_68 : decode cX9_itemAs 68 = .ok (.aload 4, 2) := by decide +kernel
theorem dX9_itemAs_70 : decode cX9_itemAs 70 = .ok (.getfield 193, 3) := by decide +kernel
theorem dX9_itemAs_73 : decode cX9_itemAs 73 = .ok (.iload_n 1, 1) := by decide +kernel
theorem dX9_itemAs_74 : decode cX9_itemAs 74 = .ok (.iaload, 1) := by decide +kernel
theorem dX9_itemAs_75 : decode cX9_itemAs 75 = .ok (.if_icmp .lt 6, 3) := by decide +kernel
theorem dX9_itemAs_81 : decode cX9_itemAs 81 = .ok (.aload_n 0, 1) := by decide +kernel
theorem dX9_itemAs_82 : decode cX9_itemAs 82 = .ok (.getfield 29, 3) := by decide +kernel
theorem dX9_itemAs_85 : decode cX9_itemAs 85 = .ok (.getfield 133, 3) := by decide +kernel
theorem dX9_itemAs_88 : decode cX9_itemAs 88 = .ok (.getfield 146, 3) := by decide +kernel
theorem dX9_itemAs_91 : decode cX9_itemAs 91 = .ok (.iload_n 1, 1) := by decide +kernel
theorem dX9_itemAs_92 : decode cX9_itemAs 92 = .ok (.iload_n 3, 1) := by decide +kernel
theorem dX9_itemAs_93 : decode cX9_itemAs 93 = .ok (.invokevirtual 227, 3) := by decide +kernel
theorem dX9_itemAs_96 : decode cX9_itemAs 96 = .ok (.ireturn, 1) := by decide +kernel
theorem dX9_itemAs_60 : decode cX9_itemAs 60 = .ok (.bipush (-11), 2) := by decide +kernel
theorem dX9_itemAs_62 : decode cX9_itemAs 62 = .ok (.ireturn, 1) := by decide +kernel
theorem dX9_itemAs_32 : decode cX9_itemAs 32 = .ok (.iconst (-1), 1) := by decide +kernel
theorem dX9_itemAs_33 : decode cX9_itemAs 33 = .ok (.ireturn, 1) := by decide +kernel
theorem dX9_itemAs_20 : decode cX9_itemAs 20 = .ok (.bipush (-3), 2) := by decide +kernel
theorem dX9_itemAs_22 : decode cX9_itemAs 22 = .ok (.ireturn, 1) := by decide +kernel
theorem dX9_reach_0 : decode cX9_reach 0 = .ok (.aload_n 0, 1) := by decide +kernel
theorem dX9_reach_1 : decode cX9_reach 1 = .ok (.getfield 29, 3) := by decide +kernel
theorem dX9_reach_4 : decode cX9_reach 4 = .ok (.getfield 133, 3) := by decide +kernel
theorem dX9_reach_7 : decode cX9_reach 7 = .ok (.getfield 137, 3) := by decide +kernel
theorem dX9_reach_10 : decode cX9_reach 10 = .ok (.astore 4, 2) := by decide +kernel
theorem dX9_reach_12 : decode cX9_reach 12 = .ok (.aload_n 0, 1) := by decide +kernel
theorem dX9_reach_13 : decode cX9_reach 13 = .ok (.getfield 29, 3) := by decide +kernel
theorem dX9_reach_16 : decode cX9_reach 16 = .ok (.getfield 133, 3) := by decide +kernel
theorem dX9_reach_19 : decode cX9_reach 19 = .ok (.getfield 146, 3) := by decide +kernel
theorem dX9_reach_22 : decode cX9_reach 22 = .ok (.astore 5, 2) := by decide +kernel
theorem dX9_reach_24 : decode cX9_reach 24 = .ok (.aload_n 0, 1) := by decide +kernel
theorem dX9_reach_25 : decode cX9_reach 25 = .ok (.getfield 53, 3) := by decide +kernel
theorem dX9_reach_28 : decode cX9_reach 28 = .ok (.iconst 1, 1) := by decide +kernel
theorem dX9_reach_29 : decode cX9_reach 29 = .ok (.if_icmp .eq 6, 3) := by decide +kernel
theorem dX9_reach_35 : decode cX9_reach 35 = .ok (.iload_n 1, 1) := by decide +kernel
theorem dX9_reach_36 : decode cX9_reach 36 = .ok (.ifCond .eq 15, 3) := by decide +kernel
theorem dX9_reach_51 : decode cX9_reach 51 = .ok (.aload 5, 2) := by decide +kernel
theorem dX9_reach_53 : decode cX9_reach 53 = .ok (.iload_n 2, 1) := by decide +kernel
theorem dX9_reach_54 : decode cX9_reach 54 = .ok (.invokevirtual 208, 3) := by decide +kernel
theorem dX9_reach_57 : decode cX9_reach 57 = .ok (.ifCond .ne 5, 3) := by decide +kernel
theorem dX9_reach_62 : decode cX9_reach 62 = .ok (.iload_n 3, 1) := by decide +kernel
theorem dX9_reach_63 : decode cX9_reach 63 = .ok (.ifCond .lt 8, 3) := by decide +kernel
theorem dX9_reach_71 : decode cX9_reach 71 = .ok (.bipush (-2), 2) := by decide +kernel
theorem dX9_reach_73 : decode cX9_reach 73 = .ok (.ireturn, 1) := by decide +kernel
theorem dX9_reach_66 : decode cX9_reach 66 = .ok (.iload_n 3, 1) := by decide +kernel
theorem dX9_reach_67 : decode cX9_reach 67 = .ok (.iconst 3, 1) := by decide +kernel
theorem dX9_reach_68 : decode cX9_reach 68 = .ok (.if_icmp .le 6, 3) := by decide +kernel
theorem dX9_reach_74 : decode cX9_reach 74 = .ok (.iload_n 3, 1) := by decide +kernel
theorem dX9_reach_75 : decode cX9_reach 75 = .ok (.iconst 2, 1) := by decide +kernel
theorem dX9_reach_76 : decode cX9_reach 76 = .ok (.if_icmp .ge 38, 3) := by decide +kernel
theorem dX9_reach_114 : decode cX9_reach 114 = .ok (.aload_n 0, 1) := by decide +kernel
theorem dX9_reach_115 : decode cX9_reach 115 = .ok (.iload_n 1, 1) := by decide +kernel
theorem dX9_reach_116 : decode cX9_reach 116 = .ok (.ifCond .eq 13, 3) := by decide +kernel
theorem dX9_reach_129 : decode cX9_reach 129 = .ok (.aload 5, 2) := by decide +kernel
theorem dX9_reach_131 : decode cX9_reach 131 = .ok (.getfield 213, 3) := by decide +kernel
theorem dX9_reach_134 : decode cX9_reach 134 = .ok (.iload_n 2, 1) := by decide +kernel
theorem dX9_reach_135 : decode cX9_reach 135 = .ok (.iaload, 1) := by decide +kernel
theorem dX9_reach_136 : decode cX9_reach 136 = .ok (.iload_n 3, 1) := by decide +kernel
theorem dX9_reach_137 : decode cX9_reach 137 = .ok (.iconst 2, 1) := by decide +kernel
theorem dX9_reach_138 : decode cX9_reach 138 = .ok (.if_icmp .ne 7, 3) := by decide +kernel
theorem dX9_reach_145 : decode cX9_reach 145 = .ok (.iconst 0, 1) := by decide +kernel
theorem dX9_reach_146 : decode cX9_reach 146 = .ok (.invokevirtual 234, 3) := by decide +kernel
theorem dX9_reach_149 : decode cX9_reach 149 = .ok (.ireturn, 1) := by decide +kernel
theorem dX9_reach_141 : decode cX9_reach 141 = .ok (.iconst 1, 1) := by decide +kernel
theorem dX9_reach_142 : decode cX9_reach 142 = .ok (.goto 4, 3) := by decide +kernel
theorem dX9_reach_119 : decode cX9_reach 119 = .ok (.aload 4, 2) := by decide +kernel
theorem dX9_reach_121 : decode cX9_reach 121 = .ok (.getfield 199, 3) := by decide +kernel
theorem dX9_reach_124 : decode cX9_reach 124 = .ok (.iload_n 2, 1) := by decide +kernel
theorem dX9_reach_125 : decode cX9_reach 125 = .ok (.iaload, 1) := by decide +kernel
theorem dX9_reach_126 : decode cX9_reach 126 = .ok (.goto 10, 3) := by decide +kernel
theorem dX9_reach_79 : decode cX9_reach 79 = .ok (.aload_n 0, 1) := by decide +kernel
theorem dX9_reach_80 : decode cX9_reach 80 = .ok (.iload_n 1, 1) := by decide +kernel
theorem dX9_reach_81 : decode cX9_reach 81 = .ok (.ifCond .eq 13, 3) := by decide +kernel
theorem dX9_reach_94 : decode cX9_reach 94 = .ok (.aload 5, 2) := by decide +kernel
theorem dX9_reach_96 : decode cX9_reach 96 = .ok (.getfield 212, 3) := by decide +kernel
theorem dX9_reach_99 : decode cX9_reach 99 = .ok (.iload_n 2, 1) := by decide +kernel
theorem dX9_reach_100 : decode cX9_reach 100 = .ok (.iaload, 1) := by decide +kernel
theorem dX9_reach_101 : decode cX9_reach 101 = .ok (.iload_n 3, 1) := by decide +kernel
theorem dX9_reach_102 : decode cX9_reach 102 = .ok (.ifCond .ne 7, 3) := by decide +kernel
theorem dX9_reach_109 : decode cX9_reach 109 = .ok (.iconst 0, 1) := by decide +kernel
theorem dX9_reach_110 : decode cX9_reach 110 = .ok (.invokevirtual 230, 3) := by decide +kernel
theorem dX9_reach_113 : decode cX9_reach 113 = .ok (.ireturn, 1) := by decide +kernel
theorem dX9_reach_105 : decode cX9_reach 105 = .ok (.iconst 1, 1) := by decide +kernel
theorem dX9_reach_106 : decode cX9_reach 106 = .ok (.goto 4, 3) := by decide +kernel
theorem dX9_reach_84 : decode cX9_reach 84 = .ok (.aload 4, 2) := by decide +kernel
theorem dX9_reach_86 : decode cX9_reach 86 = .ok (.getfield 196, 3) := by decide +kernel
theorem dX9_reach_89 : decode cX9_reach 89 = .ok (.iload_n 2, 1) := by decide +kernel
theorem dX9_reach_90 : decode cX9_reach 90 = .ok (.iaload, 1) := by decide +kernel
theorem dX9_reach_91 : decode cX9_reach 91 = .ok (.goto 10, 3) := by decide +kernel
theorem dX9_reach_60 : decode cX9_reach 60 = .ok (.iconst (-1), 1) := by decide +kernel
theorem dX9_reach_61 : decode cX9_reach 61 = .ok (.ireturn, 1) := by decide +kernel
theorem dX9_reach_39 : decode cX9_reach 39 = .ok (.aload 4, 2) := by decide +kernel
theorem dX9_reach_41 : decode cX9_reach 41 = .ok (.iload_n 2, 1) := by decide +kernel
theorem dX9_reach_42 : decode cX9_reach 42 = .ok (.invokevirtual 182, 3) := by decide +kernel
theorem dX9_reach_45 : decode cX9_reach 45 = .ok (.ifCond .ne 17, 3) := by decide +kernel
theorem dX9_reach_48 : decode cX9_reach 48 = .ok (.goto 12, 3) := by decide +kernel
theorem dX9_reach_32 : decode cX9_reach 32 = .ok (.bipush (-3), 2) := by decide +kernel
theorem dX9_reach_34 : decode cX9_reach 34 = .ok (.ireturn, 1) := by decide +kernel
theorem dX9_around_63 : decode cX9_around 63 = .ok (.iload 4, 2) := by decide +kernel
theorem dX9_around_65 : decode cX9_around 65 = .ok (.sipush 601, 3) := by decide +kernel
theorem dX9_around_68 : decode cX9_around 68 = .ok (.if_icmp .ge 34, 3) := by decide +kernel
theorem dX9_around_102 : decode cX9_around 102 = .ok (.iconst 0, 1) := by decide +kernel
theorem dX9_around_103 : decode cX9_around 103 = .ok (.ireturn, 1) := by decide +kernel
theorem dX9_around_71 : decode cX9_around 71 = .ok (.iload_n 3, 1) := by decide +kernel
theorem dX9_around_72 : decode cX9_around 72 = .ok (.bipush (-9), 2) := by decide +kernel
theorem dX9_around_74 : decode cX9_around 74 = .ok (.if_icmp .eq 28, 3) := by decide +kernel
theorem dX9_around_77 : decode cX9_around 77 = .ok (.iload_n 3, 1) := by decide +kernel
theorem dX9_around_78 : decode cX9_around 78 = .ok (.iload_n 1, 1) := by decide +kernel
theorem dX9_around_79 : decode cX9_around 79 = .ok (.if_icmp .ne 5, 3) := by decide +kernel
theorem dX9_around_84 : decode cX9_around 84 = .ok (.aload_n 0, 1) := by decide +kernel
theorem dX9_around_85 : decode cX9_around 85 = .ok (.getfield 29, 3) := by decide +kernel
theorem dX9_around_88 : decode cX9_around 88 = .ok (.getfield 133, 3) := by decide +kernel
theorem dX9_around_91 : decode cX9_around 91 = .ok (.iload_n 3, 1) := by decide +kernel
theorem dX9_around_92 : decode cX9_around 92 = .ok (.invokevirtual 237, 3) := by decide +kernel
theorem dX9_around_95 : decode cX9_around 95 = .ok (.istore_n 3, 1) := by decide +kernel
theorem dX9_around_96 : decode cX9_around 96 = .ok (.iinc 4 1, 3) := by decide +kernel
theorem dX9_around_99 : decode cX9_around 99 = .ok (.goto (-36), 3) := by decide +kernel
theorem dX9_around_82 : decode cX9_around 82 = .ok (.iconst 1, 1) := by decide +kernel
theorem dX9_around_83 : decode cX9_around 83 = .ok (.ireturn, 1) := by decide +kernel
theorem dX9_around_0 : decode cX9_around 0 = .ok (.aload_n 0, 1) := by decide +kernel
theorem dX9_around_1 : decode cX9_around 1 = .ok (.getfield 53, 3) := by decide +kernel
theorem dX9_around_4 : decode cX9_around 4 = .ok (.iconst 1, 1) := by decide +kernel
theorem dX9_around_5 : decode cX9_around 5 = .ok (.if_icmp .eq 6, 3) := by decide +kernel
theorem dX9_around_11 : decode cX9_around 11 = .ok (.aload_n 0, 1) := by decide +kernel
theorem dX9_around_12 : decode cX9_around 12 = .ok (.getfield 29, 3) := by decide +kernel
theorem dX9_around_15 : decode cX9_around 15 = .ok (.getfield 133, 3) := by decide +kernel
theorem dX9_around_18 : decode cX9_around 18 = .ok (.getfield 137, 3) := by decide +kernel
theorem dX9_around_21 : decode cX9_around 21 = .ok (.iload_n 1, 1) := by decide +kernel
theorem dX9_around_22 : decode cX9_around 22 = .ok (.invokevirtual 182, 3) := by decide +kernel
theorem dX9_around_25 : decode cX9_around 25 = .ok (.ifCond .eq 21, 3) := by decide +kernel
theorem dX9_around_46 : decode cX9_around 46 = .ok (.iconst (-1), 1) := by decide +kernel
theorem dX9_around_47 : decode cX9_around 47 = .ok (.ireturn, 1) := by decide +kernel
theorem dX9_around_28 : decode cX9_around 28 = .ok (.iload_n 2, 1) := by decide +kernel
theorem dX9_around_29 : decode cX9_around 29 = .ok (.ifCond .lt 17, 3) := by decide +kernel
theorem dX9_around_32 : decode cX9_around 32 = .ok (.iload_n 2, 1) := by decide +kernel
theorem dX9_around_33 : decode cX9_around 33 = .ok (.aload_n 0, 1) := by decide +kernel
theorem dX9_around_34 : decode cX9_around 34 = .ok (.getfield 29, 3) := by decide +kernel
theorem dX9_around_37 : decode cX9_around 37 = .ok (.getfield 118, 3) := by decide +kernel
theorem dX9_around_40 : decode cX9_around 40 = .ok (.getfield 122, 3) := by decide +kernel
theorem dX9_around_43 : decode cX9_around 43 = .ok (.if_icmp .lt 5, 3) := by decide +kernel
theorem dX9_around_48 : decode cX9_around 48 = .ok (.aload_n 0, 1) := by decide +kernel
theorem dX9_around_49 : decode cX9_around 49 = .ok (.getfield 29, 3) := by decide +kernel
theorem dX9_around_52 : decode cX9_around 52 = .ok (.getfield 133, 3) := by decide +kernel
theorem dX9_around_55 : decode cX9_around 55 = .ok (.iload_n 2, 1) := by decide +kernel
theorem dX9_around_56 : decode cX9_around 56 = .ok (.invokevirtual 179, 3) := by decide +kernel
theorem dX9_around_59 : decode cX9_around 59 = .ok (.istore_n 3, 1) := by decide +kernel
theorem dX9_around_60 : decode cX9_around 60 = .ok (.iconst 0, 1) := by decide +kernel
theorem dX9_around_61 : decode cX9_around 61 = .ok (.istore 4, 2) := by decide +kernel
theorem dX9_around_8 : decode cX9_around 8 = .ok (.bipush (-3), 2) := by decide +kernel
theorem dX9_around_10 : decode cX9_around 10 = .ok (.ireturn, 1) := by decide +kernel
set_option maxHeartbeats 4000000 in
set_option maxRecDepth 100000 in
theorem g_X9_passesAs (l : Launch) (D : va_G) (tA : Nat → ClassId) (b : Nat) (i F : Nat → Nat → Int32) (G : Nat → Nat → Int64) (x y : Int32)  : xMI l yX9_passesAs cX9_passesAs 2 (some .boolean) 1 20 D tA b 0 78 i F G [.int x, .int y] (fun r u => u = (i, F, G) ∧ (r.toInt = 0 ∨ r.toInt = 1)) := by
  refine xstart RX9 rfl (by decide) (Nat.le_of_ble_eq_true rfl) ?_
  intro p e s m below meth c ls C0 hr hH hS hl
  have hl : lv_has ls 2 [(0, .int x), (1, .int y)] := hl
  have rg_x := fb_rng x
  have rg_y := fb_rng y
  refine lv_iload_n (pc := 0) C0.1 C0.2.1 dX9_passesAs_0 rfl (lv_at hl 1 rfl) ?_
  by_cases t1 : (y : Int32).toInt = 0
  · refine lv_tableIn (pc := 1) (off := 27) (tgt := 28) C0.1 C0.2.1 dX9_passesAs_1 (by omega) (by omega) (by rw [t1]; rfl) (by decide) ?_
    refine lv_iconst (pc := 28) (v := 1) C0.1 C0.2.1 dX9_passesAs_28 (by decide) ?_
    exact xzret (pc := 29) C0 hr hH hS dX9_passesAs_29 (by decide) ⟨rfl, by first | decide | exact stp_01 _⟩
  by_cases t2 : (y : Int32).toInt = 1
  · refine lv_tableIn (pc := 1) (off := 29) (tgt := 30) C0.1 C0.2.1 dX9_passesAs_1 (by omega) (by omega) (by rw [t2]; rfl) (by decide) ?_
    refine lv_iload_n (pc := 30) C0.1 C0.2.1 dX9_passesAs_30 rfl (lv_at hl 0 rfl) ?_
    refine xcSI (pc := 31) [.int x] (c_X9_isStepped l D tA b 0 78 i F G x) C0 hH hS cw_X9_286 rfl ⟨Nat.le_of_ble_eq_true rfl, Nat.le_of_ble_eq_true rfl⟩ hl.1 rfl (Nat.le_of_ble_eq_true rfl) dX9_passesAs_31 ⟨Nat.le_of_ble_eq_true rfl, Nat.le_of_ble_eq_true rfl⟩ (fun r3 ir3 Fr3 Gr3 _ locs hp hH hS => ?_)
    obtain ⟨hu, rfl⟩ := hp
    cases hu
    exact xzret (pc := 34) C0 hr hH hS dX9_passesAs_34 (stp_z _) ⟨rfl, by first | decide | exact stp_01 _⟩
  by_cases t4 : (y : Int32).toInt = 2
  · refine lv_tableIn (pc := 1) (off := 34) (tgt := 35) C0.1 C0.2.1 dX9_passesAs_1 (by omega) (by omega) (by rw [t4]; rfl) (by decide) ?_
    refine lv_iload_n (pc := 35) C0.1 C0.2.1 dX9_passesAs_35 rfl (lv_at hl 0 rfl) ?_
    refine xcSI (pc := 36) [.int x] (c_X9_isStepped l D tA b 0 78 i F G x) C0 hH hS cw_X9_286 rfl ⟨Nat.le_of_ble_eq_true rfl, Nat.le_of_ble_eq_true rfl⟩ hl.1 rfl (Nat.le_of_ble_eq_true rfl) dX9_passesAs_36 ⟨Nat.le_of_ble_eq_true rfl, Nat.le_of_ble_eq_true rfl⟩ (fun r5 ir5 Fr5 Gr5 _ locs hp hH hS => ?_)
    obtain ⟨hu, rfl⟩ := hp
    cases hu
    refine lv_if_eq (pc := 39) (tgt := 51) C0.1 C0.2.1 dX9_passesAs_39 (by decide) (fun c6 => ?_) (fun c6 => ?_)
    · have c6 := stp_0 c6
      refine lv_iconst (pc := 51) (v := 0) C0.1 C0.2.1 dX9_passesAs_51 (by decide) ?_
      exact xzret (pc := 52) C0 hr hH hS dX9_passesAs_52 (by decide) ⟨rfl, by first | decide | exact stp_01 _⟩
    · have c6 := stp_1 c6
      refine lv_iload_n (pc := 42) C0.1 C0.2.1 dX9_passesAs_42 rfl (lv_at hl 0 rfl) ?_
      refine lv_iconst (pc := 43) (v := 1) C0.1 C0.2.1 dX9_passesAs_43 (by decide) ?_
      refine lv_icmp_eq (pc := 44) (tgt := 51) C0.1 C0.2.1 dX9_passesAs_44 (by decide) (fun c7 => ?_) (fun c7 => ?_)
      · have : Int32.toInt 1 = 1 := rfl
        have c7 := congrArg Int32.toInt c7
        refine lv_iconst (pc := 51) (v := 0) C0.1 C0.2.1 dX9_passesAs_51 (by decide) ?_
        exact xzret (pc := 52) C0 hr hH hS dX9_passesAs_52 (by decide) ⟨rfl, by first | decide | exact stp_01 _⟩
      · have : Int32.toInt 1 = 1 := rfl
        have c7 : ¬ _ := fun q => c7 (Int32.toInt_inj.mp q)
        refine lv_iconst (pc := 47) (v := 1) C0.1 C0.2.1 dX9_passesAs_47 (by decide) ?_
        refine lv_goto (pc := 48) (tgt := 52) C0.1 C0.2.1 dX9_passesAs_48 (by decide) ?_
        exact xzret (pc := 52) C0 hr hH hS dX9_passesAs_52 (by decide) ⟨rfl, by first | decide | exact stp_01 _⟩
  refine lv_tableOut (pc := 1) (tgt := 53) C0.1 C0.2.1 dX9_passesAs_1 (by omega) (by decide) ?_
  refine lv_iload_n (pc := 53) C0.1 C0.2.1 dX9_passesAs_53 rfl (lv_at hl 0 rfl) ?_
  refine lv_iload_n (pc := 54) C0.1 C0.2.1 dX9_passesAs_54 rfl (lv_at hl 1 rfl) ?_
  refine lv_icmp_ne (pc := 55) (tgt := 62) C0.1 C0.2.1 dX9_passesAs_55 (by decide) (fun c8 => ?_) (fun c8 => ?_)
  · have c8 : ¬ _ := fun q => c8 (Int32.toInt_inj.mp q)
    refine lv_iconst (pc := 62) (v := 0) C0.1 C0.2.1 dX9_passesAs_62 (by decide) ?_
    exact xzret (pc := 63) C0 hr hH hS dX9_passesAs_63 (by decide) ⟨rfl, by first | decide | exact stp_01 _⟩
  · have c8 := congrArg Int32.toInt c8
    refine lv_iconst (pc := 58) (v := 1) C0.1 C0.2.1 dX9_passesAs_58 (by decide) ?_
    refine lv_goto (pc := 59) (tgt := 63) C0.1 C0.2.1 dX9_passesAs_59 (by decide) ?_
    exact xzret (pc := 63) C0 hr hH hS dX9_passesAs_63 (by decide) ⟨rfl, by first | decide | exact stp_01 _⟩
set_option maxHeartbeats 4000000 in
set_option maxRecDepth 100000 in
theorem g_X9_byteAt (l : Launch) (D : va_G) (tA : Nat → ClassId) (b : Nat) (i F : Nat → Nat → Int32) (G : Nat → Nat → Int64) (x : Int32) (hI : IC i F) : xMI l yX9_byteAt cX9_byteAt 2 (some .int) 1 21 D tA b 0 78 i F G [.ref (b + 0), .int x] (fun r u => u = (i, F, G) ∧ True) := by
  refine xstart RX9 rfl (by decide) (Nat.le_of_ble_eq_true rfl) ?_
  intro p e s m below meth c ls C0 hr hH hS hl
  have hl : lv_has ls 2 [(0, .ref (b + 0)), (1, .int x)] := hl
  have rg_x := fb_rng x
  have hI0 := hI
  obtain ⟨hsz, hbf, hsz6, hbf7, htk, hF, hQ, htk2, hG, hQ2, hPg, hpt, hrw⟩ := hI0
  have hL := Tf17.lin hF
  have hL2 := Tf48.lin hG
  have hBs : i 1 = i 1 ∧ F 3 = F 3 ∧ G = G := ⟨rfl, rfl, rfl⟩
  refine lv_iload_n (pc := 0) C0.1 C0.2.1 dX9_byteAt_0 rfl (lv_at hl 1 rfl) ?_
  refine lv_if_lt (pc := 1) (tgt := 15) C0.1 C0.2.1 dX9_byteAt_1 (by decide) (fun c1 => ?_) (fun c1 => ?_)
  · have : Int32.toInt 0 = 0 := rfl
    have c1 := Int32.lt_iff_toInt_lt.mp c1
    refine lv_bipush (pc := 15) (v := (-12)) C0.1 C0.2.1 dX9_byteAt_15 (by decide) ?_
    refine lv_goto (pc := 17) (tgt := 28) C0.1 C0.2.1 dX9_byteAt_17 (by decide) ?_
    exact xiret (pc := 28) C0 hr hH hS dX9_byteAt_28 ⟨rfl, trivial⟩
  · have : Int32.toInt 0 = 0 := rfl
    have c1 : ¬ _ := fun q => c1 (Int32.lt_iff_toInt_lt.mpr q)
    refine lv_iload_n (pc := 4) C0.1 C0.2.1 dX9_byteAt_4 rfl (lv_at hl 1 rfl) ?_
    refine lv_aload_n (pc := 5) C0.1 C0.2.1 dX9_byteAt_5 rfl (lv_at hl 0 rfl) ?_
    refine xget (pc := 6) C0 hH 0 1 clX9 ⟨Nat.le_of_ble_eq_true rfl, Nat.le_of_ble_eq_true rfl⟩ ⟨rfl, rfl⟩ (Nat.le_of_ble_eq_true rfl) fl_X9_19 (v := .ref (b + 4)) rfl dX9_byteAt_6 ?_
    refine xget (pc := 9) C0 hH 4 1 clX6 ⟨Nat.le_of_ble_eq_true rfl, Nat.le_of_ble_eq_true rfl⟩ ⟨rfl, rfl⟩ (Nat.le_of_ble_eq_true rfl) fl_X9_102 (v := .int (i 4 1)) rfl dX9_byteAt_9 ?_
    refine lv_icmp_lt (pc := 12) (tgt := 20) C0.1 C0.2.1 dX9_byteAt_12 (by decide) (fun c2 => ?_) (fun c2 => ?_)
    · have c2 := Int32.lt_iff_toInt_lt.mp c2
      refine lv_aload_n (pc := 20) C0.1 C0.2.1 dX9_byteAt_20 rfl (lv_at hl 0 rfl) ?_
      refine xget (pc := 21) C0 hH 0 1 clX9 ⟨Nat.le_of_ble_eq_true rfl, Nat.le_of_ble_eq_true rfl⟩ ⟨rfl, rfl⟩ (Nat.le_of_ble_eq_true rfl) fl_X9_19 (v := .ref (b + 4)) rfl dX9_byteAt_21 ?_
      refine lv_iload_n (pc := 24) C0.1 C0.2.1 dX9_byteAt_24 rfl (lv_at hl 1 rfl) ?_
      refine xcVI (pc := 25) 4 [.int x] (g_X6_at_4 l D tA b i F G x (show 0 ≤ Int32.toInt (i 4 1) ∧ Int32.toInt (i 4 1) ≤ 600 from by omega)) C0 hH hS clX6 rfl ⟨⟨Nat.le_of_ble_eq_true rfl, Nat.le_of_ble_eq_true rfl⟩, rfl, rfl⟩ cw_X9_105 rfl ⟨Nat.le_of_ble_eq_true rfl, Nat.le_of_ble_eq_true rfl⟩ hl.1 rfl (Nat.le_of_ble_eq_true rfl) dX9_byteAt_25 ⟨Nat.le_of_ble_eq_true rfl, Nat.le_of_ble_eq_true rfl⟩ (fun r3 ir3 Fr3 Gr3 _ locs hp hH hS => ?_)
      obtain ⟨hu, hpr3⟩ := hp
      cases hu
      exact xiret (pc := 28) C0 hr hH hS dX9_byteAt_28 ⟨rfl, trivial⟩
    · have c2 : ¬ _ := fun q => c2 (Int32.lt_iff_toInt_lt.mpr q)
      refine lv_bipush (pc := 15) (v := (-12)) C0.1 C0.2.1 dX9_byteAt_15 (by decide) ?_
      refine lv_goto (pc := 17) (tgt := 28) C0.1 C0.2.1 dX9_byteAt_17 (by decide) ?_
      exact xiret (pc := 28) C0 hr hH hS dX9_byteAt_28 ⟨rfl, trivial⟩
set_option maxHeartbeats 4000000 in
set_option maxRecDepth 100000 in
theorem g_X9_fault (l : Launch) (D : va_G) (tA : Nat → ClassId) (b : Nat) (i F : Nat → Nat → Int32) (G : Nat → Nat → Int64) (x : Int32) (hI : IC i F) : xMI l yX9_fault cX9_fault 2 (some .int) 0 0 D tA b 0 78 i F G [.ref (b + 0), .int x] (fun r u => u = (i, F, G) ∧ True) := by
  refine xstart RX9 rfl (by decide) (Nat.le_of_ble_eq_true rfl) ?_
  intro p e s m below meth c ls C0 hr hH hS hl
  have hl : lv_has ls 2 [(0, .ref (b + 0)), (1, .int x)] := hl
  have rg_x := fb_rng x
  have hI0 := hI
  obtain ⟨hsz, hbf, hsz6, hbf7, htk, hF, hQ, htk2, hG, hQ2, hPg, hpt, hrw⟩ := hI0
  have hL := Tf17.lin hF
  have hL2 := Tf48.lin hG
  have hBs : i 1 = i 1 ∧ F 3 = F 3 ∧ G = G := ⟨rfl, rfl, rfl⟩
  refine lv_iload_n (pc := 0) C0.1 C0.2.1 dX9_fault_0 rfl (lv_at hl 1 rfl) ?_
  by_cases t1 : (x : Int32).toInt = 0
  · refine lv_tableIn (pc := 1) (off := 31) (tgt := 32) C0.1 C0.2.1 dX9_fault_1 (by omega) (by omega) (by rw [t1]; rfl) (by decide) ?_
    refine lv_aload_n (pc := 32) C0.1 C0.2.1 dX9_fault_32 rfl (lv_at hl 0 rfl) ?_
    refine xget (pc := 33) C0 hH 0 3 clX9 ⟨Nat.le_of_ble_eq_true rfl, Nat.le_of_ble_eq_true rfl⟩ ⟨rfl, rfl⟩ (Nat.le_of_ble_eq_true rfl) fl_X9_29 (v := .ref (b + 8)) rfl dX9_fault_33 ?_
    refine xget (pc := 36) C0 hH 8 2 clX4 ⟨Nat.le_of_ble_eq_true rfl, Nat.le_of_ble_eq_true rfl⟩ ⟨rfl, rfl⟩ (Nat.le_of_ble_eq_true rfl) fl_X9_112 (v := .int (i 8 2)) rfl dX9_fault_36 ?_
    exact xiret (pc := 39) C0 hr hH hS dX9_fault_39 ⟨rfl, trivial⟩
  by_cases t2 : (x : Int32).toInt = 1
  · refine lv_tableIn (pc := 1) (off := 39) (tgt := 40) C0.1 C0.2.1 dX9_fault_1 (by omega) (by omega) (by rw [t2]; rfl) (by decide) ?_
    refine lv_aload_n (pc := 40) C0.1 C0.2.1 dX9_fault_40 rfl (lv_at hl 0 rfl) ?_
    refine xget (pc := 41) C0 hH 0 3 clX9 ⟨Nat.le_of_ble_eq_true rfl, Nat.le_of_ble_eq_true rfl⟩ ⟨rfl, rfl⟩ (Nat.le_of_ble_eq_true rfl) fl_X9_29 (v := .ref (b + 8)) rfl dX9_fault_41 ?_
    refine xget (pc := 44) C0 hH 8 3 clX4 ⟨Nat.le_of_ble_eq_true rfl, Nat.le_of_ble_eq_true rfl⟩ ⟨rfl, rfl⟩ (Nat.le_of_ble_eq_true rfl) fl_X9_115 (v := .int (i 8 3)) rfl dX9_fault_44 ?_
    exact xiret (pc := 47) C0 hr hH hS dX9_fault_47 ⟨rfl, trivial⟩
  by_cases t3 : (x : Int32).toInt = 2
  · refine lv_tableIn (pc := 1) (off := 47) (tgt := 48) C0.1 C0.2.1 dX9_fault_1 (by omega) (by omega) (by rw [t3]; rfl) (by decide) ?_
    refine lv_aload_n (pc := 48) C0.1 C0.2.1 dX9_fault_48 rfl (lv_at hl 0 rfl) ?_
    refine xget (pc := 49) C0 hH 0 3 clX9 ⟨Nat.le_of_ble_eq_true rfl, Nat.le_of_ble_eq_true rfl⟩ ⟨rfl, rfl⟩ (Nat.le_of_ble_eq_true rfl) fl_X9_29 (v := .ref (b + 8)) rfl dX9_fault_49 ?_
    refine xget (pc := 52) C0 hH 8 4 clX4 ⟨Nat.le_of_ble_eq_true rfl, Nat.le_of_ble_eq_true rfl⟩ ⟨rfl, rfl⟩ (Nat.le_of_ble_eq_true rfl) fl_X9_127 (v := .int (i 8 4)) rfl dX9_fault_52 ?_
    exact xiret (pc := 55) C0 hr hH hS dX9_fault_55 ⟨rfl, trivial⟩
  by_cases t4 : (x : Int32).toInt = 3
  · refine lv_tableIn (pc := 1) (off := 55) (tgt := 56) C0.1 C0.2.1 dX9_fault_1 (by omega) (by omega) (by rw [t4]; rfl) (by decide) ?_
    refine lv_aload_n (pc := 56) C0.1 C0.2.1 dX9_fault_56 rfl (lv_at hl 0 rfl) ?_
    refine xget (pc := 57) C0 hH 0 3 clX9 ⟨Nat.le_of_ble_eq_true rfl, Nat.le_of_ble_eq_true rfl⟩ ⟨rfl, rfl⟩ (Nat.le_of_ble_eq_true rfl) fl_X9_29 (v := .ref (b + 8)) rfl dX9_fault_57 ?_
    refine xget (pc := 60) C0 hH 8 5 clX4 ⟨Nat.le_of_ble_eq_true rfl, Nat.le_of_ble_eq_true rfl⟩ ⟨rfl, rfl⟩ (Nat.le_of_ble_eq_true rfl) fl_X9_130 (v := .int (i 8 5)) rfl dX9_fault_60 ?_
    exact xiret (pc := 63) C0 hr hH hS dX9_fault_63 ⟨rfl, trivial⟩
  refine lv_tableOut (pc := 1) (tgt := 64) C0.1 C0.2.1 dX9_fault_1 (by omega) (by decide) ?_
  refine lv_bipush (pc := 64) (v := (-2)) C0.1 C0.2.1 dX9_fault_64 (by decide) ?_
  exact xiret (pc := 66) C0 hr hH hS dX9_fault_66 ⟨rfl, trivial⟩
set_option maxHeartbeats 4000000 in
set_option maxRecDepth 100000 in
theorem g_X9_count (l : Launch) (D : va_G) (tA : Nat → ClassId) (b : Nat) (i F : Nat → Nat → Int32) (G : Nat → Nat → Int64) (x : Int32) (hI : IC i F) : xMI l yX9_count cX9_count 2 (some .int) 3 64 D tA b 0 78 i F G [.ref (b + 0), .int x] (fun r u => u = (i, F, G) ∧ True) := by
  refine xstart RX9 rfl (by decide) (Nat.le_of_ble_eq_true rfl) ?_
  intro p e s m below meth c ls C0 hr hH hS hl
  have hl : lv_has ls 2 [(0, .ref (b + 0)), (1, .int x)] := hl
  have rg_x := fb_rng x
  have hI0 := hI
  obtain ⟨hsz, hbf, hsz6, hbf7, htk, hF, hQ, htk2, hG, hQ2, hPg, hpt, hrw⟩ := hI0
  have hL := Tf17.lin hF
  have hL2 := Tf48.lin hG
  have hBs : i 1 = i 1 ∧ F 3 = F 3 ∧ G = G := ⟨rfl, rfl, rfl⟩
  refine lv_iload_n (pc := 0) C0.1 C0.2.1 dX9_count_0 rfl (lv_at hl 1 rfl) ?_
  refine lv_if_lt (pc := 1) (tgt := 20) C0.1 C0.2.1 dX9_count_1 (by decide) (fun c1 => ?_) (fun c1 => ?_)
  · have : Int32.toInt 0 = 0 := rfl
    have c1 := Int32.lt_iff_toInt_lt.mp c1
    refine lv_iload_n (pc := 20) C0.1 C0.2.1 dX9_count_20 rfl (lv_at hl 1 rfl) ?_
    by_cases t2 : (x : Int32).toInt = 0
    · refine lv_tableIn (pc := 21) (off := 35) (tgt := 56) C0.1 C0.2.1 dX9_count_21 (by omega) (by omega) (by rw [t2]; rfl) (by decide) ?_
      refine lv_aload_n (pc := 56) C0.1 C0.2.1 dX9_count_56 rfl (lv_at hl 0 rfl) ?_
      refine xget (pc := 57) C0 hH 0 3 clX9 ⟨Nat.le_of_ble_eq_true rfl, Nat.le_of_ble_eq_true rfl⟩ ⟨rfl, rfl⟩ (Nat.le_of_ble_eq_true rfl) fl_X9_29 (v := .ref (b + 8)) rfl dX9_count_57 ?_
      refine xget (pc := 60) C0 hH 8 0 clX4 ⟨Nat.le_of_ble_eq_true rfl, Nat.le_of_ble_eq_true rfl⟩ ⟨rfl, rfl⟩ (Nat.le_of_ble_eq_true rfl) fl_X9_118 (v := .ref (b + 9)) rfl dX9_count_60 ?_
      refine xget (pc := 63) C0 hH 9 7 clX7 ⟨Nat.le_of_ble_eq_true rfl, Nat.le_of_ble_eq_true rfl⟩ ⟨rfl, rfl⟩ (Nat.le_of_ble_eq_true rfl) fl_X9_122 (v := .int (i 9 7)) rfl dX9_count_63 ?_
      exact xiret (pc := 66) C0 hr hH hS dX9_count_66 ⟨rfl, trivial⟩
    by_cases t3 : (x : Int32).toInt = 1
    · refine lv_tableIn (pc := 21) (off := 46) (tgt := 67) C0.1 C0.2.1 dX9_count_21 (by omega) (by omega) (by rw [t3]; rfl) (by decide) ?_
      refine lv_aload_n (pc := 67) C0.1 C0.2.1 dX9_count_67 rfl (lv_at hl 0 rfl) ?_
      refine xget (pc := 68) C0 hH 0 3 clX9 ⟨Nat.le_of_ble_eq_true rfl, Nat.le_of_ble_eq_true rfl⟩ ⟨rfl, rfl⟩ (Nat.le_of_ble_eq_true rfl) fl_X9_29 (v := .ref (b + 8)) rfl dX9_count_68 ?_
      refine xget (pc := 71) C0 hH 8 1 clX4 ⟨Nat.le_of_ble_eq_true rfl, Nat.le_of_ble_eq_true rfl⟩ ⟨rfl, rfl⟩ (Nat.le_of_ble_eq_true rfl) fl_X9_133 (v := .ref (b + 17)) rfl dX9_count_71 ?_
      refine xget (pc := 74) C0 hH 17 0 clX8 ⟨Nat.le_of_ble_eq_true rfl, Nat.le_of_ble_eq_true rfl⟩ ⟨rfl, rfl⟩ (Nat.le_of_ble_eq_true rfl) fl_X9_137 (v := .ref (b + 18)) rfl dX9_count_74 ?_
      refine xget (pc := 77) C0 hH 18 9 clX0 ⟨Nat.le_of_ble_eq_true rfl, Nat.le_of_ble_eq_true rfl⟩ ⟨rfl, rfl⟩ (Nat.le_of_ble_eq_true rfl) fl_X9_143 (v := .int (i 18 9)) rfl dX9_count_77 ?_
      exact xiret (pc := 80) C0 hr hH hS dX9_count_80 ⟨rfl, trivial⟩
    by_cases t4 : (x : Int32).toInt = 2
    · refine lv_tableIn (pc := 21) (off := 60) (tgt := 81) C0.1 C0.2.1 dX9_count_21 (by omega) (by omega) (by rw [t4]; rfl) (by decide) ?_
      refine lv_aload_n (pc := 81) C0.1 C0.2.1 dX9_count_81 rfl (lv_at hl 0 rfl) ?_
      refine xget (pc := 82) C0 hH 0 3 clX9 ⟨Nat.le_of_ble_eq_true rfl, Nat.le_of_ble_eq_true rfl⟩ ⟨rfl, rfl⟩ (Nat.le_of_ble_eq_true rfl) fl_X9_29 (v := .ref (b + 8)) rfl dX9_count_82 ?_
      refine xget (pc := 85) C0 hH 8 1 clX4 ⟨Nat.le_of_ble_eq_true rfl, Nat.le_of_ble_eq_true rfl⟩ ⟨rfl, rfl⟩ (Nat.le_of_ble_eq_true rfl) fl_X9_133 (v := .ref (b + 17)) rfl dX9_count_85 ?_
      refine xget (pc := 88) C0 hH 17 1 clX8 ⟨Nat.le_of_ble_eq_true rfl, Nat.le_of_ble_eq_true rfl⟩ ⟨rfl, rfl⟩ (Nat.le_of_ble_eq_true rfl) fl_X9_146 (v := .ref (b + 28)) rfl dX9_count_88 ?_
      refine xget (pc := 91) C0 hH 28 5 clX2 ⟨Nat.le_of_ble_eq_true rfl, Nat.le_of_ble_eq_true rfl⟩ ⟨rfl, rfl⟩ (Nat.le_of_ble_eq_true rfl) fl_X9_150 (v := .int (i 28 5)) rfl dX9_count_91 ?_
      exact xiret (pc := 94) C0 hr hH hS dX9_count_94 ⟨rfl, trivial⟩
    by_cases t5 : (x : Int32).toInt = 3
    · refine lv_tableIn (pc := 21) (off := 74) (tgt := 95) C0.1 C0.2.1 dX9_count_21 (by omega) (by omega) (by rw [t5]; rfl) (by decide) ?_
      refine lv_aload_n (pc := 95) C0.1 C0.2.1 dX9_count_95 rfl (lv_at hl 0 rfl) ?_
      refine xget (pc := 96) C0 hH 0 1 clX9 ⟨Nat.le_of_ble_eq_true rfl, Nat.le_of_ble_eq_true rfl⟩ ⟨rfl, rfl⟩ (Nat.le_of_ble_eq_true rfl) fl_X9_19 (v := .ref (b + 4)) rfl dX9_count_96 ?_
      refine xcVI (pc := 99) 4 [] (g_X6_lineCount_4 l D tA b i F G  (show 0 ≤ Int32.toInt (i 4 1) ∧ Int32.toInt (i 4 1) ≤ 600 from by omega)) C0 hH hS clX6 rfl ⟨⟨Nat.le_of_ble_eq_true rfl, Nat.le_of_ble_eq_true rfl⟩, rfl, rfl⟩ cw_X9_153 rfl ⟨Nat.le_of_ble_eq_true rfl, Nat.le_of_ble_eq_true rfl⟩ hl.1 rfl (Nat.le_of_ble_eq_true rfl) dX9_count_99 ⟨Nat.le_of_ble_eq_true rfl, Nat.le_of_ble_eq_true rfl⟩ (fun r6 ir6 Fr6 Gr6 _ locs hp hH hS => ?_)
      obtain ⟨hu, hpr6⟩ := hp
      cases hu
      exact xiret (pc := 102) C0 hr hH hS dX9_count_102 ⟨rfl, trivial⟩
    by_cases t7 : (x : Int32).toInt = 4
    · refine lv_tableIn (pc := 21) (off := 82) (tgt := 103) C0.1 C0.2.1 dX9_count_21 (by omega) (by omega) (by rw [t7]; rfl) (by decide) ?_
      refine lv_aload_n (pc := 103) C0.1 C0.2.1 dX9_count_103 rfl (lv_at hl 0 rfl) ?_
      refine xget (pc := 104) C0 hH 0 1 clX9 ⟨Nat.le_of_ble_eq_true rfl, Nat.le_of_ble_eq_true rfl⟩ ⟨rfl, rfl⟩ (Nat.le_of_ble_eq_true rfl) fl_X9_19 (v := .ref (b + 4)) rfl dX9_count_104 ?_
      refine xget (pc := 107) C0 hH 4 1 clX6 ⟨Nat.le_of_ble_eq_true rfl, Nat.le_of_ble_eq_true rfl⟩ ⟨rfl, rfl⟩ (Nat.le_of_ble_eq_true rfl) fl_X9_102 (v := .int (i 4 1)) rfl dX9_count_107 ?_
      exact xiret (pc := 110) C0 hr hH hS dX9_count_110 ⟨rfl, trivial⟩
    refine lv_tableOut (pc := 21) (tgt := 111) C0.1 C0.2.1 dX9_count_21 (by omega) (by decide) ?_
    refine lv_bipush (pc := 111) (v := (-2)) C0.1 C0.2.1 dX9_count_111 (by decide) ?_
    exact xiret (pc := 113) C0 hr hH hS dX9_count_113 ⟨rfl, trivial⟩
  · have : Int32.toInt 0 = 0 := rfl
    have c1 : ¬ _ := fun q => c1 (Int32.lt_iff_toInt_lt.mpr q)
    refine lv_iload_n (pc := 4) C0.1 C0.2.1 dX9_count_4 rfl (lv_at hl 1 rfl) ?_
    refine lv_iconst (pc := 5) (v := 2) C0.1 C0.2.1 dX9_count_5 (by decide) ?_
    refine lv_icmp_gt (pc := 6) (tgt := 20) C0.1 C0.2.1 dX9_count_6 (by decide) (fun c8 => ?_) (fun c8 => ?_)
    · have : Int32.toInt 2 = 2 := rfl
      have c8 := Int32.lt_iff_toInt_lt.mp c8
      refine lv_iload_n (pc := 20) C0.1 C0.2.1 dX9_count_20 rfl (lv_at hl 1 rfl) ?_
      by_cases t9 : (x : Int32).toInt = 0
      · refine lv_tableIn (pc := 21) (off := 35) (tgt := 56) C0.1 C0.2.1 dX9_count_21 (by omega) (by omega) (by rw [t9]; rfl) (by decide) ?_
        refine lv_aload_n (pc := 56) C0.1 C0.2.1 dX9_count_56 rfl (lv_at hl 0 rfl) ?_
        refine xget (pc := 57) C0 hH 0 3 clX9 ⟨Nat.le_of_ble_eq_true rfl, Nat.le_of_ble_eq_true rfl⟩ ⟨rfl, rfl⟩ (Nat.le_of_ble_eq_true rfl) fl_X9_29 (v := .ref (b + 8)) rfl dX9_count_57 ?_
        refine xget (pc := 60) C0 hH 8 0 clX4 ⟨Nat.le_of_ble_eq_true rfl, Nat.le_of_ble_eq_true rfl⟩ ⟨rfl, rfl⟩ (Nat.le_of_ble_eq_true rfl) fl_X9_118 (v := .ref (b + 9)) rfl dX9_count_60 ?_
        refine xget (pc := 63) C0 hH 9 7 clX7 ⟨Nat.le_of_ble_eq_true rfl, Nat.le_of_ble_eq_true rfl⟩ ⟨rfl, rfl⟩ (Nat.le_of_ble_eq_true rfl) fl_X9_122 (v := .int (i 9 7)) rfl dX9_count_63 ?_
        exact xiret (pc := 66) C0 hr hH hS dX9_count_66 ⟨rfl, trivial⟩
      by_cases t10 : (x : Int32).toInt = 1
      · refine lv_tableIn (pc := 21) (off := 46) (tgt := 67) C0.1 C0.2.1 dX9_count_21 (by omega) (by omega) (by rw [t10]; rfl) (by decide) ?_
        refine lv_aload_n (pc := 67) C0.1 C0.2.1 dX9_count_67 rfl (lv_at hl 0 rfl) ?_
        refine xget (pc := 68) C0 hH 0 3 clX9 ⟨Nat.le_of_ble_eq_true rfl, Nat.le_of_ble_eq_true rfl⟩ ⟨rfl, rfl⟩ (Nat.le_of_ble_eq_true rfl) fl_X9_29 (v := .ref (b + 8)) rfl dX9_count_68 ?_
        refine xget (pc := 71) C0 hH 8 1 clX4 ⟨Nat.le_of_ble_eq_true rfl, Nat.le_of_ble_eq_true rfl⟩ ⟨rfl, rfl⟩ (Nat.le_of_ble_eq_true rfl) fl_X9_133 (v := .ref (b + 17)) rfl dX9_count_71 ?_
        refine xget (pc := 74) C0 hH 17 0 clX8 ⟨Nat.le_of_ble_eq_true rfl, Nat.le_of_ble_eq_true rfl⟩ ⟨rfl, rfl⟩ (Nat.le_of_ble_eq_true rfl) fl_X9_137 (v := .ref (b + 18)) rfl dX9_count_74 ?_
        refine xget (pc := 77) C0 hH 18 9 clX0 ⟨Nat.le_of_ble_eq_true rfl, Nat.le_of_ble_eq_true rfl⟩ ⟨rfl, rfl⟩ (Nat.le_of_ble_eq_true rfl) fl_X9_143 (v := .int (i 18 9)) rfl dX9_count_77 ?_
        exact xiret (pc := 80) C0 hr hH hS dX9_count_80 ⟨rfl, trivial⟩
      by_cases t11 : (x : Int32).toInt = 2
      · refine lv_tableIn (pc := 21) (off := 60) (tgt := 81) C0.1 C0.2.1 dX9_count_21 (by omega) (by omega) (by rw [t11]; rfl) (by decide) ?_
        refine lv_aload_n (pc := 81) C0.1 C0.2.1 dX9_count_81 rfl (lv_at hl 0 rfl) ?_
        refine xget (pc := 82) C0 hH 0 3 clX9 ⟨Nat.le_of_ble_eq_true rfl, Nat.le_of_ble_eq_true rfl⟩ ⟨rfl, rfl⟩ (Nat.le_of_ble_eq_true rfl) fl_X9_29 (v := .ref (b + 8)) rfl dX9_count_82 ?_
        refine xget (pc := 85) C0 hH 8 1 clX4 ⟨Nat.le_of_ble_eq_true rfl, Nat.le_of_ble_eq_true rfl⟩ ⟨rfl, rfl⟩ (Nat.le_of_ble_eq_true rfl) fl_X9_133 (v := .ref (b + 17)) rfl dX9_count_85 ?_
        refine xget (pc := 88) C0 hH 17 1 clX8 ⟨Nat.le_of_ble_eq_true rfl, Nat.le_of_ble_eq_true rfl⟩ ⟨rfl, rfl⟩ (Nat.le_of_ble_eq_true rfl) fl_X9_146 (v := .ref (b + 28)) rfl dX9_count_88 ?_
        refine xget (pc := 91) C0 hH 28 5 clX2 ⟨Nat.le_of_ble_eq_true rfl, Nat.le_of_ble_eq_true rfl⟩ ⟨rfl, rfl⟩ (Nat.le_of_ble_eq_true rfl) fl_X9_150 (v := .int (i 28 5)) rfl dX9_count_91 ?_
        exact xiret (pc := 94) C0 hr hH hS dX9_count_94 ⟨rfl, trivial⟩
      by_cases t12 : (x : Int32).toInt = 3
      · refine lv_tableIn (pc := 21) (off := 74) (tgt := 95) C0.1 C0.2.1 dX9_count_21 (by omega) (by omega) (by rw [t12]; rfl) (by decide) ?_
        refine lv_aload_n (pc := 95) C0.1 C0.2.1 dX9_count_95 rfl (lv_at hl 0 rfl) ?_
        refine xget (pc := 96) C0 hH 0 1 clX9 ⟨Nat.le_of_ble_eq_true rfl, Nat.le_of_ble_eq_true rfl⟩ ⟨rfl, rfl⟩ (Nat.le_of_ble_eq_true rfl) fl_X9_19 (v := .ref (b + 4)) rfl dX9_count_96 ?_
        refine xcVI (pc := 99) 4 [] (g_X6_lineCount_4 l D tA b i F G  (show 0 ≤ Int32.toInt (i 4 1) ∧ Int32.toInt (i 4 1) ≤ 600 from by omega)) C0 hH hS clX6 rfl ⟨⟨Nat.le_of_ble_eq_true rfl, Nat.le_of_ble_eq_true rfl⟩, rfl, rfl⟩ cw_X9_153 rfl ⟨Nat.le_of_ble_eq_true rfl, Nat.le_of_ble_eq_true rfl⟩ hl.1 rfl (Nat.le_of_ble_eq_true rfl) dX9_count_99 ⟨Nat.le_of_ble_eq_true rfl, Nat.le_of_ble_eq_true rfl⟩ (fun r13 ir13 Fr13 Gr13 _ locs hp hH hS => ?_)
        obtain ⟨hu, hpr13⟩ := hp
        cases hu
        exact xiret (pc := 102) C0 hr hH hS dX9_count_102 ⟨rfl, trivial⟩
      by_cases t14 : (x : Int32).toInt = 4
      · refine lv_tableIn (pc := 21) (off := 82) (tgt := 103) C0.1 C0.2.1 dX9_count_21 (by omega) (by omega) (by rw [t14]; rfl) (by decide) ?_
        refine lv_aload_n (pc := 103) C0.1 C0.2.1 dX9_count_103 rfl (lv_at hl 0 rfl) ?_
        refine xget (pc := 104) C0 hH 0 1 clX9 ⟨Nat.le_of_ble_eq_true rfl, Nat.le_of_ble_eq_true rfl⟩ ⟨rfl, rfl⟩ (Nat.le_of_ble_eq_true rfl) fl_X9_19 (v := .ref (b + 4)) rfl dX9_count_104 ?_
        refine xget (pc := 107) C0 hH 4 1 clX6 ⟨Nat.le_of_ble_eq_true rfl, Nat.le_of_ble_eq_true rfl⟩ ⟨rfl, rfl⟩ (Nat.le_of_ble_eq_true rfl) fl_X9_102 (v := .int (i 4 1)) rfl dX9_count_107 ?_
        exact xiret (pc := 110) C0 hr hH hS dX9_count_110 ⟨rfl, trivial⟩
      refine lv_tableOut (pc := 21) (tgt := 111) C0.1 C0.2.1 dX9_count_21 (by omega) (by decide) ?_
      refine lv_bipush (pc := 111) (v := (-2)) C0.1 C0.2.1 dX9_count_111 (by decide) ?_
      exact xiret (pc := 113) C0 hr hH hS dX9_count_113 ⟨rfl, trivial⟩
    · have : Int32.toInt 2 = 2 := rfl
      have c8 : ¬ _ := fun q => c8 (Int32.lt_iff_toInt_lt.mpr q)
      refine lv_aload_n (pc := 9) C0.1 C0.2.1 dX9_count_9 rfl (lv_at hl 0 rfl) ?_
      refine xget (pc := 10) C0 hH 0 8 clX9 ⟨Nat.le_of_ble_eq_true rfl, Nat.le_of_ble_eq_true rfl⟩ ⟨rfl, rfl⟩ (Nat.le_of_ble_eq_true rfl) fl_X9_53 (v := .int (i 0 8)) rfl dX9_count_10 ?_
      refine lv_iconst (pc := 13) (v := 1) C0.1 C0.2.1 dX9_count_13 (by decide) ?_
      refine lv_icmp_eq (pc := 14) (tgt := 20) C0.1 C0.2.1 dX9_count_14 (by decide) (fun c15 => ?_) (fun c15 => ?_)
      · have : Int32.toInt 1 = 1 := rfl
        have c15 := congrArg Int32.toInt c15
        refine lv_iload_n (pc := 20) C0.1 C0.2.1 dX9_count_20 rfl (lv_at hl 1 rfl) ?_
        by_cases t16 : (x : Int32).toInt = 0
        · refine lv_tableIn (pc := 21) (off := 35) (tgt := 56) C0.1 C0.2.1 dX9_count_21 (by omega) (by omega) (by rw [t16]; rfl) (by decide) ?_
          refine lv_aload_n (pc := 56) C0.1 C0.2.1 dX9_count_56 rfl (lv_at hl 0 rfl) ?_
          refine xget (pc := 57) C0 hH 0 3 clX9 ⟨Nat.le_of_ble_eq_true rfl, Nat.le_of_ble_eq_true rfl⟩ ⟨rfl, rfl⟩ (Nat.le_of_ble_eq_true rfl) fl_X9_29 (v := .ref (b + 8)) rfl dX9_count_57 ?_
          refine xget (pc := 60) C0 hH 8 0 clX4 ⟨Nat.le_of_ble_eq_true rfl, Nat.le_of_ble_eq_true rfl⟩ ⟨rfl, rfl⟩ (Nat.le_of_ble_eq_true rfl) fl_X9_118 (v := .ref (b + 9)) rfl dX9_count_60 ?_
          refine xget (pc := 63) C0 hH 9 7 clX7 ⟨Nat.le_of_ble_eq_true rfl, Nat.le_of_ble_eq_true rfl⟩ ⟨rfl, rfl⟩ (Nat.le_of_ble_eq_true rfl) fl_X9_122 (v := .int (i 9 7)) rfl dX9_count_63 ?_
          exact xiret (pc := 66) C0 hr hH hS dX9_count_66 ⟨rfl, trivial⟩
        by_cases t17 : (x : Int32).toInt = 1
        · refine lv_tableIn (pc := 21) (off := 46) (tgt := 67) C0.1 C0.2.1 dX9_count_21 (by omega) (by omega) (by rw [t17]; rfl) (by decide) ?_
          refine lv_aload_n (pc := 67) C0.1 C0.2.1 dX9_count_67 rfl (lv_at hl 0 rfl) ?_
          refine xget (pc := 68) C0 hH 0 3 clX9 ⟨Nat.le_of_ble_eq_true rfl, Nat.le_of_ble_eq_true rfl⟩ ⟨rfl, rfl⟩ (Nat.le_of_ble_eq_true rfl) fl_X9_29 (v := .ref (b + 8)) rfl dX9_count_68 ?_
          refine xget (pc := 71) C0 hH 8 1 clX4 ⟨Nat.le_of_ble_eq_true rfl, Nat.le_of_ble_eq_true rfl⟩ ⟨rfl, rfl⟩ (Nat.le_of_ble_eq_true rfl) fl_X9_133 (v := .ref (b + 17)) rfl dX9_count_71 ?_
          refine xget (pc := 74) C0 hH 17 0 clX8 ⟨Nat.le_of_ble_eq_true rfl, Nat.le_of_ble_eq_true rfl⟩ ⟨rfl, rfl⟩ (Nat.le_of_ble_eq_true rfl) fl_X9_137 (v := .ref (b + 18)) rfl dX9_count_74 ?_
          refine xget (pc := 77) C0 hH 18 9 clX0 ⟨Nat.le_of_ble_eq_true rfl, Nat.le_of_ble_eq_true rfl⟩ ⟨rfl, rfl⟩ (Nat.le_of_ble_eq_true rfl) fl_X9_143 (v := .int (i 18 9)) rfl dX9_count_77 ?_
          exact xiret (pc := 80) C0 hr hH hS dX9_count_80 ⟨rfl, trivial⟩
        by_cases t18 : (x : Int32).toInt = 2
        · refine lv_tableIn (pc := 21) (off := 60) (tgt := 81) C0.1 C0.2.1 dX9_count_21 (by omega) (by omega) (by rw [t18]; rfl) (by decide) ?_
          refine lv_aload_n (pc := 81) C0.1 C0.2.1 dX9_count_81 rfl (lv_at hl 0 rfl) ?_
          refine xget (pc := 82) C0 hH 0 3 clX9 ⟨Nat.le_of_ble_eq_true rfl, Nat.le_of_ble_eq_true rfl⟩ ⟨rfl, rfl⟩ (Nat.le_of_ble_eq_true rfl) fl_X9_29 (v := .ref (b + 8)) rfl dX9_count_82 ?_
          refine xget (pc := 85) C0 hH 8 1 clX4 ⟨Nat.le_of_ble_eq_true rfl, Nat.le_of_ble_eq_true rfl⟩ ⟨rfl, rfl⟩ (Nat.le_of_ble_eq_true rfl) fl_X9_133 (v := .ref (b + 17)) rfl dX9_count_85 ?_
          refine xget (pc := 88) C0 hH 17 1 clX8 ⟨Nat.le_of_ble_eq_true rfl, Nat.le_of_ble_eq_true rfl⟩ ⟨rfl, rfl⟩ (Nat.le_of_ble_eq_true rfl) fl_X9_146 (v := .ref (b + 28)) rfl dX9_count_88 ?_
          refine xget (pc := 91) C0 hH 28 5 clX2 ⟨Nat.le_of_ble_eq_true rfl, Nat.le_of_ble_eq_true rfl⟩ ⟨rfl, rfl⟩ (Nat.le_of_ble_eq_true rfl) fl_X9_150 (v := .int (i 28 5)) rfl dX9_count_91 ?_
          exact xiret (pc := 94) C0 hr hH hS dX9_count_94 ⟨rfl, trivial⟩
        by_cases t19 : (x : Int32).toInt = 3
        · refine lv_tableIn (pc := 21) (off := 74) (tgt := 95) C0.1 C0.2.1 dX9_count_21 (by omega) (by omega) (by rw [t19]; rfl) (by decide) ?_
          refine lv_aload_n (pc := 95) C0.1 C0.2.1 dX9_count_95 rfl (lv_at hl 0 rfl) ?_
          refine xget (pc := 96) C0 hH 0 1 clX9 ⟨Nat.le_of_ble_eq_true rfl, Nat.le_of_ble_eq_true rfl⟩ ⟨rfl, rfl⟩ (Nat.le_of_ble_eq_true rfl) fl_X9_19 (v := .ref (b + 4)) rfl dX9_count_96 ?_
          refine xcVI (pc := 99) 4 [] (g_X6_lineCount_4 l D tA b i F G  (show 0 ≤ Int32.toInt (i 4 1) ∧ Int32.toInt (i 4 1) ≤ 600 from by omega)) C0 hH hS clX6 rfl ⟨⟨Nat.le_of_ble_eq_true rfl, Nat.le_of_ble_eq_true rfl⟩, rfl, rfl⟩ cw_X9_153 rfl ⟨Nat.le_of_ble_eq_true rfl, Nat.le_of_ble_eq_true rfl⟩ hl.1 rfl (Nat.le_of_ble_eq_true rfl) dX9_count_99 ⟨Nat.le_of_ble_eq_true rfl, Nat.le_of_ble_eq_true rfl⟩ (fun r20 ir20 Fr20 Gr20 _ locs hp hH hS => ?_)
          obtain ⟨hu, hpr20⟩ := hp
          cases hu
          exact xiret (pc := 102) C0 hr hH hS dX9_count_102 ⟨rfl, trivial⟩
        by_cases t21 : (x : Int32).toInt = 4
        · refine lv_tableIn (pc := 21) (off := 82) (tgt := 103) C0.1 C0.2.1 dX9_count_21 (by omega) (by omega) (by rw [t21]; rfl) (by decide) ?_
          refine lv_aload_n (pc := 103) C0.1 C0.2.1 dX9_count_103 rfl (lv_at hl 0 rfl) ?_
          refine xget (pc := 104) C0 hH 0 1 clX9 ⟨Nat.le_of_ble_eq_true rfl, Nat.le_of_ble_eq_true rfl⟩ ⟨rfl, rfl⟩ (Nat.le_of_ble_eq_true rfl) fl_X9_19 (v := .ref (b + 4)) rfl dX9_count_104 ?_
          refine xget (pc := 107) C0 hH 4 1 clX6 ⟨Nat.le_of_ble_eq_true rfl, Nat.le_of_ble_eq_true rfl⟩ ⟨rfl, rfl⟩ (Nat.le_of_ble_eq_true rfl) fl_X9_102 (v := .int (i 4 1)) rfl dX9_count_107 ?_
          exact xiret (pc := 110) C0 hr hH hS dX9_count_110 ⟨rfl, trivial⟩
        refine lv_tableOut (pc := 21) (tgt := 111) C0.1 C0.2.1 dX9_count_21 (by omega) (by decide) ?_
        refine lv_bipush (pc := 111) (v := (-2)) C0.1 C0.2.1 dX9_count_111 (by decide) ?_
        exact xiret (pc := 113) C0 hr hH hS dX9_count_113 ⟨rfl, trivial⟩
      · have : Int32.toInt 1 = 1 := rfl
        have c15 : ¬ _ := fun q => c15 (Int32.toInt_inj.mp q)
        refine lv_bipush (pc := 17) (v := (-3)) C0.1 C0.2.1 dX9_count_17 (by decide) ?_
        exact xiret (pc := 19) C0 hr hH hS dX9_count_19 ⟨rfl, trivial⟩
set_option maxHeartbeats 4000000 in
set_option maxRecDepth 100000 in
theorem g_X9_markAt (l : Launch) (D : va_G) (tA : Nat → ClassId) (b : Nat) (i F : Nat → Nat → Int32) (G : Nat → Nat → Int64) (x : Int32) (hI : IC i F) : xMI l yX9_markAt cX9_markAt 2 (some .int) 0 0 D tA b 0 78 i F G [.ref (b + 0), .int x] (fun r u => u = (i, F, G) ∧ True) := by
  refine xstart RX9 rfl (by decide) (Nat.le_of_ble_eq_true rfl) ?_
  intro p e s m below meth c ls C0 hr hH hS hl
  have hl : lv_has ls 2 [(0, .ref (b + 0)), (1, .int x)] := hl
  have rg_x := fb_rng x
  have hI0 := hI
  obtain ⟨hsz, hbf, hsz6, hbf7, htk, hF, hQ, htk2, hG, hQ2, hPg, hpt, hrw⟩ := hI0
  have hL := Tf17.lin hF
  have hL2 := Tf48.lin hG
  have hBs : i 1 = i 1 ∧ F 3 = F 3 ∧ G = G := ⟨rfl, rfl, rfl⟩
  refine lv_iload_n (pc := 0) C0.1 C0.2.1 dX9_markAt_0 rfl (lv_at hl 1 rfl) ?_
  refine lv_if_lt (pc := 1) (tgt := 12) C0.1 C0.2.1 dX9_markAt_1 (by decide) (fun c1 => ?_) (fun c1 => ?_)
  · have : Int32.toInt 0 = 0 := rfl
    have c1 := Int32.lt_iff_toInt_lt.mp c1
    refine lv_bipush (pc := 12) (v := (-12)) C0.1 C0.2.1 dX9_markAt_12 (by decide) ?_
    refine lv_goto (pc := 14) (tgt := 23) C0.1 C0.2.1 dX9_markAt_14 (by decide) ?_
    exact xiret (pc := 23) C0 hr hH hS dX9_markAt_23 ⟨rfl, trivial⟩
  · have : Int32.toInt 0 = 0 := rfl
    have c1 : ¬ _ := fun q => c1 (Int32.lt_iff_toInt_lt.mpr q)
    refine lv_iload_n (pc := 4) C0.1 C0.2.1 dX9_markAt_4 rfl (lv_at hl 1 rfl) ?_
    refine lv_aload_n (pc := 5) C0.1 C0.2.1 dX9_markAt_5 rfl (lv_at hl 0 rfl) ?_
    refine xget (pc := 6) C0 hH 0 13 clX9 ⟨Nat.le_of_ble_eq_true rfl, Nat.le_of_ble_eq_true rfl⟩ ⟨rfl, rfl⟩ (Nat.le_of_ble_eq_true rfl) fl_X9_280 (v := .int (i 0 13)) rfl dX9_markAt_6 ?_
    refine lv_icmp_lt (pc := 9) (tgt := 17) C0.1 C0.2.1 dX9_markAt_9 (by decide) (fun c2 => ?_) (fun c2 => ?_)
    · have c2 := Int32.lt_iff_toInt_lt.mp c2
      refine lv_aload_n (pc := 17) C0.1 C0.2.1 dX9_markAt_17 rfl (lv_at hl 0 rfl) ?_
      refine xget (pc := 18) C0 hH 0 12 clX9 ⟨Nat.le_of_ble_eq_true rfl, Nat.le_of_ble_eq_true rfl⟩ ⟨rfl, rfl⟩ (Nat.le_of_ble_eq_true rfl) fl_X9_63 (v := .ref (b + 77)) rfl dX9_markAt_18 ?_
      refine lv_iload_n (pc := 21) C0.1 C0.2.1 dX9_markAt_21 rfl (lv_at hl 1 rfl) ?_
      refine xiald (pc := 22) (N := 200) C0 hH 77 ⟨Nat.le_of_ble_eq_true rfl, Nat.le_of_ble_eq_true rfl⟩ ⟨rfl, rfl⟩ (vI (by omega) (by omega)) dX9_markAt_22 ?_
      exact xiret (pc := 23) C0 hr hH hS dX9_markAt_23 ⟨rfl, trivial⟩
    · have c2 : ¬ _ := fun q => c2 (Int32.lt_iff_toInt_lt.mpr q)
      refine lv_bipush (pc := 12) (v := (-12)) C0.1 C0.2.1 dX9_markAt_12 (by decide) ?_
      refine lv_goto (pc := 14) (tgt := 23) C0.1 C0.2.1 dX9_markAt_14 (by decide) ?_
      exact xiret (pc := 23) C0 hr hH hS dX9_markAt_23 ⟨rfl, trivial⟩
set_option maxHeartbeats 4000000 in
set_option maxRecDepth 100000 in
theorem g_X9_mended (l : Launch) (D : va_G) (tA : Nat → ClassId) (b : Nat) (i F : Nat → Nat → Int32) (G : Nat → Nat → Int64) (x : Int32) (hI : IC i F) : xMI l yX9_mended cX9_mended 2 (some .int) 0 0 D tA b 0 78 i F G [.ref (b + 0), .int x] (fun r u => u = (i, F, G) ∧ True) := by
  refine xstart RX9 rfl (by decide) (Nat.le_of_ble_eq_true rfl) ?_
  intro p e s m below meth c ls C0 hr hH hS hl
  have hl : lv_has ls 2 [(0, .ref (b + 0)), (1, .int x)] := hl
  have rg_x := fb_rng x
  have hI0 := hI
  obtain ⟨hsz, hbf, hsz6, hbf7, htk, hF, hQ, htk2, hG, hQ2, hPg, hpt, hrw⟩ := hI0
  have hL := Tf17.lin hF
  have hL2 := Tf48.lin hG
  have hBs : i 1 = i 1 ∧ F 3 = F 3 ∧ G = G := ⟨rfl, rfl, rfl⟩
  refine lv_iload_n (pc := 0) C0.1 C0.2.1 dX9_mended_0 rfl (lv_at hl 1 rfl) ?_
  by_cases t1 : (x : Int32).toInt = 0
  · refine lv_lookup (pc := 1) (off := 27) (tgt := 28) C0.1 C0.2.1 dX9_mended_1 (by decide) (by rw [t1]; rfl) (by decide) ?_
    refine lv_aload_n (pc := 28) C0.1 C0.2.1 dX9_mended_28 rfl (lv_at hl 0 rfl) ?_
    refine xget (pc := 29) C0 hH 0 10 clX9 ⟨Nat.le_of_ble_eq_true rfl, Nat.le_of_ble_eq_true rfl⟩ ⟨rfl, rfl⟩ (Nat.le_of_ble_eq_true rfl) fl_X9_57 (v := .int (i 0 10)) rfl dX9_mended_29 ?_
    exact xiret (pc := 32) C0 hr hH hS dX9_mended_32 ⟨rfl, trivial⟩
  by_cases t2 : (x : Int32).toInt = 1
  · refine lv_lookup (pc := 1) (off := 32) (tgt := 33) C0.1 C0.2.1 dX9_mended_1 (by decide) (by rw [t2]; rfl) (by decide) ?_
    refine lv_aload_n (pc := 33) C0.1 C0.2.1 dX9_mended_33 rfl (lv_at hl 0 rfl) ?_
    refine xget (pc := 34) C0 hH 0 11 clX9 ⟨Nat.le_of_ble_eq_true rfl, Nat.le_of_ble_eq_true rfl⟩ ⟨rfl, rfl⟩ (Nat.le_of_ble_eq_true rfl) fl_X9_60 (v := .int (i 0 11)) rfl dX9_mended_34 ?_
    exact xiret (pc := 37) C0 hr hH hS dX9_mended_37 ⟨rfl, trivial⟩
  refine lv_lookup (pc := 1) (off := 37) (tgt := 38) C0.1 C0.2.1 dX9_mended_1 (by decide) (by have ut1 : ¬ (0 : Int) = Int32.toInt x := fun q => t1 q.symm; have ut2 : ¬ (1 : Int) = Int32.toInt x := fun q => t2 q.symm; simp [Op.lookupswitch.offset, ut1, ut2]) (by decide) ?_
  refine lv_bipush (pc := 38) (v := (-2)) C0.1 C0.2.1 dX9_mended_38 (by decide) ?_
  exact xiret (pc := 40) C0 hr hH hS dX9_mended_40 ⟨rfl, trivial⟩
set_option maxHeartbeats 4000000 in
set_option maxRecDepth 100000 in
theorem g_X9_reachFirst (l : Launch) (D : va_G) (tA : Nat → ClassId) (b : Nat) (i F : Nat → Nat → Int32) (G : Nat → Nat → Int64) (x y : Int32) (hI : IC i F) : xMI l yX9_reachFirst cX9_reachFirst 3 (some .int) 0 0 D tA b 0 78 i F G [.ref (b + 0), .int x, .int y] (fun r u => u = (i, F, G) ∧ True) := by
  refine xstart RX9 rfl (by decide) (Nat.le_of_ble_eq_true rfl) ?_
  intro p e s m below meth c ls C0 hr hH hS hl
  have hl : lv_has ls 3 [(0, .ref (b + 0)), (1, .int x), (2, .int y)] := hl
  have rg_x := fb_rng x
  have rg_y := fb_rng y
  have hI0 := hI
  obtain ⟨hsz, hbf, hsz6, hbf7, htk, hF, hQ, htk2, hG, hQ2, hPg, hpt, hrw⟩ := hI0
  have hL := Tf17.lin hF
  have hL2 := Tf48.lin hG
  have hBs : i 1 = i 1 ∧ F 3 = F 3 ∧ G = G := ⟨rfl, rfl, rfl⟩
  refine lv_iload_n (pc := 0) C0.1 C0.2.1 dX9_reachFirst_0 rfl (lv_at hl 1 rfl) ?_
  refine lv_if_lt (pc := 1) (tgt := 18) C0.1 C0.2.1 dX9_reachFirst_1 (by decide) (fun c1 => ?_) (fun c1 => ?_)
  · have : Int32.toInt 0 = 0 := rfl
    have c1 := Int32.lt_iff_toInt_lt.mp c1
    refine lv_bipush (pc := 18) (v := (-9)) C0.1 C0.2.1 dX9_reachFirst_18 (by decide) ?_
    exact xiret (pc := 20) C0 hr hH hS dX9_reachFirst_20 ⟨rfl, trivial⟩
  · have : Int32.toInt 0 = 0 := rfl
    have c1 : ¬ _ := fun q => c1 (Int32.lt_iff_toInt_lt.mpr q)
    refine lv_iload_n (pc := 4) C0.1 C0.2.1 dX9_reachFirst_4 rfl (lv_at hl 1 rfl) ?_
    refine lv_aload_n (pc := 5) C0.1 C0.2.1 dX9_reachFirst_5 rfl (lv_at hl 0 rfl) ?_
    refine xget (pc := 6) C0 hH 0 3 clX9 ⟨Nat.le_of_ble_eq_true rfl, Nat.le_of_ble_eq_true rfl⟩ ⟨rfl, rfl⟩ (Nat.le_of_ble_eq_true rfl) fl_X9_29 (v := .ref (b + 8)) rfl dX9_reachFirst_6 ?_
    refine xget (pc := 9) C0 hH 8 0 clX4 ⟨Nat.le_of_ble_eq_true rfl, Nat.le_of_ble_eq_true rfl⟩ ⟨rfl, rfl⟩ (Nat.le_of_ble_eq_true rfl) fl_X9_118 (v := .ref (b + 9)) rfl dX9_reachFirst_9 ?_
    refine xget (pc := 12) C0 hH 9 7 clX7 ⟨Nat.le_of_ble_eq_true rfl, Nat.le_of_ble_eq_true rfl⟩ ⟨rfl, rfl⟩ (Nat.le_of_ble_eq_true rfl) fl_X9_122 (v := .int (i 9 7)) rfl dX9_reachFirst_12 ?_
    refine lv_icmp_lt (pc := 15) (tgt := 21) C0.1 C0.2.1 dX9_reachFirst_15 (by decide) (fun c2 => ?_) (fun c2 => ?_)
    · have c2 := Int32.lt_iff_toInt_lt.mp c2
      refine lv_iload_n (pc := 21) C0.1 C0.2.1 dX9_reachFirst_21 rfl (lv_at hl 2 rfl) ?_
      refine lv_if_eq (pc := 22) (tgt := 40) C0.1 C0.2.1 dX9_reachFirst_22 (by decide) (fun c3 => ?_) (fun c3 => ?_)
      · have : Int32.toInt 0 = 0 := rfl
        have c3 := congrArg Int32.toInt c3
        refine lv_aload_n (pc := 40) C0.1 C0.2.1 dX9_reachFirst_40 rfl (lv_at hl 0 rfl) ?_
        refine xget (pc := 41) C0 hH 0 3 clX9 ⟨Nat.le_of_ble_eq_true rfl, Nat.le_of_ble_eq_true rfl⟩ ⟨rfl, rfl⟩ (Nat.le_of_ble_eq_true rfl) fl_X9_29 (v := .ref (b + 8)) rfl dX9_reachFirst_41 ?_
        refine xget (pc := 44) C0 hH 8 0 clX4 ⟨Nat.le_of_ble_eq_true rfl, Nat.le_of_ble_eq_true rfl⟩ ⟨rfl, rfl⟩ (Nat.le_of_ble_eq_true rfl) fl_X9_118 (v := .ref (b + 9)) rfl dX9_reachFirst_44 ?_
        refine xget (pc := 47) C0 hH 9 4 clX7 ⟨Nat.le_of_ble_eq_true rfl, Nat.le_of_ble_eq_true rfl⟩ ⟨rfl, rfl⟩ (Nat.le_of_ble_eq_true rfl) fl_X9_169 (v := .ref (b + 14)) rfl dX9_reachFirst_47 ?_
        refine lv_iload_n (pc := 50) C0.1 C0.2.1 dX9_reachFirst_50 rfl (lv_at hl 1 rfl) ?_
        refine xiald (pc := 51) (N := 600) C0 hH 14 ⟨Nat.le_of_ble_eq_true rfl, Nat.le_of_ble_eq_true rfl⟩ ⟨rfl, rfl⟩ (vI (by omega) (by omega)) dX9_reachFirst_51 ?_
        exact xiret (pc := 52) C0 hr hH hS dX9_reachFirst_52 ⟨rfl, trivial⟩
      · have : Int32.toInt 0 = 0 := rfl
        have c3 : ¬ _ := fun q => c3 (Int32.toInt_inj.mp q)
        refine lv_aload_n (pc := 25) C0.1 C0.2.1 dX9_reachFirst_25 rfl (lv_at hl 0 rfl) ?_
        refine xget (pc := 26) C0 hH 0 3 clX9 ⟨Nat.le_of_ble_eq_true rfl, Nat.le_of_ble_eq_true rfl⟩ ⟨rfl, rfl⟩ (Nat.le_of_ble_eq_true rfl) fl_X9_29 (v := .ref (b + 8)) rfl dX9_reachFirst_26 ?_
        refine xget (pc := 29) C0 hH 8 0 clX4 ⟨Nat.le_of_ble_eq_true rfl, Nat.le_of_ble_eq_true rfl⟩ ⟨rfl, rfl⟩ (Nat.le_of_ble_eq_true rfl) fl_X9_118 (v := .ref (b + 9)) rfl dX9_reachFirst_29 ?_
        refine xget (pc := 32) C0 hH 9 3 clX7 ⟨Nat.le_of_ble_eq_true rfl, Nat.le_of_ble_eq_true rfl⟩ ⟨rfl, rfl⟩ (Nat.le_of_ble_eq_true rfl) fl_X9_166 (v := .ref (b + 13)) rfl dX9_reachFirst_32 ?_
        refine lv_iload_n (pc := 35) C0.1 C0.2.1 dX9_reachFirst_35 rfl (lv_at hl 1 rfl) ?_
        refine xiald (pc := 36) (N := 600) C0 hH 13 ⟨Nat.le_of_ble_eq_true rfl, Nat.le_of_ble_eq_true rfl⟩ ⟨rfl, rfl⟩ (vI (by omega) (by omega)) dX9_reachFirst_36 ?_
        refine lv_goto (pc := 37) (tgt := 52) C0.1 C0.2.1 dX9_reachFirst_37 (by decide) ?_
        exact xiret (pc := 52) C0 hr hH hS dX9_reachFirst_52 ⟨rfl, trivial⟩
    · have c2 : ¬ _ := fun q => c2 (Int32.lt_iff_toInt_lt.mpr q)
      refine lv_bipush (pc := 18) (v := (-9)) C0.1 C0.2.1 dX9_reachFirst_18 (by decide) ?_
      exact xiret (pc := 20) C0 hr hH hS dX9_reachFirst_20 ⟨rfl, trivial⟩
set_option maxHeartbeats 4000000 in
set_option maxRecDepth 100000 in
theorem g_X9_reachLast (l : Launch) (D : va_G) (tA : Nat → ClassId) (b : Nat) (i F : Nat → Nat → Int32) (G : Nat → Nat → Int64) (x y : Int32) (hI : IC i F) : xMI l yX9_reachLast cX9_reachLast 4 (some .int) 3 72 D tA b 0 78 i F G [.ref (b + 0), .int x, .int y] (fun r u => u = (i, F, G) ∧ True) := by
  refine xstart RX9 rfl (by decide) (Nat.le_of_ble_eq_true rfl) ?_
  intro p e s m below meth c ls C0 hr hH hS hl
  have hl : lv_has ls 4 [(0, .ref (b + 0)), (1, .int x), (2, .int y)] := hl
  have rg_x := fb_rng x
  have rg_y := fb_rng y
  have hI0 := hI
  obtain ⟨hsz, hbf, hsz6, hbf7, htk, hF, hQ, htk2, hG, hQ2, hPg, hpt, hrw⟩ := hI0
  have hL := Tf17.lin hF
  have hL2 := Tf48.lin hG
  have hBs : i 1 = i 1 ∧ F 3 = F 3 ∧ G = G := ⟨rfl, rfl, rfl⟩
  refine lv_iload_n (pc := 0) C0.1 C0.2.1 dX9_reachLast_0 rfl (lv_at hl 1 rfl) ?_
  refine lv_if_lt (pc := 1) (tgt := 18) C0.1 C0.2.1 dX9_reachLast_1 (by decide) (fun c1 => ?_) (fun c1 => ?_)
  · have : Int32.toInt 0 = 0 := rfl
    have c1 := Int32.lt_iff_toInt_lt.mp c1
    refine lv_bipush (pc := 18) (v := (-9)) C0.1 C0.2.1 dX9_reachLast_18 (by decide) ?_
    exact xiret (pc := 20) C0 hr hH hS dX9_reachLast_20 ⟨rfl, trivial⟩
  · have : Int32.toInt 0 = 0 := rfl
    have c1 : ¬ _ := fun q => c1 (Int32.lt_iff_toInt_lt.mpr q)
    refine lv_iload_n (pc := 4) C0.1 C0.2.1 dX9_reachLast_4 rfl (lv_at hl 1 rfl) ?_
    refine lv_aload_n (pc := 5) C0.1 C0.2.1 dX9_reachLast_5 rfl (lv_at hl 0 rfl) ?_
    refine xget (pc := 6) C0 hH 0 3 clX9 ⟨Nat.le_of_ble_eq_true rfl, Nat.le_of_ble_eq_true rfl⟩ ⟨rfl, rfl⟩ (Nat.le_of_ble_eq_true rfl) fl_X9_29 (v := .ref (b + 8)) rfl dX9_reachLast_6 ?_
    refine xget (pc := 9) C0 hH 8 0 clX4 ⟨Nat.le_of_ble_eq_true rfl, Nat.le_of_ble_eq_true rfl⟩ ⟨rfl, rfl⟩ (Nat.le_of_ble_eq_true rfl) fl_X9_118 (v := .ref (b + 9)) rfl dX9_reachLast_9 ?_
    refine xget (pc := 12) C0 hH 9 7 clX7 ⟨Nat.le_of_ble_eq_true rfl, Nat.le_of_ble_eq_true rfl⟩ ⟨rfl, rfl⟩ (Nat.le_of_ble_eq_true rfl) fl_X9_122 (v := .int (i 9 7)) rfl dX9_reachLast_12 ?_
    refine lv_icmp_lt (pc := 15) (tgt := 21) C0.1 C0.2.1 dX9_reachLast_15 (by decide) (fun c2 => ?_) (fun c2 => ?_)
    · have c2 := Int32.lt_iff_toInt_lt.mp c2
      refine lv_aload_n (pc := 21) C0.1 C0.2.1 dX9_reachLast_21 rfl (lv_at hl 0 rfl) ?_
      refine xget (pc := 22) C0 hH 0 3 clX9 ⟨Nat.le_of_ble_eq_true rfl, Nat.le_of_ble_eq_true rfl⟩ ⟨rfl, rfl⟩ (Nat.le_of_ble_eq_true rfl) fl_X9_29 (v := .ref (b + 8)) rfl dX9_reachLast_22 ?_
      refine xget (pc := 25) C0 hH 8 0 clX4 ⟨Nat.le_of_ble_eq_true rfl, Nat.le_of_ble_eq_true rfl⟩ ⟨rfl, rfl⟩ (Nat.le_of_ble_eq_true rfl) fl_X9_118 (v := .ref (b + 9)) rfl dX9_reachLast_25 ?_
      refine xget (pc := 28) C0 hH 9 1 clX7 ⟨Nat.le_of_ble_eq_true rfl, Nat.le_of_ble_eq_true rfl⟩ ⟨rfl, rfl⟩ (Nat.le_of_ble_eq_true rfl) fl_X9_160 (v := .ref (b + 11)) rfl dX9_reachLast_28 ?_
      refine lv_iload_n (pc := 31) C0.1 C0.2.1 dX9_reachLast_31 rfl (lv_at hl 1 rfl) ?_
      refine xiald (pc := 32) (N := 600) C0 hH 11 ⟨Nat.le_of_ble_eq_true rfl, Nat.le_of_ble_eq_true rfl⟩ ⟨rfl, rfl⟩ (vI (by omega) (by omega)) dX9_reachLast_32 ?_
      refine lv_aload_n (pc := 33) C0.1 C0.2.1 dX9_reachLast_33 rfl (lv_at hl 0 rfl) ?_
      refine xget (pc := 34) C0 hH 0 3 clX9 ⟨Nat.le_of_ble_eq_true rfl, Nat.le_of_ble_eq_true rfl⟩ ⟨rfl, rfl⟩ (Nat.le_of_ble_eq_true rfl) fl_X9_29 (v := .ref (b + 8)) rfl dX9_reachLast_34 ?_
      refine xget (pc := 37) C0 hH 8 0 clX4 ⟨Nat.le_of_ble_eq_true rfl, Nat.le_of_ble_eq_true rfl⟩ ⟨rfl, rfl⟩ (Nat.le_of_ble_eq_true rfl) fl_X9_118 (v := .ref (b + 9)) rfl dX9_reachLast_37 ?_
      refine xget (pc := 40) C0 hH 9 2 clX7 ⟨Nat.le_of_ble_eq_true rfl, Nat.le_of_ble_eq_true rfl⟩ ⟨rfl, rfl⟩ (Nat.le_of_ble_eq_true rfl) fl_X9_163 (v := .ref (b + 12)) rfl dX9_reachLast_40 ?_
      refine lv_iload_n (pc := 43) C0.1 C0.2.1 dX9_reachLast_43 rfl (lv_at hl 1 rfl) ?_
      refine xiald (pc := 44) (N := 600) C0 hH 12 ⟨Nat.le_of_ble_eq_true rfl, Nat.le_of_ble_eq_true rfl⟩ ⟨rfl, rfl⟩ (vI (by omega) (by omega)) dX9_reachLast_44 ?_
      refine lv_iadd (pc := 45) C0.1 C0.2.1 dX9_reachLast_45 ?_
      refine lv_iconst (pc := 46) (v := 1) C0.1 C0.2.1 dX9_reachLast_46 (by decide) ?_
      refine lv_isub (pc := 47) C0.1 C0.2.1 dX9_reachLast_47 ?_
      refine lv_topi (fun x3 ex3 => ?_)
      refine lv_istore_n (pc := 48) (lv' := [(3, .int x3), (0, .ref (b + 0)), (1, .int x), (2, .int y)]) C0.1 C0.2.1 dX9_reachLast_48 rfl hl (by decide) rfl (fun ls hl => ?_)
      refine lv_iload_n (pc := 49) C0.1 C0.2.1 dX9_reachLast_49 rfl (lv_at hl 3 rfl) ?_
      refine lv_if_eq (pc := 50) (tgt := 64) C0.1 C0.2.1 dX9_reachLast_50 (by decide) (fun c4 => ?_) (fun c4 => ?_)
      · have : Int32.toInt 0 = 0 := rfl
        have c4 := congrArg Int32.toInt c4
        refine lv_aload_n (pc := 64) C0.1 C0.2.1 dX9_reachLast_64 rfl (lv_at hl 1 rfl) ?_
        refine xget (pc := 65) C0 hH 0 1 clX9 ⟨Nat.le_of_ble_eq_true rfl, Nat.le_of_ble_eq_true rfl⟩ ⟨rfl, rfl⟩ (Nat.le_of_ble_eq_true rfl) fl_X9_19 (v := .ref (b + 4)) rfl dX9_reachLast_65 ?_
        refine lv_iload_n (pc := 68) C0.1 C0.2.1 dX9_reachLast_68 rfl (lv_at hl 0 rfl) ?_
        refine lv_aload_n (pc := 69) C0.1 C0.2.1 dX9_reachLast_69 rfl (lv_at hl 1 rfl) ?_
        refine xget (pc := 70) C0 hH 0 0 clX9 ⟨Nat.le_of_ble_eq_true rfl, Nat.le_of_ble_eq_true rfl⟩ ⟨rfl, rfl⟩ (Nat.le_of_ble_eq_true rfl) fl_X9_12 (v := .ref (b + 1)) rfl dX9_reachLast_70 ?_
        refine xget (pc := 73) C0 hH 1 7 clX1 ⟨Nat.le_of_ble_eq_true rfl, Nat.le_of_ble_eq_true rfl⟩ ⟨rfl, rfl⟩ (Nat.le_of_ble_eq_true rfl) fl_X9_292 (v := .int (i 1 7)) rfl dX9_reachLast_73 ?_
        refine xcVI (pc := 76) 4 [.int x3, .int (i 1 7)] (g_X6_columnAt_4 l D tA b i F G x3 (i 1 7) (show 0 ≤ Int32.toInt (i 4 1) ∧ Int32.toInt (i 4 1) ≤ 600 from by omega)) C0 hH hS clX6 rfl ⟨⟨Nat.le_of_ble_eq_true rfl, Nat.le_of_ble_eq_true rfl⟩, rfl, rfl⟩ cw_X9_295 rfl ⟨Nat.le_of_ble_eq_true rfl, Nat.le_of_ble_eq_true rfl⟩ hl.1 rfl (Nat.le_of_ble_eq_true rfl) dX9_reachLast_76 ⟨Nat.le_of_ble_eq_true rfl, Nat.le_of_ble_eq_true rfl⟩ (fun r5 ir5 Fr5 Gr5 _ locs hp hH hS => ?_)
        obtain ⟨hu, hpr5⟩ := hp
        cases hu
        exact xiret (pc := 79) C0 hr hH hS dX9_reachLast_79 ⟨rfl, trivial⟩
      · have : Int32.toInt 0 = 0 := rfl
        have c4 : ¬ _ := fun q => c4 (Int32.toInt_inj.mp q)
        refine lv_aload_n (pc := 53) C0.1 C0.2.1 dX9_reachLast_53 rfl (lv_at hl 1 rfl) ?_
        refine xget (pc := 54) C0 hH 0 1 clX9 ⟨Nat.le_of_ble_eq_true rfl, Nat.le_of_ble_eq_true rfl⟩ ⟨rfl, rfl⟩ (Nat.le_of_ble_eq_true rfl) fl_X9_19 (v := .ref (b + 4)) rfl dX9_reachLast_54 ?_
        refine lv_iload_n (pc := 57) C0.1 C0.2.1 dX9_reachLast_57 rfl (lv_at hl 0 rfl) ?_
        refine xcVI (pc := 58) 4 [.int x3] (g_X6_lineAt_4 l D tA b i F G x3 (show 0 ≤ Int32.toInt (i 4 1) ∧ Int32.toInt (i 4 1) ≤ 600 from by omega)) C0 hH hS clX6 rfl ⟨⟨Nat.le_of_ble_eq_true rfl, Nat.le_of_ble_eq_true rfl⟩, rfl, rfl⟩ cw_X9_289 rfl ⟨Nat.le_of_ble_eq_true rfl, Nat.le_of_ble_eq_true rfl⟩ hl.1 rfl (Nat.le_of_ble_eq_true rfl) dX9_reachLast_58 ⟨Nat.le_of_ble_eq_true rfl, Nat.le_of_ble_eq_true rfl⟩ (fun r6 ir6 Fr6 Gr6 _ locs hp hH hS => ?_)
        obtain ⟨hu, hpr6⟩ := hp
        cases hu
        refine lv_goto (pc := 61) (tgt := 79) C0.1 C0.2.1 dX9_reachLast_61 (by decide) ?_
        exact xiret (pc := 79) C0 hr hH hS dX9_reachLast_79 ⟨rfl, trivial⟩
    · have c2 : ¬ _ := fun q => c2 (Int32.lt_iff_toInt_lt.mpr q)
      refine lv_bipush (pc := 18) (v := (-9)) C0.1 C0.2.1 dX9_reachLast_18 (by decide) ?_
      exact xiret (pc := 20) C0 hr hH hS dX9_reachLast_20 ⟨rfl, trivial⟩
set_option maxHeartbeats 4000000 in
set_option maxRecDepth 100000 in
theorem g_X9_token (l : Launch) (D : va_G) (tA : Nat → ClassId) (b : Nat) (i F : Nat → Nat → Int32) (G : Nat → Nat → Int64) (x y : Int32) (hI : IC i F) : xMI l yX9_token cX9_token 3 (some .int) 2 43 D tA b 0 78 i F G [.ref (b + 0), .int x, .int y] (fun r u => u = (i, F, G) ∧ True) := by
  refine xstart RX9 rfl (by decide) (Nat.le_of_ble_eq_true rfl) ?_
  intro p e s m below meth c ls C0 hr hH hS hl
  have hl : lv_has ls 3 [(0, .ref (b + 0)), (1, .int x), (2, .int y)] := hl
  have rg_x := fb_rng x
  have rg_y := fb_rng y
  have hI0 := hI
  obtain ⟨hsz, hbf, hsz6, hbf7, htk, hF, hQ, htk2, hG, hQ2, hPg, hpt, hrw⟩ := hI0
  have hL := Tf17.lin hF
  have hL2 := Tf48.lin hG
  have hBs : i 1 = i 1 ∧ F 3 = F 3 ∧ G = G := ⟨rfl, rfl, rfl⟩
  refine lv_aload_n (pc := 0) C0.1 C0.2.1 dX9_token_0 rfl (lv_at hl 0 rfl) ?_
  refine xget (pc := 1) C0 hH 0 8 clX9 ⟨Nat.le_of_ble_eq_true rfl, Nat.le_of_ble_eq_true rfl⟩ ⟨rfl, rfl⟩ (Nat.le_of_ble_eq_true rfl) fl_X9_53 (v := .int (i 0 8)) rfl dX9_token_1 ?_
  refine lv_iconst (pc := 4) (v := 1) C0.1 C0.2.1 dX9_token_4 (by decide) ?_
  refine lv_icmp_eq (pc := 5) (tgt := 11) C0.1 C0.2.1 dX9_token_5 (by decide) (fun c1 => ?_) (fun c1 => ?_)
  · have : Int32.toInt 1 = 1 := rfl
    have c1 := congrArg Int32.toInt c1
    refine lv_iload_n (pc := 11) C0.1 C0.2.1 dX9_token_11 rfl (lv_at hl 1 rfl) ?_
    refine lv_if_lt (pc := 12) (tgt := 29) C0.1 C0.2.1 dX9_token_12 (by decide) (fun c2 => ?_) (fun c2 => ?_)
    · have : Int32.toInt 0 = 0 := rfl
      have c2 := Int32.lt_iff_toInt_lt.mp c2
      refine lv_iconst (pc := 29) (v := (-1)) C0.1 C0.2.1 dX9_token_29 (by decide) ?_
      exact xiret (pc := 30) C0 hr hH hS dX9_token_30 ⟨rfl, trivial⟩
    · have : Int32.toInt 0 = 0 := rfl
      have c2 : ¬ _ := fun q => c2 (Int32.lt_iff_toInt_lt.mpr q)
      refine lv_iload_n (pc := 15) C0.1 C0.2.1 dX9_token_15 rfl (lv_at hl 1 rfl) ?_
      refine lv_aload_n (pc := 16) C0.1 C0.2.1 dX9_token_16 rfl (lv_at hl 0 rfl) ?_
      refine xget (pc := 17) C0 hH 0 3 clX9 ⟨Nat.le_of_ble_eq_true rfl, Nat.le_of_ble_eq_true rfl⟩ ⟨rfl, rfl⟩ (Nat.le_of_ble_eq_true rfl) fl_X9_29 (v := .ref (b + 8)) rfl dX9_token_17 ?_
      refine xget (pc := 20) C0 hH 8 0 clX4 ⟨Nat.le_of_ble_eq_true rfl, Nat.le_of_ble_eq_true rfl⟩ ⟨rfl, rfl⟩ (Nat.le_of_ble_eq_true rfl) fl_X9_118 (v := .ref (b + 9)) rfl dX9_token_20 ?_
      refine xget (pc := 23) C0 hH 9 7 clX7 ⟨Nat.le_of_ble_eq_true rfl, Nat.le_of_ble_eq_true rfl⟩ ⟨rfl, rfl⟩ (Nat.le_of_ble_eq_true rfl) fl_X9_122 (v := .int (i 9 7)) rfl dX9_token_23 ?_
      refine lv_icmp_lt (pc := 26) (tgt := 31) C0.1 C0.2.1 dX9_token_26 (by decide) (fun c3 => ?_) (fun c3 => ?_)
      · have c3 := Int32.lt_iff_toInt_lt.mp c3
        refine lv_iload_n (pc := 31) C0.1 C0.2.1 dX9_token_31 rfl (lv_at hl 2 rfl) ?_
        by_cases t4 : (y : Int32).toInt = 0
        · refine lv_tableIn (pc := 32) (off := 48) (tgt := 80) C0.1 C0.2.1 dX9_token_32 (by omega) (by omega) (by rw [t4]; rfl) (by decide) ?_
          refine lv_aload_n (pc := 80) C0.1 C0.2.1 dX9_token_80 rfl (lv_at hl 0 rfl) ?_
          refine xget (pc := 81) C0 hH 0 3 clX9 ⟨Nat.le_of_ble_eq_true rfl, Nat.le_of_ble_eq_true rfl⟩ ⟨rfl, rfl⟩ (Nat.le_of_ble_eq_true rfl) fl_X9_29 (v := .ref (b + 8)) rfl dX9_token_81 ?_
          refine xget (pc := 84) C0 hH 8 0 clX4 ⟨Nat.le_of_ble_eq_true rfl, Nat.le_of_ble_eq_true rfl⟩ ⟨rfl, rfl⟩ (Nat.le_of_ble_eq_true rfl) fl_X9_118 (v := .ref (b + 9)) rfl dX9_token_84 ?_
          refine xget (pc := 87) C0 hH 9 0 clX7 ⟨Nat.le_of_ble_eq_true rfl, Nat.le_of_ble_eq_true rfl⟩ ⟨rfl, rfl⟩ (Nat.le_of_ble_eq_true rfl) fl_X9_157 (v := .ref (b + 10)) rfl dX9_token_87 ?_
          refine lv_iload_n (pc := 90) C0.1 C0.2.1 dX9_token_90 rfl (lv_at hl 1 rfl) ?_
          refine xiald (pc := 91) (N := 600) C0 hH 10 ⟨Nat.le_of_ble_eq_true rfl, Nat.le_of_ble_eq_true rfl⟩ ⟨rfl, rfl⟩ (vI (by omega) (by omega)) dX9_token_91 ?_
          exact xiret (pc := 92) C0 hr hH hS dX9_token_92 ⟨rfl, trivial⟩
        by_cases t5 : (y : Int32).toInt = 1
        · refine lv_tableIn (pc := 32) (off := 61) (tgt := 93) C0.1 C0.2.1 dX9_token_32 (by omega) (by omega) (by rw [t5]; rfl) (by decide) ?_
          refine lv_aload_n (pc := 93) C0.1 C0.2.1 dX9_token_93 rfl (lv_at hl 0 rfl) ?_
          refine xget (pc := 94) C0 hH 0 3 clX9 ⟨Nat.le_of_ble_eq_true rfl, Nat.le_of_ble_eq_true rfl⟩ ⟨rfl, rfl⟩ (Nat.le_of_ble_eq_true rfl) fl_X9_29 (v := .ref (b + 8)) rfl dX9_token_94 ?_
          refine xget (pc := 97) C0 hH 8 0 clX4 ⟨Nat.le_of_ble_eq_true rfl, Nat.le_of_ble_eq_true rfl⟩ ⟨rfl, rfl⟩ (Nat.le_of_ble_eq_true rfl) fl_X9_118 (v := .ref (b + 9)) rfl dX9_token_97 ?_
          refine xget (pc := 100) C0 hH 9 1 clX7 ⟨Nat.le_of_ble_eq_true rfl, Nat.le_of_ble_eq_true rfl⟩ ⟨rfl, rfl⟩ (Nat.le_of_ble_eq_true rfl) fl_X9_160 (v := .ref (b + 11)) rfl dX9_token_100 ?_
          refine lv_iload_n (pc := 103) C0.1 C0.2.1 dX9_token_103 rfl (lv_at hl 1 rfl) ?_
          refine xiald (pc := 104) (N := 600) C0 hH 11 ⟨Nat.le_of_ble_eq_true rfl, Nat.le_of_ble_eq_true rfl⟩ ⟨rfl, rfl⟩ (vI (by omega) (by omega)) dX9_token_104 ?_
          exact xiret (pc := 105) C0 hr hH hS dX9_token_105 ⟨rfl, trivial⟩
        by_cases t6 : (y : Int32).toInt = 2
        · refine lv_tableIn (pc := 32) (off := 74) (tgt := 106) C0.1 C0.2.1 dX9_token_32 (by omega) (by omega) (by rw [t6]; rfl) (by decide) ?_
          refine lv_aload_n (pc := 106) C0.1 C0.2.1 dX9_token_106 rfl (lv_at hl 0 rfl) ?_
          refine xget (pc := 107) C0 hH 0 3 clX9 ⟨Nat.le_of_ble_eq_true rfl, Nat.le_of_ble_eq_true rfl⟩ ⟨rfl, rfl⟩ (Nat.le_of_ble_eq_true rfl) fl_X9_29 (v := .ref (b + 8)) rfl dX9_token_107 ?_
          refine xget (pc := 110) C0 hH 8 0 clX4 ⟨Nat.le_of_ble_eq_true rfl, Nat.le_of_ble_eq_true rfl⟩ ⟨rfl, rfl⟩ (Nat.le_of_ble_eq_true rfl) fl_X9_118 (v := .ref (b + 9)) rfl dX9_token_110 ?_
          refine xget (pc := 113) C0 hH 9 2 clX7 ⟨Nat.le_of_ble_eq_true rfl, Nat.le_of_ble_eq_true rfl⟩ ⟨rfl, rfl⟩ (Nat.le_of_ble_eq_true rfl) fl_X9_163 (v := .ref (b + 12)) rfl dX9_token_113 ?_
          refine lv_iload_n (pc := 116) C0.1 C0.2.1 dX9_token_116 rfl (lv_at hl 1 rfl) ?_
          refine xiald (pc := 117) (N := 600) C0 hH 12 ⟨Nat.le_of_ble_eq_true rfl, Nat.le_of_ble_eq_true rfl⟩ ⟨rfl, rfl⟩ (vI (by omega) (by omega)) dX9_token_117 ?_
          exact xiret (pc := 118) C0 hr hH hS dX9_token_118 ⟨rfl, trivial⟩
        by_cases t7 : (y : Int32).toInt = 3
        · refine lv_tableIn (pc := 32) (off := 87) (tgt := 119) C0.1 C0.2.1 dX9_token_32 (by omega) (by omega) (by rw [t7]; rfl) (by decide) ?_
          refine lv_aload_n (pc := 119) C0.1 C0.2.1 dX9_token_119 rfl (lv_at hl 0 rfl) ?_
          refine xget (pc := 120) C0 hH 0 3 clX9 ⟨Nat.le_of_ble_eq_true rfl, Nat.le_of_ble_eq_true rfl⟩ ⟨rfl, rfl⟩ (Nat.le_of_ble_eq_true rfl) fl_X9_29 (v := .ref (b + 8)) rfl dX9_token_120 ?_
          refine xget (pc := 123) C0 hH 8 0 clX4 ⟨Nat.le_of_ble_eq_true rfl, Nat.le_of_ble_eq_true rfl⟩ ⟨rfl, rfl⟩ (Nat.le_of_ble_eq_true rfl) fl_X9_118 (v := .ref (b + 9)) rfl dX9_token_123 ?_
          refine xget (pc := 126) C0 hH 9 3 clX7 ⟨Nat.le_of_ble_eq_true rfl, Nat.le_of_ble_eq_true rfl⟩ ⟨rfl, rfl⟩ (Nat.le_of_ble_eq_true rfl) fl_X9_166 (v := .ref (b + 13)) rfl dX9_token_126 ?_
          refine lv_iload_n (pc := 129) C0.1 C0.2.1 dX9_token_129 rfl (lv_at hl 1 rfl) ?_
          refine xiald (pc := 130) (N := 600) C0 hH 13 ⟨Nat.le_of_ble_eq_true rfl, Nat.le_of_ble_eq_true rfl⟩ ⟨rfl, rfl⟩ (vI (by omega) (by omega)) dX9_token_130 ?_
          exact xiret (pc := 131) C0 hr hH hS dX9_token_131 ⟨rfl, trivial⟩
        by_cases t8 : (y : Int32).toInt = 4
        · refine lv_tableIn (pc := 32) (off := 100) (tgt := 132) C0.1 C0.2.1 dX9_token_32 (by omega) (by omega) (by rw [t8]; rfl) (by decide) ?_
          refine lv_aload_n (pc := 132) C0.1 C0.2.1 dX9_token_132 rfl (lv_at hl 0 rfl) ?_
          refine xget (pc := 133) C0 hH 0 3 clX9 ⟨Nat.le_of_ble_eq_true rfl, Nat.le_of_ble_eq_true rfl⟩ ⟨rfl, rfl⟩ (Nat.le_of_ble_eq_true rfl) fl_X9_29 (v := .ref (b + 8)) rfl dX9_token_133 ?_
          refine xget (pc := 136) C0 hH 8 0 clX4 ⟨Nat.le_of_ble_eq_true rfl, Nat.le_of_ble_eq_true rfl⟩ ⟨rfl, rfl⟩ (Nat.le_of_ble_eq_true rfl) fl_X9_118 (v := .ref (b + 9)) rfl dX9_token_136 ?_
          refine xget (pc := 139) C0 hH 9 4 clX7 ⟨Nat.le_of_ble_eq_true rfl, Nat.le_of_ble_eq_true rfl⟩ ⟨rfl, rfl⟩ (Nat.le_of_ble_eq_true rfl) fl_X9_169 (v := .ref (b + 14)) rfl dX9_token_139 ?_
          refine lv_iload_n (pc := 142) C0.1 C0.2.1 dX9_token_142 rfl (lv_at hl 1 rfl) ?_
          refine xiald (pc := 143) (N := 600) C0 hH 14 ⟨Nat.le_of_ble_eq_true rfl, Nat.le_of_ble_eq_true rfl⟩ ⟨rfl, rfl⟩ (vI (by omega) (by omega)) dX9_token_143 ?_
          exact xiret (pc := 144) C0 hr hH hS dX9_token_144 ⟨rfl, trivial⟩
        by_cases t9 : (y : Int32).toInt = 5
        · refine lv_tableIn (pc := 32) (off := 113) (tgt := 145) C0.1 C0.2.1 dX9_token_32 (by omega) (by omega) (by rw [t9]; rfl) (by decide) ?_
          refine lv_aload_n (pc := 145) C0.1 C0.2.1 dX9_token_145 rfl (lv_at hl 0 rfl) ?_
          refine xget (pc := 146) C0 hH 0 3 clX9 ⟨Nat.le_of_ble_eq_true rfl, Nat.le_of_ble_eq_true rfl⟩ ⟨rfl, rfl⟩ (Nat.le_of_ble_eq_true rfl) fl_X9_29 (v := .ref (b + 8)) rfl dX9_token_146 ?_
          refine xget (pc := 149) C0 hH 8 1 clX4 ⟨Nat.le_of_ble_eq_true rfl, Nat.le_of_ble_eq_true rfl⟩ ⟨rfl, rfl⟩ (Nat.le_of_ble_eq_true rfl) fl_X9_133 (v := .ref (b + 17)) rfl dX9_token_149 ?_
          refine xget (pc := 152) C0 hH 17 3 clX8 ⟨Nat.le_of_ble_eq_true rfl, Nat.le_of_ble_eq_true rfl⟩ ⟨rfl, rfl⟩ (Nat.le_of_ble_eq_true rfl) fl_X9_172 (v := .ref (b + 37)) rfl dX9_token_152 ?_
          refine lv_iload_n (pc := 155) C0.1 C0.2.1 dX9_token_155 rfl (lv_at hl 1 rfl) ?_
          refine xzald (pc := 156) (N := 600) C0 hH 37 ⟨Nat.le_of_ble_eq_true rfl, Nat.le_of_ble_eq_true rfl⟩ ⟨rfl, rfl⟩ (vI (by omega) (by omega)) dX9_token_156 ?_
          refine lv_if_eq (pc := 157) (tgt := 164) C0.1 C0.2.1 dX9_token_157 (by decide) (fun c10 => ?_) (fun c10 => ?_)
          · have : Int32.toInt 0 = 0 := rfl
            have c10 := congrArg Int32.toInt c10
            refine lv_iconst (pc := 164) (v := 0) C0.1 C0.2.1 dX9_token_164 (by decide) ?_
            exact xiret (pc := 165) C0 hr hH hS dX9_token_165 ⟨rfl, trivial⟩
          · have : Int32.toInt 0 = 0 := rfl
            have c10 : ¬ _ := fun q => c10 (Int32.toInt_inj.mp q)
            refine lv_iconst (pc := 160) (v := 1) C0.1 C0.2.1 dX9_token_160 (by decide) ?_
            refine lv_goto (pc := 161) (tgt := 165) C0.1 C0.2.1 dX9_token_161 (by decide) ?_
            exact xiret (pc := 165) C0 hr hH hS dX9_token_165 ⟨rfl, trivial⟩
        by_cases t11 : (y : Int32).toInt = 6
        · refine lv_tableIn (pc := 32) (off := 134) (tgt := 166) C0.1 C0.2.1 dX9_token_32 (by omega) (by omega) (by rw [t11]; rfl) (by decide) ?_
          refine lv_aload_n (pc := 166) C0.1 C0.2.1 dX9_token_166 rfl (lv_at hl 0 rfl) ?_
          refine xget (pc := 167) C0 hH 0 3 clX9 ⟨Nat.le_of_ble_eq_true rfl, Nat.le_of_ble_eq_true rfl⟩ ⟨rfl, rfl⟩ (Nat.le_of_ble_eq_true rfl) fl_X9_29 (v := .ref (b + 8)) rfl dX9_token_167 ?_
          refine xget (pc := 170) C0 hH 8 1 clX4 ⟨Nat.le_of_ble_eq_true rfl, Nat.le_of_ble_eq_true rfl⟩ ⟨rfl, rfl⟩ (Nat.le_of_ble_eq_true rfl) fl_X9_133 (v := .ref (b + 17)) rfl dX9_token_170 ?_
          refine xget (pc := 173) C0 hH 17 2 clX8 ⟨Nat.le_of_ble_eq_true rfl, Nat.le_of_ble_eq_true rfl⟩ ⟨rfl, rfl⟩ (Nat.le_of_ble_eq_true rfl) fl_X9_176 (v := .ref (b + 36)) rfl dX9_token_173 ?_
          refine lv_iload_n (pc := 176) C0.1 C0.2.1 dX9_token_176 rfl (lv_at hl 1 rfl) ?_
          refine xiald (pc := 177) (N := 600) C0 hH 36 ⟨Nat.le_of_ble_eq_true rfl, Nat.le_of_ble_eq_true rfl⟩ ⟨rfl, rfl⟩ (vI (by omega) (by omega)) dX9_token_177 ?_
          exact xiret (pc := 178) C0 hr hH hS dX9_token_178 ⟨rfl, trivial⟩
        by_cases t12 : (y : Int32).toInt = 7
        · refine lv_tableIn (pc := 32) (off := 147) (tgt := 179) C0.1 C0.2.1 dX9_token_32 (by omega) (by omega) (by rw [t12]; rfl) (by decide) ?_
          refine lv_aload_n (pc := 179) C0.1 C0.2.1 dX9_token_179 rfl (lv_at hl 0 rfl) ?_
          refine xget (pc := 180) C0 hH 0 3 clX9 ⟨Nat.le_of_ble_eq_true rfl, Nat.le_of_ble_eq_true rfl⟩ ⟨rfl, rfl⟩ (Nat.le_of_ble_eq_true rfl) fl_X9_29 (v := .ref (b + 8)) rfl dX9_token_180 ?_
          refine xget (pc := 183) C0 hH 8 1 clX4 ⟨Nat.le_of_ble_eq_true rfl, Nat.le_of_ble_eq_true rfl⟩ ⟨rfl, rfl⟩ (Nat.le_of_ble_eq_true rfl) fl_X9_133 (v := .ref (b + 17)) rfl dX9_token_183 ?_
          refine lv_iload_n (pc := 186) C0.1 C0.2.1 dX9_token_186 rfl (lv_at hl 1 rfl) ?_
          refine xcVI (pc := 187) 17 [.int x] (g_X8_blockOf_17 l D tA b i F G x hF) C0 hH hS clX8 rfl ⟨⟨Nat.le_of_ble_eq_true rfl, Nat.le_of_ble_eq_true rfl⟩, rfl, rfl⟩ cw_X9_179 rfl ⟨Nat.le_of_ble_eq_true rfl, Nat.le_of_ble_eq_true rfl⟩ hl.1 rfl (Nat.le_of_ble_eq_true rfl) dX9_token_187 ⟨Nat.le_of_ble_eq_true rfl, Nat.le_of_ble_eq_true rfl⟩ (fun r13 ir13 Fr13 Gr13 _ locs hp hH hS => ?_)
          obtain ⟨hu, hpr13⟩ := hp
          cases hu
          exact xiret (pc := 190) C0 hr hH hS dX9_token_190 ⟨rfl, trivial⟩
        refine lv_tableOut (pc := 32) (tgt := 191) C0.1 C0.2.1 dX9_token_32 (by omega) (by decide) ?_
        refine lv_bipush (pc := 191) (v := (-2)) C0.1 C0.2.1 dX9_token_191 (by decide) ?_
        exact xiret (pc := 193) C0 hr hH hS dX9_token_193 ⟨rfl, trivial⟩
      · have c3 : ¬ _ := fun q => c3 (Int32.lt_iff_toInt_lt.mpr q)
        refine lv_iconst (pc := 29) (v := (-1)) C0.1 C0.2.1 dX9_token_29 (by decide) ?_
        exact xiret (pc := 30) C0 hr hH hS dX9_token_30 ⟨rfl, trivial⟩
  · have : Int32.toInt 1 = 1 := rfl
    have c1 : ¬ _ := fun q => c1 (Int32.toInt_inj.mp q)
    refine lv_bipush (pc := 8) (v := (-3)) C0.1 C0.2.1 dX9_token_8 (by decide) ?_
    exact xiret (pc := 10) C0 hr hH hS dX9_token_10 ⟨rfl, trivial⟩
set_option maxHeartbeats 4000000 in
set_option maxRecDepth 100000 in
theorem g_X9_block (l : Launch) (D : va_G) (tA : Nat → ClassId) (b : Nat) (i F : Nat → Nat → Int32) (G : Nat → Nat → Int64) (x y : Int32) (hI : IC i F) : xMI l yX9_block cX9_block 4 (some .int) 1 21 D tA b 0 78 i F G [.ref (b + 0), .int x, .int y] (fun r u => u = (i, F, G) ∧ True) := by
  refine xstart RX9 rfl (by decide) (Nat.le_of_ble_eq_true rfl) ?_
  intro p e s m below meth c ls C0 hr hH hS hl
  have hl : lv_has ls 4 [(0, .ref (b + 0)), (1, .int x), (2, .int y)] := hl
  have rg_x := fb_rng x
  have rg_y := fb_rng y
  have hI0 := hI
  obtain ⟨hsz, hbf, hsz6, hbf7, htk, hF, hQ, htk2, hG, hQ2, hPg, hpt, hrw⟩ := hI0
  have hL := Tf17.lin hF
  have hL2 := Tf48.lin hG
  have hBs : i 1 = i 1 ∧ F 3 = F 3 ∧ G = G := ⟨rfl, rfl, rfl⟩
  refine lv_aload_n (pc := 0) C0.1 C0.2.1 dX9_block_0 rfl (lv_at hl 0 rfl) ?_
  refine xget (pc := 1) C0 hH 0 3 clX9 ⟨Nat.le_of_ble_eq_true rfl, Nat.le_of_ble_eq_true rfl⟩ ⟨rfl, rfl⟩ (Nat.le_of_ble_eq_true rfl) fl_X9_29 (v := .ref (b + 8)) rfl dX9_block_1 ?_
  refine xget (pc := 4) C0 hH 8 1 clX4 ⟨Nat.le_of_ble_eq_true rfl, Nat.le_of_ble_eq_true rfl⟩ ⟨rfl, rfl⟩ (Nat.le_of_ble_eq_true rfl) fl_X9_133 (v := .ref (b + 17)) rfl dX9_block_4 ?_
  refine xget (pc := 7) C0 hH 17 0 clX8 ⟨Nat.le_of_ble_eq_true rfl, Nat.le_of_ble_eq_true rfl⟩ ⟨rfl, rfl⟩ (Nat.le_of_ble_eq_true rfl) fl_X9_137 (v := .ref (b + 18)) rfl dX9_block_7 ?_
  refine lv_astore_n (pc := 10) (lv' := [(3, .ref (b + 18)), (0, .ref (b + 0)), (1, .int x), (2, .int y)]) C0.1 C0.2.1 dX9_block_10 rfl hl (by decide) rfl (fun ls hl => ?_)
  refine lv_aload_n (pc := 11) C0.1 C0.2.1 dX9_block_11 rfl (lv_at hl 1 rfl) ?_
  refine xget (pc := 12) C0 hH 0 8 clX9 ⟨Nat.le_of_ble_eq_true rfl, Nat.le_of_ble_eq_true rfl⟩ ⟨rfl, rfl⟩ (Nat.le_of_ble_eq_true rfl) fl_X9_53 (v := .int (i 0 8)) rfl dX9_block_12 ?_
  refine lv_iconst (pc := 15) (v := 1) C0.1 C0.2.1 dX9_block_15 (by decide) ?_
  refine lv_icmp_eq (pc := 16) (tgt := 22) C0.1 C0.2.1 dX9_block_16 (by decide) (fun c1 => ?_) (fun c1 => ?_)
  · have : Int32.toInt 1 = 1 := rfl
    have c1 := congrArg Int32.toInt c1
    refine lv_aload_n (pc := 22) C0.1 C0.2.1 dX9_block_22 rfl (lv_at hl 0 rfl) ?_
    refine lv_iload_n (pc := 23) C0.1 C0.2.1 dX9_block_23 rfl (lv_at hl 2 rfl) ?_
    refine xcVI (pc := 24) 18 [.int x] (g_X0_has_18 l D tA b i F G x ) C0 hH hS clX0 rfl ⟨⟨Nat.le_of_ble_eq_true rfl, Nat.le_of_ble_eq_true rfl⟩, rfl, rfl⟩ cw_X9_182 rfl ⟨Nat.le_of_ble_eq_true rfl, Nat.le_of_ble_eq_true rfl⟩ hl.1 rfl (Nat.le_of_ble_eq_true rfl) dX9_block_24 ⟨Nat.le_of_ble_eq_true rfl, Nat.le_of_ble_eq_true rfl⟩ (fun r2 ir2 Fr2 Gr2 _ locs hp hH hS => ?_)
    obtain ⟨hu, hpr2⟩ := hp
    cases hu
    refine lv_if_ne (pc := 27) (tgt := 32) C0.1 C0.2.1 dX9_block_27 (by decide) (fun c3 => ?_) (fun c3 => ?_)
    · have : Int32.toInt 0 = 0 := rfl
      have c3 : ¬ _ := fun q => c3 (Int32.toInt_inj.mp q)
      refine lv_iload_n (pc := 32) C0.1 C0.2.1 dX9_block_32 rfl (lv_at hl 3 rfl) ?_
      by_cases t4 : (y : Int32).toInt = 0
      · refine lv_tableIn (pc := 33) (off := 47) (tgt := 80) C0.1 C0.2.1 dX9_block_33 (by omega) (by omega) (by rw [t4]; rfl) (by decide) ?_
        refine lv_aload_n (pc := 80) C0.1 C0.2.1 dX9_block_80 rfl (lv_at hl 0 rfl) ?_
        refine xget (pc := 81) C0 hH 18 0 clX0 ⟨Nat.le_of_ble_eq_true rfl, Nat.le_of_ble_eq_true rfl⟩ ⟨rfl, rfl⟩ (Nat.le_of_ble_eq_true rfl) fl_X9_186 (v := .ref (b + 19)) rfl dX9_block_81 ?_
        refine lv_iload_n (pc := 84) C0.1 C0.2.1 dX9_block_84 rfl (lv_at hl 2 rfl) ?_
        refine xiald (pc := 85) (N := 601) C0 hH 19 ⟨Nat.le_of_ble_eq_true rfl, Nat.le_of_ble_eq_true rfl⟩ ⟨rfl, rfl⟩ (vI (by omega) (by omega)) dX9_block_85 ?_
        exact xiret (pc := 86) C0 hr hH hS dX9_block_86 ⟨rfl, trivial⟩
      by_cases t5 : (y : Int32).toInt = 1
      · refine lv_tableIn (pc := 33) (off := 54) (tgt := 87) C0.1 C0.2.1 dX9_block_33 (by omega) (by omega) (by rw [t5]; rfl) (by decide) ?_
        refine lv_aload_n (pc := 87) C0.1 C0.2.1 dX9_block_87 rfl (lv_at hl 0 rfl) ?_
        refine xget (pc := 88) C0 hH 18 1 clX0 ⟨Nat.le_of_ble_eq_true rfl, Nat.le_of_ble_eq_true rfl⟩ ⟨rfl, rfl⟩ (Nat.le_of_ble_eq_true rfl) fl_X9_189 (v := .ref (b + 20)) rfl dX9_block_88 ?_
        refine lv_iload_n (pc := 91) C0.1 C0.2.1 dX9_block_91 rfl (lv_at hl 2 rfl) ?_
        refine xiald (pc := 92) (N := 601) C0 hH 20 ⟨Nat.le_of_ble_eq_true rfl, Nat.le_of_ble_eq_true rfl⟩ ⟨rfl, rfl⟩ (vI (by omega) (by omega)) dX9_block_92 ?_
        exact xiret (pc := 93) C0 hr hH hS dX9_block_93 ⟨rfl, trivial⟩
      by_cases t6 : (y : Int32).toInt = 2
      · refine lv_tableIn (pc := 33) (off := 61) (tgt := 94) C0.1 C0.2.1 dX9_block_33 (by omega) (by omega) (by rw [t6]; rfl) (by decide) ?_
        refine lv_aload_n (pc := 94) C0.1 C0.2.1 dX9_block_94 rfl (lv_at hl 0 rfl) ?_
        refine xget (pc := 95) C0 hH 18 2 clX0 ⟨Nat.le_of_ble_eq_true rfl, Nat.le_of_ble_eq_true rfl⟩ ⟨rfl, rfl⟩ (Nat.le_of_ble_eq_true rfl) fl_X9_190 (v := .ref (b + 21)) rfl dX9_block_95 ?_
        refine lv_iload_n (pc := 98) C0.1 C0.2.1 dX9_block_98 rfl (lv_at hl 2 rfl) ?_
        refine xiald (pc := 99) (N := 601) C0 hH 21 ⟨Nat.le_of_ble_eq_true rfl, Nat.le_of_ble_eq_true rfl⟩ ⟨rfl, rfl⟩ (vI (by omega) (by omega)) dX9_block_99 ?_
        exact xiret (pc := 100) C0 hr hH hS dX9_block_100 ⟨rfl, trivial⟩
      by_cases t7 : (y : Int32).toInt = 3
      · refine lv_tableIn (pc := 33) (off := 68) (tgt := 101) C0.1 C0.2.1 dX9_block_33 (by omega) (by omega) (by rw [t7]; rfl) (by decide) ?_
        refine lv_aload_n (pc := 101) C0.1 C0.2.1 dX9_block_101 rfl (lv_at hl 0 rfl) ?_
        refine xget (pc := 102) C0 hH 18 3 clX0 ⟨Nat.le_of_ble_eq_true rfl, Nat.le_of_ble_eq_true rfl⟩ ⟨rfl, rfl⟩ (Nat.le_of_ble_eq_true rfl) fl_X9_193 (v := .ref (b + 22)) rfl dX9_block_102 ?_
        refine lv_iload_n (pc := 105) C0.1 C0.2.1 dX9_block_105 rfl (lv_at hl 2 rfl) ?_
        refine xiald (pc := 106) (N := 601) C0 hH 22 ⟨Nat.le_of_ble_eq_true rfl, Nat.le_of_ble_eq_true rfl⟩ ⟨rfl, rfl⟩ (vI (by omega) (by omega)) dX9_block_106 ?_
        exact xiret (pc := 107) C0 hr hH hS dX9_block_107 ⟨rfl, trivial⟩
      by_cases t8 : (y : Int32).toInt = 4
      · refine lv_tableIn (pc := 33) (off := 75) (tgt := 108) C0.1 C0.2.1 dX9_block_33 (by omega) (by omega) (by rw [t8]; rfl) (by decide) ?_
        refine lv_aload_n (pc := 108) C0.1 C0.2.1 dX9_block_108 rfl (lv_at hl 0 rfl) ?_
        refine xget (pc := 109) C0 hH 18 4 clX0 ⟨Nat.le_of_ble_eq_true rfl, Nat.le_of_ble_eq_true rfl⟩ ⟨rfl, rfl⟩ (Nat.le_of_ble_eq_true rfl) fl_X9_196 (v := .ref (b + 23)) rfl dX9_block_109 ?_
        refine lv_iload_n (pc := 112) C0.1 C0.2.1 dX9_block_112 rfl (lv_at hl 2 rfl) ?_
        refine xiald (pc := 113) (N := 601) C0 hH 23 ⟨Nat.le_of_ble_eq_true rfl, Nat.le_of_ble_eq_true rfl⟩ ⟨rfl, rfl⟩ (vI (by omega) (by omega)) dX9_block_113 ?_
        exact xiret (pc := 114) C0 hr hH hS dX9_block_114 ⟨rfl, trivial⟩
      by_cases t9 : (y : Int32).toInt = 5
      · refine lv_tableIn (pc := 33) (off := 82) (tgt := 115) C0.1 C0.2.1 dX9_block_33 (by omega) (by omega) (by rw [t9]; rfl) (by decide) ?_
        refine lv_aload_n (pc := 115) C0.1 C0.2.1 dX9_block_115 rfl (lv_at hl 0 rfl) ?_
        refine xget (pc := 116) C0 hH 18 5 clX0 ⟨Nat.le_of_ble_eq_true rfl, Nat.le_of_ble_eq_true rfl⟩ ⟨rfl, rfl⟩ (Nat.le_of_ble_eq_true rfl) fl_X9_199 (v := .ref (b + 24)) rfl dX9_block_116 ?_
        refine lv_iload_n (pc := 119) C0.1 C0.2.1 dX9_block_119 rfl (lv_at hl 2 rfl) ?_
        refine xiald (pc := 120) (N := 601) C0 hH 24 ⟨Nat.le_of_ble_eq_true rfl, Nat.le_of_ble_eq_true rfl⟩ ⟨rfl, rfl⟩ (vI (by omega) (by omega)) dX9_block_120 ?_
        exact xiret (pc := 121) C0 hr hH hS dX9_block_121 ⟨rfl, trivial⟩
      by_cases t10 : (y : Int32).toInt = 6
      · refine lv_tableIn (pc := 33) (off := 89) (tgt := 122) C0.1 C0.2.1 dX9_block_33 (by omega) (by omega) (by rw [t10]; rfl) (by decide) ?_
        refine lv_aload_n (pc := 122) C0.1 C0.2.1 dX9_block_122 rfl (lv_at hl 0 rfl) ?_
        refine xget (pc := 123) C0 hH 18 6 clX0 ⟨Nat.le_of_ble_eq_true rfl, Nat.le_of_ble_eq_true rfl⟩ ⟨rfl, rfl⟩ (Nat.le_of_ble_eq_true rfl) fl_X9_202 (v := .ref (b + 25)) rfl dX9_block_123 ?_
        refine lv_iload_n (pc := 126) C0.1 C0.2.1 dX9_block_126 rfl (lv_at hl 2 rfl) ?_
        refine xiald (pc := 127) (N := 601) C0 hH 25 ⟨Nat.le_of_ble_eq_true rfl, Nat.le_of_ble_eq_true rfl⟩ ⟨rfl, rfl⟩ (vI (by omega) (by omega)) dX9_block_127 ?_
        exact xiret (pc := 128) C0 hr hH hS dX9_block_128 ⟨rfl, trivial⟩
      by_cases t11 : (y : Int32).toInt = 7
      · refine lv_tableIn (pc := 33) (off := 96) (tgt := 129) C0.1 C0.2.1 dX9_block_33 (by omega) (by omega) (by rw [t11]; rfl) (by decide) ?_
        refine lv_aload_n (pc := 129) C0.1 C0.2.1 dX9_block_129 rfl (lv_at hl 0 rfl) ?_
        refine xget (pc := 130) C0 hH 18 7 clX0 ⟨Nat.le_of_ble_eq_true rfl, Nat.le_of_ble_eq_true rfl⟩ ⟨rfl, rfl⟩ (Nat.le_of_ble_eq_true rfl) fl_X9_205 (v := .ref (b + 26)) rfl dX9_block_130 ?_
        refine lv_iload_n (pc := 133) C0.1 C0.2.1 dX9_block_133 rfl (lv_at hl 2 rfl) ?_
        refine xiald (pc := 134) (N := 601) C0 hH 26 ⟨Nat.le_of_ble_eq_true rfl, Nat.le_of_ble_eq_true rfl⟩ ⟨rfl, rfl⟩ (vI (by omega) (by omega)) dX9_block_134 ?_
        exact xiret (pc := 135) C0 hr hH hS dX9_block_135 ⟨rfl, trivial⟩
      refine lv_tableOut (pc := 33) (tgt := 136) C0.1 C0.2.1 dX9_block_33 (by omega) (by decide) ?_
      refine lv_bipush (pc := 136) (v := (-2)) C0.1 C0.2.1 dX9_block_136 (by decide) ?_
      exact xiret (pc := 138) C0 hr hH hS dX9_block_138 ⟨rfl, trivial⟩
    · have : Int32.toInt 0 = 0 := rfl
      have c3 := congrArg Int32.toInt c3
      refine lv_iconst (pc := 30) (v := (-1)) C0.1 C0.2.1 dX9_block_30 (by decide) ?_
      exact xiret (pc := 31) C0 hr hH hS dX9_block_31 ⟨rfl, trivial⟩
  · have : Int32.toInt 1 = 1 := rfl
    have c1 : ¬ _ := fun q => c1 (Int32.toInt_inj.mp q)
    refine lv_bipush (pc := 19) (v := (-3)) C0.1 C0.2.1 dX9_block_19 (by decide) ?_
    exact xiret (pc := 21) C0 hr hH hS dX9_block_21 ⟨rfl, trivial⟩
set_option maxHeartbeats 4000000 in
set_option maxRecDepth 100000 in
theorem g_X9_item (l : Launch) (D : va_G) (tA : Nat → ClassId) (b : Nat) (i F : Nat → Nat → Int32) (G : Nat → Nat → Int64) (x y : Int32) (hI : IC i F) : xMI l yX9_item cX9_item 4 (some .int) 1 21 D tA b 0 78 i F G [.ref (b + 0), .int x, .int y] (fun r u => u = (i, F, G) ∧ True) := by
  refine xstart RX9 rfl (by decide) (Nat.le_of_ble_eq_true rfl) ?_
  intro p e s m below meth c ls C0 hr hH hS hl
  have hl : lv_has ls 4 [(0, .ref (b + 0)), (1, .int x), (2, .int y)] := hl
  have rg_x := fb_rng x
  have rg_y := fb_rng y
  have hI0 := hI
  obtain ⟨hsz, hbf, hsz6, hbf7, htk, hF, hQ, htk2, hG, hQ2, hPg, hpt, hrw⟩ := hI0
  have hL := Tf17.lin hF
  have hL2 := Tf48.lin hG
  have hBs : i 1 = i 1 ∧ F 3 = F 3 ∧ G = G := ⟨rfl, rfl, rfl⟩
  refine lv_aload_n (pc := 0) C0.1 C0.2.1 dX9_item_0 rfl (lv_at hl 0 rfl) ?_
  refine xget (pc := 1) C0 hH 0 3 clX9 ⟨Nat.le_of_ble_eq_true rfl, Nat.le_of_ble_eq_true rfl⟩ ⟨rfl, rfl⟩ (Nat.le_of_ble_eq_true rfl) fl_X9_29 (v := .ref (b + 8)) rfl dX9_item_1 ?_
  refine xget (pc := 4) C0 hH 8 1 clX4 ⟨Nat.le_of_ble_eq_true rfl, Nat.le_of_ble_eq_true rfl⟩ ⟨rfl, rfl⟩ (Nat.le_of_ble_eq_true rfl) fl_X9_133 (v := .ref (b + 17)) rfl dX9_item_4 ?_
  refine xget (pc := 7) C0 hH 17 1 clX8 ⟨Nat.le_of_ble_eq_true rfl, Nat.le_of_ble_eq_true rfl⟩ ⟨rfl, rfl⟩ (Nat.le_of_ble_eq_true rfl) fl_X9_146 (v := .ref (b + 28)) rfl dX9_item_7 ?_
  refine lv_astore_n (pc := 10) (lv' := [(3, .ref (b + 28)), (0, .ref (b + 0)), (1, .int x), (2, .int y)]) C0.1 C0.2.1 dX9_item_10 rfl hl (by decide) rfl (fun ls hl => ?_)
  refine lv_aload_n (pc := 11) C0.1 C0.2.1 dX9_item_11 rfl (lv_at hl 1 rfl) ?_
  refine xget (pc := 12) C0 hH 0 8 clX9 ⟨Nat.le_of_ble_eq_true rfl, Nat.le_of_ble_eq_true rfl⟩ ⟨rfl, rfl⟩ (Nat.le_of_ble_eq_true rfl) fl_X9_53 (v := .int (i 0 8)) rfl dX9_item_12 ?_
  refine lv_iconst (pc := 15) (v := 1) C0.1 C0.2.1 dX9_item_15 (by decide) ?_
  refine lv_icmp_eq (pc := 16) (tgt := 22) C0.1 C0.2.1 dX9_item_16 (by decide) (fun c1 => ?_) (fun c1 => ?_)
  · have : Int32.toInt 1 = 1 := rfl
    have c1 := congrArg Int32.toInt c1
    refine lv_aload_n (pc := 22) C0.1 C0.2.1 dX9_item_22 rfl (lv_at hl 0 rfl) ?_
    refine lv_iload_n (pc := 23) C0.1 C0.2.1 dX9_item_23 rfl (lv_at hl 2 rfl) ?_
    refine xcVI (pc := 24) 28 [.int x] (g_X2_has_28 l D tA b i F G x ) C0 hH hS clX2 rfl ⟨⟨Nat.le_of_ble_eq_true rfl, Nat.le_of_ble_eq_true rfl⟩, rfl, rfl⟩ cw_X9_208 rfl ⟨Nat.le_of_ble_eq_true rfl, Nat.le_of_ble_eq_true rfl⟩ hl.1 rfl (Nat.le_of_ble_eq_true rfl) dX9_item_24 ⟨Nat.le_of_ble_eq_true rfl, Nat.le_of_ble_eq_true rfl⟩ (fun r2 ir2 Fr2 Gr2 _ locs hp hH hS => ?_)
    obtain ⟨hu, hpr2⟩ := hp
    cases hu
    refine lv_if_ne (pc := 27) (tgt := 32) C0.1 C0.2.1 dX9_item_27 (by decide) (fun c3 => ?_) (fun c3 => ?_)
    · have : Int32.toInt 0 = 0 := rfl
      have c3 : ¬ _ := fun q => c3 (Int32.toInt_inj.mp q)
      refine lv_iload_n (pc := 32) C0.1 C0.2.1 dX9_item_32 rfl (lv_at hl 3 rfl) ?_
      by_cases t4 : (y : Int32).toInt = 0
      · refine lv_tableIn (pc := 33) (off := 35) (tgt := 68) C0.1 C0.2.1 dX9_item_33 (by omega) (by omega) (by rw [t4]; rfl) (by decide) ?_
        refine lv_aload_n (pc := 68) C0.1 C0.2.1 dX9_item_68 rfl (lv_at hl 0 rfl) ?_
        refine xget (pc := 69) C0 hH 28 0 clX2 ⟨Nat.le_of_ble_eq_true rfl, Nat.le_of_ble_eq_true rfl⟩ ⟨rfl, rfl⟩ (Nat.le_of_ble_eq_true rfl) fl_X9_209 (v := .ref (b + 29)) rfl dX9_item_69 ?_
        refine lv_iload_n (pc := 72) C0.1 C0.2.1 dX9_item_72 rfl (lv_at hl 2 rfl) ?_
        refine xiald (pc := 73) (N := 1200) C0 hH 29 ⟨Nat.le_of_ble_eq_true rfl, Nat.le_of_ble_eq_true rfl⟩ ⟨rfl, rfl⟩ (vI (by omega) (by omega)) dX9_item_73 ?_
        exact xiret (pc := 74) C0 hr hH hS dX9_item_74 ⟨rfl, trivial⟩
      by_cases t5 : (y : Int32).toInt = 1
      · refine lv_tableIn (pc := 33) (off := 42) (tgt := 75) C0.1 C0.2.1 dX9_item_33 (by omega) (by omega) (by rw [t5]; rfl) (by decide) ?_
        refine lv_aload_n (pc := 75) C0.1 C0.2.1 dX9_item_75 rfl (lv_at hl 0 rfl) ?_
        refine xget (pc := 76) C0 hH 28 2 clX2 ⟨Nat.le_of_ble_eq_true rfl, Nat.le_of_ble_eq_true rfl⟩ ⟨rfl, rfl⟩ (Nat.le_of_ble_eq_true rfl) fl_X9_212 (v := .ref (b + 31)) rfl dX9_item_76 ?_
        refine lv_iload_n (pc := 79) C0.1 C0.2.1 dX9_item_79 rfl (lv_at hl 2 rfl) ?_
        refine xiald (pc := 80) (N := 1200) C0 hH 31 ⟨Nat.le_of_ble_eq_true rfl, Nat.le_of_ble_eq_true rfl⟩ ⟨rfl, rfl⟩ (vI (by omega) (by omega)) dX9_item_80 ?_
        exact xiret (pc := 81) C0 hr hH hS dX9_item_81 ⟨rfl, trivial⟩
      by_cases t6 : (y : Int32).toInt = 2
      · refine lv_tableIn (pc := 33) (off := 49) (tgt := 82) C0.1 C0.2.1 dX9_item_33 (by omega) (by omega) (by rw [t6]; rfl) (by decide) ?_
        refine lv_aload_n (pc := 82) C0.1 C0.2.1 dX9_item_82 rfl (lv_at hl 0 rfl) ?_
        refine xget (pc := 83) C0 hH 28 3 clX2 ⟨Nat.le_of_ble_eq_true rfl, Nat.le_of_ble_eq_true rfl⟩ ⟨rfl, rfl⟩ (Nat.le_of_ble_eq_true rfl) fl_X9_213 (v := .ref (b + 32)) rfl dX9_item_83 ?_
        refine lv_iload_n (pc := 86) C0.1 C0.2.1 dX9_item_86 rfl (lv_at hl 2 rfl) ?_
        refine xiald (pc := 87) (N := 1200) C0 hH 32 ⟨Nat.le_of_ble_eq_true rfl, Nat.le_of_ble_eq_true rfl⟩ ⟨rfl, rfl⟩ (vI (by omega) (by omega)) dX9_item_87 ?_
        exact xiret (pc := 88) C0 hr hH hS dX9_item_88 ⟨rfl, trivial⟩
      by_cases t7 : (y : Int32).toInt = 3
      · refine lv_tableIn (pc := 33) (off := 56) (tgt := 89) C0.1 C0.2.1 dX9_item_33 (by omega) (by omega) (by rw [t7]; rfl) (by decide) ?_
        refine lv_aload_n (pc := 89) C0.1 C0.2.1 dX9_item_89 rfl (lv_at hl 0 rfl) ?_
        refine xget (pc := 90) C0 hH 28 4 clX2 ⟨Nat.le_of_ble_eq_true rfl, Nat.le_of_ble_eq_true rfl⟩ ⟨rfl, rfl⟩ (Nat.le_of_ble_eq_true rfl) fl_X9_214 (v := .ref (b + 33)) rfl dX9_item_90 ?_
        refine lv_iload_n (pc := 93) C0.1 C0.2.1 dX9_item_93 rfl (lv_at hl 2 rfl) ?_
        refine xiald (pc := 94) (N := 1200) C0 hH 33 ⟨Nat.le_of_ble_eq_true rfl, Nat.le_of_ble_eq_true rfl⟩ ⟨rfl, rfl⟩ (vI (by omega) (by omega)) dX9_item_94 ?_
        exact xiret (pc := 95) C0 hr hH hS dX9_item_95 ⟨rfl, trivial⟩
      by_cases t8 : (y : Int32).toInt = 4
      · refine lv_tableIn (pc := 33) (off := 63) (tgt := 96) C0.1 C0.2.1 dX9_item_33 (by omega) (by omega) (by rw [t8]; rfl) (by decide) ?_
        refine lv_aload_n (pc := 96) C0.1 C0.2.1 dX9_item_96 rfl (lv_at hl 0 rfl) ?_
        refine xget (pc := 97) C0 hH 28 1 clX2 ⟨Nat.le_of_ble_eq_true rfl, Nat.le_of_ble_eq_true rfl⟩ ⟨rfl, rfl⟩ (Nat.le_of_ble_eq_true rfl) fl_X9_217 (v := .ref (b + 30)) rfl dX9_item_97 ?_
        refine lv_iload_n (pc := 100) C0.1 C0.2.1 dX9_item_100 rfl (lv_at hl 2 rfl) ?_
        refine xiald (pc := 101) (N := 1200) C0 hH 30 ⟨Nat.le_of_ble_eq_true rfl, Nat.le_of_ble_eq_true rfl⟩ ⟨rfl, rfl⟩ (vI (by omega) (by omega)) dX9_item_101 ?_
        exact xiret (pc := 102) C0 hr hH hS dX9_item_102 ⟨rfl, trivial⟩
      refine lv_tableOut (pc := 33) (tgt := 103) C0.1 C0.2.1 dX9_item_33 (by omega) (by decide) ?_
      refine lv_bipush (pc := 103) (v := (-2)) C0.1 C0.2.1 dX9_item_103 (by decide) ?_
      exact xiret (pc := 105) C0 hr hH hS dX9_item_105 ⟨rfl, trivial⟩
    · have : Int32.toInt 0 = 0 := rfl
      have c3 := congrArg Int32.toInt c3
      refine lv_iconst (pc := 30) (v := (-1)) C0.1 C0.2.1 dX9_item_30 (by decide) ?_
      exact xiret (pc := 31) C0 hr hH hS dX9_item_31 ⟨rfl, trivial⟩
  · have : Int32.toInt 1 = 1 := rfl
    have c1 : ¬ _ := fun q => c1 (Int32.toInt_inj.mp q)
    refine lv_bipush (pc := 19) (v := (-3)) C0.1 C0.2.1 dX9_item_19 (by decide) ?_
    exact xiret (pc := 21) C0 hr hH hS dX9_item_21 ⟨rfl, trivial⟩
set_option maxHeartbeats 4000000 in
set_option maxRecDepth 100000 in
theorem g_X9_part (l : Launch) (D : va_G) (tA : Nat → ClassId) (b : Nat) (i F : Nat → Nat → Int32) (G : Nat → Nat → Int64) (x y : Int32) (hI : IC i F) : xMI l yX9_part cX9_part 4 (some .int) 1 24 D tA b 0 78 i F G [.ref (b + 0), .int x, .int y] (fun r u => u = (i, F, G) ∧ True) := by
  refine xstart RX9 rfl (by decide) (Nat.le_of_ble_eq_true rfl) ?_
  intro p e s m below meth c ls C0 hr hH hS hl
  have hl : lv_has ls 4 [(0, .ref (b + 0)), (1, .int x), (2, .int y)] := hl
  have rg_x := fb_rng x
  have rg_y := fb_rng y
  have hI0 := hI
  obtain ⟨hsz, hbf, hsz6, hbf7, htk, hF, hQ, htk2, hG, hQ2, hPg, hpt, hrw⟩ := hI0
  have hL := Tf17.lin hF
  have hL2 := Tf48.lin hG
  have hBs : i 1 = i 1 ∧ F 3 = F 3 ∧ G = G := ⟨rfl, rfl, rfl⟩
  refine lv_aload_n (pc := 0) C0.1 C0.2.1 dX9_part_0 rfl (lv_at hl 0 rfl) ?_
  refine xget (pc := 1) C0 hH 0 3 clX9 ⟨Nat.le_of_ble_eq_true rfl, Nat.le_of_ble_eq_true rfl⟩ ⟨rfl, rfl⟩ (Nat.le_of_ble_eq_true rfl) fl_X9_29 (v := .ref (b + 8)) rfl dX9_part_1 ?_
  refine xget (pc := 4) C0 hH 8 1 clX4 ⟨Nat.le_of_ble_eq_true rfl, Nat.le_of_ble_eq_true rfl⟩ ⟨rfl, rfl⟩ (Nat.le_of_ble_eq_true rfl) fl_X9_133 (v := .ref (b + 17)) rfl dX9_part_4 ?_
  refine xget (pc := 7) C0 hH 17 1 clX8 ⟨Nat.le_of_ble_eq_true rfl, Nat.le_of_ble_eq_true rfl⟩ ⟨rfl, rfl⟩ (Nat.le_of_ble_eq_true rfl) fl_X9_146 (v := .ref (b + 28)) rfl dX9_part_7 ?_
  refine lv_astore_n (pc := 10) (lv' := [(3, .ref (b + 28)), (0, .ref (b + 0)), (1, .int x), (2, .int y)]) C0.1 C0.2.1 dX9_part_10 rfl hl (by decide) rfl (fun ls hl => ?_)
  refine lv_aload_n (pc := 11) C0.1 C0.2.1 dX9_part_11 rfl (lv_at hl 1 rfl) ?_
  refine xget (pc := 12) C0 hH 0 8 clX9 ⟨Nat.le_of_ble_eq_true rfl, Nat.le_of_ble_eq_true rfl⟩ ⟨rfl, rfl⟩ (Nat.le_of_ble_eq_true rfl) fl_X9_53 (v := .int (i 0 8)) rfl dX9_part_12 ?_
  refine lv_iconst (pc := 15) (v := 1) C0.1 C0.2.1 dX9_part_15 (by decide) ?_
  refine lv_icmp_eq (pc := 16) (tgt := 22) C0.1 C0.2.1 dX9_part_16 (by decide) (fun c1 => ?_) (fun c1 => ?_)
  · have : Int32.toInt 1 = 1 := rfl
    have c1 := congrArg Int32.toInt c1
    refine lv_aload_n (pc := 22) C0.1 C0.2.1 dX9_part_22 rfl (lv_at hl 0 rfl) ?_
    refine lv_iload_n (pc := 23) C0.1 C0.2.1 dX9_part_23 rfl (lv_at hl 2 rfl) ?_
    refine xcVI (pc := 24) 28 [.int x] (g_X2_has_28 l D tA b i F G x ) C0 hH hS clX2 rfl ⟨⟨Nat.le_of_ble_eq_true rfl, Nat.le_of_ble_eq_true rfl⟩, rfl, rfl⟩ cw_X9_208 rfl ⟨Nat.le_of_ble_eq_true rfl, Nat.le_of_ble_eq_true rfl⟩ hl.1 rfl (Nat.le_of_ble_eq_true rfl) dX9_part_24 ⟨Nat.le_of_ble_eq_true rfl, Nat.le_of_ble_eq_true rfl⟩ (fun r2 ir2 Fr2 Gr2 _ locs hp hH hS => ?_)
    obtain ⟨hu, hpr2⟩ := hp
    cases hu
    refine lv_if_ne (pc := 27) (tgt := 32) C0.1 C0.2.1 dX9_part_27 (by decide) (fun c3 => ?_) (fun c3 => ?_)
    · have : Int32.toInt 0 = 0 := rfl
      have c3 : ¬ _ := fun q => c3 (Int32.toInt_inj.mp q)
      refine lv_iload_n (pc := 32) C0.1 C0.2.1 dX9_part_32 rfl (lv_at hl 3 rfl) ?_
      refine lv_if_lt (pc := 33) (tgt := 46) C0.1 C0.2.1 dX9_part_33 (by decide) (fun c4 => ?_) (fun c4 => ?_)
      · have : Int32.toInt 0 = 0 := rfl
        have c4 := Int32.lt_iff_toInt_lt.mp c4
        refine lv_bipush (pc := 46) (v := (-12)) C0.1 C0.2.1 dX9_part_46 (by decide) ?_
        exact xiret (pc := 48) C0 hr hH hS dX9_part_48 ⟨rfl, trivial⟩
      · have : Int32.toInt 0 = 0 := rfl
        have c4 : ¬ _ := fun q => c4 (Int32.lt_iff_toInt_lt.mpr q)
        refine lv_iload_n (pc := 36) C0.1 C0.2.1 dX9_part_36 rfl (lv_at hl 3 rfl) ?_
        refine lv_aload_n (pc := 37) C0.1 C0.2.1 dX9_part_37 rfl (lv_at hl 0 rfl) ?_
        refine xget (pc := 38) C0 hH 28 4 clX2 ⟨Nat.le_of_ble_eq_true rfl, Nat.le_of_ble_eq_true rfl⟩ ⟨rfl, rfl⟩ (Nat.le_of_ble_eq_true rfl) fl_X9_214 (v := .ref (b + 33)) rfl dX9_part_38 ?_
        refine lv_iload_n (pc := 41) C0.1 C0.2.1 dX9_part_41 rfl (lv_at hl 2 rfl) ?_
        refine xiald (pc := 42) (N := 1200) C0 hH 33 ⟨Nat.le_of_ble_eq_true rfl, Nat.le_of_ble_eq_true rfl⟩ ⟨rfl, rfl⟩ (vI (by omega) (by omega)) dX9_part_42 ?_
        refine lv_icmp_lt (pc := 43) (tgt := 49) C0.1 C0.2.1 dX9_part_43 (by decide) (fun c5 => ?_) (fun c5 => ?_)
        · have c5 := Int32.lt_iff_toInt_lt.mp c5
          refine lv_aload_n (pc := 49) C0.1 C0.2.1 dX9_part_49 rfl (lv_at hl 0 rfl) ?_
          refine lv_iload_n (pc := 50) C0.1 C0.2.1 dX9_part_50 rfl (lv_at hl 2 rfl) ?_
          refine lv_iload_n (pc := 51) C0.1 C0.2.1 dX9_part_51 rfl (lv_at hl 3 rfl) ?_
          refine xcVI (pc := 52) 28 [.int x, .int y] (g_X2_partOf_17 l D tA b i F G x y hF) C0 hH hS clX2 rfl ⟨⟨Nat.le_of_ble_eq_true rfl, Nat.le_of_ble_eq_true rfl⟩, rfl, rfl⟩ cw_X9_220 rfl ⟨Nat.le_of_ble_eq_true rfl, Nat.le_of_ble_eq_true rfl⟩ hl.1 rfl (Nat.le_of_ble_eq_true rfl) dX9_part_52 ⟨Nat.le_of_ble_eq_true rfl, Nat.le_of_ble_eq_true rfl⟩ (fun r6 ir6 Fr6 Gr6 _ locs hp hH hS => ?_)
          obtain ⟨hu, hpr6⟩ := hp
          cases hu
          exact xiret (pc := 55) C0 hr hH hS dX9_part_55 ⟨rfl, trivial⟩
        · have c5 : ¬ _ := fun q => c5 (Int32.lt_iff_toInt_lt.mpr q)
          refine lv_bipush (pc := 46) (v := (-12)) C0.1 C0.2.1 dX9_part_46 (by decide) ?_
          exact xiret (pc := 48) C0 hr hH hS dX9_part_48 ⟨rfl, trivial⟩
    · have : Int32.toInt 0 = 0 := rfl
      have c3 := congrArg Int32.toInt c3
      refine lv_iconst (pc := 30) (v := (-1)) C0.1 C0.2.1 dX9_part_30 (by decide) ?_
      exact xiret (pc := 31) C0 hr hH hS dX9_part_31 ⟨rfl, trivial⟩
  · have : Int32.toInt 1 = 1 := rfl
    have c1 : ¬ _ := fun q => c1 (Int32.toInt_inj.mp q)
    refine lv_bipush (pc := 19) (v := (-3)) C0.1 C0.2.1 dX9_part_19 (by decide) ?_
    exact xiret (pc := 21) C0 hr hH hS dX9_part_21 ⟨rfl, trivial⟩
set_option maxHeartbeats 4000000 in
set_option maxRecDepth 100000 in
theorem g_X9_itemAs (l : Launch) (D : va_G) (tA : Nat → ClassId) (b : Nat) (i F : Nat → Nat → Int32) (G : Nat → Nat → Int64) (x y z : Int32) (hI : IC i F) : xMI l yX9_itemAs cX9_itemAs 5 (some .int) 2 41 D tA b 0 78 i F G [.ref (b + 0), .int x, .int y, .int z] (fun r u => u = (i, F, G) ∧ True) := by
  refine xstart RX9 rfl (by decide) (Nat.le_of_ble_eq_true rfl) ?_
  intro p e s m below meth c ls C0 hr hH hS hl
  have hl : lv_has ls 5 [(0, .ref (b + 0)), (1, .int x), (2, .int y), (3, .int z)] := hl
  have rg_x := fb_rng x
  have rg_y := fb_rng y
  have rg_z := fb_rng z
  have hI0 := hI
  obtain ⟨hsz, hbf, hsz6, hbf7, htk, hF, hQ, htk2, hG, hQ2, hPg, hpt, hrw⟩ := hI0
  have hL := Tf17.lin hF
  have hL2 := Tf48.lin hG
  have hBs : i 1 = i 1 ∧ F 3 = F 3 ∧ G = G := ⟨rfl, rfl, rfl⟩
  refine lv_aload_n (pc := 0) C0.1 C0.2.1 dX9_itemAs_0 rfl (lv_at hl 0 rfl) ?_
  refine xget (pc := 1) C0 hH 0 3 clX9 ⟨Nat.le_of_ble_eq_true rfl, Nat.le_of_ble_eq_true rfl⟩ ⟨rfl, rfl⟩ (Nat.le_of_ble_eq_true rfl) fl_X9_29 (v := .ref (b + 8)) rfl dX9_itemAs_1 ?_
  refine xget (pc := 4) C0 hH 8 1 clX4 ⟨Nat.le_of_ble_eq_true rfl, Nat.le_of_ble_eq_true rfl⟩ ⟨rfl, rfl⟩ (Nat.le_of_ble_eq_true rfl) fl_X9_133 (v := .ref (b + 17)) rfl dX9_itemAs_4 ?_
  refine xget (pc := 7) C0 hH 17 0 clX8 ⟨Nat.le_of_ble_eq_true rfl, Nat.le_of_ble_eq_true rfl⟩ ⟨rfl, rfl⟩ (Nat.le_of_ble_eq_true rfl) fl_X9_137 (v := .ref (b + 18)) rfl dX9_itemAs_7 ?_
  refine lv_astore (pc := 10) (lv' := [(4, .ref (b + 18)), (0, .ref (b + 0)), (1, .int x), (2, .int y), (3, .int z)]) C0.1 C0.2.1 dX9_itemAs_10 hl (by decide) rfl (fun ls hl => ?_)
  refine lv_aload_n (pc := 12) C0.1 C0.2.1 dX9_itemAs_12 rfl (lv_at hl 1 rfl) ?_
  refine xget (pc := 13) C0 hH 0 8 clX9 ⟨Nat.le_of_ble_eq_true rfl, Nat.le_of_ble_eq_true rfl⟩ ⟨rfl, rfl⟩ (Nat.le_of_ble_eq_true rfl) fl_X9_53 (v := .int (i 0 8)) rfl dX9_itemAs_13 ?_
  refine lv_iconst (pc := 16) (v := 1) C0.1 C0.2.1 dX9_itemAs_16 (by decide) ?_
  refine lv_icmp_eq (pc := 17) (tgt := 23) C0.1 C0.2.1 dX9_itemAs_17 (by decide) (fun c1 => ?_) (fun c1 => ?_)
  · have : Int32.toInt 1 = 1 := rfl
    have c1 := congrArg Int32.toInt c1
    refine lv_aload (pc := 23) C0.1 C0.2.1 dX9_itemAs_23 (lv_at hl 0 rfl) ?_
    refine lv_iload_n (pc := 25) C0.1 C0.2.1 dX9_itemAs_25 rfl (lv_at hl 2 rfl) ?_
    refine xcVI (pc := 26) 18 [.int x] (g_X0_has_18 l D tA b i F G x ) C0 hH hS clX0 rfl ⟨⟨Nat.le_of_ble_eq_true rfl, Nat.le_of_ble_eq_true rfl⟩, rfl, rfl⟩ cw_X9_182 rfl ⟨Nat.le_of_ble_eq_true rfl, Nat.le_of_ble_eq_true rfl⟩ hl.1 rfl (Nat.le_of_ble_eq_true rfl) dX9_itemAs_26 ⟨Nat.le_of_ble_eq_true rfl, Nat.le_of_ble_eq_true rfl⟩ (fun r2 ir2 Fr2 Gr2 _ locs hp hH hS => ?_)
    obtain ⟨hu, hpr2⟩ := hp
    cases hu
    refine lv_if_ne (pc := 29) (tgt := 34) C0.1 C0.2.1 dX9_itemAs_29 (by decide) (fun c3 => ?_) (fun c3 => ?_)
    · have : Int32.toInt 0 = 0 := rfl
      have c3 : ¬ _ := fun q => c3 (Int32.toInt_inj.mp q)
      refine lv_iload_n (pc := 34) C0.1 C0.2.1 dX9_itemAs_34 rfl (lv_at hl 3 rfl) ?_
      refine lv_if_lt (pc := 35) (tgt := 43) C0.1 C0.2.1 dX9_itemAs_35 (by decide) (fun c4 => ?_) (fun c4 => ?_)
      · have : Int32.toInt 0 = 0 := rfl
        have c4 := Int32.lt_iff_toInt_lt.mp c4
        refine lv_bipush (pc := 43) (v := (-2)) C0.1 C0.2.1 dX9_itemAs_43 (by decide) ?_
        exact xiret (pc := 45) C0 hr hH hS dX9_itemAs_45 ⟨rfl, trivial⟩
      · have : Int32.toInt 0 = 0 := rfl
        have c4 : ¬ _ := fun q => c4 (Int32.lt_iff_toInt_lt.mpr q)
        refine lv_iload_n (pc := 38) C0.1 C0.2.1 dX9_itemAs_38 rfl (lv_at hl 3 rfl) ?_
        refine lv_iconst (pc := 39) (v := 5) C0.1 C0.2.1 dX9_itemAs_39 (by decide) ?_
        refine lv_icmp_le (pc := 40) (tgt := 46) C0.1 C0.2.1 dX9_itemAs_40 (by decide) (fun c5 => ?_) (fun c5 => ?_)
        · have : Int32.toInt 5 = 5 := rfl
          have c5 := Int32.le_iff_toInt_le.mp c5
          refine lv_aload (pc := 46) C0.1 C0.2.1 dX9_itemAs_46 (lv_at hl 0 rfl) ?_
          refine xget (pc := 48) C0 hH 18 0 clX0 ⟨Nat.le_of_ble_eq_true rfl, Nat.le_of_ble_eq_true rfl⟩ ⟨rfl, rfl⟩ (Nat.le_of_ble_eq_true rfl) fl_X9_186 (v := .ref (b + 19)) rfl dX9_itemAs_48 ?_
          refine lv_iload_n (pc := 51) C0.1 C0.2.1 dX9_itemAs_51 rfl (lv_at hl 2 rfl) ?_
          refine xiald (pc := 52) (N := 601) C0 hH 19 ⟨Nat.le_of_ble_eq_true rfl, Nat.le_of_ble_eq_true rfl⟩ ⟨rfl, rfl⟩ (vI (by omega) (by omega)) dX9_itemAs_52 ?_
          refine lv_iload_n (pc := 53) C0.1 C0.2.1 dX9_itemAs_53 rfl (lv_at hl 3 rfl) ?_
          refine xcSI (pc := 54) [.int (F 19 (Int32.toNatClampNeg x)), .int y] (g_X9_passesAs l D tA b i F G (F 19 (Int32.toNatClampNeg x)) y ) C0 hH hS cw_X9_223 rfl ⟨Nat.le_of_ble_eq_true rfl, Nat.le_of_ble_eq_true rfl⟩ hl.1 rfl (Nat.le_of_ble_eq_true rfl) dX9_itemAs_54 ⟨Nat.le_of_ble_eq_true rfl, Nat.le_of_ble_eq_true rfl⟩ (fun r6 ir6 Fr6 Gr6 _ locs hp hH hS => ?_)
          obtain ⟨hu, hpr6⟩ := hp
          cases hu
          refine lv_if_ne (pc := 57) (tgt := 63) C0.1 C0.2.1 dX9_itemAs_57 (by decide) (fun c7 => ?_) (fun c7 => ?_)
          · have : Int32.toInt 0 = 0 := rfl
            have c7 : ¬ _ := fun q => c7 (Int32.toInt_inj.mp q)
            refine lv_iload_n (pc := 63) C0.1 C0.2.1 dX9_itemAs_63 rfl (lv_at hl 4 rfl) ?_
            refine lv_if_lt (pc := 64) (tgt := 78) C0.1 C0.2.1 dX9_itemAs_64 (by decide) (fun c8 => ?_) (fun c8 => ?_)
            · have : Int32.toInt 0 = 0 := rfl
              have c8 := Int32.lt_iff_toInt_lt.mp c8
              refine lv_bipush (pc := 78) (v := (-12)) C0.1 C0.2.1 dX9_itemAs_78 (by decide) ?_
              exact xiret (pc := 80) C0 hr hH hS dX9_itemAs_80 ⟨rfl, trivial⟩
            · have : Int32.toInt 0 = 0 := rfl
              have c8 : ¬ _ := fun q => c8 (Int32.lt_iff_toInt_lt.mpr q)
              refine lv_iload_n (pc := 67) C0.1 C0.2.1 dX9_itemAs_67 rfl (lv_at hl 4 rfl) ?_
              refine lv_aload (pc := 68) C0.1 C0.2.1 dX9_itemAs_68 (lv_at hl 0 rfl) ?_
              refine xget (pc := 70) C0 hH 18 3 clX0 ⟨Nat.le_of_ble_eq_true rfl, Nat.le_of_ble_eq_true rfl⟩ ⟨rfl, rfl⟩ (Nat.le_of_ble_eq_true rfl) fl_X9_193 (v := .ref (b + 22)) rfl dX9_itemAs_70 ?_
              refine lv_iload_n (pc := 73) C0.1 C0.2.1 dX9_itemAs_73 rfl (lv_at hl 2 rfl) ?_
              refine xiald (pc := 74) (N := 601) C0 hH 22 ⟨Nat.le_of_ble_eq_true rfl, Nat.le_of_ble_eq_true rfl⟩ ⟨rfl, rfl⟩ (vI (by omega) (by omega)) dX9_itemAs_74 ?_
              refine lv_icmp_lt (pc := 75) (tgt := 81) C0.1 C0.2.1 dX9_itemAs_75 (by decide) (fun c9 => ?_) (fun c9 => ?_)
              · have c9 := Int32.lt_iff_toInt_lt.mp c9
                refine lv_aload_n (pc := 81) C0.1 C0.2.1 dX9_itemAs_81 rfl (lv_at hl 1 rfl) ?_
                refine xget (pc := 82) C0 hH 0 3 clX9 ⟨Nat.le_of_ble_eq_true rfl, Nat.le_of_ble_eq_true rfl⟩ ⟨rfl, rfl⟩ (Nat.le_of_ble_eq_true rfl) fl_X9_29 (v := .ref (b + 8)) rfl dX9_itemAs_82 ?_
                refine xget (pc := 85) C0 hH 8 1 clX4 ⟨Nat.le_of_ble_eq_true rfl, Nat.le_of_ble_eq_true rfl⟩ ⟨rfl, rfl⟩ (Nat.le_of_ble_eq_true rfl) fl_X9_133 (v := .ref (b + 17)) rfl dX9_itemAs_85 ?_
                refine xget (pc := 88) C0 hH 17 1 clX8 ⟨Nat.le_of_ble_eq_true rfl, Nat.le_of_ble_eq_true rfl⟩ ⟨rfl, rfl⟩ (Nat.le_of_ble_eq_true rfl) fl_X9_146 (v := .ref (b + 28)) rfl dX9_itemAs_88 ?_
                refine lv_iload_n (pc := 91) C0.1 C0.2.1 dX9_itemAs_91 rfl (lv_at hl 2 rfl) ?_
                refine lv_iload_n (pc := 92) C0.1 C0.2.1 dX9_itemAs_92 rfl (lv_at hl 4 rfl) ?_
                refine xcVI (pc := 93) 28 [.int x, .int z] (g_X2_find_17 l D tA b i F G x z hF) C0 hH hS clX2 rfl ⟨⟨Nat.le_of_ble_eq_true rfl, Nat.le_of_ble_eq_true rfl⟩, rfl, rfl⟩ cw_X9_227 rfl ⟨Nat.le_of_ble_eq_true rfl, Nat.le_of_ble_eq_true rfl⟩ hl.1 rfl (Nat.le_of_ble_eq_true rfl) dX9_itemAs_93 ⟨Nat.le_of_ble_eq_true rfl, Nat.le_of_ble_eq_true rfl⟩ (fun r10 ir10 Fr10 Gr10 _ locs hp hH hS => ?_)
                obtain ⟨hu, hpr10⟩ := hp
                cases hu
                exact xiret (pc := 96) C0 hr hH hS dX9_itemAs_96 ⟨rfl, trivial⟩
              · have c9 : ¬ _ := fun q => c9 (Int32.lt_iff_toInt_lt.mpr q)
                refine lv_bipush (pc := 78) (v := (-12)) C0.1 C0.2.1 dX9_itemAs_78 (by decide) ?_
                exact xiret (pc := 80) C0 hr hH hS dX9_itemAs_80 ⟨rfl, trivial⟩
          · have : Int32.toInt 0 = 0 := rfl
            have c7 := congrArg Int32.toInt c7
            refine lv_bipush (pc := 60) (v := (-11)) C0.1 C0.2.1 dX9_itemAs_60 (by decide) ?_
            exact xiret (pc := 62) C0 hr hH hS dX9_itemAs_62 ⟨rfl, trivial⟩
        · have : Int32.toInt 5 = 5 := rfl
          have c5 : ¬ _ := fun q => c5 (Int32.le_iff_toInt_le.mpr q)
          refine lv_bipush (pc := 43) (v := (-2)) C0.1 C0.2.1 dX9_itemAs_43 (by decide) ?_
          exact xiret (pc := 45) C0 hr hH hS dX9_itemAs_45 ⟨rfl, trivial⟩
    · have : Int32.toInt 0 = 0 := rfl
      have c3 := congrArg Int32.toInt c3
      refine lv_iconst (pc := 32) (v := (-1)) C0.1 C0.2.1 dX9_itemAs_32 (by decide) ?_
      exact xiret (pc := 33) C0 hr hH hS dX9_itemAs_33 ⟨rfl, trivial⟩
  · have : Int32.toInt 1 = 1 := rfl
    have c1 : ¬ _ := fun q => c1 (Int32.toInt_inj.mp q)
    refine lv_bipush (pc := 20) (v := (-3)) C0.1 C0.2.1 dX9_itemAs_20 (by decide) ?_
    exact xiret (pc := 22) C0 hr hH hS dX9_itemAs_22 ⟨rfl, trivial⟩
set_option maxHeartbeats 4000000 in
set_option maxRecDepth 100000 in
theorem g_X9_reach (l : Launch) (D : va_G) (tA : Nat → ClassId) (b : Nat) (i F : Nat → Nat → Int32) (G : Nat → Nat → Int64) (x y z : Int32) (hI : IC i F) : xMI l yX9_reach cX9_reach 6 (some .int) 4 95 D tA b 0 78 i F G [.ref (b + 0), .int x, .int y, .int z] (fun r u => u = (i, F, G) ∧ True) := by
  refine xstart RX9 rfl (by decide) (Nat.le_of_ble_eq_true rfl) ?_
  intro p e s m below meth c ls C0 hr hH hS hl
  have hl : lv_has ls 6 [(0, .ref (b + 0)), (1, .int x), (2, .int y), (3, .int z)] := hl
  have rg_x := fb_rng x
  have rg_y := fb_rng y
  have rg_z := fb_rng z
  have hI0 := hI
  obtain ⟨hsz, hbf, hsz6, hbf7, htk, hF, hQ, htk2, hG, hQ2, hPg, hpt, hrw⟩ := hI0
  have hL := Tf17.lin hF
  have hL2 := Tf48.lin hG
  have hBs : i 1 = i 1 ∧ F 3 = F 3 ∧ G = G := ⟨rfl, rfl, rfl⟩
  refine lv_aload_n (pc := 0) C0.1 C0.2.1 dX9_reach_0 rfl (lv_at hl 0 rfl) ?_
  refine xget (pc := 1) C0 hH 0 3 clX9 ⟨Nat.le_of_ble_eq_true rfl, Nat.le_of_ble_eq_true rfl⟩ ⟨rfl, rfl⟩ (Nat.le_of_ble_eq_true rfl) fl_X9_29 (v := .ref (b + 8)) rfl dX9_reach_1 ?_
  refine xget (pc := 4) C0 hH 8 1 clX4 ⟨Nat.le_of_ble_eq_true rfl, Nat.le_of_ble_eq_true rfl⟩ ⟨rfl, rfl⟩ (Nat.le_of_ble_eq_true rfl) fl_X9_133 (v := .ref (b + 17)) rfl dX9_reach_4 ?_
  refine xget (pc := 7) C0 hH 17 0 clX8 ⟨Nat.le_of_ble_eq_true rfl, Nat.le_of_ble_eq_true rfl⟩ ⟨rfl, rfl⟩ (Nat.le_of_ble_eq_true rfl) fl_X9_137 (v := .ref (b + 18)) rfl dX9_reach_7 ?_
  refine lv_astore (pc := 10) (lv' := [(4, .ref (b + 18)), (0, .ref (b + 0)), (1, .int x), (2, .int y), (3, .int z)]) C0.1 C0.2.1 dX9_reach_10 hl (by decide) rfl (fun ls hl => ?_)
  refine lv_aload_n (pc := 12) C0.1 C0.2.1 dX9_reach_12 rfl (lv_at hl 1 rfl) ?_
  refine xget (pc := 13) C0 hH 0 3 clX9 ⟨Nat.le_of_ble_eq_true rfl, Nat.le_of_ble_eq_true rfl⟩ ⟨rfl, rfl⟩ (Nat.le_of_ble_eq_true rfl) fl_X9_29 (v := .ref (b + 8)) rfl dX9_reach_13 ?_
  refine xget (pc := 16) C0 hH 8 1 clX4 ⟨Nat.le_of_ble_eq_true rfl, Nat.le_of_ble_eq_true rfl⟩ ⟨rfl, rfl⟩ (Nat.le_of_ble_eq_true rfl) fl_X9_133 (v := .ref (b + 17)) rfl dX9_reach_16 ?_
  refine xget (pc := 19) C0 hH 17 1 clX8 ⟨Nat.le_of_ble_eq_true rfl, Nat.le_of_ble_eq_true rfl⟩ ⟨rfl, rfl⟩ (Nat.le_of_ble_eq_true rfl) fl_X9_146 (v := .ref (b + 28)) rfl dX9_reach_19 ?_
  refine lv_astore (pc := 22) (lv' := [(5, .ref (b + 28)), (4, .ref (b + 18)), (0, .ref (b + 0)), (1, .int x), (2, .int y), (3, .int z)]) C0.1 C0.2.1 dX9_reach_22 hl (by decide) rfl (fun ls hl => ?_)
  refine lv_aload_n (pc := 24) C0.1 C0.2.1 dX9_reach_24 rfl (lv_at hl 2 rfl) ?_
  refine xget (pc := 25) C0 hH 0 8 clX9 ⟨Nat.le_of_ble_eq_true rfl, Nat.le_of_ble_eq_true rfl⟩ ⟨rfl, rfl⟩ (Nat.le_of_ble_eq_true rfl) fl_X9_53 (v := .int (i 0 8)) rfl dX9_reach_25 ?_
  refine lv_iconst (pc := 28) (v := 1) C0.1 C0.2.1 dX9_reach_28 (by decide) ?_
  refine lv_icmp_eq (pc := 29) (tgt := 35) C0.1 C0.2.1 dX9_reach_29 (by decide) (fun c1 => ?_) (fun c1 => ?_)
  · have : Int32.toInt 1 = 1 := rfl
    have c1 := congrArg Int32.toInt c1
    refine lv_iload_n (pc := 35) C0.1 C0.2.1 dX9_reach_35 rfl (lv_at hl 3 rfl) ?_
    refine lv_if_eq (pc := 36) (tgt := 51) C0.1 C0.2.1 dX9_reach_36 (by decide) (fun c2 => ?_) (fun c2 => ?_)
    · have : Int32.toInt 0 = 0 := rfl
      have c2 := congrArg Int32.toInt c2
      refine lv_aload (pc := 51) C0.1 C0.2.1 dX9_reach_51 (lv_at hl 0 rfl) ?_
      refine lv_iload_n (pc := 53) C0.1 C0.2.1 dX9_reach_53 rfl (lv_at hl 4 rfl) ?_
      refine xcVI (pc := 54) 28 [.int y] (g_X2_has_28 l D tA b i F G y ) C0 hH hS clX2 rfl ⟨⟨Nat.le_of_ble_eq_true rfl, Nat.le_of_ble_eq_true rfl⟩, rfl, rfl⟩ cw_X9_208 rfl ⟨Nat.le_of_ble_eq_true rfl, Nat.le_of_ble_eq_true rfl⟩ hl.1 rfl (Nat.le_of_ble_eq_true rfl) dX9_reach_54 ⟨Nat.le_of_ble_eq_true rfl, Nat.le_of_ble_eq_true rfl⟩ (fun r3 ir3 Fr3 Gr3 _ locs hp hH hS => ?_)
      obtain ⟨hu, hpr3⟩ := hp
      cases hu
      refine lv_if_ne (pc := 57) (tgt := 62) C0.1 C0.2.1 dX9_reach_57 (by decide) (fun c4 => ?_) (fun c4 => ?_)
      · have : Int32.toInt 0 = 0 := rfl
        have c4 : ¬ _ := fun q => c4 (Int32.toInt_inj.mp q)
        refine lv_iload_n (pc := 62) C0.1 C0.2.1 dX9_reach_62 rfl (lv_at hl 5 rfl) ?_
        refine lv_if_lt (pc := 63) (tgt := 71) C0.1 C0.2.1 dX9_reach_63 (by decide) (fun c5 => ?_) (fun c5 => ?_)
        · have : Int32.toInt 0 = 0 := rfl
          have c5 := Int32.lt_iff_toInt_lt.mp c5
          refine lv_bipush (pc := 71) (v := (-2)) C0.1 C0.2.1 dX9_reach_71 (by decide) ?_
          exact xiret (pc := 73) C0 hr hH hS dX9_reach_73 ⟨rfl, trivial⟩
        · have : Int32.toInt 0 = 0 := rfl
          have c5 : ¬ _ := fun q => c5 (Int32.lt_iff_toInt_lt.mpr q)
          refine lv_iload_n (pc := 66) C0.1 C0.2.1 dX9_reach_66 rfl (lv_at hl 5 rfl) ?_
          refine lv_iconst (pc := 67) (v := 3) C0.1 C0.2.1 dX9_reach_67 (by decide) ?_
          refine lv_icmp_le (pc := 68) (tgt := 74) C0.1 C0.2.1 dX9_reach_68 (by decide) (fun c6 => ?_) (fun c6 => ?_)
          · have : Int32.toInt 3 = 3 := rfl
            have c6 := Int32.le_iff_toInt_le.mp c6
            refine lv_iload_n (pc := 74) C0.1 C0.2.1 dX9_reach_74 rfl (lv_at hl 5 rfl) ?_
            refine lv_iconst (pc := 75) (v := 2) C0.1 C0.2.1 dX9_reach_75 (by decide) ?_
            refine lv_icmp_ge (pc := 76) (tgt := 114) C0.1 C0.2.1 dX9_reach_76 (by decide) (fun c7 => ?_) (fun c7 => ?_)
            · have : Int32.toInt 2 = 2 := rfl
              have c7 := Int32.le_iff_toInt_le.mp c7
              refine lv_aload_n (pc := 114) C0.1 C0.2.1 dX9_reach_114 rfl (lv_at hl 2 rfl) ?_
              refine lv_iload_n (pc := 115) C0.1 C0.2.1 dX9_reach_115 rfl (lv_at hl 3 rfl) ?_
              refine lv_if_eq (pc := 116) (tgt := 129) C0.1 C0.2.1 dX9_reach_116 (by decide) (fun c8 => ?_) (fun c8 => ?_)
              · have : Int32.toInt 0 = 0 := rfl
                have c8 := congrArg Int32.toInt c8
                refine lv_aload (pc := 129) C0.1 C0.2.1 dX9_reach_129 (lv_at hl 0 rfl) ?_
                refine xget (pc := 131) C0 hH 28 3 clX2 ⟨Nat.le_of_ble_eq_true rfl, Nat.le_of_ble_eq_true rfl⟩ ⟨rfl, rfl⟩ (Nat.le_of_ble_eq_true rfl) fl_X9_213 (v := .ref (b + 32)) rfl dX9_reach_131 ?_
                refine lv_iload_n (pc := 134) C0.1 C0.2.1 dX9_reach_134 rfl (lv_at hl 4 rfl) ?_
                refine xiald (pc := 135) (N := 1200) C0 hH 32 ⟨Nat.le_of_ble_eq_true rfl, Nat.le_of_ble_eq_true rfl⟩ ⟨rfl, rfl⟩ (vI (by omega) (by omega)) dX9_reach_135 ?_
                refine lv_iload_n (pc := 136) C0.1 C0.2.1 dX9_reach_136 rfl (lv_at hl 5 rfl) ?_
                refine lv_iconst (pc := 137) (v := 2) C0.1 C0.2.1 dX9_reach_137 (by decide) ?_
                refine lv_icmp_ne (pc := 138) (tgt := 145) C0.1 C0.2.1 dX9_reach_138 (by decide) (fun c9 => ?_) (fun c9 => ?_)
                · have : Int32.toInt 2 = 2 := rfl
                  have c9 : ¬ _ := fun q => c9 (Int32.toInt_inj.mp q)
                  refine lv_iconst (pc := 145) (v := 0) C0.1 C0.2.1 dX9_reach_145 (by decide) ?_
                  refine xcVI (pc := 146) 0 [.int (F 32 (Int32.toNatClampNeg y)), .int 0] (g_X9_reachLast l D tA b i F G (F 32 (Int32.toNatClampNeg y)) 0 hI) C0 hH hS clX9 rfl ⟨⟨Nat.le_of_ble_eq_true rfl, Nat.le_of_ble_eq_true rfl⟩, rfl, rfl⟩ cw_X9_234 rfl ⟨Nat.le_of_ble_eq_true rfl, Nat.le_of_ble_eq_true rfl⟩ hl.1 rfl (Nat.le_of_ble_eq_true rfl) dX9_reach_146 ⟨Nat.le_of_ble_eq_true rfl, Nat.le_of_ble_eq_true rfl⟩ (fun r10 ir10 Fr10 Gr10 _ locs hp hH hS => ?_)
                  obtain ⟨hu, hpr10⟩ := hp
                  cases hu
                  exact xiret (pc := 149) C0 hr hH hS dX9_reach_149 ⟨rfl, trivial⟩
                · have : Int32.toInt 2 = 2 := rfl
                  have c9 := congrArg Int32.toInt c9
                  refine lv_iconst (pc := 141) (v := 1) C0.1 C0.2.1 dX9_reach_141 (by decide) ?_
                  refine lv_goto (pc := 142) (tgt := 146) C0.1 C0.2.1 dX9_reach_142 (by decide) ?_
                  refine xcVI (pc := 146) 0 [.int (F 32 (Int32.toNatClampNeg y)), .int 1] (g_X9_reachLast l D tA b i F G (F 32 (Int32.toNatClampNeg y)) 1 hI) C0 hH hS clX9 rfl ⟨⟨Nat.le_of_ble_eq_true rfl, Nat.le_of_ble_eq_true rfl⟩, rfl, rfl⟩ cw_X9_234 rfl ⟨Nat.le_of_ble_eq_true rfl, Nat.le_of_ble_eq_true rfl⟩ hl.1 rfl (Nat.le_of_ble_eq_true rfl) dX9_reach_146 ⟨Nat.le_of_ble_eq_true rfl, Nat.le_of_ble_eq_true rfl⟩ (fun r11 ir11 Fr11 Gr11 _ locs hp hH hS => ?_)
                  obtain ⟨hu, hpr11⟩ := hp
                  cases hu
                  exact xiret (pc := 149) C0 hr hH hS dX9_reach_149 ⟨rfl, trivial⟩
              · have : Int32.toInt 0 = 0 := rfl
                have c8 : ¬ _ := fun q => c8 (Int32.toInt_inj.mp q)
                refine lv_aload (pc := 119) C0.1 C0.2.1 dX9_reach_119 (lv_at hl 1 rfl) ?_
                refine xget (pc := 121) C0 hH 18 5 clX0 ⟨Nat.le_of_ble_eq_true rfl, Nat.le_of_ble_eq_true rfl⟩ ⟨rfl, rfl⟩ (Nat.le_of_ble_eq_true rfl) fl_X9_199 (v := .ref (b + 24)) rfl dX9_reach_121 ?_
                refine lv_iload_n (pc := 124) C0.1 C0.2.1 dX9_reach_124 rfl (lv_at hl 4 rfl) ?_
                refine xiald (pc := 125) (N := 601) C0 hH 24 ⟨Nat.le_of_ble_eq_true rfl, Nat.le_of_ble_eq_true rfl⟩ ⟨rfl, rfl⟩ (vI (by omega) (by omega)) dX9_reach_125 ?_
                refine lv_goto (pc := 126) (tgt := 136) C0.1 C0.2.1 dX9_reach_126 (by decide) ?_
                refine lv_iload_n (pc := 136) C0.1 C0.2.1 dX9_reach_136 rfl (lv_at hl 5 rfl) ?_
                refine lv_iconst (pc := 137) (v := 2) C0.1 C0.2.1 dX9_reach_137 (by decide) ?_
                refine lv_icmp_ne (pc := 138) (tgt := 145) C0.1 C0.2.1 dX9_reach_138 (by decide) (fun c12 => ?_) (fun c12 => ?_)
                · have : Int32.toInt 2 = 2 := rfl
                  have c12 : ¬ _ := fun q => c12 (Int32.toInt_inj.mp q)
                  refine lv_iconst (pc := 145) (v := 0) C0.1 C0.2.1 dX9_reach_145 (by decide) ?_
                  refine xcVI (pc := 146) 0 [.int (F 24 (Int32.toNatClampNeg y)), .int 0] (g_X9_reachLast l D tA b i F G (F 24 (Int32.toNatClampNeg y)) 0 hI) C0 hH hS clX9 rfl ⟨⟨Nat.le_of_ble_eq_true rfl, Nat.le_of_ble_eq_true rfl⟩, rfl, rfl⟩ cw_X9_234 rfl ⟨Nat.le_of_ble_eq_true rfl, Nat.le_of_ble_eq_true rfl⟩ hl.1 rfl (Nat.le_of_ble_eq_true rfl) dX9_reach_146 ⟨Nat.le_of_ble_eq_true rfl, Nat.le_of_ble_eq_true rfl⟩ (fun r13 ir13 Fr13 Gr13 _ locs hp hH hS => ?_)
                  obtain ⟨hu, hpr13⟩ := hp
                  cases hu
                  exact xiret (pc := 149) C0 hr hH hS dX9_reach_149 ⟨rfl, trivial⟩
                · have : Int32.toInt 2 = 2 := rfl
                  have c12 := congrArg Int32.toInt c12
                  refine lv_iconst (pc := 141) (v := 1) C0.1 C0.2.1 dX9_reach_141 (by decide) ?_
                  refine lv_goto (pc := 142) (tgt := 146) C0.1 C0.2.1 dX9_reach_142 (by decide) ?_
                  refine xcVI (pc := 146) 0 [.int (F 24 (Int32.toNatClampNeg y)), .int 1] (g_X9_reachLast l D tA b i F G (F 24 (Int32.toNatClampNeg y)) 1 hI) C0 hH hS clX9 rfl ⟨⟨Nat.le_of_ble_eq_true rfl, Nat.le_of_ble_eq_true rfl⟩, rfl, rfl⟩ cw_X9_234 rfl ⟨Nat.le_of_ble_eq_true rfl, Nat.le_of_ble_eq_true rfl⟩ hl.1 rfl (Nat.le_of_ble_eq_true rfl) dX9_reach_146 ⟨Nat.le_of_ble_eq_true rfl, Nat.le_of_ble_eq_true rfl⟩ (fun r14 ir14 Fr14 Gr14 _ locs hp hH hS => ?_)
                  obtain ⟨hu, hpr14⟩ := hp
                  cases hu
                  exact xiret (pc := 149) C0 hr hH hS dX9_reach_149 ⟨rfl, trivial⟩
            · have : Int32.toInt 2 = 2 := rfl
              have c7 : ¬ _ := fun q => c7 (Int32.le_iff_toInt_le.mpr q)
              refine lv_aload_n (pc := 79) C0.1 C0.2.1 dX9_reach_79 rfl (lv_at hl 2 rfl) ?_
              refine lv_iload_n (pc := 80) C0.1 C0.2.1 dX9_reach_80 rfl (lv_at hl 3 rfl) ?_
              refine lv_if_eq (pc := 81) (tgt := 94) C0.1 C0.2.1 dX9_reach_81 (by decide) (fun c15 => ?_) (fun c15 => ?_)
              · have : Int32.toInt 0 = 0 := rfl
                have c15 := congrArg Int32.toInt c15
                refine lv_aload (pc := 94) C0.1 C0.2.1 dX9_reach_94 (lv_at hl 0 rfl) ?_
                refine xget (pc := 96) C0 hH 28 2 clX2 ⟨Nat.le_of_ble_eq_true rfl, Nat.le_of_ble_eq_true rfl⟩ ⟨rfl, rfl⟩ (Nat.le_of_ble_eq_true rfl) fl_X9_212 (v := .ref (b + 31)) rfl dX9_reach_96 ?_
                refine lv_iload_n (pc := 99) C0.1 C0.2.1 dX9_reach_99 rfl (lv_at hl 4 rfl) ?_
                refine xiald (pc := 100) (N := 1200) C0 hH 31 ⟨Nat.le_of_ble_eq_true rfl, Nat.le_of_ble_eq_true rfl⟩ ⟨rfl, rfl⟩ (vI (by omega) (by omega)) dX9_reach_100 ?_
                refine lv_iload_n (pc := 101) C0.1 C0.2.1 dX9_reach_101 rfl (lv_at hl 5 rfl) ?_
                refine lv_if_ne (pc := 102) (tgt := 109) C0.1 C0.2.1 dX9_reach_102 (by decide) (fun c16 => ?_) (fun c16 => ?_)
                · have : Int32.toInt 0 = 0 := rfl
                  have c16 : ¬ _ := fun q => c16 (Int32.toInt_inj.mp q)
                  refine lv_iconst (pc := 109) (v := 0) C0.1 C0.2.1 dX9_reach_109 (by decide) ?_
                  refine xcVI (pc := 110) 0 [.int (F 31 (Int32.toNatClampNeg y)), .int 0] (g_X9_reachFirst l D tA b i F G (F 31 (Int32.toNatClampNeg y)) 0 hI) C0 hH hS clX9 rfl ⟨⟨Nat.le_of_ble_eq_true rfl, Nat.le_of_ble_eq_true rfl⟩, rfl, rfl⟩ cw_X9_230 rfl ⟨Nat.le_of_ble_eq_true rfl, Nat.le_of_ble_eq_true rfl⟩ hl.1 rfl (Nat.le_of_ble_eq_true rfl) dX9_reach_110 ⟨Nat.le_of_ble_eq_true rfl, Nat.le_of_ble_eq_true rfl⟩ (fun r17 ir17 Fr17 Gr17 _ locs hp hH hS => ?_)
                  obtain ⟨hu, hpr17⟩ := hp
                  cases hu
                  exact xiret (pc := 113) C0 hr hH hS dX9_reach_113 ⟨rfl, trivial⟩
                · have : Int32.toInt 0 = 0 := rfl
                  have c16 := congrArg Int32.toInt c16
                  refine lv_iconst (pc := 105) (v := 1) C0.1 C0.2.1 dX9_reach_105 (by decide) ?_
                  refine lv_goto (pc := 106) (tgt := 110) C0.1 C0.2.1 dX9_reach_106 (by decide) ?_
                  refine xcVI (pc := 110) 0 [.int (F 31 (Int32.toNatClampNeg y)), .int 1] (g_X9_reachFirst l D tA b i F G (F 31 (Int32.toNatClampNeg y)) 1 hI) C0 hH hS clX9 rfl ⟨⟨Nat.le_of_ble_eq_true rfl, Nat.le_of_ble_eq_true rfl⟩, rfl, rfl⟩ cw_X9_230 rfl ⟨Nat.le_of_ble_eq_true rfl, Nat.le_of_ble_eq_true rfl⟩ hl.1 rfl (Nat.le_of_ble_eq_true rfl) dX9_reach_110 ⟨Nat.le_of_ble_eq_true rfl, Nat.le_of_ble_eq_true rfl⟩ (fun r18 ir18 Fr18 Gr18 _ locs hp hH hS => ?_)
                  obtain ⟨hu, hpr18⟩ := hp
                  cases hu
                  exact xiret (pc := 113) C0 hr hH hS dX9_reach_113 ⟨rfl, trivial⟩
              · have : Int32.toInt 0 = 0 := rfl
                have c15 : ¬ _ := fun q => c15 (Int32.toInt_inj.mp q)
                refine lv_aload (pc := 84) C0.1 C0.2.1 dX9_reach_84 (lv_at hl 1 rfl) ?_
                refine xget (pc := 86) C0 hH 18 4 clX0 ⟨Nat.le_of_ble_eq_true rfl, Nat.le_of_ble_eq_true rfl⟩ ⟨rfl, rfl⟩ (Nat.le_of_ble_eq_true rfl) fl_X9_196 (v := .ref (b + 23)) rfl dX9_reach_86 ?_
                refine lv_iload_n (pc := 89) C0.1 C0.2.1 dX9_reach_89 rfl (lv_at hl 4 rfl) ?_
                refine xiald (pc := 90) (N := 601) C0 hH 23 ⟨Nat.le_of_ble_eq_true rfl, Nat.le_of_ble_eq_true rfl⟩ ⟨rfl, rfl⟩ (vI (by omega) (by omega)) dX9_reach_90 ?_
                refine lv_goto (pc := 91) (tgt := 101) C0.1 C0.2.1 dX9_reach_91 (by decide) ?_
                refine lv_iload_n (pc := 101) C0.1 C0.2.1 dX9_reach_101 rfl (lv_at hl 5 rfl) ?_
                refine lv_if_ne (pc := 102) (tgt := 109) C0.1 C0.2.1 dX9_reach_102 (by decide) (fun c19 => ?_) (fun c19 => ?_)
                · have : Int32.toInt 0 = 0 := rfl
                  have c19 : ¬ _ := fun q => c19 (Int32.toInt_inj.mp q)
                  refine lv_iconst (pc := 109) (v := 0) C0.1 C0.2.1 dX9_reach_109 (by decide) ?_
                  refine xcVI (pc := 110) 0 [.int (F 23 (Int32.toNatClampNeg y)), .int 0] (g_X9_reachFirst l D tA b i F G (F 23 (Int32.toNatClampNeg y)) 0 hI) C0 hH hS clX9 rfl ⟨⟨Nat.le_of_ble_eq_true rfl, Nat.le_of_ble_eq_true rfl⟩, rfl, rfl⟩ cw_X9_230 rfl ⟨Nat.le_of_ble_eq_true rfl, Nat.le_of_ble_eq_true rfl⟩ hl.1 rfl (Nat.le_of_ble_eq_true rfl) dX9_reach_110 ⟨Nat.le_of_ble_eq_true rfl, Nat.le_of_ble_eq_true rfl⟩ (fun r20 ir20 Fr20 Gr20 _ locs hp hH hS => ?_)
                  obtain ⟨hu, hpr20⟩ := hp
                  cases hu
                  exact xiret (pc := 113) C0 hr hH hS dX9_reach_113 ⟨rfl, trivial⟩
                · have : Int32.toInt 0 = 0 := rfl
                  have c19 := congrArg Int32.toInt c19
                  refine lv_iconst (pc := 105) (v := 1) C0.1 C0.2.1 dX9_reach_105 (by decide) ?_
                  refine lv_goto (pc := 106) (tgt := 110) C0.1 C0.2.1 dX9_reach_106 (by decide) ?_
                  refine xcVI (pc := 110) 0 [.int (F 23 (Int32.toNatClampNeg y)), .int 1] (g_X9_reachFirst l D tA b i F G (F 23 (Int32.toNatClampNeg y)) 1 hI) C0 hH hS clX9 rfl ⟨⟨Nat.le_of_ble_eq_true rfl, Nat.le_of_ble_eq_true rfl⟩, rfl, rfl⟩ cw_X9_230 rfl ⟨Nat.le_of_ble_eq_true rfl, Nat.le_of_ble_eq_true rfl⟩ hl.1 rfl (Nat.le_of_ble_eq_true rfl) dX9_reach_110 ⟨Nat.le_of_ble_eq_true rfl, Nat.le_of_ble_eq_true rfl⟩ (fun r21 ir21 Fr21 Gr21 _ locs hp hH hS => ?_)
                  obtain ⟨hu, hpr21⟩ := hp
                  cases hu
                  exact xiret (pc := 113) C0 hr hH hS dX9_reach_113 ⟨rfl, trivial⟩
          · have : Int32.toInt 3 = 3 := rfl
            have c6 : ¬ _ := fun q => c6 (Int32.le_iff_toInt_le.mpr q)
            refine lv_bipush (pc := 71) (v := (-2)) C0.1 C0.2.1 dX9_reach_71 (by decide) ?_
            exact xiret (pc := 73) C0 hr hH hS dX9_reach_73 ⟨rfl, trivial⟩
      · have : Int32.toInt 0 = 0 := rfl
        have c4 := congrArg Int32.toInt c4
        refine lv_iconst (pc := 60) (v := (-1)) C0.1 C0.2.1 dX9_reach_60 (by decide) ?_
        exact xiret (pc := 61) C0 hr hH hS dX9_reach_61 ⟨rfl, trivial⟩
    · have : Int32.toInt 0 = 0 := rfl
      have c2 : ¬ _ := fun q => c2 (Int32.toInt_inj.mp q)
      refine lv_aload (pc := 39) C0.1 C0.2.1 dX9_reach_39 (lv_at hl 1 rfl) ?_
      refine lv_iload_n (pc := 41) C0.1 C0.2.1 dX9_reach_41 rfl (lv_at hl 4 rfl) ?_
      refine xcVI (pc := 42) 18 [.int y] (g_X0_has_18 l D tA b i F G y ) C0 hH hS clX0 rfl ⟨⟨Nat.le_of_ble_eq_true rfl, Nat.le_of_ble_eq_true rfl⟩, rfl, rfl⟩ cw_X9_182 rfl ⟨Nat.le_of_ble_eq_true rfl, Nat.le_of_ble_eq_true rfl⟩ hl.1 rfl (Nat.le_of_ble_eq_true rfl) dX9_reach_42 ⟨Nat.le_of_ble_eq_true rfl, Nat.le_of_ble_eq_true rfl⟩ (fun r22 ir22 Fr22 Gr22 _ locs hp hH hS => ?_)
      obtain ⟨hu, hpr22⟩ := hp
      cases hu
      refine lv_if_ne (pc := 45) (tgt := 62) C0.1 C0.2.1 dX9_reach_45 (by decide) (fun c23 => ?_) (fun c23 => ?_)
      · have : Int32.toInt 0 = 0 := rfl
        have c23 : ¬ _ := fun q => c23 (Int32.toInt_inj.mp q)
        refine lv_iload_n (pc := 62) C0.1 C0.2.1 dX9_reach_62 rfl (lv_at hl 5 rfl) ?_
        refine lv_if_lt (pc := 63) (tgt := 71) C0.1 C0.2.1 dX9_reach_63 (by decide) (fun c24 => ?_) (fun c24 => ?_)
        · have : Int32.toInt 0 = 0 := rfl
          have c24 := Int32.lt_iff_toInt_lt.mp c24
          refine lv_bipush (pc := 71) (v := (-2)) C0.1 C0.2.1 dX9_reach_71 (by decide) ?_
          exact xiret (pc := 73) C0 hr hH hS dX9_reach_73 ⟨rfl, trivial⟩
        · have : Int32.toInt 0 = 0 := rfl
          have c24 : ¬ _ := fun q => c24 (Int32.lt_iff_toInt_lt.mpr q)
          refine lv_iload_n (pc := 66) C0.1 C0.2.1 dX9_reach_66 rfl (lv_at hl 5 rfl) ?_
          refine lv_iconst (pc := 67) (v := 3) C0.1 C0.2.1 dX9_reach_67 (by decide) ?_
          refine lv_icmp_le (pc := 68) (tgt := 74) C0.1 C0.2.1 dX9_reach_68 (by decide) (fun c25 => ?_) (fun c25 => ?_)
          · have : Int32.toInt 3 = 3 := rfl
            have c25 := Int32.le_iff_toInt_le.mp c25
            refine lv_iload_n (pc := 74) C0.1 C0.2.1 dX9_reach_74 rfl (lv_at hl 5 rfl) ?_
            refine lv_iconst (pc := 75) (v := 2) C0.1 C0.2.1 dX9_reach_75 (by decide) ?_
            refine lv_icmp_ge (pc := 76) (tgt := 114) C0.1 C0.2.1 dX9_reach_76 (by decide) (fun c26 => ?_) (fun c26 => ?_)
            · have : Int32.toInt 2 = 2 := rfl
              have c26 := Int32.le_iff_toInt_le.mp c26
              refine lv_aload_n (pc := 114) C0.1 C0.2.1 dX9_reach_114 rfl (lv_at hl 2 rfl) ?_
              refine lv_iload_n (pc := 115) C0.1 C0.2.1 dX9_reach_115 rfl (lv_at hl 3 rfl) ?_
              refine lv_if_eq (pc := 116) (tgt := 129) C0.1 C0.2.1 dX9_reach_116 (by decide) (fun c27 => ?_) (fun c27 => ?_)
              · have : Int32.toInt 0 = 0 := rfl
                have c27 := congrArg Int32.toInt c27
                refine lv_aload (pc := 129) C0.1 C0.2.1 dX9_reach_129 (lv_at hl 0 rfl) ?_
                refine xget (pc := 131) C0 hH 28 3 clX2 ⟨Nat.le_of_ble_eq_true rfl, Nat.le_of_ble_eq_true rfl⟩ ⟨rfl, rfl⟩ (Nat.le_of_ble_eq_true rfl) fl_X9_213 (v := .ref (b + 32)) rfl dX9_reach_131 ?_
                refine lv_iload_n (pc := 134) C0.1 C0.2.1 dX9_reach_134 rfl (lv_at hl 4 rfl) ?_
                refine xiald (pc := 135) (N := 1200) C0 hH 32 ⟨Nat.le_of_ble_eq_true rfl, Nat.le_of_ble_eq_true rfl⟩ ⟨rfl, rfl⟩ (vI (by omega) (by omega)) dX9_reach_135 ?_
                refine lv_iload_n (pc := 136) C0.1 C0.2.1 dX9_reach_136 rfl (lv_at hl 5 rfl) ?_
                refine lv_iconst (pc := 137) (v := 2) C0.1 C0.2.1 dX9_reach_137 (by decide) ?_
                refine lv_icmp_ne (pc := 138) (tgt := 145) C0.1 C0.2.1 dX9_reach_138 (by decide) (fun c28 => ?_) (fun c28 => ?_)
                · have : Int32.toInt 2 = 2 := rfl
                  have c28 : ¬ _ := fun q => c28 (Int32.toInt_inj.mp q)
                  refine lv_iconst (pc := 145) (v := 0) C0.1 C0.2.1 dX9_reach_145 (by decide) ?_
                  refine xcVI (pc := 146) 0 [.int (F 32 (Int32.toNatClampNeg y)), .int 0] (g_X9_reachLast l D tA b i F G (F 32 (Int32.toNatClampNeg y)) 0 hI) C0 hH hS clX9 rfl ⟨⟨Nat.le_of_ble_eq_true rfl, Nat.le_of_ble_eq_true rfl⟩, rfl, rfl⟩ cw_X9_234 rfl ⟨Nat.le_of_ble_eq_true rfl, Nat.le_of_ble_eq_true rfl⟩ hl.1 rfl (Nat.le_of_ble_eq_true rfl) dX9_reach_146 ⟨Nat.le_of_ble_eq_true rfl, Nat.le_of_ble_eq_true rfl⟩ (fun r29 ir29 Fr29 Gr29 _ locs hp hH hS => ?_)
                  obtain ⟨hu, hpr29⟩ := hp
                  cases hu
                  exact xiret (pc := 149) C0 hr hH hS dX9_reach_149 ⟨rfl, trivial⟩
                · have : Int32.toInt 2 = 2 := rfl
                  have c28 := congrArg Int32.toInt c28
                  refine lv_iconst (pc := 141) (v := 1) C0.1 C0.2.1 dX9_reach_141 (by decide) ?_
                  refine lv_goto (pc := 142) (tgt := 146) C0.1 C0.2.1 dX9_reach_142 (by decide) ?_
                  refine xcVI (pc := 146) 0 [.int (F 32 (Int32.toNatClampNeg y)), .int 1] (g_X9_reachLast l D tA b i F G (F 32 (Int32.toNatClampNeg y)) 1 hI) C0 hH hS clX9 rfl ⟨⟨Nat.le_of_ble_eq_true rfl, Nat.le_of_ble_eq_true rfl⟩, rfl, rfl⟩ cw_X9_234 rfl ⟨Nat.le_of_ble_eq_true rfl, Nat.le_of_ble_eq_true rfl⟩ hl.1 rfl (Nat.le_of_ble_eq_true rfl) dX9_reach_146 ⟨Nat.le_of_ble_eq_true rfl, Nat.le_of_ble_eq_true rfl⟩ (fun r30 ir30 Fr30 Gr30 _ locs hp hH hS => ?_)
                  obtain ⟨hu, hpr30⟩ := hp
                  cases hu
                  exact xiret (pc := 149) C0 hr hH hS dX9_reach_149 ⟨rfl, trivial⟩
              · have : Int32.toInt 0 = 0 := rfl
                have c27 : ¬ _ := fun q => c27 (Int32.toInt_inj.mp q)
                refine lv_aload (pc := 119) C0.1 C0.2.1 dX9_reach_119 (lv_at hl 1 rfl) ?_
                refine xget (pc := 121) C0 hH 18 5 clX0 ⟨Nat.le_of_ble_eq_true rfl, Nat.le_of_ble_eq_true rfl⟩ ⟨rfl, rfl⟩ (Nat.le_of_ble_eq_true rfl) fl_X9_199 (v := .ref (b + 24)) rfl dX9_reach_121 ?_
                refine lv_iload_n (pc := 124) C0.1 C0.2.1 dX9_reach_124 rfl (lv_at hl 4 rfl) ?_
                refine xiald (pc := 125) (N := 601) C0 hH 24 ⟨Nat.le_of_ble_eq_true rfl, Nat.le_of_ble_eq_true rfl⟩ ⟨rfl, rfl⟩ (vI (by omega) (by omega)) dX9_reach_125 ?_
                refine lv_goto (pc := 126) (tgt := 136) C0.1 C0.2.1 dX9_reach_126 (by decide) ?_
                refine lv_iload_n (pc := 136) C0.1 C0.2.1 dX9_reach_136 rfl (lv_at hl 5 rfl) ?_
                refine lv_iconst (pc := 137) (v := 2) C0.1 C0.2.1 dX9_reach_137 (by decide) ?_
                refine lv_icmp_ne (pc := 138) (tgt := 145) C0.1 C0.2.1 dX9_reach_138 (by decide) (fun c31 => ?_) (fun c31 => ?_)
                · have : Int32.toInt 2 = 2 := rfl
                  have c31 : ¬ _ := fun q => c31 (Int32.toInt_inj.mp q)
                  refine lv_iconst (pc := 145) (v := 0) C0.1 C0.2.1 dX9_reach_145 (by decide) ?_
                  refine xcVI (pc := 146) 0 [.int (F 24 (Int32.toNatClampNeg y)), .int 0] (g_X9_reachLast l D tA b i F G (F 24 (Int32.toNatClampNeg y)) 0 hI) C0 hH hS clX9 rfl ⟨⟨Nat.le_of_ble_eq_true rfl, Nat.le_of_ble_eq_true rfl⟩, rfl, rfl⟩ cw_X9_234 rfl ⟨Nat.le_of_ble_eq_true rfl, Nat.le_of_ble_eq_true rfl⟩ hl.1 rfl (Nat.le_of_ble_eq_true rfl) dX9_reach_146 ⟨Nat.le_of_ble_eq_true rfl, Nat.le_of_ble_eq_true rfl⟩ (fun r32 ir32 Fr32 Gr32 _ locs hp hH hS => ?_)
                  obtain ⟨hu, hpr32⟩ := hp
                  cases hu
                  exact xiret (pc := 149) C0 hr hH hS dX9_reach_149 ⟨rfl, trivial⟩
                · have : Int32.toInt 2 = 2 := rfl
                  have c31 := congrArg Int32.toInt c31
                  refine lv_iconst (pc := 141) (v := 1) C0.1 C0.2.1 dX9_reach_141 (by decide) ?_
                  refine lv_goto (pc := 142) (tgt := 146) C0.1 C0.2.1 dX9_reach_142 (by decide) ?_
                  refine xcVI (pc := 146) 0 [.int (F 24 (Int32.toNatClampNeg y)), .int 1] (g_X9_reachLast l D tA b i F G (F 24 (Int32.toNatClampNeg y)) 1 hI) C0 hH hS clX9 rfl ⟨⟨Nat.le_of_ble_eq_true rfl, Nat.le_of_ble_eq_true rfl⟩, rfl, rfl⟩ cw_X9_234 rfl ⟨Nat.le_of_ble_eq_true rfl, Nat.le_of_ble_eq_true rfl⟩ hl.1 rfl (Nat.le_of_ble_eq_true rfl) dX9_reach_146 ⟨Nat.le_of_ble_eq_true rfl, Nat.le_of_ble_eq_true rfl⟩ (fun r33 ir33 Fr33 Gr33 _ locs hp hH hS => ?_)
                  obtain ⟨hu, hpr33⟩ := hp
                  cases hu
                  exact xiret (pc := 149) C0 hr hH hS dX9_reach_149 ⟨rfl, trivial⟩
            · have : Int32.toInt 2 = 2 := rfl
              have c26 : ¬ _ := fun q => c26 (Int32.le_iff_toInt_le.mpr q)
              refine lv_aload_n (pc := 79) C0.1 C0.2.1 dX9_reach_79 rfl (lv_at hl 2 rfl) ?_
              refine lv_iload_n (pc := 80) C0.1 C0.2.1 dX9_reach_80 rfl (lv_at hl 3 rfl) ?_
              refine lv_if_eq (pc := 81) (tgt := 94) C0.1 C0.2.1 dX9_reach_81 (by decide) (fun c34 => ?_) (fun c34 => ?_)
              · have : Int32.toInt 0 = 0 := rfl
                have c34 := congrArg Int32.toInt c34
                refine lv_aload (pc := 94) C0.1 C0.2.1 dX9_reach_94 (lv_at hl 0 rfl) ?_
                refine xget (pc := 96) C0 hH 28 2 clX2 ⟨Nat.le_of_ble_eq_true rfl, Nat.le_of_ble_eq_true rfl⟩ ⟨rfl, rfl⟩ (Nat.le_of_ble_eq_true rfl) fl_X9_212 (v := .ref (b + 31)) rfl dX9_reach_96 ?_
                refine lv_iload_n (pc := 99) C0.1 C0.2.1 dX9_reach_99 rfl (lv_at hl 4 rfl) ?_
                refine xiald (pc := 100) (N := 1200) C0 hH 31 ⟨Nat.le_of_ble_eq_true rfl, Nat.le_of_ble_eq_true rfl⟩ ⟨rfl, rfl⟩ (vI (by omega) (by omega)) dX9_reach_100 ?_
                refine lv_iload_n (pc := 101) C0.1 C0.2.1 dX9_reach_101 rfl (lv_at hl 5 rfl) ?_
                refine lv_if_ne (pc := 102) (tgt := 109) C0.1 C0.2.1 dX9_reach_102 (by decide) (fun c35 => ?_) (fun c35 => ?_)
                · have : Int32.toInt 0 = 0 := rfl
                  have c35 : ¬ _ := fun q => c35 (Int32.toInt_inj.mp q)
                  refine lv_iconst (pc := 109) (v := 0) C0.1 C0.2.1 dX9_reach_109 (by decide) ?_
                  refine xcVI (pc := 110) 0 [.int (F 31 (Int32.toNatClampNeg y)), .int 0] (g_X9_reachFirst l D tA b i F G (F 31 (Int32.toNatClampNeg y)) 0 hI) C0 hH hS clX9 rfl ⟨⟨Nat.le_of_ble_eq_true rfl, Nat.le_of_ble_eq_true rfl⟩, rfl, rfl⟩ cw_X9_230 rfl ⟨Nat.le_of_ble_eq_true rfl, Nat.le_of_ble_eq_true rfl⟩ hl.1 rfl (Nat.le_of_ble_eq_true rfl) dX9_reach_110 ⟨Nat.le_of_ble_eq_true rfl, Nat.le_of_ble_eq_true rfl⟩ (fun r36 ir36 Fr36 Gr36 _ locs hp hH hS => ?_)
                  obtain ⟨hu, hpr36⟩ := hp
                  cases hu
                  exact xiret (pc := 113) C0 hr hH hS dX9_reach_113 ⟨rfl, trivial⟩
                · have : Int32.toInt 0 = 0 := rfl
                  have c35 := congrArg Int32.toInt c35
                  refine lv_iconst (pc := 105) (v := 1) C0.1 C0.2.1 dX9_reach_105 (by decide) ?_
                  refine lv_goto (pc := 106) (tgt := 110) C0.1 C0.2.1 dX9_reach_106 (by decide) ?_
                  refine xcVI (pc := 110) 0 [.int (F 31 (Int32.toNatClampNeg y)), .int 1] (g_X9_reachFirst l D tA b i F G (F 31 (Int32.toNatClampNeg y)) 1 hI) C0 hH hS clX9 rfl ⟨⟨Nat.le_of_ble_eq_true rfl, Nat.le_of_ble_eq_true rfl⟩, rfl, rfl⟩ cw_X9_230 rfl ⟨Nat.le_of_ble_eq_true rfl, Nat.le_of_ble_eq_true rfl⟩ hl.1 rfl (Nat.le_of_ble_eq_true rfl) dX9_reach_110 ⟨Nat.le_of_ble_eq_true rfl, Nat.le_of_ble_eq_true rfl⟩ (fun r37 ir37 Fr37 Gr37 _ locs hp hH hS => ?_)
                  obtain ⟨hu, hpr37⟩ := hp
                  cases hu
                  exact xiret (pc := 113) C0 hr hH hS dX9_reach_113 ⟨rfl, trivial⟩
              · have : Int32.toInt 0 = 0 := rfl
                have c34 : ¬ _ := fun q => c34 (Int32.toInt_inj.mp q)
                refine lv_aload (pc := 84) C0.1 C0.2.1 dX9_reach_84 (lv_at hl 1 rfl) ?_
                refine xget (pc := 86) C0 hH 18 4 clX0 ⟨Nat.le_of_ble_eq_true rfl, Nat.le_of_ble_eq_true rfl⟩ ⟨rfl, rfl⟩ (Nat.le_of_ble_eq_true rfl) fl_X9_196 (v := .ref (b + 23)) rfl dX9_reach_86 ?_
                refine lv_iload_n (pc := 89) C0.1 C0.2.1 dX9_reach_89 rfl (lv_at hl 4 rfl) ?_
                refine xiald (pc := 90) (N := 601) C0 hH 23 ⟨Nat.le_of_ble_eq_true rfl, Nat.le_of_ble_eq_true rfl⟩ ⟨rfl, rfl⟩ (vI (by omega) (by omega)) dX9_reach_90 ?_
                refine lv_goto (pc := 91) (tgt := 101) C0.1 C0.2.1 dX9_reach_91 (by decide) ?_
                refine lv_iload_n (pc := 101) C0.1 C0.2.1 dX9_reach_101 rfl (lv_at hl 5 rfl) ?_
                refine lv_if_ne (pc := 102) (tgt := 109) C0.1 C0.2.1 dX9_reach_102 (by decide) (fun c38 => ?_) (fun c38 => ?_)
                · have : Int32.toInt 0 = 0 := rfl
                  have c38 : ¬ _ := fun q => c38 (Int32.toInt_inj.mp q)
                  refine lv_iconst (pc := 109) (v := 0) C0.1 C0.2.1 dX9_reach_109 (by decide) ?_
                  refine xcVI (pc := 110) 0 [.int (F 23 (Int32.toNatClampNeg y)), .int 0] (g_X9_reachFirst l D tA b i F G (F 23 (Int32.toNatClampNeg y)) 0 hI) C0 hH hS clX9 rfl ⟨⟨Nat.le_of_ble_eq_true rfl, Nat.le_of_ble_eq_true rfl⟩, rfl, rfl⟩ cw_X9_230 rfl ⟨Nat.le_of_ble_eq_true rfl, Nat.le_of_ble_eq_true rfl⟩ hl.1 rfl (Nat.le_of_ble_eq_true rfl) dX9_reach_110 ⟨Nat.le_of_ble_eq_true rfl, Nat.le_of_ble_eq_true rfl⟩ (fun r39 ir39 Fr39 Gr39 _ locs hp hH hS => ?_)
                  obtain ⟨hu, hpr39⟩ := hp
                  cases hu
                  exact xiret (pc := 113) C0 hr hH hS dX9_reach_113 ⟨rfl, trivial⟩
                · have : Int32.toInt 0 = 0 := rfl
                  have c38 := congrArg Int32.toInt c38
                  refine lv_iconst (pc := 105) (v := 1) C0.1 C0.2.1 dX9_reach_105 (by decide) ?_
                  refine lv_goto (pc := 106) (tgt := 110) C0.1 C0.2.1 dX9_reach_106 (by decide) ?_
                  refine xcVI (pc := 110) 0 [.int (F 23 (Int32.toNatClampNeg y)), .int 1] (g_X9_reachFirst l D tA b i F G (F 23 (Int32.toNatClampNeg y)) 1 hI) C0 hH hS clX9 rfl ⟨⟨Nat.le_of_ble_eq_true rfl, Nat.le_of_ble_eq_true rfl⟩, rfl, rfl⟩ cw_X9_230 rfl ⟨Nat.le_of_ble_eq_true rfl, Nat.le_of_ble_eq_true rfl⟩ hl.1 rfl (Nat.le_of_ble_eq_true rfl) dX9_reach_110 ⟨Nat.le_of_ble_eq_true rfl, Nat.le_of_ble_eq_true rfl⟩ (fun r40 ir40 Fr40 Gr40 _ locs hp hH hS => ?_)
                  obtain ⟨hu, hpr40⟩ := hp
                  cases hu
                  exact xiret (pc := 113) C0 hr hH hS dX9_reach_113 ⟨rfl, trivial⟩
          · have : Int32.toInt 3 = 3 := rfl
            have c25 : ¬ _ := fun q => c25 (Int32.le_iff_toInt_le.mpr q)
            refine lv_bipush (pc := 71) (v := (-2)) C0.1 C0.2.1 dX9_reach_71 (by decide) ?_
            exact xiret (pc := 73) C0 hr hH hS dX9_reach_73 ⟨rfl, trivial⟩
      · have : Int32.toInt 0 = 0 := rfl
        have c23 := congrArg Int32.toInt c23
        refine lv_goto (pc := 48) (tgt := 60) C0.1 C0.2.1 dX9_reach_48 (by decide) ?_
        refine lv_iconst (pc := 60) (v := (-1)) C0.1 C0.2.1 dX9_reach_60 (by decide) ?_
        exact xiret (pc := 61) C0 hr hH hS dX9_reach_61 ⟨rfl, trivial⟩
  · have : Int32.toInt 1 = 1 := rfl
    have c1 : ¬ _ := fun q => c1 (Int32.toInt_inj.mp q)
    refine lv_bipush (pc := 32) (v := (-3)) C0.1 C0.2.1 dX9_reach_32 (by decide) ?_
    exact xiret (pc := 34) C0 hr hH hS dX9_reach_34 ⟨rfl, trivial⟩
set_option maxHeartbeats 4000000 in
set_option maxRecDepth 100000 in
theorem g_X9_around (l : Launch) (D : va_G) (tA : Nat → ClassId) (b : Nat) (i F : Nat → Nat → Int32) (G : Nat → Nat → Int64) (x y : Int32) (hI : IC i F) : xMI l yX9_around cX9_around 5 (some .int) 2 43 D tA b 0 78 i F G [.ref (b + 0), .int x, .int y] (fun r u => u = (i, F, G) ∧ True) := by
  refine xstart RX9 rfl (by decide) (Nat.le_of_ble_eq_true rfl) ?_
  intro p e s m below meth c ls C0 hr hH hS hl
  have hl : lv_has ls 5 [(0, .ref (b + 0)), (1, .int x), (2, .int y)] := hl
  have rg_x := fb_rng x
  have rg_y := fb_rng y
  have hI0 := hI
  obtain ⟨hsz, hbf, hsz6, hbf7, htk, hF, hQ, htk2, hG, hQ2, hPg, hpt, hrw⟩ := hI0
  have hL := Tf17.lin hF
  have hL2 := Tf48.lin hG
  have hBs : i 1 = i 1 ∧ F 3 = F 3 ∧ G = G := ⟨rfl, rfl, rfl⟩
  have L63 : ∀ (d : Nat) (k q : Int32) (H : Heap) (locs : List Loc) (ls : Array Slot), (0 ≤ k.toInt) → (601 - k.toInt ≤ d) → Hd D tA b 0 78 zz i F G H → va_S (xA b 0 78) s.heap H locs → lv_has ls 5 [(4, .int k), (3, .int q), (0, .ref (b + 0)), (1, .int x), (2, .int y)] → W p l e (xR 2 43) s m ([.ref (b + 0), .int x, .int y] : List Value).toArray below meth c H locs 0 0 (MQ below (va_Qi (fun r u => u = (i, F, G) ∧ True) (xB D tA b 0 78 zz) (xA b 0 78)) ([.ref (b + 0), .int x, .int y] : List Value).toArray s 0 0 (xA b 0 78)) (F0 m 63 ls []) := by
    intro d
    induction d with
    | zero =>
      intro k q H locs ls h1 h2 hH hS hl
      have rg_k := fb_rng k
      have rg_q := fb_rng q
      refine lv_iload (pc := 63) C0.1 C0.2.1 dX9_around_63 (lv_at hl 0 rfl) ?_
      refine lv_sipush (pc := 65) (v := 601) C0.1 C0.2.1 dX9_around_65 (by decide) ?_
      have : Int32.toInt 601 = 601 := rfl
      refine lv_icmp_ge (pc := 68) (tgt := 102) C0.1 C0.2.1 dX9_around_68 (by decide) (fun _ => ?_) (fun c => absurd (Int32.le_iff_toInt_le.mpr (by omega)) c)
      refine lv_iconst (pc := 102) (v := 0) C0.1 C0.2.1 dX9_around_102 (by decide) ?_
      exact xiret (pc := 103) C0 hr hH hS dX9_around_103 ⟨rfl, trivial⟩
    | succ d ih63 =>
      intro k q H locs ls h1 h2 hH hS hl
      have rg_k := fb_rng k
      have rg_q := fb_rng q
      refine lv_iload (pc := 63) C0.1 C0.2.1 dX9_around_63 (lv_at hl 0 rfl) ?_
      refine lv_sipush (pc := 65) (v := 601) C0.1 C0.2.1 dX9_around_65 (by decide) ?_
      refine lv_icmp_ge (pc := 68) (tgt := 102) C0.1 C0.2.1 dX9_around_68 (by decide) (fun c201 => ?_) (fun c201 => ?_)
      · have : Int32.toInt 601 = 601 := rfl
        have c201 := Int32.le_iff_toInt_le.mp c201
        refine lv_iconst (pc := 102) (v := 0) C0.1 C0.2.1 dX9_around_102 (by decide) ?_
        exact xiret (pc := 103) C0 hr hH hS dX9_around_103 ⟨rfl, trivial⟩
      · have : Int32.toInt 601 = 601 := rfl
        have c201 : ¬ _ := fun q => c201 (Int32.le_iff_toInt_le.mpr q)
        refine lv_iload_n (pc := 71) C0.1 C0.2.1 dX9_around_71 rfl (lv_at hl 1 rfl) ?_
        refine lv_bipush (pc := 72) (v := (-9)) C0.1 C0.2.1 dX9_around_72 (by decide) ?_
        refine lv_icmp_eq (pc := 74) (tgt := 102) C0.1 C0.2.1 dX9_around_74 (by decide) (fun c202 => ?_) (fun c202 => ?_)
        · have : Int32.toInt (-9) = (-9) := rfl
          have c202 := congrArg Int32.toInt c202
          refine lv_iconst (pc := 102) (v := 0) C0.1 C0.2.1 dX9_around_102 (by decide) ?_
          exact xiret (pc := 103) C0 hr hH hS dX9_around_103 ⟨rfl, trivial⟩
        · have : Int32.toInt (-9) = (-9) := rfl
          have c202 : ¬ _ := fun q => c202 (Int32.toInt_inj.mp q)
          refine lv_iload_n (pc := 77) C0.1 C0.2.1 dX9_around_77 rfl (lv_at hl 1 rfl) ?_
          refine lv_iload_n (pc := 78) C0.1 C0.2.1 dX9_around_78 rfl (lv_at hl 3 rfl) ?_
          refine lv_icmp_ne (pc := 79) (tgt := 84) C0.1 C0.2.1 dX9_around_79 (by decide) (fun c203 => ?_) (fun c203 => ?_)
          · have c203 : ¬ _ := fun q => c203 (Int32.toInt_inj.mp q)
            refine lv_aload_n (pc := 84) C0.1 C0.2.1 dX9_around_84 rfl (lv_at hl 2 rfl) ?_
            refine xget (pc := 85) C0 hH 0 3 clX9 ⟨Nat.le_of_ble_eq_true rfl, Nat.le_of_ble_eq_true rfl⟩ ⟨rfl, rfl⟩ (Nat.le_of_ble_eq_true rfl) fl_X9_29 (v := .ref (b + 8)) rfl dX9_around_85 ?_
            refine xget (pc := 88) C0 hH 8 1 clX4 ⟨Nat.le_of_ble_eq_true rfl, Nat.le_of_ble_eq_true rfl⟩ ⟨rfl, rfl⟩ (Nat.le_of_ble_eq_true rfl) fl_X9_133 (v := .ref (b + 17)) rfl dX9_around_88 ?_
            refine lv_iload_n (pc := 91) C0.1 C0.2.1 dX9_around_91 rfl (lv_at hl 1 rfl) ?_
            refine xcVI (pc := 92) 17 [.int q] (g_X8_blockAround_17 l D tA b i F G q hF) C0 hH hS clX8 rfl ⟨⟨Nat.le_of_ble_eq_true rfl, Nat.le_of_ble_eq_true rfl⟩, rfl, rfl⟩ cw_X9_237 rfl ⟨Nat.le_of_ble_eq_true rfl, Nat.le_of_ble_eq_true rfl⟩ hl.1 rfl (Nat.le_of_ble_eq_true rfl) dX9_around_92 ⟨Nat.le_of_ble_eq_true rfl, Nat.le_of_ble_eq_true rfl⟩ (fun r204 ir204 Fr204 Gr204 _ locs hp hH hS => ?_)
            obtain ⟨hu, hpr204⟩ := hp
            cases hu
            refine lv_istore_n (pc := 95) (lv' := [(3, .int r204), (4, .int k), (0, .ref (b + 0)), (1, .int x), (2, .int y)]) C0.1 C0.2.1 dX9_around_95 rfl hl (by decide) rfl (fun ls hl => ?_)
            obtain ⟨x205, ex205⟩ : ∃ y_ : Int32, y_ = k + 1 := ⟨_, rfl⟩
            have : Int32.toInt 1 = 1 := rfl
            have hx205 : Int32.toInt x205 = Int32.toInt k + Int32.toInt 1 := by rw [ex205]; exact fb_addI (by omega) (by omega)
            refine lv_iinc (pc := 96) (v := x205) (lv' := [(4, .int x205), (3, .int r204), (0, .ref (b + 0)), (1, .int x), (2, .int y)]) C0.1 C0.2.1 dX9_around_96 hl (k := 1) rfl (by rw [ex205]; rfl) (by decide) rfl (fun ls hl => ?_)
            refine lv_goto (pc := 99) (tgt := 63) C0.1 C0.2.1 dX9_around_99 (by decide) ?_
            exact ih63 x205 r204 _ _ _ (by omega) (by omega) hH hS (lv_sub hl [0, 1, 2, 3, 4] rfl)
          · have c203 := congrArg Int32.toInt c203
            refine lv_iconst (pc := 82) (v := 1) C0.1 C0.2.1 dX9_around_82 (by decide) ?_
            exact xiret (pc := 83) C0 hr hH hS dX9_around_83 ⟨rfl, trivial⟩
  refine lv_aload_n (pc := 0) C0.1 C0.2.1 dX9_around_0 rfl (lv_at hl 0 rfl) ?_
  refine xget (pc := 1) C0 hH 0 8 clX9 ⟨Nat.le_of_ble_eq_true rfl, Nat.le_of_ble_eq_true rfl⟩ ⟨rfl, rfl⟩ (Nat.le_of_ble_eq_true rfl) fl_X9_53 (v := .int (i 0 8)) rfl dX9_around_1 ?_
  refine lv_iconst (pc := 4) (v := 1) C0.1 C0.2.1 dX9_around_4 (by decide) ?_
  refine lv_icmp_eq (pc := 5) (tgt := 11) C0.1 C0.2.1 dX9_around_5 (by decide) (fun c1 => ?_) (fun c1 => ?_)
  · have : Int32.toInt 1 = 1 := rfl
    have c1 := congrArg Int32.toInt c1
    refine lv_aload_n (pc := 11) C0.1 C0.2.1 dX9_around_11 rfl (lv_at hl 0 rfl) ?_
    refine xget (pc := 12) C0 hH 0 3 clX9 ⟨Nat.le_of_ble_eq_true rfl, Nat.le_of_ble_eq_true rfl⟩ ⟨rfl, rfl⟩ (Nat.le_of_ble_eq_true rfl) fl_X9_29 (v := .ref (b + 8)) rfl dX9_around_12 ?_
    refine xget (pc := 15) C0 hH 8 1 clX4 ⟨Nat.le_of_ble_eq_true rfl, Nat.le_of_ble_eq_true rfl⟩ ⟨rfl, rfl⟩ (Nat.le_of_ble_eq_true rfl) fl_X9_133 (v := .ref (b + 17)) rfl dX9_around_15 ?_
    refine xget (pc := 18) C0 hH 17 0 clX8 ⟨Nat.le_of_ble_eq_true rfl, Nat.le_of_ble_eq_true rfl⟩ ⟨rfl, rfl⟩ (Nat.le_of_ble_eq_true rfl) fl_X9_137 (v := .ref (b + 18)) rfl dX9_around_18 ?_
    refine lv_iload_n (pc := 21) C0.1 C0.2.1 dX9_around_21 rfl (lv_at hl 1 rfl) ?_
    refine xcVI (pc := 22) 18 [.int x] (g_X0_has_18 l D tA b i F G x ) C0 hH hS clX0 rfl ⟨⟨Nat.le_of_ble_eq_true rfl, Nat.le_of_ble_eq_true rfl⟩, rfl, rfl⟩ cw_X9_182 rfl ⟨Nat.le_of_ble_eq_true rfl, Nat.le_of_ble_eq_true rfl⟩ hl.1 rfl (Nat.le_of_ble_eq_true rfl) dX9_around_22 ⟨Nat.le_of_ble_eq_true rfl, Nat.le_of_ble_eq_true rfl⟩ (fun r2 ir2 Fr2 Gr2 _ locs hp hH hS => ?_)
    obtain ⟨hu, hpr2⟩ := hp
    cases hu
    refine lv_if_eq (pc := 25) (tgt := 46) C0.1 C0.2.1 dX9_around_25 (by decide) (fun c3 => ?_) (fun c3 => ?_)
    · have : Int32.toInt 0 = 0 := rfl
      have c3 := congrArg Int32.toInt c3
      refine lv_iconst (pc := 46) (v := (-1)) C0.1 C0.2.1 dX9_around_46 (by decide) ?_
      exact xiret (pc := 47) C0 hr hH hS dX9_around_47 ⟨rfl, trivial⟩
    · have : Int32.toInt 0 = 0 := rfl
      have c3 : ¬ _ := fun q => c3 (Int32.toInt_inj.mp q)
      refine lv_iload_n (pc := 28) C0.1 C0.2.1 dX9_around_28 rfl (lv_at hl 2 rfl) ?_
      refine lv_if_lt (pc := 29) (tgt := 46) C0.1 C0.2.1 dX9_around_29 (by decide) (fun c4 => ?_) (fun c4 => ?_)
      · have : Int32.toInt 0 = 0 := rfl
        have c4 := Int32.lt_iff_toInt_lt.mp c4
        refine lv_iconst (pc := 46) (v := (-1)) C0.1 C0.2.1 dX9_around_46 (by decide) ?_
        exact xiret (pc := 47) C0 hr hH hS dX9_around_47 ⟨rfl, trivial⟩
      · have : Int32.toInt 0 = 0 := rfl
        have c4 : ¬ _ := fun q => c4 (Int32.lt_iff_toInt_lt.mpr q)
        refine lv_iload_n (pc := 32) C0.1 C0.2.1 dX9_around_32 rfl (lv_at hl 2 rfl) ?_
        refine lv_aload_n (pc := 33) C0.1 C0.2.1 dX9_around_33 rfl (lv_at hl 0 rfl) ?_
        refine xget (pc := 34) C0 hH 0 3 clX9 ⟨Nat.le_of_ble_eq_true rfl, Nat.le_of_ble_eq_true rfl⟩ ⟨rfl, rfl⟩ (Nat.le_of_ble_eq_true rfl) fl_X9_29 (v := .ref (b + 8)) rfl dX9_around_34 ?_
        refine xget (pc := 37) C0 hH 8 0 clX4 ⟨Nat.le_of_ble_eq_true rfl, Nat.le_of_ble_eq_true rfl⟩ ⟨rfl, rfl⟩ (Nat.le_of_ble_eq_true rfl) fl_X9_118 (v := .ref (b + 9)) rfl dX9_around_37 ?_
        refine xget (pc := 40) C0 hH 9 7 clX7 ⟨Nat.le_of_ble_eq_true rfl, Nat.le_of_ble_eq_true rfl⟩ ⟨rfl, rfl⟩ (Nat.le_of_ble_eq_true rfl) fl_X9_122 (v := .int (i 9 7)) rfl dX9_around_40 ?_
        refine lv_icmp_lt (pc := 43) (tgt := 48) C0.1 C0.2.1 dX9_around_43 (by decide) (fun c5 => ?_) (fun c5 => ?_)
        · have c5 := Int32.lt_iff_toInt_lt.mp c5
          refine lv_aload_n (pc := 48) C0.1 C0.2.1 dX9_around_48 rfl (lv_at hl 0 rfl) ?_
          refine xget (pc := 49) C0 hH 0 3 clX9 ⟨Nat.le_of_ble_eq_true rfl, Nat.le_of_ble_eq_true rfl⟩ ⟨rfl, rfl⟩ (Nat.le_of_ble_eq_true rfl) fl_X9_29 (v := .ref (b + 8)) rfl dX9_around_49 ?_
          refine xget (pc := 52) C0 hH 8 1 clX4 ⟨Nat.le_of_ble_eq_true rfl, Nat.le_of_ble_eq_true rfl⟩ ⟨rfl, rfl⟩ (Nat.le_of_ble_eq_true rfl) fl_X9_133 (v := .ref (b + 17)) rfl dX9_around_52 ?_
          refine lv_iload_n (pc := 55) C0.1 C0.2.1 dX9_around_55 rfl (lv_at hl 2 rfl) ?_
          refine xcVI (pc := 56) 17 [.int y] (g_X8_blockOf_17 l D tA b i F G y hF) C0 hH hS clX8 rfl ⟨⟨Nat.le_of_ble_eq_true rfl, Nat.le_of_ble_eq_true rfl⟩, rfl, rfl⟩ cw_X9_179 rfl ⟨Nat.le_of_ble_eq_true rfl, Nat.le_of_ble_eq_true rfl⟩ hl.1 rfl (Nat.le_of_ble_eq_true rfl) dX9_around_56 ⟨Nat.le_of_ble_eq_true rfl, Nat.le_of_ble_eq_true rfl⟩ (fun r6 ir6 Fr6 Gr6 _ locs hp hH hS => ?_)
          obtain ⟨hu, hpr6⟩ := hp
          cases hu
          refine lv_istore_n (pc := 59) (lv' := [(3, .int r6), (0, .ref (b + 0)), (1, .int x), (2, .int y)]) C0.1 C0.2.1 dX9_around_59 rfl hl (by decide) rfl (fun ls hl => ?_)
          refine lv_iconst (pc := 60) (v := 0) C0.1 C0.2.1 dX9_around_60 (by decide) ?_
          refine lv_istore (pc := 61) (lv' := [(4, .int 0), (3, .int r6), (0, .ref (b + 0)), (1, .int x), (2, .int y)]) C0.1 C0.2.1 dX9_around_61 hl (by decide) rfl (fun ls hl => ?_)
          exact L63 601 0 r6 _ _ _ (by have : Int32.toInt 0 = 0 := rfl; omega) (by have : Int32.toInt 0 = 0 := rfl; omega) hH hS (lv_sub hl [0, 1, 2, 3, 4] rfl)
        · have c5 : ¬ _ := fun q => c5 (Int32.lt_iff_toInt_lt.mpr q)
          refine lv_iconst (pc := 46) (v := (-1)) C0.1 C0.2.1 dX9_around_46 (by decide) ?_
          exact xiret (pc := 47) C0 hr hH hS dX9_around_47 ⟨rfl, trivial⟩
  · have : Int32.toInt 1 = 1 := rfl
    have c1 : ¬ _ := fun q => c1 (Int32.toInt_inj.mp q)
    refine lv_bipush (pc := 8) (v := (-3)) C0.1 C0.2.1 dX9_around_8 (by decide) ?_
    exact xiret (pc := 10) C0 hr hH hS dX9_around_10 ⟨rfl, trivial⟩
