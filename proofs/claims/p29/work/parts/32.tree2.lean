set_option maxRecDepth 20000 in
theorem fl_X8_50 : Cond.fieldLink RX8 50 (TX8 7).1 (TX8 7).2.1 (TX8 7).2.2.1 ∈ WALL := wm 285 (by decide +kernel) rfl
set_option maxRecDepth 20000 in
theorem cw_X8_59 : CwV RX8 59 yX0_add cX0_add 6 (some .int) 5 := ⟨wm 704 (by decide +kernel) rfl, wm 705 (by decide +kernel) rfl, wm 706 (by decide +kernel) rfl, wm 7 (by decide +kernel) rfl, wm 707 rfl rfl, by decide +kernel⟩
set_option maxRecDepth 20000 in
theorem cw_X8_118 : CwV RX8 118 yX2_hang cX2_hang 3 none 2 := ⟨wm 739 (by decide +kernel) rfl, wm 740 (by decide +kernel) rfl, wm 741 (by decide +kernel) rfl, wm 8 (by decide +kernel) rfl, wm 742 rfl rfl, by decide +kernel⟩
set_option maxRecDepth 20000 in
theorem fl_X8_177 : Cond.fieldLink RX8 177 (TX0 3).1 (TX0 3).2.1 (TX0 3).2.2.1 ∈ WALL := wm 178 (by decide +kernel) rfl
set_option maxRecDepth 20000 in
theorem cw_X8_180 : CwV RX8 180 yX2_add cX2_add 3 (some .int) 2 := ⟨wm 751 (by decide +kernel) rfl, wm 752 (by decide +kernel) rfl, wm 753 (by decide +kernel) rfl, wm 8 (by decide +kernel) rfl, wm 754 rfl rfl, by decide +kernel⟩
set_option maxRecDepth 20000 in
theorem fl_X8_148 : Cond.fieldLink RX8 148 (TX0 8).1 (TX0 8).2.1 (TX0 8).2.2.1 ∈ WALL := wm 192 (by decide +kernel) rfl
set_option maxRecDepth 20000 in
theorem fl_X8_98 : Cond.fieldLink RX8 98 (TX0 0).1 (TX0 0).2.1 (TX0 0).2.2.1 ∈ WALL := wm 167 (by decide +kernel) rfl
set_option maxRecDepth 20000 in
theorem fl_X8_46 : Cond.fieldLink RX8 46 (TX2 5).1 (TX2 5).2.1 (TX2 5).2.2.1 ∈ WALL := wm 240 (by decide +kernel) rfl
set_option maxRecDepth 20000 in
theorem fl_X8_163 : Cond.fieldLink RX8 163 (TX2 2).1 (TX2 2).2.1 (TX2 2).2.2.1 ∈ WALL := wm 232 (by decide +kernel) rfl
set_option maxRecDepth 20000 in
theorem fl_X8_166 : Cond.fieldLink RX8 166 (TX0 4).1 (TX0 4).2.1 (TX0 4).2.2.1 ∈ WALL := wm 180 (by decide +kernel) rfl
set_option maxRecDepth 20000 in
theorem fl_X8_167 : Cond.fieldLink RX8 167 (TX0 5).1 (TX0 5).2.1 (TX0 5).2.2.1 ∈ WALL := wm 183 (by decide +kernel) rfl
set_option maxRecDepth 20000 in
theorem fl_X8_170 : Cond.fieldLink RX8 170 (TX2 3).1 (TX2 3).2.1 (TX2 3).2.2.1 ∈ WALL := wm 235 (by decide +kernel) rfl
set_option maxRecDepth 20000 in
theorem mm_X8_171 : Cond.methodLink RX8 171 Lib.Math.max.name ∈ WALL ∧ Cond.static Lib.Math.max.name ∈ WALL ∧ Cond.initialized "java/lang/Math" ∈ WALL ∧ Cond.code Lib.Math.max.name Lib.Math.max.code 2 (some .int) ∈ WALL := ⟨wm 783 (by decide +kernel) rfl, wm 475 (by decide +kernel) rfl, wm 14 (by decide +kernel) rfl, wm 476 rfl rfl⟩
set_option maxRecDepth 20000 in
theorem fl_X8_36 : Cond.fieldLink RX8 36 (TX8 4).1 (TX8 4).2.1 (TX8 4).2.2.1 ∈ WALL := wm 279 (by decide +kernel) rfl
set_option maxRecDepth 20000 in
theorem fl_X8_40 : Cond.fieldLink RX8 40 (TX8 5).1 (TX8 5).2.1 (TX8 5).2.2.1 ∈ WALL := wm 282 (by decide +kernel) rfl
theorem dX8_top_0 : decode cX8_top 0 = .ok (.aload_n 0, 1) := by decide +kernel
theorem dX8_top_1 : decode cX8_top 1 = .ok (.getfield 50, 3) := by decide +kernel
theorem dX8_top_4 : decode cX8_top 4 = .ok (.ifCond .le 29, 3) := by decide +kernel
theorem dX8_top_33 : decode cX8_top 33 = .ok (.iconst 0, 1) := by decide +kernel
theorem dX8_top_34 : decode cX8_top 34 = .ok (.ireturn, 1) := by decide +kernel
theorem dX8_top_7 : decode cX8_top 7 = .ok (.aload_n 0, 1) := by decide +kernel
theorem dX8_top_8 : decode cX8_top 8 = .ok (.getfield 50, 3) := by decide +kernel
theorem dX8_top_11 : decode cX8_top 11 = .ok (.aload_n 0, 1) := by decide +kernel
theorem dX8_top_12 : decode cX8_top 12 = .ok (.getfield 33, 3) := by decide +kernel
theorem dX8_top_15 : decode cX8_top 15 = .ok (.arraylength, 1) := by decide +kernel
theorem dX8_top_16 : decode cX8_top 16 = .ok (.if_icmp .gt 17, 3) := by decide +kernel
theorem dX8_top_19 : decode cX8_top 19 = .ok (.aload_n 0, 1) := by decide +kernel
theorem dX8_top_20 : decode cX8_top 20 = .ok (.getfield 33, 3) := by decide +kernel
theorem dX8_top_23 : decode cX8_top 23 = .ok (.aload_n 0, 1) := by decide +kernel
theorem dX8_top_24 : decode cX8_top 24 = .ok (.getfield 50, 3) := by decide +kernel
theorem dX8_top_27 : decode cX8_top 27 = .ok (.iconst 1, 1) := by decide +kernel
theorem dX8_top_28 : decode cX8_top 28 = .ok (.isub, 1) := by decide +kernel
theorem dX8_top_29 : decode cX8_top 29 = .ok (.iaload, 1) := by decide +kernel
theorem dX8_top_30 : decode cX8_top 30 = .ok (.goto 4, 3) := by decide +kernel
theorem dX8_pileUp_0 : decode cX8_pileUp 0 = .ok (.aload_n 0, 1) := by decide +kernel
theorem dX8_pileUp_1 : decode cX8_pileUp 1 = .ok (.getfield 12, 3) := by decide +kernel
theorem dX8_pileUp_4 : decode cX8_pileUp 4 = .ok (.iload_n 1, 1) := by decide +kernel
theorem dX8_pileUp_5 : decode cX8_pileUp 5 = .ok (.invokevirtual 87, 3) := by decide +kernel
theorem dX8_pileUp_8 : decode cX8_pileUp 8 = .ok (.ifCond .eq 35, 3) := by decide +kernel
theorem dX8_pileUp_43 : decode cX8_pileUp 43 = .ok (.return_, 1) := by decide +kernel
theorem dX8_pileUp_11 : decode cX8_pileUp 11 = .ok (.aload_n 0, 1) := by decide +kernel
theorem dX8_pileUp_12 : decode cX8_pileUp 12 = .ok (.getfield 50, 3) := by decide +kernel
theorem dX8_pileUp_15 : decode cX8_pileUp 15 = .ok (.aload_n 0, 1) := by decide +kernel
theorem dX8_pileUp_16 : decode cX8_pileUp 16 = .ok (.getfield 33, 3) := by decide +kernel
theorem dX8_pileUp_19 : decode cX8_pileUp 19 = .ok (.arraylength, 1) := by decide +kernel
theorem dX8_pileUp_20 : decode cX8_pileUp 20 = .ok (.if_icmp .ge 23, 3) := by decide +kernel
theorem dX8_pileUp_23 : decode cX8_pileUp 23 = .ok (.aload_n 0, 1) := by decide +kernel
theorem dX8_pileUp_24 : decode cX8_pileUp 24 = .ok (.getfield 33, 3) := by decide +kernel
theorem dX8_pileUp_27 : decode cX8_pileUp 27 = .ok (.aload_n 0, 1) := by decide +kernel
theorem dX8_pileUp_28 : decode cX8_pileUp 28 = .ok (.getfield 50, 3) := by decide +kernel
theorem dX8_pileUp_31 : decode cX8_pileUp 31 = .ok (.iload_n 1, 1) := by decide +kernel
theorem dX8_pileUp_32 : decode cX8_pileUp 32 = .ok (.iastore, 1) := by decide +kernel
theorem dX8_pileUp_33 : decode cX8_pileUp 33 = .ok (.aload_n 0, 1) := by decide +kernel
theorem dX8_pileUp_34 : decode cX8_pileUp 34 = .ok (.dup, 1) := by decide +kernel
theorem dX8_pileUp_35 : decode cX8_pileUp 35 = .ok (.getfield 50, 3) := by decide +kernel
theorem dX8_pileUp_38 : decode cX8_pileUp 38 = .ok (.iconst 1, 1) := by decide +kernel
theorem dX8_pileUp_39 : decode cX8_pileUp 39 = .ok (.iadd, 1) := by decide +kernel
theorem dX8_pileUp_40 : decode cX8_pileUp 40 = .ok (.putfield 50, 3) := by decide +kernel
theorem dX8_beginBlock_0 : decode cX8_beginBlock 0 = .ok (.aload_n 0, 1) := by decide +kernel
theorem dX8_beginBlock_1 : decode cX8_beginBlock 1 = .ok (.getfield 12, 3) := by decide +kernel
theorem dX8_beginBlock_4 : decode cX8_beginBlock 4 = .ok (.iload_n 1, 1) := by decide +kernel
theorem dX8_beginBlock_5 : decode cX8_beginBlock 5 = .ok (.iload_n 2, 1) := by decide +kernel
theorem dX8_beginBlock_6 : decode cX8_beginBlock 6 = .ok (.iload_n 3, 1) := by decide +kernel
theorem dX8_beginBlock_7 : decode cX8_beginBlock 7 = .ok (.aload_n 0, 1) := by decide +kernel
theorem dX8_beginBlock_8 : decode cX8_beginBlock 8 = .ok (.getfield 50, 3) := by decide +kernel
theorem dX8_beginBlock_11 : decode cX8_beginBlock 11 = .ok (.iload 4, 2) := by decide +kernel
theorem dX8_beginBlock_13 : decode cX8_beginBlock 13 = .ok (.invokevirtual 59, 3) := by decide +kernel
theorem dX8_beginBlock_16 : decode cX8_beginBlock 16 = .ok (.istore 5, 2) := by decide +kernel
theorem dX8_beginBlock_18 : decode cX8_beginBlock 18 = .ok (.iload 5, 2) := by decide +kernel
theorem dX8_beginBlock_20 : decode cX8_beginBlock 20 = .ok (.bipush (-9), 2) := by decide +kernel
theorem dX8_beginBlock_22 : decode cX8_beginBlock 22 = .ok (.if_icmp .eq 16, 3) := by decide +kernel
theorem dX8_beginBlock_38 : decode cX8_beginBlock 38 = .ok (.iload 5, 2) := by decide +kernel
theorem dX8_beginBlock_40 : decode cX8_beginBlock 40 = .ok (.ireturn, 1) := by decide +kernel
theorem dX8_beginBlock_25 : decode cX8_beginBlock 25 = .ok (.aload_n 0, 1) := by decide +kernel
theorem dX8_beginBlock_26 : decode cX8_beginBlock 26 = .ok (.getfield 21, 3) := by decide +kernel
theorem dX8_beginBlock_29 : decode cX8_beginBlock 29 = .ok (.iload_n 3, 1) := by decide +kernel
theorem dX8_beginBlock_30 : decode cX8_beginBlock 30 = .ok (.bipush (-100), 2) := by decide +kernel
theorem dX8_beginBlock_32 : decode cX8_beginBlock 32 = .ok (.iload 5, 2) := by decide +kernel
theorem dX8_beginBlock_34 : decode cX8_beginBlock 34 = .ok (.isub, 1) := by decide +kernel
theorem dX8_beginBlock_35 : decode cX8_beginBlock 35 = .ok (.invokevirtual 118, 3) := by decide +kernel
theorem dX8_beginItem_0 : decode cX8_beginItem 0 = .ok (.aload_n 0, 1) := by decide +kernel
theorem dX8_beginItem_1 : decode cX8_beginItem 1 = .ok (.getfield 12, 3) := by decide +kernel
theorem dX8_beginItem_4 : decode cX8_beginItem 4 = .ok (.iload_n 1, 1) := by decide +kernel
theorem dX8_beginItem_5 : decode cX8_beginItem 5 = .ok (.invokevirtual 87, 3) := by decide +kernel
theorem dX8_beginItem_8 : decode cX8_beginItem 8 = .ok (.ifCond .ne 6, 3) := by decide +kernel
theorem dX8_beginItem_14 : decode cX8_beginItem 14 = .ok (.aload_n 0, 1) := by decide +kernel
theorem dX8_beginItem_15 : decode cX8_beginItem 15 = .ok (.getfield 21, 3) := by decide +kernel
theorem dX8_beginItem_18 : decode cX8_beginItem 18 = .ok (.iload_n 1, 1) := by decide +kernel
theorem dX8_beginItem_19 : decode cX8_beginItem 19 = .ok (.aload_n 0, 1) := by decide +kernel
theorem dX8_beginItem_20 : decode cX8_beginItem 20 = .ok (.getfield 12, 3) := by decide +kernel
theorem dX8_beginItem_23 : decode cX8_beginItem 23 = .ok (.getfield 177, 3) := by decide +kernel
theorem dX8_beginItem_26 : decode cX8_beginItem 26 = .ok (.iload_n 1, 1) := by decide +kernel
theorem dX8_beginItem_27 : decode cX8_beginItem 27 = .ok (.iaload, 1) := by decide +kernel
theorem dX8_beginItem_28 : decode cX8_beginItem 28 = .ok (.invokevirtual 180, 3) := by decide +kernel
theorem dX8_beginItem_31 : decode cX8_beginItem 31 = .ok (.istore_n 2, 1) := by decide +kernel
theorem dX8_beginItem_32 : decode cX8_beginItem 32 = .ok (.aload_n 0, 1) := by decide +kernel
theorem dX8_beginItem_33 : decode cX8_beginItem 33 = .ok (.getfield 12, 3) := by decide +kernel
theorem dX8_beginItem_36 : decode cX8_beginItem 36 = .ok (.getfield 177, 3) := by decide +kernel
theorem dX8_beginItem_39 : decode cX8_beginItem 39 = .ok (.iload_n 1, 1) := by decide +kernel
theorem dX8_beginItem_40 : decode cX8_beginItem 40 = .ok (.dup2, 1) := by decide +kernel
theorem dX8_beginItem_41 : decode cX8_beginItem 41 = .ok (.iaload, 1) := by decide +kernel
theorem dX8_beginItem_42 : decode cX8_beginItem 42 = .ok (.iconst 1, 1) := by decide +kernel
theorem dX8_beginItem_43 : decode cX8_beginItem 43 = .ok (.iadd, 1) := by decide +kernel
theorem dX8_beginItem_44 : decode cX8_beginItem 44 = .ok (.iastore, 1) := by decide +kernel
theorem dX8_beginItem_45 : decode cX8_beginItem 45 = .ok (.aload_n 0, 1) := by decide +kernel
theorem dX8_beginItem_46 : decode cX8_beginItem 46 = .ok (.getfield 12, 3) := by decide +kernel
theorem dX8_beginItem_49 : decode cX8_beginItem 49 = .ok (.getfield 148, 3) := by decide +kernel
theorem dX8_beginItem_52 : decode cX8_beginItem 52 = .ok (.iload_n 1, 1) := by decide +kernel
theorem dX8_beginItem_53 : decode cX8_beginItem 53 = .ok (.iload_n 2, 1) := by decide +kernel
theorem dX8_beginItem_54 : decode cX8_beginItem 54 = .ok (.iastore, 1) := by decide +kernel
theorem dX8_beginItem_55 : decode cX8_beginItem 55 = .ok (.iload_n 2, 1) := by decide +kernel
theorem dX8_beginItem_56 : decode cX8_beginItem 56 = .ok (.ireturn, 1) := by decide +kernel
theorem dX8_beginItem_11 : decode cX8_beginItem 11 = .ok (.bipush (-9), 2) := by decide +kernel
theorem dX8_beginItem_13 : decode cX8_beginItem 13 = .ok (.ireturn, 1) := by decide +kernel
theorem dX8_levelOfLet_0 : decode cX8_levelOfLet 0 = .ok (.aload_n 0, 1) := by decide +kernel
theorem dX8_levelOfLet_1 : decode cX8_levelOfLet 1 = .ok (.getfield 50, 3) := by decide +kernel
theorem dX8_levelOfLet_4 : decode cX8_levelOfLet 4 = .ok (.iconst 1, 1) := by decide +kernel
theorem dX8_levelOfLet_5 : decode cX8_levelOfLet 5 = .ok (.isub, 1) := by decide +kernel
theorem dX8_levelOfLet_6 : decode cX8_levelOfLet 6 = .ok (.istore_n 1, 1) := by decide +kernel
theorem dX8_levelOfLet_7 : decode cX8_levelOfLet 7 = .ok (.iload_n 1, 1) := by decide +kernel
theorem dX8_levelOfLet_8 : decode cX8_levelOfLet 8 = .ok (.ifCond .le 39, 3) := by decide +kernel
theorem dX8_levelOfLet_47 : decode cX8_levelOfLet 47 = .ok (.bipush (-9), 2) := by decide +kernel
theorem dX8_levelOfLet_49 : decode cX8_levelOfLet 49 = .ok (.ireturn, 1) := by decide +kernel
theorem dX8_levelOfLet_11 : decode cX8_levelOfLet 11 = .ok (.aload_n 0, 1) := by decide +kernel
theorem dX8_levelOfLet_12 : decode cX8_levelOfLet 12 = .ok (.getfield 12, 3) := by decide +kernel
theorem dX8_levelOfLet_15 : decode cX8_levelOfLet 15 = .ok (.getfield 98, 3) := by decide +kernel
theorem dX8_levelOfLet_18 : decode cX8_levelOfLet 18 = .ok (.aload_n 0, 1) := by decide +kernel
theorem dX8_levelOfLet_19 : decode cX8_levelOfLet 19 = .ok (.getfield 33, 3) := by decide +kernel
theorem dX8_levelOfLet_22 : decode cX8_levelOfLet 22 = .ok (.iload_n 1, 1) := by decide +kernel
theorem dX8_levelOfLet_23 : decode cX8_levelOfLet 23 = .ok (.iaload, 1) := by decide +kernel
theorem dX8_levelOfLet_24 : decode cX8_levelOfLet 24 = .ok (.iaload, 1) := by decide +kernel
theorem dX8_levelOfLet_25 : decode cX8_levelOfLet 25 = .ok (.istore_n 2, 1) := by decide +kernel
theorem dX8_levelOfLet_26 : decode cX8_levelOfLet 26 = .ok (.iload_n 2, 1) := by decide +kernel
theorem dX8_levelOfLet_27 : decode cX8_levelOfLet 27 = .ok (.iconst 5, 1) := by decide +kernel
theorem dX8_levelOfLet_28 : decode cX8_levelOfLet 28 = .ok (.if_icmp .ne 5, 3) := by decide +kernel
theorem dX8_levelOfLet_33 : decode cX8_levelOfLet 33 = .ok (.iload_n 2, 1) := by decide +kernel
theorem dX8_levelOfLet_34 : decode cX8_levelOfLet 34 = .ok (.iconst 4, 1) := by decide +kernel
theorem dX8_levelOfLet_35 : decode cX8_levelOfLet 35 = .ok (.if_icmp .ne 6, 3) := by decide +kernel
theorem dX8_levelOfLet_41 : decode cX8_levelOfLet 41 = .ok (.iinc 1 (-1), 3) := by decide +kernel
theorem dX8_levelOfLet_44 : decode cX8_levelOfLet 44 = .ok (.goto (-37), 3) := by decide +kernel
theorem dX8_levelOfLet_38 : decode cX8_levelOfLet 38 = .ok (.bipush (-9), 2) := by decide +kernel
theorem dX8_levelOfLet_40 : decode cX8_levelOfLet 40 = .ok (.ireturn, 1) := by decide +kernel
theorem dX8_levelOfLet_31 : decode cX8_levelOfLet 31 = .ok (.iload_n 1, 1) := by decide +kernel
theorem dX8_levelOfLet_32 : decode cX8_levelOfLet 32 = .ok (.ireturn, 1) := by decide +kernel
theorem dX8_spreadEnds_0 : decode cX8_spreadEnds 0 = .ok (.aload_n 0, 1) := by decide +kernel
theorem dX8_spreadEnds_1 : decode cX8_spreadEnds 1 = .ok (.getfield 21, 3) := by decide +kernel
theorem dX8_spreadEnds_4 : decode cX8_spreadEnds 4 = .ok (.getfield 46, 3) := by decide +kernel
theorem dX8_spreadEnds_7 : decode cX8_spreadEnds 7 = .ok (.iconst 1, 1) := by decide +kernel
theorem dX8_spreadEnds_8 : decode cX8_spreadEnds 8 = .ok (.isub, 1) := by decide +kernel
theorem dX8_spreadEnds_9 : decode cX8_spreadEnds 9 = .ok (.istore_n 1, 1) := by decide +kernel
theorem dX8_spreadEnds_10 : decode cX8_spreadEnds 10 = .ok (.iload_n 1, 1) := by decide +kernel
theorem dX8_spreadEnds_11 : decode cX8_spreadEnds 11 = .ok (.ifCond .lt 146, 3) := by decide +kernel
theorem dX8_spreadEnds_157 : decode cX8_spreadEnds 157 = .ok (.return_, 1) := by decide +kernel
theorem dX8_spreadEnds_14 : decode cX8_spreadEnds 14 = .ok (.aload_n 0, 1) := by decide +kernel
theorem dX8_spreadEnds_15 : decode cX8_spreadEnds 15 = .ok (.getfield 21, 3) := by decide +kernel
theorem dX8_spreadEnds_18 : decode cX8_spreadEnds 18 = .ok (.getfield 84, 3) := by decide +kernel
theorem dX8_spreadEnds_21 : decode cX8_spreadEnds 21 = .ok (.iload_n 1, 1) := by decide +kernel
theorem dX8_spreadEnds_22 : decode cX8_spreadEnds 22 = .ok (.iaload, 1) := by decide +kernel
theorem dX8_spreadEnds_23 : decode cX8_spreadEnds 23 = .ok (.istore_n 2, 1) := by decide +kernel
theorem dX8_spreadEnds_24 : decode cX8_spreadEnds 24 = .ok (.aload_n 0, 1) := by decide +kernel
theorem dX8_spreadEnds_25 : decode cX8_spreadEnds 25 = .ok (.getfield 21, 3) := by decide +kernel
theorem dX8_spreadEnds_28 : decode cX8_spreadEnds 28 = .ok (.getfield 163, 3) := by decide +kernel
theorem dX8_spreadEnds_31 : decode cX8_spreadEnds 31 = .ok (.iload_n 1, 1) := by decide +kernel
theorem dX8_spreadEnds_32 : decode cX8_spreadEnds 32 = .ok (.iaload, 1) := by decide +kernel
theorem dX8_spreadEnds_33 : decode cX8_spreadEnds 33 = .ok (.bipush (-9), 2) := by decide +kernel
theorem dX8_spreadEnds_35 : decode cX8_spreadEnds 35 = .ok (.if_icmp .eq 116, 3) := by decide +kernel
theorem dX8_spreadEnds_151 : decode cX8_spreadEnds 151 = .ok (.iinc 1 (-1), 3) := by decide +kernel
theorem dX8_spreadEnds_154 : decode cX8_spreadEnds 154 = .ok (.goto (-144), 3) := by decide +kernel
theorem dX8_spreadEnds_38 : decode cX8_spreadEnds 38 = .ok (.aload_n 0, 1) := by decide +kernel
theorem dX8_spreadEnds_39 : decode cX8_spreadEnds 39 = .ok (.getfield 12, 3) := by decide +kernel
theorem dX8_spreadEnds_42 : decode cX8_spreadEnds 42 = .ok (.iload_n 2, 1) := by decide +kernel
theorem dX8_spreadEnds_43 : decode cX8_spreadEnds 43 = .ok (.invokevirtual 87, 3) := by decide +kernel
theorem dX8_spreadEnds_46 : decode cX8_spreadEnds 46 = .ok (.ifCond .ne 6, 3) := by decide +kernel
theorem dX8_spreadEnds_52 : decode cX8_spreadEnds 52 = .ok (.aload_n 0, 1) := by decide +kernel
theorem dX8_spreadEnds_53 : decode cX8_spreadEnds 53 = .ok (.getfield 12, 3) := by decide +kernel
theorem dX8_spreadEnds_56 : decode cX8_spreadEnds 56 = .ok (.getfield 166, 3) := by decide +kernel
theorem dX8_spreadEnds_59 : decode cX8_spreadEnds 59 = .ok (.iload_n 2, 1) := by decide +kernel
theorem dX8_spreadEnds_60 : decode cX8_spreadEnds 60 = .ok (.aload_n 0, 1) := by decide +kernel
theorem dX8_spreadEnds_61 : decode cX8_spreadEnds 61 = .ok (.getfield 21, 3) := by decide +kernel
theorem dX8_spreadEnds_64 : decode cX8_spreadEnds 64 = .ok (.getfield 163, 3) := by decide +kernel
theorem dX8_spreadEnds_67 : decode cX8_spreadEnds 67 = .ok (.iload_n 1, 1) := by decide +kernel
theorem dX8_spreadEnds_68 : decode cX8_spreadEnds 68 = .ok (.iaload, 1) := by decide +kernel
theorem dX8_spreadEnds_69 : decode cX8_spreadEnds 69 = .ok (.iastore, 1) := by decide +kernel
theorem dX8_spreadEnds_70 : decode cX8_spreadEnds 70 = .ok (.aload_n 0, 1) := by decide +kernel
theorem dX8_spreadEnds_71 : decode cX8_spreadEnds 71 = .ok (.getfield 12, 3) := by decide +kernel
theorem dX8_spreadEnds_74 : decode cX8_spreadEnds 74 = .ok (.getfield 167, 3) := by decide +kernel
theorem dX8_spreadEnds_77 : decode cX8_spreadEnds 77 = .ok (.iload_n 2, 1) := by decide +kernel
theorem dX8_spreadEnds_78 : decode cX8_spreadEnds 78 = .ok (.aload_n 0, 1) := by decide +kernel
theorem dX8_spreadEnds_79 : decode cX8_spreadEnds 79 = .ok (.getfield 12, 3) := by decide +kernel
theorem dX8_spreadEnds_82 : decode cX8_spreadEnds 82 = .ok (.getfield 167, 3) := by decide +kernel
theorem dX8_spreadEnds_85 : decode cX8_spreadEnds 85 = .ok (.iload_n 2, 1) := by decide +kernel
theorem dX8_spreadEnds_86 : decode cX8_spreadEnds 86 = .ok (.iaload, 1) := by decide +kernel
theorem dX8_spreadEnds_87 : decode cX8_spreadEnds 87 = .ok (.aload_n 0, 1) := by decide +kernel
theorem dX8_spreadEnds_88 : decode cX8_spreadEnds 88 = .ok (.getfield 21, 3) := by decide +kernel
theorem dX8_spreadEnds_91 : decode cX8_spreadEnds 91 = .ok (.getfield 170, 3) := by decide +kernel
theorem dX8_spreadEnds_94 : decode cX8_spreadEnds 94 = .ok (.iload_n 1, 1) := by decide +kernel
theorem dX8_spreadEnds_95 : decode cX8_spreadEnds 95 = .ok (.iaload, 1) := by decide +kernel
theorem dX8_spreadEnds_96 : decode cX8_spreadEnds 96 = .ok (.invokestatic 171, 3) := by decide +kernel
theorem dX8_spreadEnds_99 : decode cX8_spreadEnds 99 = .ok (.iastore, 1) := by decide +kernel
theorem dX8_spreadEnds_100 : decode cX8_spreadEnds 100 = .ok (.aload_n 0, 1) := by decide +kernel
theorem dX8_spreadEnds_101 : decode cX8_spreadEnds 101 = .ok (.getfield 12, 3) := by decide +kernel
theorem dX8_spreadEnds_104 : decode cX8_spreadEnds 104 = .ok (.getfield 88, 3) := by decide +kernel
theorem dX8_spreadEnds_107 : decode cX8_spreadEnds 107 = .ok (.iload_n 2, 1) := by decide +kernel
theorem dX8_spreadEnds_108 : decode cX8_spreadEnds 108 = .ok (.iaload, 1) := by decide +kernel
theorem dX8_spreadEnds_109 : decode cX8_spreadEnds 109 = .ok (.istore_n 3, 1) := by decide +kernel
theorem dX8_spreadEnds_110 : decode cX8_spreadEnds 110 = .ok (.aload_n 0, 1) := by decide +kernel
theorem dX8_spreadEnds_111 : decode cX8_spreadEnds 111 = .ok (.getfield 21, 3) := by decide +kernel
theorem dX8_spreadEnds_114 : decode cX8_spreadEnds 114 = .ok (.iload_n 3, 1) := by decide +kernel
theorem dX8_spreadEnds_115 : decode cX8_spreadEnds 115 = .ok (.invokevirtual 80, 3) := by decide +kernel
theorem dX8_spreadEnds_118 : decode cX8_spreadEnds 118 = .ok (.ifCond .eq 33, 3) := by decide +kernel
theorem dX8_spreadEnds_121 : decode cX8_spreadEnds 121 = .ok (.aload_n 0, 1) := by decide +kernel
theorem dX8_spreadEnds_122 : decode cX8_spreadEnds 122 = .ok (.getfield 21, 3) := by decide +kernel
theorem dX8_spreadEnds_125 : decode cX8_spreadEnds 125 = .ok (.getfield 170, 3) := by decide +kernel
theorem dX8_spreadEnds_128 : decode cX8_spreadEnds 128 = .ok (.iload_n 3, 1) := by decide +kernel
theorem dX8_spreadEnds_129 : decode cX8_spreadEnds 129 = .ok (.aload_n 0, 1) := by decide +kernel
theorem dX8_spreadEnds_130 : decode cX8_spreadEnds 130 = .ok (.getfield 21, 3) := by decide +kernel
theorem dX8_spreadEnds_133 : decode cX8_spreadEnds 133 = .ok (.getfield 170, 3) := by decide +kernel
theorem dX8_spreadEnds_136 : decode cX8_spreadEnds 136 = .ok (.iload_n 3, 1) := by decide +kernel
theorem dX8_spreadEnds_137 : decode cX8_spreadEnds 137 = .ok (.iaload, 1) := by decide +kernel
theorem dX8_spreadEnds_138 : decode cX8_spreadEnds 138 = .ok (.aload_n 0, 1) := by decide +kernel
theorem dX8_spreadEnds_139 : decode cX8_spreadEnds 139 = .ok (.getfield 21, 3) := by decide +kernel
theorem dX8_spreadEnds_142 : decode cX8_spreadEnds 142 = .ok (.getfield 170, 3) := by decide +kernel
theorem dX8_spreadEnds_145 : decode cX8_spreadEnds 145 = .ok (.iload_n 1, 1) := by decide +kernel
theorem dX8_spreadEnds_146 : decode cX8_spreadEnds 146 = .ok (.iaload, 1) := by decide +kernel
theorem dX8_spreadEnds_147 : decode cX8_spreadEnds 147 = .ok (.invokestatic 171, 3) := by decide +kernel
theorem dX8_spreadEnds_150 : decode cX8_spreadEnds 150 = .ok (.iastore, 1) := by decide +kernel
theorem dX8_spreadEnds_49 : decode cX8_spreadEnds 49 = .ok (.goto 102, 3) := by decide +kernel
theorem dX8_fail_0 : decode cX8_fail 0 = .ok (.aload_n 0, 1) := by decide +kernel
theorem dX8_fail_1 : decode cX8_fail 1 = .ok (.iload_n 1, 1) := by decide +kernel
theorem dX8_fail_2 : decode cX8_fail 2 = .ok (.putfield 36, 3) := by decide +kernel
theorem dX8_fail_5 : decode cX8_fail 5 = .ok (.aload_n 0, 1) := by decide +kernel
theorem dX8_fail_6 : decode cX8_fail 6 = .ok (.iload_n 2, 1) := by decide +kernel
theorem dX8_fail_7 : decode cX8_fail 7 = .ok (.putfield 40, 3) := by decide +kernel
theorem dX8_fail_10 : decode cX8_fail 10 = .ok (.return_, 1) := by decide +kernel
set_option maxHeartbeats 4000000 in
set_option maxRecDepth 100000 in
theorem g_X8_top_17 (l : Launch) (D : va_G) (tA : Nat → ClassId) (b : Nat) (i F : Nat → Nat → Int32) (G : Nat → Nat → Int64)  (hT : Tb17 i F) : xMI l yX8_top cX8_top 1 (some .int) 0 0 D tA b 0 78 i F G [.ref (b + 17)] (fun r u => u = (i, F, G) ∧ (0 ≤ r.toInt ∧ r.toInt < 601) ∧ ((i 17 7).toInt = 1 → r = 0)) := by
  refine xstart RX8 rfl (by decide) (Nat.le_of_ble_eq_true rfl) ?_
  intro p e s m below meth c ls C0 hr hH hS hl
  have hl : lv_has ls 1 [(0, .ref (b + 17))] := hl
  have hL := Tb17.lin hT
  have h601 : Int32.toInt (nI 601) = 601 := rfl
  refine lv_aload_n (pc := 0) C0.1 C0.2.1 dX8_top_0 rfl (lv_at hl 0 rfl) ?_
  refine xget (pc := 1) C0 hH 17 7 clX8 ⟨Nat.le_of_ble_eq_true rfl, Nat.le_of_ble_eq_true rfl⟩ ⟨rfl, rfl⟩ (Nat.le_of_ble_eq_true rfl) fl_X8_50 (v := .int (i 17 7)) rfl dX8_top_1 ?_
  refine lv_if_le (pc := 4) (tgt := 33) C0.1 C0.2.1 dX8_top_4 (by decide) (fun c1 => ?_) (fun c1 => ?_)
  · have : Int32.toInt 0 = 0 := rfl
    have c1 := Int32.le_iff_toInt_le.mp c1
    refine lv_iconst (pc := 33) (v := 0) C0.1 C0.2.1 dX8_top_33 (by decide) ?_
    exact xiret (pc := 34) C0 hr hH hS dX8_top_34 ⟨rfl, ⟨by decide, by decide⟩, fun _ => rfl⟩
  · have : Int32.toInt 0 = 0 := rfl
    have c1 : ¬ _ := fun q => c1 (Int32.le_iff_toInt_le.mpr q)
    refine lv_aload_n (pc := 7) C0.1 C0.2.1 dX8_top_7 rfl (lv_at hl 0 rfl) ?_
    refine xget (pc := 8) C0 hH 17 7 clX8 ⟨Nat.le_of_ble_eq_true rfl, Nat.le_of_ble_eq_true rfl⟩ ⟨rfl, rfl⟩ (Nat.le_of_ble_eq_true rfl) fl_X8_50 (v := .int (i 17 7)) rfl dX8_top_8 ?_
    refine lv_aload_n (pc := 11) C0.1 C0.2.1 dX8_top_11 rfl (lv_at hl 0 rfl) ?_
    refine xget (pc := 12) C0 hH 17 6 clX8 ⟨Nat.le_of_ble_eq_true rfl, Nat.le_of_ble_eq_true rfl⟩ ⟨rfl, rfl⟩ (Nat.le_of_ble_eq_true rfl) fl_X8_33 (v := .ref (b + 38)) rfl dX8_top_12 ?_
    refine xalen (pc := 15) (N := 601) (t := 50) C0 hH 38 ⟨Nat.le_of_ble_eq_true rfl, Nat.le_of_ble_eq_true rfl⟩ ⟨rfl, rfl⟩ (by decide) dX8_top_15 ?_
    refine lv_icmp_gt (pc := 16) (tgt := 33) C0.1 C0.2.1 dX8_top_16 (by decide) (fun c2 => ?_) (fun c2 => ?_)
    · have c2 := Int32.lt_iff_toInt_lt.mp c2
      refine lv_iconst (pc := 33) (v := 0) C0.1 C0.2.1 dX8_top_33 (by decide) ?_
      exact xiret (pc := 34) C0 hr hH hS dX8_top_34 ⟨rfl, ⟨by decide, by decide⟩, fun _ => rfl⟩
    · have c2 : ¬ _ := fun q => c2 (Int32.lt_iff_toInt_lt.mpr q)
      refine lv_aload_n (pc := 19) C0.1 C0.2.1 dX8_top_19 rfl (lv_at hl 0 rfl) ?_
      refine xget (pc := 20) C0 hH 17 6 clX8 ⟨Nat.le_of_ble_eq_true rfl, Nat.le_of_ble_eq_true rfl⟩ ⟨rfl, rfl⟩ (Nat.le_of_ble_eq_true rfl) fl_X8_33 (v := .ref (b + 38)) rfl dX8_top_20 ?_
      refine lv_aload_n (pc := 23) C0.1 C0.2.1 dX8_top_23 rfl (lv_at hl 0 rfl) ?_
      refine xget (pc := 24) C0 hH 17 7 clX8 ⟨Nat.le_of_ble_eq_true rfl, Nat.le_of_ble_eq_true rfl⟩ ⟨rfl, rfl⟩ (Nat.le_of_ble_eq_true rfl) fl_X8_50 (v := .int (i 17 7)) rfl dX8_top_24 ?_
      refine lv_iconst (pc := 27) (v := 1) C0.1 C0.2.1 dX8_top_27 (by decide) ?_
      have : Int32.toInt 1 = 1 := rfl
      refine lv_isub (pc := 28) C0.1 C0.2.1 dX8_top_28 ?_
      refine lv_topi (fun x3 ex3 => ?_)
      have hx3 : Int32.toInt x3 = Int32.toInt (i 17 7) - Int32.toInt 1 := by rw [ex3]; exact fb_subI (by omega) (by omega)
      refine xiald (pc := 29) (N := 601) C0 hH 38 ⟨Nat.le_of_ble_eq_true rfl, Nat.le_of_ble_eq_true rfl⟩ ⟨rfl, rfl⟩ (vI (by omega) (by omega)) dX8_top_29 ?_
      refine lv_goto (pc := 30) (tgt := 34) C0.1 C0.2.1 dX8_top_30 (by decide) ?_
      exact xiret (pc := 34) C0 hr hH hS dX8_top_34 ⟨rfl, hT.1.pl _, fun q => by have hc := clI (x := x3) (by omega); have e : Int32.toNatClampNeg x3 = 0 := (by omega); rw [e]; exact hT.2.2.2.2.1⟩
set_option maxHeartbeats 4000000 in
set_option maxRecDepth 100000 in
theorem g_X8_pileUp_17 (l : Launch) (D : va_G) (tA : Nat → ClassId) (b : Nat) (i F : Nat → Nat → Int32) (G : Nat → Nat → Int64) (x : Int32) (k : Int) (hT : Tb17 i F) (hQ : Pp17 k i F) (hk : 0 ≤ k) : xMV l yX8_pileUp cX8_pileUp 2 none 1 21 D tA b 0 78 i F G [.ref (b + 17), .int x] (fun u => On 17 39 i F G u ∧ Tb17 u.1 u.2.1 ∧ Pp17 k u.1 u.2.1) := by
  refine xstart RX8 rfl (by decide) (Nat.le_of_ble_eq_true rfl) ?_
  intro p e s m below meth c ls C0 hr hH hS hl
  have hl : lv_has ls 2 [(0, .ref (b + 17)), (1, .int x)] := hl
  have rg_x := fb_rng x
  have hL := Tb17.lin hT
  have h601 : Int32.toInt (nI 601) = 601 := rfl
  refine lv_aload_n (pc := 0) C0.1 C0.2.1 dX8_pileUp_0 rfl (lv_at hl 0 rfl) ?_
  refine xget (pc := 1) C0 hH 17 0 clX8 ⟨Nat.le_of_ble_eq_true rfl, Nat.le_of_ble_eq_true rfl⟩ ⟨rfl, rfl⟩ (Nat.le_of_ble_eq_true rfl) fl_X8_12 (v := .ref (b + 18)) rfl dX8_pileUp_1 ?_
  refine lv_iload_n (pc := 4) C0.1 C0.2.1 dX8_pileUp_4 rfl (lv_at hl 1 rfl) ?_
  refine xcVI (pc := 5) 18 [.int x] (g_X0_has_18 l D tA b i F G x ) C0 hH hS clX0 rfl ⟨⟨Nat.le_of_ble_eq_true rfl, Nat.le_of_ble_eq_true rfl⟩, rfl, rfl⟩ cw_X8_87 rfl ⟨Nat.le_of_ble_eq_true rfl, Nat.le_of_ble_eq_true rfl⟩ hl.1 rfl (Nat.le_of_ble_eq_true rfl) dX8_pileUp_5 ⟨Nat.le_of_ble_eq_true rfl, Nat.le_of_ble_eq_true rfl⟩ (fun r1 ir1 Fr1 Gr1 _ locs hp hH hS => ?_)
  obtain ⟨hu, hpr1⟩ := hp
  cases hu
  refine lv_if_eq (pc := 8) (tgt := 43) C0.1 C0.2.1 dX8_pileUp_8 (by decide) (fun c2 => ?_) (fun c2 => ?_)
  · have : Int32.toInt 0 = 0 := rfl
    have c2 := congrArg Int32.toInt c2
    exact xvret (pc := 43) C0 hr hH hS dX8_pileUp_43 ⟨On.rf, hT, hQ⟩
  · have : Int32.toInt 0 = 0 := rfl
    have c2 : ¬ _ := fun q => c2 (Int32.toInt_inj.mp q)
    refine lv_aload_n (pc := 11) C0.1 C0.2.1 dX8_pileUp_11 rfl (lv_at hl 0 rfl) ?_
    refine xget (pc := 12) C0 hH 17 7 clX8 ⟨Nat.le_of_ble_eq_true rfl, Nat.le_of_ble_eq_true rfl⟩ ⟨rfl, rfl⟩ (Nat.le_of_ble_eq_true rfl) fl_X8_50 (v := .int (i 17 7)) rfl dX8_pileUp_12 ?_
    refine lv_aload_n (pc := 15) C0.1 C0.2.1 dX8_pileUp_15 rfl (lv_at hl 0 rfl) ?_
    refine xget (pc := 16) C0 hH 17 6 clX8 ⟨Nat.le_of_ble_eq_true rfl, Nat.le_of_ble_eq_true rfl⟩ ⟨rfl, rfl⟩ (Nat.le_of_ble_eq_true rfl) fl_X8_33 (v := .ref (b + 38)) rfl dX8_pileUp_16 ?_
    refine xalen (pc := 19) (N := 601) (t := 50) C0 hH 38 ⟨Nat.le_of_ble_eq_true rfl, Nat.le_of_ble_eq_true rfl⟩ ⟨rfl, rfl⟩ (by decide) dX8_pileUp_19 ?_
    refine lv_icmp_ge (pc := 20) (tgt := 43) C0.1 C0.2.1 dX8_pileUp_20 (by decide) (fun c3 => ?_) (fun c3 => ?_)
    · have c3 := Int32.le_iff_toInt_le.mp c3
      exact xvret (pc := 43) C0 hr hH hS dX8_pileUp_43 ⟨On.rf, hT, hQ⟩
    · have c3 : ¬ _ := fun q => c3 (Int32.le_iff_toInt_le.mpr q)
      refine lv_aload_n (pc := 23) C0.1 C0.2.1 dX8_pileUp_23 rfl (lv_at hl 0 rfl) ?_
      refine xget (pc := 24) C0 hH 17 6 clX8 ⟨Nat.le_of_ble_eq_true rfl, Nat.le_of_ble_eq_true rfl⟩ ⟨rfl, rfl⟩ (Nat.le_of_ble_eq_true rfl) fl_X8_33 (v := .ref (b + 38)) rfl dX8_pileUp_24 ?_
      refine lv_aload_n (pc := 27) C0.1 C0.2.1 dX8_pileUp_27 rfl (lv_at hl 0 rfl) ?_
      refine xget (pc := 28) C0 hH 17 7 clX8 ⟨Nat.le_of_ble_eq_true rfl, Nat.le_of_ble_eq_true rfl⟩ ⟨rfl, rfl⟩ (Nat.le_of_ble_eq_true rfl) fl_X8_50 (v := .int (i 17 7)) rfl dX8_pileUp_28 ?_
      refine lv_iload_n (pc := 31) C0.1 C0.2.1 dX8_pileUp_31 rfl (lv_at hl 1 rfl) ?_
      refine xiast (pc := 32) (N := 601) C0 (Nat.le_of_ble_eq_true rfl) hH hS 38 ⟨Nat.le_of_ble_eq_true rfl, Nat.le_of_ble_eq_true rfl⟩ ⟨rfl, rfl⟩ (vI (by omega) (by omega)) dX8_pileUp_32 (fun _ locs hH hS _ => ?_)
      have hH : Hd D tA b 0 78 zz i (va_up F 38 (upd (F 38) (Int32.toNatClampNeg (i 17 7)) x)) G _ := hH
      refine lv_aload_n (pc := 33) C0.1 C0.2.1 dX8_pileUp_33 rfl (lv_at hl 0 rfl) ?_
      refine lv_dup (pc := 34) C0.1 C0.2.1 dX8_pileUp_34 rfl ?_
      refine xget (pc := 35) C0 hH 17 7 clX8 ⟨Nat.le_of_ble_eq_true rfl, Nat.le_of_ble_eq_true rfl⟩ ⟨rfl, rfl⟩ (Nat.le_of_ble_eq_true rfl) fl_X8_50 (v := .int (i 17 7)) rfl dX8_pileUp_35 ?_
      refine lv_iconst (pc := 38) (v := 1) C0.1 C0.2.1 dX8_pileUp_38 (by decide) ?_
      have : Int32.toInt 1 = 1 := rfl
      refine lv_iadd (pc := 39) C0.1 C0.2.1 dX8_pileUp_39 ?_
      refine lv_topi (fun x4 ex4 => ?_)
      have hx4 : Int32.toInt x4 = Int32.toInt (i 17 7) + Int32.toInt 1 := by rw [ex4]; exact fb_addI (by omega) (by omega)
      refine xputI (pc := 40) C0 (Nat.le_of_ble_eq_true rfl) hH hS 17 7 clX8 ⟨Nat.le_of_ble_eq_true rfl, Nat.le_of_ble_eq_true rfl⟩ ⟨rfl, rfl⟩ ⟨Nat.le_of_ble_eq_true rfl, rfl, rfl⟩ fl_X8_50 (x := x4) ⟨rfl, rfl⟩ dX8_pileUp_40 (fun _ locs hH hS _ => ?_)
      have hH : Hd D tA b 0 78 zz (up2 i 17 7 x4) (va_up F 38 (upd (F 38) (Int32.toNatClampNeg (i 17 7)) x)) G _ := hH
      exact xvret (pc := 43) C0 hr hH hS dX8_pileUp_43 ⟨(On.f (On.i On.rf (by decide)) (by decide)), Tb17.pile hT (by omega) (by omega), hQ⟩
set_option maxHeartbeats 4000000 in
set_option maxRecDepth 100000 in
theorem g_X8_beginBlock_17 (l : Launch) (D : va_G) (tA : Nat → ClassId) (b : Nat) (i F : Nat → Nat → Int32) (G : Nat → Nat → Int64) (x1_ x2_ x3_ x4_ : Int32) (k : Int) (hT : Tb17 i F) (hQ : Pp17 k i F) (hk : 0 ≤ k) : xMI l yX8_beginBlock cX8_beginBlock 6 (some .int) 2 43 D tA b 0 78 i F G [.ref (b + 17), .int x1_, .int x2_, .int x3_, .int x4_] (fun r u => On 17 39 i F G u ∧ Tb17 u.1 u.2.1 ∧ Pp17 k u.1 u.2.1) := by
  refine xstart RX8 rfl (by decide) (Nat.le_of_ble_eq_true rfl) ?_
  intro p e s m below meth c ls C0 hr hH hS hl
  have hl : lv_has ls 6 [(0, .ref (b + 17)), (1, .int x1_), (2, .int x2_), (3, .int x3_), (4, .int x4_)] := hl
  have rg_x1_ := fb_rng x1_
  have rg_x2_ := fb_rng x2_
  have rg_x3_ := fb_rng x3_
  have rg_x4_ := fb_rng x4_
  have hL := Tb17.lin hT
  have h601 : Int32.toInt (nI 601) = 601 := rfl
  refine lv_aload_n (pc := 0) C0.1 C0.2.1 dX8_beginBlock_0 rfl (lv_at hl 0 rfl) ?_
  refine xget (pc := 1) C0 hH 17 0 clX8 ⟨Nat.le_of_ble_eq_true rfl, Nat.le_of_ble_eq_true rfl⟩ ⟨rfl, rfl⟩ (Nat.le_of_ble_eq_true rfl) fl_X8_12 (v := .ref (b + 18)) rfl dX8_beginBlock_1 ?_
  refine lv_iload_n (pc := 4) C0.1 C0.2.1 dX8_beginBlock_4 rfl (lv_at hl 1 rfl) ?_
  refine lv_iload_n (pc := 5) C0.1 C0.2.1 dX8_beginBlock_5 rfl (lv_at hl 2 rfl) ?_
  refine lv_iload_n (pc := 6) C0.1 C0.2.1 dX8_beginBlock_6 rfl (lv_at hl 3 rfl) ?_
  refine lv_aload_n (pc := 7) C0.1 C0.2.1 dX8_beginBlock_7 rfl (lv_at hl 0 rfl) ?_
  refine xget (pc := 8) C0 hH 17 7 clX8 ⟨Nat.le_of_ble_eq_true rfl, Nat.le_of_ble_eq_true rfl⟩ ⟨rfl, rfl⟩ (Nat.le_of_ble_eq_true rfl) fl_X8_50 (v := .int (i 17 7)) rfl dX8_beginBlock_8 ?_
  refine lv_iload (pc := 11) C0.1 C0.2.1 dX8_beginBlock_11 (lv_at hl 4 rfl) ?_
  refine xcVI (pc := 13) 18 [.int x1_, .int x2_, .int x3_, .int (i 17 7), .int x4_] (g_X0_add_17 l D tA b i F G x1_ x2_ x3_ (i 17 7) x4_ (show 1 ≤ Int32.toInt (i 18 9) ∧ Int32.toInt (i 18 9) ≤ 601 from by omega)) C0 hH hS clX0 rfl ⟨⟨Nat.le_of_ble_eq_true rfl, Nat.le_of_ble_eq_true rfl⟩, rfl, rfl⟩ cw_X8_59 rfl ⟨Nat.le_of_ble_eq_true rfl, Nat.le_of_ble_eq_true rfl⟩ hl.1 rfl (Nat.le_of_ble_eq_true rfl) dX8_beginBlock_13 ⟨Nat.le_of_ble_eq_true rfl, Nat.le_of_ble_eq_true rfl⟩ (fun r1 ir1 Fr1 Gr1 _ locs hp hH hS => ?_)
  obtain ⟨honr1, hbr1, hk0r1, hrr1⟩ := hp
  have hT : Tb17 ir1 Fr1 := Tb17.add hT honr1 hbr1 hk0r1
  have hQ : Pp17 k ir1 Fr1 := Pp17.on hQ honr1 (by decide)
  have hL := Tb17.lin hT
  refine lv_istore (pc := 16) (lv' := [(5, .int r1), (0, .ref (b + 17)), (1, .int x1_), (2, .int x2_), (3, .int x3_), (4, .int x4_)]) C0.1 C0.2.1 dX8_beginBlock_16 hl (by decide) rfl (fun ls hl => ?_)
  refine lv_iload (pc := 18) C0.1 C0.2.1 dX8_beginBlock_18 (lv_at hl 0 rfl) ?_
  refine lv_bipush (pc := 20) (v := (-9)) C0.1 C0.2.1 dX8_beginBlock_20 (by decide) ?_
  refine lv_icmp_eq (pc := 22) (tgt := 38) C0.1 C0.2.1 dX8_beginBlock_22 (by decide) (fun c2 => ?_) (fun c2 => ?_)
  · have : Int32.toInt (-9) = (-9) := rfl
    have c2 := congrArg Int32.toInt c2
    refine lv_iload (pc := 38) C0.1 C0.2.1 dX8_beginBlock_38 (lv_at hl 0 rfl) ?_
    exact xiret (pc := 40) C0 hr hH hS dX8_beginBlock_40 ⟨(On.tr On.rf honr1 (by decide) (by decide)), hT, hQ⟩
  · have : Int32.toInt (-9) = (-9) := rfl
    have c2 : ¬ _ := fun q => c2 (Int32.toInt_inj.mp q)
    refine lv_aload_n (pc := 25) C0.1 C0.2.1 dX8_beginBlock_25 rfl (lv_at hl 1 rfl) ?_
    refine xget (pc := 26) C0 hH 17 1 clX8 ⟨Nat.le_of_ble_eq_true rfl, Nat.le_of_ble_eq_true rfl⟩ ⟨rfl, rfl⟩ (Nat.le_of_ble_eq_true rfl) fl_X8_21 (v := .ref (b + 28)) rfl dX8_beginBlock_26 ?_
    refine lv_iload_n (pc := 29) C0.1 C0.2.1 dX8_beginBlock_29 rfl (lv_at hl 4 rfl) ?_
    refine lv_bipush (pc := 30) (v := (-100)) C0.1 C0.2.1 dX8_beginBlock_30 (by decide) ?_
    refine lv_iload (pc := 32) C0.1 C0.2.1 dX8_beginBlock_32 (lv_at hl 0 rfl) ?_
    have : Int32.toInt (-100) = (-100) := rfl
    refine lv_isub (pc := 34) C0.1 C0.2.1 dX8_beginBlock_34 ?_
    refine lv_topi (fun x3 ex3 => ?_)
    have hx3 : Int32.toInt x3 = Int32.toInt (-100) - Int32.toInt r1 := by rw [ex3]; exact fb_subI (by omega) (by omega)
    refine xcVV (pc := 35) 28 [.int x3_, .int x3] (g_X2_hang_17 l D tA b ir1 Fr1 Gr1 x3_ x3 hT.1.2.1 hT.1.2.2.1 hT.1.pi hT.1.pv (by omega)) C0 hH hS clX2 rfl ⟨⟨Nat.le_of_ble_eq_true rfl, Nat.le_of_ble_eq_true rfl⟩, rfl, rfl⟩ cw_X8_118 rfl ⟨Nat.le_of_ble_eq_true rfl, Nat.le_of_ble_eq_true rfl⟩ hl.1 rfl (Nat.le_of_ble_eq_true rfl) dX8_beginBlock_35 ⟨Nat.le_of_ble_eq_true rfl, Nat.le_of_ble_eq_true rfl⟩ (fun ir4 Fr4 Gr4 _ locs hp hH hS => ?_)
    obtain ⟨honr4, h5r4, hptr4, howr4, hpir4, hpvr4, hppr4⟩ := hp
    have hT : Tb17 ir4 Fr4 := Tb17.hang hT honr4 h5r4 hptr4 howr4 hpir4 hpvr4
    have hQ : Pp17 k ir4 Fr4 := Pp17.hangN hQ honr4 hppr4 (by omega) (by omega)
    have hL := Tb17.lin hT
    refine lv_iload (pc := 38) C0.1 C0.2.1 dX8_beginBlock_38 (lv_at hl 0 rfl) ?_
    exact xiret (pc := 40) C0 hr hH hS dX8_beginBlock_40 ⟨(On.tr (On.tr On.rf honr1 (by decide) (by decide)) honr4 (by decide) (by decide)), hT, hQ⟩
set_option maxHeartbeats 4000000 in
set_option maxRecDepth 100000 in
theorem g_X8_beginItem_17 (l : Launch) (D : va_G) (tA : Nat → ClassId) (b : Nat) (i F : Nat → Nat → Int32) (G : Nat → Nat → Int64) (x : Int32) (k : Int) (hT : Tb17 i F) (hQ : Pp17 k i F) (hk : 0 ≤ k) : xMI l yX8_beginItem cX8_beginItem 3 (some .int) 1 22 D tA b 0 78 i F G [.ref (b + 17), .int x] (fun r u => On 17 39 i F G u ∧ Tb17 u.1 u.2.1 ∧ Pp17 k u.1 u.2.1) := by
  refine xstart RX8 rfl (by decide) (Nat.le_of_ble_eq_true rfl) ?_
  intro p e s m below meth c ls C0 hr hH hS hl
  have hl : lv_has ls 3 [(0, .ref (b + 17)), (1, .int x)] := hl
  have rg_x := fb_rng x
  have hL := Tb17.lin hT
  have h601 : Int32.toInt (nI 601) = 601 := rfl
  refine lv_aload_n (pc := 0) C0.1 C0.2.1 dX8_beginItem_0 rfl (lv_at hl 0 rfl) ?_
  refine xget (pc := 1) C0 hH 17 0 clX8 ⟨Nat.le_of_ble_eq_true rfl, Nat.le_of_ble_eq_true rfl⟩ ⟨rfl, rfl⟩ (Nat.le_of_ble_eq_true rfl) fl_X8_12 (v := .ref (b + 18)) rfl dX8_beginItem_1 ?_
  refine lv_iload_n (pc := 4) C0.1 C0.2.1 dX8_beginItem_4 rfl (lv_at hl 1 rfl) ?_
  refine xcVI (pc := 5) 18 [.int x] (g_X0_has_18 l D tA b i F G x ) C0 hH hS clX0 rfl ⟨⟨Nat.le_of_ble_eq_true rfl, Nat.le_of_ble_eq_true rfl⟩, rfl, rfl⟩ cw_X8_87 rfl ⟨Nat.le_of_ble_eq_true rfl, Nat.le_of_ble_eq_true rfl⟩ hl.1 rfl (Nat.le_of_ble_eq_true rfl) dX8_beginItem_5 ⟨Nat.le_of_ble_eq_true rfl, Nat.le_of_ble_eq_true rfl⟩ (fun r1 ir1 Fr1 Gr1 _ locs hp hH hS => ?_)
  obtain ⟨hu, hpr1⟩ := hp
  cases hu
  refine lv_if_ne (pc := 8) (tgt := 14) C0.1 C0.2.1 dX8_beginItem_8 (by decide) (fun c2 => ?_) (fun c2 => ?_)
  · have : Int32.toInt 0 = 0 := rfl
    have c2 : ¬ _ := fun q => c2 (Int32.toInt_inj.mp q)
    refine lv_aload_n (pc := 14) C0.1 C0.2.1 dX8_beginItem_14 rfl (lv_at hl 0 rfl) ?_
    refine xget (pc := 15) C0 hH 17 1 clX8 ⟨Nat.le_of_ble_eq_true rfl, Nat.le_of_ble_eq_true rfl⟩ ⟨rfl, rfl⟩ (Nat.le_of_ble_eq_true rfl) fl_X8_21 (v := .ref (b + 28)) rfl dX8_beginItem_15 ?_
    refine lv_iload_n (pc := 18) C0.1 C0.2.1 dX8_beginItem_18 rfl (lv_at hl 1 rfl) ?_
    refine lv_aload_n (pc := 19) C0.1 C0.2.1 dX8_beginItem_19 rfl (lv_at hl 0 rfl) ?_
    refine xget (pc := 20) C0 hH 17 0 clX8 ⟨Nat.le_of_ble_eq_true rfl, Nat.le_of_ble_eq_true rfl⟩ ⟨rfl, rfl⟩ (Nat.le_of_ble_eq_true rfl) fl_X8_12 (v := .ref (b + 18)) rfl dX8_beginItem_20 ?_
    refine xget (pc := 23) C0 hH 18 3 clX0 ⟨Nat.le_of_ble_eq_true rfl, Nat.le_of_ble_eq_true rfl⟩ ⟨rfl, rfl⟩ (Nat.le_of_ble_eq_true rfl) fl_X8_177 (v := .ref (b + 22)) rfl dX8_beginItem_23 ?_
    refine lv_iload_n (pc := 26) C0.1 C0.2.1 dX8_beginItem_26 rfl (lv_at hl 1 rfl) ?_
    refine xiald (pc := 27) (N := 601) C0 hH 22 ⟨Nat.le_of_ble_eq_true rfl, Nat.le_of_ble_eq_true rfl⟩ ⟨rfl, rfl⟩ (vI (by omega) (by omega)) dX8_beginItem_27 ?_
    refine xcVI (pc := 28) 28 [.int x, .int (F 22 (Int32.toNatClampNeg x))] (g_X2_add_17 l D tA b i F G x (F 22 (Int32.toNatClampNeg x)) hT.1.2.1 hT.1.ow (by omega)) C0 hH hS clX2 rfl ⟨⟨Nat.le_of_ble_eq_true rfl, Nat.le_of_ble_eq_true rfl⟩, rfl, rfl⟩ cw_X8_180 rfl ⟨Nat.le_of_ble_eq_true rfl, Nat.le_of_ble_eq_true rfl⟩ hl.1 rfl (Nat.le_of_ble_eq_true rfl) dX8_beginItem_28 ⟨Nat.le_of_ble_eq_true rfl, Nat.le_of_ble_eq_true rfl⟩ (fun r3 ir3 Fr3 Gr3 _ locs hp hH hS => ?_)
    obtain ⟨honr3, hbr3, hk0r3, hrr3⟩ := hp
    have hT : Tb17 ir3 Fr3 := Tb17.iadd hT honr3 hbr3 hk0r3 hrr3
    have hQ : Pp17 k ir3 Fr3 := Pp17.iadd hQ honr3 hk0r3
    have hL := Tb17.lin hT
    refine lv_istore_n (pc := 31) (lv' := [(2, .int r3), (0, .ref (b + 17)), (1, .int x)]) C0.1 C0.2.1 dX8_beginItem_31 rfl hl (by decide) rfl (fun ls hl => ?_)
    refine lv_aload_n (pc := 32) C0.1 C0.2.1 dX8_beginItem_32 rfl (lv_at hl 1 rfl) ?_
    refine xget (pc := 33) C0 hH 17 0 clX8 ⟨Nat.le_of_ble_eq_true rfl, Nat.le_of_ble_eq_true rfl⟩ ⟨rfl, rfl⟩ (Nat.le_of_ble_eq_true rfl) fl_X8_12 (v := .ref (b + 18)) rfl dX8_beginItem_33 ?_
    refine xget (pc := 36) C0 hH 18 3 clX0 ⟨Nat.le_of_ble_eq_true rfl, Nat.le_of_ble_eq_true rfl⟩ ⟨rfl, rfl⟩ (Nat.le_of_ble_eq_true rfl) fl_X8_177 (v := .ref (b + 22)) rfl dX8_beginItem_36 ?_
    refine lv_iload_n (pc := 39) C0.1 C0.2.1 dX8_beginItem_39 rfl (lv_at hl 2 rfl) ?_
    refine lv_dup2_11 (pc := 40) C0.1 C0.2.1 dX8_beginItem_40 rfl rfl ?_
    refine xiald (pc := 41) (N := 601) C0 hH 22 ⟨Nat.le_of_ble_eq_true rfl, Nat.le_of_ble_eq_true rfl⟩ ⟨rfl, rfl⟩ (vI (by omega) (by omega)) dX8_beginItem_41 ?_
    refine lv_iconst (pc := 42) (v := 1) C0.1 C0.2.1 dX8_beginItem_42 (by decide) ?_
    refine lv_iadd (pc := 43) C0.1 C0.2.1 dX8_beginItem_43 ?_
    refine xiast (pc := 44) (N := 601) C0 (Nat.le_of_ble_eq_true rfl) hH hS 22 ⟨Nat.le_of_ble_eq_true rfl, Nat.le_of_ble_eq_true rfl⟩ ⟨rfl, rfl⟩ (vI (by omega) (by omega)) dX8_beginItem_44 (fun _ locs hH hS _ => ?_)
    have hH : Hd D tA b 0 78 zz ir3 (va_up Fr3 22 (upd (Fr3 22) (Int32.toNatClampNeg x) ((Fr3 22 (Int32.toNatClampNeg x)) + 1))) Gr3 _ := hH
    refine lv_aload_n (pc := 45) C0.1 C0.2.1 dX8_beginItem_45 rfl (lv_at hl 1 rfl) ?_
    refine xget (pc := 46) C0 hH 17 0 clX8 ⟨Nat.le_of_ble_eq_true rfl, Nat.le_of_ble_eq_true rfl⟩ ⟨rfl, rfl⟩ (Nat.le_of_ble_eq_true rfl) fl_X8_12 (v := .ref (b + 18)) rfl dX8_beginItem_46 ?_
    refine xget (pc := 49) C0 hH 18 8 clX0 ⟨Nat.le_of_ble_eq_true rfl, Nat.le_of_ble_eq_true rfl⟩ ⟨rfl, rfl⟩ (Nat.le_of_ble_eq_true rfl) fl_X8_148 (v := .ref (b + 27)) rfl dX8_beginItem_49 ?_
    refine lv_iload_n (pc := 52) C0.1 C0.2.1 dX8_beginItem_52 rfl (lv_at hl 2 rfl) ?_
    refine lv_iload_n (pc := 53) C0.1 C0.2.1 dX8_beginItem_53 rfl (lv_at hl 0 rfl) ?_
    refine xiast (pc := 54) (N := 601) C0 (Nat.le_of_ble_eq_true rfl) hH hS 27 ⟨Nat.le_of_ble_eq_true rfl, Nat.le_of_ble_eq_true rfl⟩ ⟨rfl, rfl⟩ (vI (by omega) (by omega)) dX8_beginItem_54 (fun _ locs hH hS _ => ?_)
    have hH : Hd D tA b 0 78 zz ir3 (va_up (va_up Fr3 22 (upd (Fr3 22) (Int32.toNatClampNeg x) ((Fr3 22 (Int32.toNatClampNeg x)) + 1))) 27 (upd (Fr3 27) (Int32.toNatClampNeg x) r3)) Gr3 _ := hH
    refine lv_iload_n (pc := 55) C0.1 C0.2.1 dX8_beginItem_55 rfl (lv_at hl 0 rfl) ?_
    exact xiret (pc := 56) C0 hr hH hS dX8_beginItem_56 ⟨(On.f (On.f (On.tr On.rf honr3 (by decide) (by decide)) (by decide)) (by decide)), hT, hQ⟩
  · have : Int32.toInt 0 = 0 := rfl
    have c2 := congrArg Int32.toInt c2
    refine lv_bipush (pc := 11) (v := (-9)) C0.1 C0.2.1 dX8_beginItem_11 (by decide) ?_
    exact xiret (pc := 13) C0 hr hH hS dX8_beginItem_13 ⟨On.rf, hT, hQ⟩
set_option maxHeartbeats 4000000 in
set_option maxRecDepth 100000 in
theorem g_X8_levelOfLet_17 (l : Launch) (D : va_G) (tA : Nat → ClassId) (b : Nat) (i F : Nat → Nat → Int32) (G : Nat → Nat → Int64)  (hT : Tb17 i F) : xMI l yX8_levelOfLet cX8_levelOfLet 3 (some .int) 0 0 D tA b 0 78 i F G [.ref (b + 17)] (fun r u => u = (i, F, G) ∧ (r.toInt = -9 ∨ (1 ≤ r.toInt ∧ r.toInt < (i 17 7).toInt))) := by
  refine xstart RX8 rfl (by decide) (Nat.le_of_ble_eq_true rfl) ?_
  intro p e s m below meth c ls C0 hr hH hS hl
  have hl : lv_has ls 3 [(0, .ref (b + 17))] := hl
  have hL := Tb17.lin hT
  have h601 : Int32.toInt (nI 601) = 601 := rfl
  have LOOP : ∀ (d : Nat) (k : Int32) (H : Heap) (locs : List Loc) (ls : Array Slot), (0 ≤ k.toInt) → (k.toInt ≤ d) → (k.toInt < (i 17 7).toInt) → Hd D tA b 0 78 zz i F G H → va_S (xA b 0 78) s.heap H locs → lv_has ls 3 [(1, .int k), (0, .ref (b + 17))] → W p l e (xR 0 0) s m ([.ref (b + 17)] : List Value).toArray below meth c H locs 0 0 (MQ below (va_Qi (fun r u => u = (i, F, G) ∧ (r.toInt = -9 ∨ (1 ≤ r.toInt ∧ r.toInt < (i 17 7).toInt))) (xB D tA b 0 78 zz) (xA b 0 78)) ([.ref (b + 17)] : List Value).toArray s 0 0 (xA b 0 78)) (F0 m 7 ls []) := by
    intro d
    induction d with
    | zero =>
      intro k H locs ls h1 h2 h3 hH hS hl
      have rg_k := fb_rng k
      refine lv_iload_n (pc := 7) C0.1 C0.2.1 dX8_levelOfLet_7 rfl (lv_at hl 0 rfl) ?_
      have : Int32.toInt 0 = 0 := rfl
      refine lv_if_le (pc := 8) (tgt := 47) C0.1 C0.2.1 dX8_levelOfLet_8 (by decide) (fun _ => ?_) (fun c => absurd (Int32.le_iff_toInt_le.mpr (by omega)) c)
      refine lv_bipush (pc := 47) (v := (-9)) C0.1 C0.2.1 dX8_levelOfLet_47 (by decide) ?_
      exact xiret (pc := 49) C0 hr hH hS dX8_levelOfLet_49 ⟨rfl, by first | exact Or.inl rfl | exact Or.inr ⟨by omega, by omega⟩⟩
    | succ d ih =>
      intro k H locs ls h1 h2 h3 hH hS hl
      have rg_k := fb_rng k
      refine lv_iload_n (pc := 7) C0.1 C0.2.1 dX8_levelOfLet_7 rfl (lv_at hl 0 rfl) ?_
      refine lv_if_le (pc := 8) (tgt := 47) C0.1 C0.2.1 dX8_levelOfLet_8 (by decide) (fun c101 => ?_) (fun c101 => ?_)
      · have : Int32.toInt 0 = 0 := rfl
        have c101 := Int32.le_iff_toInt_le.mp c101
        refine lv_bipush (pc := 47) (v := (-9)) C0.1 C0.2.1 dX8_levelOfLet_47 (by decide) ?_
        exact xiret (pc := 49) C0 hr hH hS dX8_levelOfLet_49 ⟨rfl, by first | exact Or.inl rfl | exact Or.inr ⟨by omega, by omega⟩⟩
      · have : Int32.toInt 0 = 0 := rfl
        have c101 : ¬ _ := fun q => c101 (Int32.le_iff_toInt_le.mpr q)
        refine lv_aload_n (pc := 11) C0.1 C0.2.1 dX8_levelOfLet_11 rfl (lv_at hl 1 rfl) ?_
        refine xget (pc := 12) C0 hH 17 0 clX8 ⟨Nat.le_of_ble_eq_true rfl, Nat.le_of_ble_eq_true rfl⟩ ⟨rfl, rfl⟩ (Nat.le_of_ble_eq_true rfl) fl_X8_12 (v := .ref (b + 18)) rfl dX8_levelOfLet_12 ?_
        refine xget (pc := 15) C0 hH 18 0 clX0 ⟨Nat.le_of_ble_eq_true rfl, Nat.le_of_ble_eq_true rfl⟩ ⟨rfl, rfl⟩ (Nat.le_of_ble_eq_true rfl) fl_X8_98 (v := .ref (b + 19)) rfl dX8_levelOfLet_15 ?_
        refine lv_aload_n (pc := 18) C0.1 C0.2.1 dX8_levelOfLet_18 rfl (lv_at hl 1 rfl) ?_
        refine xget (pc := 19) C0 hH 17 6 clX8 ⟨Nat.le_of_ble_eq_true rfl, Nat.le_of_ble_eq_true rfl⟩ ⟨rfl, rfl⟩ (Nat.le_of_ble_eq_true rfl) fl_X8_33 (v := .ref (b + 38)) rfl dX8_levelOfLet_19 ?_
        refine lv_iload_n (pc := 22) C0.1 C0.2.1 dX8_levelOfLet_22 rfl (lv_at hl 0 rfl) ?_
        refine xiald (pc := 23) (N := 601) C0 hH 38 ⟨Nat.le_of_ble_eq_true rfl, Nat.le_of_ble_eq_true rfl⟩ ⟨rfl, rfl⟩ (vI (by omega) (by omega)) dX8_levelOfLet_23 ?_
        refine xiald (pc := 24) (N := 601) C0 hH 19 ⟨Nat.le_of_ble_eq_true rfl, Nat.le_of_ble_eq_true rfl⟩ ⟨rfl, rfl⟩ (vI (hT.1.pl _).1 (hT.1.pl _).2) dX8_levelOfLet_24 ?_
        refine lv_topi (fun x102 ex102 => ?_)
        refine lv_istore_n (pc := 25) (lv' := [(2, .int x102), (1, .int k), (0, .ref (b + 17))]) C0.1 C0.2.1 dX8_levelOfLet_25 rfl hl (by decide) rfl (fun ls hl => ?_)
        refine lv_iload_n (pc := 26) C0.1 C0.2.1 dX8_levelOfLet_26 rfl (lv_at hl 0 rfl) ?_
        refine lv_iconst (pc := 27) (v := 5) C0.1 C0.2.1 dX8_levelOfLet_27 (by decide) ?_
        refine lv_icmp_ne (pc := 28) (tgt := 33) C0.1 C0.2.1 dX8_levelOfLet_28 (by decide) (fun c103 => ?_) (fun c103 => ?_)
        · have : Int32.toInt 5 = 5 := rfl
          have c103 : ¬ _ := fun q => c103 (Int32.toInt_inj.mp q)
          refine lv_iload_n (pc := 33) C0.1 C0.2.1 dX8_levelOfLet_33 rfl (lv_at hl 0 rfl) ?_
          refine lv_iconst (pc := 34) (v := 4) C0.1 C0.2.1 dX8_levelOfLet_34 (by decide) ?_
          refine lv_icmp_ne (pc := 35) (tgt := 41) C0.1 C0.2.1 dX8_levelOfLet_35 (by decide) (fun c104 => ?_) (fun c104 => ?_)
          · have : Int32.toInt 4 = 4 := rfl
            have c104 : ¬ _ := fun q => c104 (Int32.toInt_inj.mp q)
            obtain ⟨x105, ex105⟩ : ∃ y_ : Int32, y_ = k + (-1) := ⟨_, rfl⟩
            have : Int32.toInt (-1) = (-1) := rfl
            have hx105 : Int32.toInt x105 = Int32.toInt k + Int32.toInt (-1) := by rw [ex105]; exact fb_addI (by omega) (by omega)
            refine lv_iinc (pc := 41) (v := x105) (lv' := [(1, .int x105), (2, .int x102), (0, .ref (b + 17))]) C0.1 C0.2.1 dX8_levelOfLet_41 hl (k := 1) rfl (by rw [ex105]; rfl) (by decide) rfl (fun ls hl => ?_)
            refine lv_goto (pc := 44) (tgt := 7) C0.1 C0.2.1 dX8_levelOfLet_44 (by decide) ?_
            exact ih x105 _ _ _ (by omega) (by omega) (by omega) hH hS (lv_sub hl [0, 2] rfl)
          · have : Int32.toInt 4 = 4 := rfl
            have c104 := congrArg Int32.toInt c104
            refine lv_bipush (pc := 38) (v := (-9)) C0.1 C0.2.1 dX8_levelOfLet_38 (by decide) ?_
            exact xiret (pc := 40) C0 hr hH hS dX8_levelOfLet_40 ⟨rfl, by first | exact Or.inl rfl | exact Or.inr ⟨by omega, by omega⟩⟩
        · have : Int32.toInt 5 = 5 := rfl
          have c103 := congrArg Int32.toInt c103
          refine lv_iload_n (pc := 31) C0.1 C0.2.1 dX8_levelOfLet_31 rfl (lv_at hl 1 rfl) ?_
          exact xiret (pc := 32) C0 hr hH hS dX8_levelOfLet_32 ⟨rfl, by first | exact Or.inl rfl | exact Or.inr ⟨by omega, by omega⟩⟩
  refine lv_aload_n (pc := 0) C0.1 C0.2.1 dX8_levelOfLet_0 rfl (lv_at hl 0 rfl) ?_
  refine xget (pc := 1) C0 hH 17 7 clX8 ⟨Nat.le_of_ble_eq_true rfl, Nat.le_of_ble_eq_true rfl⟩ ⟨rfl, rfl⟩ (Nat.le_of_ble_eq_true rfl) fl_X8_50 (v := .int (i 17 7)) rfl dX8_levelOfLet_1 ?_
  refine lv_iconst (pc := 4) (v := 1) C0.1 C0.2.1 dX8_levelOfLet_4 (by decide) ?_
  have : Int32.toInt 1 = 1 := rfl
  refine lv_isub (pc := 5) C0.1 C0.2.1 dX8_levelOfLet_5 ?_
  refine lv_topi (fun x1 ex1 => ?_)
  have hx1 : Int32.toInt x1 = Int32.toInt (i 17 7) - Int32.toInt 1 := by rw [ex1]; exact fb_subI (by omega) (by omega)
  refine lv_istore_n (pc := 6) (lv' := [(1, .int x1), (0, .ref (b + 17))]) C0.1 C0.2.1 dX8_levelOfLet_6 rfl hl (by decide) rfl (fun ls hl => ?_)
  exact LOOP 601 x1 _ _ _ (by omega) (by omega) (by omega) hH hS (lv_sub hl [0, 1] rfl)
set_option maxHeartbeats 4000000 in
set_option maxRecDepth 100000 in
theorem g_X8_spreadEnds_17 (l : Launch) (D : va_G) (tA : Nat → ClassId) (b : Nat) (i F : Nat → Nat → Int32) (G : Nat → Nat → Int64) (k : Int) (hT : Tb17 i F) (hQ : Pp17 k i F) (hk : 0 ≤ k) : xMV l yX8_spreadEnds cX8_spreadEnds 4 none 1 24 D tA b 0 78 i F G [.ref (b + 17)] (fun u => On 17 39 i F G u ∧ Tb17 u.1 u.2.1 ∧ Pp17 k u.1 u.2.1) := by
  refine xstart RX8 rfl (by decide) (Nat.le_of_ble_eq_true rfl) ?_
  intro p e s m below meth c ls C0 hr hH hS hl
  have hl : lv_has ls 4 [(0, .ref (b + 17))] := hl
  have hL := Tb17.lin hT
  have h601 : Int32.toInt (nI 601) = 601 := rfl
  have LOOP : ∀ (d : Nat) (q : Int32) (iv Fv : Nat → Nat → Int32) (Gv : Nat → Nat → Int64) (H : Heap) (locs : List Loc) (ls : Array Slot), (-1 ≤ q.toInt) → (q.toInt + 1 ≤ d) → (q.toInt < 1200) → (On 17 39 i F G (iv, Fv, Gv)) → (Tb17 iv Fv) → (Pp17 k iv Fv) → Hd D tA b 0 78 zz iv Fv Gv H → va_S (xA b 0 78) s.heap H locs → lv_has ls 4 [(1, .int q), (0, .ref (b + 17))] → W p l e (xR 1 24) s m ([.ref (b + 17)] : List Value).toArray below meth c H locs 0 0 (MQ below (va_Qv (fun u => On 17 39 i F G u ∧ Tb17 u.1 u.2.1 ∧ Pp17 k u.1 u.2.1) (xB D tA b 0 78 zz) (xA b 0 78)) ([.ref (b + 17)] : List Value).toArray s 0 0 (xA b 0 78)) (F0 m 10 ls []) := by
    intro d
    induction d with
    | zero =>
      intro q iv Fv Gv H locs ls h1 h2 h3 h4 h5 h6 hH hS hl
      have rg_q := fb_rng q
      have hT := h5
      have hQ := h6
      have hL := Tb17.lin hT
      refine lv_iload_n (pc := 10) C0.1 C0.2.1 dX8_spreadEnds_10 rfl (lv_at hl 0 rfl) ?_
      have : Int32.toInt 0 = 0 := rfl
      refine lv_if_lt (pc := 11) (tgt := 157) C0.1 C0.2.1 dX8_spreadEnds_11 (by decide) (fun _ => ?_) (fun c => absurd (Int32.lt_iff_toInt_lt.mpr (by omega)) c)
      exact xvret (pc := 157) C0 hr hH hS dX8_spreadEnds_157 ⟨h4, h5, h6⟩
    | succ d ih =>
      intro q iv Fv Gv H locs ls h1 h2 h3 h4 h5 h6 hH hS hl
      have rg_q := fb_rng q
      have hT := h5
      have hQ := h6
      have hL := Tb17.lin hT
      refine lv_iload_n (pc := 10) C0.1 C0.2.1 dX8_spreadEnds_10 rfl (lv_at hl 0 rfl) ?_
      refine lv_if_lt (pc := 11) (tgt := 157) C0.1 C0.2.1 dX8_spreadEnds_11 (by decide) (fun c101 => ?_) (fun c101 => ?_)
      · have : Int32.toInt 0 = 0 := rfl
        have c101 := Int32.lt_iff_toInt_lt.mp c101
        exact xvret (pc := 157) C0 hr hH hS dX8_spreadEnds_157 ⟨h4, h5, h6⟩
      · have : Int32.toInt 0 = 0 := rfl
        have c101 : ¬ _ := fun q => c101 (Int32.lt_iff_toInt_lt.mpr q)
        refine lv_aload_n (pc := 14) C0.1 C0.2.1 dX8_spreadEnds_14 rfl (lv_at hl 1 rfl) ?_
        refine xget (pc := 15) C0 hH 17 1 clX8 ⟨Nat.le_of_ble_eq_true rfl, Nat.le_of_ble_eq_true rfl⟩ ⟨rfl, rfl⟩ (Nat.le_of_ble_eq_true rfl) fl_X8_21 (v := .ref (b + 28)) rfl dX8_spreadEnds_15 ?_
        refine xget (pc := 18) C0 hH 28 0 clX2 ⟨Nat.le_of_ble_eq_true rfl, Nat.le_of_ble_eq_true rfl⟩ ⟨rfl, rfl⟩ (Nat.le_of_ble_eq_true rfl) fl_X8_84 (v := .ref (b + 29)) rfl dX8_spreadEnds_18 ?_
        refine lv_iload_n (pc := 21) C0.1 C0.2.1 dX8_spreadEnds_21 rfl (lv_at hl 0 rfl) ?_
        refine xiald (pc := 22) (N := 1200) C0 hH 29 ⟨Nat.le_of_ble_eq_true rfl, Nat.le_of_ble_eq_true rfl⟩ ⟨rfl, rfl⟩ (vI (by omega) (by omega)) dX8_spreadEnds_22 ?_
        refine lv_topi (fun x102 ex102 => ?_)
        refine lv_istore_n (pc := 23) (lv' := [(2, .int x102), (1, .int q), (0, .ref (b + 17))]) C0.1 C0.2.1 dX8_spreadEnds_23 rfl hl (by decide) rfl (fun ls hl => ?_)
        refine lv_aload_n (pc := 24) C0.1 C0.2.1 dX8_spreadEnds_24 rfl (lv_at hl 2 rfl) ?_
        refine xget (pc := 25) C0 hH 17 1 clX8 ⟨Nat.le_of_ble_eq_true rfl, Nat.le_of_ble_eq_true rfl⟩ ⟨rfl, rfl⟩ (Nat.le_of_ble_eq_true rfl) fl_X8_21 (v := .ref (b + 28)) rfl dX8_spreadEnds_25 ?_
        refine xget (pc := 28) C0 hH 28 2 clX2 ⟨Nat.le_of_ble_eq_true rfl, Nat.le_of_ble_eq_true rfl⟩ ⟨rfl, rfl⟩ (Nat.le_of_ble_eq_true rfl) fl_X8_163 (v := .ref (b + 31)) rfl dX8_spreadEnds_28 ?_
        refine lv_iload_n (pc := 31) C0.1 C0.2.1 dX8_spreadEnds_31 rfl (lv_at hl 1 rfl) ?_
        refine xiald (pc := 32) (N := 1200) C0 hH 31 ⟨Nat.le_of_ble_eq_true rfl, Nat.le_of_ble_eq_true rfl⟩ ⟨rfl, rfl⟩ (vI (by omega) (by omega)) dX8_spreadEnds_32 ?_
        refine lv_bipush (pc := 33) (v := (-9)) C0.1 C0.2.1 dX8_spreadEnds_33 (by decide) ?_
        refine lv_icmp_eq (pc := 35) (tgt := 151) C0.1 C0.2.1 dX8_spreadEnds_35 (by decide) (fun c103 => ?_) (fun c103 => ?_)
        · have : Int32.toInt (-9) = (-9) := rfl
          have c103 := congrArg Int32.toInt c103
          obtain ⟨x104, ex104⟩ : ∃ y_ : Int32, y_ = q + (-1) := ⟨_, rfl⟩
          have : Int32.toInt (-1) = (-1) := rfl
          have hx104 : Int32.toInt x104 = Int32.toInt q + Int32.toInt (-1) := by rw [ex104]; exact fb_addI (by omega) (by omega)
          refine lv_iinc (pc := 151) (v := x104) (lv' := [(1, .int x104), (2, .int x102), (0, .ref (b + 17))]) C0.1 C0.2.1 dX8_spreadEnds_151 hl (k := 1) rfl (by rw [ex104]; rfl) (by decide) rfl (fun ls hl => ?_)
          refine lv_goto (pc := 154) (tgt := 10) C0.1 C0.2.1 dX8_spreadEnds_154 (by decide) ?_
          exact ih x104 iv Fv Gv _ _ _ (by omega) (by omega) (by omega) h4 hT hQ hH hS (lv_sub hl [0, 2] rfl)
        · have : Int32.toInt (-9) = (-9) := rfl
          have c103 : ¬ _ := fun q => c103 (Int32.toInt_inj.mp q)
          refine lv_aload_n (pc := 38) C0.1 C0.2.1 dX8_spreadEnds_38 rfl (lv_at hl 2 rfl) ?_
          refine xget (pc := 39) C0 hH 17 0 clX8 ⟨Nat.le_of_ble_eq_true rfl, Nat.le_of_ble_eq_true rfl⟩ ⟨rfl, rfl⟩ (Nat.le_of_ble_eq_true rfl) fl_X8_12 (v := .ref (b + 18)) rfl dX8_spreadEnds_39 ?_
          refine lv_iload_n (pc := 42) C0.1 C0.2.1 dX8_spreadEnds_42 rfl (lv_at hl 0 rfl) ?_
          refine xcVI (pc := 43) 18 [.int x102] (g_X0_has_18 l D tA b iv Fv Gv x102 ) C0 hH hS clX0 rfl ⟨⟨Nat.le_of_ble_eq_true rfl, Nat.le_of_ble_eq_true rfl⟩, rfl, rfl⟩ cw_X8_87 rfl ⟨Nat.le_of_ble_eq_true rfl, Nat.le_of_ble_eq_true rfl⟩ hl.1 rfl (Nat.le_of_ble_eq_true rfl) dX8_spreadEnds_43 ⟨Nat.le_of_ble_eq_true rfl, Nat.le_of_ble_eq_true rfl⟩ (fun r105 ir105 Fr105 Gr105 _ locs hp hH hS => ?_)
          obtain ⟨hu, hpr105⟩ := hp
          cases hu
          refine lv_if_ne (pc := 46) (tgt := 52) C0.1 C0.2.1 dX8_spreadEnds_46 (by decide) (fun c106 => ?_) (fun c106 => ?_)
          · have : Int32.toInt 0 = 0 := rfl
            have c106 : ¬ _ := fun q => c106 (Int32.toInt_inj.mp q)
            refine lv_aload_n (pc := 52) C0.1 C0.2.1 dX8_spreadEnds_52 rfl (lv_at hl 2 rfl) ?_
            refine xget (pc := 53) C0 hH 17 0 clX8 ⟨Nat.le_of_ble_eq_true rfl, Nat.le_of_ble_eq_true rfl⟩ ⟨rfl, rfl⟩ (Nat.le_of_ble_eq_true rfl) fl_X8_12 (v := .ref (b + 18)) rfl dX8_spreadEnds_53 ?_
            refine xget (pc := 56) C0 hH 18 4 clX0 ⟨Nat.le_of_ble_eq_true rfl, Nat.le_of_ble_eq_true rfl⟩ ⟨rfl, rfl⟩ (Nat.le_of_ble_eq_true rfl) fl_X8_166 (v := .ref (b + 23)) rfl dX8_spreadEnds_56 ?_
            refine lv_iload_n (pc := 59) C0.1 C0.2.1 dX8_spreadEnds_59 rfl (lv_at hl 0 rfl) ?_
            refine lv_aload_n (pc := 60) C0.1 C0.2.1 dX8_spreadEnds_60 rfl (lv_at hl 2 rfl) ?_
            refine xget (pc := 61) C0 hH 17 1 clX8 ⟨Nat.le_of_ble_eq_true rfl, Nat.le_of_ble_eq_true rfl⟩ ⟨rfl, rfl⟩ (Nat.le_of_ble_eq_true rfl) fl_X8_21 (v := .ref (b + 28)) rfl dX8_spreadEnds_61 ?_
            refine xget (pc := 64) C0 hH 28 2 clX2 ⟨Nat.le_of_ble_eq_true rfl, Nat.le_of_ble_eq_true rfl⟩ ⟨rfl, rfl⟩ (Nat.le_of_ble_eq_true rfl) fl_X8_163 (v := .ref (b + 31)) rfl dX8_spreadEnds_64 ?_
            refine lv_iload_n (pc := 67) C0.1 C0.2.1 dX8_spreadEnds_67 rfl (lv_at hl 1 rfl) ?_
            refine xiald (pc := 68) (N := 1200) C0 hH 31 ⟨Nat.le_of_ble_eq_true rfl, Nat.le_of_ble_eq_true rfl⟩ ⟨rfl, rfl⟩ (vI (by omega) (by omega)) dX8_spreadEnds_68 ?_
            refine xiast (pc := 69) (N := 601) C0 (Nat.le_of_ble_eq_true rfl) hH hS 23 ⟨Nat.le_of_ble_eq_true rfl, Nat.le_of_ble_eq_true rfl⟩ ⟨rfl, rfl⟩ (vI (by omega) (by omega)) dX8_spreadEnds_69 (fun _ locs hH hS _ => ?_)
            have hH : Hd D tA b 0 78 zz iv (va_up Fv 23 (upd (Fv 23) (Int32.toNatClampNeg x102) (Fv 31 (Int32.toNatClampNeg q)))) Gv _ := hH
            refine lv_aload_n (pc := 70) C0.1 C0.2.1 dX8_spreadEnds_70 rfl (lv_at hl 2 rfl) ?_
            refine xget (pc := 71) C0 hH 17 0 clX8 ⟨Nat.le_of_ble_eq_true rfl, Nat.le_of_ble_eq_true rfl⟩ ⟨rfl, rfl⟩ (Nat.le_of_ble_eq_true rfl) fl_X8_12 (v := .ref (b + 18)) rfl dX8_spreadEnds_71 ?_
            refine xget (pc := 74) C0 hH 18 5 clX0 ⟨Nat.le_of_ble_eq_true rfl, Nat.le_of_ble_eq_true rfl⟩ ⟨rfl, rfl⟩ (Nat.le_of_ble_eq_true rfl) fl_X8_167 (v := .ref (b + 24)) rfl dX8_spreadEnds_74 ?_
            refine lv_iload_n (pc := 77) C0.1 C0.2.1 dX8_spreadEnds_77 rfl (lv_at hl 0 rfl) ?_
            refine lv_aload_n (pc := 78) C0.1 C0.2.1 dX8_spreadEnds_78 rfl (lv_at hl 2 rfl) ?_
            refine xget (pc := 79) C0 hH 17 0 clX8 ⟨Nat.le_of_ble_eq_true rfl, Nat.le_of_ble_eq_true rfl⟩ ⟨rfl, rfl⟩ (Nat.le_of_ble_eq_true rfl) fl_X8_12 (v := .ref (b + 18)) rfl dX8_spreadEnds_79 ?_
            refine xget (pc := 82) C0 hH 18 5 clX0 ⟨Nat.le_of_ble_eq_true rfl, Nat.le_of_ble_eq_true rfl⟩ ⟨rfl, rfl⟩ (Nat.le_of_ble_eq_true rfl) fl_X8_167 (v := .ref (b + 24)) rfl dX8_spreadEnds_82 ?_
            refine lv_iload_n (pc := 85) C0.1 C0.2.1 dX8_spreadEnds_85 rfl (lv_at hl 0 rfl) ?_
            refine xiald (pc := 86) (N := 601) C0 hH 24 ⟨Nat.le_of_ble_eq_true rfl, Nat.le_of_ble_eq_true rfl⟩ ⟨rfl, rfl⟩ (vI (by omega) (by omega)) dX8_spreadEnds_86 ?_
            refine lv_aload_n (pc := 87) C0.1 C0.2.1 dX8_spreadEnds_87 rfl (lv_at hl 2 rfl) ?_
            refine xget (pc := 88) C0 hH 17 1 clX8 ⟨Nat.le_of_ble_eq_true rfl, Nat.le_of_ble_eq_true rfl⟩ ⟨rfl, rfl⟩ (Nat.le_of_ble_eq_true rfl) fl_X8_21 (v := .ref (b + 28)) rfl dX8_spreadEnds_88 ?_
            refine xget (pc := 91) C0 hH 28 3 clX2 ⟨Nat.le_of_ble_eq_true rfl, Nat.le_of_ble_eq_true rfl⟩ ⟨rfl, rfl⟩ (Nat.le_of_ble_eq_true rfl) fl_X8_170 (v := .ref (b + 32)) rfl dX8_spreadEnds_91 ?_
            refine lv_iload_n (pc := 94) C0.1 C0.2.1 dX8_spreadEnds_94 rfl (lv_at hl 1 rfl) ?_
            refine xiald (pc := 95) (N := 1200) C0 hH 32 ⟨Nat.le_of_ble_eq_true rfl, Nat.le_of_ble_eq_true rfl⟩ ⟨rfl, rfl⟩ (vI (by omega) (by omega)) dX8_spreadEnds_95 ?_
            refine va_mmax (pc := 96) C0.1 C0.2.1 (C0.2.2.1.trans hl.1.symm) C0.2.2.2.1 (C0.2.2.2.2.1 _ mm_X8_171.1) (C0.2.2.2.2.1 _ mm_X8_171.2.1) (C0.2.2.2.2.1 _ mm_X8_171.2.2.1) (C0.2.2.2.2.1 _ mm_X8_171.2.2.2) (Nat.le_of_ble_eq_true rfl) (Nat.le_of_ble_eq_true rfl) (Nat.le_of_ble_eq_true rfl) (Nat.le_of_ble_eq_true rfl) dX8_spreadEnds_96 ?_
            refine xiast (pc := 99) (N := 601) C0 (Nat.le_of_ble_eq_true rfl) hH hS 24 ⟨Nat.le_of_ble_eq_true rfl, Nat.le_of_ble_eq_true rfl⟩ ⟨rfl, rfl⟩ (vI (by omega) (by omega)) dX8_spreadEnds_99 (fun _ locs hH hS _ => ?_)
            have hH : Hd D tA b 0 78 zz iv (va_up (va_up Fv 23 (upd (Fv 23) (Int32.toNatClampNeg x102) (Fv 31 (Int32.toNatClampNeg q)))) 24 (upd (Fv 24) (Int32.toNatClampNeg x102) (if Fv 24 (Int32.toNatClampNeg x102) < Fv 32 (Int32.toNatClampNeg q) then Fv 32 (Int32.toNatClampNeg q) else Fv 24 (Int32.toNatClampNeg x102)))) Gv _ := hH
            refine lv_aload_n (pc := 100) C0.1 C0.2.1 dX8_spreadEnds_100 rfl (lv_at hl 2 rfl) ?_
            refine xget (pc := 101) C0 hH 17 0 clX8 ⟨Nat.le_of_ble_eq_true rfl, Nat.le_of_ble_eq_true rfl⟩ ⟨rfl, rfl⟩ (Nat.le_of_ble_eq_true rfl) fl_X8_12 (v := .ref (b + 18)) rfl dX8_spreadEnds_101 ?_
            refine xget (pc := 104) C0 hH 18 2 clX0 ⟨Nat.le_of_ble_eq_true rfl, Nat.le_of_ble_eq_true rfl⟩ ⟨rfl, rfl⟩ (Nat.le_of_ble_eq_true rfl) fl_X8_88 (v := .ref (b + 21)) rfl dX8_spreadEnds_104 ?_
            refine lv_iload_n (pc := 107) C0.1 C0.2.1 dX8_spreadEnds_107 rfl (lv_at hl 0 rfl) ?_
            refine xiald (pc := 108) (N := 601) C0 hH 21 ⟨Nat.le_of_ble_eq_true rfl, Nat.le_of_ble_eq_true rfl⟩ ⟨rfl, rfl⟩ (vI (by omega) (by omega)) dX8_spreadEnds_108 ?_
            refine lv_topi (fun x107 ex107 => ?_)
            refine lv_istore_n (pc := 109) (lv' := [(3, .int x107), (2, .int x102), (1, .int q), (0, .ref (b + 17))]) C0.1 C0.2.1 dX8_spreadEnds_109 rfl hl (by decide) rfl (fun ls hl => ?_)
            refine lv_aload_n (pc := 110) C0.1 C0.2.1 dX8_spreadEnds_110 rfl (lv_at hl 3 rfl) ?_
            refine xget (pc := 111) C0 hH 17 1 clX8 ⟨Nat.le_of_ble_eq_true rfl, Nat.le_of_ble_eq_true rfl⟩ ⟨rfl, rfl⟩ (Nat.le_of_ble_eq_true rfl) fl_X8_21 (v := .ref (b + 28)) rfl dX8_spreadEnds_111 ?_
            refine lv_iload_n (pc := 114) C0.1 C0.2.1 dX8_spreadEnds_114 rfl (lv_at hl 0 rfl) ?_
            refine xcVI (pc := 115) 28 [.int x107] (g_X2_has_28 l D tA b iv (va_up (va_up Fv 23 (upd (Fv 23) (Int32.toNatClampNeg x102) (Fv 31 (Int32.toNatClampNeg q)))) 24 (upd (Fv 24) (Int32.toNatClampNeg x102) (if Fv 24 (Int32.toNatClampNeg x102) < Fv 32 (Int32.toNatClampNeg q) then Fv 32 (Int32.toNatClampNeg q) else Fv 24 (Int32.toNatClampNeg x102)))) Gv x107 ) C0 hH hS clX2 rfl ⟨⟨Nat.le_of_ble_eq_true rfl, Nat.le_of_ble_eq_true rfl⟩, rfl, rfl⟩ cw_X8_80 rfl ⟨Nat.le_of_ble_eq_true rfl, Nat.le_of_ble_eq_true rfl⟩ hl.1 rfl (Nat.le_of_ble_eq_true rfl) dX8_spreadEnds_115 ⟨Nat.le_of_ble_eq_true rfl, Nat.le_of_ble_eq_true rfl⟩ (fun r108 ir108 Fr108 Gr108 _ locs hp hH hS => ?_)
            obtain ⟨hu, hpr108⟩ := hp
            cases hu
            refine lv_if_eq (pc := 118) (tgt := 151) C0.1 C0.2.1 dX8_spreadEnds_118 (by decide) (fun c109 => ?_) (fun c109 => ?_)
            · have : Int32.toInt 0 = 0 := rfl
              have c109 := congrArg Int32.toInt c109
              obtain ⟨x110, ex110⟩ : ∃ y_ : Int32, y_ = q + (-1) := ⟨_, rfl⟩
              have : Int32.toInt (-1) = (-1) := rfl
              have hx110 : Int32.toInt x110 = Int32.toInt q + Int32.toInt (-1) := by rw [ex110]; exact fb_addI (by omega) (by omega)
              refine lv_iinc (pc := 151) (v := x110) (lv' := [(1, .int x110), (3, .int x107), (2, .int x102), (0, .ref (b + 17))]) C0.1 C0.2.1 dX8_spreadEnds_151 hl (k := 2) rfl (by rw [ex110]; rfl) (by decide) rfl (fun ls hl => ?_)
              refine lv_goto (pc := 154) (tgt := 10) C0.1 C0.2.1 dX8_spreadEnds_154 (by decide) ?_
              exact ih x110 iv (va_up (va_up Fv 23 (upd (Fv 23) (Int32.toNatClampNeg x102) (Fv 31 (Int32.toNatClampNeg q)))) 24 (upd (Fv 24) (Int32.toNatClampNeg x102) (if Fv 24 (Int32.toNatClampNeg x102) < Fv 32 (Int32.toNatClampNeg q) then Fv 32 (Int32.toNatClampNeg q) else Fv 24 (Int32.toNatClampNeg x102)))) Gv _ _ _ (by omega) (by omega) (by omega) (On.f (On.f h4 (by decide)) (by decide)) hT hQ hH hS (lv_sub hl [0, 3] rfl)
            · have : Int32.toInt 0 = 0 := rfl
              have c109 : ¬ _ := fun q => c109 (Int32.toInt_inj.mp q)
              refine lv_aload_n (pc := 121) C0.1 C0.2.1 dX8_spreadEnds_121 rfl (lv_at hl 3 rfl) ?_
              refine xget (pc := 122) C0 hH 17 1 clX8 ⟨Nat.le_of_ble_eq_true rfl, Nat.le_of_ble_eq_true rfl⟩ ⟨rfl, rfl⟩ (Nat.le_of_ble_eq_true rfl) fl_X8_21 (v := .ref (b + 28)) rfl dX8_spreadEnds_122 ?_
              refine xget (pc := 125) C0 hH 28 3 clX2 ⟨Nat.le_of_ble_eq_true rfl, Nat.le_of_ble_eq_true rfl⟩ ⟨rfl, rfl⟩ (Nat.le_of_ble_eq_true rfl) fl_X8_170 (v := .ref (b + 32)) rfl dX8_spreadEnds_125 ?_
              refine lv_iload_n (pc := 128) C0.1 C0.2.1 dX8_spreadEnds_128 rfl (lv_at hl 0 rfl) ?_
              refine lv_aload_n (pc := 129) C0.1 C0.2.1 dX8_spreadEnds_129 rfl (lv_at hl 3 rfl) ?_
              refine xget (pc := 130) C0 hH 17 1 clX8 ⟨Nat.le_of_ble_eq_true rfl, Nat.le_of_ble_eq_true rfl⟩ ⟨rfl, rfl⟩ (Nat.le_of_ble_eq_true rfl) fl_X8_21 (v := .ref (b + 28)) rfl dX8_spreadEnds_130 ?_
              refine xget (pc := 133) C0 hH 28 3 clX2 ⟨Nat.le_of_ble_eq_true rfl, Nat.le_of_ble_eq_true rfl⟩ ⟨rfl, rfl⟩ (Nat.le_of_ble_eq_true rfl) fl_X8_170 (v := .ref (b + 32)) rfl dX8_spreadEnds_133 ?_
              refine lv_iload_n (pc := 136) C0.1 C0.2.1 dX8_spreadEnds_136 rfl (lv_at hl 0 rfl) ?_
              refine xiald (pc := 137) (N := 1200) C0 hH 32 ⟨Nat.le_of_ble_eq_true rfl, Nat.le_of_ble_eq_true rfl⟩ ⟨rfl, rfl⟩ (vI (by omega) (by omega)) dX8_spreadEnds_137 ?_
              refine lv_aload_n (pc := 138) C0.1 C0.2.1 dX8_spreadEnds_138 rfl (lv_at hl 3 rfl) ?_
              refine xget (pc := 139) C0 hH 17 1 clX8 ⟨Nat.le_of_ble_eq_true rfl, Nat.le_of_ble_eq_true rfl⟩ ⟨rfl, rfl⟩ (Nat.le_of_ble_eq_true rfl) fl_X8_21 (v := .ref (b + 28)) rfl dX8_spreadEnds_139 ?_
              refine xget (pc := 142) C0 hH 28 3 clX2 ⟨Nat.le_of_ble_eq_true rfl, Nat.le_of_ble_eq_true rfl⟩ ⟨rfl, rfl⟩ (Nat.le_of_ble_eq_true rfl) fl_X8_170 (v := .ref (b + 32)) rfl dX8_spreadEnds_142 ?_
              refine lv_iload_n (pc := 145) C0.1 C0.2.1 dX8_spreadEnds_145 rfl (lv_at hl 2 rfl) ?_
              refine xiald (pc := 146) (N := 1200) C0 hH 32 ⟨Nat.le_of_ble_eq_true rfl, Nat.le_of_ble_eq_true rfl⟩ ⟨rfl, rfl⟩ (vI (by omega) (by omega)) dX8_spreadEnds_146 ?_
              refine va_mmax (pc := 147) C0.1 C0.2.1 (C0.2.2.1.trans hl.1.symm) C0.2.2.2.1 (C0.2.2.2.2.1 _ mm_X8_171.1) (C0.2.2.2.2.1 _ mm_X8_171.2.1) (C0.2.2.2.2.1 _ mm_X8_171.2.2.1) (C0.2.2.2.2.1 _ mm_X8_171.2.2.2) (Nat.le_of_ble_eq_true rfl) (Nat.le_of_ble_eq_true rfl) (Nat.le_of_ble_eq_true rfl) (Nat.le_of_ble_eq_true rfl) dX8_spreadEnds_147 ?_
              refine xiast (pc := 150) (N := 1200) C0 (Nat.le_of_ble_eq_true rfl) hH hS 32 ⟨Nat.le_of_ble_eq_true rfl, Nat.le_of_ble_eq_true rfl⟩ ⟨rfl, rfl⟩ (vI (by omega) (by omega)) dX8_spreadEnds_150 (fun _ locs hH hS _ => ?_)
              have hH : Hd D tA b 0 78 zz iv (va_up (va_up (va_up Fv 23 (upd (Fv 23) (Int32.toNatClampNeg x102) (Fv 31 (Int32.toNatClampNeg q)))) 24 (upd (Fv 24) (Int32.toNatClampNeg x102) (if Fv 24 (Int32.toNatClampNeg x102) < Fv 32 (Int32.toNatClampNeg q) then Fv 32 (Int32.toNatClampNeg q) else Fv 24 (Int32.toNatClampNeg x102)))) 32 (upd (Fv 32) (Int32.toNatClampNeg x107) (if Fv 32 (Int32.toNatClampNeg x107) < Fv 32 (Int32.toNatClampNeg q) then Fv 32 (Int32.toNatClampNeg q) else Fv 32 (Int32.toNatClampNeg x107)))) Gv _ := hH
              obtain ⟨x111, ex111⟩ : ∃ y_ : Int32, y_ = q + (-1) := ⟨_, rfl⟩
              have : Int32.toInt (-1) = (-1) := rfl
              have hx111 : Int32.toInt x111 = Int32.toInt q + Int32.toInt (-1) := by rw [ex111]; exact fb_addI (by omega) (by omega)
              refine lv_iinc (pc := 151) (v := x111) (lv' := [(1, .int x111), (3, .int x107), (2, .int x102), (0, .ref (b + 17))]) C0.1 C0.2.1 dX8_spreadEnds_151 hl (k := 2) rfl (by rw [ex111]; rfl) (by decide) rfl (fun ls hl => ?_)
              refine lv_goto (pc := 154) (tgt := 10) C0.1 C0.2.1 dX8_spreadEnds_154 (by decide) ?_
              exact ih x111 iv (va_up (va_up (va_up Fv 23 (upd (Fv 23) (Int32.toNatClampNeg x102) (Fv 31 (Int32.toNatClampNeg q)))) 24 (upd (Fv 24) (Int32.toNatClampNeg x102) (if Fv 24 (Int32.toNatClampNeg x102) < Fv 32 (Int32.toNatClampNeg q) then Fv 32 (Int32.toNatClampNeg q) else Fv 24 (Int32.toNatClampNeg x102)))) 32 (upd (Fv 32) (Int32.toNatClampNeg x107) (if Fv 32 (Int32.toNatClampNeg x107) < Fv 32 (Int32.toNatClampNeg q) then Fv 32 (Int32.toNatClampNeg q) else Fv 32 (Int32.toNatClampNeg x107)))) Gv _ _ _ (by omega) (by omega) (by omega) (On.f (On.f (On.f h4 (by decide)) (by decide)) (by decide)) hT hQ hH hS (lv_sub hl [0, 3] rfl)
          · have : Int32.toInt 0 = 0 := rfl
            have c106 := congrArg Int32.toInt c106
            refine lv_goto (pc := 49) (tgt := 151) C0.1 C0.2.1 dX8_spreadEnds_49 (by decide) ?_
            obtain ⟨x112, ex112⟩ : ∃ y_ : Int32, y_ = q + (-1) := ⟨_, rfl⟩
            have : Int32.toInt (-1) = (-1) := rfl
            have hx112 : Int32.toInt x112 = Int32.toInt q + Int32.toInt (-1) := by rw [ex112]; exact fb_addI (by omega) (by omega)
            refine lv_iinc (pc := 151) (v := x112) (lv' := [(1, .int x112), (2, .int x102), (0, .ref (b + 17))]) C0.1 C0.2.1 dX8_spreadEnds_151 hl (k := 1) rfl (by rw [ex112]; rfl) (by decide) rfl (fun ls hl => ?_)
            refine lv_goto (pc := 154) (tgt := 10) C0.1 C0.2.1 dX8_spreadEnds_154 (by decide) ?_
            exact ih x112 iv Fv Gv _ _ _ (by omega) (by omega) (by omega) h4 hT hQ hH hS (lv_sub hl [0, 2] rfl)
  refine lv_aload_n (pc := 0) C0.1 C0.2.1 dX8_spreadEnds_0 rfl (lv_at hl 0 rfl) ?_
  refine xget (pc := 1) C0 hH 17 1 clX8 ⟨Nat.le_of_ble_eq_true rfl, Nat.le_of_ble_eq_true rfl⟩ ⟨rfl, rfl⟩ (Nat.le_of_ble_eq_true rfl) fl_X8_21 (v := .ref (b + 28)) rfl dX8_spreadEnds_1 ?_
  refine xget (pc := 4) C0 hH 28 5 clX2 ⟨Nat.le_of_ble_eq_true rfl, Nat.le_of_ble_eq_true rfl⟩ ⟨rfl, rfl⟩ (Nat.le_of_ble_eq_true rfl) fl_X8_46 (v := .int (i 28 5)) rfl dX8_spreadEnds_4 ?_
  refine lv_iconst (pc := 7) (v := 1) C0.1 C0.2.1 dX8_spreadEnds_7 (by decide) ?_
  have : Int32.toInt 1 = 1 := rfl
  refine lv_isub (pc := 8) C0.1 C0.2.1 dX8_spreadEnds_8 ?_
  refine lv_topi (fun x1 ex1 => ?_)
  have hx1 : Int32.toInt x1 = Int32.toInt (i 28 5) - Int32.toInt 1 := by rw [ex1]; exact fb_subI (by omega) (by omega)
  refine lv_istore_n (pc := 9) (lv' := [(1, .int x1), (0, .ref (b + 17))]) C0.1 C0.2.1 dX8_spreadEnds_9 rfl hl (by decide) rfl (fun ls hl => ?_)
  exact LOOP 1200 x1 i F G _ _ _ (by omega) (by omega) (by omega) On.rf hT hQ hH hS (lv_sub hl [0, 1] rfl)
set_option maxHeartbeats 4000000 in
set_option maxRecDepth 100000 in
theorem g_X8_top_48 (l : Launch) (D : va_G) (tA : Nat → ClassId) (b : Nat) (i F : Nat → Nat → Int32) (G : Nat → Nat → Int64)  (hT : Tb48 i F) : xMI l yX8_top cX8_top 1 (some .int) 0 0 D tA b 0 78 i F G [.ref (b + 48)] (fun r u => u = (i, F, G) ∧ (0 ≤ r.toInt ∧ r.toInt < 601) ∧ ((i 48 7).toInt = 1 → r = 0)) := by
  refine xstart RX8 rfl (by decide) (Nat.le_of_ble_eq_true rfl) ?_
  intro p e s m below meth c ls C0 hr hH hS hl
  have hl : lv_has ls 1 [(0, .ref (b + 48))] := hl
  have hL := Tb48.lin hT
  have h601 : Int32.toInt (nI 601) = 601 := rfl
  refine lv_aload_n (pc := 0) C0.1 C0.2.1 dX8_top_0 rfl (lv_at hl 0 rfl) ?_
  refine xget (pc := 1) C0 hH 48 7 clX8 ⟨Nat.le_of_ble_eq_true rfl, Nat.le_of_ble_eq_true rfl⟩ ⟨rfl, rfl⟩ (Nat.le_of_ble_eq_true rfl) fl_X8_50 (v := .int (i 48 7)) rfl dX8_top_1 ?_
  refine lv_if_le (pc := 4) (tgt := 33) C0.1 C0.2.1 dX8_top_4 (by decide) (fun c1 => ?_) (fun c1 => ?_)
  · have : Int32.toInt 0 = 0 := rfl
    have c1 := Int32.le_iff_toInt_le.mp c1
    refine lv_iconst (pc := 33) (v := 0) C0.1 C0.2.1 dX8_top_33 (by decide) ?_
    exact xiret (pc := 34) C0 hr hH hS dX8_top_34 ⟨rfl, ⟨by decide, by decide⟩, fun _ => rfl⟩
  · have : Int32.toInt 0 = 0 := rfl
    have c1 : ¬ _ := fun q => c1 (Int32.le_iff_toInt_le.mpr q)
    refine lv_aload_n (pc := 7) C0.1 C0.2.1 dX8_top_7 rfl (lv_at hl 0 rfl) ?_
    refine xget (pc := 8) C0 hH 48 7 clX8 ⟨Nat.le_of_ble_eq_true rfl, Nat.le_of_ble_eq_true rfl⟩ ⟨rfl, rfl⟩ (Nat.le_of_ble_eq_true rfl) fl_X8_50 (v := .int (i 48 7)) rfl dX8_top_8 ?_
    refine lv_aload_n (pc := 11) C0.1 C0.2.1 dX8_top_11 rfl (lv_at hl 0 rfl) ?_
    refine xget (pc := 12) C0 hH 48 6 clX8 ⟨Nat.le_of_ble_eq_true rfl, Nat.le_of_ble_eq_true rfl⟩ ⟨rfl, rfl⟩ (Nat.le_of_ble_eq_true rfl) fl_X8_33 (v := .ref (b + 69)) rfl dX8_top_12 ?_
    refine xalen (pc := 15) (N := 601) (t := 50) C0 hH 69 ⟨Nat.le_of_ble_eq_true rfl, Nat.le_of_ble_eq_true rfl⟩ ⟨rfl, rfl⟩ (by decide) dX8_top_15 ?_
    refine lv_icmp_gt (pc := 16) (tgt := 33) C0.1 C0.2.1 dX8_top_16 (by decide) (fun c2 => ?_) (fun c2 => ?_)
    · have c2 := Int32.lt_iff_toInt_lt.mp c2
      refine lv_iconst (pc := 33) (v := 0) C0.1 C0.2.1 dX8_top_33 (by decide) ?_
      exact xiret (pc := 34) C0 hr hH hS dX8_top_34 ⟨rfl, ⟨by decide, by decide⟩, fun _ => rfl⟩
    · have c2 : ¬ _ := fun q => c2 (Int32.lt_iff_toInt_lt.mpr q)
      refine lv_aload_n (pc := 19) C0.1 C0.2.1 dX8_top_19 rfl (lv_at hl 0 rfl) ?_
      refine xget (pc := 20) C0 hH 48 6 clX8 ⟨Nat.le_of_ble_eq_true rfl, Nat.le_of_ble_eq_true rfl⟩ ⟨rfl, rfl⟩ (Nat.le_of_ble_eq_true rfl) fl_X8_33 (v := .ref (b + 69)) rfl dX8_top_20 ?_
      refine lv_aload_n (pc := 23) C0.1 C0.2.1 dX8_top_23 rfl (lv_at hl 0 rfl) ?_
      refine xget (pc := 24) C0 hH 48 7 clX8 ⟨Nat.le_of_ble_eq_true rfl, Nat.le_of_ble_eq_true rfl⟩ ⟨rfl, rfl⟩ (Nat.le_of_ble_eq_true rfl) fl_X8_50 (v := .int (i 48 7)) rfl dX8_top_24 ?_
      refine lv_iconst (pc := 27) (v := 1) C0.1 C0.2.1 dX8_top_27 (by decide) ?_
      have : Int32.toInt 1 = 1 := rfl
      refine lv_isub (pc := 28) C0.1 C0.2.1 dX8_top_28 ?_
      refine lv_topi (fun x3 ex3 => ?_)
      have hx3 : Int32.toInt x3 = Int32.toInt (i 48 7) - Int32.toInt 1 := by rw [ex3]; exact fb_subI (by omega) (by omega)
      refine xiald (pc := 29) (N := 601) C0 hH 69 ⟨Nat.le_of_ble_eq_true rfl, Nat.le_of_ble_eq_true rfl⟩ ⟨rfl, rfl⟩ (vI (by omega) (by omega)) dX8_top_29 ?_
      refine lv_goto (pc := 30) (tgt := 34) C0.1 C0.2.1 dX8_top_30 (by decide) ?_
      exact xiret (pc := 34) C0 hr hH hS dX8_top_34 ⟨rfl, hT.1.pl _, fun q => by have hc := clI (x := x3) (by omega); have e : Int32.toNatClampNeg x3 = 0 := (by omega); rw [e]; exact hT.2.2.2.2.1⟩
set_option maxHeartbeats 4000000 in
set_option maxRecDepth 100000 in
theorem g_X8_pileUp_48 (l : Launch) (D : va_G) (tA : Nat → ClassId) (b : Nat) (i F : Nat → Nat → Int32) (G : Nat → Nat → Int64) (x : Int32) (k : Int) (hT : Tb48 i F) (hQ : Pp48 k i F) (hk : 0 ≤ k) : xMV l yX8_pileUp cX8_pileUp 2 none 1 21 D tA b 0 78 i F G [.ref (b + 48), .int x] (fun u => On 48 70 i F G u ∧ Tb48 u.1 u.2.1 ∧ Pp48 k u.1 u.2.1) := by
  refine xstart RX8 rfl (by decide) (Nat.le_of_ble_eq_true rfl) ?_
  intro p e s m below meth c ls C0 hr hH hS hl
  have hl : lv_has ls 2 [(0, .ref (b + 48)), (1, .int x)] := hl
  have rg_x := fb_rng x
  have hL := Tb48.lin hT
  have h601 : Int32.toInt (nI 601) = 601 := rfl
  refine lv_aload_n (pc := 0) C0.1 C0.2.1 dX8_pileUp_0 rfl (lv_at hl 0 rfl) ?_
  refine xget (pc := 1) C0 hH 48 0 clX8 ⟨Nat.le_of_ble_eq_true rfl, Nat.le_of_ble_eq_true rfl⟩ ⟨rfl, rfl⟩ (Nat.le_of_ble_eq_true rfl) fl_X8_12 (v := .ref (b + 49)) rfl dX8_pileUp_1 ?_
  refine lv_iload_n (pc := 4) C0.1 C0.2.1 dX8_pileUp_4 rfl (lv_at hl 1 rfl) ?_
  refine xcVI (pc := 5) 49 [.int x] (g_X0_has_49 l D tA b i F G x ) C0 hH hS clX0 rfl ⟨⟨Nat.le_of_ble_eq_true rfl, Nat.le_of_ble_eq_true rfl⟩, rfl, rfl⟩ cw_X8_87 rfl ⟨Nat.le_of_ble_eq_true rfl, Nat.le_of_ble_eq_true rfl⟩ hl.1 rfl (Nat.le_of_ble_eq_true rfl) dX8_pileUp_5 ⟨Nat.le_of_ble_eq_true rfl, Nat.le_of_ble_eq_true rfl⟩ (fun r1 ir1 Fr1 Gr1 _ locs hp hH hS => ?_)
  obtain ⟨hu, hpr1⟩ := hp
  cases hu
  refine lv_if_eq (pc := 8) (tgt := 43) C0.1 C0.2.1 dX8_pileUp_8 (by decide) (fun c2 => ?_) (fun c2 => ?_)
  · have : Int32.toInt 0 = 0 := rfl
    have c2 := congrArg Int32.toInt c2
    exact xvret (pc := 43) C0 hr hH hS dX8_pileUp_43 ⟨On.rf, hT, hQ⟩
  · have : Int32.toInt 0 = 0 := rfl
    have c2 : ¬ _ := fun q => c2 (Int32.toInt_inj.mp q)
    refine lv_aload_n (pc := 11) C0.1 C0.2.1 dX8_pileUp_11 rfl (lv_at hl 0 rfl) ?_
    refine xget (pc := 12) C0 hH 48 7 clX8 ⟨Nat.le_of_ble_eq_true rfl, Nat.le_of_ble_eq_true rfl⟩ ⟨rfl, rfl⟩ (Nat.le_of_ble_eq_true rfl) fl_X8_50 (v := .int (i 48 7)) rfl dX8_pileUp_12 ?_
    refine lv_aload_n (pc := 15) C0.1 C0.2.1 dX8_pileUp_15 rfl (lv_at hl 0 rfl) ?_
    refine xget (pc := 16) C0 hH 48 6 clX8 ⟨Nat.le_of_ble_eq_true rfl, Nat.le_of_ble_eq_true rfl⟩ ⟨rfl, rfl⟩ (Nat.le_of_ble_eq_true rfl) fl_X8_33 (v := .ref (b + 69)) rfl dX8_pileUp_16 ?_
    refine xalen (pc := 19) (N := 601) (t := 50) C0 hH 69 ⟨Nat.le_of_ble_eq_true rfl, Nat.le_of_ble_eq_true rfl⟩ ⟨rfl, rfl⟩ (by decide) dX8_pileUp_19 ?_
    refine lv_icmp_ge (pc := 20) (tgt := 43) C0.1 C0.2.1 dX8_pileUp_20 (by decide) (fun c3 => ?_) (fun c3 => ?_)
    · have c3 := Int32.le_iff_toInt_le.mp c3
      exact xvret (pc := 43) C0 hr hH hS dX8_pileUp_43 ⟨On.rf, hT, hQ⟩
    · have c3 : ¬ _ := fun q => c3 (Int32.le_iff_toInt_le.mpr q)
      refine lv_aload_n (pc := 23) C0.1 C0.2.1 dX8_pileUp_23 rfl (lv_at hl 0 rfl) ?_
      refine xget (pc := 24) C0 hH 48 6 clX8 ⟨Nat.le_of_ble_eq_true rfl, Nat.le_of_ble_eq_true rfl⟩ ⟨rfl, rfl⟩ (Nat.le_of_ble_eq_true rfl) fl_X8_33 (v := .ref (b + 69)) rfl dX8_pileUp_24 ?_
      refine lv_aload_n (pc := 27) C0.1 C0.2.1 dX8_pileUp_27 rfl (lv_at hl 0 rfl) ?_
      refine xget (pc := 28) C0 hH 48 7 clX8 ⟨Nat.le_of_ble_eq_true rfl, Nat.le_of_ble_eq_true rfl⟩ ⟨rfl, rfl⟩ (Nat.le_of_ble_eq_true rfl) fl_X8_50 (v := .int (i 48 7)) rfl dX8_pileUp_28 ?_
      refine lv_iload_n (pc := 31) C0.1 C0.2.1 dX8_pileUp_31 rfl (lv_at hl 1 rfl) ?_
      refine xiast (pc := 32) (N := 601) C0 (Nat.le_of_ble_eq_true rfl) hH hS 69 ⟨Nat.le_of_ble_eq_true rfl, Nat.le_of_ble_eq_true rfl⟩ ⟨rfl, rfl⟩ (vI (by omega) (by omega)) dX8_pileUp_32 (fun _ locs hH hS _ => ?_)
      have hH : Hd D tA b 0 78 zz i (va_up F 69 (upd (F 69) (Int32.toNatClampNeg (i 48 7)) x)) G _ := hH
      refine lv_aload_n (pc := 33) C0.1 C0.2.1 dX8_pileUp_33 rfl (lv_at hl 0 rfl) ?_
      refine lv_dup (pc := 34) C0.1 C0.2.1 dX8_pileUp_34 rfl ?_
      refine xget (pc := 35) C0 hH 48 7 clX8 ⟨Nat.le_of_ble_eq_true rfl, Nat.le_of_ble_eq_true rfl⟩ ⟨rfl, rfl⟩ (Nat.le_of_ble_eq_true rfl) fl_X8_50 (v := .int (i 48 7)) rfl dX8_pileUp_35 ?_
      refine lv_iconst (pc := 38) (v := 1) C0.1 C0.2.1 dX8_pileUp_38 (by decide) ?_
      have : Int32.toInt 1 = 1 := rfl
      refine lv_iadd (pc := 39) C0.1 C0.2.1 dX8_pileUp_39 ?_
      refine lv_topi (fun x4 ex4 => ?_)
      have hx4 : Int32.toInt x4 = Int32.toInt (i 48 7) + Int32.toInt 1 := by rw [ex4]; exact fb_addI (by omega) (by omega)
      refine xputI (pc := 40) C0 (Nat.le_of_ble_eq_true rfl) hH hS 48 7 clX8 ⟨Nat.le_of_ble_eq_true rfl, Nat.le_of_ble_eq_true rfl⟩ ⟨rfl, rfl⟩ ⟨Nat.le_of_ble_eq_true rfl, rfl, rfl⟩ fl_X8_50 (x := x4) ⟨rfl, rfl⟩ dX8_pileUp_40 (fun _ locs hH hS _ => ?_)
      have hH : Hd D tA b 0 78 zz (up2 i 48 7 x4) (va_up F 69 (upd (F 69) (Int32.toNatClampNeg (i 48 7)) x)) G _ := hH
      exact xvret (pc := 43) C0 hr hH hS dX8_pileUp_43 ⟨(On.f (On.i On.rf (by decide)) (by decide)), Tb48.pile hT (by omega) (by omega), hQ⟩
set_option maxHeartbeats 4000000 in
set_option maxRecDepth 100000 in
theorem g_X8_beginBlock_48 (l : Launch) (D : va_G) (tA : Nat → ClassId) (b : Nat) (i F : Nat → Nat → Int32) (G : Nat → Nat → Int64) (x1_ x2_ x3_ x4_ : Int32) (k : Int) (hT : Tb48 i F) (hQ : Pp48 k i F) (hk : 0 ≤ k) : xMI l yX8_beginBlock cX8_beginBlock 6 (some .int) 2 43 D tA b 0 78 i F G [.ref (b + 48), .int x1_, .int x2_, .int x3_, .int x4_] (fun r u => On 48 70 i F G u ∧ Tb48 u.1 u.2.1 ∧ Pp48 k u.1 u.2.1) := by
  refine xstart RX8 rfl (by decide) (Nat.le_of_ble_eq_true rfl) ?_
  intro p e s m below meth c ls C0 hr hH hS hl
  have hl : lv_has ls 6 [(0, .ref (b + 48)), (1, .int x1_), (2, .int x2_), (3, .int x3_), (4, .int x4_)] := hl
  have rg_x1_ := fb_rng x1_
  have rg_x2_ := fb_rng x2_
  have rg_x3_ := fb_rng x3_
  have rg_x4_ := fb_rng x4_
  have hL := Tb48.lin hT
  have h601 : Int32.toInt (nI 601) = 601 := rfl
  refine lv_aload_n (pc := 0) C0.1 C0.2.1 dX8_beginBlock_0 rfl (lv_at hl 0 rfl) ?_
  refine xget (pc := 1) C0 hH 48 0 clX8 ⟨Nat.le_of_ble_eq_true rfl, Nat.le_of_ble_eq_true rfl⟩ ⟨rfl, rfl⟩ (Nat.le_of_ble_eq_true rfl) fl_X8_12 (v := .ref (b + 49)) rfl dX8_beginBlock_1 ?_
  refine lv_iload_n (pc := 4) C0.1 C0.2.1 dX8_beginBlock_4 rfl (lv_at hl 1 rfl) ?_
  refine lv_iload_n (pc := 5) C0.1 C0.2.1 dX8_beginBlock_5 rfl (lv_at hl 2 rfl) ?_
  refine lv_iload_n (pc := 6) C0.1 C0.2.1 dX8_beginBlock_6 rfl (lv_at hl 3 rfl) ?_
  refine lv_aload_n (pc := 7) C0.1 C0.2.1 dX8_beginBlock_7 rfl (lv_at hl 0 rfl) ?_
  refine xget (pc := 8) C0 hH 48 7 clX8 ⟨Nat.le_of_ble_eq_true rfl, Nat.le_of_ble_eq_true rfl⟩ ⟨rfl, rfl⟩ (Nat.le_of_ble_eq_true rfl) fl_X8_50 (v := .int (i 48 7)) rfl dX8_beginBlock_8 ?_
  refine lv_iload (pc := 11) C0.1 C0.2.1 dX8_beginBlock_11 (lv_at hl 4 rfl) ?_
  refine xcVI (pc := 13) 49 [.int x1_, .int x2_, .int x3_, .int (i 48 7), .int x4_] (g_X0_add_48 l D tA b i F G x1_ x2_ x3_ (i 48 7) x4_ (show 1 ≤ Int32.toInt (i 49 9) ∧ Int32.toInt (i 49 9) ≤ 601 from by omega)) C0 hH hS clX0 rfl ⟨⟨Nat.le_of_ble_eq_true rfl, Nat.le_of_ble_eq_true rfl⟩, rfl, rfl⟩ cw_X8_59 rfl ⟨Nat.le_of_ble_eq_true rfl, Nat.le_of_ble_eq_true rfl⟩ hl.1 rfl (Nat.le_of_ble_eq_true rfl) dX8_beginBlock_13 ⟨Nat.le_of_ble_eq_true rfl, Nat.le_of_ble_eq_true rfl⟩ (fun r1 ir1 Fr1 Gr1 _ locs hp hH hS => ?_)
  obtain ⟨honr1, hbr1, hk0r1, hrr1⟩ := hp
  have hT : Tb48 ir1 Fr1 := Tb48.add hT honr1 hbr1 hk0r1
  have hQ : Pp48 k ir1 Fr1 := Pp48.on hQ honr1 (by decide)
  have hL := Tb48.lin hT
  refine lv_istore (pc := 16) (lv' := [(5, .int r1), (0, .ref (b + 48)), (1, .int x1_), (2, .int x2_), (3, .int x3_), (4, .int x4_)]) C0.1 C0.2.1 dX8_beginBlock_16 hl (by decide) rfl (fun ls hl => ?_)
  refine lv_iload (pc := 18) C0.1 C0.2.1 dX8_beginBlock_18 (lv_at hl 0 rfl) ?_
  refine lv_bipush (pc := 20) (v := (-9)) C0.1 C0.2.1 dX8_beginBlock_20 (by decide) ?_
  refine lv_icmp_eq (pc := 22) (tgt := 38) C0.1 C0.2.1 dX8_beginBlock_22 (by decide) (fun c2 => ?_) (fun c2 => ?_)
  · have : Int32.toInt (-9) = (-9) := rfl
    have c2 := congrArg Int32.toInt c2
    refine lv_iload (pc := 38) C0.1 C0.2.1 dX8_beginBlock_38 (lv_at hl 0 rfl) ?_
    exact xiret (pc := 40) C0 hr hH hS dX8_beginBlock_40 ⟨(On.tr On.rf honr1 (by decide) (by decide)), hT, hQ⟩
  · have : Int32.toInt (-9) = (-9) := rfl
    have c2 : ¬ _ := fun q => c2 (Int32.toInt_inj.mp q)
    refine lv_aload_n (pc := 25) C0.1 C0.2.1 dX8_beginBlock_25 rfl (lv_at hl 1 rfl) ?_
    refine xget (pc := 26) C0 hH 48 1 clX8 ⟨Nat.le_of_ble_eq_true rfl, Nat.le_of_ble_eq_true rfl⟩ ⟨rfl, rfl⟩ (Nat.le_of_ble_eq_true rfl) fl_X8_21 (v := .ref (b + 59)) rfl dX8_beginBlock_26 ?_
    refine lv_iload_n (pc := 29) C0.1 C0.2.1 dX8_beginBlock_29 rfl (lv_at hl 4 rfl) ?_
    refine lv_bipush (pc := 30) (v := (-100)) C0.1 C0.2.1 dX8_beginBlock_30 (by decide) ?_
    refine lv_iload (pc := 32) C0.1 C0.2.1 dX8_beginBlock_32 (lv_at hl 0 rfl) ?_
    have : Int32.toInt (-100) = (-100) := rfl
    refine lv_isub (pc := 34) C0.1 C0.2.1 dX8_beginBlock_34 ?_
    refine lv_topi (fun x3 ex3 => ?_)
    have hx3 : Int32.toInt x3 = Int32.toInt (-100) - Int32.toInt r1 := by rw [ex3]; exact fb_subI (by omega) (by omega)
    refine xcVV (pc := 35) 59 [.int x3_, .int x3] (g_X2_hang_48 l D tA b ir1 Fr1 Gr1 x3_ x3 hT.1.2.1 hT.1.2.2.1 hT.1.pi hT.1.pv (by omega)) C0 hH hS clX2 rfl ⟨⟨Nat.le_of_ble_eq_true rfl, Nat.le_of_ble_eq_true rfl⟩, rfl, rfl⟩ cw_X8_118 rfl ⟨Nat.le_of_ble_eq_true rfl, Nat.le_of_ble_eq_true rfl⟩ hl.1 rfl (Nat.le_of_ble_eq_true rfl) dX8_beginBlock_35 ⟨Nat.le_of_ble_eq_true rfl, Nat.le_of_ble_eq_true rfl⟩ (fun ir4 Fr4 Gr4 _ locs hp hH hS => ?_)
    obtain ⟨honr4, h5r4, hptr4, howr4, hpir4, hpvr4, hppr4⟩ := hp
    have hT : Tb48 ir4 Fr4 := Tb48.hang hT honr4 h5r4 hptr4 howr4 hpir4 hpvr4
    have hQ : Pp48 k ir4 Fr4 := Pp48.hangN hQ honr4 hppr4 (by omega) (by omega)
    have hL := Tb48.lin hT
    refine lv_iload (pc := 38) C0.1 C0.2.1 dX8_beginBlock_38 (lv_at hl 0 rfl) ?_
    exact xiret (pc := 40) C0 hr hH hS dX8_beginBlock_40 ⟨(On.tr (On.tr On.rf honr1 (by decide) (by decide)) honr4 (by decide) (by decide)), hT, hQ⟩
set_option maxHeartbeats 4000000 in
set_option maxRecDepth 100000 in
theorem g_X8_beginItem_48 (l : Launch) (D : va_G) (tA : Nat → ClassId) (b : Nat) (i F : Nat → Nat → Int32) (G : Nat → Nat → Int64) (x : Int32) (k : Int) (hT : Tb48 i F) (hQ : Pp48 k i F) (hk : 0 ≤ k) : xMI l yX8_beginItem cX8_beginItem 3 (some .int) 1 22 D tA b 0 78 i F G [.ref (b + 48), .int x] (fun r u => On 48 70 i F G u ∧ Tb48 u.1 u.2.1 ∧ Pp48 k u.1 u.2.1) := by
  refine xstart RX8 rfl (by decide) (Nat.le_of_ble_eq_true rfl) ?_
  intro p e s m below meth c ls C0 hr hH hS hl
  have hl : lv_has ls 3 [(0, .ref (b + 48)), (1, .int x)] := hl
  have rg_x := fb_rng x
  have hL := Tb48.lin hT
  have h601 : Int32.toInt (nI 601) = 601 := rfl
  refine lv_aload_n (pc := 0) C0.1 C0.2.1 dX8_beginItem_0 rfl (lv_at hl 0 rfl) ?_
  refine xget (pc := 1) C0 hH 48 0 clX8 ⟨Nat.le_of_ble_eq_true rfl, Nat.le_of_ble_eq_true rfl⟩ ⟨rfl, rfl⟩ (Nat.le_of_ble_eq_true rfl) fl_X8_12 (v := .ref (b + 49)) rfl dX8_beginItem_1 ?_
  refine lv_iload_n (pc := 4) C0.1 C0.2.1 dX8_beginItem_4 rfl (lv_at hl 1 rfl) ?_
  refine xcVI (pc := 5) 49 [.int x] (g_X0_has_49 l D tA b i F G x ) C0 hH hS clX0 rfl ⟨⟨Nat.le_of_ble_eq_true rfl, Nat.le_of_ble_eq_true rfl⟩, rfl, rfl⟩ cw_X8_87 rfl ⟨Nat.le_of_ble_eq_true rfl, Nat.le_of_ble_eq_true rfl⟩ hl.1 rfl (Nat.le_of_ble_eq_true rfl) dX8_beginItem_5 ⟨Nat.le_of_ble_eq_true rfl, Nat.le_of_ble_eq_true rfl⟩ (fun r1 ir1 Fr1 Gr1 _ locs hp hH hS => ?_)
  obtain ⟨hu, hpr1⟩ := hp
  cases hu
  refine lv_if_ne (pc := 8) (tgt := 14) C0.1 C0.2.1 dX8_beginItem_8 (by decide) (fun c2 => ?_) (fun c2 => ?_)
  · have : Int32.toInt 0 = 0 := rfl
    have c2 : ¬ _ := fun q => c2 (Int32.toInt_inj.mp q)
    refine lv_aload_n (pc := 14) C0.1 C0.2.1 dX8_beginItem_14 rfl (lv_at hl 0 rfl) ?_
    refine xget (pc := 15) C0 hH 48 1 clX8 ⟨Nat.le_of_ble_eq_true rfl, Nat.le_of_ble_eq_true rfl⟩ ⟨rfl, rfl⟩ (Nat.le_of_ble_eq_true rfl) fl_X8_21 (v := .ref (b + 59)) rfl dX8_beginItem_15 ?_
    refine lv_iload_n (pc := 18) C0.1 C0.2.1 dX8_beginItem_18 rfl (lv_at hl 1 rfl) ?_
    refine lv_aload_n (pc := 19) C0.1 C0.2.1 dX8_beginItem_19 rfl (lv_at hl 0 rfl) ?_
    refine xget (pc := 20) C0 hH 48 0 clX8 ⟨Nat.le_of_ble_eq_true rfl, Nat.le_of_ble_eq_true rfl⟩ ⟨rfl, rfl⟩ (Nat.le_of_ble_eq_true rfl) fl_X8_12 (v := .ref (b + 49)) rfl dX8_beginItem_20 ?_
    refine xget (pc := 23) C0 hH 49 3 clX0 ⟨Nat.le_of_ble_eq_true rfl, Nat.le_of_ble_eq_true rfl⟩ ⟨rfl, rfl⟩ (Nat.le_of_ble_eq_true rfl) fl_X8_177 (v := .ref (b + 53)) rfl dX8_beginItem_23 ?_
    refine lv_iload_n (pc := 26) C0.1 C0.2.1 dX8_beginItem_26 rfl (lv_at hl 1 rfl) ?_
    refine xiald (pc := 27) (N := 601) C0 hH 53 ⟨Nat.le_of_ble_eq_true rfl, Nat.le_of_ble_eq_true rfl⟩ ⟨rfl, rfl⟩ (vI (by omega) (by omega)) dX8_beginItem_27 ?_
    refine xcVI (pc := 28) 59 [.int x, .int (F 53 (Int32.toNatClampNeg x))] (g_X2_add_48 l D tA b i F G x (F 53 (Int32.toNatClampNeg x)) hT.1.2.1 hT.1.ow (by omega)) C0 hH hS clX2 rfl ⟨⟨Nat.le_of_ble_eq_true rfl, Nat.le_of_ble_eq_true rfl⟩, rfl, rfl⟩ cw_X8_180 rfl ⟨Nat.le_of_ble_eq_true rfl, Nat.le_of_ble_eq_true rfl⟩ hl.1 rfl (Nat.le_of_ble_eq_true rfl) dX8_beginItem_28 ⟨Nat.le_of_ble_eq_true rfl, Nat.le_of_ble_eq_true rfl⟩ (fun r3 ir3 Fr3 Gr3 _ locs hp hH hS => ?_)
    obtain ⟨honr3, hbr3, hk0r3, hrr3⟩ := hp
    have hT : Tb48 ir3 Fr3 := Tb48.iadd hT honr3 hbr3 hk0r3 hrr3
    have hQ : Pp48 k ir3 Fr3 := Pp48.iadd hQ honr3 hk0r3
    have hL := Tb48.lin hT
    refine lv_istore_n (pc := 31) (lv' := [(2, .int r3), (0, .ref (b + 48)), (1, .int x)]) C0.1 C0.2.1 dX8_beginItem_31 rfl hl (by decide) rfl (fun ls hl => ?_)
    refine lv_aload_n (pc := 32) C0.1 C0.2.1 dX8_beginItem_32 rfl (lv_at hl 1 rfl) ?_
    refine xget (pc := 33) C0 hH 48 0 clX8 ⟨Nat.le_of_ble_eq_true rfl, Nat.le_of_ble_eq_true rfl⟩ ⟨rfl, rfl⟩ (Nat.le_of_ble_eq_true rfl) fl_X8_12 (v := .ref (b + 49)) rfl dX8_beginItem_33 ?_
    refine xget (pc := 36) C0 hH 49 3 clX0 ⟨Nat.le_of_ble_eq_true rfl, Nat.le_of_ble_eq_true rfl⟩ ⟨rfl, rfl⟩ (Nat.le_of_ble_eq_true rfl) fl_X8_177 (v := .ref (b + 53)) rfl dX8_beginItem_36 ?_
    refine lv_iload_n (pc := 39) C0.1 C0.2.1 dX8_beginItem_39 rfl (lv_at hl 2 rfl) ?_
    refine lv_dup2_11 (pc := 40) C0.1 C0.2.1 dX8_beginItem_40 rfl rfl ?_
    refine xiald (pc := 41) (N := 601) C0 hH 53 ⟨Nat.le_of_ble_eq_true rfl, Nat.le_of_ble_eq_true rfl⟩ ⟨rfl, rfl⟩ (vI (by omega) (by omega)) dX8_beginItem_41 ?_
    refine lv_iconst (pc := 42) (v := 1) C0.1 C0.2.1 dX8_beginItem_42 (by decide) ?_
    refine lv_iadd (pc := 43) C0.1 C0.2.1 dX8_beginItem_43 ?_
    refine xiast (pc := 44) (N := 601) C0 (Nat.le_of_ble_eq_true rfl) hH hS 53 ⟨Nat.le_of_ble_eq_true rfl, Nat.le_of_ble_eq_true rfl⟩ ⟨rfl, rfl⟩ (vI (by omega) (by omega)) dX8_beginItem_44 (fun _ locs hH hS _ => ?_)
    have hH : Hd D tA b 0 78 zz ir3 (va_up Fr3 53 (upd (Fr3 53) (Int32.toNatClampNeg x) ((Fr3 53 (Int32.toNatClampNeg x)) + 1))) Gr3 _ := hH
    refine lv_aload_n (pc := 45) C0.1 C0.2.1 dX8_beginItem_45 rfl (lv_at hl 1 rfl) ?_
    refine xget (pc := 46) C0 hH 48 0 clX8 ⟨Nat.le_of_ble_eq_true rfl, Nat.le_of_ble_eq_true rfl⟩ ⟨rfl, rfl⟩ (Nat.le_of_ble_eq_true rfl) fl_X8_12 (v := .ref (b + 49)) rfl dX8_beginItem_46 ?_
    refine xget (pc := 49) C0 hH 49 8 clX0 ⟨Nat.le_of_ble_eq_true rfl, Nat.le_of_ble_eq_true rfl⟩ ⟨rfl, rfl⟩ (Nat.le_of_ble_eq_true rfl) fl_X8_148 (v := .ref (b + 58)) rfl dX8_beginItem_49 ?_
    refine lv_iload_n (pc := 52) C0.1 C0.2.1 dX8_beginItem_52 rfl (lv_at hl 2 rfl) ?_
    refine lv_iload_n (pc := 53) C0.1 C0.2.1 dX8_beginItem_53 rfl (lv_at hl 0 rfl) ?_
    refine xiast (pc := 54) (N := 601) C0 (Nat.le_of_ble_eq_true rfl) hH hS 58 ⟨Nat.le_of_ble_eq_true rfl, Nat.le_of_ble_eq_true rfl⟩ ⟨rfl, rfl⟩ (vI (by omega) (by omega)) dX8_beginItem_54 (fun _ locs hH hS _ => ?_)
    have hH : Hd D tA b 0 78 zz ir3 (va_up (va_up Fr3 53 (upd (Fr3 53) (Int32.toNatClampNeg x) ((Fr3 53 (Int32.toNatClampNeg x)) + 1))) 58 (upd (Fr3 58) (Int32.toNatClampNeg x) r3)) Gr3 _ := hH
    refine lv_iload_n (pc := 55) C0.1 C0.2.1 dX8_beginItem_55 rfl (lv_at hl 0 rfl) ?_
    exact xiret (pc := 56) C0 hr hH hS dX8_beginItem_56 ⟨(On.f (On.f (On.tr On.rf honr3 (by decide) (by decide)) (by decide)) (by decide)), hT, hQ⟩
  · have : Int32.toInt 0 = 0 := rfl
    have c2 := congrArg Int32.toInt c2
    refine lv_bipush (pc := 11) (v := (-9)) C0.1 C0.2.1 dX8_beginItem_11 (by decide) ?_
    exact xiret (pc := 13) C0 hr hH hS dX8_beginItem_13 ⟨On.rf, hT, hQ⟩
set_option maxHeartbeats 4000000 in
set_option maxRecDepth 100000 in
theorem g_X8_levelOfLet_48 (l : Launch) (D : va_G) (tA : Nat → ClassId) (b : Nat) (i F : Nat → Nat → Int32) (G : Nat → Nat → Int64)  (hT : Tb48 i F) : xMI l yX8_levelOfLet cX8_levelOfLet 3 (some .int) 0 0 D tA b 0 78 i F G [.ref (b + 48)] (fun r u => u = (i, F, G) ∧ (r.toInt = -9 ∨ (1 ≤ r.toInt ∧ r.toInt < (i 48 7).toInt))) := by
  refine xstart RX8 rfl (by decide) (Nat.le_of_ble_eq_true rfl) ?_
  intro p e s m below meth c ls C0 hr hH hS hl
  have hl : lv_has ls 3 [(0, .ref (b + 48))] := hl
  have hL := Tb48.lin hT
  have h601 : Int32.toInt (nI 601) = 601 := rfl
  have LOOP : ∀ (d : Nat) (k : Int32) (H : Heap) (locs : List Loc) (ls : Array Slot), (0 ≤ k.toInt) → (k.toInt ≤ d) → (k.toInt < (i 48 7).toInt) → Hd D tA b 0 78 zz i F G H → va_S (xA b 0 78) s.heap H locs → lv_has ls 3 [(1, .int k), (0, .ref (b + 48))] → W p l e (xR 0 0) s m ([.ref (b + 48)] : List Value).toArray below meth c H locs 0 0 (MQ below (va_Qi (fun r u => u = (i, F, G) ∧ (r.toInt = -9 ∨ (1 ≤ r.toInt ∧ r.toInt < (i 48 7).toInt))) (xB D tA b 0 78 zz) (xA b 0 78)) ([.ref (b + 48)] : List Value).toArray s 0 0 (xA b 0 78)) (F0 m 7 ls []) := by
    intro d
    induction d with
    | zero =>
      intro k H locs ls h1 h2 h3 hH hS hl
      have rg_k := fb_rng k
      refine lv_iload_n (pc := 7) C0.1 C0.2.1 dX8_levelOfLet_7 rfl (lv_at hl 0 rfl) ?_
      have : Int32.toInt 0 = 0 := rfl
      refine lv_if_le (pc := 8) (tgt := 47) C0.1 C0.2.1 dX8_levelOfLet_8 (by decide) (fun _ => ?_) (fun c => absurd (Int32.le_iff_toInt_le.mpr (by omega)) c)
      refine lv_bipush (pc := 47) (v := (-9)) C0.1 C0.2.1 dX8_levelOfLet_47 (by decide) ?_
      exact xiret (pc := 49) C0 hr hH hS dX8_levelOfLet_49 ⟨rfl, by first | exact Or.inl rfl | exact Or.inr ⟨by omega, by omega⟩⟩
    | succ d ih =>
      intro k H locs ls h1 h2 h3 hH hS hl
      have rg_k := fb_rng k
      refine lv_iload_n (pc := 7) C0.1 C0.2.1 dX8_levelOfLet_7 rfl (lv_at hl 0 rfl) ?_
      refine lv_if_le (pc := 8) (tgt := 47) C0.1 C0.2.1 dX8_levelOfLet_8 (by decide) (fun c101 => ?_) (fun c101 => ?_)
      · have : Int32.toInt 0 = 0 := rfl
        have c101 := Int32.le_iff_toInt_le.mp c101
        refine lv_bipush (pc := 47) (v := (-9)) C0.1 C0.2.1 dX8_levelOfLet_47 (by decide) ?_
        exact xiret (pc := 49) C0 hr hH hS dX8_levelOfLet_49 ⟨rfl, by first | exact Or.inl rfl | exact Or.inr ⟨by omega, by omega⟩⟩
      · have : Int32.toInt 0 = 0 := rfl
        have c101 : ¬ _ := fun q => c101 (Int32.le_iff_toInt_le.mpr q)
        refine lv_aload_n (pc := 11) C0.1 C0.2.1 dX8_levelOfLet_11 rfl (lv_at hl 1 rfl) ?_
        refine xget (pc := 12) C0 hH 48 0 clX8 ⟨Nat.le_of_ble_eq_true rfl, Nat.le_of_ble_eq_true rfl⟩ ⟨rfl, rfl⟩ (Nat.le_of_ble_eq_true rfl) fl_X8_12 (v := .ref (b + 49)) rfl dX8_levelOfLet_12 ?_
        refine xget (pc := 15) C0 hH 49 0 clX0 ⟨Nat.le_of_ble_eq_true rfl, Nat.le_of_ble_eq_true rfl⟩ ⟨rfl, rfl⟩ (Nat.le_of_ble_eq_true rfl) fl_X8_98 (v := .ref (b + 50)) rfl dX8_levelOfLet_15 ?_
        refine lv_aload_n (pc := 18) C0.1 C0.2.1 dX8_levelOfLet_18 rfl (lv_at hl 1 rfl) ?_
        refine xget (pc := 19) C0 hH 48 6 clX8 ⟨Nat.le_of_ble_eq_true rfl, Nat.le_of_ble_eq_true rfl⟩ ⟨rfl, rfl⟩ (Nat.le_of_ble_eq_true rfl) fl_X8_33 (v := .ref (b + 69)) rfl dX8_levelOfLet_19 ?_
        refine lv_iload_n (pc := 22) C0.1 C0.2.1 dX8_levelOfLet_22 rfl (lv_at hl 0 rfl) ?_
        refine xiald (pc := 23) (N := 601) C0 hH 69 ⟨Nat.le_of_ble_eq_true rfl, Nat.le_of_ble_eq_true rfl⟩ ⟨rfl, rfl⟩ (vI (by omega) (by omega)) dX8_levelOfLet_23 ?_
        refine xiald (pc := 24) (N := 601) C0 hH 50 ⟨Nat.le_of_ble_eq_true rfl, Nat.le_of_ble_eq_true rfl⟩ ⟨rfl, rfl⟩ (vI (hT.1.pl _).1 (hT.1.pl _).2) dX8_levelOfLet_24 ?_
        refine lv_topi (fun x102 ex102 => ?_)
        refine lv_istore_n (pc := 25) (lv' := [(2, .int x102), (1, .int k), (0, .ref (b + 48))]) C0.1 C0.2.1 dX8_levelOfLet_25 rfl hl (by decide) rfl (fun ls hl => ?_)
        refine lv_iload_n (pc := 26) C0.1 C0.2.1 dX8_levelOfLet_26 rfl (lv_at hl 0 rfl) ?_
        refine lv_iconst (pc := 27) (v := 5) C0.1 C0.2.1 dX8_levelOfLet_27 (by decide) ?_
        refine lv_icmp_ne (pc := 28) (tgt := 33) C0.1 C0.2.1 dX8_levelOfLet_28 (by decide) (fun c103 => ?_) (fun c103 => ?_)
        · have : Int32.toInt 5 = 5 := rfl
          have c103 : ¬ _ := fun q => c103 (Int32.toInt_inj.mp q)
          refine lv_iload_n (pc := 33) C0.1 C0.2.1 dX8_levelOfLet_33 rfl (lv_at hl 0 rfl) ?_
          refine lv_iconst (pc := 34) (v := 4) C0.1 C0.2.1 dX8_levelOfLet_34 (by decide) ?_
          refine lv_icmp_ne (pc := 35) (tgt := 41) C0.1 C0.2.1 dX8_levelOfLet_35 (by decide) (fun c104 => ?_) (fun c104 => ?_)
          · have : Int32.toInt 4 = 4 := rfl
            have c104 : ¬ _ := fun q => c104 (Int32.toInt_inj.mp q)
            obtain ⟨x105, ex105⟩ : ∃ y_ : Int32, y_ = k + (-1) := ⟨_, rfl⟩
            have : Int32.toInt (-1) = (-1) := rfl
            have hx105 : Int32.toInt x105 = Int32.toInt k + Int32.toInt (-1) := by rw [ex105]; exact fb_addI (by omega) (by omega)
            refine lv_iinc (pc := 41) (v := x105) (lv' := [(1, .int x105), (2, .int x102), (0, .ref (b + 48))]) C0.1 C0.2.1 dX8_levelOfLet_41 hl (k := 1) rfl (by rw [ex105]; rfl) (by decide) rfl (fun ls hl => ?_)
            refine lv_goto (pc := 44) (tgt := 7) C0.1 C0.2.1 dX8_levelOfLet_44 (by decide) ?_
            exact ih x105 _ _ _ (by omega) (by omega) (by omega) hH hS (lv_sub hl [0, 2] rfl)
          · have : Int32.toInt 4 = 4 := rfl
            have c104 := congrArg Int32.toInt c104
            refine lv_bipush (pc := 38) (v := (-9)) C0.1 C0.2.1 dX8_levelOfLet_38 (by decide) ?_
            exact xiret (pc := 40) C0 hr hH hS dX8_levelOfLet_40 ⟨rfl, by first | exact Or.inl rfl | exact Or.inr ⟨by omega, by omega⟩⟩
        · have : Int32.toInt 5 = 5 := rfl
          have c103 := congrArg Int32.toInt c103
          refine lv_iload_n (pc := 31) C0.1 C0.2.1 dX8_levelOfLet_31 rfl (lv_at hl 1 rfl) ?_
          exact xiret (pc := 32) C0 hr hH hS dX8_levelOfLet_32 ⟨rfl, by first | exact Or.inl rfl | exact Or.inr ⟨by omega, by omega⟩⟩
  refine lv_aload_n (pc := 0) C0.1 C0.2.1 dX8_levelOfLet_0 rfl (lv_at hl 0 rfl) ?_
  refine xget (pc := 1) C0 hH 48 7 clX8 ⟨Nat.le_of_ble_eq_true rfl, Nat.le_of_ble_eq_true rfl⟩ ⟨rfl, rfl⟩ (Nat.le_of_ble_eq_true rfl) fl_X8_50 (v := .int (i 48 7)) rfl dX8_levelOfLet_1 ?_
  refine lv_iconst (pc := 4) (v := 1) C0.1 C0.2.1 dX8_levelOfLet_4 (by decide) ?_
  have : Int32.toInt 1 = 1 := rfl
  refine lv_isub (pc := 5) C0.1 C0.2.1 dX8_levelOfLet_5 ?_
  refine lv_topi (fun x1 ex1 => ?_)
  have hx1 : Int32.toInt x1 = Int32.toInt (i 48 7) - Int32.toInt 1 := by rw [ex1]; exact fb_subI (by omega) (by omega)
  refine lv_istore_n (pc := 6) (lv' := [(1, .int x1), (0, .ref (b + 48))]) C0.1 C0.2.1 dX8_levelOfLet_6 rfl hl (by decide) rfl (fun ls hl => ?_)
  exact LOOP 601 x1 _ _ _ (by omega) (by omega) (by omega) hH hS (lv_sub hl [0, 1] rfl)
set_option maxHeartbeats 4000000 in
set_option maxRecDepth 100000 in
theorem g_X8_spreadEnds_48 (l : Launch) (D : va_G) (tA : Nat → ClassId) (b : Nat) (i F : Nat → Nat → Int32) (G : Nat → Nat → Int64) (k : Int) (hT : Tb48 i F) (hQ : Pp48 k i F) (hk : 0 ≤ k) : xMV l yX8_spreadEnds cX8_spreadEnds 4 none 1 24 D tA b 0 78 i F G [.ref (b + 48)] (fun u => On 48 70 i F G u ∧ Tb48 u.1 u.2.1 ∧ Pp48 k u.1 u.2.1) := by
  refine xstart RX8 rfl (by decide) (Nat.le_of_ble_eq_true rfl) ?_
  intro p e s m below meth c ls C0 hr hH hS hl
  have hl : lv_has ls 4 [(0, .ref (b + 48))] := hl
  have hL := Tb48.lin hT
  have h601 : Int32.toInt (nI 601) = 601 := rfl
  have LOOP : ∀ (d : Nat) (q : Int32) (iv Fv : Nat → Nat → Int32) (Gv : Nat → Nat → Int64) (H : Heap) (locs : List Loc) (ls : Array Slot), (-1 ≤ q.toInt) → (q.toInt + 1 ≤ d) → (q.toInt < 1200) → (On 48 70 i F G (iv, Fv, Gv)) → (Tb48 iv Fv) → (Pp48 k iv Fv) → Hd D tA b 0 78 zz iv Fv Gv H → va_S (xA b 0 78) s.heap H locs → lv_has ls 4 [(1, .int q), (0, .ref (b + 48))] → W p l e (xR 1 24) s m ([.ref (b + 48)] : List Value).toArray below meth c H locs 0 0 (MQ below (va_Qv (fun u => On 48 70 i F G u ∧ Tb48 u.1 u.2.1 ∧ Pp48 k u.1 u.2.1) (xB D tA b 0 78 zz) (xA b 0 78)) ([.ref (b + 48)] : List Value).toArray s 0 0 (xA b 0 78)) (F0 m 10 ls []) := by
    intro d
    induction d with
    | zero =>
      intro q iv Fv Gv H locs ls h1 h2 h3 h4 h5 h6 hH hS hl
      have rg_q := fb_rng q
      have hT := h5
      have hQ := h6
      have hL := Tb48.lin hT
      refine lv_iload_n (pc := 10) C0.1 C0.2.1 dX8_spreadEnds_10 rfl (lv_at hl 0 rfl) ?_
      have : Int32.toInt 0 = 0 := rfl
      refine lv_if_lt (pc := 11) (tgt := 157) C0.1 C0.2.1 dX8_spreadEnds_11 (by decide) (fun _ => ?_) (fun c => absurd (Int32.lt_iff_toInt_lt.mpr (by omega)) c)
      exact xvret (pc := 157) C0 hr hH hS dX8_spreadEnds_157 ⟨h4, h5, h6⟩
    | succ d ih =>
      intro q iv Fv Gv H locs ls h1 h2 h3 h4 h5 h6 hH hS hl
      have rg_q := fb_rng q
      have hT := h5
      have hQ := h6
      have hL := Tb48.lin hT
      refine lv_iload_n (pc := 10) C0.1 C0.2.1 dX8_spreadEnds_10 rfl (lv_at hl 0 rfl) ?_
      refine lv_if_lt (pc := 11) (tgt := 157) C0.1 C0.2.1 dX8_spreadEnds_11 (by decide) (fun c101 => ?_) (fun c101 => ?_)
      · have : Int32.toInt 0 = 0 := rfl
        have c101 := Int32.lt_iff_toInt_lt.mp c101
        exact xvret (pc := 157) C0 hr hH hS dX8_spreadEnds_157 ⟨h4, h5, h6⟩
      · have : Int32.toInt 0 = 0 := rfl
        have c101 : ¬ _ := fun q => c101 (Int32.lt_iff_toInt_lt.mpr q)
        refine lv_aload_n (pc := 14) C0.1 C0.2.1 dX8_spreadEnds_14 rfl (lv_at hl 1 rfl) ?_
        refine xget (pc := 15) C0 hH 48 1 clX8 ⟨Nat.le_of_ble_eq_true rfl, Nat.le_of_ble_eq_true rfl⟩ ⟨rfl, rfl⟩ (Nat.le_of_ble_eq_true rfl) fl_X8_21 (v := .ref (b + 59)) rfl dX8_spreadEnds_15 ?_
        refine xget (pc := 18) C0 hH 59 0 clX2 ⟨Nat.le_of_ble_eq_true rfl, Nat.le_of_ble_eq_true rfl⟩ ⟨rfl, rfl⟩ (Nat.le_of_ble_eq_true rfl) fl_X8_84 (v := .ref (b + 60)) rfl dX8_spreadEnds_18 ?_
        refine lv_iload_n (pc := 21) C0.1 C0.2.1 dX8_spreadEnds_21 rfl (lv_at hl 0 rfl) ?_
        refine xiald (pc := 22) (N := 1200) C0 hH 60 ⟨Nat.le_of_ble_eq_true rfl, Nat.le_of_ble_eq_true rfl⟩ ⟨rfl, rfl⟩ (vI (by omega) (by omega)) dX8_spreadEnds_22 ?_
        refine lv_topi (fun x102 ex102 => ?_)
        refine lv_istore_n (pc := 23) (lv' := [(2, .int x102), (1, .int q), (0, .ref (b + 48))]) C0.1 C0.2.1 dX8_spreadEnds_23 rfl hl (by decide) rfl (fun ls hl => ?_)
        refine lv_aload_n (pc := 24) C0.1 C0.2.1 dX8_spreadEnds_24 rfl (lv_at hl 2 rfl) ?_
        refine xget (pc := 25) C0 hH 48 1 clX8 ⟨Nat.le_of_ble_eq_true rfl, Nat.le_of_ble_eq_true rfl⟩ ⟨rfl, rfl⟩ (Nat.le_of_ble_eq_true rfl) fl_X8_21 (v := .ref (b + 59)) rfl dX8_spreadEnds_25 ?_
        refine xget (pc := 28) C0 hH 59 2 clX2 ⟨Nat.le_of_ble_eq_true rfl, Nat.le_of_ble_eq_true rfl⟩ ⟨rfl, rfl⟩ (Nat.le_of_ble_eq_true rfl) fl_X8_163 (v := .ref (b + 62)) rfl dX8_spreadEnds_28 ?_
        refine lv_iload_n (pc := 31) C0.1 C0.2.1 dX8_spreadEnds_31 rfl (lv_at hl 1 rfl) ?_
        refine xiald (pc := 32) (N := 1200) C0 hH 62 ⟨Nat.le_of_ble_eq_true rfl, Nat.le_of_ble_eq_true rfl⟩ ⟨rfl, rfl⟩ (vI (by omega) (by omega)) dX8_spreadEnds_32 ?_
        refine lv_bipush (pc := 33) (v := (-9)) C0.1 C0.2.1 dX8_spreadEnds_33 (by decide) ?_
        refine lv_icmp_eq (pc := 35) (tgt := 151) C0.1 C0.2.1 dX8_spreadEnds_35 (by decide) (fun c103 => ?_) (fun c103 => ?_)
        · have : Int32.toInt (-9) = (-9) := rfl
          have c103 := congrArg Int32.toInt c103
          obtain ⟨x104, ex104⟩ : ∃ y_ : Int32, y_ = q + (-1) := ⟨_, rfl⟩
          have : Int32.toInt (-1) = (-1) := rfl
          have hx104 : Int32.toInt x104 = Int32.toInt q + Int32.toInt (-1) := by rw [ex104]; exact fb_addI (by omega) (by omega)
          refine lv_iinc (pc := 151) (v := x104) (lv' := [(1, .int x104), (2, .int x102), (0, .ref (b + 48))]) C0.1 C0.2.1 dX8_spreadEnds_151 hl (k := 1) rfl (by rw [ex104]; rfl) (by decide) rfl (fun ls hl => ?_)
          refine lv_goto (pc := 154) (tgt := 10) C0.1 C0.2.1 dX8_spreadEnds_154 (by decide) ?_
          exact ih x104 iv Fv Gv _ _ _ (by omega) (by omega) (by omega) h4 hT hQ hH hS (lv_sub hl [0, 2] rfl)
        · have : Int32.toInt (-9) = (-9) := rfl
          have c103 : ¬ _ := fun q => c103 (Int32.toInt_inj.mp q)
          refine lv_aload_n (pc := 38) C0.1 C0.2.1 dX8_spreadEnds_38 rfl (lv_at hl 2 rfl) ?_
          refine xget (pc := 39) C0 hH 48 0 clX8 ⟨Nat.le_of_ble_eq_true rfl, Nat.le_of_ble_eq_true rfl⟩ ⟨rfl, rfl⟩ (Nat.le_of_ble_eq_true rfl) fl_X8_12 (v := .ref (b + 49)) rfl dX8_spreadEnds_39 ?_
          refine lv_iload_n (pc := 42) C0.1 C0.2.1 dX8_spreadEnds_42 rfl (lv_at hl 0 rfl) ?_
          refine xcVI (pc := 43) 49 [.int x102] (g_X0_has_49 l D tA b iv Fv Gv x102 ) C0 hH hS clX0 rfl ⟨⟨Nat.le_of_ble_eq_true rfl, Nat.le_of_ble_eq_true rfl⟩, rfl, rfl⟩ cw_X8_87 rfl ⟨Nat.le_of_ble_eq_true rfl, Nat.le_of_ble_eq_true rfl⟩ hl.1 rfl (Nat.le_of_ble_eq_true rfl) dX8_spreadEnds_43 ⟨Nat.le_of_ble_eq_true rfl, Nat.le_of_ble_eq_true rfl⟩ (fun r105 ir105 Fr105 Gr105 _ locs hp hH hS => ?_)
          obtain ⟨hu, hpr105⟩ := hp
          cases hu
          refine lv_if_ne (pc := 46) (tgt := 52) C0.1 C0.2.1 dX8_spreadEnds_46 (by decide) (fun c106 => ?_) (fun c106 => ?_)
          · have : Int32.toInt 0 = 0 := rfl
            have c106 : ¬ _ := fun q => c106 (Int32.toInt_inj.mp q)
            refine lv_aload_n (pc := 52) C0.1 C0.2.1 dX8_spreadEnds_52 rfl (lv_at hl 2 rfl) ?_
            refine xget (pc := 53) C0 hH 48 0 clX8 ⟨Nat.le_of_ble_eq_true rfl, Nat.le_of_ble_eq_true rfl⟩ ⟨rfl, rfl⟩ (Nat.le_of_ble_eq_true rfl) fl_X8_12 (v := .ref (b + 49)) rfl dX8_spreadEnds_53 ?_
            refine xget (pc := 56) C0 hH 49 4 clX0 ⟨Nat.le_of_ble_eq_true rfl, Nat.le_of_ble_eq_true rfl⟩ ⟨rfl, rfl⟩ (Nat.le_of_ble_eq_true rfl) fl_X8_166 (v := .ref (b + 54)) rfl dX8_spreadEnds_56 ?_
            refine lv_iload_n (pc := 59) C0.1 C0.2.1 dX8_spreadEnds_59 rfl (lv_at hl 0 rfl) ?_
            refine lv_aload_n (pc := 60) C0.1 C0.2.1 dX8_spreadEnds_60 rfl (lv_at hl 2 rfl) ?_
            refine xget (pc := 61) C0 hH 48 1 clX8 ⟨Nat.le_of_ble_eq_true rfl, Nat.le_of_ble_eq_true rfl⟩ ⟨rfl, rfl⟩ (Nat.le_of_ble_eq_true rfl) fl_X8_21 (v := .ref (b + 59)) rfl dX8_spreadEnds_61 ?_
            refine xget (pc := 64) C0 hH 59 2 clX2 ⟨Nat.le_of_ble_eq_true rfl, Nat.le_of_ble_eq_true rfl⟩ ⟨rfl, rfl⟩ (Nat.le_of_ble_eq_true rfl) fl_X8_163 (v := .ref (b + 62)) rfl dX8_spreadEnds_64 ?_
            refine lv_iload_n (pc := 67) C0.1 C0.2.1 dX8_spreadEnds_67 rfl (lv_at hl 1 rfl) ?_
            refine xiald (pc := 68) (N := 1200) C0 hH 62 ⟨Nat.le_of_ble_eq_true rfl, Nat.le_of_ble_eq_true rfl⟩ ⟨rfl, rfl⟩ (vI (by omega) (by omega)) dX8_spreadEnds_68 ?_
            refine xiast (pc := 69) (N := 601) C0 (Nat.le_of_ble_eq_true rfl) hH hS 54 ⟨Nat.le_of_ble_eq_true rfl, Nat.le_of_ble_eq_true rfl⟩ ⟨rfl, rfl⟩ (vI (by omega) (by omega)) dX8_spreadEnds_69 (fun _ locs hH hS _ => ?_)
            have hH : Hd D tA b 0 78 zz iv (va_up Fv 54 (upd (Fv 54) (Int32.toNatClampNeg x102) (Fv 62 (Int32.toNatClampNeg q)))) Gv _ := hH
            refine lv_aload_n (pc := 70) C0.1 C0.2.1 dX8_spreadEnds_70 rfl (lv_at hl 2 rfl) ?_
            refine xget (pc := 71) C0 hH 48 0 clX8 ⟨Nat.le_of_ble_eq_true rfl, Nat.le_of_ble_eq_true rfl⟩ ⟨rfl, rfl⟩ (Nat.le_of_ble_eq_true rfl) fl_X8_12 (v := .ref (b + 49)) rfl dX8_spreadEnds_71 ?_
            refine xget (pc := 74) C0 hH 49 5 clX0 ⟨Nat.le_of_ble_eq_true rfl, Nat.le_of_ble_eq_true rfl⟩ ⟨rfl, rfl⟩ (Nat.le_of_ble_eq_true rfl) fl_X8_167 (v := .ref (b + 55)) rfl dX8_spreadEnds_74 ?_
            refine lv_iload_n (pc := 77) C0.1 C0.2.1 dX8_spreadEnds_77 rfl (lv_at hl 0 rfl) ?_
            refine lv_aload_n (pc := 78) C0.1 C0.2.1 dX8_spreadEnds_78 rfl (lv_at hl 2 rfl) ?_
            refine xget (pc := 79) C0 hH 48 0 clX8 ⟨Nat.le_of_ble_eq_true rfl, Nat.le_of_ble_eq_true rfl⟩ ⟨rfl, rfl⟩ (Nat.le_of_ble_eq_true rfl) fl_X8_12 (v := .ref (b + 49)) rfl dX8_spreadEnds_79 ?_
            refine xget (pc := 82) C0 hH 49 5 clX0 ⟨Nat.le_of_ble_eq_true rfl, Nat.le_of_ble_eq_true rfl⟩ ⟨rfl, rfl⟩ (Nat.le_of_ble_eq_true rfl) fl_X8_167 (v := .ref (b + 55)) rfl dX8_spreadEnds_82 ?_
            refine lv_iload_n (pc := 85) C0.1 C0.2.1 dX8_spreadEnds_85 rfl (lv_at hl 0 rfl) ?_
            refine xiald (pc := 86) (N := 601) C0 hH 55 ⟨Nat.le_of_ble_eq_true rfl, Nat.le_of_ble_eq_true rfl⟩ ⟨rfl, rfl⟩ (vI (by omega) (by omega)) dX8_spreadEnds_86 ?_
            refine lv_aload_n (pc := 87) C0.1 C0.2.1 dX8_spreadEnds_87 rfl (lv_at hl 2 rfl) ?_
            refine xget (pc := 88) C0 hH 48 1 clX8 ⟨Nat.le_of_ble_eq_true rfl, Nat.le_of_ble_eq_true rfl⟩ ⟨rfl, rfl⟩ (Nat.le_of_ble_eq_true rfl) fl_X8_21 (v := .ref (b + 59)) rfl dX8_spreadEnds_88 ?_
            refine xget (pc := 91) C0 hH 59 3 clX2 ⟨Nat.le_of_ble_eq_true rfl, Nat.le_of_ble_eq_true rfl⟩ ⟨rfl, rfl⟩ (Nat.le_of_ble_eq_true rfl) fl_X8_170 (v := .ref (b + 63)) rfl dX8_spreadEnds_91 ?_
            refine lv_iload_n (pc := 94) C0.1 C0.2.1 dX8_spreadEnds_94 rfl (lv_at hl 1 rfl) ?_
            refine xiald (pc := 95) (N := 1200) C0 hH 63 ⟨Nat.le_of_ble_eq_true rfl, Nat.le_of_ble_eq_true rfl⟩ ⟨rfl, rfl⟩ (vI (by omega) (by omega)) dX8_spreadEnds_95 ?_
            refine va_mmax (pc := 96) C0.1 C0.2.1 (C0.2.2.1.trans hl.1.symm) C0.2.2.2.1 (C0.2.2.2.2.1 _ mm_X8_171.1) (C0.2.2.2.2.1 _ mm_X8_171.2.1) (C0.2.2.2.2.1 _ mm_X8_171.2.2.1) (C0.2.2.2.2.1 _ mm_X8_171.2.2.2) (Nat.le_of_ble_eq_true rfl) (Nat.le_of_ble_eq_true rfl) (Nat.le_of_ble_eq_true rfl) (Nat.le_of_ble_eq_true rfl) dX8_spreadEnds_96 ?_
            refine xiast (pc := 99) (N := 601) C0 (Nat.le_of_ble_eq_true rfl) hH hS 55 ⟨Nat.le_of_ble_eq_true rfl, Nat.le_of_ble_eq_true rfl⟩ ⟨rfl, rfl⟩ (vI (by omega) (by omega)) dX8_spreadEnds_99 (fun _ locs hH hS _ => ?_)
            have hH : Hd D tA b 0 78 zz iv (va_up (va_up Fv 54 (upd (Fv 54) (Int32.toNatClampNeg x102) (Fv 62 (Int32.toNatClampNeg q)))) 55 (upd (Fv 55) (Int32.toNatClampNeg x102) (if Fv 55 (Int32.toNatClampNeg x102) < Fv 63 (Int32.toNatClampNeg q) then Fv 63 (Int32.toNatClampNeg q) else Fv 55 (Int32.toNatClampNeg x102)))) Gv _ := hH
            refine lv_aload_n (pc := 100) C0.1 C0.2.1 dX8_spreadEnds_100 rfl (lv_at hl 2 rfl) ?_
            refine xget (pc := 101) C0 hH 48 0 clX8 ⟨Nat.le_of_ble_eq_true rfl, Nat.le_of_ble_eq_true rfl⟩ ⟨rfl, rfl⟩ (Nat.le_of_ble_eq_true rfl) fl_X8_12 (v := .ref (b + 49)) rfl dX8_spreadEnds_101 ?_
            refine xget (pc := 104) C0 hH 49 2 clX0 ⟨Nat.le_of_ble_eq_true rfl, Nat.le_of_ble_eq_true rfl⟩ ⟨rfl, rfl⟩ (Nat.le_of_ble_eq_true rfl) fl_X8_88 (v := .ref (b + 52)) rfl dX8_spreadEnds_104 ?_
            refine lv_iload_n (pc := 107) C0.1 C0.2.1 dX8_spreadEnds_107 rfl (lv_at hl 0 rfl) ?_
            refine xiald (pc := 108) (N := 601) C0 hH 52 ⟨Nat.le_of_ble_eq_true rfl, Nat.le_of_ble_eq_true rfl⟩ ⟨rfl, rfl⟩ (vI (by omega) (by omega)) dX8_spreadEnds_108 ?_
            refine lv_topi (fun x107 ex107 => ?_)
            refine lv_istore_n (pc := 109) (lv' := [(3, .int x107), (2, .int x102), (1, .int q), (0, .ref (b + 48))]) C0.1 C0.2.1 dX8_spreadEnds_109 rfl hl (by decide) rfl (fun ls hl => ?_)
            refine lv_aload_n (pc := 110) C0.1 C0.2.1 dX8_spreadEnds_110 rfl (lv_at hl 3 rfl) ?_
            refine xget (pc := 111) C0 hH 48 1 clX8 ⟨Nat.le_of_ble_eq_true rfl, Nat.le_of_ble_eq_true rfl⟩ ⟨rfl, rfl⟩ (Nat.le_of_ble_eq_true rfl) fl_X8_21 (v := .ref (b + 59)) rfl dX8_spreadEnds_111 ?_
            refine lv_iload_n (pc := 114) C0.1 C0.2.1 dX8_spreadEnds_114 rfl (lv_at hl 0 rfl) ?_
            refine xcVI (pc := 115) 59 [.int x107] (g_X2_has_59 l D tA b iv (va_up (va_up Fv 54 (upd (Fv 54) (Int32.toNatClampNeg x102) (Fv 62 (Int32.toNatClampNeg q)))) 55 (upd (Fv 55) (Int32.toNatClampNeg x102) (if Fv 55 (Int32.toNatClampNeg x102) < Fv 63 (Int32.toNatClampNeg q) then Fv 63 (Int32.toNatClampNeg q) else Fv 55 (Int32.toNatClampNeg x102)))) Gv x107 ) C0 hH hS clX2 rfl ⟨⟨Nat.le_of_ble_eq_true rfl, Nat.le_of_ble_eq_true rfl⟩, rfl, rfl⟩ cw_X8_80 rfl ⟨Nat.le_of_ble_eq_true rfl, Nat.le_of_ble_eq_true rfl⟩ hl.1 rfl (Nat.le_of_ble_eq_true rfl) dX8_spreadEnds_115 ⟨Nat.le_of_ble_eq_true rfl, Nat.le_of_ble_eq_true rfl⟩ (fun r108 ir108 Fr108 Gr108 _ locs hp hH hS => ?_)
            obtain ⟨hu, hpr108⟩ := hp
            cases hu
            refine lv_if_eq (pc := 118) (tgt := 151) C0.1 C0.2.1 dX8_spreadEnds_118 (by decide) (fun c109 => ?_) (fun c109 => ?_)
            · have : Int32.toInt 0 = 0 := rfl
              have c109 := congrArg Int32.toInt c109
              obtain ⟨x110, ex110⟩ : ∃ y_ : Int32, y_ = q + (-1) := ⟨_, rfl⟩
              have : Int32.toInt (-1) = (-1) := rfl
              have hx110 : Int32.toInt x110 = Int32.toInt q + Int32.toInt (-1) := by rw [ex110]; exact fb_addI (by omega) (by omega)
              refine lv_iinc (pc := 151) (v := x110) (lv' := [(1, .int x110), (3, .int x107), (2, .int x102), (0, .ref (b + 48))]) C0.1 C0.2.1 dX8_spreadEnds_151 hl (k := 2) rfl (by rw [ex110]; rfl) (by decide) rfl (fun ls hl => ?_)
              refine lv_goto (pc := 154) (tgt := 10) C0.1 C0.2.1 dX8_spreadEnds_154 (by decide) ?_
              exact ih x110 iv (va_up (va_up Fv 54 (upd (Fv 54) (Int32.toNatClampNeg x102) (Fv 62 (Int32.toNatClampNeg q)))) 55 (upd (Fv 55) (Int32.toNatClampNeg x102) (if Fv 55 (Int32.toNatClampNeg x102) < Fv 63 (Int32.toNatClampNeg q) then Fv 63 (Int32.toNatClampNeg q) else Fv 55 (Int32.toNatClampNeg x102)))) Gv _ _ _ (by omega) (by omega) (by omega) (On.f (On.f h4 (by decide)) (by decide)) hT hQ hH hS (lv_sub hl [0, 3] rfl)
            · have : Int32.toInt 0 = 0 := rfl
              have c109 : ¬ _ := fun q => c109 (Int32.toInt_inj.mp q)
              refine lv_aload_n (pc := 121) C0.1 C0.2.1 dX8_spreadEnds_121 rfl (lv_at hl 3 rfl) ?_
              refine xget (pc := 122) C0 hH 48 1 clX8 ⟨Nat.le_of_ble_eq_true rfl, Nat.le_of_ble_eq_true rfl⟩ ⟨rfl, rfl⟩ (Nat.le_of_ble_eq_true rfl) fl_X8_21 (v := .ref (b + 59)) rfl dX8_spreadEnds_122 ?_
              refine xget (pc := 125) C0 hH 59 3 clX2 ⟨Nat.le_of_ble_eq_true rfl, Nat.le_of_ble_eq_true rfl⟩ ⟨rfl, rfl⟩ (Nat.le_of_ble_eq_true rfl) fl_X8_170 (v := .ref (b + 63)) rfl dX8_spreadEnds_125 ?_
              refine lv_iload_n (pc := 128) C0.1 C0.2.1 dX8_spreadEnds_128 rfl (lv_at hl 0 rfl) ?_
              refine lv_aload_n (pc := 129) C0.1 C0.2.1 dX8_spreadEnds_129 rfl (lv_at hl 3 rfl) ?_
              refine xget (pc := 130) C0 hH 48 1 clX8 ⟨Nat.le_of_ble_eq_true rfl, Nat.le_of_ble_eq_true rfl⟩ ⟨rfl, rfl⟩ (Nat.le_of_ble_eq_true rfl) fl_X8_21 (v := .ref (b + 59)) rfl dX8_spreadEnds_130 ?_
              refine xget (pc := 133) C0 hH 59 3 clX2 ⟨Nat.le_of_ble_eq_true rfl, Nat.le_of_ble_eq_true rfl⟩ ⟨rfl, rfl⟩ (Nat.le_of_ble_eq_true rfl) fl_X8_170 (v := .ref (b + 63)) rfl dX8_spreadEnds_133 ?_
              refine lv_iload_n (pc := 136) C0.1 C0.2.1 dX8_spreadEnds_136 rfl (lv_at hl 0 rfl) ?_
              refine xiald (pc := 137) (N := 1200) C0 hH 63 ⟨Nat.le_of_ble_eq_true rfl, Nat.le_of_ble_eq_true rfl⟩ ⟨rfl, rfl⟩ (vI (by omega) (by omega)) dX8_spreadEnds_137 ?_
              refine lv_aload_n (pc := 138) C0.1 C0.2.1 dX8_spreadEnds_138 rfl (lv_at hl 3 rfl) ?_
              refine xget (pc := 139) C0 hH 48 1 clX8 ⟨Nat.le_of_ble_eq_true rfl, Nat.le_of_ble_eq_true rfl⟩ ⟨rfl, rfl⟩ (Nat.le_of_ble_eq_true rfl) fl_X8_21 (v := .ref (b + 59)) rfl dX8_spreadEnds_139 ?_
              refine xget (pc := 142) C0 hH 59 3 clX2 ⟨Nat.le_of_ble_eq_true rfl, Nat.le_of_ble_eq_true rfl⟩ ⟨rfl, rfl⟩ (Nat.le_of_ble_eq_true rfl) fl_X8_170 (v := .ref (b + 63)) rfl dX8_spreadEnds_142 ?_
              refine lv_iload_n (pc := 145) C0.1 C0.2.1 dX8_spreadEnds_145 rfl (lv_at hl 2 rfl) ?_
              refine xiald (pc := 146) (N := 1200) C0 hH 63 ⟨Nat.le_of_ble_eq_true rfl, Nat.le_of_ble_eq_true rfl⟩ ⟨rfl, rfl⟩ (vI (by omega) (by omega)) dX8_spreadEnds_146 ?_
              refine va_mmax (pc := 147) C0.1 C0.2.1 (C0.2.2.1.trans hl.1.symm) C0.2.2.2.1 (C0.2.2.2.2.1 _ mm_X8_171.1) (C0.2.2.2.2.1 _ mm_X8_171.2.1) (C0.2.2.2.2.1 _ mm_X8_171.2.2.1) (C0.2.2.2.2.1 _ mm_X8_171.2.2.2) (Nat.le_of_ble_eq_true rfl) (Nat.le_of_ble_eq_true rfl) (Nat.le_of_ble_eq_true rfl) (Nat.le_of_ble_eq_true rfl) dX8_spreadEnds_147 ?_
              refine xiast (pc := 150) (N := 1200) C0 (Nat.le_of_ble_eq_true rfl) hH hS 63 ⟨Nat.le_of_ble_eq_true rfl, Nat.le_of_ble_eq_true rfl⟩ ⟨rfl, rfl⟩ (vI (by omega) (by omega)) dX8_spreadEnds_150 (fun _ locs hH hS _ => ?_)
              have hH : Hd D tA b 0 78 zz iv (va_up (va_up (va_up Fv 54 (upd (Fv 54) (Int32.toNatClampNeg x102) (Fv 62 (Int32.toNatClampNeg q)))) 55 (upd (Fv 55) (Int32.toNatClampNeg x102) (if Fv 55 (Int32.toNatClampNeg x102) < Fv 63 (Int32.toNatClampNeg q) then Fv 63 (Int32.toNatClampNeg q) else Fv 55 (Int32.toNatClampNeg x102)))) 63 (upd (Fv 63) (Int32.toNatClampNeg x107) (if Fv 63 (Int32.toNatClampNeg x107) < Fv 63 (Int32.toNatClampNeg q) then Fv 63 (Int32.toNatClampNeg q) else Fv 63 (Int32.toNatClampNeg x107)))) Gv _ := hH
              obtain ⟨x111, ex111⟩ : ∃ y_ : Int32, y_ = q + (-1) := ⟨_, rfl⟩
              have : Int32.toInt (-1) = (-1) := rfl
              have hx111 : Int32.toInt x111 = Int32.toInt q + Int32.toInt (-1) := by rw [ex111]; exact fb_addI (by omega) (by omega)
              refine lv_iinc (pc := 151) (v := x111) (lv' := [(1, .int x111), (3, .int x107), (2, .int x102), (0, .ref (b + 48))]) C0.1 C0.2.1 dX8_spreadEnds_151 hl (k := 2) rfl (by rw [ex111]; rfl) (by decide) rfl (fun ls hl => ?_)
              refine lv_goto (pc := 154) (tgt := 10) C0.1 C0.2.1 dX8_spreadEnds_154 (by decide) ?_
              exact ih x111 iv (va_up (va_up (va_up Fv 54 (upd (Fv 54) (Int32.toNatClampNeg x102) (Fv 62 (Int32.toNatClampNeg q)))) 55 (upd (Fv 55) (Int32.toNatClampNeg x102) (if Fv 55 (Int32.toNatClampNeg x102) < Fv 63 (Int32.toNatClampNeg q) then Fv 63 (Int32.toNatClampNeg q) else Fv 55 (Int32.toNatClampNeg x102)))) 63 (upd (Fv 63) (Int32.toNatClampNeg x107) (if Fv 63 (Int32.toNatClampNeg x107) < Fv 63 (Int32.toNatClampNeg q) then Fv 63 (Int32.toNatClampNeg q) else Fv 63 (Int32.toNatClampNeg x107)))) Gv _ _ _ (by omega) (by omega) (by omega) (On.f (On.f (On.f h4 (by decide)) (by decide)) (by decide)) hT hQ hH hS (lv_sub hl [0, 3] rfl)
          · have : Int32.toInt 0 = 0 := rfl
            have c106 := congrArg Int32.toInt c106
            refine lv_goto (pc := 49) (tgt := 151) C0.1 C0.2.1 dX8_spreadEnds_49 (by decide) ?_
            obtain ⟨x112, ex112⟩ : ∃ y_ : Int32, y_ = q + (-1) := ⟨_, rfl⟩
            have : Int32.toInt (-1) = (-1) := rfl
            have hx112 : Int32.toInt x112 = Int32.toInt q + Int32.toInt (-1) := by rw [ex112]; exact fb_addI (by omega) (by omega)
            refine lv_iinc (pc := 151) (v := x112) (lv' := [(1, .int x112), (2, .int x102), (0, .ref (b + 48))]) C0.1 C0.2.1 dX8_spreadEnds_151 hl (k := 1) rfl (by rw [ex112]; rfl) (by decide) rfl (fun ls hl => ?_)
            refine lv_goto (pc := 154) (tgt := 10) C0.1 C0.2.1 dX8_spreadEnds_154 (by decide) ?_
            exact ih x112 iv Fv Gv _ _ _ (by omega) (by omega) (by omega) h4 hT hQ hH hS (lv_sub hl [0, 2] rfl)
  refine lv_aload_n (pc := 0) C0.1 C0.2.1 dX8_spreadEnds_0 rfl (lv_at hl 0 rfl) ?_
  refine xget (pc := 1) C0 hH 48 1 clX8 ⟨Nat.le_of_ble_eq_true rfl, Nat.le_of_ble_eq_true rfl⟩ ⟨rfl, rfl⟩ (Nat.le_of_ble_eq_true rfl) fl_X8_21 (v := .ref (b + 59)) rfl dX8_spreadEnds_1 ?_
  refine xget (pc := 4) C0 hH 59 5 clX2 ⟨Nat.le_of_ble_eq_true rfl, Nat.le_of_ble_eq_true rfl⟩ ⟨rfl, rfl⟩ (Nat.le_of_ble_eq_true rfl) fl_X8_46 (v := .int (i 59 5)) rfl dX8_spreadEnds_4 ?_
  refine lv_iconst (pc := 7) (v := 1) C0.1 C0.2.1 dX8_spreadEnds_7 (by decide) ?_
  have : Int32.toInt 1 = 1 := rfl
  refine lv_isub (pc := 8) C0.1 C0.2.1 dX8_spreadEnds_8 ?_
  refine lv_topi (fun x1 ex1 => ?_)
  have hx1 : Int32.toInt x1 = Int32.toInt (i 59 5) - Int32.toInt 1 := by rw [ex1]; exact fb_subI (by omega) (by omega)
  refine lv_istore_n (pc := 9) (lv' := [(1, .int x1), (0, .ref (b + 48))]) C0.1 C0.2.1 dX8_spreadEnds_9 rfl hl (by decide) rfl (fun ls hl => ?_)
  exact LOOP 1200 x1 i F G _ _ _ (by omega) (by omega) (by omega) On.rf hT hQ hH hS (lv_sub hl [0, 1] rfl)
set_option maxHeartbeats 4000000 in
set_option maxRecDepth 100000 in
theorem g_X8_fail_17 (l : Launch) (D : va_G) (tA : Nat → ClassId) (b : Nat) (i F : Nat → Nat → Int32) (G : Nat → Nat → Int64) (x y : Int32)  : xMV l yX8_fail cX8_fail 3 none 0 0 D tA b 0 78 i F G [.ref (b + 17), .int x, .int y] (fun u => u = (up2 (up2 i 17 4 x) 17 5 y, F, G)) := by
  refine xstart RX8 rfl (by decide) (Nat.le_of_ble_eq_true rfl) ?_
  intro p e s m below meth c ls C0 hr hH hS hl
  have hl : lv_has ls 3 [(0, .ref (b + 17)), (1, .int x), (2, .int y)] := hl
  have rg_x := fb_rng x
  have rg_y := fb_rng y
  refine lv_aload_n (pc := 0) C0.1 C0.2.1 dX8_fail_0 rfl (lv_at hl 0 rfl) ?_
  refine lv_iload_n (pc := 1) C0.1 C0.2.1 dX8_fail_1 rfl (lv_at hl 1 rfl) ?_
  refine xputI (pc := 2) C0 (Nat.le_of_ble_eq_true rfl) hH hS 17 4 clX8 ⟨Nat.le_of_ble_eq_true rfl, Nat.le_of_ble_eq_true rfl⟩ ⟨rfl, rfl⟩ ⟨Nat.le_of_ble_eq_true rfl, rfl, rfl⟩ fl_X8_36 (x := x) ⟨rfl, rfl⟩ dX8_fail_2 (fun _ locs hH hS _ => ?_)
  have hH : Hd D tA b 0 78 zz (up2 i 17 4 x) F G _ := hH
  refine lv_aload_n (pc := 5) C0.1 C0.2.1 dX8_fail_5 rfl (lv_at hl 0 rfl) ?_
  refine lv_iload_n (pc := 6) C0.1 C0.2.1 dX8_fail_6 rfl (lv_at hl 2 rfl) ?_
  refine xputI (pc := 7) C0 (Nat.le_of_ble_eq_true rfl) hH hS 17 5 clX8 ⟨Nat.le_of_ble_eq_true rfl, Nat.le_of_ble_eq_true rfl⟩ ⟨rfl, rfl⟩ ⟨Nat.le_of_ble_eq_true rfl, rfl, rfl⟩ fl_X8_40 (x := y) ⟨rfl, rfl⟩ dX8_fail_7 (fun _ locs hH hS _ => ?_)
  have hH : Hd D tA b 0 78 zz (up2 (up2 i 17 4 x) 17 5 y) F G _ := hH
  exact xvret (pc := 10) C0 hr hH hS dX8_fail_10 rfl
set_option maxHeartbeats 4000000 in
set_option maxRecDepth 100000 in
theorem g_X8_fail_48 (l : Launch) (D : va_G) (tA : Nat → ClassId) (b : Nat) (i F : Nat → Nat → Int32) (G : Nat → Nat → Int64) (x y : Int32)  : xMV l yX8_fail cX8_fail 3 none 0 0 D tA b 0 78 i F G [.ref (b + 48), .int x, .int y] (fun u => u = (up2 (up2 i 48 4 x) 48 5 y, F, G)) := by
  refine xstart RX8 rfl (by decide) (Nat.le_of_ble_eq_true rfl) ?_
  intro p e s m below meth c ls C0 hr hH hS hl
  have hl : lv_has ls 3 [(0, .ref (b + 48)), (1, .int x), (2, .int y)] := hl
  have rg_x := fb_rng x
  have rg_y := fb_rng y
  refine lv_aload_n (pc := 0) C0.1 C0.2.1 dX8_fail_0 rfl (lv_at hl 0 rfl) ?_
  refine lv_iload_n (pc := 1) C0.1 C0.2.1 dX8_fail_1 rfl (lv_at hl 1 rfl) ?_
  refine xputI (pc := 2) C0 (Nat.le_of_ble_eq_true rfl) hH hS 48 4 clX8 ⟨Nat.le_of_ble_eq_true rfl, Nat.le_of_ble_eq_true rfl⟩ ⟨rfl, rfl⟩ ⟨Nat.le_of_ble_eq_true rfl, rfl, rfl⟩ fl_X8_36 (x := x) ⟨rfl, rfl⟩ dX8_fail_2 (fun _ locs hH hS _ => ?_)
  have hH : Hd D tA b 0 78 zz (up2 i 48 4 x) F G _ := hH
  refine lv_aload_n (pc := 5) C0.1 C0.2.1 dX8_fail_5 rfl (lv_at hl 0 rfl) ?_
  refine lv_iload_n (pc := 6) C0.1 C0.2.1 dX8_fail_6 rfl (lv_at hl 2 rfl) ?_
  refine xputI (pc := 7) C0 (Nat.le_of_ble_eq_true rfl) hH hS 48 5 clX8 ⟨Nat.le_of_ble_eq_true rfl, Nat.le_of_ble_eq_true rfl⟩ ⟨rfl, rfl⟩ ⟨Nat.le_of_ble_eq_true rfl, rfl, rfl⟩ fl_X8_40 (x := y) ⟨rfl, rfl⟩ dX8_fail_7 (fun _ locs hH hS _ => ?_)
  have hH : Hd D tA b 0 78 zz (up2 (up2 i 48 4 x) 48 5 y) F G _ := hH
  exact xvret (pc := 10) C0 hr hH hS dX8_fail_10 rfl
