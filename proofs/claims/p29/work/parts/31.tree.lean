set_option maxRecDepth 20000 in
theorem cw_X2_37 : CwV RX2 37 yX2_has cX2_has 2 (some .boolean) 1 := ⟨wm 743 (by decide +kernel) rfl, wm 744 (by decide +kernel) rfl, wm 745 (by decide +kernel) rfl, wm 8 (by decide +kernel) rfl, wm 746 rfl rfl, by decide +kernel⟩
set_option maxRecDepth 20000 in
theorem fl_X2_41 : Cond.fieldLink RX2 41 (TX2 8).1 (TX2 8).2.1 (TX2 8).2.2.1 ∈ WALL := wm 248 (by decide +kernel) rfl
set_option maxRecDepth 20000 in
theorem cw_X8_80 : CwV RX8 80 yX2_has cX2_has 2 (some .boolean) 1 := ⟨wm 784 (by decide +kernel) rfl, wm 744 (by decide +kernel) rfl, wm 745 (by decide +kernel) rfl, wm 8 (by decide +kernel) rfl, wm 746 rfl rfl, by decide +kernel⟩
set_option maxRecDepth 20000 in
theorem fl_X8_84 : Cond.fieldLink RX8 84 (TX2 0).1 (TX2 0).2.1 (TX2 0).2.2.1 ∈ WALL := wm 225 (by decide +kernel) rfl
set_option maxRecDepth 20000 in
theorem cw_X8_87 : CwV RX8 87 yX0_has cX0_has 2 (some .boolean) 1 := ⟨wm 712 (by decide +kernel) rfl, wm 713 (by decide +kernel) rfl, wm 714 (by decide +kernel) rfl, wm 7 (by decide +kernel) rfl, wm 715 rfl rfl, by decide +kernel⟩
set_option maxRecDepth 20000 in
theorem fl_X8_88 : Cond.fieldLink RX8 88 (TX0 2).1 (TX0 2).2.1 (TX0 2).2.2.1 ∈ WALL := wm 173 (by decide +kernel) rfl
set_option maxRecDepth 20000 in
theorem cw_X8_91 : CwV RX8 91 yX8_blockOf cX8_blockOf 3 (some .int) 1 := ⟨wm 1013 (by decide +kernel) rfl, wm 816 (by decide +kernel) rfl, wm 817 (by decide +kernel) rfl, wm 6 (by decide +kernel) rfl, wm 818 rfl rfl, by decide +kernel⟩
set_option maxRecDepth 20000 in
theorem fl_X8_95 : Cond.fieldLink RX8 95 (TX0 6).1 (TX0 6).2.1 (TX0 6).2.2.1 ∈ WALL := wm 186 (by decide +kernel) rfl
theorem dX0_add_0 : decode cX0_add 0 = .ok (.aload_n 0, 1) := by decide +kernel
theorem dX0_add_1 : decode cX0_add 1 = .ok (.getfield 39, 3) := by decide +kernel
theorem dX0_add_4 : decode cX0_add 4 = .ok (.aload_n 0, 1) := by decide +kernel
theorem dX0_add_5 : decode cX0_add 5 = .ok (.getfield 9, 3) := by decide +kernel
theorem dX0_add_8 : decode cX0_add 8 = .ok (.arraylength, 1) := by decide +kernel
theorem dX0_add_9 : decode cX0_add 9 = .ok (.if_icmp .lt 6, 3) := by decide +kernel
theorem dX0_add_15 : decode cX0_add 15 = .ok (.aload_n 0, 1) := by decide +kernel
theorem dX0_add_16 : decode cX0_add 16 = .ok (.getfield 9, 3) := by decide +kernel
theorem dX0_add_19 : decode cX0_add 19 = .ok (.aload_n 0, 1) := by decide +kernel
theorem dX0_add_20 : decode cX0_add 20 = .ok (.getfield 39, 3) := by decide +kernel
theorem dX0_add_23 : decode cX0_add 23 = .ok (.iload_n 1, 1) := by decide +kernel
theorem dX0_add_24 : decode cX0_add 24 = .ok (.iastore, 1) := by decide +kernel
theorem dX0_add_25 : decode cX0_add 25 = .ok (.aload_n 0, 1) := by decide +kernel
theorem dX0_add_26 : decode cX0_add 26 = .ok (.getfield 15, 3) := by decide +kernel
theorem dX0_add_29 : decode cX0_add 29 = .ok (.aload_n 0, 1) := by decide +kernel
theorem dX0_add_30 : decode cX0_add 30 = .ok (.getfield 39, 3) := by decide +kernel
theorem dX0_add_33 : decode cX0_add 33 = .ok (.iload_n 2, 1) := by decide +kernel
theorem dX0_add_34 : decode cX0_add 34 = .ok (.iastore, 1) := by decide +kernel
theorem dX0_add_35 : decode cX0_add 35 = .ok (.aload_n 0, 1) := by decide +kernel
theorem dX0_add_36 : decode cX0_add 36 = .ok (.getfield 18, 3) := by decide +kernel
theorem dX0_add_39 : decode cX0_add 39 = .ok (.aload_n 0, 1) := by decide +kernel
theorem dX0_add_40 : decode cX0_add 40 = .ok (.getfield 39, 3) := by decide +kernel
theorem dX0_add_43 : decode cX0_add 43 = .ok (.iload_n 3, 1) := by decide +kernel
theorem dX0_add_44 : decode cX0_add 44 = .ok (.iastore, 1) := by decide +kernel
theorem dX0_add_45 : decode cX0_add 45 = .ok (.aload_n 0, 1) := by decide +kernel
theorem dX0_add_46 : decode cX0_add 46 = .ok (.getfield 21, 3) := by decide +kernel
theorem dX0_add_49 : decode cX0_add 49 = .ok (.aload_n 0, 1) := by decide +kernel
theorem dX0_add_50 : decode cX0_add 50 = .ok (.getfield 39, 3) := by decide +kernel
theorem dX0_add_53 : decode cX0_add 53 = .ok (.iconst 0, 1) := by decide +kernel
theorem dX0_add_54 : decode cX0_add 54 = .ok (.iastore, 1) := by decide +kernel
theorem dX0_add_55 : decode cX0_add 55 = .ok (.aload_n 0, 1) := by decide +kernel
theorem dX0_add_56 : decode cX0_add 56 = .ok (.getfield 24, 3) := by decide +kernel
theorem dX0_add_59 : decode cX0_add 59 = .ok (.aload_n 0, 1) := by decide +kernel
theorem dX0_add_60 : decode cX0_add 60 = .ok (.getfield 39, 3) := by decide +kernel
theorem dX0_add_63 : decode cX0_add 63 = .ok (.bipush (-9), 2) := by decide +kernel
theorem dX0_add_65 : decode cX0_add 65 = .ok (.iastore, 1) := by decide +kernel
theorem dX0_add_66 : decode cX0_add 66 = .ok (.aload_n 0, 1) := by decide +kernel
theorem dX0_add_67 : decode cX0_add 67 = .ok (.getfield 27, 3) := by decide +kernel
theorem dX0_add_70 : decode cX0_add 70 = .ok (.aload_n 0, 1) := by decide +kernel
theorem dX0_add_71 : decode cX0_add 71 = .ok (.getfield 39, 3) := by decide +kernel
theorem dX0_add_74 : decode cX0_add 74 = .ok (.bipush (-9), 2) := by decide +kernel
theorem dX0_add_76 : decode cX0_add 76 = .ok (.iastore, 1) := by decide +kernel
theorem dX0_add_77 : decode cX0_add 77 = .ok (.aload_n 0, 1) := by decide +kernel
theorem dX0_add_78 : decode cX0_add 78 = .ok (.getfield 30, 3) := by decide +kernel
theorem dX0_add_81 : decode cX0_add 81 = .ok (.aload_n 0, 1) := by decide +kernel
theorem dX0_add_82 : decode cX0_add 82 = .ok (.getfield 39, 3) := by decide +kernel
theorem dX0_add_85 : decode cX0_add 85 = .ok (.iload 4, 2) := by decide +kernel
theorem dX0_add_87 : decode cX0_add 87 = .ok (.iastore, 1) := by decide +kernel
theorem dX0_add_88 : decode cX0_add 88 = .ok (.aload_n 0, 1) := by decide +kernel
theorem dX0_add_89 : decode cX0_add 89 = .ok (.getfield 33, 3) := by decide +kernel
theorem dX0_add_92 : decode cX0_add 92 = .ok (.aload_n 0, 1) := by decide +kernel
theorem dX0_add_93 : decode cX0_add 93 = .ok (.getfield 39, 3) := by decide +kernel
theorem dX0_add_96 : decode cX0_add 96 = .ok (.iload 5, 2) := by decide +kernel
theorem dX0_add_98 : decode cX0_add 98 = .ok (.iastore, 1) := by decide +kernel
theorem dX0_add_99 : decode cX0_add 99 = .ok (.aload_n 0, 1) := by decide +kernel
theorem dX0_add_100 : decode cX0_add 100 = .ok (.getfield 36, 3) := by decide +kernel
theorem dX0_add_103 : decode cX0_add 103 = .ok (.aload_n 0, 1) := by decide +kernel
theorem dX0_add_104 : decode cX0_add 104 = .ok (.getfield 39, 3) := by decide +kernel
theorem dX0_add_107 : decode cX0_add 107 = .ok (.bipush (-9), 2) := by decide +kernel
theorem dX0_add_109 : decode cX0_add 109 = .ok (.iastore, 1) := by decide +kernel
theorem dX0_add_110 : decode cX0_add 110 = .ok (.aload_n 0, 1) := by decide +kernel
theorem dX0_add_111 : decode cX0_add 111 = .ok (.dup, 1) := by decide +kernel
theorem dX0_add_112 : decode cX0_add 112 = .ok (.getfield 39, 3) := by decide +kernel
theorem dX0_add_115 : decode cX0_add 115 = .ok (.iconst 1, 1) := by decide +kernel
theorem dX0_add_116 : decode cX0_add 116 = .ok (.iadd, 1) := by decide +kernel
theorem dX0_add_117 : decode cX0_add 117 = .ok (.putfield 39, 3) := by decide +kernel
theorem dX0_add_120 : decode cX0_add 120 = .ok (.aload_n 0, 1) := by decide +kernel
theorem dX0_add_121 : decode cX0_add 121 = .ok (.getfield 39, 3) := by decide +kernel
theorem dX0_add_124 : decode cX0_add 124 = .ok (.iconst 1, 1) := by decide +kernel
theorem dX0_add_125 : decode cX0_add 125 = .ok (.isub, 1) := by decide +kernel
theorem dX0_add_126 : decode cX0_add 126 = .ok (.ireturn, 1) := by decide +kernel
theorem dX0_add_12 : decode cX0_add 12 = .ok (.bipush (-9), 2) := by decide +kernel
theorem dX0_add_14 : decode cX0_add 14 = .ok (.ireturn, 1) := by decide +kernel
theorem dX2_add_0 : decode cX2_add 0 = .ok (.aload_n 0, 1) := by decide +kernel
theorem dX2_add_1 : decode cX2_add 1 = .ok (.getfield 33, 3) := by decide +kernel
theorem dX2_add_4 : decode cX2_add 4 = .ok (.aload_n 0, 1) := by decide +kernel
theorem dX2_add_5 : decode cX2_add 5 = .ok (.getfield 9, 3) := by decide +kernel
theorem dX2_add_8 : decode cX2_add 8 = .ok (.arraylength, 1) := by decide +kernel
theorem dX2_add_9 : decode cX2_add 9 = .ok (.if_icmp .lt 6, 3) := by decide +kernel
theorem dX2_add_15 : decode cX2_add 15 = .ok (.aload_n 0, 1) := by decide +kernel
theorem dX2_add_16 : decode cX2_add 16 = .ok (.getfield 9, 3) := by decide +kernel
theorem dX2_add_19 : decode cX2_add 19 = .ok (.aload_n 0, 1) := by decide +kernel
theorem dX2_add_20 : decode cX2_add 20 = .ok (.getfield 33, 3) := by decide +kernel
theorem dX2_add_23 : decode cX2_add 23 = .ok (.iload_n 1, 1) := by decide +kernel
theorem dX2_add_24 : decode cX2_add 24 = .ok (.iastore, 1) := by decide +kernel
theorem dX2_add_25 : decode cX2_add 25 = .ok (.aload_n 0, 1) := by decide +kernel
theorem dX2_add_26 : decode cX2_add 26 = .ok (.getfield 15, 3) := by decide +kernel
theorem dX2_add_29 : decode cX2_add 29 = .ok (.aload_n 0, 1) := by decide +kernel
theorem dX2_add_30 : decode cX2_add 30 = .ok (.getfield 33, 3) := by decide +kernel
theorem dX2_add_33 : decode cX2_add 33 = .ok (.iload_n 2, 1) := by decide +kernel
theorem dX2_add_34 : decode cX2_add 34 = .ok (.iastore, 1) := by decide +kernel
theorem dX2_add_35 : decode cX2_add 35 = .ok (.aload_n 0, 1) := by decide +kernel
theorem dX2_add_36 : decode cX2_add 36 = .ok (.getfield 18, 3) := by decide +kernel
theorem dX2_add_39 : decode cX2_add 39 = .ok (.aload_n 0, 1) := by decide +kernel
theorem dX2_add_40 : decode cX2_add 40 = .ok (.getfield 33, 3) := by decide +kernel
theorem dX2_add_43 : decode cX2_add 43 = .ok (.bipush (-9), 2) := by decide +kernel
theorem dX2_add_45 : decode cX2_add 45 = .ok (.iastore, 1) := by decide +kernel
theorem dX2_add_46 : decode cX2_add 46 = .ok (.aload_n 0, 1) := by decide +kernel
theorem dX2_add_47 : decode cX2_add 47 = .ok (.getfield 21, 3) := by decide +kernel
theorem dX2_add_50 : decode cX2_add 50 = .ok (.aload_n 0, 1) := by decide +kernel
theorem dX2_add_51 : decode cX2_add 51 = .ok (.getfield 33, 3) := by decide +kernel
theorem dX2_add_54 : decode cX2_add 54 = .ok (.bipush (-9), 2) := by decide +kernel
theorem dX2_add_56 : decode cX2_add 56 = .ok (.iastore, 1) := by decide +kernel
theorem dX2_add_57 : decode cX2_add 57 = .ok (.aload_n 0, 1) := by decide +kernel
theorem dX2_add_58 : decode cX2_add 58 = .ok (.getfield 24, 3) := by decide +kernel
theorem dX2_add_61 : decode cX2_add 61 = .ok (.aload_n 0, 1) := by decide +kernel
theorem dX2_add_62 : decode cX2_add 62 = .ok (.getfield 33, 3) := by decide +kernel
theorem dX2_add_65 : decode cX2_add 65 = .ok (.iconst 0, 1) := by decide +kernel
theorem dX2_add_66 : decode cX2_add 66 = .ok (.iastore, 1) := by decide +kernel
theorem dX2_add_67 : decode cX2_add 67 = .ok (.aload_n 0, 1) := by decide +kernel
theorem dX2_add_68 : decode cX2_add 68 = .ok (.dup, 1) := by decide +kernel
theorem dX2_add_69 : decode cX2_add 69 = .ok (.getfield 33, 3) := by decide +kernel
theorem dX2_add_72 : decode cX2_add 72 = .ok (.iconst 1, 1) := by decide +kernel
theorem dX2_add_73 : decode cX2_add 73 = .ok (.iadd, 1) := by decide +kernel
theorem dX2_add_74 : decode cX2_add 74 = .ok (.putfield 33, 3) := by decide +kernel
theorem dX2_add_77 : decode cX2_add 77 = .ok (.aload_n 0, 1) := by decide +kernel
theorem dX2_add_78 : decode cX2_add 78 = .ok (.getfield 33, 3) := by decide +kernel
theorem dX2_add_81 : decode cX2_add 81 = .ok (.iconst 1, 1) := by decide +kernel
theorem dX2_add_82 : decode cX2_add 82 = .ok (.isub, 1) := by decide +kernel
theorem dX2_add_83 : decode cX2_add 83 = .ok (.ireturn, 1) := by decide +kernel
theorem dX2_add_12 : decode cX2_add 12 = .ok (.bipush (-9), 2) := by decide +kernel
theorem dX2_add_14 : decode cX2_add 14 = .ok (.ireturn, 1) := by decide +kernel
theorem dX2_hang_0 : decode cX2_hang 0 = .ok (.aload_n 0, 1) := by decide +kernel
theorem dX2_hang_1 : decode cX2_hang 1 = .ok (.iload_n 1, 1) := by decide +kernel
theorem dX2_hang_2 : decode cX2_hang 2 = .ok (.invokevirtual 37, 3) := by decide +kernel
theorem dX2_hang_5 : decode cX2_hang 5 = .ok (.ifCond .eq 15, 3) := by decide +kernel
theorem dX2_hang_20 : decode cX2_hang 20 = .ok (.return_, 1) := by decide +kernel
theorem dX2_hang_8 : decode cX2_hang 8 = .ok (.aload_n 0, 1) := by decide +kernel
theorem dX2_hang_9 : decode cX2_hang 9 = .ok (.getfield 41, 3) := by decide +kernel
theorem dX2_hang_12 : decode cX2_hang 12 = .ok (.aload_n 0, 1) := by decide +kernel
theorem dX2_hang_13 : decode cX2_hang 13 = .ok (.getfield 27, 3) := by decide +kernel
theorem dX2_hang_16 : decode cX2_hang 16 = .ok (.arraylength, 1) := by decide +kernel
theorem dX2_hang_17 : decode cX2_hang 17 = .ok (.if_icmp .lt 4, 3) := by decide +kernel
theorem dX2_hang_21 : decode cX2_hang 21 = .ok (.aload_n 0, 1) := by decide +kernel
theorem dX2_hang_22 : decode cX2_hang 22 = .ok (.getfield 27, 3) := by decide +kernel
theorem dX2_hang_25 : decode cX2_hang 25 = .ok (.aload_n 0, 1) := by decide +kernel
theorem dX2_hang_26 : decode cX2_hang 26 = .ok (.getfield 41, 3) := by decide +kernel
theorem dX2_hang_29 : decode cX2_hang 29 = .ok (.iload_n 1, 1) := by decide +kernel
theorem dX2_hang_30 : decode cX2_hang 30 = .ok (.iastore, 1) := by decide +kernel
theorem dX2_hang_31 : decode cX2_hang 31 = .ok (.aload_n 0, 1) := by decide +kernel
theorem dX2_hang_32 : decode cX2_hang 32 = .ok (.getfield 30, 3) := by decide +kernel
theorem dX2_hang_35 : decode cX2_hang 35 = .ok (.aload_n 0, 1) := by decide +kernel
theorem dX2_hang_36 : decode cX2_hang 36 = .ok (.getfield 41, 3) := by decide +kernel
theorem dX2_hang_39 : decode cX2_hang 39 = .ok (.iload_n 2, 1) := by decide +kernel
theorem dX2_hang_40 : decode cX2_hang 40 = .ok (.iastore, 1) := by decide +kernel
theorem dX2_hang_41 : decode cX2_hang 41 = .ok (.aload_n 0, 1) := by decide +kernel
theorem dX2_hang_42 : decode cX2_hang 42 = .ok (.dup, 1) := by decide +kernel
theorem dX2_hang_43 : decode cX2_hang 43 = .ok (.getfield 41, 3) := by decide +kernel
theorem dX2_hang_46 : decode cX2_hang 46 = .ok (.iconst 1, 1) := by decide +kernel
theorem dX2_hang_47 : decode cX2_hang 47 = .ok (.iadd, 1) := by decide +kernel
theorem dX2_hang_48 : decode cX2_hang 48 = .ok (.putfield 41, 3) := by decide +kernel
theorem dX2_hang_51 : decode cX2_hang 51 = .ok (.aload_n 0, 1) := by decide +kernel
theorem dX2_hang_52 : decode cX2_hang 52 = .ok (.getfield 24, 3) := by decide +kernel
theorem dX2_hang_55 : decode cX2_hang 55 = .ok (.iload_n 1, 1) := by decide +kernel
theorem dX2_hang_56 : decode cX2_hang 56 = .ok (.dup2, 1) := by decide +kernel
theorem dX2_hang_57 : decode cX2_hang 57 = .ok (.iaload, 1) := by decide +kernel
theorem dX2_hang_58 : decode cX2_hang 58 = .ok (.iconst 1, 1) := by decide +kernel
theorem dX2_hang_59 : decode cX2_hang 59 = .ok (.iadd, 1) := by decide +kernel
theorem dX2_hang_60 : decode cX2_hang 60 = .ok (.iastore, 1) := by decide +kernel
theorem dX2_hang_61 : decode cX2_hang 61 = .ok (.iload_n 2, 1) := by decide +kernel
theorem dX2_hang_62 : decode cX2_hang 62 = .ok (.ifCond .lt 37, 3) := by decide +kernel
theorem dX2_hang_99 : decode cX2_hang 99 = .ok (.return_, 1) := by decide +kernel
theorem dX2_hang_65 : decode cX2_hang 65 = .ok (.aload_n 0, 1) := by decide +kernel
theorem dX2_hang_66 : decode cX2_hang 66 = .ok (.getfield 21, 3) := by decide +kernel
theorem dX2_hang_69 : decode cX2_hang 69 = .ok (.iload_n 1, 1) := by decide +kernel
theorem dX2_hang_70 : decode cX2_hang 70 = .ok (.iload_n 2, 1) := by decide +kernel
theorem dX2_hang_71 : decode cX2_hang 71 = .ok (.iastore, 1) := by decide +kernel
theorem dX2_hang_72 : decode cX2_hang 72 = .ok (.aload_n 0, 1) := by decide +kernel
theorem dX2_hang_73 : decode cX2_hang 73 = .ok (.getfield 18, 3) := by decide +kernel
theorem dX2_hang_76 : decode cX2_hang 76 = .ok (.iload_n 1, 1) := by decide +kernel
theorem dX2_hang_77 : decode cX2_hang 77 = .ok (.aload_n 0, 1) := by decide +kernel
theorem dX2_hang_78 : decode cX2_hang 78 = .ok (.getfield 18, 3) := by decide +kernel
theorem dX2_hang_81 : decode cX2_hang 81 = .ok (.iload_n 1, 1) := by decide +kernel
theorem dX2_hang_82 : decode cX2_hang 82 = .ok (.iaload, 1) := by decide +kernel
theorem dX2_hang_83 : decode cX2_hang 83 = .ok (.bipush (-9), 2) := by decide +kernel
theorem dX2_hang_85 : decode cX2_hang 85 = .ok (.if_icmp .ne 7, 3) := by decide +kernel
theorem dX2_hang_92 : decode cX2_hang 92 = .ok (.aload_n 0, 1) := by decide +kernel
theorem dX2_hang_93 : decode cX2_hang 93 = .ok (.getfield 18, 3) := by decide +kernel
theorem dX2_hang_96 : decode cX2_hang 96 = .ok (.iload_n 1, 1) := by decide +kernel
theorem dX2_hang_97 : decode cX2_hang 97 = .ok (.iaload, 1) := by decide +kernel
theorem dX2_hang_98 : decode cX2_hang 98 = .ok (.iastore, 1) := by decide +kernel
theorem dX2_hang_88 : decode cX2_hang 88 = .ok (.iload_n 2, 1) := by decide +kernel
theorem dX2_hang_89 : decode cX2_hang 89 = .ok (.goto 9, 3) := by decide +kernel
theorem dX2_partOf_0 : decode cX2_partOf 0 = .ok (.iconst 0, 1) := by decide +kernel
theorem dX2_partOf_1 : decode cX2_partOf 1 = .ok (.istore_n 3, 1) := by decide +kernel
theorem dX2_partOf_2 : decode cX2_partOf 2 = .ok (.iconst 0, 1) := by decide +kernel
theorem dX2_partOf_3 : decode cX2_partOf 3 = .ok (.istore 4, 2) := by decide +kernel
theorem dX2_partOf_5 : decode cX2_partOf 5 = .ok (.iload 4, 2) := by decide +kernel
theorem dX2_partOf_7 : decode cX2_partOf 7 = .ok (.aload_n 0, 1) := by decide +kernel
theorem dX2_partOf_8 : decode cX2_partOf 8 = .ok (.getfield 41, 3) := by decide +kernel
theorem dX2_partOf_11 : decode cX2_partOf 11 = .ok (.if_icmp .ge 36, 3) := by decide +kernel
theorem dX2_partOf_47 : decode cX2_partOf 47 = .ok (.bipush (-12), 2) := by decide +kernel
theorem dX2_partOf_49 : decode cX2_partOf 49 = .ok (.ireturn, 1) := by decide +kernel
theorem dX2_partOf_14 : decode cX2_partOf 14 = .ok (.aload_n 0, 1) := by decide +kernel
theorem dX2_partOf_15 : decode cX2_partOf 15 = .ok (.getfield 27, 3) := by decide +kernel
theorem dX2_partOf_18 : decode cX2_partOf 18 = .ok (.iload 4, 2) := by decide +kernel
theorem dX2_partOf_20 : decode cX2_partOf 20 = .ok (.iaload, 1) := by decide +kernel
theorem dX2_partOf_21 : decode cX2_partOf 21 = .ok (.iload_n 1, 1) := by decide +kernel
theorem dX2_partOf_22 : decode cX2_partOf 22 = .ok (.if_icmp .ne 19, 3) := by decide +kernel
theorem dX2_partOf_41 : decode cX2_partOf 41 = .ok (.iinc 4 1, 3) := by decide +kernel
theorem dX2_partOf_44 : decode cX2_partOf 44 = .ok (.goto (-39), 3) := by decide +kernel
theorem dX2_partOf_25 : decode cX2_partOf 25 = .ok (.iload_n 3, 1) := by decide +kernel
theorem dX2_partOf_26 : decode cX2_partOf 26 = .ok (.iload_n 2, 1) := by decide +kernel
theorem dX2_partOf_27 : decode cX2_partOf 27 = .ok (.if_icmp .ne 11, 3) := by decide +kernel
theorem dX2_partOf_38 : decode cX2_partOf 38 = .ok (.iinc 3 1, 3) := by decide +kernel
theorem dX2_partOf_30 : decode cX2_partOf 30 = .ok (.aload_n 0, 1) := by decide +kernel
theorem dX2_partOf_31 : decode cX2_partOf 31 = .ok (.getfield 30, 3) := by decide +kernel
theorem dX2_partOf_34 : decode cX2_partOf 34 = .ok (.iload 4, 2) := by decide +kernel
theorem dX2_partOf_36 : decode cX2_partOf 36 = .ok (.iaload, 1) := by decide +kernel
theorem dX2_partOf_37 : decode cX2_partOf 37 = .ok (.ireturn, 1) := by decide +kernel
theorem dX2_find_0 : decode cX2_find 0 = .ok (.iconst 0, 1) := by decide +kernel
theorem dX2_find_1 : decode cX2_find 1 = .ok (.istore_n 3, 1) := by decide +kernel
theorem dX2_find_2 : decode cX2_find 2 = .ok (.iload_n 3, 1) := by decide +kernel
theorem dX2_find_3 : decode cX2_find 3 = .ok (.aload_n 0, 1) := by decide +kernel
theorem dX2_find_4 : decode cX2_find 4 = .ok (.getfield 33, 3) := by decide +kernel
theorem dX2_find_7 : decode cX2_find 7 = .ok (.if_icmp .ge 31, 3) := by decide +kernel
theorem dX2_find_38 : decode cX2_find 38 = .ok (.bipush (-12), 2) := by decide +kernel
theorem dX2_find_40 : decode cX2_find 40 = .ok (.ireturn, 1) := by decide +kernel
theorem dX2_find_10 : decode cX2_find 10 = .ok (.aload_n 0, 1) := by decide +kernel
theorem dX2_find_11 : decode cX2_find 11 = .ok (.getfield 9, 3) := by decide +kernel
theorem dX2_find_14 : decode cX2_find 14 = .ok (.iload_n 3, 1) := by decide +kernel
theorem dX2_find_15 : decode cX2_find 15 = .ok (.iaload, 1) := by decide +kernel
theorem dX2_find_16 : decode cX2_find 16 = .ok (.iload_n 1, 1) := by decide +kernel
theorem dX2_find_17 : decode cX2_find 17 = .ok (.if_icmp .ne 15, 3) := by decide +kernel
theorem dX2_find_32 : decode cX2_find 32 = .ok (.iinc 3 1, 3) := by decide +kernel
theorem dX2_find_35 : decode cX2_find 35 = .ok (.goto (-33), 3) := by decide +kernel
theorem dX2_find_20 : decode cX2_find 20 = .ok (.aload_n 0, 1) := by decide +kernel
theorem dX2_find_21 : decode cX2_find 21 = .ok (.getfield 15, 3) := by decide +kernel
theorem dX2_find_24 : decode cX2_find 24 = .ok (.iload_n 3, 1) := by decide +kernel
theorem dX2_find_25 : decode cX2_find 25 = .ok (.iaload, 1) := by decide +kernel
theorem dX2_find_26 : decode cX2_find 26 = .ok (.iload_n 2, 1) := by decide +kernel
theorem dX2_find_27 : decode cX2_find 27 = .ok (.if_icmp .ne 5, 3) := by decide +kernel
theorem dX2_find_30 : decode cX2_find 30 = .ok (.iload_n 3, 1) := by decide +kernel
theorem dX2_find_31 : decode cX2_find 31 = .ok (.ireturn, 1) := by decide +kernel
theorem dX8_blockOf_0 : decode cX8_blockOf 0 = .ok (.iload_n 1, 1) := by decide +kernel
theorem dX8_blockOf_1 : decode cX8_blockOf 1 = .ok (.ifCond .lt 21, 3) := by decide +kernel
theorem dX8_blockOf_22 : decode cX8_blockOf 22 = .ok (.bipush (-9), 2) := by decide +kernel
theorem dX8_blockOf_24 : decode cX8_blockOf 24 = .ok (.istore_n 2, 1) := by decide +kernel
theorem dX8_blockOf_25 : decode cX8_blockOf 25 = .ok (.aload_n 0, 1) := by decide +kernel
theorem dX8_blockOf_26 : decode cX8_blockOf 26 = .ok (.getfield 21, 3) := by decide +kernel
theorem dX8_blockOf_29 : decode cX8_blockOf 29 = .ok (.iload_n 2, 1) := by decide +kernel
theorem dX8_blockOf_30 : decode cX8_blockOf 30 = .ok (.invokevirtual 80, 3) := by decide +kernel
theorem dX8_blockOf_33 : decode cX8_blockOf 33 = .ok (.ifCond .eq 15, 3) := by decide +kernel
theorem dX8_blockOf_48 : decode cX8_blockOf 48 = .ok (.bipush (-9), 2) := by decide +kernel
theorem dX8_blockOf_50 : decode cX8_blockOf 50 = .ok (.ireturn, 1) := by decide +kernel
theorem dX8_blockOf_36 : decode cX8_blockOf 36 = .ok (.aload_n 0, 1) := by decide +kernel
theorem dX8_blockOf_37 : decode cX8_blockOf 37 = .ok (.getfield 21, 3) := by decide +kernel
theorem dX8_blockOf_40 : decode cX8_blockOf 40 = .ok (.getfield 84, 3) := by decide +kernel
theorem dX8_blockOf_43 : decode cX8_blockOf 43 = .ok (.iload_n 2, 1) := by decide +kernel
theorem dX8_blockOf_44 : decode cX8_blockOf 44 = .ok (.iaload, 1) := by decide +kernel
theorem dX8_blockOf_45 : decode cX8_blockOf 45 = .ok (.goto 5, 3) := by decide +kernel
theorem dX8_blockOf_4 : decode cX8_blockOf 4 = .ok (.iload_n 1, 1) := by decide +kernel
theorem dX8_blockOf_5 : decode cX8_blockOf 5 = .ok (.aload_n 0, 1) := by decide +kernel
theorem dX8_blockOf_6 : decode cX8_blockOf 6 = .ok (.getfield 25, 3) := by decide +kernel
theorem dX8_blockOf_9 : decode cX8_blockOf 9 = .ok (.arraylength, 1) := by decide +kernel
theorem dX8_blockOf_10 : decode cX8_blockOf 10 = .ok (.if_icmp .ge 12, 3) := by decide +kernel
theorem dX8_blockOf_13 : decode cX8_blockOf 13 = .ok (.aload_n 0, 1) := by decide +kernel
theorem dX8_blockOf_14 : decode cX8_blockOf 14 = .ok (.getfield 25, 3) := by decide +kernel
theorem dX8_blockOf_17 : decode cX8_blockOf 17 = .ok (.iload_n 1, 1) := by decide +kernel
theorem dX8_blockOf_18 : decode cX8_blockOf 18 = .ok (.iaload, 1) := by decide +kernel
theorem dX8_blockOf_19 : decode cX8_blockOf 19 = .ok (.goto 5, 3) := by decide +kernel
theorem dX8_blockAround_0 : decode cX8_blockAround 0 = .ok (.aload_n 0, 1) := by decide +kernel
theorem dX8_blockAround_1 : decode cX8_blockAround 1 = .ok (.getfield 12, 3) := by decide +kernel
theorem dX8_blockAround_4 : decode cX8_blockAround 4 = .ok (.iload_n 1, 1) := by decide +kernel
theorem dX8_blockAround_5 : decode cX8_blockAround 5 = .ok (.invokevirtual 87, 3) := by decide +kernel
theorem dX8_blockAround_8 : decode cX8_blockAround 8 = .ok (.ifCond .eq 15, 3) := by decide +kernel
theorem dX8_blockAround_23 : decode cX8_blockAround 23 = .ok (.bipush (-9), 2) := by decide +kernel
theorem dX8_blockAround_25 : decode cX8_blockAround 25 = .ok (.istore_n 2, 1) := by decide +kernel
theorem dX8_blockAround_26 : decode cX8_blockAround 26 = .ok (.aload_n 0, 1) := by decide +kernel
theorem dX8_blockAround_27 : decode cX8_blockAround 27 = .ok (.getfield 21, 3) := by decide +kernel
theorem dX8_blockAround_30 : decode cX8_blockAround 30 = .ok (.iload_n 2, 1) := by decide +kernel
theorem dX8_blockAround_31 : decode cX8_blockAround 31 = .ok (.invokevirtual 80, 3) := by decide +kernel
theorem dX8_blockAround_34 : decode cX8_blockAround 34 = .ok (.ifCond .eq 15, 3) := by decide +kernel
theorem dX8_blockAround_49 : decode cX8_blockAround 49 = .ok (.bipush (-9), 2) := by decide +kernel
theorem dX8_blockAround_51 : decode cX8_blockAround 51 = .ok (.ireturn, 1) := by decide +kernel
theorem dX8_blockAround_37 : decode cX8_blockAround 37 = .ok (.aload_n 0, 1) := by decide +kernel
theorem dX8_blockAround_38 : decode cX8_blockAround 38 = .ok (.getfield 21, 3) := by decide +kernel
theorem dX8_blockAround_41 : decode cX8_blockAround 41 = .ok (.getfield 84, 3) := by decide +kernel
theorem dX8_blockAround_44 : decode cX8_blockAround 44 = .ok (.iload_n 2, 1) := by decide +kernel
theorem dX8_blockAround_45 : decode cX8_blockAround 45 = .ok (.iaload, 1) := by decide +kernel
theorem dX8_blockAround_46 : decode cX8_blockAround 46 = .ok (.goto 5, 3) := by decide +kernel
theorem dX8_blockAround_11 : decode cX8_blockAround 11 = .ok (.aload_n 0, 1) := by decide +kernel
theorem dX8_blockAround_12 : decode cX8_blockAround 12 = .ok (.getfield 12, 3) := by decide +kernel
theorem dX8_blockAround_15 : decode cX8_blockAround 15 = .ok (.getfield 88, 3) := by decide +kernel
theorem dX8_blockAround_18 : decode cX8_blockAround 18 = .ok (.iload_n 1, 1) := by decide +kernel
theorem dX8_blockAround_19 : decode cX8_blockAround 19 = .ok (.iaload, 1) := by decide +kernel
theorem dX8_blockAround_20 : decode cX8_blockAround 20 = .ok (.goto 5, 3) := by decide +kernel
theorem dX8_depthOf_0 : decode cX8_depthOf 0 = .ok (.aload_n 0, 1) := by decide +kernel
theorem dX8_depthOf_1 : decode cX8_depthOf 1 = .ok (.iload_n 1, 1) := by decide +kernel
theorem dX8_depthOf_2 : decode cX8_depthOf 2 = .ok (.invokevirtual 91, 3) := by decide +kernel
theorem dX8_depthOf_5 : decode cX8_depthOf 5 = .ok (.istore_n 2, 1) := by decide +kernel
theorem dX8_depthOf_6 : decode cX8_depthOf 6 = .ok (.aload_n 0, 1) := by decide +kernel
theorem dX8_depthOf_7 : decode cX8_depthOf 7 = .ok (.getfield 12, 3) := by decide +kernel
theorem dX8_depthOf_10 : decode cX8_depthOf 10 = .ok (.iload_n 2, 1) := by decide +kernel
theorem dX8_depthOf_11 : decode cX8_depthOf 11 = .ok (.invokevirtual 87, 3) := by decide +kernel
theorem dX8_depthOf_14 : decode cX8_depthOf 14 = .ok (.ifCond .eq 17, 3) := by decide +kernel
theorem dX8_depthOf_31 : decode cX8_depthOf 31 = .ok (.iconst 0, 1) := by decide +kernel
theorem dX8_depthOf_32 : decode cX8_depthOf 32 = .ok (.ireturn, 1) := by decide +kernel
theorem dX8_depthOf_17 : decode cX8_depthOf 17 = .ok (.aload_n 0, 1) := by decide +kernel
theorem dX8_depthOf_18 : decode cX8_depthOf 18 = .ok (.getfield 12, 3) := by decide +kernel
theorem dX8_depthOf_21 : decode cX8_depthOf 21 = .ok (.getfield 95, 3) := by decide +kernel
theorem dX8_depthOf_24 : decode cX8_depthOf 24 = .ok (.iload_n 2, 1) := by decide +kernel
theorem dX8_depthOf_25 : decode cX8_depthOf 25 = .ok (.iaload, 1) := by decide +kernel
theorem dX8_depthOf_26 : decode cX8_depthOf 26 = .ok (.iconst 1, 1) := by decide +kernel
theorem dX8_depthOf_27 : decode cX8_depthOf 27 = .ok (.iadd, 1) := by decide +kernel
theorem dX8_depthOf_28 : decode cX8_depthOf 28 = .ok (.goto 4, 3) := by decide +kernel
set_option maxHeartbeats 4000000 in
set_option maxRecDepth 100000 in
theorem g_X0_add_17 (l : Launch) (D : va_G) (tA : Nat → ClassId) (b : Nat) (i F : Nat → Nat → Int32) (G : Nat → Nat → Int64) (x1_ x2_ x3_ x4_ x5_ : Int32) (hb : 1 ≤ (i 18 9).toInt ∧ (i 18 9).toInt ≤ 601) : xMI l yX0_add cX0_add 6 (some .int) 0 0 D tA b 0 78 i F G [.ref (b + 18), .int x1_, .int x2_, .int x3_, .int x4_, .int x5_] (fun r u => On 18 28 i F G u ∧ (1 ≤ (u.1 18 9).toInt ∧ (u.1 18 9).toInt ≤ 601) ∧ u.2.1 19 0 = F 19 0 ∧ (r.toInt = -9 ∨ (0 ≤ r.toInt ∧ r.toInt < 601))) := by
  refine xstart RX0 rfl (by decide) (Nat.le_of_ble_eq_true rfl) ?_
  intro p e s m below meth c ls C0 hr hH hS hl
  have hl : lv_has ls 6 [(0, .ref (b + 18)), (1, .int x1_), (2, .int x2_), (3, .int x3_), (4, .int x4_), (5, .int x5_)] := hl
  have rg_x1_ := fb_rng x1_
  have rg_x2_ := fb_rng x2_
  have rg_x3_ := fb_rng x3_
  have rg_x4_ := fb_rng x4_
  have rg_x5_ := fb_rng x5_
  have h601 : Int32.toInt (nI 601) = 601 := rfl
  refine lv_aload_n (pc := 0) C0.1 C0.2.1 dX0_add_0 rfl (lv_at hl 0 rfl) ?_
  refine xget (pc := 1) C0 hH 18 9 clX0 ⟨Nat.le_of_ble_eq_true rfl, Nat.le_of_ble_eq_true rfl⟩ ⟨rfl, rfl⟩ (Nat.le_of_ble_eq_true rfl) fl_X0_39 (v := .int (i 18 9)) rfl dX0_add_1 ?_
  refine lv_aload_n (pc := 4) C0.1 C0.2.1 dX0_add_4 rfl (lv_at hl 0 rfl) ?_
  refine xget (pc := 5) C0 hH 18 0 clX0 ⟨Nat.le_of_ble_eq_true rfl, Nat.le_of_ble_eq_true rfl⟩ ⟨rfl, rfl⟩ (Nat.le_of_ble_eq_true rfl) fl_X0_9 (v := .ref (b + 19)) rfl dX0_add_5 ?_
  refine xalen (pc := 8) (N := 601) (t := 50) C0 hH 19 ⟨Nat.le_of_ble_eq_true rfl, Nat.le_of_ble_eq_true rfl⟩ ⟨rfl, rfl⟩ (by decide) dX0_add_8 ?_
  refine lv_icmp_lt (pc := 9) (tgt := 15) C0.1 C0.2.1 dX0_add_9 (by decide) (fun c1 => ?_) (fun c1 => ?_)
  · have c1 := Int32.lt_iff_toInt_lt.mp c1
    refine lv_aload_n (pc := 15) C0.1 C0.2.1 dX0_add_15 rfl (lv_at hl 0 rfl) ?_
    refine xget (pc := 16) C0 hH 18 0 clX0 ⟨Nat.le_of_ble_eq_true rfl, Nat.le_of_ble_eq_true rfl⟩ ⟨rfl, rfl⟩ (Nat.le_of_ble_eq_true rfl) fl_X0_9 (v := .ref (b + 19)) rfl dX0_add_16 ?_
    refine lv_aload_n (pc := 19) C0.1 C0.2.1 dX0_add_19 rfl (lv_at hl 0 rfl) ?_
    refine xget (pc := 20) C0 hH 18 9 clX0 ⟨Nat.le_of_ble_eq_true rfl, Nat.le_of_ble_eq_true rfl⟩ ⟨rfl, rfl⟩ (Nat.le_of_ble_eq_true rfl) fl_X0_39 (v := .int (i 18 9)) rfl dX0_add_20 ?_
    refine lv_iload_n (pc := 23) C0.1 C0.2.1 dX0_add_23 rfl (lv_at hl 1 rfl) ?_
    refine xiast (pc := 24) (N := 601) C0 (Nat.le_of_ble_eq_true rfl) hH hS 19 ⟨Nat.le_of_ble_eq_true rfl, Nat.le_of_ble_eq_true rfl⟩ ⟨rfl, rfl⟩ (vI (by omega) (by omega)) dX0_add_24 (fun _ locs hH hS _ => ?_)
    have hH : Hd D tA b 0 78 zz i (va_up F 19 (upd (F 19) (Int32.toNatClampNeg (i 18 9)) x1_)) G _ := hH
    refine lv_aload_n (pc := 25) C0.1 C0.2.1 dX0_add_25 rfl (lv_at hl 0 rfl) ?_
    refine xget (pc := 26) C0 hH 18 1 clX0 ⟨Nat.le_of_ble_eq_true rfl, Nat.le_of_ble_eq_true rfl⟩ ⟨rfl, rfl⟩ (Nat.le_of_ble_eq_true rfl) fl_X0_15 (v := .ref (b + 20)) rfl dX0_add_26 ?_
    refine lv_aload_n (pc := 29) C0.1 C0.2.1 dX0_add_29 rfl (lv_at hl 0 rfl) ?_
    refine xget (pc := 30) C0 hH 18 9 clX0 ⟨Nat.le_of_ble_eq_true rfl, Nat.le_of_ble_eq_true rfl⟩ ⟨rfl, rfl⟩ (Nat.le_of_ble_eq_true rfl) fl_X0_39 (v := .int (i 18 9)) rfl dX0_add_30 ?_
    refine lv_iload_n (pc := 33) C0.1 C0.2.1 dX0_add_33 rfl (lv_at hl 2 rfl) ?_
    refine xiast (pc := 34) (N := 601) C0 (Nat.le_of_ble_eq_true rfl) hH hS 20 ⟨Nat.le_of_ble_eq_true rfl, Nat.le_of_ble_eq_true rfl⟩ ⟨rfl, rfl⟩ (vI (by omega) (by omega)) dX0_add_34 (fun _ locs hH hS _ => ?_)
    have hH : Hd D tA b 0 78 zz i (va_up (va_up F 19 (upd (F 19) (Int32.toNatClampNeg (i 18 9)) x1_)) 20 (upd (F 20) (Int32.toNatClampNeg (i 18 9)) x2_)) G _ := hH
    refine lv_aload_n (pc := 35) C0.1 C0.2.1 dX0_add_35 rfl (lv_at hl 0 rfl) ?_
    refine xget (pc := 36) C0 hH 18 2 clX0 ⟨Nat.le_of_ble_eq_true rfl, Nat.le_of_ble_eq_true rfl⟩ ⟨rfl, rfl⟩ (Nat.le_of_ble_eq_true rfl) fl_X0_18 (v := .ref (b + 21)) rfl dX0_add_36 ?_
    refine lv_aload_n (pc := 39) C0.1 C0.2.1 dX0_add_39 rfl (lv_at hl 0 rfl) ?_
    refine xget (pc := 40) C0 hH 18 9 clX0 ⟨Nat.le_of_ble_eq_true rfl, Nat.le_of_ble_eq_true rfl⟩ ⟨rfl, rfl⟩ (Nat.le_of_ble_eq_true rfl) fl_X0_39 (v := .int (i 18 9)) rfl dX0_add_40 ?_
    refine lv_iload_n (pc := 43) C0.1 C0.2.1 dX0_add_43 rfl (lv_at hl 3 rfl) ?_
    refine xiast (pc := 44) (N := 601) C0 (Nat.le_of_ble_eq_true rfl) hH hS 21 ⟨Nat.le_of_ble_eq_true rfl, Nat.le_of_ble_eq_true rfl⟩ ⟨rfl, rfl⟩ (vI (by omega) (by omega)) dX0_add_44 (fun _ locs hH hS _ => ?_)
    have hH : Hd D tA b 0 78 zz i (va_up (va_up (va_up F 19 (upd (F 19) (Int32.toNatClampNeg (i 18 9)) x1_)) 20 (upd (F 20) (Int32.toNatClampNeg (i 18 9)) x2_)) 21 (upd (F 21) (Int32.toNatClampNeg (i 18 9)) x3_)) G _ := hH
    refine lv_aload_n (pc := 45) C0.1 C0.2.1 dX0_add_45 rfl (lv_at hl 0 rfl) ?_
    refine xget (pc := 46) C0 hH 18 3 clX0 ⟨Nat.le_of_ble_eq_true rfl, Nat.le_of_ble_eq_true rfl⟩ ⟨rfl, rfl⟩ (Nat.le_of_ble_eq_true rfl) fl_X0_21 (v := .ref (b + 22)) rfl dX0_add_46 ?_
    refine lv_aload_n (pc := 49) C0.1 C0.2.1 dX0_add_49 rfl (lv_at hl 0 rfl) ?_
    refine xget (pc := 50) C0 hH 18 9 clX0 ⟨Nat.le_of_ble_eq_true rfl, Nat.le_of_ble_eq_true rfl⟩ ⟨rfl, rfl⟩ (Nat.le_of_ble_eq_true rfl) fl_X0_39 (v := .int (i 18 9)) rfl dX0_add_50 ?_
    refine lv_iconst (pc := 53) (v := 0) C0.1 C0.2.1 dX0_add_53 (by decide) ?_
    refine xiast (pc := 54) (N := 601) C0 (Nat.le_of_ble_eq_true rfl) hH hS 22 ⟨Nat.le_of_ble_eq_true rfl, Nat.le_of_ble_eq_true rfl⟩ ⟨rfl, rfl⟩ (vI (by omega) (by omega)) dX0_add_54 (fun _ locs hH hS _ => ?_)
    have hH : Hd D tA b 0 78 zz i (va_up (va_up (va_up (va_up F 19 (upd (F 19) (Int32.toNatClampNeg (i 18 9)) x1_)) 20 (upd (F 20) (Int32.toNatClampNeg (i 18 9)) x2_)) 21 (upd (F 21) (Int32.toNatClampNeg (i 18 9)) x3_)) 22 (upd (F 22) (Int32.toNatClampNeg (i 18 9)) 0)) G _ := hH
    refine lv_aload_n (pc := 55) C0.1 C0.2.1 dX0_add_55 rfl (lv_at hl 0 rfl) ?_
    refine xget (pc := 56) C0 hH 18 4 clX0 ⟨Nat.le_of_ble_eq_true rfl, Nat.le_of_ble_eq_true rfl⟩ ⟨rfl, rfl⟩ (Nat.le_of_ble_eq_true rfl) fl_X0_24 (v := .ref (b + 23)) rfl dX0_add_56 ?_
    refine lv_aload_n (pc := 59) C0.1 C0.2.1 dX0_add_59 rfl (lv_at hl 0 rfl) ?_
    refine xget (pc := 60) C0 hH 18 9 clX0 ⟨Nat.le_of_ble_eq_true rfl, Nat.le_of_ble_eq_true rfl⟩ ⟨rfl, rfl⟩ (Nat.le_of_ble_eq_true rfl) fl_X0_39 (v := .int (i 18 9)) rfl dX0_add_60 ?_
    refine lv_bipush (pc := 63) (v := (-9)) C0.1 C0.2.1 dX0_add_63 (by decide) ?_
    refine xiast (pc := 65) (N := 601) C0 (Nat.le_of_ble_eq_true rfl) hH hS 23 ⟨Nat.le_of_ble_eq_true rfl, Nat.le_of_ble_eq_true rfl⟩ ⟨rfl, rfl⟩ (vI (by omega) (by omega)) dX0_add_65 (fun _ locs hH hS _ => ?_)
    have hH : Hd D tA b 0 78 zz i (va_up (va_up (va_up (va_up (va_up F 19 (upd (F 19) (Int32.toNatClampNeg (i 18 9)) x1_)) 20 (upd (F 20) (Int32.toNatClampNeg (i 18 9)) x2_)) 21 (upd (F 21) (Int32.toNatClampNeg (i 18 9)) x3_)) 22 (upd (F 22) (Int32.toNatClampNeg (i 18 9)) 0)) 23 (upd (F 23) (Int32.toNatClampNeg (i 18 9)) (-9))) G _ := hH
    refine lv_aload_n (pc := 66) C0.1 C0.2.1 dX0_add_66 rfl (lv_at hl 0 rfl) ?_
    refine xget (pc := 67) C0 hH 18 5 clX0 ⟨Nat.le_of_ble_eq_true rfl, Nat.le_of_ble_eq_true rfl⟩ ⟨rfl, rfl⟩ (Nat.le_of_ble_eq_true rfl) fl_X0_27 (v := .ref (b + 24)) rfl dX0_add_67 ?_
    refine lv_aload_n (pc := 70) C0.1 C0.2.1 dX0_add_70 rfl (lv_at hl 0 rfl) ?_
    refine xget (pc := 71) C0 hH 18 9 clX0 ⟨Nat.le_of_ble_eq_true rfl, Nat.le_of_ble_eq_true rfl⟩ ⟨rfl, rfl⟩ (Nat.le_of_ble_eq_true rfl) fl_X0_39 (v := .int (i 18 9)) rfl dX0_add_71 ?_
    refine lv_bipush (pc := 74) (v := (-9)) C0.1 C0.2.1 dX0_add_74 (by decide) ?_
    refine xiast (pc := 76) (N := 601) C0 (Nat.le_of_ble_eq_true rfl) hH hS 24 ⟨Nat.le_of_ble_eq_true rfl, Nat.le_of_ble_eq_true rfl⟩ ⟨rfl, rfl⟩ (vI (by omega) (by omega)) dX0_add_76 (fun _ locs hH hS _ => ?_)
    have hH : Hd D tA b 0 78 zz i (va_up (va_up (va_up (va_up (va_up (va_up F 19 (upd (F 19) (Int32.toNatClampNeg (i 18 9)) x1_)) 20 (upd (F 20) (Int32.toNatClampNeg (i 18 9)) x2_)) 21 (upd (F 21) (Int32.toNatClampNeg (i 18 9)) x3_)) 22 (upd (F 22) (Int32.toNatClampNeg (i 18 9)) 0)) 23 (upd (F 23) (Int32.toNatClampNeg (i 18 9)) (-9))) 24 (upd (F 24) (Int32.toNatClampNeg (i 18 9)) (-9))) G _ := hH
    refine lv_aload_n (pc := 77) C0.1 C0.2.1 dX0_add_77 rfl (lv_at hl 0 rfl) ?_
    refine xget (pc := 78) C0 hH 18 6 clX0 ⟨Nat.le_of_ble_eq_true rfl, Nat.le_of_ble_eq_true rfl⟩ ⟨rfl, rfl⟩ (Nat.le_of_ble_eq_true rfl) fl_X0_30 (v := .ref (b + 25)) rfl dX0_add_78 ?_
    refine lv_aload_n (pc := 81) C0.1 C0.2.1 dX0_add_81 rfl (lv_at hl 0 rfl) ?_
    refine xget (pc := 82) C0 hH 18 9 clX0 ⟨Nat.le_of_ble_eq_true rfl, Nat.le_of_ble_eq_true rfl⟩ ⟨rfl, rfl⟩ (Nat.le_of_ble_eq_true rfl) fl_X0_39 (v := .int (i 18 9)) rfl dX0_add_82 ?_
    refine lv_iload (pc := 85) C0.1 C0.2.1 dX0_add_85 (lv_at hl 4 rfl) ?_
    refine xiast (pc := 87) (N := 601) C0 (Nat.le_of_ble_eq_true rfl) hH hS 25 ⟨Nat.le_of_ble_eq_true rfl, Nat.le_of_ble_eq_true rfl⟩ ⟨rfl, rfl⟩ (vI (by omega) (by omega)) dX0_add_87 (fun _ locs hH hS _ => ?_)
    have hH : Hd D tA b 0 78 zz i (va_up (va_up (va_up (va_up (va_up (va_up (va_up F 19 (upd (F 19) (Int32.toNatClampNeg (i 18 9)) x1_)) 20 (upd (F 20) (Int32.toNatClampNeg (i 18 9)) x2_)) 21 (upd (F 21) (Int32.toNatClampNeg (i 18 9)) x3_)) 22 (upd (F 22) (Int32.toNatClampNeg (i 18 9)) 0)) 23 (upd (F 23) (Int32.toNatClampNeg (i 18 9)) (-9))) 24 (upd (F 24) (Int32.toNatClampNeg (i 18 9)) (-9))) 25 (upd (F 25) (Int32.toNatClampNeg (i 18 9)) x4_)) G _ := hH
    refine lv_aload_n (pc := 88) C0.1 C0.2.1 dX0_add_88 rfl (lv_at hl 0 rfl) ?_
    refine xget (pc := 89) C0 hH 18 7 clX0 ⟨Nat.le_of_ble_eq_true rfl, Nat.le_of_ble_eq_true rfl⟩ ⟨rfl, rfl⟩ (Nat.le_of_ble_eq_true rfl) fl_X0_33 (v := .ref (b + 26)) rfl dX0_add_89 ?_
    refine lv_aload_n (pc := 92) C0.1 C0.2.1 dX0_add_92 rfl (lv_at hl 0 rfl) ?_
    refine xget (pc := 93) C0 hH 18 9 clX0 ⟨Nat.le_of_ble_eq_true rfl, Nat.le_of_ble_eq_true rfl⟩ ⟨rfl, rfl⟩ (Nat.le_of_ble_eq_true rfl) fl_X0_39 (v := .int (i 18 9)) rfl dX0_add_93 ?_
    refine lv_iload (pc := 96) C0.1 C0.2.1 dX0_add_96 (lv_at hl 5 rfl) ?_
    refine xiast (pc := 98) (N := 601) C0 (Nat.le_of_ble_eq_true rfl) hH hS 26 ⟨Nat.le_of_ble_eq_true rfl, Nat.le_of_ble_eq_true rfl⟩ ⟨rfl, rfl⟩ (vI (by omega) (by omega)) dX0_add_98 (fun _ locs hH hS _ => ?_)
    have hH : Hd D tA b 0 78 zz i (va_up (va_up (va_up (va_up (va_up (va_up (va_up (va_up F 19 (upd (F 19) (Int32.toNatClampNeg (i 18 9)) x1_)) 20 (upd (F 20) (Int32.toNatClampNeg (i 18 9)) x2_)) 21 (upd (F 21) (Int32.toNatClampNeg (i 18 9)) x3_)) 22 (upd (F 22) (Int32.toNatClampNeg (i 18 9)) 0)) 23 (upd (F 23) (Int32.toNatClampNeg (i 18 9)) (-9))) 24 (upd (F 24) (Int32.toNatClampNeg (i 18 9)) (-9))) 25 (upd (F 25) (Int32.toNatClampNeg (i 18 9)) x4_)) 26 (upd (F 26) (Int32.toNatClampNeg (i 18 9)) x5_)) G _ := hH
    refine lv_aload_n (pc := 99) C0.1 C0.2.1 dX0_add_99 rfl (lv_at hl 0 rfl) ?_
    refine xget (pc := 100) C0 hH 18 8 clX0 ⟨Nat.le_of_ble_eq_true rfl, Nat.le_of_ble_eq_true rfl⟩ ⟨rfl, rfl⟩ (Nat.le_of_ble_eq_true rfl) fl_X0_36 (v := .ref (b + 27)) rfl dX0_add_100 ?_
    refine lv_aload_n (pc := 103) C0.1 C0.2.1 dX0_add_103 rfl (lv_at hl 0 rfl) ?_
    refine xget (pc := 104) C0 hH 18 9 clX0 ⟨Nat.le_of_ble_eq_true rfl, Nat.le_of_ble_eq_true rfl⟩ ⟨rfl, rfl⟩ (Nat.le_of_ble_eq_true rfl) fl_X0_39 (v := .int (i 18 9)) rfl dX0_add_104 ?_
    refine lv_bipush (pc := 107) (v := (-9)) C0.1 C0.2.1 dX0_add_107 (by decide) ?_
    refine xiast (pc := 109) (N := 601) C0 (Nat.le_of_ble_eq_true rfl) hH hS 27 ⟨Nat.le_of_ble_eq_true rfl, Nat.le_of_ble_eq_true rfl⟩ ⟨rfl, rfl⟩ (vI (by omega) (by omega)) dX0_add_109 (fun _ locs hH hS _ => ?_)
    have hH : Hd D tA b 0 78 zz i (va_up (va_up (va_up (va_up (va_up (va_up (va_up (va_up (va_up F 19 (upd (F 19) (Int32.toNatClampNeg (i 18 9)) x1_)) 20 (upd (F 20) (Int32.toNatClampNeg (i 18 9)) x2_)) 21 (upd (F 21) (Int32.toNatClampNeg (i 18 9)) x3_)) 22 (upd (F 22) (Int32.toNatClampNeg (i 18 9)) 0)) 23 (upd (F 23) (Int32.toNatClampNeg (i 18 9)) (-9))) 24 (upd (F 24) (Int32.toNatClampNeg (i 18 9)) (-9))) 25 (upd (F 25) (Int32.toNatClampNeg (i 18 9)) x4_)) 26 (upd (F 26) (Int32.toNatClampNeg (i 18 9)) x5_)) 27 (upd (F 27) (Int32.toNatClampNeg (i 18 9)) (-9))) G _ := hH
    refine lv_aload_n (pc := 110) C0.1 C0.2.1 dX0_add_110 rfl (lv_at hl 0 rfl) ?_
    refine lv_dup (pc := 111) C0.1 C0.2.1 dX0_add_111 rfl ?_
    refine xget (pc := 112) C0 hH 18 9 clX0 ⟨Nat.le_of_ble_eq_true rfl, Nat.le_of_ble_eq_true rfl⟩ ⟨rfl, rfl⟩ (Nat.le_of_ble_eq_true rfl) fl_X0_39 (v := .int (i 18 9)) rfl dX0_add_112 ?_
    refine lv_iconst (pc := 115) (v := 1) C0.1 C0.2.1 dX0_add_115 (by decide) ?_
    have : Int32.toInt 1 = 1 := rfl
    refine lv_iadd (pc := 116) C0.1 C0.2.1 dX0_add_116 ?_
    refine lv_topi (fun x2 ex2 => ?_)
    have hx2 : Int32.toInt x2 = Int32.toInt (i 18 9) + Int32.toInt 1 := by rw [ex2]; exact fb_addI (by omega) (by omega)
    refine xputI (pc := 117) C0 (Nat.le_of_ble_eq_true rfl) hH hS 18 9 clX0 ⟨Nat.le_of_ble_eq_true rfl, Nat.le_of_ble_eq_true rfl⟩ ⟨rfl, rfl⟩ ⟨Nat.le_of_ble_eq_true rfl, rfl, rfl⟩ fl_X0_39 (x := x2) ⟨rfl, rfl⟩ dX0_add_117 (fun _ locs hH hS _ => ?_)
    have hH : Hd D tA b 0 78 zz (up2 i 18 9 x2) (va_up (va_up (va_up (va_up (va_up (va_up (va_up (va_up (va_up F 19 (upd (F 19) (Int32.toNatClampNeg (i 18 9)) x1_)) 20 (upd (F 20) (Int32.toNatClampNeg (i 18 9)) x2_)) 21 (upd (F 21) (Int32.toNatClampNeg (i 18 9)) x3_)) 22 (upd (F 22) (Int32.toNatClampNeg (i 18 9)) 0)) 23 (upd (F 23) (Int32.toNatClampNeg (i 18 9)) (-9))) 24 (upd (F 24) (Int32.toNatClampNeg (i 18 9)) (-9))) 25 (upd (F 25) (Int32.toNatClampNeg (i 18 9)) x4_)) 26 (upd (F 26) (Int32.toNatClampNeg (i 18 9)) x5_)) 27 (upd (F 27) (Int32.toNatClampNeg (i 18 9)) (-9))) G _ := hH
    refine lv_aload_n (pc := 120) C0.1 C0.2.1 dX0_add_120 rfl (lv_at hl 0 rfl) ?_
    refine xget (pc := 121) C0 hH 18 9 clX0 ⟨Nat.le_of_ble_eq_true rfl, Nat.le_of_ble_eq_true rfl⟩ ⟨rfl, rfl⟩ (Nat.le_of_ble_eq_true rfl) fl_X0_39 (v := .int x2) rfl dX0_add_121 ?_
    refine lv_iconst (pc := 124) (v := 1) C0.1 C0.2.1 dX0_add_124 (by decide) ?_
    have : Int32.toInt 1 = 1 := rfl
    refine lv_isub (pc := 125) C0.1 C0.2.1 dX0_add_125 ?_
    refine lv_topi (fun x3 ex3 => ?_)
    have hx3 : Int32.toInt x3 = Int32.toInt x2 - Int32.toInt 1 := by rw [ex3]; exact fb_subI (by omega) (by omega)
    exact xiret (pc := 126) C0 hr hH hS dX0_add_126 ⟨(On.f (On.f (On.f (On.f (On.f (On.f (On.f (On.f (On.f (On.i On.rf (by decide)) (by decide)) (by decide)) (by decide)) (by decide)) (by decide)) (by decide)) (by decide)) (by decide)) (by decide)), ⟨by show 1 ≤ Int32.toInt x2; omega, by show Int32.toInt x2 ≤ 601; omega⟩, by show upd (F 19) (Int32.toNatClampNeg (i 18 9)) x1_ 0 = F 19 0; exact upd0 (by omega), Or.inr ⟨by omega, by omega⟩⟩
  · have c1 : ¬ _ := fun q => c1 (Int32.lt_iff_toInt_lt.mpr q)
    refine lv_bipush (pc := 12) (v := (-9)) C0.1 C0.2.1 dX0_add_12 (by decide) ?_
    exact xiret (pc := 14) C0 hr hH hS dX0_add_14 ⟨On.rf, hb, rfl, Or.inl rfl⟩
set_option maxHeartbeats 4000000 in
set_option maxRecDepth 100000 in
theorem g_X2_add_17 (l : Launch) (D : va_G) (tA : Nat → ClassId) (b : Nat) (i F : Nat → Nat → Int32) (G : Nat → Nat → Int64) (x y : Int32) (hi : 0 ≤ (i 28 5).toInt ∧ (i 28 5).toInt ≤ 1200) (how : inR (F 29) 0 601) (hx : 0 ≤ x.toInt ∧ x.toInt < 601) : xMI l yX2_add cX2_add 3 (some .int) 0 0 D tA b 0 78 i F G [.ref (b + 28), .int x, .int y] (fun r u => On 28 34 i F G u ∧ (0 ≤ (u.1 28 5).toInt ∧ (u.1 28 5).toInt ≤ 1200) ∧ u.1 28 8 = i 28 8 ∧ inR (u.2.1 29) 0 601) := by
  refine xstart RX2 rfl (by decide) (Nat.le_of_ble_eq_true rfl) ?_
  intro p e s m below meth c ls C0 hr hH hS hl
  have hl : lv_has ls 3 [(0, .ref (b + 28)), (1, .int x), (2, .int y)] := hl
  have rg_x := fb_rng x
  have rg_y := fb_rng y
  have h12 : Int32.toInt (nI 1200) = 1200 := rfl
  refine lv_aload_n (pc := 0) C0.1 C0.2.1 dX2_add_0 rfl (lv_at hl 0 rfl) ?_
  refine xget (pc := 1) C0 hH 28 5 clX2 ⟨Nat.le_of_ble_eq_true rfl, Nat.le_of_ble_eq_true rfl⟩ ⟨rfl, rfl⟩ (Nat.le_of_ble_eq_true rfl) fl_X2_33 (v := .int (i 28 5)) rfl dX2_add_1 ?_
  refine lv_aload_n (pc := 4) C0.1 C0.2.1 dX2_add_4 rfl (lv_at hl 0 rfl) ?_
  refine xget (pc := 5) C0 hH 28 0 clX2 ⟨Nat.le_of_ble_eq_true rfl, Nat.le_of_ble_eq_true rfl⟩ ⟨rfl, rfl⟩ (Nat.le_of_ble_eq_true rfl) fl_X2_9 (v := .ref (b + 29)) rfl dX2_add_5 ?_
  refine xalen (pc := 8) (N := 1200) (t := 50) C0 hH 29 ⟨Nat.le_of_ble_eq_true rfl, Nat.le_of_ble_eq_true rfl⟩ ⟨rfl, rfl⟩ (by decide) dX2_add_8 ?_
  refine lv_icmp_lt (pc := 9) (tgt := 15) C0.1 C0.2.1 dX2_add_9 (by decide) (fun c1 => ?_) (fun c1 => ?_)
  · have c1 := Int32.lt_iff_toInt_lt.mp c1
    refine lv_aload_n (pc := 15) C0.1 C0.2.1 dX2_add_15 rfl (lv_at hl 0 rfl) ?_
    refine xget (pc := 16) C0 hH 28 0 clX2 ⟨Nat.le_of_ble_eq_true rfl, Nat.le_of_ble_eq_true rfl⟩ ⟨rfl, rfl⟩ (Nat.le_of_ble_eq_true rfl) fl_X2_9 (v := .ref (b + 29)) rfl dX2_add_16 ?_
    refine lv_aload_n (pc := 19) C0.1 C0.2.1 dX2_add_19 rfl (lv_at hl 0 rfl) ?_
    refine xget (pc := 20) C0 hH 28 5 clX2 ⟨Nat.le_of_ble_eq_true rfl, Nat.le_of_ble_eq_true rfl⟩ ⟨rfl, rfl⟩ (Nat.le_of_ble_eq_true rfl) fl_X2_33 (v := .int (i 28 5)) rfl dX2_add_20 ?_
    refine lv_iload_n (pc := 23) C0.1 C0.2.1 dX2_add_23 rfl (lv_at hl 1 rfl) ?_
    refine xiast (pc := 24) (N := 1200) C0 (Nat.le_of_ble_eq_true rfl) hH hS 29 ⟨Nat.le_of_ble_eq_true rfl, Nat.le_of_ble_eq_true rfl⟩ ⟨rfl, rfl⟩ (vI (by omega) (by omega)) dX2_add_24 (fun _ locs hH hS _ => ?_)
    have hH : Hd D tA b 0 78 zz i (va_up F 29 (upd (F 29) (Int32.toNatClampNeg (i 28 5)) x)) G _ := hH
    refine lv_aload_n (pc := 25) C0.1 C0.2.1 dX2_add_25 rfl (lv_at hl 0 rfl) ?_
    refine xget (pc := 26) C0 hH 28 1 clX2 ⟨Nat.le_of_ble_eq_true rfl, Nat.le_of_ble_eq_true rfl⟩ ⟨rfl, rfl⟩ (Nat.le_of_ble_eq_true rfl) fl_X2_15 (v := .ref (b + 30)) rfl dX2_add_26 ?_
    refine lv_aload_n (pc := 29) C0.1 C0.2.1 dX2_add_29 rfl (lv_at hl 0 rfl) ?_
    refine xget (pc := 30) C0 hH 28 5 clX2 ⟨Nat.le_of_ble_eq_true rfl, Nat.le_of_ble_eq_true rfl⟩ ⟨rfl, rfl⟩ (Nat.le_of_ble_eq_true rfl) fl_X2_33 (v := .int (i 28 5)) rfl dX2_add_30 ?_
    refine lv_iload_n (pc := 33) C0.1 C0.2.1 dX2_add_33 rfl (lv_at hl 2 rfl) ?_
    refine xiast (pc := 34) (N := 1200) C0 (Nat.le_of_ble_eq_true rfl) hH hS 30 ⟨Nat.le_of_ble_eq_true rfl, Nat.le_of_ble_eq_true rfl⟩ ⟨rfl, rfl⟩ (vI (by omega) (by omega)) dX2_add_34 (fun _ locs hH hS _ => ?_)
    have hH : Hd D tA b 0 78 zz i (va_up (va_up F 29 (upd (F 29) (Int32.toNatClampNeg (i 28 5)) x)) 30 (upd (F 30) (Int32.toNatClampNeg (i 28 5)) y)) G _ := hH
    refine lv_aload_n (pc := 35) C0.1 C0.2.1 dX2_add_35 rfl (lv_at hl 0 rfl) ?_
    refine xget (pc := 36) C0 hH 28 2 clX2 ⟨Nat.le_of_ble_eq_true rfl, Nat.le_of_ble_eq_true rfl⟩ ⟨rfl, rfl⟩ (Nat.le_of_ble_eq_true rfl) fl_X2_18 (v := .ref (b + 31)) rfl dX2_add_36 ?_
    refine lv_aload_n (pc := 39) C0.1 C0.2.1 dX2_add_39 rfl (lv_at hl 0 rfl) ?_
    refine xget (pc := 40) C0 hH 28 5 clX2 ⟨Nat.le_of_ble_eq_true rfl, Nat.le_of_ble_eq_true rfl⟩ ⟨rfl, rfl⟩ (Nat.le_of_ble_eq_true rfl) fl_X2_33 (v := .int (i 28 5)) rfl dX2_add_40 ?_
    refine lv_bipush (pc := 43) (v := (-9)) C0.1 C0.2.1 dX2_add_43 (by decide) ?_
    refine xiast (pc := 45) (N := 1200) C0 (Nat.le_of_ble_eq_true rfl) hH hS 31 ⟨Nat.le_of_ble_eq_true rfl, Nat.le_of_ble_eq_true rfl⟩ ⟨rfl, rfl⟩ (vI (by omega) (by omega)) dX2_add_45 (fun _ locs hH hS _ => ?_)
    have hH : Hd D tA b 0 78 zz i (va_up (va_up (va_up F 29 (upd (F 29) (Int32.toNatClampNeg (i 28 5)) x)) 30 (upd (F 30) (Int32.toNatClampNeg (i 28 5)) y)) 31 (upd (F 31) (Int32.toNatClampNeg (i 28 5)) (-9))) G _ := hH
    refine lv_aload_n (pc := 46) C0.1 C0.2.1 dX2_add_46 rfl (lv_at hl 0 rfl) ?_
    refine xget (pc := 47) C0 hH 28 3 clX2 ⟨Nat.le_of_ble_eq_true rfl, Nat.le_of_ble_eq_true rfl⟩ ⟨rfl, rfl⟩ (Nat.le_of_ble_eq_true rfl) fl_X2_21 (v := .ref (b + 32)) rfl dX2_add_47 ?_
    refine lv_aload_n (pc := 50) C0.1 C0.2.1 dX2_add_50 rfl (lv_at hl 0 rfl) ?_
    refine xget (pc := 51) C0 hH 28 5 clX2 ⟨Nat.le_of_ble_eq_true rfl, Nat.le_of_ble_eq_true rfl⟩ ⟨rfl, rfl⟩ (Nat.le_of_ble_eq_true rfl) fl_X2_33 (v := .int (i 28 5)) rfl dX2_add_51 ?_
    refine lv_bipush (pc := 54) (v := (-9)) C0.1 C0.2.1 dX2_add_54 (by decide) ?_
    refine xiast (pc := 56) (N := 1200) C0 (Nat.le_of_ble_eq_true rfl) hH hS 32 ⟨Nat.le_of_ble_eq_true rfl, Nat.le_of_ble_eq_true rfl⟩ ⟨rfl, rfl⟩ (vI (by omega) (by omega)) dX2_add_56 (fun _ locs hH hS _ => ?_)
    have hH : Hd D tA b 0 78 zz i (va_up (va_up (va_up (va_up F 29 (upd (F 29) (Int32.toNatClampNeg (i 28 5)) x)) 30 (upd (F 30) (Int32.toNatClampNeg (i 28 5)) y)) 31 (upd (F 31) (Int32.toNatClampNeg (i 28 5)) (-9))) 32 (upd (F 32) (Int32.toNatClampNeg (i 28 5)) (-9))) G _ := hH
    refine lv_aload_n (pc := 57) C0.1 C0.2.1 dX2_add_57 rfl (lv_at hl 0 rfl) ?_
    refine xget (pc := 58) C0 hH 28 4 clX2 ⟨Nat.le_of_ble_eq_true rfl, Nat.le_of_ble_eq_true rfl⟩ ⟨rfl, rfl⟩ (Nat.le_of_ble_eq_true rfl) fl_X2_24 (v := .ref (b + 33)) rfl dX2_add_58 ?_
    refine lv_aload_n (pc := 61) C0.1 C0.2.1 dX2_add_61 rfl (lv_at hl 0 rfl) ?_
    refine xget (pc := 62) C0 hH 28 5 clX2 ⟨Nat.le_of_ble_eq_true rfl, Nat.le_of_ble_eq_true rfl⟩ ⟨rfl, rfl⟩ (Nat.le_of_ble_eq_true rfl) fl_X2_33 (v := .int (i 28 5)) rfl dX2_add_62 ?_
    refine lv_iconst (pc := 65) (v := 0) C0.1 C0.2.1 dX2_add_65 (by decide) ?_
    refine xiast (pc := 66) (N := 1200) C0 (Nat.le_of_ble_eq_true rfl) hH hS 33 ⟨Nat.le_of_ble_eq_true rfl, Nat.le_of_ble_eq_true rfl⟩ ⟨rfl, rfl⟩ (vI (by omega) (by omega)) dX2_add_66 (fun _ locs hH hS _ => ?_)
    have hH : Hd D tA b 0 78 zz i (va_up (va_up (va_up (va_up (va_up F 29 (upd (F 29) (Int32.toNatClampNeg (i 28 5)) x)) 30 (upd (F 30) (Int32.toNatClampNeg (i 28 5)) y)) 31 (upd (F 31) (Int32.toNatClampNeg (i 28 5)) (-9))) 32 (upd (F 32) (Int32.toNatClampNeg (i 28 5)) (-9))) 33 (upd (F 33) (Int32.toNatClampNeg (i 28 5)) 0)) G _ := hH
    refine lv_aload_n (pc := 67) C0.1 C0.2.1 dX2_add_67 rfl (lv_at hl 0 rfl) ?_
    refine lv_dup (pc := 68) C0.1 C0.2.1 dX2_add_68 rfl ?_
    refine xget (pc := 69) C0 hH 28 5 clX2 ⟨Nat.le_of_ble_eq_true rfl, Nat.le_of_ble_eq_true rfl⟩ ⟨rfl, rfl⟩ (Nat.le_of_ble_eq_true rfl) fl_X2_33 (v := .int (i 28 5)) rfl dX2_add_69 ?_
    refine lv_iconst (pc := 72) (v := 1) C0.1 C0.2.1 dX2_add_72 (by decide) ?_
    have : Int32.toInt 1 = 1 := rfl
    refine lv_iadd (pc := 73) C0.1 C0.2.1 dX2_add_73 ?_
    refine lv_topi (fun x2 ex2 => ?_)
    have hx2 : Int32.toInt x2 = Int32.toInt (i 28 5) + Int32.toInt 1 := by rw [ex2]; exact fb_addI (by omega) (by omega)
    refine xputI (pc := 74) C0 (Nat.le_of_ble_eq_true rfl) hH hS 28 5 clX2 ⟨Nat.le_of_ble_eq_true rfl, Nat.le_of_ble_eq_true rfl⟩ ⟨rfl, rfl⟩ ⟨Nat.le_of_ble_eq_true rfl, rfl, rfl⟩ fl_X2_33 (x := x2) ⟨rfl, rfl⟩ dX2_add_74 (fun _ locs hH hS _ => ?_)
    have hH : Hd D tA b 0 78 zz (up2 i 28 5 x2) (va_up (va_up (va_up (va_up (va_up F 29 (upd (F 29) (Int32.toNatClampNeg (i 28 5)) x)) 30 (upd (F 30) (Int32.toNatClampNeg (i 28 5)) y)) 31 (upd (F 31) (Int32.toNatClampNeg (i 28 5)) (-9))) 32 (upd (F 32) (Int32.toNatClampNeg (i 28 5)) (-9))) 33 (upd (F 33) (Int32.toNatClampNeg (i 28 5)) 0)) G _ := hH
    refine lv_aload_n (pc := 77) C0.1 C0.2.1 dX2_add_77 rfl (lv_at hl 0 rfl) ?_
    refine xget (pc := 78) C0 hH 28 5 clX2 ⟨Nat.le_of_ble_eq_true rfl, Nat.le_of_ble_eq_true rfl⟩ ⟨rfl, rfl⟩ (Nat.le_of_ble_eq_true rfl) fl_X2_33 (v := .int x2) rfl dX2_add_78 ?_
    refine lv_iconst (pc := 81) (v := 1) C0.1 C0.2.1 dX2_add_81 (by decide) ?_
    have : Int32.toInt 1 = 1 := rfl
    refine lv_isub (pc := 82) C0.1 C0.2.1 dX2_add_82 ?_
    refine lv_topi (fun x3 ex3 => ?_)
    have hx3 : Int32.toInt x3 = Int32.toInt x2 - Int32.toInt 1 := by rw [ex3]; exact fb_subI (by omega) (by omega)
    exact xiret (pc := 83) C0 hr hH hS dX2_add_83 ⟨(On.f (On.f (On.f (On.f (On.f (On.i On.rf (by decide)) (by decide)) (by decide)) (by decide)) (by decide)) (by decide)), ⟨by show 0 ≤ Int32.toInt x2; omega, by show Int32.toInt x2 ≤ 1200; omega⟩, rfl, by show inR (upd (F 29) (Int32.toNatClampNeg (i 28 5)) x) 0 601; exact inR.up how (by omega) (by omega)⟩
  · have c1 : ¬ _ := fun q => c1 (Int32.lt_iff_toInt_lt.mpr q)
    refine lv_bipush (pc := 12) (v := (-9)) C0.1 C0.2.1 dX2_add_12 (by decide) ?_
    exact xiret (pc := 14) C0 hr hH hS dX2_add_14 ⟨On.rf, hi, rfl, how⟩
set_option maxHeartbeats 4000000 in
set_option maxRecDepth 100000 in
theorem g_X2_hang_17 (l : Launch) (D : va_G) (tA : Nat → ClassId) (b : Nat) (i F : Nat → Nat → Int32) (G : Nat → Nat → Int64) (x y : Int32) (hi : 0 ≤ (i 28 5).toInt ∧ (i 28 5).toInt ≤ 1200) (hpt : 0 ≤ (i 28 8).toInt ∧ (i 28 8).toInt ≤ 1201) (hpi : inR (F 34) 0 1200) (hpv : inR (F 35) (-2147483648) 600) (hy : y.toInt < 600) : xMV l yX2_hang cX2_hang 3 none 1 21 D tA b 0 78 i F G [.ref (b + 28), .int x, .int y] (fun u => On 28 36 i F G u ∧ u.1 28 5 = i 28 5 ∧ (0 ≤ (u.1 28 8).toInt ∧ (u.1 28 8).toInt ≤ 1201) ∧ u.2.1 29 = F 29 ∧ inR (u.2.1 34) 0 1200 ∧ inR (u.2.1 35) (-2147483648) 600 ∧ ∀ p : Nat, (p : Int) < (u.1 28 8).toInt → ((p : Int) < (i 28 8).toInt ∧ u.2.1 35 p = F 35 p) ∨ (u.2.1 35 p = y ∧ 0 ≤ x.toInt ∧ x.toInt < 1200)) := by
  refine xstart RX2 rfl (by decide) (Nat.le_of_ble_eq_true rfl) ?_
  intro p e s m below meth c ls C0 hr hH hS hl
  have hl : lv_has ls 3 [(0, .ref (b + 28)), (1, .int x), (2, .int y)] := hl
  have rg_x := fb_rng x
  have rg_y := fb_rng y
  have h12 : Int32.toInt (nI 1201) = 1201 := rfl
  refine lv_aload_n (pc := 0) C0.1 C0.2.1 dX2_hang_0 rfl (lv_at hl 0 rfl) ?_
  refine lv_iload_n (pc := 1) C0.1 C0.2.1 dX2_hang_1 rfl (lv_at hl 1 rfl) ?_
  refine xcVI (pc := 2) 28 [.int x] (g_X2_has_28 l D tA b i F G x ) C0 hH hS clX2 rfl ⟨⟨Nat.le_of_ble_eq_true rfl, Nat.le_of_ble_eq_true rfl⟩, rfl, rfl⟩ cw_X2_37 rfl ⟨Nat.le_of_ble_eq_true rfl, Nat.le_of_ble_eq_true rfl⟩ hl.1 rfl (Nat.le_of_ble_eq_true rfl) dX2_hang_2 ⟨Nat.le_of_ble_eq_true rfl, Nat.le_of_ble_eq_true rfl⟩ (fun r1 ir1 Fr1 Gr1 _ locs hp hH hS => ?_)
  obtain ⟨hu, hpr1⟩ := hp
  cases hu
  refine lv_if_eq (pc := 5) (tgt := 20) C0.1 C0.2.1 dX2_hang_5 (by decide) (fun c2 => ?_) (fun c2 => ?_)
  · have : Int32.toInt 0 = 0 := rfl
    have c2 := congrArg Int32.toInt c2
    exact xvret (pc := 20) C0 hr hH hS dX2_hang_20 ⟨On.rf, rfl, hpt, rfl, hpi, hpv, fun p hp => Or.inl ⟨hp, rfl⟩⟩
  · have : Int32.toInt 0 = 0 := rfl
    have c2 : ¬ _ := fun q => c2 (Int32.toInt_inj.mp q)
    refine lv_aload_n (pc := 8) C0.1 C0.2.1 dX2_hang_8 rfl (lv_at hl 0 rfl) ?_
    refine xget (pc := 9) C0 hH 28 8 clX2 ⟨Nat.le_of_ble_eq_true rfl, Nat.le_of_ble_eq_true rfl⟩ ⟨rfl, rfl⟩ (Nat.le_of_ble_eq_true rfl) fl_X2_41 (v := .int (i 28 8)) rfl dX2_hang_9 ?_
    refine lv_aload_n (pc := 12) C0.1 C0.2.1 dX2_hang_12 rfl (lv_at hl 0 rfl) ?_
    refine xget (pc := 13) C0 hH 28 6 clX2 ⟨Nat.le_of_ble_eq_true rfl, Nat.le_of_ble_eq_true rfl⟩ ⟨rfl, rfl⟩ (Nat.le_of_ble_eq_true rfl) fl_X2_27 (v := .ref (b + 34)) rfl dX2_hang_13 ?_
    refine xalen (pc := 16) (N := 1201) (t := 50) C0 hH 34 ⟨Nat.le_of_ble_eq_true rfl, Nat.le_of_ble_eq_true rfl⟩ ⟨rfl, rfl⟩ (by decide) dX2_hang_16 ?_
    refine lv_icmp_lt (pc := 17) (tgt := 21) C0.1 C0.2.1 dX2_hang_17 (by decide) (fun c3 => ?_) (fun c3 => ?_)
    · have c3 := Int32.lt_iff_toInt_lt.mp c3
      refine lv_aload_n (pc := 21) C0.1 C0.2.1 dX2_hang_21 rfl (lv_at hl 0 rfl) ?_
      refine xget (pc := 22) C0 hH 28 6 clX2 ⟨Nat.le_of_ble_eq_true rfl, Nat.le_of_ble_eq_true rfl⟩ ⟨rfl, rfl⟩ (Nat.le_of_ble_eq_true rfl) fl_X2_27 (v := .ref (b + 34)) rfl dX2_hang_22 ?_
      refine lv_aload_n (pc := 25) C0.1 C0.2.1 dX2_hang_25 rfl (lv_at hl 0 rfl) ?_
      refine xget (pc := 26) C0 hH 28 8 clX2 ⟨Nat.le_of_ble_eq_true rfl, Nat.le_of_ble_eq_true rfl⟩ ⟨rfl, rfl⟩ (Nat.le_of_ble_eq_true rfl) fl_X2_41 (v := .int (i 28 8)) rfl dX2_hang_26 ?_
      refine lv_iload_n (pc := 29) C0.1 C0.2.1 dX2_hang_29 rfl (lv_at hl 1 rfl) ?_
      refine xiast (pc := 30) (N := 1201) C0 (Nat.le_of_ble_eq_true rfl) hH hS 34 ⟨Nat.le_of_ble_eq_true rfl, Nat.le_of_ble_eq_true rfl⟩ ⟨rfl, rfl⟩ (vI (by omega) (by omega)) dX2_hang_30 (fun _ locs hH hS _ => ?_)
      have hH : Hd D tA b 0 78 zz i (va_up F 34 (upd (F 34) (Int32.toNatClampNeg (i 28 8)) x)) G _ := hH
      refine lv_aload_n (pc := 31) C0.1 C0.2.1 dX2_hang_31 rfl (lv_at hl 0 rfl) ?_
      refine xget (pc := 32) C0 hH 28 7 clX2 ⟨Nat.le_of_ble_eq_true rfl, Nat.le_of_ble_eq_true rfl⟩ ⟨rfl, rfl⟩ (Nat.le_of_ble_eq_true rfl) fl_X2_30 (v := .ref (b + 35)) rfl dX2_hang_32 ?_
      refine lv_aload_n (pc := 35) C0.1 C0.2.1 dX2_hang_35 rfl (lv_at hl 0 rfl) ?_
      refine xget (pc := 36) C0 hH 28 8 clX2 ⟨Nat.le_of_ble_eq_true rfl, Nat.le_of_ble_eq_true rfl⟩ ⟨rfl, rfl⟩ (Nat.le_of_ble_eq_true rfl) fl_X2_41 (v := .int (i 28 8)) rfl dX2_hang_36 ?_
      refine lv_iload_n (pc := 39) C0.1 C0.2.1 dX2_hang_39 rfl (lv_at hl 2 rfl) ?_
      refine xiast (pc := 40) (N := 1201) C0 (Nat.le_of_ble_eq_true rfl) hH hS 35 ⟨Nat.le_of_ble_eq_true rfl, Nat.le_of_ble_eq_true rfl⟩ ⟨rfl, rfl⟩ (vI (by omega) (by omega)) dX2_hang_40 (fun _ locs hH hS _ => ?_)
      have hH : Hd D tA b 0 78 zz i (va_up (va_up F 34 (upd (F 34) (Int32.toNatClampNeg (i 28 8)) x)) 35 (upd (F 35) (Int32.toNatClampNeg (i 28 8)) y)) G _ := hH
      refine lv_aload_n (pc := 41) C0.1 C0.2.1 dX2_hang_41 rfl (lv_at hl 0 rfl) ?_
      refine lv_dup (pc := 42) C0.1 C0.2.1 dX2_hang_42 rfl ?_
      refine xget (pc := 43) C0 hH 28 8 clX2 ⟨Nat.le_of_ble_eq_true rfl, Nat.le_of_ble_eq_true rfl⟩ ⟨rfl, rfl⟩ (Nat.le_of_ble_eq_true rfl) fl_X2_41 (v := .int (i 28 8)) rfl dX2_hang_43 ?_
      refine lv_iconst (pc := 46) (v := 1) C0.1 C0.2.1 dX2_hang_46 (by decide) ?_
      have : Int32.toInt 1 = 1 := rfl
      refine lv_iadd (pc := 47) C0.1 C0.2.1 dX2_hang_47 ?_
      refine lv_topi (fun x4 ex4 => ?_)
      have hx4 : Int32.toInt x4 = Int32.toInt (i 28 8) + Int32.toInt 1 := by rw [ex4]; exact fb_addI (by omega) (by omega)
      refine xputI (pc := 48) C0 (Nat.le_of_ble_eq_true rfl) hH hS 28 8 clX2 ⟨Nat.le_of_ble_eq_true rfl, Nat.le_of_ble_eq_true rfl⟩ ⟨rfl, rfl⟩ ⟨Nat.le_of_ble_eq_true rfl, rfl, rfl⟩ fl_X2_41 (x := x4) ⟨rfl, rfl⟩ dX2_hang_48 (fun _ locs hH hS _ => ?_)
      have hH : Hd D tA b 0 78 zz (up2 i 28 8 x4) (va_up (va_up F 34 (upd (F 34) (Int32.toNatClampNeg (i 28 8)) x)) 35 (upd (F 35) (Int32.toNatClampNeg (i 28 8)) y)) G _ := hH
      refine lv_aload_n (pc := 51) C0.1 C0.2.1 dX2_hang_51 rfl (lv_at hl 0 rfl) ?_
      refine xget (pc := 52) C0 hH 28 4 clX2 ⟨Nat.le_of_ble_eq_true rfl, Nat.le_of_ble_eq_true rfl⟩ ⟨rfl, rfl⟩ (Nat.le_of_ble_eq_true rfl) fl_X2_24 (v := .ref (b + 33)) rfl dX2_hang_52 ?_
      refine lv_iload_n (pc := 55) C0.1 C0.2.1 dX2_hang_55 rfl (lv_at hl 1 rfl) ?_
      refine lv_dup2_11 (pc := 56) C0.1 C0.2.1 dX2_hang_56 rfl rfl ?_
      refine xiald (pc := 57) (N := 1200) C0 hH 33 ⟨Nat.le_of_ble_eq_true rfl, Nat.le_of_ble_eq_true rfl⟩ ⟨rfl, rfl⟩ (vI (by omega) (by omega)) dX2_hang_57 ?_
      refine lv_iconst (pc := 58) (v := 1) C0.1 C0.2.1 dX2_hang_58 (by decide) ?_
      refine lv_iadd (pc := 59) C0.1 C0.2.1 dX2_hang_59 ?_
      refine xiast (pc := 60) (N := 1200) C0 (Nat.le_of_ble_eq_true rfl) hH hS 33 ⟨Nat.le_of_ble_eq_true rfl, Nat.le_of_ble_eq_true rfl⟩ ⟨rfl, rfl⟩ (vI (by omega) (by omega)) dX2_hang_60 (fun _ locs hH hS _ => ?_)
      have hH : Hd D tA b 0 78 zz (up2 i 28 8 x4) (va_up (va_up (va_up F 34 (upd (F 34) (Int32.toNatClampNeg (i 28 8)) x)) 35 (upd (F 35) (Int32.toNatClampNeg (i 28 8)) y)) 33 (upd (F 33) (Int32.toNatClampNeg x) ((F 33 (Int32.toNatClampNeg x)) + 1))) G _ := hH
      refine lv_iload_n (pc := 61) C0.1 C0.2.1 dX2_hang_61 rfl (lv_at hl 2 rfl) ?_
      refine lv_if_lt (pc := 62) (tgt := 99) C0.1 C0.2.1 dX2_hang_62 (by decide) (fun c5 => ?_) (fun c5 => ?_)
      · have : Int32.toInt 0 = 0 := rfl
        have c5 := Int32.lt_iff_toInt_lt.mp c5
        have hPI : inR (upd (F 34) (Int32.toNatClampNeg (i 28 8)) x) 0 1200 := inR.up hpi (by omega) (by omega)
        have hPV : inR (upd (F 35) (Int32.toNatClampNeg (i 28 8)) y) (-2147483648) 600 := inR.up hpv (by omega) (by omega)
        have hPP : ∀ p : Nat, (p : Int) < Int32.toInt x4 → ((p : Int) < (i 28 8).toInt ∧ upd (F 35) (Int32.toNatClampNeg (i 28 8)) y p = F 35 p) ∨ (upd (F 35) (Int32.toNatClampNeg (i 28 8)) y p = y ∧ 0 ≤ x.toInt ∧ x.toInt < 1200) := by
          intro p hp
          have hc := clI (x := i 28 8) (by omega)
          by_cases q : p = (i 28 8).toNatClampNeg
          · exact Or.inr ⟨by rw [q]; exact upd_s, by omega, by omega⟩
          · exact Or.inl ⟨by omega, upd_n q⟩
        exact xvret (pc := 99) C0 hr hH hS dX2_hang_99 ⟨(On.f (On.f (On.f (On.i On.rf (by decide)) (by decide)) (by decide)) (by decide)), rfl, ⟨by show 0 ≤ Int32.toInt x4; omega, by show Int32.toInt x4 ≤ 1201; omega⟩, rfl, hPI, hPV, hPP⟩
      · have : Int32.toInt 0 = 0 := rfl
        have c5 : ¬ _ := fun q => c5 (Int32.lt_iff_toInt_lt.mpr q)
        refine lv_aload_n (pc := 65) C0.1 C0.2.1 dX2_hang_65 rfl (lv_at hl 0 rfl) ?_
        refine xget (pc := 66) C0 hH 28 3 clX2 ⟨Nat.le_of_ble_eq_true rfl, Nat.le_of_ble_eq_true rfl⟩ ⟨rfl, rfl⟩ (Nat.le_of_ble_eq_true rfl) fl_X2_21 (v := .ref (b + 32)) rfl dX2_hang_66 ?_
        refine lv_iload_n (pc := 69) C0.1 C0.2.1 dX2_hang_69 rfl (lv_at hl 1 rfl) ?_
        refine lv_iload_n (pc := 70) C0.1 C0.2.1 dX2_hang_70 rfl (lv_at hl 2 rfl) ?_
        refine xiast (pc := 71) (N := 1200) C0 (Nat.le_of_ble_eq_true rfl) hH hS 32 ⟨Nat.le_of_ble_eq_true rfl, Nat.le_of_ble_eq_true rfl⟩ ⟨rfl, rfl⟩ (vI (by omega) (by omega)) dX2_hang_71 (fun _ locs hH hS _ => ?_)
        have hH : Hd D tA b 0 78 zz (up2 i 28 8 x4) (va_up (va_up (va_up (va_up F 34 (upd (F 34) (Int32.toNatClampNeg (i 28 8)) x)) 35 (upd (F 35) (Int32.toNatClampNeg (i 28 8)) y)) 33 (upd (F 33) (Int32.toNatClampNeg x) ((F 33 (Int32.toNatClampNeg x)) + 1))) 32 (upd (F 32) (Int32.toNatClampNeg x) y)) G _ := hH
        refine lv_aload_n (pc := 72) C0.1 C0.2.1 dX2_hang_72 rfl (lv_at hl 0 rfl) ?_
        refine xget (pc := 73) C0 hH 28 2 clX2 ⟨Nat.le_of_ble_eq_true rfl, Nat.le_of_ble_eq_true rfl⟩ ⟨rfl, rfl⟩ (Nat.le_of_ble_eq_true rfl) fl_X2_18 (v := .ref (b + 31)) rfl dX2_hang_73 ?_
        refine lv_iload_n (pc := 76) C0.1 C0.2.1 dX2_hang_76 rfl (lv_at hl 1 rfl) ?_
        refine lv_aload_n (pc := 77) C0.1 C0.2.1 dX2_hang_77 rfl (lv_at hl 0 rfl) ?_
        refine xget (pc := 78) C0 hH 28 2 clX2 ⟨Nat.le_of_ble_eq_true rfl, Nat.le_of_ble_eq_true rfl⟩ ⟨rfl, rfl⟩ (Nat.le_of_ble_eq_true rfl) fl_X2_18 (v := .ref (b + 31)) rfl dX2_hang_78 ?_
        refine lv_iload_n (pc := 81) C0.1 C0.2.1 dX2_hang_81 rfl (lv_at hl 1 rfl) ?_
        refine xiald (pc := 82) (N := 1200) C0 hH 31 ⟨Nat.le_of_ble_eq_true rfl, Nat.le_of_ble_eq_true rfl⟩ ⟨rfl, rfl⟩ (vI (by omega) (by omega)) dX2_hang_82 ?_
        refine lv_bipush (pc := 83) (v := (-9)) C0.1 C0.2.1 dX2_hang_83 (by decide) ?_
        refine lv_icmp_ne (pc := 85) (tgt := 92) C0.1 C0.2.1 dX2_hang_85 (by decide) (fun c6 => ?_) (fun c6 => ?_)
        · have : Int32.toInt (-9) = (-9) := rfl
          have c6 : ¬ _ := fun q => c6 (Int32.toInt_inj.mp q)
          refine lv_aload_n (pc := 92) C0.1 C0.2.1 dX2_hang_92 rfl (lv_at hl 0 rfl) ?_
          refine xget (pc := 93) C0 hH 28 2 clX2 ⟨Nat.le_of_ble_eq_true rfl, Nat.le_of_ble_eq_true rfl⟩ ⟨rfl, rfl⟩ (Nat.le_of_ble_eq_true rfl) fl_X2_18 (v := .ref (b + 31)) rfl dX2_hang_93 ?_
          refine lv_iload_n (pc := 96) C0.1 C0.2.1 dX2_hang_96 rfl (lv_at hl 1 rfl) ?_
          refine xiald (pc := 97) (N := 1200) C0 hH 31 ⟨Nat.le_of_ble_eq_true rfl, Nat.le_of_ble_eq_true rfl⟩ ⟨rfl, rfl⟩ (vI (by omega) (by omega)) dX2_hang_97 ?_
          refine xiast (pc := 98) (N := 1200) C0 (Nat.le_of_ble_eq_true rfl) hH hS 31 ⟨Nat.le_of_ble_eq_true rfl, Nat.le_of_ble_eq_true rfl⟩ ⟨rfl, rfl⟩ (vI (by omega) (by omega)) dX2_hang_98 (fun _ locs hH hS _ => ?_)
          have hH : Hd D tA b 0 78 zz (up2 i 28 8 x4) (va_up (va_up (va_up (va_up (va_up F 34 (upd (F 34) (Int32.toNatClampNeg (i 28 8)) x)) 35 (upd (F 35) (Int32.toNatClampNeg (i 28 8)) y)) 33 (upd (F 33) (Int32.toNatClampNeg x) ((F 33 (Int32.toNatClampNeg x)) + 1))) 32 (upd (F 32) (Int32.toNatClampNeg x) y)) 31 (upd (F 31) (Int32.toNatClampNeg x) (F 31 (Int32.toNatClampNeg x)))) G _ := hH
          have hPI : inR (upd (F 34) (Int32.toNatClampNeg (i 28 8)) x) 0 1200 := inR.up hpi (by omega) (by omega)
          have hPV : inR (upd (F 35) (Int32.toNatClampNeg (i 28 8)) y) (-2147483648) 600 := inR.up hpv (by omega) (by omega)
          have hPP : ∀ p : Nat, (p : Int) < Int32.toInt x4 → ((p : Int) < (i 28 8).toInt ∧ upd (F 35) (Int32.toNatClampNeg (i 28 8)) y p = F 35 p) ∨ (upd (F 35) (Int32.toNatClampNeg (i 28 8)) y p = y ∧ 0 ≤ x.toInt ∧ x.toInt < 1200) := by
            intro p hp
            have hc := clI (x := i 28 8) (by omega)
            by_cases q : p = (i 28 8).toNatClampNeg
            · exact Or.inr ⟨by rw [q]; exact upd_s, by omega, by omega⟩
            · exact Or.inl ⟨by omega, upd_n q⟩
          exact xvret (pc := 99) C0 hr hH hS dX2_hang_99 ⟨(On.f (On.f (On.f (On.f (On.f (On.i On.rf (by decide)) (by decide)) (by decide)) (by decide)) (by decide)) (by decide)), rfl, ⟨by show 0 ≤ Int32.toInt x4; omega, by show Int32.toInt x4 ≤ 1201; omega⟩, rfl, hPI, hPV, hPP⟩
        · have : Int32.toInt (-9) = (-9) := rfl
          have c6 := congrArg Int32.toInt c6
          refine lv_iload_n (pc := 88) C0.1 C0.2.1 dX2_hang_88 rfl (lv_at hl 2 rfl) ?_
          refine lv_goto (pc := 89) (tgt := 98) C0.1 C0.2.1 dX2_hang_89 (by decide) ?_
          refine xiast (pc := 98) (N := 1200) C0 (Nat.le_of_ble_eq_true rfl) hH hS 31 ⟨Nat.le_of_ble_eq_true rfl, Nat.le_of_ble_eq_true rfl⟩ ⟨rfl, rfl⟩ (vI (by omega) (by omega)) dX2_hang_98 (fun _ locs hH hS _ => ?_)
          have hH : Hd D tA b 0 78 zz (up2 i 28 8 x4) (va_up (va_up (va_up (va_up (va_up F 34 (upd (F 34) (Int32.toNatClampNeg (i 28 8)) x)) 35 (upd (F 35) (Int32.toNatClampNeg (i 28 8)) y)) 33 (upd (F 33) (Int32.toNatClampNeg x) ((F 33 (Int32.toNatClampNeg x)) + 1))) 32 (upd (F 32) (Int32.toNatClampNeg x) y)) 31 (upd (F 31) (Int32.toNatClampNeg x) y)) G _ := hH
          have hPI : inR (upd (F 34) (Int32.toNatClampNeg (i 28 8)) x) 0 1200 := inR.up hpi (by omega) (by omega)
          have hPV : inR (upd (F 35) (Int32.toNatClampNeg (i 28 8)) y) (-2147483648) 600 := inR.up hpv (by omega) (by omega)
          have hPP : ∀ p : Nat, (p : Int) < Int32.toInt x4 → ((p : Int) < (i 28 8).toInt ∧ upd (F 35) (Int32.toNatClampNeg (i 28 8)) y p = F 35 p) ∨ (upd (F 35) (Int32.toNatClampNeg (i 28 8)) y p = y ∧ 0 ≤ x.toInt ∧ x.toInt < 1200) := by
            intro p hp
            have hc := clI (x := i 28 8) (by omega)
            by_cases q : p = (i 28 8).toNatClampNeg
            · exact Or.inr ⟨by rw [q]; exact upd_s, by omega, by omega⟩
            · exact Or.inl ⟨by omega, upd_n q⟩
          exact xvret (pc := 99) C0 hr hH hS dX2_hang_99 ⟨(On.f (On.f (On.f (On.f (On.f (On.i On.rf (by decide)) (by decide)) (by decide)) (by decide)) (by decide)) (by decide)), rfl, ⟨by show 0 ≤ Int32.toInt x4; omega, by show Int32.toInt x4 ≤ 1201; omega⟩, rfl, hPI, hPV, hPP⟩
    · have c3 : ¬ _ := fun q => c3 (Int32.lt_iff_toInt_lt.mpr q)
      exact xvret (pc := 20) C0 hr hH hS dX2_hang_20 ⟨On.rf, rfl, hpt, rfl, hpi, hpv, fun p hp => Or.inl ⟨hp, rfl⟩⟩
set_option maxHeartbeats 4000000 in
set_option maxRecDepth 100000 in
theorem g_X2_partOf_17 (l : Launch) (D : va_G) (tA : Nat → ClassId) (b : Nat) (i F : Nat → Nat → Int32) (G : Nat → Nat → Int64) (x y : Int32) (hT : Tf17 i F) : xMI l yX2_partOf cX2_partOf 5 (some .int) 0 0 D tA b 0 78 i F G [.ref (b + 28), .int x, .int y] (fun r u => u = (i, F, G) ∧ True) := by
  refine xstart RX2 rfl (by decide) (Nat.le_of_ble_eq_true rfl) ?_
  intro p e s m below meth c ls C0 hr hH hS hl
  have hl : lv_has ls 5 [(0, .ref (b + 28)), (1, .int x), (2, .int y)] := hl
  have rg_x := fb_rng x
  have rg_y := fb_rng y
  have hL := Tf17.lin hT
  have LOOP : ∀ (d : Nat) (k q : Int32) (H : Heap) (locs : List Loc) (ls : Array Slot), (0 ≤ k.toInt) → ((i 28 8).toInt - k.toInt ≤ d) → Hd D tA b 0 78 zz i F G H → va_S (xA b 0 78) s.heap H locs → lv_has ls 5 [(4, .int k), (3, .int q), (0, .ref (b + 28)), (1, .int x), (2, .int y)] → W p l e (xR 0 0) s m ([.ref (b + 28), .int x, .int y] : List Value).toArray below meth c H locs 0 0 (MQ below (va_Qi (fun r u => u = (i, F, G) ∧ True) (xB D tA b 0 78 zz) (xA b 0 78)) ([.ref (b + 28), .int x, .int y] : List Value).toArray s 0 0 (xA b 0 78)) (F0 m 5 ls []) := by
    intro d
    induction d with
    | zero =>
      intro k q H locs ls h1 h2 hH hS hl
      have rg_k := fb_rng k
      have rg_q := fb_rng q
      refine lv_iload (pc := 5) C0.1 C0.2.1 dX2_partOf_5 (lv_at hl 0 rfl) ?_
      refine lv_aload_n (pc := 7) C0.1 C0.2.1 dX2_partOf_7 rfl (lv_at hl 2 rfl) ?_
      refine xget (pc := 8) C0 hH 28 8 clX2 ⟨Nat.le_of_ble_eq_true rfl, Nat.le_of_ble_eq_true rfl⟩ ⟨rfl, rfl⟩ (Nat.le_of_ble_eq_true rfl) fl_X2_41 (v := .int (i 28 8)) rfl dX2_partOf_8 ?_
      refine lv_icmp_ge (pc := 11) (tgt := 47) C0.1 C0.2.1 dX2_partOf_11 (by decide) (fun _ => ?_) (fun c => absurd (Int32.le_iff_toInt_le.mpr (by omega)) c)
      refine lv_bipush (pc := 47) (v := (-12)) C0.1 C0.2.1 dX2_partOf_47 (by decide) ?_
      exact xiret (pc := 49) C0 hr hH hS dX2_partOf_49 ⟨rfl, trivial⟩
    | succ d ih =>
      intro k q H locs ls h1 h2 hH hS hl
      have rg_k := fb_rng k
      have rg_q := fb_rng q
      refine lv_iload (pc := 5) C0.1 C0.2.1 dX2_partOf_5 (lv_at hl 0 rfl) ?_
      refine lv_aload_n (pc := 7) C0.1 C0.2.1 dX2_partOf_7 rfl (lv_at hl 2 rfl) ?_
      refine xget (pc := 8) C0 hH 28 8 clX2 ⟨Nat.le_of_ble_eq_true rfl, Nat.le_of_ble_eq_true rfl⟩ ⟨rfl, rfl⟩ (Nat.le_of_ble_eq_true rfl) fl_X2_41 (v := .int (i 28 8)) rfl dX2_partOf_8 ?_
      refine lv_icmp_ge (pc := 11) (tgt := 47) C0.1 C0.2.1 dX2_partOf_11 (by decide) (fun c101 => ?_) (fun c101 => ?_)
      · have c101 := Int32.le_iff_toInt_le.mp c101
        refine lv_bipush (pc := 47) (v := (-12)) C0.1 C0.2.1 dX2_partOf_47 (by decide) ?_
        exact xiret (pc := 49) C0 hr hH hS dX2_partOf_49 ⟨rfl, trivial⟩
      · have c101 : ¬ _ := fun q => c101 (Int32.le_iff_toInt_le.mpr q)
        refine lv_aload_n (pc := 14) C0.1 C0.2.1 dX2_partOf_14 rfl (lv_at hl 2 rfl) ?_
        refine xget (pc := 15) C0 hH 28 6 clX2 ⟨Nat.le_of_ble_eq_true rfl, Nat.le_of_ble_eq_true rfl⟩ ⟨rfl, rfl⟩ (Nat.le_of_ble_eq_true rfl) fl_X2_27 (v := .ref (b + 34)) rfl dX2_partOf_15 ?_
        refine lv_iload (pc := 18) C0.1 C0.2.1 dX2_partOf_18 (lv_at hl 0 rfl) ?_
        refine xiald (pc := 20) (N := 1201) C0 hH 34 ⟨Nat.le_of_ble_eq_true rfl, Nat.le_of_ble_eq_true rfl⟩ ⟨rfl, rfl⟩ (vI (by omega) (by omega)) dX2_partOf_20 ?_
        refine lv_iload_n (pc := 21) C0.1 C0.2.1 dX2_partOf_21 rfl (lv_at hl 3 rfl) ?_
        refine lv_icmp_ne (pc := 22) (tgt := 41) C0.1 C0.2.1 dX2_partOf_22 (by decide) (fun c102 => ?_) (fun c102 => ?_)
        · have c102 : ¬ _ := fun q => c102 (Int32.toInt_inj.mp q)
          obtain ⟨x103, ex103⟩ : ∃ y_ : Int32, y_ = k + 1 := ⟨_, rfl⟩
          have : Int32.toInt 1 = 1 := rfl
          have hx103 : Int32.toInt x103 = Int32.toInt k + Int32.toInt 1 := by rw [ex103]; exact fb_addI (by omega) (by omega)
          refine lv_iinc (pc := 41) (v := x103) (lv' := [(4, .int x103), (3, .int q), (0, .ref (b + 28)), (1, .int x), (2, .int y)]) C0.1 C0.2.1 dX2_partOf_41 hl (k := 0) rfl (by rw [ex103]; rfl) (by decide) rfl (fun ls hl => ?_)
          refine lv_goto (pc := 44) (tgt := 5) C0.1 C0.2.1 dX2_partOf_44 (by decide) ?_
          exact ih x103 q _ _ _ (by omega) (by omega) hH hS (lv_sub hl [0, 1, 2, 3, 4] rfl)
        · have c102 := congrArg Int32.toInt c102
          refine lv_iload_n (pc := 25) C0.1 C0.2.1 dX2_partOf_25 rfl (lv_at hl 1 rfl) ?_
          refine lv_iload_n (pc := 26) C0.1 C0.2.1 dX2_partOf_26 rfl (lv_at hl 4 rfl) ?_
          refine lv_icmp_ne (pc := 27) (tgt := 38) C0.1 C0.2.1 dX2_partOf_27 (by decide) (fun c104 => ?_) (fun c104 => ?_)
          · have c104 : ¬ _ := fun q => c104 (Int32.toInt_inj.mp q)
            obtain ⟨x105, ex105⟩ : ∃ y_ : Int32, y_ = q + 1 := ⟨_, rfl⟩
            refine lv_iinc (pc := 38) (v := x105) (lv' := [(3, .int x105), (4, .int k), (0, .ref (b + 28)), (1, .int x), (2, .int y)]) C0.1 C0.2.1 dX2_partOf_38 hl (k := 1) rfl (by rw [ex105]; rfl) (by decide) rfl (fun ls hl => ?_)
            obtain ⟨x106, ex106⟩ : ∃ y_ : Int32, y_ = k + 1 := ⟨_, rfl⟩
            have : Int32.toInt 1 = 1 := rfl
            have hx106 : Int32.toInt x106 = Int32.toInt k + Int32.toInt 1 := by rw [ex106]; exact fb_addI (by omega) (by omega)
            refine lv_iinc (pc := 41) (v := x106) (lv' := [(4, .int x106), (3, .int x105), (0, .ref (b + 28)), (1, .int x), (2, .int y)]) C0.1 C0.2.1 dX2_partOf_41 hl (k := 1) rfl (by rw [ex106]; rfl) (by decide) rfl (fun ls hl => ?_)
            refine lv_goto (pc := 44) (tgt := 5) C0.1 C0.2.1 dX2_partOf_44 (by decide) ?_
            exact ih x106 x105 _ _ _ (by omega) (by omega) hH hS (lv_sub hl [0, 1, 2, 3, 4] rfl)
          · have c104 := congrArg Int32.toInt c104
            refine lv_aload_n (pc := 30) C0.1 C0.2.1 dX2_partOf_30 rfl (lv_at hl 2 rfl) ?_
            refine xget (pc := 31) C0 hH 28 7 clX2 ⟨Nat.le_of_ble_eq_true rfl, Nat.le_of_ble_eq_true rfl⟩ ⟨rfl, rfl⟩ (Nat.le_of_ble_eq_true rfl) fl_X2_30 (v := .ref (b + 35)) rfl dX2_partOf_31 ?_
            refine lv_iload (pc := 34) C0.1 C0.2.1 dX2_partOf_34 (lv_at hl 0 rfl) ?_
            refine xiald (pc := 36) (N := 1201) C0 hH 35 ⟨Nat.le_of_ble_eq_true rfl, Nat.le_of_ble_eq_true rfl⟩ ⟨rfl, rfl⟩ (vI (by omega) (by omega)) dX2_partOf_36 ?_
            exact xiret (pc := 37) C0 hr hH hS dX2_partOf_37 ⟨rfl, trivial⟩
  refine lv_iconst (pc := 0) (v := 0) C0.1 C0.2.1 dX2_partOf_0 (by decide) ?_
  refine lv_istore_n (pc := 1) (lv' := [(3, .int 0), (0, .ref (b + 28)), (1, .int x), (2, .int y)]) C0.1 C0.2.1 dX2_partOf_1 rfl hl (by decide) rfl (fun ls hl => ?_)
  refine lv_iconst (pc := 2) (v := 0) C0.1 C0.2.1 dX2_partOf_2 (by decide) ?_
  refine lv_istore (pc := 3) (lv' := [(4, .int 0), (3, .int 0), (0, .ref (b + 28)), (1, .int x), (2, .int y)]) C0.1 C0.2.1 dX2_partOf_3 hl (by decide) rfl (fun ls hl => ?_)
  exact LOOP 1201 0 0 _ _ _ (by have : Int32.toInt 0 = 0 := rfl; omega) (by have : Int32.toInt 0 = 0 := rfl; omega) hH hS (lv_sub hl [0, 1, 2, 3, 4] rfl)
set_option maxHeartbeats 4000000 in
set_option maxRecDepth 100000 in
theorem g_X2_find_17 (l : Launch) (D : va_G) (tA : Nat → ClassId) (b : Nat) (i F : Nat → Nat → Int32) (G : Nat → Nat → Int64) (x y : Int32) (hT : Tf17 i F) : xMI l yX2_find cX2_find 4 (some .int) 0 0 D tA b 0 78 i F G [.ref (b + 28), .int x, .int y] (fun r u => u = (i, F, G) ∧ True) := by
  refine xstart RX2 rfl (by decide) (Nat.le_of_ble_eq_true rfl) ?_
  intro p e s m below meth c ls C0 hr hH hS hl
  have hl : lv_has ls 4 [(0, .ref (b + 28)), (1, .int x), (2, .int y)] := hl
  have rg_x := fb_rng x
  have rg_y := fb_rng y
  have hL := Tf17.lin hT
  have LOOP : ∀ (d : Nat) (k : Int32) (H : Heap) (locs : List Loc) (ls : Array Slot), (0 ≤ k.toInt) → ((i 28 5).toInt - k.toInt ≤ d) → Hd D tA b 0 78 zz i F G H → va_S (xA b 0 78) s.heap H locs → lv_has ls 4 [(3, .int k), (0, .ref (b + 28)), (1, .int x), (2, .int y)] → W p l e (xR 0 0) s m ([.ref (b + 28), .int x, .int y] : List Value).toArray below meth c H locs 0 0 (MQ below (va_Qi (fun r u => u = (i, F, G) ∧ True) (xB D tA b 0 78 zz) (xA b 0 78)) ([.ref (b + 28), .int x, .int y] : List Value).toArray s 0 0 (xA b 0 78)) (F0 m 2 ls []) := by
    intro d
    induction d with
    | zero =>
      intro k H locs ls h1 h2 hH hS hl
      have rg_k := fb_rng k
      refine lv_iload_n (pc := 2) C0.1 C0.2.1 dX2_find_2 rfl (lv_at hl 0 rfl) ?_
      refine lv_aload_n (pc := 3) C0.1 C0.2.1 dX2_find_3 rfl (lv_at hl 1 rfl) ?_
      refine xget (pc := 4) C0 hH 28 5 clX2 ⟨Nat.le_of_ble_eq_true rfl, Nat.le_of_ble_eq_true rfl⟩ ⟨rfl, rfl⟩ (Nat.le_of_ble_eq_true rfl) fl_X2_33 (v := .int (i 28 5)) rfl dX2_find_4 ?_
      refine lv_icmp_ge (pc := 7) (tgt := 38) C0.1 C0.2.1 dX2_find_7 (by decide) (fun _ => ?_) (fun c => absurd (Int32.le_iff_toInt_le.mpr (by omega)) c)
      refine lv_bipush (pc := 38) (v := (-12)) C0.1 C0.2.1 dX2_find_38 (by decide) ?_
      exact xiret (pc := 40) C0 hr hH hS dX2_find_40 ⟨rfl, trivial⟩
    | succ d ih =>
      intro k H locs ls h1 h2 hH hS hl
      have rg_k := fb_rng k
      refine lv_iload_n (pc := 2) C0.1 C0.2.1 dX2_find_2 rfl (lv_at hl 0 rfl) ?_
      refine lv_aload_n (pc := 3) C0.1 C0.2.1 dX2_find_3 rfl (lv_at hl 1 rfl) ?_
      refine xget (pc := 4) C0 hH 28 5 clX2 ⟨Nat.le_of_ble_eq_true rfl, Nat.le_of_ble_eq_true rfl⟩ ⟨rfl, rfl⟩ (Nat.le_of_ble_eq_true rfl) fl_X2_33 (v := .int (i 28 5)) rfl dX2_find_4 ?_
      refine lv_icmp_ge (pc := 7) (tgt := 38) C0.1 C0.2.1 dX2_find_7 (by decide) (fun c101 => ?_) (fun c101 => ?_)
      · have c101 := Int32.le_iff_toInt_le.mp c101
        refine lv_bipush (pc := 38) (v := (-12)) C0.1 C0.2.1 dX2_find_38 (by decide) ?_
        exact xiret (pc := 40) C0 hr hH hS dX2_find_40 ⟨rfl, trivial⟩
      · have c101 : ¬ _ := fun q => c101 (Int32.le_iff_toInt_le.mpr q)
        refine lv_aload_n (pc := 10) C0.1 C0.2.1 dX2_find_10 rfl (lv_at hl 1 rfl) ?_
        refine xget (pc := 11) C0 hH 28 0 clX2 ⟨Nat.le_of_ble_eq_true rfl, Nat.le_of_ble_eq_true rfl⟩ ⟨rfl, rfl⟩ (Nat.le_of_ble_eq_true rfl) fl_X2_9 (v := .ref (b + 29)) rfl dX2_find_11 ?_
        refine lv_iload_n (pc := 14) C0.1 C0.2.1 dX2_find_14 rfl (lv_at hl 0 rfl) ?_
        refine xiald (pc := 15) (N := 1200) C0 hH 29 ⟨Nat.le_of_ble_eq_true rfl, Nat.le_of_ble_eq_true rfl⟩ ⟨rfl, rfl⟩ (vI (by omega) (by omega)) dX2_find_15 ?_
        refine lv_iload_n (pc := 16) C0.1 C0.2.1 dX2_find_16 rfl (lv_at hl 2 rfl) ?_
        refine lv_icmp_ne (pc := 17) (tgt := 32) C0.1 C0.2.1 dX2_find_17 (by decide) (fun c102 => ?_) (fun c102 => ?_)
        · have c102 : ¬ _ := fun q => c102 (Int32.toInt_inj.mp q)
          obtain ⟨x103, ex103⟩ : ∃ y_ : Int32, y_ = k + 1 := ⟨_, rfl⟩
          have : Int32.toInt 1 = 1 := rfl
          have hx103 : Int32.toInt x103 = Int32.toInt k + Int32.toInt 1 := by rw [ex103]; exact fb_addI (by omega) (by omega)
          refine lv_iinc (pc := 32) (v := x103) (lv' := [(3, .int x103), (0, .ref (b + 28)), (1, .int x), (2, .int y)]) C0.1 C0.2.1 dX2_find_32 hl (k := 0) rfl (by rw [ex103]; rfl) (by decide) rfl (fun ls hl => ?_)
          refine lv_goto (pc := 35) (tgt := 2) C0.1 C0.2.1 dX2_find_35 (by decide) ?_
          exact ih x103 _ _ _ (by omega) (by omega) hH hS (lv_sub hl [0, 1, 2, 3] rfl)
        · have c102 := congrArg Int32.toInt c102
          refine lv_aload_n (pc := 20) C0.1 C0.2.1 dX2_find_20 rfl (lv_at hl 1 rfl) ?_
          refine xget (pc := 21) C0 hH 28 1 clX2 ⟨Nat.le_of_ble_eq_true rfl, Nat.le_of_ble_eq_true rfl⟩ ⟨rfl, rfl⟩ (Nat.le_of_ble_eq_true rfl) fl_X2_15 (v := .ref (b + 30)) rfl dX2_find_21 ?_
          refine lv_iload_n (pc := 24) C0.1 C0.2.1 dX2_find_24 rfl (lv_at hl 0 rfl) ?_
          refine xiald (pc := 25) (N := 1200) C0 hH 30 ⟨Nat.le_of_ble_eq_true rfl, Nat.le_of_ble_eq_true rfl⟩ ⟨rfl, rfl⟩ (vI (by omega) (by omega)) dX2_find_25 ?_
          refine lv_iload_n (pc := 26) C0.1 C0.2.1 dX2_find_26 rfl (lv_at hl 3 rfl) ?_
          refine lv_icmp_ne (pc := 27) (tgt := 32) C0.1 C0.2.1 dX2_find_27 (by decide) (fun c104 => ?_) (fun c104 => ?_)
          · have c104 : ¬ _ := fun q => c104 (Int32.toInt_inj.mp q)
            obtain ⟨x105, ex105⟩ : ∃ y_ : Int32, y_ = k + 1 := ⟨_, rfl⟩
            have : Int32.toInt 1 = 1 := rfl
            have hx105 : Int32.toInt x105 = Int32.toInt k + Int32.toInt 1 := by rw [ex105]; exact fb_addI (by omega) (by omega)
            refine lv_iinc (pc := 32) (v := x105) (lv' := [(3, .int x105), (0, .ref (b + 28)), (1, .int x), (2, .int y)]) C0.1 C0.2.1 dX2_find_32 hl (k := 0) rfl (by rw [ex105]; rfl) (by decide) rfl (fun ls hl => ?_)
            refine lv_goto (pc := 35) (tgt := 2) C0.1 C0.2.1 dX2_find_35 (by decide) ?_
            exact ih x105 _ _ _ (by omega) (by omega) hH hS (lv_sub hl [0, 1, 2, 3] rfl)
          · have c104 := congrArg Int32.toInt c104
            refine lv_iload_n (pc := 30) C0.1 C0.2.1 dX2_find_30 rfl (lv_at hl 0 rfl) ?_
            exact xiret (pc := 31) C0 hr hH hS dX2_find_31 ⟨rfl, trivial⟩
  refine lv_iconst (pc := 0) (v := 0) C0.1 C0.2.1 dX2_find_0 (by decide) ?_
  refine lv_istore_n (pc := 1) (lv' := [(3, .int 0), (0, .ref (b + 28)), (1, .int x), (2, .int y)]) C0.1 C0.2.1 dX2_find_1 rfl hl (by decide) rfl (fun ls hl => ?_)
  exact LOOP 1200 0 _ _ _ (by have : Int32.toInt 0 = 0 := rfl; omega) (by have : Int32.toInt 0 = 0 := rfl; omega) hH hS (lv_sub hl [0, 1, 2, 3] rfl)
set_option maxHeartbeats 4000000 in
set_option maxRecDepth 100000 in
theorem g_X8_blockOf_17 (l : Launch) (D : va_G) (tA : Nat → ClassId) (b : Nat) (i F : Nat → Nat → Int32) (G : Nat → Nat → Int64) (x : Int32) (hT : Tf17 i F) : xMI l yX8_blockOf cX8_blockOf 3 (some .int) 1 21 D tA b 0 78 i F G [.ref (b + 17), .int x] (fun r u => u = (i, F, G) ∧ True) := by
  refine xstart RX8 rfl (by decide) (Nat.le_of_ble_eq_true rfl) ?_
  intro p e s m below meth c ls C0 hr hH hS hl
  have hl : lv_has ls 3 [(0, .ref (b + 17)), (1, .int x)] := hl
  have rg_x := fb_rng x
  have hL := Tf17.lin hT
  have h6 : Int32.toInt (nI 600) = 600 := rfl
  refine lv_iload_n (pc := 0) C0.1 C0.2.1 dX8_blockOf_0 rfl (lv_at hl 1 rfl) ?_
  refine lv_if_lt (pc := 1) (tgt := 22) C0.1 C0.2.1 dX8_blockOf_1 (by decide) (fun c1 => ?_) (fun c1 => ?_)
  · have : Int32.toInt 0 = 0 := rfl
    have c1 := Int32.lt_iff_toInt_lt.mp c1
    refine lv_bipush (pc := 22) (v := (-9)) C0.1 C0.2.1 dX8_blockOf_22 (by decide) ?_
    refine lv_istore_n (pc := 24) (lv' := [(2, .int (-9)), (0, .ref (b + 17)), (1, .int x)]) C0.1 C0.2.1 dX8_blockOf_24 rfl hl (by decide) rfl (fun ls hl => ?_)
    refine lv_aload_n (pc := 25) C0.1 C0.2.1 dX8_blockOf_25 rfl (lv_at hl 1 rfl) ?_
    refine xget (pc := 26) C0 hH 17 1 clX8 ⟨Nat.le_of_ble_eq_true rfl, Nat.le_of_ble_eq_true rfl⟩ ⟨rfl, rfl⟩ (Nat.le_of_ble_eq_true rfl) fl_X8_21 (v := .ref (b + 28)) rfl dX8_blockOf_26 ?_
    refine lv_iload_n (pc := 29) C0.1 C0.2.1 dX8_blockOf_29 rfl (lv_at hl 0 rfl) ?_
    refine xcVI (pc := 30) 28 [.int (-9)] (g_X2_has_28 l D tA b i F G (-9) ) C0 hH hS clX2 rfl ⟨⟨Nat.le_of_ble_eq_true rfl, Nat.le_of_ble_eq_true rfl⟩, rfl, rfl⟩ cw_X8_80 rfl ⟨Nat.le_of_ble_eq_true rfl, Nat.le_of_ble_eq_true rfl⟩ hl.1 rfl (Nat.le_of_ble_eq_true rfl) dX8_blockOf_30 ⟨Nat.le_of_ble_eq_true rfl, Nat.le_of_ble_eq_true rfl⟩ (fun r2 ir2 Fr2 Gr2 _ locs hp hH hS => ?_)
    obtain ⟨hu, hpr2⟩ := hp
    cases hu
    refine lv_if_eq (pc := 33) (tgt := 48) C0.1 C0.2.1 dX8_blockOf_33 (by decide) (fun c3 => ?_) (fun c3 => ?_)
    · have : Int32.toInt 0 = 0 := rfl
      have c3 := congrArg Int32.toInt c3
      refine lv_bipush (pc := 48) (v := (-9)) C0.1 C0.2.1 dX8_blockOf_48 (by decide) ?_
      exact xiret (pc := 50) C0 hr hH hS dX8_blockOf_50 ⟨rfl, trivial⟩
    · have : Int32.toInt 0 = 0 := rfl
      have c3 : ¬ _ := fun q => c3 (Int32.toInt_inj.mp q)
      refine lv_aload_n (pc := 36) C0.1 C0.2.1 dX8_blockOf_36 rfl (lv_at hl 1 rfl) ?_
      refine xget (pc := 37) C0 hH 17 1 clX8 ⟨Nat.le_of_ble_eq_true rfl, Nat.le_of_ble_eq_true rfl⟩ ⟨rfl, rfl⟩ (Nat.le_of_ble_eq_true rfl) fl_X8_21 (v := .ref (b + 28)) rfl dX8_blockOf_37 ?_
      refine xget (pc := 40) C0 hH 28 0 clX2 ⟨Nat.le_of_ble_eq_true rfl, Nat.le_of_ble_eq_true rfl⟩ ⟨rfl, rfl⟩ (Nat.le_of_ble_eq_true rfl) fl_X8_84 (v := .ref (b + 29)) rfl dX8_blockOf_40 ?_
      refine lv_iload_n (pc := 43) C0.1 C0.2.1 dX8_blockOf_43 rfl (lv_at hl 0 rfl) ?_
      have : Int32.toInt (-9) = (-9) := rfl
      refine xiald (pc := 44) (N := 1200) C0 hH 29 ⟨Nat.le_of_ble_eq_true rfl, Nat.le_of_ble_eq_true rfl⟩ ⟨rfl, rfl⟩ (vI (by omega) (by omega)) dX8_blockOf_44 ?_
      refine lv_goto (pc := 45) (tgt := 50) C0.1 C0.2.1 dX8_blockOf_45 (by decide) ?_
      exact xiret (pc := 50) C0 hr hH hS dX8_blockOf_50 ⟨rfl, trivial⟩
  · have : Int32.toInt 0 = 0 := rfl
    have c1 : ¬ _ := fun q => c1 (Int32.lt_iff_toInt_lt.mpr q)
    refine lv_iload_n (pc := 4) C0.1 C0.2.1 dX8_blockOf_4 rfl (lv_at hl 1 rfl) ?_
    refine lv_aload_n (pc := 5) C0.1 C0.2.1 dX8_blockOf_5 rfl (lv_at hl 0 rfl) ?_
    refine xget (pc := 6) C0 hH 17 2 clX8 ⟨Nat.le_of_ble_eq_true rfl, Nat.le_of_ble_eq_true rfl⟩ ⟨rfl, rfl⟩ (Nat.le_of_ble_eq_true rfl) fl_X8_25 (v := .ref (b + 36)) rfl dX8_blockOf_6 ?_
    refine xalen (pc := 9) (N := 600) (t := 50) C0 hH 36 ⟨Nat.le_of_ble_eq_true rfl, Nat.le_of_ble_eq_true rfl⟩ ⟨rfl, rfl⟩ (by decide) dX8_blockOf_9 ?_
    refine lv_icmp_ge (pc := 10) (tgt := 22) C0.1 C0.2.1 dX8_blockOf_10 (by decide) (fun c4 => ?_) (fun c4 => ?_)
    · have c4 := Int32.le_iff_toInt_le.mp c4
      refine lv_bipush (pc := 22) (v := (-9)) C0.1 C0.2.1 dX8_blockOf_22 (by decide) ?_
      refine lv_istore_n (pc := 24) (lv' := [(2, .int (-9)), (0, .ref (b + 17)), (1, .int x)]) C0.1 C0.2.1 dX8_blockOf_24 rfl hl (by decide) rfl (fun ls hl => ?_)
      refine lv_aload_n (pc := 25) C0.1 C0.2.1 dX8_blockOf_25 rfl (lv_at hl 1 rfl) ?_
      refine xget (pc := 26) C0 hH 17 1 clX8 ⟨Nat.le_of_ble_eq_true rfl, Nat.le_of_ble_eq_true rfl⟩ ⟨rfl, rfl⟩ (Nat.le_of_ble_eq_true rfl) fl_X8_21 (v := .ref (b + 28)) rfl dX8_blockOf_26 ?_
      refine lv_iload_n (pc := 29) C0.1 C0.2.1 dX8_blockOf_29 rfl (lv_at hl 0 rfl) ?_
      refine xcVI (pc := 30) 28 [.int (-9)] (g_X2_has_28 l D tA b i F G (-9) ) C0 hH hS clX2 rfl ⟨⟨Nat.le_of_ble_eq_true rfl, Nat.le_of_ble_eq_true rfl⟩, rfl, rfl⟩ cw_X8_80 rfl ⟨Nat.le_of_ble_eq_true rfl, Nat.le_of_ble_eq_true rfl⟩ hl.1 rfl (Nat.le_of_ble_eq_true rfl) dX8_blockOf_30 ⟨Nat.le_of_ble_eq_true rfl, Nat.le_of_ble_eq_true rfl⟩ (fun r5 ir5 Fr5 Gr5 _ locs hp hH hS => ?_)
      obtain ⟨hu, hpr5⟩ := hp
      cases hu
      refine lv_if_eq (pc := 33) (tgt := 48) C0.1 C0.2.1 dX8_blockOf_33 (by decide) (fun c6 => ?_) (fun c6 => ?_)
      · have : Int32.toInt 0 = 0 := rfl
        have c6 := congrArg Int32.toInt c6
        refine lv_bipush (pc := 48) (v := (-9)) C0.1 C0.2.1 dX8_blockOf_48 (by decide) ?_
        exact xiret (pc := 50) C0 hr hH hS dX8_blockOf_50 ⟨rfl, trivial⟩
      · have : Int32.toInt 0 = 0 := rfl
        have c6 : ¬ _ := fun q => c6 (Int32.toInt_inj.mp q)
        refine lv_aload_n (pc := 36) C0.1 C0.2.1 dX8_blockOf_36 rfl (lv_at hl 1 rfl) ?_
        refine xget (pc := 37) C0 hH 17 1 clX8 ⟨Nat.le_of_ble_eq_true rfl, Nat.le_of_ble_eq_true rfl⟩ ⟨rfl, rfl⟩ (Nat.le_of_ble_eq_true rfl) fl_X8_21 (v := .ref (b + 28)) rfl dX8_blockOf_37 ?_
        refine xget (pc := 40) C0 hH 28 0 clX2 ⟨Nat.le_of_ble_eq_true rfl, Nat.le_of_ble_eq_true rfl⟩ ⟨rfl, rfl⟩ (Nat.le_of_ble_eq_true rfl) fl_X8_84 (v := .ref (b + 29)) rfl dX8_blockOf_40 ?_
        refine lv_iload_n (pc := 43) C0.1 C0.2.1 dX8_blockOf_43 rfl (lv_at hl 0 rfl) ?_
        refine xiald (pc := 44) (N := 1200) C0 hH 29 ⟨Nat.le_of_ble_eq_true rfl, Nat.le_of_ble_eq_true rfl⟩ ⟨rfl, rfl⟩ (vI (by omega) (by omega)) dX8_blockOf_44 ?_
        refine lv_goto (pc := 45) (tgt := 50) C0.1 C0.2.1 dX8_blockOf_45 (by decide) ?_
        exact xiret (pc := 50) C0 hr hH hS dX8_blockOf_50 ⟨rfl, trivial⟩
    · have c4 : ¬ _ := fun q => c4 (Int32.le_iff_toInt_le.mpr q)
      refine lv_aload_n (pc := 13) C0.1 C0.2.1 dX8_blockOf_13 rfl (lv_at hl 0 rfl) ?_
      refine xget (pc := 14) C0 hH 17 2 clX8 ⟨Nat.le_of_ble_eq_true rfl, Nat.le_of_ble_eq_true rfl⟩ ⟨rfl, rfl⟩ (Nat.le_of_ble_eq_true rfl) fl_X8_25 (v := .ref (b + 36)) rfl dX8_blockOf_14 ?_
      refine lv_iload_n (pc := 17) C0.1 C0.2.1 dX8_blockOf_17 rfl (lv_at hl 1 rfl) ?_
      refine xiald (pc := 18) (N := 600) C0 hH 36 ⟨Nat.le_of_ble_eq_true rfl, Nat.le_of_ble_eq_true rfl⟩ ⟨rfl, rfl⟩ (vI (by omega) (by omega)) dX8_blockOf_18 ?_
      refine lv_goto (pc := 19) (tgt := 24) C0.1 C0.2.1 dX8_blockOf_19 (by decide) ?_
      refine lv_topi (fun x7 ex7 => ?_)
      refine lv_istore_n (pc := 24) (lv' := [(2, .int x7), (0, .ref (b + 17)), (1, .int x)]) C0.1 C0.2.1 dX8_blockOf_24 rfl hl (by decide) rfl (fun ls hl => ?_)
      refine lv_aload_n (pc := 25) C0.1 C0.2.1 dX8_blockOf_25 rfl (lv_at hl 1 rfl) ?_
      refine xget (pc := 26) C0 hH 17 1 clX8 ⟨Nat.le_of_ble_eq_true rfl, Nat.le_of_ble_eq_true rfl⟩ ⟨rfl, rfl⟩ (Nat.le_of_ble_eq_true rfl) fl_X8_21 (v := .ref (b + 28)) rfl dX8_blockOf_26 ?_
      refine lv_iload_n (pc := 29) C0.1 C0.2.1 dX8_blockOf_29 rfl (lv_at hl 0 rfl) ?_
      refine xcVI (pc := 30) 28 [.int x7] (g_X2_has_28 l D tA b i F G x7 ) C0 hH hS clX2 rfl ⟨⟨Nat.le_of_ble_eq_true rfl, Nat.le_of_ble_eq_true rfl⟩, rfl, rfl⟩ cw_X8_80 rfl ⟨Nat.le_of_ble_eq_true rfl, Nat.le_of_ble_eq_true rfl⟩ hl.1 rfl (Nat.le_of_ble_eq_true rfl) dX8_blockOf_30 ⟨Nat.le_of_ble_eq_true rfl, Nat.le_of_ble_eq_true rfl⟩ (fun r8 ir8 Fr8 Gr8 _ locs hp hH hS => ?_)
      obtain ⟨hu, hpr8⟩ := hp
      cases hu
      refine lv_if_eq (pc := 33) (tgt := 48) C0.1 C0.2.1 dX8_blockOf_33 (by decide) (fun c9 => ?_) (fun c9 => ?_)
      · have : Int32.toInt 0 = 0 := rfl
        have c9 := congrArg Int32.toInt c9
        refine lv_bipush (pc := 48) (v := (-9)) C0.1 C0.2.1 dX8_blockOf_48 (by decide) ?_
        exact xiret (pc := 50) C0 hr hH hS dX8_blockOf_50 ⟨rfl, trivial⟩
      · have : Int32.toInt 0 = 0 := rfl
        have c9 : ¬ _ := fun q => c9 (Int32.toInt_inj.mp q)
        refine lv_aload_n (pc := 36) C0.1 C0.2.1 dX8_blockOf_36 rfl (lv_at hl 1 rfl) ?_
        refine xget (pc := 37) C0 hH 17 1 clX8 ⟨Nat.le_of_ble_eq_true rfl, Nat.le_of_ble_eq_true rfl⟩ ⟨rfl, rfl⟩ (Nat.le_of_ble_eq_true rfl) fl_X8_21 (v := .ref (b + 28)) rfl dX8_blockOf_37 ?_
        refine xget (pc := 40) C0 hH 28 0 clX2 ⟨Nat.le_of_ble_eq_true rfl, Nat.le_of_ble_eq_true rfl⟩ ⟨rfl, rfl⟩ (Nat.le_of_ble_eq_true rfl) fl_X8_84 (v := .ref (b + 29)) rfl dX8_blockOf_40 ?_
        refine lv_iload_n (pc := 43) C0.1 C0.2.1 dX8_blockOf_43 rfl (lv_at hl 0 rfl) ?_
        refine xiald (pc := 44) (N := 1200) C0 hH 29 ⟨Nat.le_of_ble_eq_true rfl, Nat.le_of_ble_eq_true rfl⟩ ⟨rfl, rfl⟩ (vI (by omega) (by omega)) dX8_blockOf_44 ?_
        refine lv_goto (pc := 45) (tgt := 50) C0.1 C0.2.1 dX8_blockOf_45 (by decide) ?_
        exact xiret (pc := 50) C0 hr hH hS dX8_blockOf_50 ⟨rfl, trivial⟩
set_option maxHeartbeats 4000000 in
set_option maxRecDepth 100000 in
theorem g_X8_blockAround_17 (l : Launch) (D : va_G) (tA : Nat → ClassId) (b : Nat) (i F : Nat → Nat → Int32) (G : Nat → Nat → Int64) (x : Int32) (hT : Tf17 i F) : xMI l yX8_blockAround cX8_blockAround 3 (some .int) 1 21 D tA b 0 78 i F G [.ref (b + 17), .int x] (fun r u => u = (i, F, G) ∧ True) := by
  refine xstart RX8 rfl (by decide) (Nat.le_of_ble_eq_true rfl) ?_
  intro p e s m below meth c ls C0 hr hH hS hl
  have hl : lv_has ls 3 [(0, .ref (b + 17)), (1, .int x)] := hl
  have rg_x := fb_rng x
  have hL := Tf17.lin hT
  refine lv_aload_n (pc := 0) C0.1 C0.2.1 dX8_blockAround_0 rfl (lv_at hl 0 rfl) ?_
  refine xget (pc := 1) C0 hH 17 0 clX8 ⟨Nat.le_of_ble_eq_true rfl, Nat.le_of_ble_eq_true rfl⟩ ⟨rfl, rfl⟩ (Nat.le_of_ble_eq_true rfl) fl_X8_12 (v := .ref (b + 18)) rfl dX8_blockAround_1 ?_
  refine lv_iload_n (pc := 4) C0.1 C0.2.1 dX8_blockAround_4 rfl (lv_at hl 1 rfl) ?_
  refine xcVI (pc := 5) 18 [.int x] (g_X0_has_18 l D tA b i F G x ) C0 hH hS clX0 rfl ⟨⟨Nat.le_of_ble_eq_true rfl, Nat.le_of_ble_eq_true rfl⟩, rfl, rfl⟩ cw_X8_87 rfl ⟨Nat.le_of_ble_eq_true rfl, Nat.le_of_ble_eq_true rfl⟩ hl.1 rfl (Nat.le_of_ble_eq_true rfl) dX8_blockAround_5 ⟨Nat.le_of_ble_eq_true rfl, Nat.le_of_ble_eq_true rfl⟩ (fun r1 ir1 Fr1 Gr1 _ locs hp hH hS => ?_)
  obtain ⟨hu, hpr1⟩ := hp
  cases hu
  refine lv_if_eq (pc := 8) (tgt := 23) C0.1 C0.2.1 dX8_blockAround_8 (by decide) (fun c2 => ?_) (fun c2 => ?_)
  · have : Int32.toInt 0 = 0 := rfl
    have c2 := congrArg Int32.toInt c2
    refine lv_bipush (pc := 23) (v := (-9)) C0.1 C0.2.1 dX8_blockAround_23 (by decide) ?_
    refine lv_istore_n (pc := 25) (lv' := [(2, .int (-9)), (0, .ref (b + 17)), (1, .int x)]) C0.1 C0.2.1 dX8_blockAround_25 rfl hl (by decide) rfl (fun ls hl => ?_)
    refine lv_aload_n (pc := 26) C0.1 C0.2.1 dX8_blockAround_26 rfl (lv_at hl 1 rfl) ?_
    refine xget (pc := 27) C0 hH 17 1 clX8 ⟨Nat.le_of_ble_eq_true rfl, Nat.le_of_ble_eq_true rfl⟩ ⟨rfl, rfl⟩ (Nat.le_of_ble_eq_true rfl) fl_X8_21 (v := .ref (b + 28)) rfl dX8_blockAround_27 ?_
    refine lv_iload_n (pc := 30) C0.1 C0.2.1 dX8_blockAround_30 rfl (lv_at hl 0 rfl) ?_
    refine xcVI (pc := 31) 28 [.int (-9)] (g_X2_has_28 l D tA b i F G (-9) ) C0 hH hS clX2 rfl ⟨⟨Nat.le_of_ble_eq_true rfl, Nat.le_of_ble_eq_true rfl⟩, rfl, rfl⟩ cw_X8_80 rfl ⟨Nat.le_of_ble_eq_true rfl, Nat.le_of_ble_eq_true rfl⟩ hl.1 rfl (Nat.le_of_ble_eq_true rfl) dX8_blockAround_31 ⟨Nat.le_of_ble_eq_true rfl, Nat.le_of_ble_eq_true rfl⟩ (fun r3 ir3 Fr3 Gr3 _ locs hp hH hS => ?_)
    obtain ⟨hu, hpr3⟩ := hp
    cases hu
    refine lv_if_eq (pc := 34) (tgt := 49) C0.1 C0.2.1 dX8_blockAround_34 (by decide) (fun c4 => ?_) (fun c4 => ?_)
    · have : Int32.toInt 0 = 0 := rfl
      have c4 := congrArg Int32.toInt c4
      refine lv_bipush (pc := 49) (v := (-9)) C0.1 C0.2.1 dX8_blockAround_49 (by decide) ?_
      exact xiret (pc := 51) C0 hr hH hS dX8_blockAround_51 ⟨rfl, trivial⟩
    · have : Int32.toInt 0 = 0 := rfl
      have c4 : ¬ _ := fun q => c4 (Int32.toInt_inj.mp q)
      refine lv_aload_n (pc := 37) C0.1 C0.2.1 dX8_blockAround_37 rfl (lv_at hl 1 rfl) ?_
      refine xget (pc := 38) C0 hH 17 1 clX8 ⟨Nat.le_of_ble_eq_true rfl, Nat.le_of_ble_eq_true rfl⟩ ⟨rfl, rfl⟩ (Nat.le_of_ble_eq_true rfl) fl_X8_21 (v := .ref (b + 28)) rfl dX8_blockAround_38 ?_
      refine xget (pc := 41) C0 hH 28 0 clX2 ⟨Nat.le_of_ble_eq_true rfl, Nat.le_of_ble_eq_true rfl⟩ ⟨rfl, rfl⟩ (Nat.le_of_ble_eq_true rfl) fl_X8_84 (v := .ref (b + 29)) rfl dX8_blockAround_41 ?_
      refine lv_iload_n (pc := 44) C0.1 C0.2.1 dX8_blockAround_44 rfl (lv_at hl 0 rfl) ?_
      have : Int32.toInt (-9) = (-9) := rfl
      refine xiald (pc := 45) (N := 1200) C0 hH 29 ⟨Nat.le_of_ble_eq_true rfl, Nat.le_of_ble_eq_true rfl⟩ ⟨rfl, rfl⟩ (vI (by omega) (by omega)) dX8_blockAround_45 ?_
      refine lv_goto (pc := 46) (tgt := 51) C0.1 C0.2.1 dX8_blockAround_46 (by decide) ?_
      exact xiret (pc := 51) C0 hr hH hS dX8_blockAround_51 ⟨rfl, trivial⟩
  · have : Int32.toInt 0 = 0 := rfl
    have c2 : ¬ _ := fun q => c2 (Int32.toInt_inj.mp q)
    refine lv_aload_n (pc := 11) C0.1 C0.2.1 dX8_blockAround_11 rfl (lv_at hl 0 rfl) ?_
    refine xget (pc := 12) C0 hH 17 0 clX8 ⟨Nat.le_of_ble_eq_true rfl, Nat.le_of_ble_eq_true rfl⟩ ⟨rfl, rfl⟩ (Nat.le_of_ble_eq_true rfl) fl_X8_12 (v := .ref (b + 18)) rfl dX8_blockAround_12 ?_
    refine xget (pc := 15) C0 hH 18 2 clX0 ⟨Nat.le_of_ble_eq_true rfl, Nat.le_of_ble_eq_true rfl⟩ ⟨rfl, rfl⟩ (Nat.le_of_ble_eq_true rfl) fl_X8_88 (v := .ref (b + 21)) rfl dX8_blockAround_15 ?_
    refine lv_iload_n (pc := 18) C0.1 C0.2.1 dX8_blockAround_18 rfl (lv_at hl 1 rfl) ?_
    refine xiald (pc := 19) (N := 601) C0 hH 21 ⟨Nat.le_of_ble_eq_true rfl, Nat.le_of_ble_eq_true rfl⟩ ⟨rfl, rfl⟩ (vI (by omega) (by omega)) dX8_blockAround_19 ?_
    refine lv_goto (pc := 20) (tgt := 25) C0.1 C0.2.1 dX8_blockAround_20 (by decide) ?_
    refine lv_topi (fun x5 ex5 => ?_)
    refine lv_istore_n (pc := 25) (lv' := [(2, .int x5), (0, .ref (b + 17)), (1, .int x)]) C0.1 C0.2.1 dX8_blockAround_25 rfl hl (by decide) rfl (fun ls hl => ?_)
    refine lv_aload_n (pc := 26) C0.1 C0.2.1 dX8_blockAround_26 rfl (lv_at hl 1 rfl) ?_
    refine xget (pc := 27) C0 hH 17 1 clX8 ⟨Nat.le_of_ble_eq_true rfl, Nat.le_of_ble_eq_true rfl⟩ ⟨rfl, rfl⟩ (Nat.le_of_ble_eq_true rfl) fl_X8_21 (v := .ref (b + 28)) rfl dX8_blockAround_27 ?_
    refine lv_iload_n (pc := 30) C0.1 C0.2.1 dX8_blockAround_30 rfl (lv_at hl 0 rfl) ?_
    refine xcVI (pc := 31) 28 [.int x5] (g_X2_has_28 l D tA b i F G x5 ) C0 hH hS clX2 rfl ⟨⟨Nat.le_of_ble_eq_true rfl, Nat.le_of_ble_eq_true rfl⟩, rfl, rfl⟩ cw_X8_80 rfl ⟨Nat.le_of_ble_eq_true rfl, Nat.le_of_ble_eq_true rfl⟩ hl.1 rfl (Nat.le_of_ble_eq_true rfl) dX8_blockAround_31 ⟨Nat.le_of_ble_eq_true rfl, Nat.le_of_ble_eq_true rfl⟩ (fun r6 ir6 Fr6 Gr6 _ locs hp hH hS => ?_)
    obtain ⟨hu, hpr6⟩ := hp
    cases hu
    refine lv_if_eq (pc := 34) (tgt := 49) C0.1 C0.2.1 dX8_blockAround_34 (by decide) (fun c7 => ?_) (fun c7 => ?_)
    · have : Int32.toInt 0 = 0 := rfl
      have c7 := congrArg Int32.toInt c7
      refine lv_bipush (pc := 49) (v := (-9)) C0.1 C0.2.1 dX8_blockAround_49 (by decide) ?_
      exact xiret (pc := 51) C0 hr hH hS dX8_blockAround_51 ⟨rfl, trivial⟩
    · have : Int32.toInt 0 = 0 := rfl
      have c7 : ¬ _ := fun q => c7 (Int32.toInt_inj.mp q)
      refine lv_aload_n (pc := 37) C0.1 C0.2.1 dX8_blockAround_37 rfl (lv_at hl 1 rfl) ?_
      refine xget (pc := 38) C0 hH 17 1 clX8 ⟨Nat.le_of_ble_eq_true rfl, Nat.le_of_ble_eq_true rfl⟩ ⟨rfl, rfl⟩ (Nat.le_of_ble_eq_true rfl) fl_X8_21 (v := .ref (b + 28)) rfl dX8_blockAround_38 ?_
      refine xget (pc := 41) C0 hH 28 0 clX2 ⟨Nat.le_of_ble_eq_true rfl, Nat.le_of_ble_eq_true rfl⟩ ⟨rfl, rfl⟩ (Nat.le_of_ble_eq_true rfl) fl_X8_84 (v := .ref (b + 29)) rfl dX8_blockAround_41 ?_
      refine lv_iload_n (pc := 44) C0.1 C0.2.1 dX8_blockAround_44 rfl (lv_at hl 0 rfl) ?_
      refine xiald (pc := 45) (N := 1200) C0 hH 29 ⟨Nat.le_of_ble_eq_true rfl, Nat.le_of_ble_eq_true rfl⟩ ⟨rfl, rfl⟩ (vI (by omega) (by omega)) dX8_blockAround_45 ?_
      refine lv_goto (pc := 46) (tgt := 51) C0.1 C0.2.1 dX8_blockAround_46 (by decide) ?_
      exact xiret (pc := 51) C0 hr hH hS dX8_blockAround_51 ⟨rfl, trivial⟩
set_option maxHeartbeats 4000000 in
set_option maxRecDepth 100000 in
theorem g_X8_depthOf_17 (l : Launch) (D : va_G) (tA : Nat → ClassId) (b : Nat) (i F : Nat → Nat → Int32) (G : Nat → Nat → Int64) (x : Int32) (hT : Tf17 i F) : xMI l yX8_depthOf cX8_depthOf 3 (some .int) 2 43 D tA b 0 78 i F G [.ref (b + 17), .int x] (fun r u => u = (i, F, G) ∧ True) := by
  refine xstart RX8 rfl (by decide) (Nat.le_of_ble_eq_true rfl) ?_
  intro p e s m below meth c ls C0 hr hH hS hl
  have hl : lv_has ls 3 [(0, .ref (b + 17)), (1, .int x)] := hl
  have rg_x := fb_rng x
  have hL := Tf17.lin hT
  refine lv_aload_n (pc := 0) C0.1 C0.2.1 dX8_depthOf_0 rfl (lv_at hl 0 rfl) ?_
  refine lv_iload_n (pc := 1) C0.1 C0.2.1 dX8_depthOf_1 rfl (lv_at hl 1 rfl) ?_
  refine xcVI (pc := 2) 17 [.int x] (g_X8_blockOf_17 l D tA b i F G x hT) C0 hH hS clX8 rfl ⟨⟨Nat.le_of_ble_eq_true rfl, Nat.le_of_ble_eq_true rfl⟩, rfl, rfl⟩ cw_X8_91 rfl ⟨Nat.le_of_ble_eq_true rfl, Nat.le_of_ble_eq_true rfl⟩ hl.1 rfl (Nat.le_of_ble_eq_true rfl) dX8_depthOf_2 ⟨Nat.le_of_ble_eq_true rfl, Nat.le_of_ble_eq_true rfl⟩ (fun r1 ir1 Fr1 Gr1 _ locs hp hH hS => ?_)
  obtain ⟨hu, hpr1⟩ := hp
  cases hu
  refine lv_istore_n (pc := 5) (lv' := [(2, .int r1), (0, .ref (b + 17)), (1, .int x)]) C0.1 C0.2.1 dX8_depthOf_5 rfl hl (by decide) rfl (fun ls hl => ?_)
  refine lv_aload_n (pc := 6) C0.1 C0.2.1 dX8_depthOf_6 rfl (lv_at hl 1 rfl) ?_
  refine xget (pc := 7) C0 hH 17 0 clX8 ⟨Nat.le_of_ble_eq_true rfl, Nat.le_of_ble_eq_true rfl⟩ ⟨rfl, rfl⟩ (Nat.le_of_ble_eq_true rfl) fl_X8_12 (v := .ref (b + 18)) rfl dX8_depthOf_7 ?_
  refine lv_iload_n (pc := 10) C0.1 C0.2.1 dX8_depthOf_10 rfl (lv_at hl 0 rfl) ?_
  refine xcVI (pc := 11) 18 [.int r1] (g_X0_has_18 l D tA b i F G r1 ) C0 hH hS clX0 rfl ⟨⟨Nat.le_of_ble_eq_true rfl, Nat.le_of_ble_eq_true rfl⟩, rfl, rfl⟩ cw_X8_87 rfl ⟨Nat.le_of_ble_eq_true rfl, Nat.le_of_ble_eq_true rfl⟩ hl.1 rfl (Nat.le_of_ble_eq_true rfl) dX8_depthOf_11 ⟨Nat.le_of_ble_eq_true rfl, Nat.le_of_ble_eq_true rfl⟩ (fun r2 ir2 Fr2 Gr2 _ locs hp hH hS => ?_)
  obtain ⟨hu, hpr2⟩ := hp
  cases hu
  refine lv_if_eq (pc := 14) (tgt := 31) C0.1 C0.2.1 dX8_depthOf_14 (by decide) (fun c3 => ?_) (fun c3 => ?_)
  · have : Int32.toInt 0 = 0 := rfl
    have c3 := congrArg Int32.toInt c3
    refine lv_iconst (pc := 31) (v := 0) C0.1 C0.2.1 dX8_depthOf_31 (by decide) ?_
    exact xiret (pc := 32) C0 hr hH hS dX8_depthOf_32 ⟨rfl, trivial⟩
  · have : Int32.toInt 0 = 0 := rfl
    have c3 : ¬ _ := fun q => c3 (Int32.toInt_inj.mp q)
    refine lv_aload_n (pc := 17) C0.1 C0.2.1 dX8_depthOf_17 rfl (lv_at hl 1 rfl) ?_
    refine xget (pc := 18) C0 hH 17 0 clX8 ⟨Nat.le_of_ble_eq_true rfl, Nat.le_of_ble_eq_true rfl⟩ ⟨rfl, rfl⟩ (Nat.le_of_ble_eq_true rfl) fl_X8_12 (v := .ref (b + 18)) rfl dX8_depthOf_18 ?_
    refine xget (pc := 21) C0 hH 18 6 clX0 ⟨Nat.le_of_ble_eq_true rfl, Nat.le_of_ble_eq_true rfl⟩ ⟨rfl, rfl⟩ (Nat.le_of_ble_eq_true rfl) fl_X8_95 (v := .ref (b + 25)) rfl dX8_depthOf_21 ?_
    refine lv_iload_n (pc := 24) C0.1 C0.2.1 dX8_depthOf_24 rfl (lv_at hl 0 rfl) ?_
    refine xiald (pc := 25) (N := 601) C0 hH 25 ⟨Nat.le_of_ble_eq_true rfl, Nat.le_of_ble_eq_true rfl⟩ ⟨rfl, rfl⟩ (vI (by omega) (by omega)) dX8_depthOf_25 ?_
    refine lv_iconst (pc := 26) (v := 1) C0.1 C0.2.1 dX8_depthOf_26 (by decide) ?_
    refine lv_iadd (pc := 27) C0.1 C0.2.1 dX8_depthOf_27 ?_
    refine lv_goto (pc := 28) (tgt := 32) C0.1 C0.2.1 dX8_depthOf_28 (by decide) ?_
    exact xiret (pc := 32) C0 hr hH hS dX8_depthOf_32 ⟨rfl, trivial⟩
set_option maxHeartbeats 4000000 in
set_option maxRecDepth 100000 in
theorem g_X0_add_48 (l : Launch) (D : va_G) (tA : Nat → ClassId) (b : Nat) (i F : Nat → Nat → Int32) (G : Nat → Nat → Int64) (x1_ x2_ x3_ x4_ x5_ : Int32) (hb : 1 ≤ (i 49 9).toInt ∧ (i 49 9).toInt ≤ 601) : xMI l yX0_add cX0_add 6 (some .int) 0 0 D tA b 0 78 i F G [.ref (b + 49), .int x1_, .int x2_, .int x3_, .int x4_, .int x5_] (fun r u => On 49 59 i F G u ∧ (1 ≤ (u.1 49 9).toInt ∧ (u.1 49 9).toInt ≤ 601) ∧ u.2.1 50 0 = F 50 0 ∧ (r.toInt = -9 ∨ (0 ≤ r.toInt ∧ r.toInt < 601))) := by
  refine xstart RX0 rfl (by decide) (Nat.le_of_ble_eq_true rfl) ?_
  intro p e s m below meth c ls C0 hr hH hS hl
  have hl : lv_has ls 6 [(0, .ref (b + 49)), (1, .int x1_), (2, .int x2_), (3, .int x3_), (4, .int x4_), (5, .int x5_)] := hl
  have rg_x1_ := fb_rng x1_
  have rg_x2_ := fb_rng x2_
  have rg_x3_ := fb_rng x3_
  have rg_x4_ := fb_rng x4_
  have rg_x5_ := fb_rng x5_
  have h601 : Int32.toInt (nI 601) = 601 := rfl
  refine lv_aload_n (pc := 0) C0.1 C0.2.1 dX0_add_0 rfl (lv_at hl 0 rfl) ?_
  refine xget (pc := 1) C0 hH 49 9 clX0 ⟨Nat.le_of_ble_eq_true rfl, Nat.le_of_ble_eq_true rfl⟩ ⟨rfl, rfl⟩ (Nat.le_of_ble_eq_true rfl) fl_X0_39 (v := .int (i 49 9)) rfl dX0_add_1 ?_
  refine lv_aload_n (pc := 4) C0.1 C0.2.1 dX0_add_4 rfl (lv_at hl 0 rfl) ?_
  refine xget (pc := 5) C0 hH 49 0 clX0 ⟨Nat.le_of_ble_eq_true rfl, Nat.le_of_ble_eq_true rfl⟩ ⟨rfl, rfl⟩ (Nat.le_of_ble_eq_true rfl) fl_X0_9 (v := .ref (b + 50)) rfl dX0_add_5 ?_
  refine xalen (pc := 8) (N := 601) (t := 50) C0 hH 50 ⟨Nat.le_of_ble_eq_true rfl, Nat.le_of_ble_eq_true rfl⟩ ⟨rfl, rfl⟩ (by decide) dX0_add_8 ?_
  refine lv_icmp_lt (pc := 9) (tgt := 15) C0.1 C0.2.1 dX0_add_9 (by decide) (fun c1 => ?_) (fun c1 => ?_)
  · have c1 := Int32.lt_iff_toInt_lt.mp c1
    refine lv_aload_n (pc := 15) C0.1 C0.2.1 dX0_add_15 rfl (lv_at hl 0 rfl) ?_
    refine xget (pc := 16) C0 hH 49 0 clX0 ⟨Nat.le_of_ble_eq_true rfl, Nat.le_of_ble_eq_true rfl⟩ ⟨rfl, rfl⟩ (Nat.le_of_ble_eq_true rfl) fl_X0_9 (v := .ref (b + 50)) rfl dX0_add_16 ?_
    refine lv_aload_n (pc := 19) C0.1 C0.2.1 dX0_add_19 rfl (lv_at hl 0 rfl) ?_
    refine xget (pc := 20) C0 hH 49 9 clX0 ⟨Nat.le_of_ble_eq_true rfl, Nat.le_of_ble_eq_true rfl⟩ ⟨rfl, rfl⟩ (Nat.le_of_ble_eq_true rfl) fl_X0_39 (v := .int (i 49 9)) rfl dX0_add_20 ?_
    refine lv_iload_n (pc := 23) C0.1 C0.2.1 dX0_add_23 rfl (lv_at hl 1 rfl) ?_
    refine xiast (pc := 24) (N := 601) C0 (Nat.le_of_ble_eq_true rfl) hH hS 50 ⟨Nat.le_of_ble_eq_true rfl, Nat.le_of_ble_eq_true rfl⟩ ⟨rfl, rfl⟩ (vI (by omega) (by omega)) dX0_add_24 (fun _ locs hH hS _ => ?_)
    have hH : Hd D tA b 0 78 zz i (va_up F 50 (upd (F 50) (Int32.toNatClampNeg (i 49 9)) x1_)) G _ := hH
    refine lv_aload_n (pc := 25) C0.1 C0.2.1 dX0_add_25 rfl (lv_at hl 0 rfl) ?_
    refine xget (pc := 26) C0 hH 49 1 clX0 ⟨Nat.le_of_ble_eq_true rfl, Nat.le_of_ble_eq_true rfl⟩ ⟨rfl, rfl⟩ (Nat.le_of_ble_eq_true rfl) fl_X0_15 (v := .ref (b + 51)) rfl dX0_add_26 ?_
    refine lv_aload_n (pc := 29) C0.1 C0.2.1 dX0_add_29 rfl (lv_at hl 0 rfl) ?_
    refine xget (pc := 30) C0 hH 49 9 clX0 ⟨Nat.le_of_ble_eq_true rfl, Nat.le_of_ble_eq_true rfl⟩ ⟨rfl, rfl⟩ (Nat.le_of_ble_eq_true rfl) fl_X0_39 (v := .int (i 49 9)) rfl dX0_add_30 ?_
    refine lv_iload_n (pc := 33) C0.1 C0.2.1 dX0_add_33 rfl (lv_at hl 2 rfl) ?_
    refine xiast (pc := 34) (N := 601) C0 (Nat.le_of_ble_eq_true rfl) hH hS 51 ⟨Nat.le_of_ble_eq_true rfl, Nat.le_of_ble_eq_true rfl⟩ ⟨rfl, rfl⟩ (vI (by omega) (by omega)) dX0_add_34 (fun _ locs hH hS _ => ?_)
    have hH : Hd D tA b 0 78 zz i (va_up (va_up F 50 (upd (F 50) (Int32.toNatClampNeg (i 49 9)) x1_)) 51 (upd (F 51) (Int32.toNatClampNeg (i 49 9)) x2_)) G _ := hH
    refine lv_aload_n (pc := 35) C0.1 C0.2.1 dX0_add_35 rfl (lv_at hl 0 rfl) ?_
    refine xget (pc := 36) C0 hH 49 2 clX0 ⟨Nat.le_of_ble_eq_true rfl, Nat.le_of_ble_eq_true rfl⟩ ⟨rfl, rfl⟩ (Nat.le_of_ble_eq_true rfl) fl_X0_18 (v := .ref (b + 52)) rfl dX0_add_36 ?_
    refine lv_aload_n (pc := 39) C0.1 C0.2.1 dX0_add_39 rfl (lv_at hl 0 rfl) ?_
    refine xget (pc := 40) C0 hH 49 9 clX0 ⟨Nat.le_of_ble_eq_true rfl, Nat.le_of_ble_eq_true rfl⟩ ⟨rfl, rfl⟩ (Nat.le_of_ble_eq_true rfl) fl_X0_39 (v := .int (i 49 9)) rfl dX0_add_40 ?_
    refine lv_iload_n (pc := 43) C0.1 C0.2.1 dX0_add_43 rfl (lv_at hl 3 rfl) ?_
    refine xiast (pc := 44) (N := 601) C0 (Nat.le_of_ble_eq_true rfl) hH hS 52 ⟨Nat.le_of_ble_eq_true rfl, Nat.le_of_ble_eq_true rfl⟩ ⟨rfl, rfl⟩ (vI (by omega) (by omega)) dX0_add_44 (fun _ locs hH hS _ => ?_)
    have hH : Hd D tA b 0 78 zz i (va_up (va_up (va_up F 50 (upd (F 50) (Int32.toNatClampNeg (i 49 9)) x1_)) 51 (upd (F 51) (Int32.toNatClampNeg (i 49 9)) x2_)) 52 (upd (F 52) (Int32.toNatClampNeg (i 49 9)) x3_)) G _ := hH
    refine lv_aload_n (pc := 45) C0.1 C0.2.1 dX0_add_45 rfl (lv_at hl 0 rfl) ?_
    refine xget (pc := 46) C0 hH 49 3 clX0 ⟨Nat.le_of_ble_eq_true rfl, Nat.le_of_ble_eq_true rfl⟩ ⟨rfl, rfl⟩ (Nat.le_of_ble_eq_true rfl) fl_X0_21 (v := .ref (b + 53)) rfl dX0_add_46 ?_
    refine lv_aload_n (pc := 49) C0.1 C0.2.1 dX0_add_49 rfl (lv_at hl 0 rfl) ?_
    refine xget (pc := 50) C0 hH 49 9 clX0 ⟨Nat.le_of_ble_eq_true rfl, Nat.le_of_ble_eq_true rfl⟩ ⟨rfl, rfl⟩ (Nat.le_of_ble_eq_true rfl) fl_X0_39 (v := .int (i 49 9)) rfl dX0_add_50 ?_
    refine lv_iconst (pc := 53) (v := 0) C0.1 C0.2.1 dX0_add_53 (by decide) ?_
    refine xiast (pc := 54) (N := 601) C0 (Nat.le_of_ble_eq_true rfl) hH hS 53 ⟨Nat.le_of_ble_eq_true rfl, Nat.le_of_ble_eq_true rfl⟩ ⟨rfl, rfl⟩ (vI (by omega) (by omega)) dX0_add_54 (fun _ locs hH hS _ => ?_)
    have hH : Hd D tA b 0 78 zz i (va_up (va_up (va_up (va_up F 50 (upd (F 50) (Int32.toNatClampNeg (i 49 9)) x1_)) 51 (upd (F 51) (Int32.toNatClampNeg (i 49 9)) x2_)) 52 (upd (F 52) (Int32.toNatClampNeg (i 49 9)) x3_)) 53 (upd (F 53) (Int32.toNatClampNeg (i 49 9)) 0)) G _ := hH
    refine lv_aload_n (pc := 55) C0.1 C0.2.1 dX0_add_55 rfl (lv_at hl 0 rfl) ?_
    refine xget (pc := 56) C0 hH 49 4 clX0 ⟨Nat.le_of_ble_eq_true rfl, Nat.le_of_ble_eq_true rfl⟩ ⟨rfl, rfl⟩ (Nat.le_of_ble_eq_true rfl) fl_X0_24 (v := .ref (b + 54)) rfl dX0_add_56 ?_
    refine lv_aload_n (pc := 59) C0.1 C0.2.1 dX0_add_59 rfl (lv_at hl 0 rfl) ?_
    refine xget (pc := 60) C0 hH 49 9 clX0 ⟨Nat.le_of_ble_eq_true rfl, Nat.le_of_ble_eq_true rfl⟩ ⟨rfl, rfl⟩ (Nat.le_of_ble_eq_true rfl) fl_X0_39 (v := .int (i 49 9)) rfl dX0_add_60 ?_
    refine lv_bipush (pc := 63) (v := (-9)) C0.1 C0.2.1 dX0_add_63 (by decide) ?_
    refine xiast (pc := 65) (N := 601) C0 (Nat.le_of_ble_eq_true rfl) hH hS 54 ⟨Nat.le_of_ble_eq_true rfl, Nat.le_of_ble_eq_true rfl⟩ ⟨rfl, rfl⟩ (vI (by omega) (by omega)) dX0_add_65 (fun _ locs hH hS _ => ?_)
    have hH : Hd D tA b 0 78 zz i (va_up (va_up (va_up (va_up (va_up F 50 (upd (F 50) (Int32.toNatClampNeg (i 49 9)) x1_)) 51 (upd (F 51) (Int32.toNatClampNeg (i 49 9)) x2_)) 52 (upd (F 52) (Int32.toNatClampNeg (i 49 9)) x3_)) 53 (upd (F 53) (Int32.toNatClampNeg (i 49 9)) 0)) 54 (upd (F 54) (Int32.toNatClampNeg (i 49 9)) (-9))) G _ := hH
    refine lv_aload_n (pc := 66) C0.1 C0.2.1 dX0_add_66 rfl (lv_at hl 0 rfl) ?_
    refine xget (pc := 67) C0 hH 49 5 clX0 ⟨Nat.le_of_ble_eq_true rfl, Nat.le_of_ble_eq_true rfl⟩ ⟨rfl, rfl⟩ (Nat.le_of_ble_eq_true rfl) fl_X0_27 (v := .ref (b + 55)) rfl dX0_add_67 ?_
    refine lv_aload_n (pc := 70) C0.1 C0.2.1 dX0_add_70 rfl (lv_at hl 0 rfl) ?_
    refine xget (pc := 71) C0 hH 49 9 clX0 ⟨Nat.le_of_ble_eq_true rfl, Nat.le_of_ble_eq_true rfl⟩ ⟨rfl, rfl⟩ (Nat.le_of_ble_eq_true rfl) fl_X0_39 (v := .int (i 49 9)) rfl dX0_add_71 ?_
    refine lv_bipush (pc := 74) (v := (-9)) C0.1 C0.2.1 dX0_add_74 (by decide) ?_
    refine xiast (pc := 76) (N := 601) C0 (Nat.le_of_ble_eq_true rfl) hH hS 55 ⟨Nat.le_of_ble_eq_true rfl, Nat.le_of_ble_eq_true rfl⟩ ⟨rfl, rfl⟩ (vI (by omega) (by omega)) dX0_add_76 (fun _ locs hH hS _ => ?_)
    have hH : Hd D tA b 0 78 zz i (va_up (va_up (va_up (va_up (va_up (va_up F 50 (upd (F 50) (Int32.toNatClampNeg (i 49 9)) x1_)) 51 (upd (F 51) (Int32.toNatClampNeg (i 49 9)) x2_)) 52 (upd (F 52) (Int32.toNatClampNeg (i 49 9)) x3_)) 53 (upd (F 53) (Int32.toNatClampNeg (i 49 9)) 0)) 54 (upd (F 54) (Int32.toNatClampNeg (i 49 9)) (-9))) 55 (upd (F 55) (Int32.toNatClampNeg (i 49 9)) (-9))) G _ := hH
    refine lv_aload_n (pc := 77) C0.1 C0.2.1 dX0_add_77 rfl (lv_at hl 0 rfl) ?_
    refine xget (pc := 78) C0 hH 49 6 clX0 ⟨Nat.le_of_ble_eq_true rfl, Nat.le_of_ble_eq_true rfl⟩ ⟨rfl, rfl⟩ (Nat.le_of_ble_eq_true rfl) fl_X0_30 (v := .ref (b + 56)) rfl dX0_add_78 ?_
    refine lv_aload_n (pc := 81) C0.1 C0.2.1 dX0_add_81 rfl (lv_at hl 0 rfl) ?_
    refine xget (pc := 82) C0 hH 49 9 clX0 ⟨Nat.le_of_ble_eq_true rfl, Nat.le_of_ble_eq_true rfl⟩ ⟨rfl, rfl⟩ (Nat.le_of_ble_eq_true rfl) fl_X0_39 (v := .int (i 49 9)) rfl dX0_add_82 ?_
    refine lv_iload (pc := 85) C0.1 C0.2.1 dX0_add_85 (lv_at hl 4 rfl) ?_
    refine xiast (pc := 87) (N := 601) C0 (Nat.le_of_ble_eq_true rfl) hH hS 56 ⟨Nat.le_of_ble_eq_true rfl, Nat.le_of_ble_eq_true rfl⟩ ⟨rfl, rfl⟩ (vI (by omega) (by omega)) dX0_add_87 (fun _ locs hH hS _ => ?_)
    have hH : Hd D tA b 0 78 zz i (va_up (va_up (va_up (va_up (va_up (va_up (va_up F 50 (upd (F 50) (Int32.toNatClampNeg (i 49 9)) x1_)) 51 (upd (F 51) (Int32.toNatClampNeg (i 49 9)) x2_)) 52 (upd (F 52) (Int32.toNatClampNeg (i 49 9)) x3_)) 53 (upd (F 53) (Int32.toNatClampNeg (i 49 9)) 0)) 54 (upd (F 54) (Int32.toNatClampNeg (i 49 9)) (-9))) 55 (upd (F 55) (Int32.toNatClampNeg (i 49 9)) (-9))) 56 (upd (F 56) (Int32.toNatClampNeg (i 49 9)) x4_)) G _ := hH
    refine lv_aload_n (pc := 88) C0.1 C0.2.1 dX0_add_88 rfl (lv_at hl 0 rfl) ?_
    refine xget (pc := 89) C0 hH 49 7 clX0 ⟨Nat.le_of_ble_eq_true rfl, Nat.le_of_ble_eq_true rfl⟩ ⟨rfl, rfl⟩ (Nat.le_of_ble_eq_true rfl) fl_X0_33 (v := .ref (b + 57)) rfl dX0_add_89 ?_
    refine lv_aload_n (pc := 92) C0.1 C0.2.1 dX0_add_92 rfl (lv_at hl 0 rfl) ?_
    refine xget (pc := 93) C0 hH 49 9 clX0 ⟨Nat.le_of_ble_eq_true rfl, Nat.le_of_ble_eq_true rfl⟩ ⟨rfl, rfl⟩ (Nat.le_of_ble_eq_true rfl) fl_X0_39 (v := .int (i 49 9)) rfl dX0_add_93 ?_
    refine lv_iload (pc := 96) C0.1 C0.2.1 dX0_add_96 (lv_at hl 5 rfl) ?_
    refine xiast (pc := 98) (N := 601) C0 (Nat.le_of_ble_eq_true rfl) hH hS 57 ⟨Nat.le_of_ble_eq_true rfl, Nat.le_of_ble_eq_true rfl⟩ ⟨rfl, rfl⟩ (vI (by omega) (by omega)) dX0_add_98 (fun _ locs hH hS _ => ?_)
    have hH : Hd D tA b 0 78 zz i (va_up (va_up (va_up (va_up (va_up (va_up (va_up (va_up F 50 (upd (F 50) (Int32.toNatClampNeg (i 49 9)) x1_)) 51 (upd (F 51) (Int32.toNatClampNeg (i 49 9)) x2_)) 52 (upd (F 52) (Int32.toNatClampNeg (i 49 9)) x3_)) 53 (upd (F 53) (Int32.toNatClampNeg (i 49 9)) 0)) 54 (upd (F 54) (Int32.toNatClampNeg (i 49 9)) (-9))) 55 (upd (F 55) (Int32.toNatClampNeg (i 49 9)) (-9))) 56 (upd (F 56) (Int32.toNatClampNeg (i 49 9)) x4_)) 57 (upd (F 57) (Int32.toNatClampNeg (i 49 9)) x5_)) G _ := hH
    refine lv_aload_n (pc := 99) C0.1 C0.2.1 dX0_add_99 rfl (lv_at hl 0 rfl) ?_
    refine xget (pc := 100) C0 hH 49 8 clX0 ⟨Nat.le_of_ble_eq_true rfl, Nat.le_of_ble_eq_true rfl⟩ ⟨rfl, rfl⟩ (Nat.le_of_ble_eq_true rfl) fl_X0_36 (v := .ref (b + 58)) rfl dX0_add_100 ?_
    refine lv_aload_n (pc := 103) C0.1 C0.2.1 dX0_add_103 rfl (lv_at hl 0 rfl) ?_
    refine xget (pc := 104) C0 hH 49 9 clX0 ⟨Nat.le_of_ble_eq_true rfl, Nat.le_of_ble_eq_true rfl⟩ ⟨rfl, rfl⟩ (Nat.le_of_ble_eq_true rfl) fl_X0_39 (v := .int (i 49 9)) rfl dX0_add_104 ?_
    refine lv_bipush (pc := 107) (v := (-9)) C0.1 C0.2.1 dX0_add_107 (by decide) ?_
    refine xiast (pc := 109) (N := 601) C0 (Nat.le_of_ble_eq_true rfl) hH hS 58 ⟨Nat.le_of_ble_eq_true rfl, Nat.le_of_ble_eq_true rfl⟩ ⟨rfl, rfl⟩ (vI (by omega) (by omega)) dX0_add_109 (fun _ locs hH hS _ => ?_)
    have hH : Hd D tA b 0 78 zz i (va_up (va_up (va_up (va_up (va_up (va_up (va_up (va_up (va_up F 50 (upd (F 50) (Int32.toNatClampNeg (i 49 9)) x1_)) 51 (upd (F 51) (Int32.toNatClampNeg (i 49 9)) x2_)) 52 (upd (F 52) (Int32.toNatClampNeg (i 49 9)) x3_)) 53 (upd (F 53) (Int32.toNatClampNeg (i 49 9)) 0)) 54 (upd (F 54) (Int32.toNatClampNeg (i 49 9)) (-9))) 55 (upd (F 55) (Int32.toNatClampNeg (i 49 9)) (-9))) 56 (upd (F 56) (Int32.toNatClampNeg (i 49 9)) x4_)) 57 (upd (F 57) (Int32.toNatClampNeg (i 49 9)) x5_)) 58 (upd (F 58) (Int32.toNatClampNeg (i 49 9)) (-9))) G _ := hH
    refine lv_aload_n (pc := 110) C0.1 C0.2.1 dX0_add_110 rfl (lv_at hl 0 rfl) ?_
    refine lv_dup (pc := 111) C0.1 C0.2.1 dX0_add_111 rfl ?_
    refine xget (pc := 112) C0 hH 49 9 clX0 ⟨Nat.le_of_ble_eq_true rfl, Nat.le_of_ble_eq_true rfl⟩ ⟨rfl, rfl⟩ (Nat.le_of_ble_eq_true rfl) fl_X0_39 (v := .int (i 49 9)) rfl dX0_add_112 ?_
    refine lv_iconst (pc := 115) (v := 1) C0.1 C0.2.1 dX0_add_115 (by decide) ?_
    have : Int32.toInt 1 = 1 := rfl
    refine lv_iadd (pc := 116) C0.1 C0.2.1 dX0_add_116 ?_
    refine lv_topi (fun x2 ex2 => ?_)
    have hx2 : Int32.toInt x2 = Int32.toInt (i 49 9) + Int32.toInt 1 := by rw [ex2]; exact fb_addI (by omega) (by omega)
    refine xputI (pc := 117) C0 (Nat.le_of_ble_eq_true rfl) hH hS 49 9 clX0 ⟨Nat.le_of_ble_eq_true rfl, Nat.le_of_ble_eq_true rfl⟩ ⟨rfl, rfl⟩ ⟨Nat.le_of_ble_eq_true rfl, rfl, rfl⟩ fl_X0_39 (x := x2) ⟨rfl, rfl⟩ dX0_add_117 (fun _ locs hH hS _ => ?_)
    have hH : Hd D tA b 0 78 zz (up2 i 49 9 x2) (va_up (va_up (va_up (va_up (va_up (va_up (va_up (va_up (va_up F 50 (upd (F 50) (Int32.toNatClampNeg (i 49 9)) x1_)) 51 (upd (F 51) (Int32.toNatClampNeg (i 49 9)) x2_)) 52 (upd (F 52) (Int32.toNatClampNeg (i 49 9)) x3_)) 53 (upd (F 53) (Int32.toNatClampNeg (i 49 9)) 0)) 54 (upd (F 54) (Int32.toNatClampNeg (i 49 9)) (-9))) 55 (upd (F 55) (Int32.toNatClampNeg (i 49 9)) (-9))) 56 (upd (F 56) (Int32.toNatClampNeg (i 49 9)) x4_)) 57 (upd (F 57) (Int32.toNatClampNeg (i 49 9)) x5_)) 58 (upd (F 58) (Int32.toNatClampNeg (i 49 9)) (-9))) G _ := hH
    refine lv_aload_n (pc := 120) C0.1 C0.2.1 dX0_add_120 rfl (lv_at hl 0 rfl) ?_
    refine xget (pc := 121) C0 hH 49 9 clX0 ⟨Nat.le_of_ble_eq_true rfl, Nat.le_of_ble_eq_true rfl⟩ ⟨rfl, rfl⟩ (Nat.le_of_ble_eq_true rfl) fl_X0_39 (v := .int x2) rfl dX0_add_121 ?_
    refine lv_iconst (pc := 124) (v := 1) C0.1 C0.2.1 dX0_add_124 (by decide) ?_
    have : Int32.toInt 1 = 1 := rfl
    refine lv_isub (pc := 125) C0.1 C0.2.1 dX0_add_125 ?_
    refine lv_topi (fun x3 ex3 => ?_)
    have hx3 : Int32.toInt x3 = Int32.toInt x2 - Int32.toInt 1 := by rw [ex3]; exact fb_subI (by omega) (by omega)
    exact xiret (pc := 126) C0 hr hH hS dX0_add_126 ⟨(On.f (On.f (On.f (On.f (On.f (On.f (On.f (On.f (On.f (On.i On.rf (by decide)) (by decide)) (by decide)) (by decide)) (by decide)) (by decide)) (by decide)) (by decide)) (by decide)) (by decide)), ⟨by show 1 ≤ Int32.toInt x2; omega, by show Int32.toInt x2 ≤ 601; omega⟩, by show upd (F 50) (Int32.toNatClampNeg (i 49 9)) x1_ 0 = F 50 0; exact upd0 (by omega), Or.inr ⟨by omega, by omega⟩⟩
  · have c1 : ¬ _ := fun q => c1 (Int32.lt_iff_toInt_lt.mpr q)
    refine lv_bipush (pc := 12) (v := (-9)) C0.1 C0.2.1 dX0_add_12 (by decide) ?_
    exact xiret (pc := 14) C0 hr hH hS dX0_add_14 ⟨On.rf, hb, rfl, Or.inl rfl⟩
set_option maxHeartbeats 4000000 in
set_option maxRecDepth 100000 in
theorem g_X2_add_48 (l : Launch) (D : va_G) (tA : Nat → ClassId) (b : Nat) (i F : Nat → Nat → Int32) (G : Nat → Nat → Int64) (x y : Int32) (hi : 0 ≤ (i 59 5).toInt ∧ (i 59 5).toInt ≤ 1200) (how : inR (F 60) 0 601) (hx : 0 ≤ x.toInt ∧ x.toInt < 601) : xMI l yX2_add cX2_add 3 (some .int) 0 0 D tA b 0 78 i F G [.ref (b + 59), .int x, .int y] (fun r u => On 59 65 i F G u ∧ (0 ≤ (u.1 59 5).toInt ∧ (u.1 59 5).toInt ≤ 1200) ∧ u.1 59 8 = i 59 8 ∧ inR (u.2.1 60) 0 601) := by
  refine xstart RX2 rfl (by decide) (Nat.le_of_ble_eq_true rfl) ?_
  intro p e s m below meth c ls C0 hr hH hS hl
  have hl : lv_has ls 3 [(0, .ref (b + 59)), (1, .int x), (2, .int y)] := hl
  have rg_x := fb_rng x
  have rg_y := fb_rng y
  have h12 : Int32.toInt (nI 1200) = 1200 := rfl
  refine lv_aload_n (pc := 0) C0.1 C0.2.1 dX2_add_0 rfl (lv_at hl 0 rfl) ?_
  refine xget (pc := 1) C0 hH 59 5 clX2 ⟨Nat.le_of_ble_eq_true rfl, Nat.le_of_ble_eq_true rfl⟩ ⟨rfl, rfl⟩ (Nat.le_of_ble_eq_true rfl) fl_X2_33 (v := .int (i 59 5)) rfl dX2_add_1 ?_
  refine lv_aload_n (pc := 4) C0.1 C0.2.1 dX2_add_4 rfl (lv_at hl 0 rfl) ?_
  refine xget (pc := 5) C0 hH 59 0 clX2 ⟨Nat.le_of_ble_eq_true rfl, Nat.le_of_ble_eq_true rfl⟩ ⟨rfl, rfl⟩ (Nat.le_of_ble_eq_true rfl) fl_X2_9 (v := .ref (b + 60)) rfl dX2_add_5 ?_
  refine xalen (pc := 8) (N := 1200) (t := 50) C0 hH 60 ⟨Nat.le_of_ble_eq_true rfl, Nat.le_of_ble_eq_true rfl⟩ ⟨rfl, rfl⟩ (by decide) dX2_add_8 ?_
  refine lv_icmp_lt (pc := 9) (tgt := 15) C0.1 C0.2.1 dX2_add_9 (by decide) (fun c1 => ?_) (fun c1 => ?_)
  · have c1 := Int32.lt_iff_toInt_lt.mp c1
    refine lv_aload_n (pc := 15) C0.1 C0.2.1 dX2_add_15 rfl (lv_at hl 0 rfl) ?_
    refine xget (pc := 16) C0 hH 59 0 clX2 ⟨Nat.le_of_ble_eq_true rfl, Nat.le_of_ble_eq_true rfl⟩ ⟨rfl, rfl⟩ (Nat.le_of_ble_eq_true rfl) fl_X2_9 (v := .ref (b + 60)) rfl dX2_add_16 ?_
    refine lv_aload_n (pc := 19) C0.1 C0.2.1 dX2_add_19 rfl (lv_at hl 0 rfl) ?_
    refine xget (pc := 20) C0 hH 59 5 clX2 ⟨Nat.le_of_ble_eq_true rfl, Nat.le_of_ble_eq_true rfl⟩ ⟨rfl, rfl⟩ (Nat.le_of_ble_eq_true rfl) fl_X2_33 (v := .int (i 59 5)) rfl dX2_add_20 ?_
    refine lv_iload_n (pc := 23) C0.1 C0.2.1 dX2_add_23 rfl (lv_at hl 1 rfl) ?_
    refine xiast (pc := 24) (N := 1200) C0 (Nat.le_of_ble_eq_true rfl) hH hS 60 ⟨Nat.le_of_ble_eq_true rfl, Nat.le_of_ble_eq_true rfl⟩ ⟨rfl, rfl⟩ (vI (by omega) (by omega)) dX2_add_24 (fun _ locs hH hS _ => ?_)
    have hH : Hd D tA b 0 78 zz i (va_up F 60 (upd (F 60) (Int32.toNatClampNeg (i 59 5)) x)) G _ := hH
    refine lv_aload_n (pc := 25) C0.1 C0.2.1 dX2_add_25 rfl (lv_at hl 0 rfl) ?_
    refine xget (pc := 26) C0 hH 59 1 clX2 ⟨Nat.le_of_ble_eq_true rfl, Nat.le_of_ble_eq_true rfl⟩ ⟨rfl, rfl⟩ (Nat.le_of_ble_eq_true rfl) fl_X2_15 (v := .ref (b + 61)) rfl dX2_add_26 ?_
    refine lv_aload_n (pc := 29) C0.1 C0.2.1 dX2_add_29 rfl (lv_at hl 0 rfl) ?_
    refine xget (pc := 30) C0 hH 59 5 clX2 ⟨Nat.le_of_ble_eq_true rfl, Nat.le_of_ble_eq_true rfl⟩ ⟨rfl, rfl⟩ (Nat.le_of_ble_eq_true rfl) fl_X2_33 (v := .int (i 59 5)) rfl dX2_add_30 ?_
    refine lv_iload_n (pc := 33) C0.1 C0.2.1 dX2_add_33 rfl (lv_at hl 2 rfl) ?_
    refine xiast (pc := 34) (N := 1200) C0 (Nat.le_of_ble_eq_true rfl) hH hS 61 ⟨Nat.le_of_ble_eq_true rfl, Nat.le_of_ble_eq_true rfl⟩ ⟨rfl, rfl⟩ (vI (by omega) (by omega)) dX2_add_34 (fun _ locs hH hS _ => ?_)
    have hH : Hd D tA b 0 78 zz i (va_up (va_up F 60 (upd (F 60) (Int32.toNatClampNeg (i 59 5)) x)) 61 (upd (F 61) (Int32.toNatClampNeg (i 59 5)) y)) G _ := hH
    refine lv_aload_n (pc := 35) C0.1 C0.2.1 dX2_add_35 rfl (lv_at hl 0 rfl) ?_
    refine xget (pc := 36) C0 hH 59 2 clX2 ⟨Nat.le_of_ble_eq_true rfl, Nat.le_of_ble_eq_true rfl⟩ ⟨rfl, rfl⟩ (Nat.le_of_ble_eq_true rfl) fl_X2_18 (v := .ref (b + 62)) rfl dX2_add_36 ?_
    refine lv_aload_n (pc := 39) C0.1 C0.2.1 dX2_add_39 rfl (lv_at hl 0 rfl) ?_
    refine xget (pc := 40) C0 hH 59 5 clX2 ⟨Nat.le_of_ble_eq_true rfl, Nat.le_of_ble_eq_true rfl⟩ ⟨rfl, rfl⟩ (Nat.le_of_ble_eq_true rfl) fl_X2_33 (v := .int (i 59 5)) rfl dX2_add_40 ?_
    refine lv_bipush (pc := 43) (v := (-9)) C0.1 C0.2.1 dX2_add_43 (by decide) ?_
    refine xiast (pc := 45) (N := 1200) C0 (Nat.le_of_ble_eq_true rfl) hH hS 62 ⟨Nat.le_of_ble_eq_true rfl, Nat.le_of_ble_eq_true rfl⟩ ⟨rfl, rfl⟩ (vI (by omega) (by omega)) dX2_add_45 (fun _ locs hH hS _ => ?_)
    have hH : Hd D tA b 0 78 zz i (va_up (va_up (va_up F 60 (upd (F 60) (Int32.toNatClampNeg (i 59 5)) x)) 61 (upd (F 61) (Int32.toNatClampNeg (i 59 5)) y)) 62 (upd (F 62) (Int32.toNatClampNeg (i 59 5)) (-9))) G _ := hH
    refine lv_aload_n (pc := 46) C0.1 C0.2.1 dX2_add_46 rfl (lv_at hl 0 rfl) ?_
    refine xget (pc := 47) C0 hH 59 3 clX2 ⟨Nat.le_of_ble_eq_true rfl, Nat.le_of_ble_eq_true rfl⟩ ⟨rfl, rfl⟩ (Nat.le_of_ble_eq_true rfl) fl_X2_21 (v := .ref (b + 63)) rfl dX2_add_47 ?_
    refine lv_aload_n (pc := 50) C0.1 C0.2.1 dX2_add_50 rfl (lv_at hl 0 rfl) ?_
    refine xget (pc := 51) C0 hH 59 5 clX2 ⟨Nat.le_of_ble_eq_true rfl, Nat.le_of_ble_eq_true rfl⟩ ⟨rfl, rfl⟩ (Nat.le_of_ble_eq_true rfl) fl_X2_33 (v := .int (i 59 5)) rfl dX2_add_51 ?_
    refine lv_bipush (pc := 54) (v := (-9)) C0.1 C0.2.1 dX2_add_54 (by decide) ?_
    refine xiast (pc := 56) (N := 1200) C0 (Nat.le_of_ble_eq_true rfl) hH hS 63 ⟨Nat.le_of_ble_eq_true rfl, Nat.le_of_ble_eq_true rfl⟩ ⟨rfl, rfl⟩ (vI (by omega) (by omega)) dX2_add_56 (fun _ locs hH hS _ => ?_)
    have hH : Hd D tA b 0 78 zz i (va_up (va_up (va_up (va_up F 60 (upd (F 60) (Int32.toNatClampNeg (i 59 5)) x)) 61 (upd (F 61) (Int32.toNatClampNeg (i 59 5)) y)) 62 (upd (F 62) (Int32.toNatClampNeg (i 59 5)) (-9))) 63 (upd (F 63) (Int32.toNatClampNeg (i 59 5)) (-9))) G _ := hH
    refine lv_aload_n (pc := 57) C0.1 C0.2.1 dX2_add_57 rfl (lv_at hl 0 rfl) ?_
    refine xget (pc := 58) C0 hH 59 4 clX2 ⟨Nat.le_of_ble_eq_true rfl, Nat.le_of_ble_eq_true rfl⟩ ⟨rfl, rfl⟩ (Nat.le_of_ble_eq_true rfl) fl_X2_24 (v := .ref (b + 64)) rfl dX2_add_58 ?_
    refine lv_aload_n (pc := 61) C0.1 C0.2.1 dX2_add_61 rfl (lv_at hl 0 rfl) ?_
    refine xget (pc := 62) C0 hH 59 5 clX2 ⟨Nat.le_of_ble_eq_true rfl, Nat.le_of_ble_eq_true rfl⟩ ⟨rfl, rfl⟩ (Nat.le_of_ble_eq_true rfl) fl_X2_33 (v := .int (i 59 5)) rfl dX2_add_62 ?_
    refine lv_iconst (pc := 65) (v := 0) C0.1 C0.2.1 dX2_add_65 (by decide) ?_
    refine xiast (pc := 66) (N := 1200) C0 (Nat.le_of_ble_eq_true rfl) hH hS 64 ⟨Nat.le_of_ble_eq_true rfl, Nat.le_of_ble_eq_true rfl⟩ ⟨rfl, rfl⟩ (vI (by omega) (by omega)) dX2_add_66 (fun _ locs hH hS _ => ?_)
    have hH : Hd D tA b 0 78 zz i (va_up (va_up (va_up (va_up (va_up F 60 (upd (F 60) (Int32.toNatClampNeg (i 59 5)) x)) 61 (upd (F 61) (Int32.toNatClampNeg (i 59 5)) y)) 62 (upd (F 62) (Int32.toNatClampNeg (i 59 5)) (-9))) 63 (upd (F 63) (Int32.toNatClampNeg (i 59 5)) (-9))) 64 (upd (F 64) (Int32.toNatClampNeg (i 59 5)) 0)) G _ := hH
    refine lv_aload_n (pc := 67) C0.1 C0.2.1 dX2_add_67 rfl (lv_at hl 0 rfl) ?_
    refine lv_dup (pc := 68) C0.1 C0.2.1 dX2_add_68 rfl ?_
    refine xget (pc := 69) C0 hH 59 5 clX2 ⟨Nat.le_of_ble_eq_true rfl, Nat.le_of_ble_eq_true rfl⟩ ⟨rfl, rfl⟩ (Nat.le_of_ble_eq_true rfl) fl_X2_33 (v := .int (i 59 5)) rfl dX2_add_69 ?_
    refine lv_iconst (pc := 72) (v := 1) C0.1 C0.2.1 dX2_add_72 (by decide) ?_
    have : Int32.toInt 1 = 1 := rfl
    refine lv_iadd (pc := 73) C0.1 C0.2.1 dX2_add_73 ?_
    refine lv_topi (fun x2 ex2 => ?_)
    have hx2 : Int32.toInt x2 = Int32.toInt (i 59 5) + Int32.toInt 1 := by rw [ex2]; exact fb_addI (by omega) (by omega)
    refine xputI (pc := 74) C0 (Nat.le_of_ble_eq_true rfl) hH hS 59 5 clX2 ⟨Nat.le_of_ble_eq_true rfl, Nat.le_of_ble_eq_true rfl⟩ ⟨rfl, rfl⟩ ⟨Nat.le_of_ble_eq_true rfl, rfl, rfl⟩ fl_X2_33 (x := x2) ⟨rfl, rfl⟩ dX2_add_74 (fun _ locs hH hS _ => ?_)
    have hH : Hd D tA b 0 78 zz (up2 i 59 5 x2) (va_up (va_up (va_up (va_up (va_up F 60 (upd (F 60) (Int32.toNatClampNeg (i 59 5)) x)) 61 (upd (F 61) (Int32.toNatClampNeg (i 59 5)) y)) 62 (upd (F 62) (Int32.toNatClampNeg (i 59 5)) (-9))) 63 (upd (F 63) (Int32.toNatClampNeg (i 59 5)) (-9))) 64 (upd (F 64) (Int32.toNatClampNeg (i 59 5)) 0)) G _ := hH
    refine lv_aload_n (pc := 77) C0.1 C0.2.1 dX2_add_77 rfl (lv_at hl 0 rfl) ?_
    refine xget (pc := 78) C0 hH 59 5 clX2 ⟨Nat.le_of_ble_eq_true rfl, Nat.le_of_ble_eq_true rfl⟩ ⟨rfl, rfl⟩ (Nat.le_of_ble_eq_true rfl) fl_X2_33 (v := .int x2) rfl dX2_add_78 ?_
    refine lv_iconst (pc := 81) (v := 1) C0.1 C0.2.1 dX2_add_81 (by decide) ?_
    have : Int32.toInt 1 = 1 := rfl
    refine lv_isub (pc := 82) C0.1 C0.2.1 dX2_add_82 ?_
    refine lv_topi (fun x3 ex3 => ?_)
    have hx3 : Int32.toInt x3 = Int32.toInt x2 - Int32.toInt 1 := by rw [ex3]; exact fb_subI (by omega) (by omega)
    exact xiret (pc := 83) C0 hr hH hS dX2_add_83 ⟨(On.f (On.f (On.f (On.f (On.f (On.i On.rf (by decide)) (by decide)) (by decide)) (by decide)) (by decide)) (by decide)), ⟨by show 0 ≤ Int32.toInt x2; omega, by show Int32.toInt x2 ≤ 1200; omega⟩, rfl, by show inR (upd (F 60) (Int32.toNatClampNeg (i 59 5)) x) 0 601; exact inR.up how (by omega) (by omega)⟩
  · have c1 : ¬ _ := fun q => c1 (Int32.lt_iff_toInt_lt.mpr q)
    refine lv_bipush (pc := 12) (v := (-9)) C0.1 C0.2.1 dX2_add_12 (by decide) ?_
    exact xiret (pc := 14) C0 hr hH hS dX2_add_14 ⟨On.rf, hi, rfl, how⟩
set_option maxHeartbeats 4000000 in
set_option maxRecDepth 100000 in
theorem g_X2_hang_48 (l : Launch) (D : va_G) (tA : Nat → ClassId) (b : Nat) (i F : Nat → Nat → Int32) (G : Nat → Nat → Int64) (x y : Int32) (hi : 0 ≤ (i 59 5).toInt ∧ (i 59 5).toInt ≤ 1200) (hpt : 0 ≤ (i 59 8).toInt ∧ (i 59 8).toInt ≤ 1201) (hpi : inR (F 65) 0 1200) (hpv : inR (F 66) (-2147483648) 600) (hy : y.toInt < 600) : xMV l yX2_hang cX2_hang 3 none 1 21 D tA b 0 78 i F G [.ref (b + 59), .int x, .int y] (fun u => On 59 67 i F G u ∧ u.1 59 5 = i 59 5 ∧ (0 ≤ (u.1 59 8).toInt ∧ (u.1 59 8).toInt ≤ 1201) ∧ u.2.1 60 = F 60 ∧ inR (u.2.1 65) 0 1200 ∧ inR (u.2.1 66) (-2147483648) 600 ∧ ∀ p : Nat, (p : Int) < (u.1 59 8).toInt → ((p : Int) < (i 59 8).toInt ∧ u.2.1 66 p = F 66 p) ∨ (u.2.1 66 p = y ∧ 0 ≤ x.toInt ∧ x.toInt < 1200)) := by
  refine xstart RX2 rfl (by decide) (Nat.le_of_ble_eq_true rfl) ?_
  intro p e s m below meth c ls C0 hr hH hS hl
  have hl : lv_has ls 3 [(0, .ref (b + 59)), (1, .int x), (2, .int y)] := hl
  have rg_x := fb_rng x
  have rg_y := fb_rng y
  have h12 : Int32.toInt (nI 1201) = 1201 := rfl
  refine lv_aload_n (pc := 0) C0.1 C0.2.1 dX2_hang_0 rfl (lv_at hl 0 rfl) ?_
  refine lv_iload_n (pc := 1) C0.1 C0.2.1 dX2_hang_1 rfl (lv_at hl 1 rfl) ?_
  refine xcVI (pc := 2) 59 [.int x] (g_X2_has_59 l D tA b i F G x ) C0 hH hS clX2 rfl ⟨⟨Nat.le_of_ble_eq_true rfl, Nat.le_of_ble_eq_true rfl⟩, rfl, rfl⟩ cw_X2_37 rfl ⟨Nat.le_of_ble_eq_true rfl, Nat.le_of_ble_eq_true rfl⟩ hl.1 rfl (Nat.le_of_ble_eq_true rfl) dX2_hang_2 ⟨Nat.le_of_ble_eq_true rfl, Nat.le_of_ble_eq_true rfl⟩ (fun r1 ir1 Fr1 Gr1 _ locs hp hH hS => ?_)
  obtain ⟨hu, hpr1⟩ := hp
  cases hu
  refine lv_if_eq (pc := 5) (tgt := 20) C0.1 C0.2.1 dX2_hang_5 (by decide) (fun c2 => ?_) (fun c2 => ?_)
  · have : Int32.toInt 0 = 0 := rfl
    have c2 := congrArg Int32.toInt c2
    exact xvret (pc := 20) C0 hr hH hS dX2_hang_20 ⟨On.rf, rfl, hpt, rfl, hpi, hpv, fun p hp => Or.inl ⟨hp, rfl⟩⟩
  · have : Int32.toInt 0 = 0 := rfl
    have c2 : ¬ _ := fun q => c2 (Int32.toInt_inj.mp q)
    refine lv_aload_n (pc := 8) C0.1 C0.2.1 dX2_hang_8 rfl (lv_at hl 0 rfl) ?_
    refine xget (pc := 9) C0 hH 59 8 clX2 ⟨Nat.le_of_ble_eq_true rfl, Nat.le_of_ble_eq_true rfl⟩ ⟨rfl, rfl⟩ (Nat.le_of_ble_eq_true rfl) fl_X2_41 (v := .int (i 59 8)) rfl dX2_hang_9 ?_
    refine lv_aload_n (pc := 12) C0.1 C0.2.1 dX2_hang_12 rfl (lv_at hl 0 rfl) ?_
    refine xget (pc := 13) C0 hH 59 6 clX2 ⟨Nat.le_of_ble_eq_true rfl, Nat.le_of_ble_eq_true rfl⟩ ⟨rfl, rfl⟩ (Nat.le_of_ble_eq_true rfl) fl_X2_27 (v := .ref (b + 65)) rfl dX2_hang_13 ?_
    refine xalen (pc := 16) (N := 1201) (t := 50) C0 hH 65 ⟨Nat.le_of_ble_eq_true rfl, Nat.le_of_ble_eq_true rfl⟩ ⟨rfl, rfl⟩ (by decide) dX2_hang_16 ?_
    refine lv_icmp_lt (pc := 17) (tgt := 21) C0.1 C0.2.1 dX2_hang_17 (by decide) (fun c3 => ?_) (fun c3 => ?_)
    · have c3 := Int32.lt_iff_toInt_lt.mp c3
      refine lv_aload_n (pc := 21) C0.1 C0.2.1 dX2_hang_21 rfl (lv_at hl 0 rfl) ?_
      refine xget (pc := 22) C0 hH 59 6 clX2 ⟨Nat.le_of_ble_eq_true rfl, Nat.le_of_ble_eq_true rfl⟩ ⟨rfl, rfl⟩ (Nat.le_of_ble_eq_true rfl) fl_X2_27 (v := .ref (b + 65)) rfl dX2_hang_22 ?_
      refine lv_aload_n (pc := 25) C0.1 C0.2.1 dX2_hang_25 rfl (lv_at hl 0 rfl) ?_
      refine xget (pc := 26) C0 hH 59 8 clX2 ⟨Nat.le_of_ble_eq_true rfl, Nat.le_of_ble_eq_true rfl⟩ ⟨rfl, rfl⟩ (Nat.le_of_ble_eq_true rfl) fl_X2_41 (v := .int (i 59 8)) rfl dX2_hang_26 ?_
      refine lv_iload_n (pc := 29) C0.1 C0.2.1 dX2_hang_29 rfl (lv_at hl 1 rfl) ?_
      refine xiast (pc := 30) (N := 1201) C0 (Nat.le_of_ble_eq_true rfl) hH hS 65 ⟨Nat.le_of_ble_eq_true rfl, Nat.le_of_ble_eq_true rfl⟩ ⟨rfl, rfl⟩ (vI (by omega) (by omega)) dX2_hang_30 (fun _ locs hH hS _ => ?_)
      have hH : Hd D tA b 0 78 zz i (va_up F 65 (upd (F 65) (Int32.toNatClampNeg (i 59 8)) x)) G _ := hH
      refine lv_aload_n (pc := 31) C0.1 C0.2.1 dX2_hang_31 rfl (lv_at hl 0 rfl) ?_
      refine xget (pc := 32) C0 hH 59 7 clX2 ⟨Nat.le_of_ble_eq_true rfl, Nat.le_of_ble_eq_true rfl⟩ ⟨rfl, rfl⟩ (Nat.le_of_ble_eq_true rfl) fl_X2_30 (v := .ref (b + 66)) rfl dX2_hang_32 ?_
      refine lv_aload_n (pc := 35) C0.1 C0.2.1 dX2_hang_35 rfl (lv_at hl 0 rfl) ?_
      refine xget (pc := 36) C0 hH 59 8 clX2 ⟨Nat.le_of_ble_eq_true rfl, Nat.le_of_ble_eq_true rfl⟩ ⟨rfl, rfl⟩ (Nat.le_of_ble_eq_true rfl) fl_X2_41 (v := .int (i 59 8)) rfl dX2_hang_36 ?_
      refine lv_iload_n (pc := 39) C0.1 C0.2.1 dX2_hang_39 rfl (lv_at hl 2 rfl) ?_
      refine xiast (pc := 40) (N := 1201) C0 (Nat.le_of_ble_eq_true rfl) hH hS 66 ⟨Nat.le_of_ble_eq_true rfl, Nat.le_of_ble_eq_true rfl⟩ ⟨rfl, rfl⟩ (vI (by omega) (by omega)) dX2_hang_40 (fun _ locs hH hS _ => ?_)
      have hH : Hd D tA b 0 78 zz i (va_up (va_up F 65 (upd (F 65) (Int32.toNatClampNeg (i 59 8)) x)) 66 (upd (F 66) (Int32.toNatClampNeg (i 59 8)) y)) G _ := hH
      refine lv_aload_n (pc := 41) C0.1 C0.2.1 dX2_hang_41 rfl (lv_at hl 0 rfl) ?_
      refine lv_dup (pc := 42) C0.1 C0.2.1 dX2_hang_42 rfl ?_
      refine xget (pc := 43) C0 hH 59 8 clX2 ⟨Nat.le_of_ble_eq_true rfl, Nat.le_of_ble_eq_true rfl⟩ ⟨rfl, rfl⟩ (Nat.le_of_ble_eq_true rfl) fl_X2_41 (v := .int (i 59 8)) rfl dX2_hang_43 ?_
      refine lv_iconst (pc := 46) (v := 1) C0.1 C0.2.1 dX2_hang_46 (by decide) ?_
      have : Int32.toInt 1 = 1 := rfl
      refine lv_iadd (pc := 47) C0.1 C0.2.1 dX2_hang_47 ?_
      refine lv_topi (fun x4 ex4 => ?_)
      have hx4 : Int32.toInt x4 = Int32.toInt (i 59 8) + Int32.toInt 1 := by rw [ex4]; exact fb_addI (by omega) (by omega)
      refine xputI (pc := 48) C0 (Nat.le_of_ble_eq_true rfl) hH hS 59 8 clX2 ⟨Nat.le_of_ble_eq_true rfl, Nat.le_of_ble_eq_true rfl⟩ ⟨rfl, rfl⟩ ⟨Nat.le_of_ble_eq_true rfl, rfl, rfl⟩ fl_X2_41 (x := x4) ⟨rfl, rfl⟩ dX2_hang_48 (fun _ locs hH hS _ => ?_)
      have hH : Hd D tA b 0 78 zz (up2 i 59 8 x4) (va_up (va_up F 65 (upd (F 65) (Int32.toNatClampNeg (i 59 8)) x)) 66 (upd (F 66) (Int32.toNatClampNeg (i 59 8)) y)) G _ := hH
      refine lv_aload_n (pc := 51) C0.1 C0.2.1 dX2_hang_51 rfl (lv_at hl 0 rfl) ?_
      refine xget (pc := 52) C0 hH 59 4 clX2 ⟨Nat.le_of_ble_eq_true rfl, Nat.le_of_ble_eq_true rfl⟩ ⟨rfl, rfl⟩ (Nat.le_of_ble_eq_true rfl) fl_X2_24 (v := .ref (b + 64)) rfl dX2_hang_52 ?_
      refine lv_iload_n (pc := 55) C0.1 C0.2.1 dX2_hang_55 rfl (lv_at hl 1 rfl) ?_
      refine lv_dup2_11 (pc := 56) C0.1 C0.2.1 dX2_hang_56 rfl rfl ?_
      refine xiald (pc := 57) (N := 1200) C0 hH 64 ⟨Nat.le_of_ble_eq_true rfl, Nat.le_of_ble_eq_true rfl⟩ ⟨rfl, rfl⟩ (vI (by omega) (by omega)) dX2_hang_57 ?_
      refine lv_iconst (pc := 58) (v := 1) C0.1 C0.2.1 dX2_hang_58 (by decide) ?_
      refine lv_iadd (pc := 59) C0.1 C0.2.1 dX2_hang_59 ?_
      refine xiast (pc := 60) (N := 1200) C0 (Nat.le_of_ble_eq_true rfl) hH hS 64 ⟨Nat.le_of_ble_eq_true rfl, Nat.le_of_ble_eq_true rfl⟩ ⟨rfl, rfl⟩ (vI (by omega) (by omega)) dX2_hang_60 (fun _ locs hH hS _ => ?_)
      have hH : Hd D tA b 0 78 zz (up2 i 59 8 x4) (va_up (va_up (va_up F 65 (upd (F 65) (Int32.toNatClampNeg (i 59 8)) x)) 66 (upd (F 66) (Int32.toNatClampNeg (i 59 8)) y)) 64 (upd (F 64) (Int32.toNatClampNeg x) ((F 64 (Int32.toNatClampNeg x)) + 1))) G _ := hH
      refine lv_iload_n (pc := 61) C0.1 C0.2.1 dX2_hang_61 rfl (lv_at hl 2 rfl) ?_
      refine lv_if_lt (pc := 62) (tgt := 99) C0.1 C0.2.1 dX2_hang_62 (by decide) (fun c5 => ?_) (fun c5 => ?_)
      · have : Int32.toInt 0 = 0 := rfl
        have c5 := Int32.lt_iff_toInt_lt.mp c5
        have hPI : inR (upd (F 65) (Int32.toNatClampNeg (i 59 8)) x) 0 1200 := inR.up hpi (by omega) (by omega)
        have hPV : inR (upd (F 66) (Int32.toNatClampNeg (i 59 8)) y) (-2147483648) 600 := inR.up hpv (by omega) (by omega)
        have hPP : ∀ p : Nat, (p : Int) < Int32.toInt x4 → ((p : Int) < (i 59 8).toInt ∧ upd (F 66) (Int32.toNatClampNeg (i 59 8)) y p = F 66 p) ∨ (upd (F 66) (Int32.toNatClampNeg (i 59 8)) y p = y ∧ 0 ≤ x.toInt ∧ x.toInt < 1200) := by
          intro p hp
          have hc := clI (x := i 59 8) (by omega)
          by_cases q : p = (i 59 8).toNatClampNeg
          · exact Or.inr ⟨by rw [q]; exact upd_s, by omega, by omega⟩
          · exact Or.inl ⟨by omega, upd_n q⟩
        exact xvret (pc := 99) C0 hr hH hS dX2_hang_99 ⟨(On.f (On.f (On.f (On.i On.rf (by decide)) (by decide)) (by decide)) (by decide)), rfl, ⟨by show 0 ≤ Int32.toInt x4; omega, by show Int32.toInt x4 ≤ 1201; omega⟩, rfl, hPI, hPV, hPP⟩
      · have : Int32.toInt 0 = 0 := rfl
        have c5 : ¬ _ := fun q => c5 (Int32.lt_iff_toInt_lt.mpr q)
        refine lv_aload_n (pc := 65) C0.1 C0.2.1 dX2_hang_65 rfl (lv_at hl 0 rfl) ?_
        refine xget (pc := 66) C0 hH 59 3 clX2 ⟨Nat.le_of_ble_eq_true rfl, Nat.le_of_ble_eq_true rfl⟩ ⟨rfl, rfl⟩ (Nat.le_of_ble_eq_true rfl) fl_X2_21 (v := .ref (b + 63)) rfl dX2_hang_66 ?_
        refine lv_iload_n (pc := 69) C0.1 C0.2.1 dX2_hang_69 rfl (lv_at hl 1 rfl) ?_
        refine lv_iload_n (pc := 70) C0.1 C0.2.1 dX2_hang_70 rfl (lv_at hl 2 rfl) ?_
        refine xiast (pc := 71) (N := 1200) C0 (Nat.le_of_ble_eq_true rfl) hH hS 63 ⟨Nat.le_of_ble_eq_true rfl, Nat.le_of_ble_eq_true rfl⟩ ⟨rfl, rfl⟩ (vI (by omega) (by omega)) dX2_hang_71 (fun _ locs hH hS _ => ?_)
        have hH : Hd D tA b 0 78 zz (up2 i 59 8 x4) (va_up (va_up (va_up (va_up F 65 (upd (F 65) (Int32.toNatClampNeg (i 59 8)) x)) 66 (upd (F 66) (Int32.toNatClampNeg (i 59 8)) y)) 64 (upd (F 64) (Int32.toNatClampNeg x) ((F 64 (Int32.toNatClampNeg x)) + 1))) 63 (upd (F 63) (Int32.toNatClampNeg x) y)) G _ := hH
        refine lv_aload_n (pc := 72) C0.1 C0.2.1 dX2_hang_72 rfl (lv_at hl 0 rfl) ?_
        refine xget (pc := 73) C0 hH 59 2 clX2 ⟨Nat.le_of_ble_eq_true rfl, Nat.le_of_ble_eq_true rfl⟩ ⟨rfl, rfl⟩ (Nat.le_of_ble_eq_true rfl) fl_X2_18 (v := .ref (b + 62)) rfl dX2_hang_73 ?_
        refine lv_iload_n (pc := 76) C0.1 C0.2.1 dX2_hang_76 rfl (lv_at hl 1 rfl) ?_
        refine lv_aload_n (pc := 77) C0.1 C0.2.1 dX2_hang_77 rfl (lv_at hl 0 rfl) ?_
        refine xget (pc := 78) C0 hH 59 2 clX2 ⟨Nat.le_of_ble_eq_true rfl, Nat.le_of_ble_eq_true rfl⟩ ⟨rfl, rfl⟩ (Nat.le_of_ble_eq_true rfl) fl_X2_18 (v := .ref (b + 62)) rfl dX2_hang_78 ?_
        refine lv_iload_n (pc := 81) C0.1 C0.2.1 dX2_hang_81 rfl (lv_at hl 1 rfl) ?_
        refine xiald (pc := 82) (N := 1200) C0 hH 62 ⟨Nat.le_of_ble_eq_true rfl, Nat.le_of_ble_eq_true rfl⟩ ⟨rfl, rfl⟩ (vI (by omega) (by omega)) dX2_hang_82 ?_
        refine lv_bipush (pc := 83) (v := (-9)) C0.1 C0.2.1 dX2_hang_83 (by decide) ?_
        refine lv_icmp_ne (pc := 85) (tgt := 92) C0.1 C0.2.1 dX2_hang_85 (by decide) (fun c6 => ?_) (fun c6 => ?_)
        · have : Int32.toInt (-9) = (-9) := rfl
          have c6 : ¬ _ := fun q => c6 (Int32.toInt_inj.mp q)
          refine lv_aload_n (pc := 92) C0.1 C0.2.1 dX2_hang_92 rfl (lv_at hl 0 rfl) ?_
          refine xget (pc := 93) C0 hH 59 2 clX2 ⟨Nat.le_of_ble_eq_true rfl, Nat.le_of_ble_eq_true rfl⟩ ⟨rfl, rfl⟩ (Nat.le_of_ble_eq_true rfl) fl_X2_18 (v := .ref (b + 62)) rfl dX2_hang_93 ?_
          refine lv_iload_n (pc := 96) C0.1 C0.2.1 dX2_hang_96 rfl (lv_at hl 1 rfl) ?_
          refine xiald (pc := 97) (N := 1200) C0 hH 62 ⟨Nat.le_of_ble_eq_true rfl, Nat.le_of_ble_eq_true rfl⟩ ⟨rfl, rfl⟩ (vI (by omega) (by omega)) dX2_hang_97 ?_
          refine xiast (pc := 98) (N := 1200) C0 (Nat.le_of_ble_eq_true rfl) hH hS 62 ⟨Nat.le_of_ble_eq_true rfl, Nat.le_of_ble_eq_true rfl⟩ ⟨rfl, rfl⟩ (vI (by omega) (by omega)) dX2_hang_98 (fun _ locs hH hS _ => ?_)
          have hH : Hd D tA b 0 78 zz (up2 i 59 8 x4) (va_up (va_up (va_up (va_up (va_up F 65 (upd (F 65) (Int32.toNatClampNeg (i 59 8)) x)) 66 (upd (F 66) (Int32.toNatClampNeg (i 59 8)) y)) 64 (upd (F 64) (Int32.toNatClampNeg x) ((F 64 (Int32.toNatClampNeg x)) + 1))) 63 (upd (F 63) (Int32.toNatClampNeg x) y)) 62 (upd (F 62) (Int32.toNatClampNeg x) (F 62 (Int32.toNatClampNeg x)))) G _ := hH
          have hPI : inR (upd (F 65) (Int32.toNatClampNeg (i 59 8)) x) 0 1200 := inR.up hpi (by omega) (by omega)
          have hPV : inR (upd (F 66) (Int32.toNatClampNeg (i 59 8)) y) (-2147483648) 600 := inR.up hpv (by omega) (by omega)
          have hPP : ∀ p : Nat, (p : Int) < Int32.toInt x4 → ((p : Int) < (i 59 8).toInt ∧ upd (F 66) (Int32.toNatClampNeg (i 59 8)) y p = F 66 p) ∨ (upd (F 66) (Int32.toNatClampNeg (i 59 8)) y p = y ∧ 0 ≤ x.toInt ∧ x.toInt < 1200) := by
            intro p hp
            have hc := clI (x := i 59 8) (by omega)
            by_cases q : p = (i 59 8).toNatClampNeg
            · exact Or.inr ⟨by rw [q]; exact upd_s, by omega, by omega⟩
            · exact Or.inl ⟨by omega, upd_n q⟩
          exact xvret (pc := 99) C0 hr hH hS dX2_hang_99 ⟨(On.f (On.f (On.f (On.f (On.f (On.i On.rf (by decide)) (by decide)) (by decide)) (by decide)) (by decide)) (by decide)), rfl, ⟨by show 0 ≤ Int32.toInt x4; omega, by show Int32.toInt x4 ≤ 1201; omega⟩, rfl, hPI, hPV, hPP⟩
        · have : Int32.toInt (-9) = (-9) := rfl
          have c6 := congrArg Int32.toInt c6
          refine lv_iload_n (pc := 88) C0.1 C0.2.1 dX2_hang_88 rfl (lv_at hl 2 rfl) ?_
          refine lv_goto (pc := 89) (tgt := 98) C0.1 C0.2.1 dX2_hang_89 (by decide) ?_
          refine xiast (pc := 98) (N := 1200) C0 (Nat.le_of_ble_eq_true rfl) hH hS 62 ⟨Nat.le_of_ble_eq_true rfl, Nat.le_of_ble_eq_true rfl⟩ ⟨rfl, rfl⟩ (vI (by omega) (by omega)) dX2_hang_98 (fun _ locs hH hS _ => ?_)
          have hH : Hd D tA b 0 78 zz (up2 i 59 8 x4) (va_up (va_up (va_up (va_up (va_up F 65 (upd (F 65) (Int32.toNatClampNeg (i 59 8)) x)) 66 (upd (F 66) (Int32.toNatClampNeg (i 59 8)) y)) 64 (upd (F 64) (Int32.toNatClampNeg x) ((F 64 (Int32.toNatClampNeg x)) + 1))) 63 (upd (F 63) (Int32.toNatClampNeg x) y)) 62 (upd (F 62) (Int32.toNatClampNeg x) y)) G _ := hH
          have hPI : inR (upd (F 65) (Int32.toNatClampNeg (i 59 8)) x) 0 1200 := inR.up hpi (by omega) (by omega)
          have hPV : inR (upd (F 66) (Int32.toNatClampNeg (i 59 8)) y) (-2147483648) 600 := inR.up hpv (by omega) (by omega)
          have hPP : ∀ p : Nat, (p : Int) < Int32.toInt x4 → ((p : Int) < (i 59 8).toInt ∧ upd (F 66) (Int32.toNatClampNeg (i 59 8)) y p = F 66 p) ∨ (upd (F 66) (Int32.toNatClampNeg (i 59 8)) y p = y ∧ 0 ≤ x.toInt ∧ x.toInt < 1200) := by
            intro p hp
            have hc := clI (x := i 59 8) (by omega)
            by_cases q : p = (i 59 8).toNatClampNeg
            · exact Or.inr ⟨by rw [q]; exact upd_s, by omega, by omega⟩
            · exact Or.inl ⟨by omega, upd_n q⟩
          exact xvret (pc := 99) C0 hr hH hS dX2_hang_99 ⟨(On.f (On.f (On.f (On.f (On.f (On.i On.rf (by decide)) (by decide)) (by decide)) (by decide)) (by decide)) (by decide)), rfl, ⟨by show 0 ≤ Int32.toInt x4; omega, by show Int32.toInt x4 ≤ 1201; omega⟩, rfl, hPI, hPV, hPP⟩
    · have c3 : ¬ _ := fun q => c3 (Int32.lt_iff_toInt_lt.mpr q)
      exact xvret (pc := 20) C0 hr hH hS dX2_hang_20 ⟨On.rf, rfl, hpt, rfl, hpi, hpv, fun p hp => Or.inl ⟨hp, rfl⟩⟩
set_option maxHeartbeats 4000000 in
set_option maxRecDepth 100000 in
theorem g_X2_partOf_48 (l : Launch) (D : va_G) (tA : Nat → ClassId) (b : Nat) (i F : Nat → Nat → Int32) (G : Nat → Nat → Int64) (x y : Int32) (hT : Tf48 i F) : xMI l yX2_partOf cX2_partOf 5 (some .int) 0 0 D tA b 0 78 i F G [.ref (b + 59), .int x, .int y] (fun r u => u = (i, F, G) ∧ True) := by
  refine xstart RX2 rfl (by decide) (Nat.le_of_ble_eq_true rfl) ?_
  intro p e s m below meth c ls C0 hr hH hS hl
  have hl : lv_has ls 5 [(0, .ref (b + 59)), (1, .int x), (2, .int y)] := hl
  have rg_x := fb_rng x
  have rg_y := fb_rng y
  have hL := Tf48.lin hT
  have LOOP : ∀ (d : Nat) (k q : Int32) (H : Heap) (locs : List Loc) (ls : Array Slot), (0 ≤ k.toInt) → ((i 59 8).toInt - k.toInt ≤ d) → Hd D tA b 0 78 zz i F G H → va_S (xA b 0 78) s.heap H locs → lv_has ls 5 [(4, .int k), (3, .int q), (0, .ref (b + 59)), (1, .int x), (2, .int y)] → W p l e (xR 0 0) s m ([.ref (b + 59), .int x, .int y] : List Value).toArray below meth c H locs 0 0 (MQ below (va_Qi (fun r u => u = (i, F, G) ∧ True) (xB D tA b 0 78 zz) (xA b 0 78)) ([.ref (b + 59), .int x, .int y] : List Value).toArray s 0 0 (xA b 0 78)) (F0 m 5 ls []) := by
    intro d
    induction d with
    | zero =>
      intro k q H locs ls h1 h2 hH hS hl
      have rg_k := fb_rng k
      have rg_q := fb_rng q
      refine lv_iload (pc := 5) C0.1 C0.2.1 dX2_partOf_5 (lv_at hl 0 rfl) ?_
      refine lv_aload_n (pc := 7) C0.1 C0.2.1 dX2_partOf_7 rfl (lv_at hl 2 rfl) ?_
      refine xget (pc := 8) C0 hH 59 8 clX2 ⟨Nat.le_of_ble_eq_true rfl, Nat.le_of_ble_eq_true rfl⟩ ⟨rfl, rfl⟩ (Nat.le_of_ble_eq_true rfl) fl_X2_41 (v := .int (i 59 8)) rfl dX2_partOf_8 ?_
      refine lv_icmp_ge (pc := 11) (tgt := 47) C0.1 C0.2.1 dX2_partOf_11 (by decide) (fun _ => ?_) (fun c => absurd (Int32.le_iff_toInt_le.mpr (by omega)) c)
      refine lv_bipush (pc := 47) (v := (-12)) C0.1 C0.2.1 dX2_partOf_47 (by decide) ?_
      exact xiret (pc := 49) C0 hr hH hS dX2_partOf_49 ⟨rfl, trivial⟩
    | succ d ih =>
      intro k q H locs ls h1 h2 hH hS hl
      have rg_k := fb_rng k
      have rg_q := fb_rng q
      refine lv_iload (pc := 5) C0.1 C0.2.1 dX2_partOf_5 (lv_at hl 0 rfl) ?_
      refine lv_aload_n (pc := 7) C0.1 C0.2.1 dX2_partOf_7 rfl (lv_at hl 2 rfl) ?_
      refine xget (pc := 8) C0 hH 59 8 clX2 ⟨Nat.le_of_ble_eq_true rfl, Nat.le_of_ble_eq_true rfl⟩ ⟨rfl, rfl⟩ (Nat.le_of_ble_eq_true rfl) fl_X2_41 (v := .int (i 59 8)) rfl dX2_partOf_8 ?_
      refine lv_icmp_ge (pc := 11) (tgt := 47) C0.1 C0.2.1 dX2_partOf_11 (by decide) (fun c101 => ?_) (fun c101 => ?_)
      · have c101 := Int32.le_iff_toInt_le.mp c101
        refine lv_bipush (pc := 47) (v := (-12)) C0.1 C0.2.1 dX2_partOf_47 (by decide) ?_
        exact xiret (pc := 49) C0 hr hH hS dX2_partOf_49 ⟨rfl, trivial⟩
      · have c101 : ¬ _ := fun q => c101 (Int32.le_iff_toInt_le.mpr q)
        refine lv_aload_n (pc := 14) C0.1 C0.2.1 dX2_partOf_14 rfl (lv_at hl 2 rfl) ?_
        refine xget (pc := 15) C0 hH 59 6 clX2 ⟨Nat.le_of_ble_eq_true rfl, Nat.le_of_ble_eq_true rfl⟩ ⟨rfl, rfl⟩ (Nat.le_of_ble_eq_true rfl) fl_X2_27 (v := .ref (b + 65)) rfl dX2_partOf_15 ?_
        refine lv_iload (pc := 18) C0.1 C0.2.1 dX2_partOf_18 (lv_at hl 0 rfl) ?_
        refine xiald (pc := 20) (N := 1201) C0 hH 65 ⟨Nat.le_of_ble_eq_true rfl, Nat.le_of_ble_eq_true rfl⟩ ⟨rfl, rfl⟩ (vI (by omega) (by omega)) dX2_partOf_20 ?_
        refine lv_iload_n (pc := 21) C0.1 C0.2.1 dX2_partOf_21 rfl (lv_at hl 3 rfl) ?_
        refine lv_icmp_ne (pc := 22) (tgt := 41) C0.1 C0.2.1 dX2_partOf_22 (by decide) (fun c102 => ?_) (fun c102 => ?_)
        · have c102 : ¬ _ := fun q => c102 (Int32.toInt_inj.mp q)
          obtain ⟨x103, ex103⟩ : ∃ y_ : Int32, y_ = k + 1 := ⟨_, rfl⟩
          have : Int32.toInt 1 = 1 := rfl
          have hx103 : Int32.toInt x103 = Int32.toInt k + Int32.toInt 1 := by rw [ex103]; exact fb_addI (by omega) (by omega)
          refine lv_iinc (pc := 41) (v := x103) (lv' := [(4, .int x103), (3, .int q), (0, .ref (b + 59)), (1, .int x), (2, .int y)]) C0.1 C0.2.1 dX2_partOf_41 hl (k := 0) rfl (by rw [ex103]; rfl) (by decide) rfl (fun ls hl => ?_)
          refine lv_goto (pc := 44) (tgt := 5) C0.1 C0.2.1 dX2_partOf_44 (by decide) ?_
          exact ih x103 q _ _ _ (by omega) (by omega) hH hS (lv_sub hl [0, 1, 2, 3, 4] rfl)
        · have c102 := congrArg Int32.toInt c102
          refine lv_iload_n (pc := 25) C0.1 C0.2.1 dX2_partOf_25 rfl (lv_at hl 1 rfl) ?_
          refine lv_iload_n (pc := 26) C0.1 C0.2.1 dX2_partOf_26 rfl (lv_at hl 4 rfl) ?_
          refine lv_icmp_ne (pc := 27) (tgt := 38) C0.1 C0.2.1 dX2_partOf_27 (by decide) (fun c104 => ?_) (fun c104 => ?_)
          · have c104 : ¬ _ := fun q => c104 (Int32.toInt_inj.mp q)
            obtain ⟨x105, ex105⟩ : ∃ y_ : Int32, y_ = q + 1 := ⟨_, rfl⟩
            refine lv_iinc (pc := 38) (v := x105) (lv' := [(3, .int x105), (4, .int k), (0, .ref (b + 59)), (1, .int x), (2, .int y)]) C0.1 C0.2.1 dX2_partOf_38 hl (k := 1) rfl (by rw [ex105]; rfl) (by decide) rfl (fun ls hl => ?_)
            obtain ⟨x106, ex106⟩ : ∃ y_ : Int32, y_ = k + 1 := ⟨_, rfl⟩
            have : Int32.toInt 1 = 1 := rfl
            have hx106 : Int32.toInt x106 = Int32.toInt k + Int32.toInt 1 := by rw [ex106]; exact fb_addI (by omega) (by omega)
            refine lv_iinc (pc := 41) (v := x106) (lv' := [(4, .int x106), (3, .int x105), (0, .ref (b + 59)), (1, .int x), (2, .int y)]) C0.1 C0.2.1 dX2_partOf_41 hl (k := 1) rfl (by rw [ex106]; rfl) (by decide) rfl (fun ls hl => ?_)
            refine lv_goto (pc := 44) (tgt := 5) C0.1 C0.2.1 dX2_partOf_44 (by decide) ?_
            exact ih x106 x105 _ _ _ (by omega) (by omega) hH hS (lv_sub hl [0, 1, 2, 3, 4] rfl)
          · have c104 := congrArg Int32.toInt c104
            refine lv_aload_n (pc := 30) C0.1 C0.2.1 dX2_partOf_30 rfl (lv_at hl 2 rfl) ?_
            refine xget (pc := 31) C0 hH 59 7 clX2 ⟨Nat.le_of_ble_eq_true rfl, Nat.le_of_ble_eq_true rfl⟩ ⟨rfl, rfl⟩ (Nat.le_of_ble_eq_true rfl) fl_X2_30 (v := .ref (b + 66)) rfl dX2_partOf_31 ?_
            refine lv_iload (pc := 34) C0.1 C0.2.1 dX2_partOf_34 (lv_at hl 0 rfl) ?_
            refine xiald (pc := 36) (N := 1201) C0 hH 66 ⟨Nat.le_of_ble_eq_true rfl, Nat.le_of_ble_eq_true rfl⟩ ⟨rfl, rfl⟩ (vI (by omega) (by omega)) dX2_partOf_36 ?_
            exact xiret (pc := 37) C0 hr hH hS dX2_partOf_37 ⟨rfl, trivial⟩
  refine lv_iconst (pc := 0) (v := 0) C0.1 C0.2.1 dX2_partOf_0 (by decide) ?_
  refine lv_istore_n (pc := 1) (lv' := [(3, .int 0), (0, .ref (b + 59)), (1, .int x), (2, .int y)]) C0.1 C0.2.1 dX2_partOf_1 rfl hl (by decide) rfl (fun ls hl => ?_)
  refine lv_iconst (pc := 2) (v := 0) C0.1 C0.2.1 dX2_partOf_2 (by decide) ?_
  refine lv_istore (pc := 3) (lv' := [(4, .int 0), (3, .int 0), (0, .ref (b + 59)), (1, .int x), (2, .int y)]) C0.1 C0.2.1 dX2_partOf_3 hl (by decide) rfl (fun ls hl => ?_)
  exact LOOP 1201 0 0 _ _ _ (by have : Int32.toInt 0 = 0 := rfl; omega) (by have : Int32.toInt 0 = 0 := rfl; omega) hH hS (lv_sub hl [0, 1, 2, 3, 4] rfl)
set_option maxHeartbeats 4000000 in
set_option maxRecDepth 100000 in
theorem g_X2_find_48 (l : Launch) (D : va_G) (tA : Nat → ClassId) (b : Nat) (i F : Nat → Nat → Int32) (G : Nat → Nat → Int64) (x y : Int32) (hT : Tf48 i F) : xMI l yX2_find cX2_find 4 (some .int) 0 0 D tA b 0 78 i F G [.ref (b + 59), .int x, .int y] (fun r u => u = (i, F, G) ∧ True) := by
  refine xstart RX2 rfl (by decide) (Nat.le_of_ble_eq_true rfl) ?_
  intro p e s m below meth c ls C0 hr hH hS hl
  have hl : lv_has ls 4 [(0, .ref (b + 59)), (1, .int x), (2, .int y)] := hl
  have rg_x := fb_rng x
  have rg_y := fb_rng y
  have hL := Tf48.lin hT
  have LOOP : ∀ (d : Nat) (k : Int32) (H : Heap) (locs : List Loc) (ls : Array Slot), (0 ≤ k.toInt) → ((i 59 5).toInt - k.toInt ≤ d) → Hd D tA b 0 78 zz i F G H → va_S (xA b 0 78) s.heap H locs → lv_has ls 4 [(3, .int k), (0, .ref (b + 59)), (1, .int x), (2, .int y)] → W p l e (xR 0 0) s m ([.ref (b + 59), .int x, .int y] : List Value).toArray below meth c H locs 0 0 (MQ below (va_Qi (fun r u => u = (i, F, G) ∧ True) (xB D tA b 0 78 zz) (xA b 0 78)) ([.ref (b + 59), .int x, .int y] : List Value).toArray s 0 0 (xA b 0 78)) (F0 m 2 ls []) := by
    intro d
    induction d with
    | zero =>
      intro k H locs ls h1 h2 hH hS hl
      have rg_k := fb_rng k
      refine lv_iload_n (pc := 2) C0.1 C0.2.1 dX2_find_2 rfl (lv_at hl 0 rfl) ?_
      refine lv_aload_n (pc := 3) C0.1 C0.2.1 dX2_find_3 rfl (lv_at hl 1 rfl) ?_
      refine xget (pc := 4) C0 hH 59 5 clX2 ⟨Nat.le_of_ble_eq_true rfl, Nat.le_of_ble_eq_true rfl⟩ ⟨rfl, rfl⟩ (Nat.le_of_ble_eq_true rfl) fl_X2_33 (v := .int (i 59 5)) rfl dX2_find_4 ?_
      refine lv_icmp_ge (pc := 7) (tgt := 38) C0.1 C0.2.1 dX2_find_7 (by decide) (fun _ => ?_) (fun c => absurd (Int32.le_iff_toInt_le.mpr (by omega)) c)
      refine lv_bipush (pc := 38) (v := (-12)) C0.1 C0.2.1 dX2_find_38 (by decide) ?_
      exact xiret (pc := 40) C0 hr hH hS dX2_find_40 ⟨rfl, trivial⟩
    | succ d ih =>
      intro k H locs ls h1 h2 hH hS hl
      have rg_k := fb_rng k
      refine lv_iload_n (pc := 2) C0.1 C0.2.1 dX2_find_2 rfl (lv_at hl 0 rfl) ?_
      refine lv_aload_n (pc := 3) C0.1 C0.2.1 dX2_find_3 rfl (lv_at hl 1 rfl) ?_
      refine xget (pc := 4) C0 hH 59 5 clX2 ⟨Nat.le_of_ble_eq_true rfl, Nat.le_of_ble_eq_true rfl⟩ ⟨rfl, rfl⟩ (Nat.le_of_ble_eq_true rfl) fl_X2_33 (v := .int (i 59 5)) rfl dX2_find_4 ?_
      refine lv_icmp_ge (pc := 7) (tgt := 38) C0.1 C0.2.1 dX2_find_7 (by decide) (fun c101 => ?_) (fun c101 => ?_)
      · have c101 := Int32.le_iff_toInt_le.mp c101
        refine lv_bipush (pc := 38) (v := (-12)) C0.1 C0.2.1 dX2_find_38 (by decide) ?_
        exact xiret (pc := 40) C0 hr hH hS dX2_find_40 ⟨rfl, trivial⟩
      · have c101 : ¬ _ := fun q => c101 (Int32.le_iff_toInt_le.mpr q)
        refine lv_aload_n (pc := 10) C0.1 C0.2.1 dX2_find_10 rfl (lv_at hl 1 rfl) ?_
        refine xget (pc := 11) C0 hH 59 0 clX2 ⟨Nat.le_of_ble_eq_true rfl, Nat.le_of_ble_eq_true rfl⟩ ⟨rfl, rfl⟩ (Nat.le_of_ble_eq_true rfl) fl_X2_9 (v := .ref (b + 60)) rfl dX2_find_11 ?_
        refine lv_iload_n (pc := 14) C0.1 C0.2.1 dX2_find_14 rfl (lv_at hl 0 rfl) ?_
        refine xiald (pc := 15) (N := 1200) C0 hH 60 ⟨Nat.le_of_ble_eq_true rfl, Nat.le_of_ble_eq_true rfl⟩ ⟨rfl, rfl⟩ (vI (by omega) (by omega)) dX2_find_15 ?_
        refine lv_iload_n (pc := 16) C0.1 C0.2.1 dX2_find_16 rfl (lv_at hl 2 rfl) ?_
        refine lv_icmp_ne (pc := 17) (tgt := 32) C0.1 C0.2.1 dX2_find_17 (by decide) (fun c102 => ?_) (fun c102 => ?_)
        · have c102 : ¬ _ := fun q => c102 (Int32.toInt_inj.mp q)
          obtain ⟨x103, ex103⟩ : ∃ y_ : Int32, y_ = k + 1 := ⟨_, rfl⟩
          have : Int32.toInt 1 = 1 := rfl
          have hx103 : Int32.toInt x103 = Int32.toInt k + Int32.toInt 1 := by rw [ex103]; exact fb_addI (by omega) (by omega)
          refine lv_iinc (pc := 32) (v := x103) (lv' := [(3, .int x103), (0, .ref (b + 59)), (1, .int x), (2, .int y)]) C0.1 C0.2.1 dX2_find_32 hl (k := 0) rfl (by rw [ex103]; rfl) (by decide) rfl (fun ls hl => ?_)
          refine lv_goto (pc := 35) (tgt := 2) C0.1 C0.2.1 dX2_find_35 (by decide) ?_
          exact ih x103 _ _ _ (by omega) (by omega) hH hS (lv_sub hl [0, 1, 2, 3] rfl)
        · have c102 := congrArg Int32.toInt c102
          refine lv_aload_n (pc := 20) C0.1 C0.2.1 dX2_find_20 rfl (lv_at hl 1 rfl) ?_
          refine xget (pc := 21) C0 hH 59 1 clX2 ⟨Nat.le_of_ble_eq_true rfl, Nat.le_of_ble_eq_true rfl⟩ ⟨rfl, rfl⟩ (Nat.le_of_ble_eq_true rfl) fl_X2_15 (v := .ref (b + 61)) rfl dX2_find_21 ?_
          refine lv_iload_n (pc := 24) C0.1 C0.2.1 dX2_find_24 rfl (lv_at hl 0 rfl) ?_
          refine xiald (pc := 25) (N := 1200) C0 hH 61 ⟨Nat.le_of_ble_eq_true rfl, Nat.le_of_ble_eq_true rfl⟩ ⟨rfl, rfl⟩ (vI (by omega) (by omega)) dX2_find_25 ?_
          refine lv_iload_n (pc := 26) C0.1 C0.2.1 dX2_find_26 rfl (lv_at hl 3 rfl) ?_
          refine lv_icmp_ne (pc := 27) (tgt := 32) C0.1 C0.2.1 dX2_find_27 (by decide) (fun c104 => ?_) (fun c104 => ?_)
          · have c104 : ¬ _ := fun q => c104 (Int32.toInt_inj.mp q)
            obtain ⟨x105, ex105⟩ : ∃ y_ : Int32, y_ = k + 1 := ⟨_, rfl⟩
            have : Int32.toInt 1 = 1 := rfl
            have hx105 : Int32.toInt x105 = Int32.toInt k + Int32.toInt 1 := by rw [ex105]; exact fb_addI (by omega) (by omega)
            refine lv_iinc (pc := 32) (v := x105) (lv' := [(3, .int x105), (0, .ref (b + 59)), (1, .int x), (2, .int y)]) C0.1 C0.2.1 dX2_find_32 hl (k := 0) rfl (by rw [ex105]; rfl) (by decide) rfl (fun ls hl => ?_)
            refine lv_goto (pc := 35) (tgt := 2) C0.1 C0.2.1 dX2_find_35 (by decide) ?_
            exact ih x105 _ _ _ (by omega) (by omega) hH hS (lv_sub hl [0, 1, 2, 3] rfl)
          · have c104 := congrArg Int32.toInt c104
            refine lv_iload_n (pc := 30) C0.1 C0.2.1 dX2_find_30 rfl (lv_at hl 0 rfl) ?_
            exact xiret (pc := 31) C0 hr hH hS dX2_find_31 ⟨rfl, trivial⟩
  refine lv_iconst (pc := 0) (v := 0) C0.1 C0.2.1 dX2_find_0 (by decide) ?_
  refine lv_istore_n (pc := 1) (lv' := [(3, .int 0), (0, .ref (b + 59)), (1, .int x), (2, .int y)]) C0.1 C0.2.1 dX2_find_1 rfl hl (by decide) rfl (fun ls hl => ?_)
  exact LOOP 1200 0 _ _ _ (by have : Int32.toInt 0 = 0 := rfl; omega) (by have : Int32.toInt 0 = 0 := rfl; omega) hH hS (lv_sub hl [0, 1, 2, 3] rfl)
set_option maxHeartbeats 4000000 in
set_option maxRecDepth 100000 in
theorem g_X8_blockOf_48 (l : Launch) (D : va_G) (tA : Nat → ClassId) (b : Nat) (i F : Nat → Nat → Int32) (G : Nat → Nat → Int64) (x : Int32) (hT : Tf48 i F) : xMI l yX8_blockOf cX8_blockOf 3 (some .int) 1 21 D tA b 0 78 i F G [.ref (b + 48), .int x] (fun r u => u = (i, F, G) ∧ True) := by
  refine xstart RX8 rfl (by decide) (Nat.le_of_ble_eq_true rfl) ?_
  intro p e s m below meth c ls C0 hr hH hS hl
  have hl : lv_has ls 3 [(0, .ref (b + 48)), (1, .int x)] := hl
  have rg_x := fb_rng x
  have hL := Tf48.lin hT
  have h6 : Int32.toInt (nI 600) = 600 := rfl
  refine lv_iload_n (pc := 0) C0.1 C0.2.1 dX8_blockOf_0 rfl (lv_at hl 1 rfl) ?_
  refine lv_if_lt (pc := 1) (tgt := 22) C0.1 C0.2.1 dX8_blockOf_1 (by decide) (fun c1 => ?_) (fun c1 => ?_)
  · have : Int32.toInt 0 = 0 := rfl
    have c1 := Int32.lt_iff_toInt_lt.mp c1
    refine lv_bipush (pc := 22) (v := (-9)) C0.1 C0.2.1 dX8_blockOf_22 (by decide) ?_
    refine lv_istore_n (pc := 24) (lv' := [(2, .int (-9)), (0, .ref (b + 48)), (1, .int x)]) C0.1 C0.2.1 dX8_blockOf_24 rfl hl (by decide) rfl (fun ls hl => ?_)
    refine lv_aload_n (pc := 25) C0.1 C0.2.1 dX8_blockOf_25 rfl (lv_at hl 1 rfl) ?_
    refine xget (pc := 26) C0 hH 48 1 clX8 ⟨Nat.le_of_ble_eq_true rfl, Nat.le_of_ble_eq_true rfl⟩ ⟨rfl, rfl⟩ (Nat.le_of_ble_eq_true rfl) fl_X8_21 (v := .ref (b + 59)) rfl dX8_blockOf_26 ?_
    refine lv_iload_n (pc := 29) C0.1 C0.2.1 dX8_blockOf_29 rfl (lv_at hl 0 rfl) ?_
    refine xcVI (pc := 30) 59 [.int (-9)] (g_X2_has_59 l D tA b i F G (-9) ) C0 hH hS clX2 rfl ⟨⟨Nat.le_of_ble_eq_true rfl, Nat.le_of_ble_eq_true rfl⟩, rfl, rfl⟩ cw_X8_80 rfl ⟨Nat.le_of_ble_eq_true rfl, Nat.le_of_ble_eq_true rfl⟩ hl.1 rfl (Nat.le_of_ble_eq_true rfl) dX8_blockOf_30 ⟨Nat.le_of_ble_eq_true rfl, Nat.le_of_ble_eq_true rfl⟩ (fun r2 ir2 Fr2 Gr2 _ locs hp hH hS => ?_)
    obtain ⟨hu, hpr2⟩ := hp
    cases hu
    refine lv_if_eq (pc := 33) (tgt := 48) C0.1 C0.2.1 dX8_blockOf_33 (by decide) (fun c3 => ?_) (fun c3 => ?_)
    · have : Int32.toInt 0 = 0 := rfl
      have c3 := congrArg Int32.toInt c3
      refine lv_bipush (pc := 48) (v := (-9)) C0.1 C0.2.1 dX8_blockOf_48 (by decide) ?_
      exact xiret (pc := 50) C0 hr hH hS dX8_blockOf_50 ⟨rfl, trivial⟩
    · have : Int32.toInt 0 = 0 := rfl
      have c3 : ¬ _ := fun q => c3 (Int32.toInt_inj.mp q)
      refine lv_aload_n (pc := 36) C0.1 C0.2.1 dX8_blockOf_36 rfl (lv_at hl 1 rfl) ?_
      refine xget (pc := 37) C0 hH 48 1 clX8 ⟨Nat.le_of_ble_eq_true rfl, Nat.le_of_ble_eq_true rfl⟩ ⟨rfl, rfl⟩ (Nat.le_of_ble_eq_true rfl) fl_X8_21 (v := .ref (b + 59)) rfl dX8_blockOf_37 ?_
      refine xget (pc := 40) C0 hH 59 0 clX2 ⟨Nat.le_of_ble_eq_true rfl, Nat.le_of_ble_eq_true rfl⟩ ⟨rfl, rfl⟩ (Nat.le_of_ble_eq_true rfl) fl_X8_84 (v := .ref (b + 60)) rfl dX8_blockOf_40 ?_
      refine lv_iload_n (pc := 43) C0.1 C0.2.1 dX8_blockOf_43 rfl (lv_at hl 0 rfl) ?_
      have : Int32.toInt (-9) = (-9) := rfl
      refine xiald (pc := 44) (N := 1200) C0 hH 60 ⟨Nat.le_of_ble_eq_true rfl, Nat.le_of_ble_eq_true rfl⟩ ⟨rfl, rfl⟩ (vI (by omega) (by omega)) dX8_blockOf_44 ?_
      refine lv_goto (pc := 45) (tgt := 50) C0.1 C0.2.1 dX8_blockOf_45 (by decide) ?_
      exact xiret (pc := 50) C0 hr hH hS dX8_blockOf_50 ⟨rfl, trivial⟩
  · have : Int32.toInt 0 = 0 := rfl
    have c1 : ¬ _ := fun q => c1 (Int32.lt_iff_toInt_lt.mpr q)
    refine lv_iload_n (pc := 4) C0.1 C0.2.1 dX8_blockOf_4 rfl (lv_at hl 1 rfl) ?_
    refine lv_aload_n (pc := 5) C0.1 C0.2.1 dX8_blockOf_5 rfl (lv_at hl 0 rfl) ?_
    refine xget (pc := 6) C0 hH 48 2 clX8 ⟨Nat.le_of_ble_eq_true rfl, Nat.le_of_ble_eq_true rfl⟩ ⟨rfl, rfl⟩ (Nat.le_of_ble_eq_true rfl) fl_X8_25 (v := .ref (b + 67)) rfl dX8_blockOf_6 ?_
    refine xalen (pc := 9) (N := 600) (t := 50) C0 hH 67 ⟨Nat.le_of_ble_eq_true rfl, Nat.le_of_ble_eq_true rfl⟩ ⟨rfl, rfl⟩ (by decide) dX8_blockOf_9 ?_
    refine lv_icmp_ge (pc := 10) (tgt := 22) C0.1 C0.2.1 dX8_blockOf_10 (by decide) (fun c4 => ?_) (fun c4 => ?_)
    · have c4 := Int32.le_iff_toInt_le.mp c4
      refine lv_bipush (pc := 22) (v := (-9)) C0.1 C0.2.1 dX8_blockOf_22 (by decide) ?_
      refine lv_istore_n (pc := 24) (lv' := [(2, .int (-9)), (0, .ref (b + 48)), (1, .int x)]) C0.1 C0.2.1 dX8_blockOf_24 rfl hl (by decide) rfl (fun ls hl => ?_)
      refine lv_aload_n (pc := 25) C0.1 C0.2.1 dX8_blockOf_25 rfl (lv_at hl 1 rfl) ?_
      refine xget (pc := 26) C0 hH 48 1 clX8 ⟨Nat.le_of_ble_eq_true rfl, Nat.le_of_ble_eq_true rfl⟩ ⟨rfl, rfl⟩ (Nat.le_of_ble_eq_true rfl) fl_X8_21 (v := .ref (b + 59)) rfl dX8_blockOf_26 ?_
      refine lv_iload_n (pc := 29) C0.1 C0.2.1 dX8_blockOf_29 rfl (lv_at hl 0 rfl) ?_
      refine xcVI (pc := 30) 59 [.int (-9)] (g_X2_has_59 l D tA b i F G (-9) ) C0 hH hS clX2 rfl ⟨⟨Nat.le_of_ble_eq_true rfl, Nat.le_of_ble_eq_true rfl⟩, rfl, rfl⟩ cw_X8_80 rfl ⟨Nat.le_of_ble_eq_true rfl, Nat.le_of_ble_eq_true rfl⟩ hl.1 rfl (Nat.le_of_ble_eq_true rfl) dX8_blockOf_30 ⟨Nat.le_of_ble_eq_true rfl, Nat.le_of_ble_eq_true rfl⟩ (fun r5 ir5 Fr5 Gr5 _ locs hp hH hS => ?_)
      obtain ⟨hu, hpr5⟩ := hp
      cases hu
      refine lv_if_eq (pc := 33) (tgt := 48) C0.1 C0.2.1 dX8_blockOf_33 (by decide) (fun c6 => ?_) (fun c6 => ?_)
      · have : Int32.toInt 0 = 0 := rfl
        have c6 := congrArg Int32.toInt c6
        refine lv_bipush (pc := 48) (v := (-9)) C0.1 C0.2.1 dX8_blockOf_48 (by decide) ?_
        exact xiret (pc := 50) C0 hr hH hS dX8_blockOf_50 ⟨rfl, trivial⟩
      · have : Int32.toInt 0 = 0 := rfl
        have c6 : ¬ _ := fun q => c6 (Int32.toInt_inj.mp q)
        refine lv_aload_n (pc := 36) C0.1 C0.2.1 dX8_blockOf_36 rfl (lv_at hl 1 rfl) ?_
        refine xget (pc := 37) C0 hH 48 1 clX8 ⟨Nat.le_of_ble_eq_true rfl, Nat.le_of_ble_eq_true rfl⟩ ⟨rfl, rfl⟩ (Nat.le_of_ble_eq_true rfl) fl_X8_21 (v := .ref (b + 59)) rfl dX8_blockOf_37 ?_
        refine xget (pc := 40) C0 hH 59 0 clX2 ⟨Nat.le_of_ble_eq_true rfl, Nat.le_of_ble_eq_true rfl⟩ ⟨rfl, rfl⟩ (Nat.le_of_ble_eq_true rfl) fl_X8_84 (v := .ref (b + 60)) rfl dX8_blockOf_40 ?_
        refine lv_iload_n (pc := 43) C0.1 C0.2.1 dX8_blockOf_43 rfl (lv_at hl 0 rfl) ?_
        refine xiald (pc := 44) (N := 1200) C0 hH 60 ⟨Nat.le_of_ble_eq_true rfl, Nat.le_of_ble_eq_true rfl⟩ ⟨rfl, rfl⟩ (vI (by omega) (by omega)) dX8_blockOf_44 ?_
        refine lv_goto (pc := 45) (tgt := 50) C0.1 C0.2.1 dX8_blockOf_45 (by decide) ?_
        exact xiret (pc := 50) C0 hr hH hS dX8_blockOf_50 ⟨rfl, trivial⟩
    · have c4 : ¬ _ := fun q => c4 (Int32.le_iff_toInt_le.mpr q)
      refine lv_aload_n (pc := 13) C0.1 C0.2.1 dX8_blockOf_13 rfl (lv_at hl 0 rfl) ?_
      refine xget (pc := 14) C0 hH 48 2 clX8 ⟨Nat.le_of_ble_eq_true rfl, Nat.le_of_ble_eq_true rfl⟩ ⟨rfl, rfl⟩ (Nat.le_of_ble_eq_true rfl) fl_X8_25 (v := .ref (b + 67)) rfl dX8_blockOf_14 ?_
      refine lv_iload_n (pc := 17) C0.1 C0.2.1 dX8_blockOf_17 rfl (lv_at hl 1 rfl) ?_
      refine xiald (pc := 18) (N := 600) C0 hH 67 ⟨Nat.le_of_ble_eq_true rfl, Nat.le_of_ble_eq_true rfl⟩ ⟨rfl, rfl⟩ (vI (by omega) (by omega)) dX8_blockOf_18 ?_
      refine lv_goto (pc := 19) (tgt := 24) C0.1 C0.2.1 dX8_blockOf_19 (by decide) ?_
      refine lv_topi (fun x7 ex7 => ?_)
      refine lv_istore_n (pc := 24) (lv' := [(2, .int x7), (0, .ref (b + 48)), (1, .int x)]) C0.1 C0.2.1 dX8_blockOf_24 rfl hl (by decide) rfl (fun ls hl => ?_)
      refine lv_aload_n (pc := 25) C0.1 C0.2.1 dX8_blockOf_25 rfl (lv_at hl 1 rfl) ?_
      refine xget (pc := 26) C0 hH 48 1 clX8 ⟨Nat.le_of_ble_eq_true rfl, Nat.le_of_ble_eq_true rfl⟩ ⟨rfl, rfl⟩ (Nat.le_of_ble_eq_true rfl) fl_X8_21 (v := .ref (b + 59)) rfl dX8_blockOf_26 ?_
      refine lv_iload_n (pc := 29) C0.1 C0.2.1 dX8_blockOf_29 rfl (lv_at hl 0 rfl) ?_
      refine xcVI (pc := 30) 59 [.int x7] (g_X2_has_59 l D tA b i F G x7 ) C0 hH hS clX2 rfl ⟨⟨Nat.le_of_ble_eq_true rfl, Nat.le_of_ble_eq_true rfl⟩, rfl, rfl⟩ cw_X8_80 rfl ⟨Nat.le_of_ble_eq_true rfl, Nat.le_of_ble_eq_true rfl⟩ hl.1 rfl (Nat.le_of_ble_eq_true rfl) dX8_blockOf_30 ⟨Nat.le_of_ble_eq_true rfl, Nat.le_of_ble_eq_true rfl⟩ (fun r8 ir8 Fr8 Gr8 _ locs hp hH hS => ?_)
      obtain ⟨hu, hpr8⟩ := hp
      cases hu
      refine lv_if_eq (pc := 33) (tgt := 48) C0.1 C0.2.1 dX8_blockOf_33 (by decide) (fun c9 => ?_) (fun c9 => ?_)
      · have : Int32.toInt 0 = 0 := rfl
        have c9 := congrArg Int32.toInt c9
        refine lv_bipush (pc := 48) (v := (-9)) C0.1 C0.2.1 dX8_blockOf_48 (by decide) ?_
        exact xiret (pc := 50) C0 hr hH hS dX8_blockOf_50 ⟨rfl, trivial⟩
      · have : Int32.toInt 0 = 0 := rfl
        have c9 : ¬ _ := fun q => c9 (Int32.toInt_inj.mp q)
        refine lv_aload_n (pc := 36) C0.1 C0.2.1 dX8_blockOf_36 rfl (lv_at hl 1 rfl) ?_
        refine xget (pc := 37) C0 hH 48 1 clX8 ⟨Nat.le_of_ble_eq_true rfl, Nat.le_of_ble_eq_true rfl⟩ ⟨rfl, rfl⟩ (Nat.le_of_ble_eq_true rfl) fl_X8_21 (v := .ref (b + 59)) rfl dX8_blockOf_37 ?_
        refine xget (pc := 40) C0 hH 59 0 clX2 ⟨Nat.le_of_ble_eq_true rfl, Nat.le_of_ble_eq_true rfl⟩ ⟨rfl, rfl⟩ (Nat.le_of_ble_eq_true rfl) fl_X8_84 (v := .ref (b + 60)) rfl dX8_blockOf_40 ?_
        refine lv_iload_n (pc := 43) C0.1 C0.2.1 dX8_blockOf_43 rfl (lv_at hl 0 rfl) ?_
        refine xiald (pc := 44) (N := 1200) C0 hH 60 ⟨Nat.le_of_ble_eq_true rfl, Nat.le_of_ble_eq_true rfl⟩ ⟨rfl, rfl⟩ (vI (by omega) (by omega)) dX8_blockOf_44 ?_
        refine lv_goto (pc := 45) (tgt := 50) C0.1 C0.2.1 dX8_blockOf_45 (by decide) ?_
        exact xiret (pc := 50) C0 hr hH hS dX8_blockOf_50 ⟨rfl, trivial⟩
set_option maxHeartbeats 4000000 in
set_option maxRecDepth 100000 in
theorem g_X8_blockAround_48 (l : Launch) (D : va_G) (tA : Nat → ClassId) (b : Nat) (i F : Nat → Nat → Int32) (G : Nat → Nat → Int64) (x : Int32) (hT : Tf48 i F) : xMI l yX8_blockAround cX8_blockAround 3 (some .int) 1 21 D tA b 0 78 i F G [.ref (b + 48), .int x] (fun r u => u = (i, F, G) ∧ True) := by
  refine xstart RX8 rfl (by decide) (Nat.le_of_ble_eq_true rfl) ?_
  intro p e s m below meth c ls C0 hr hH hS hl
  have hl : lv_has ls 3 [(0, .ref (b + 48)), (1, .int x)] := hl
  have rg_x := fb_rng x
  have hL := Tf48.lin hT
  refine lv_aload_n (pc := 0) C0.1 C0.2.1 dX8_blockAround_0 rfl (lv_at hl 0 rfl) ?_
  refine xget (pc := 1) C0 hH 48 0 clX8 ⟨Nat.le_of_ble_eq_true rfl, Nat.le_of_ble_eq_true rfl⟩ ⟨rfl, rfl⟩ (Nat.le_of_ble_eq_true rfl) fl_X8_12 (v := .ref (b + 49)) rfl dX8_blockAround_1 ?_
  refine lv_iload_n (pc := 4) C0.1 C0.2.1 dX8_blockAround_4 rfl (lv_at hl 1 rfl) ?_
  refine xcVI (pc := 5) 49 [.int x] (g_X0_has_49 l D tA b i F G x ) C0 hH hS clX0 rfl ⟨⟨Nat.le_of_ble_eq_true rfl, Nat.le_of_ble_eq_true rfl⟩, rfl, rfl⟩ cw_X8_87 rfl ⟨Nat.le_of_ble_eq_true rfl, Nat.le_of_ble_eq_true rfl⟩ hl.1 rfl (Nat.le_of_ble_eq_true rfl) dX8_blockAround_5 ⟨Nat.le_of_ble_eq_true rfl, Nat.le_of_ble_eq_true rfl⟩ (fun r1 ir1 Fr1 Gr1 _ locs hp hH hS => ?_)
  obtain ⟨hu, hpr1⟩ := hp
  cases hu
  refine lv_if_eq (pc := 8) (tgt := 23) C0.1 C0.2.1 dX8_blockAround_8 (by decide) (fun c2 => ?_) (fun c2 => ?_)
  · have : Int32.toInt 0 = 0 := rfl
    have c2 := congrArg Int32.toInt c2
    refine lv_bipush (pc := 23) (v := (-9)) C0.1 C0.2.1 dX8_blockAround_23 (by decide) ?_
    refine lv_istore_n (pc := 25) (lv' := [(2, .int (-9)), (0, .ref (b + 48)), (1, .int x)]) C0.1 C0.2.1 dX8_blockAround_25 rfl hl (by decide) rfl (fun ls hl => ?_)
    refine lv_aload_n (pc := 26) C0.1 C0.2.1 dX8_blockAround_26 rfl (lv_at hl 1 rfl) ?_
    refine xget (pc := 27) C0 hH 48 1 clX8 ⟨Nat.le_of_ble_eq_true rfl, Nat.le_of_ble_eq_true rfl⟩ ⟨rfl, rfl⟩ (Nat.le_of_ble_eq_true rfl) fl_X8_21 (v := .ref (b + 59)) rfl dX8_blockAround_27 ?_
    refine lv_iload_n (pc := 30) C0.1 C0.2.1 dX8_blockAround_30 rfl (lv_at hl 0 rfl) ?_
    refine xcVI (pc := 31) 59 [.int (-9)] (g_X2_has_59 l D tA b i F G (-9) ) C0 hH hS clX2 rfl ⟨⟨Nat.le_of_ble_eq_true rfl, Nat.le_of_ble_eq_true rfl⟩, rfl, rfl⟩ cw_X8_80 rfl ⟨Nat.le_of_ble_eq_true rfl, Nat.le_of_ble_eq_true rfl⟩ hl.1 rfl (Nat.le_of_ble_eq_true rfl) dX8_blockAround_31 ⟨Nat.le_of_ble_eq_true rfl, Nat.le_of_ble_eq_true rfl⟩ (fun r3 ir3 Fr3 Gr3 _ locs hp hH hS => ?_)
    obtain ⟨hu, hpr3⟩ := hp
    cases hu
    refine lv_if_eq (pc := 34) (tgt := 49) C0.1 C0.2.1 dX8_blockAround_34 (by decide) (fun c4 => ?_) (fun c4 => ?_)
    · have : Int32.toInt 0 = 0 := rfl
      have c4 := congrArg Int32.toInt c4
      refine lv_bipush (pc := 49) (v := (-9)) C0.1 C0.2.1 dX8_blockAround_49 (by decide) ?_
      exact xiret (pc := 51) C0 hr hH hS dX8_blockAround_51 ⟨rfl, trivial⟩
    · have : Int32.toInt 0 = 0 := rfl
      have c4 : ¬ _ := fun q => c4 (Int32.toInt_inj.mp q)
      refine lv_aload_n (pc := 37) C0.1 C0.2.1 dX8_blockAround_37 rfl (lv_at hl 1 rfl) ?_
      refine xget (pc := 38) C0 hH 48 1 clX8 ⟨Nat.le_of_ble_eq_true rfl, Nat.le_of_ble_eq_true rfl⟩ ⟨rfl, rfl⟩ (Nat.le_of_ble_eq_true rfl) fl_X8_21 (v := .ref (b + 59)) rfl dX8_blockAround_38 ?_
      refine xget (pc := 41) C0 hH 59 0 clX2 ⟨Nat.le_of_ble_eq_true rfl, Nat.le_of_ble_eq_true rfl⟩ ⟨rfl, rfl⟩ (Nat.le_of_ble_eq_true rfl) fl_X8_84 (v := .ref (b + 60)) rfl dX8_blockAround_41 ?_
      refine lv_iload_n (pc := 44) C0.1 C0.2.1 dX8_blockAround_44 rfl (lv_at hl 0 rfl) ?_
      have : Int32.toInt (-9) = (-9) := rfl
      refine xiald (pc := 45) (N := 1200) C0 hH 60 ⟨Nat.le_of_ble_eq_true rfl, Nat.le_of_ble_eq_true rfl⟩ ⟨rfl, rfl⟩ (vI (by omega) (by omega)) dX8_blockAround_45 ?_
      refine lv_goto (pc := 46) (tgt := 51) C0.1 C0.2.1 dX8_blockAround_46 (by decide) ?_
      exact xiret (pc := 51) C0 hr hH hS dX8_blockAround_51 ⟨rfl, trivial⟩
  · have : Int32.toInt 0 = 0 := rfl
    have c2 : ¬ _ := fun q => c2 (Int32.toInt_inj.mp q)
    refine lv_aload_n (pc := 11) C0.1 C0.2.1 dX8_blockAround_11 rfl (lv_at hl 0 rfl) ?_
    refine xget (pc := 12) C0 hH 48 0 clX8 ⟨Nat.le_of_ble_eq_true rfl, Nat.le_of_ble_eq_true rfl⟩ ⟨rfl, rfl⟩ (Nat.le_of_ble_eq_true rfl) fl_X8_12 (v := .ref (b + 49)) rfl dX8_blockAround_12 ?_
    refine xget (pc := 15) C0 hH 49 2 clX0 ⟨Nat.le_of_ble_eq_true rfl, Nat.le_of_ble_eq_true rfl⟩ ⟨rfl, rfl⟩ (Nat.le_of_ble_eq_true rfl) fl_X8_88 (v := .ref (b + 52)) rfl dX8_blockAround_15 ?_
    refine lv_iload_n (pc := 18) C0.1 C0.2.1 dX8_blockAround_18 rfl (lv_at hl 1 rfl) ?_
    refine xiald (pc := 19) (N := 601) C0 hH 52 ⟨Nat.le_of_ble_eq_true rfl, Nat.le_of_ble_eq_true rfl⟩ ⟨rfl, rfl⟩ (vI (by omega) (by omega)) dX8_blockAround_19 ?_
    refine lv_goto (pc := 20) (tgt := 25) C0.1 C0.2.1 dX8_blockAround_20 (by decide) ?_
    refine lv_topi (fun x5 ex5 => ?_)
    refine lv_istore_n (pc := 25) (lv' := [(2, .int x5), (0, .ref (b + 48)), (1, .int x)]) C0.1 C0.2.1 dX8_blockAround_25 rfl hl (by decide) rfl (fun ls hl => ?_)
    refine lv_aload_n (pc := 26) C0.1 C0.2.1 dX8_blockAround_26 rfl (lv_at hl 1 rfl) ?_
    refine xget (pc := 27) C0 hH 48 1 clX8 ⟨Nat.le_of_ble_eq_true rfl, Nat.le_of_ble_eq_true rfl⟩ ⟨rfl, rfl⟩ (Nat.le_of_ble_eq_true rfl) fl_X8_21 (v := .ref (b + 59)) rfl dX8_blockAround_27 ?_
    refine lv_iload_n (pc := 30) C0.1 C0.2.1 dX8_blockAround_30 rfl (lv_at hl 0 rfl) ?_
    refine xcVI (pc := 31) 59 [.int x5] (g_X2_has_59 l D tA b i F G x5 ) C0 hH hS clX2 rfl ⟨⟨Nat.le_of_ble_eq_true rfl, Nat.le_of_ble_eq_true rfl⟩, rfl, rfl⟩ cw_X8_80 rfl ⟨Nat.le_of_ble_eq_true rfl, Nat.le_of_ble_eq_true rfl⟩ hl.1 rfl (Nat.le_of_ble_eq_true rfl) dX8_blockAround_31 ⟨Nat.le_of_ble_eq_true rfl, Nat.le_of_ble_eq_true rfl⟩ (fun r6 ir6 Fr6 Gr6 _ locs hp hH hS => ?_)
    obtain ⟨hu, hpr6⟩ := hp
    cases hu
    refine lv_if_eq (pc := 34) (tgt := 49) C0.1 C0.2.1 dX8_blockAround_34 (by decide) (fun c7 => ?_) (fun c7 => ?_)
    · have : Int32.toInt 0 = 0 := rfl
      have c7 := congrArg Int32.toInt c7
      refine lv_bipush (pc := 49) (v := (-9)) C0.1 C0.2.1 dX8_blockAround_49 (by decide) ?_
      exact xiret (pc := 51) C0 hr hH hS dX8_blockAround_51 ⟨rfl, trivial⟩
    · have : Int32.toInt 0 = 0 := rfl
      have c7 : ¬ _ := fun q => c7 (Int32.toInt_inj.mp q)
      refine lv_aload_n (pc := 37) C0.1 C0.2.1 dX8_blockAround_37 rfl (lv_at hl 1 rfl) ?_
      refine xget (pc := 38) C0 hH 48 1 clX8 ⟨Nat.le_of_ble_eq_true rfl, Nat.le_of_ble_eq_true rfl⟩ ⟨rfl, rfl⟩ (Nat.le_of_ble_eq_true rfl) fl_X8_21 (v := .ref (b + 59)) rfl dX8_blockAround_38 ?_
      refine xget (pc := 41) C0 hH 59 0 clX2 ⟨Nat.le_of_ble_eq_true rfl, Nat.le_of_ble_eq_true rfl⟩ ⟨rfl, rfl⟩ (Nat.le_of_ble_eq_true rfl) fl_X8_84 (v := .ref (b + 60)) rfl dX8_blockAround_41 ?_
      refine lv_iload_n (pc := 44) C0.1 C0.2.1 dX8_blockAround_44 rfl (lv_at hl 0 rfl) ?_
      refine xiald (pc := 45) (N := 1200) C0 hH 60 ⟨Nat.le_of_ble_eq_true rfl, Nat.le_of_ble_eq_true rfl⟩ ⟨rfl, rfl⟩ (vI (by omega) (by omega)) dX8_blockAround_45 ?_
      refine lv_goto (pc := 46) (tgt := 51) C0.1 C0.2.1 dX8_blockAround_46 (by decide) ?_
      exact xiret (pc := 51) C0 hr hH hS dX8_blockAround_51 ⟨rfl, trivial⟩
set_option maxHeartbeats 4000000 in
set_option maxRecDepth 100000 in
theorem g_X8_depthOf_48 (l : Launch) (D : va_G) (tA : Nat → ClassId) (b : Nat) (i F : Nat → Nat → Int32) (G : Nat → Nat → Int64) (x : Int32) (hT : Tf48 i F) : xMI l yX8_depthOf cX8_depthOf 3 (some .int) 2 43 D tA b 0 78 i F G [.ref (b + 48), .int x] (fun r u => u = (i, F, G) ∧ True) := by
  refine xstart RX8 rfl (by decide) (Nat.le_of_ble_eq_true rfl) ?_
  intro p e s m below meth c ls C0 hr hH hS hl
  have hl : lv_has ls 3 [(0, .ref (b + 48)), (1, .int x)] := hl
  have rg_x := fb_rng x
  have hL := Tf48.lin hT
  refine lv_aload_n (pc := 0) C0.1 C0.2.1 dX8_depthOf_0 rfl (lv_at hl 0 rfl) ?_
  refine lv_iload_n (pc := 1) C0.1 C0.2.1 dX8_depthOf_1 rfl (lv_at hl 1 rfl) ?_
  refine xcVI (pc := 2) 48 [.int x] (g_X8_blockOf_48 l D tA b i F G x hT) C0 hH hS clX8 rfl ⟨⟨Nat.le_of_ble_eq_true rfl, Nat.le_of_ble_eq_true rfl⟩, rfl, rfl⟩ cw_X8_91 rfl ⟨Nat.le_of_ble_eq_true rfl, Nat.le_of_ble_eq_true rfl⟩ hl.1 rfl (Nat.le_of_ble_eq_true rfl) dX8_depthOf_2 ⟨Nat.le_of_ble_eq_true rfl, Nat.le_of_ble_eq_true rfl⟩ (fun r1 ir1 Fr1 Gr1 _ locs hp hH hS => ?_)
  obtain ⟨hu, hpr1⟩ := hp
  cases hu
  refine lv_istore_n (pc := 5) (lv' := [(2, .int r1), (0, .ref (b + 48)), (1, .int x)]) C0.1 C0.2.1 dX8_depthOf_5 rfl hl (by decide) rfl (fun ls hl => ?_)
  refine lv_aload_n (pc := 6) C0.1 C0.2.1 dX8_depthOf_6 rfl (lv_at hl 1 rfl) ?_
  refine xget (pc := 7) C0 hH 48 0 clX8 ⟨Nat.le_of_ble_eq_true rfl, Nat.le_of_ble_eq_true rfl⟩ ⟨rfl, rfl⟩ (Nat.le_of_ble_eq_true rfl) fl_X8_12 (v := .ref (b + 49)) rfl dX8_depthOf_7 ?_
  refine lv_iload_n (pc := 10) C0.1 C0.2.1 dX8_depthOf_10 rfl (lv_at hl 0 rfl) ?_
  refine xcVI (pc := 11) 49 [.int r1] (g_X0_has_49 l D tA b i F G r1 ) C0 hH hS clX0 rfl ⟨⟨Nat.le_of_ble_eq_true rfl, Nat.le_of_ble_eq_true rfl⟩, rfl, rfl⟩ cw_X8_87 rfl ⟨Nat.le_of_ble_eq_true rfl, Nat.le_of_ble_eq_true rfl⟩ hl.1 rfl (Nat.le_of_ble_eq_true rfl) dX8_depthOf_11 ⟨Nat.le_of_ble_eq_true rfl, Nat.le_of_ble_eq_true rfl⟩ (fun r2 ir2 Fr2 Gr2 _ locs hp hH hS => ?_)
  obtain ⟨hu, hpr2⟩ := hp
  cases hu
  refine lv_if_eq (pc := 14) (tgt := 31) C0.1 C0.2.1 dX8_depthOf_14 (by decide) (fun c3 => ?_) (fun c3 => ?_)
  · have : Int32.toInt 0 = 0 := rfl
    have c3 := congrArg Int32.toInt c3
    refine lv_iconst (pc := 31) (v := 0) C0.1 C0.2.1 dX8_depthOf_31 (by decide) ?_
    exact xiret (pc := 32) C0 hr hH hS dX8_depthOf_32 ⟨rfl, trivial⟩
  · have : Int32.toInt 0 = 0 := rfl
    have c3 : ¬ _ := fun q => c3 (Int32.toInt_inj.mp q)
    refine lv_aload_n (pc := 17) C0.1 C0.2.1 dX8_depthOf_17 rfl (lv_at hl 1 rfl) ?_
    refine xget (pc := 18) C0 hH 48 0 clX8 ⟨Nat.le_of_ble_eq_true rfl, Nat.le_of_ble_eq_true rfl⟩ ⟨rfl, rfl⟩ (Nat.le_of_ble_eq_true rfl) fl_X8_12 (v := .ref (b + 49)) rfl dX8_depthOf_18 ?_
    refine xget (pc := 21) C0 hH 49 6 clX0 ⟨Nat.le_of_ble_eq_true rfl, Nat.le_of_ble_eq_true rfl⟩ ⟨rfl, rfl⟩ (Nat.le_of_ble_eq_true rfl) fl_X8_95 (v := .ref (b + 56)) rfl dX8_depthOf_21 ?_
    refine lv_iload_n (pc := 24) C0.1 C0.2.1 dX8_depthOf_24 rfl (lv_at hl 0 rfl) ?_
    refine xiald (pc := 25) (N := 601) C0 hH 56 ⟨Nat.le_of_ble_eq_true rfl, Nat.le_of_ble_eq_true rfl⟩ ⟨rfl, rfl⟩ (vI (by omega) (by omega)) dX8_depthOf_25 ?_
    refine lv_iconst (pc := 26) (v := 1) C0.1 C0.2.1 dX8_depthOf_26 (by decide) ?_
    refine lv_iadd (pc := 27) C0.1 C0.2.1 dX8_depthOf_27 ?_
    refine lv_goto (pc := 28) (tgt := 32) C0.1 C0.2.1 dX8_depthOf_28 (by decide) ?_
    exact xiret (pc := 32) C0 hr hH hS dX8_depthOf_32 ⟨rfl, trivial⟩
