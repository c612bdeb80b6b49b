set_option maxRecDepth 20000 in
theorem cw_X10_427 : CwV RX10 427 yX10_isLike cX10_isLike 4 (some .boolean) 1 := ⟨wm 1570 (by decide +kernel) rfl, wm 1572 (by decide +kernel) rfl, wms 82 (by decide +kernel) rfl, wm 11 (by decide +kernel) rfl, wm 1573 rfl rfl, by decide +kernel⟩
set_option maxRecDepth 20000 in
theorem cw_X10_430 : CwV RX10 430 yX10_readBoth cX10_readBoth 3 (some .boolean) 0 := ⟨wm 1562 (by decide +kernel) rfl, wm 1564 (by decide +kernel) rfl, wms 80 (by decide +kernel) rfl, wm 11 (by decide +kernel) rfl, wm 1565 rfl rfl, by decide +kernel⟩
set_option maxRecDepth 20000 in
theorem cw_X10_433 : CwV RX10 433 yX10_firstUnlike cX10_firstUnlike 2 (some .int) 0 := ⟨wm 1566 (by decide +kernel) rfl, wm 1568 (by decide +kernel) rfl, wms 81 (by decide +kernel) rfl, wm 11 (by decide +kernel) rfl, wm 1569 rfl rfl, by decide +kernel⟩
theorem dX10_isLike_63 : decode cX10_isLike 63 = .ok (.iload_n 3, 1) := by decide +kernel
theorem dX10_isLike_64 : decode cX10_isLike 64 = .ok (.aload_n 0, 1) := by decide +kernel
theorem dX10_isLike_65 : decode cX10_isLike 65 = .ok (.getfield 48, 3) := by decide +kernel
theorem dX10_isLike_68 : decode cX10_isLike 68 = .ok (.iload_n 1, 1) := by decide +kernel
theorem dX10_isLike_69 : decode cX10_isLike 69 = .ok (.iaload, 1) := by decide +kernel
theorem dX10_isLike_70 : decode cX10_isLike 70 = .ok (.if_icmp .ge 48, 3) := by decide +kernel
theorem dX10_isLike_118 : decode cX10_isLike 118 = .ok (.iload_n 2, 1) := by decide +kernel
theorem dX10_isLike_119 : decode cX10_isLike 119 = .ok (.ireturn, 1) := by decide +kernel
theorem dX10_isLike_73 : decode cX10_isLike 73 = .ok (.iload_n 2, 1) := by decide +kernel
theorem dX10_isLike_74 : decode cX10_isLike 74 = .ok (.ifCond .eq 44, 3) := by decide +kernel
theorem dX10_isLike_77 : decode cX10_isLike 77 = .ok (.aload_n 0, 1) := by decide +kernel
theorem dX10_isLike_78 : decode cX10_isLike 78 = .ok (.getfield 29, 3) := by decide +kernel
theorem dX10_isLike_81 : decode cX10_isLike 81 = .ok (.aload_n 0, 1) := by decide +kernel
theorem dX10_isLike_82 : decode cX10_isLike 82 = .ok (.getfield 45, 3) := by decide +kernel
theorem dX10_isLike_85 : decode cX10_isLike 85 = .ok (.iload_n 1, 1) := by decide +kernel
theorem dX10_isLike_86 : decode cX10_isLike 86 = .ok (.iaload, 1) := by decide +kernel
theorem dX10_isLike_87 : decode cX10_isLike 87 = .ok (.iload_n 3, 1) := by decide +kernel
theorem dX10_isLike_88 : decode cX10_isLike 88 = .ok (.iadd, 1) := by decide +kernel
theorem dX10_isLike_89 : decode cX10_isLike 89 = .ok (.baload, 1) := by decide +kernel
theorem dX10_isLike_90 : decode cX10_isLike 90 = .ok (.aload_n 0, 1) := by decide +kernel
theorem dX10_isLike_91 : decode cX10_isLike 91 = .ok (.getfield 33, 3) := by decide +kernel
theorem dX10_isLike_94 : decode cX10_isLike 94 = .ok (.aload_n 0, 1) := by decide +kernel
theorem dX10_isLike_95 : decode cX10_isLike 95 = .ok (.getfield 145, 3) := by decide +kernel
theorem dX10_isLike_98 : decode cX10_isLike 98 = .ok (.iload_n 1, 1) := by decide +kernel
theorem dX10_isLike_99 : decode cX10_isLike 99 = .ok (.iaload, 1) := by decide +kernel
theorem dX10_isLike_100 : decode cX10_isLike 100 = .ok (.iload_n 3, 1) := by decide +kernel
theorem dX10_isLike_101 : decode cX10_isLike 101 = .ok (.iadd, 1) := by decide +kernel
theorem dX10_isLike_102 : decode cX10_isLike 102 = .ok (.baload, 1) := by decide +kernel
theorem dX10_isLike_103 : decode cX10_isLike 103 = .ok (.if_icmp .ne 7, 3) := by decide +kernel
theorem dX10_isLike_110 : decode cX10_isLike 110 = .ok (.iconst 0, 1) := by decide +kernel
theorem dX10_isLike_111 : decode cX10_isLike 111 = .ok (.istore_n 2, 1) := by decide +kernel
theorem dX10_isLike_112 : decode cX10_isLike 112 = .ok (.iinc 3 1, 3) := by decide +kernel
theorem dX10_isLike_115 : decode cX10_isLike 115 = .ok (.goto (-52), 3) := by decide +kernel
theorem dX10_isLike_106 : decode cX10_isLike 106 = .ok (.iconst 1, 1) := by decide +kernel
theorem dX10_isLike_107 : decode cX10_isLike 107 = .ok (.goto 4, 3) := by decide +kernel
theorem dX10_isLike_0 : decode cX10_isLike 0 = .ok (.aload_n 0, 1) := by decide +kernel
theorem dX10_isLike_1 : decode cX10_isLike 1 = .ok (.getfield 48, 3) := by decide +kernel
theorem dX10_isLike_4 : decode cX10_isLike 4 = .ok (.iload_n 1, 1) := by decide +kernel
theorem dX10_isLike_5 : decode cX10_isLike 5 = .ok (.iaload, 1) := by decide +kernel
theorem dX10_isLike_6 : decode cX10_isLike 6 = .ok (.aload_n 0, 1) := by decide +kernel
theorem dX10_isLike_7 : decode cX10_isLike 7 = .ok (.getfield 148, 3) := by decide +kernel
theorem dX10_isLike_10 : decode cX10_isLike 10 = .ok (.iload_n 1, 1) := by decide +kernel
theorem dX10_isLike_11 : decode cX10_isLike 11 = .ok (.iaload, 1) := by decide +kernel
theorem dX10_isLike_12 : decode cX10_isLike 12 = .ok (.if_icmp .ne 47, 3) := by decide +kernel
theorem dX10_isLike_59 : decode cX10_isLike 59 = .ok (.iconst 0, 1) := by decide +kernel
theorem dX10_isLike_60 : decode cX10_isLike 60 = .ok (.istore_n 2, 1) := by decide +kernel
theorem dX10_isLike_61 : decode cX10_isLike 61 = .ok (.iconst 0, 1) := by decide +kernel
theorem dX10_isLike_62 : decode cX10_isLike 62 = .ok (.istore_n 3, 1) := by decide +kernel
theorem dX10_isLike_15 : decode cX10_isLike 15 = .ok (.aload_n 0, 1) := by decide +kernel
theorem dX10_isLike_16 : decode cX10_isLike 16 = .ok (.getfield 64, 3) := by decide +kernel
theorem dX10_isLike_19 : decode cX10_isLike 19 = .ok (.iload_n 1, 1) := by decide +kernel
theorem dX10_isLike_20 : decode cX10_isLike 20 = .ok (.iaload, 1) := by decide +kernel
theorem dX10_isLike_21 : decode cX10_isLike 21 = .ok (.aload_n 0, 1) := by decide +kernel
theorem dX10_isLike_22 : decode cX10_isLike 22 = .ok (.getfield 151, 3) := by decide +kernel
theorem dX10_isLike_25 : decode cX10_isLike 25 = .ok (.iload_n 1, 1) := by decide +kernel
theorem dX10_isLike_26 : decode cX10_isLike 26 = .ok (.iaload, 1) := by decide +kernel
theorem dX10_isLike_27 : decode cX10_isLike 27 = .ok (.if_icmp .ne 32, 3) := by decide +kernel
theorem dX10_isLike_30 : decode cX10_isLike 30 = .ok (.aload_n 0, 1) := by decide +kernel
theorem dX10_isLike_31 : decode cX10_isLike 31 = .ok (.getfield 94, 3) := by decide +kernel
theorem dX10_isLike_34 : decode cX10_isLike 34 = .ok (.aload_n 0, 1) := by decide +kernel
theorem dX10_isLike_35 : decode cX10_isLike 35 = .ok (.getfield 64, 3) := by decide +kernel
theorem dX10_isLike_38 : decode cX10_isLike 38 = .ok (.iload_n 1, 1) := by decide +kernel
theorem dX10_isLike_39 : decode cX10_isLike 39 = .ok (.iaload, 1) := by decide +kernel
theorem dX10_isLike_40 : decode cX10_isLike 40 = .ok (.iaload, 1) := by decide +kernel
theorem dX10_isLike_41 : decode cX10_isLike 41 = .ok (.aload_n 0, 1) := by decide +kernel
theorem dX10_isLike_42 : decode cX10_isLike 42 = .ok (.getfield 154, 3) := by decide +kernel
theorem dX10_isLike_45 : decode cX10_isLike 45 = .ok (.aload_n 0, 1) := by decide +kernel
theorem dX10_isLike_46 : decode cX10_isLike 46 = .ok (.getfield 151, 3) := by decide +kernel
theorem dX10_isLike_49 : decode cX10_isLike 49 = .ok (.iload_n 1, 1) := by decide +kernel
theorem dX10_isLike_50 : decode cX10_isLike 50 = .ok (.iaload, 1) := by decide +kernel
theorem dX10_isLike_51 : decode cX10_isLike 51 = .ok (.iaload, 1) := by decide +kernel
theorem dX10_isLike_52 : decode cX10_isLike 52 = .ok (.if_icmp .ne 7, 3) := by decide +kernel
theorem dX10_isLike_55 : decode cX10_isLike 55 = .ok (.iconst 1, 1) := by decide +kernel
theorem dX10_isLike_56 : decode cX10_isLike 56 = .ok (.goto 4, 3) := by decide +kernel
theorem dX10_firstUnlike_2 : decode cX10_firstUnlike 2 = .ok (.iload_n 1, 1) := by decide +kernel
theorem dX10_firstUnlike_3 : decode cX10_firstUnlike 3 = .ok (.aload_n 0, 1) := by decide +kernel
theorem dX10_firstUnlike_4 : decode cX10_firstUnlike 4 = .ok (.getfield 258, 3) := by decide +kernel
theorem dX10_firstUnlike_7 : decode cX10_firstUnlike 7 = .ok (.if_icmp .ge 25, 3) := by decide +kernel
theorem dX10_firstUnlike_32 : decode cX10_firstUnlike 32 = .ok (.iload_n 1, 1) := by decide +kernel
theorem dX10_firstUnlike_33 : decode cX10_firstUnlike 33 = .ok (.aload_n 0, 1) := by decide +kernel
theorem dX10_firstUnlike_34 : decode cX10_firstUnlike 34 = .ok (.getfield 258, 3) := by decide +kernel
theorem dX10_firstUnlike_37 : decode cX10_firstUnlike 37 = .ok (.if_icmp .lt 11, 3) := by decide +kernel
theorem dX10_firstUnlike_48 : decode cX10_firstUnlike 48 = .ok (.iload_n 1, 1) := by decide +kernel
theorem dX10_firstUnlike_49 : decode cX10_firstUnlike 49 = .ok (.goto 5, 3) := by decide +kernel
theorem dX10_firstUnlike_54 : decode cX10_firstUnlike 54 = .ok (.ireturn, 1) := by decide +kernel
theorem dX10_firstUnlike_40 : decode cX10_firstUnlike 40 = .ok (.iload_n 1, 1) := by decide +kernel
theorem dX10_firstUnlike_41 : decode cX10_firstUnlike 41 = .ok (.aload_n 0, 1) := by decide +kernel
theorem dX10_firstUnlike_42 : decode cX10_firstUnlike 42 = .ok (.getfield 418, 3) := by decide +kernel
theorem dX10_firstUnlike_45 : decode cX10_firstUnlike 45 = .ok (.if_icmp .ge 7, 3) := by decide +kernel
theorem dX10_firstUnlike_52 : decode cX10_firstUnlike 52 = .ok (.bipush (-9), 2) := by decide +kernel
theorem dX10_firstUnlike_10 : decode cX10_firstUnlike 10 = .ok (.iload_n 1, 1) := by decide +kernel
theorem dX10_firstUnlike_11 : decode cX10_firstUnlike 11 = .ok (.aload_n 0, 1) := by decide +kernel
theorem dX10_firstUnlike_12 : decode cX10_firstUnlike 12 = .ok (.getfield 418, 3) := by decide +kernel
theorem dX10_firstUnlike_15 : decode cX10_firstUnlike 15 = .ok (.if_icmp .ge 17, 3) := by decide +kernel
theorem dX10_firstUnlike_18 : decode cX10_firstUnlike 18 = .ok (.aload_n 0, 1) := by decide +kernel
theorem dX10_firstUnlike_19 : decode cX10_firstUnlike 19 = .ok (.iload_n 1, 1) := by decide +kernel
theorem dX10_firstUnlike_20 : decode cX10_firstUnlike 20 = .ok (.invokevirtual 427, 3) := by decide +kernel
theorem dX10_firstUnlike_23 : decode cX10_firstUnlike 23 = .ok (.ifCond .eq 9, 3) := by decide +kernel
theorem dX10_firstUnlike_26 : decode cX10_firstUnlike 26 = .ok (.iinc 1 1, 3) := by decide +kernel
theorem dX10_firstUnlike_29 : decode cX10_firstUnlike 29 = .ok (.goto (-27), 3) := by decide +kernel
theorem dX10_firstUnlike_0 : decode cX10_firstUnlike 0 = .ok (.iconst 0, 1) := by decide +kernel
theorem dX10_firstUnlike_1 : decode cX10_firstUnlike 1 = .ok (.istore_n 1, 1) := by decide +kernel
theorem dX10_same_98 : decode cX10_same 98 = .ok (.iload_n 2, 1) := by decide +kernel
theorem dX10_same_99 : decode cX10_same 99 = .ok (.aload_n 0, 1) := by decide +kernel
theorem dX10_same_100 : decode cX10_same 100 = .ok (.getfield 281, 3) := by decide +kernel
theorem dX10_same_103 : decode cX10_same 103 = .ok (.if_icmp .ge 49, 3) := by decide +kernel
theorem dX10_same_152 : decode cX10_same 152 = .ok (.iload_n 1, 1) := by decide +kernel
theorem dX10_same_153 : decode cX10_same 153 = .ok (.ifCond .eq 7, 3) := by decide +kernel
theorem dX10_same_160 : decode cX10_same 160 = .ok (.iconst 0, 1) := by decide +kernel
theorem dX10_same_161 : decode cX10_same 161 = .ok (.ireturn, 1) := by decide +kernel
theorem dX10_same_156 : decode cX10_same 156 = .ok (.iconst 1, 1) := by decide +kernel
theorem dX10_same_157 : decode cX10_same 157 = .ok (.goto 4, 3) := by decide +kernel
theorem dX10_same_106 : decode cX10_same 106 = .ok (.iload_n 1, 1) := by decide +kernel
theorem dX10_same_107 : decode cX10_same 107 = .ok (.ifCond .eq 45, 3) := by decide +kernel
theorem dX10_same_110 : decode cX10_same 110 = .ok (.aload_n 0, 1) := by decide +kernel
theorem dX10_same_111 : decode cX10_same 111 = .ok (.getfield 73, 3) := by decide +kernel
theorem dX10_same_114 : decode cX10_same 114 = .ok (.iload_n 2, 1) := by decide +kernel
theorem dX10_same_115 : decode cX10_same 115 = .ok (.iaload, 1) := by decide +kernel
theorem dX10_same_116 : decode cX10_same 116 = .ok (.aload_n 0, 1) := by decide +kernel
theorem dX10_same_117 : decode cX10_same 117 = .ok (.getfield 157, 3) := by decide +kernel
theorem dX10_same_120 : decode cX10_same 120 = .ok (.iload_n 2, 1) := by decide +kernel
theorem dX10_same_121 : decode cX10_same 121 = .ok (.iaload, 1) := by decide +kernel
theorem dX10_same_122 : decode cX10_same 122 = .ok (.if_icmp .ne 22, 3) := by decide +kernel
theorem dX10_same_144 : decode cX10_same 144 = .ok (.iconst 0, 1) := by decide +kernel
theorem dX10_same_145 : decode cX10_same 145 = .ok (.istore_n 1, 1) := by decide +kernel
theorem dX10_same_146 : decode cX10_same 146 = .ok (.iinc 2 1, 3) := by decide +kernel
theorem dX10_same_149 : decode cX10_same 149 = .ok (.goto (-51), 3) := by decide +kernel
theorem dX10_same_125 : decode cX10_same 125 = .ok (.aload_n 0, 1) := by decide +kernel
theorem dX10_same_126 : decode cX10_same 126 = .ok (.getfield 79, 3) := by decide +kernel
theorem dX10_same_129 : decode cX10_same 129 = .ok (.iload_n 2, 1) := by decide +kernel
theorem dX10_same_130 : decode cX10_same 130 = .ok (.iaload, 1) := by decide +kernel
theorem dX10_same_131 : decode cX10_same 131 = .ok (.aload_n 0, 1) := by decide +kernel
theorem dX10_same_132 : decode cX10_same 132 = .ok (.getfield 160, 3) := by decide +kernel
theorem dX10_same_135 : decode cX10_same 135 = .ok (.iload_n 2, 1) := by decide +kernel
theorem dX10_same_136 : decode cX10_same 136 = .ok (.iaload, 1) := by decide +kernel
theorem dX10_same_137 : decode cX10_same 137 = .ok (.if_icmp .ne 7, 3) := by decide +kernel
theorem dX10_same_140 : decode cX10_same 140 = .ok (.iconst 1, 1) := by decide +kernel
theorem dX10_same_141 : decode cX10_same 141 = .ok (.goto 4, 3) := by decide +kernel
theorem dX10_same_57 : decode cX10_same 57 = .ok (.iload_n 2, 1) := by decide +kernel
theorem dX10_same_58 : decode cX10_same 58 = .ok (.aload_n 0, 1) := by decide +kernel
theorem dX10_same_59 : decode cX10_same 59 = .ok (.getfield 287, 3) := by decide +kernel
theorem dX10_same_62 : decode cX10_same 62 = .ok (.if_icmp .ge 34, 3) := by decide +kernel
theorem dX10_same_96 : decode cX10_same 96 = .ok (.iconst 0, 1) := by decide +kernel
theorem dX10_same_97 : decode cX10_same 97 = .ok (.istore_n 2, 1) := by decide +kernel
theorem dX10_same_65 : decode cX10_same 65 = .ok (.iload_n 1, 1) := by decide +kernel
theorem dX10_same_66 : decode cX10_same 66 = .ok (.ifCond .eq 30, 3) := by decide +kernel
theorem dX10_same_69 : decode cX10_same 69 = .ok (.aload_n 0, 1) := by decide +kernel
theorem dX10_same_70 : decode cX10_same 70 = .ok (.getfield 94, 3) := by decide +kernel
theorem dX10_same_73 : decode cX10_same 73 = .ok (.iload_n 2, 1) := by decide +kernel
theorem dX10_same_74 : decode cX10_same 74 = .ok (.iaload, 1) := by decide +kernel
theorem dX10_same_75 : decode cX10_same 75 = .ok (.aload_n 0, 1) := by decide +kernel
theorem dX10_same_76 : decode cX10_same 76 = .ok (.getfield 154, 3) := by decide +kernel
theorem dX10_same_79 : decode cX10_same 79 = .ok (.iload_n 2, 1) := by decide +kernel
theorem dX10_same_80 : decode cX10_same 80 = .ok (.iaload, 1) := by decide +kernel
theorem dX10_same_81 : decode cX10_same 81 = .ok (.if_icmp .ne 7, 3) := by decide +kernel
theorem dX10_same_88 : decode cX10_same 88 = .ok (.iconst 0, 1) := by decide +kernel
theorem dX10_same_89 : decode cX10_same 89 = .ok (.istore_n 1, 1) := by decide +kernel
theorem dX10_same_90 : decode cX10_same 90 = .ok (.iinc 2 1, 3) := by decide +kernel
theorem dX10_same_93 : decode cX10_same 93 = .ok (.goto (-36), 3) := by decide +kernel
theorem dX10_same_84 : decode cX10_same 84 = .ok (.iconst 1, 1) := by decide +kernel
theorem dX10_same_85 : decode cX10_same 85 = .ok (.goto 4, 3) := by decide +kernel
theorem dX10_same_0 : decode cX10_same 0 = .ok (.aload_n 0, 1) := by decide +kernel
theorem dX10_same_1 : decode cX10_same 1 = .ok (.getfield 211, 3) := by decide +kernel
theorem dX10_same_4 : decode cX10_same 4 = .ok (.iconst 1, 1) := by decide +kernel
theorem dX10_same_5 : decode cX10_same 5 = .ok (.if_icmp .ne 10, 3) := by decide +kernel
theorem dX10_same_15 : decode cX10_same 15 = .ok (.bipush (-3), 2) := by decide +kernel
theorem dX10_same_17 : decode cX10_same 17 = .ok (.ireturn, 1) := by decide +kernel
theorem dX10_same_8 : decode cX10_same 8 = .ok (.aload_n 0, 1) := by decide +kernel
theorem dX10_same_9 : decode cX10_same 9 = .ok (.invokevirtual 430, 3) := by decide +kernel
theorem dX10_same_12 : decode cX10_same 12 = .ok (.ifCond .ne 6, 3) := by decide +kernel
theorem dX10_same_18 : decode cX10_same 18 = .ok (.aload_n 0, 1) := by decide +kernel
theorem dX10_same_19 : decode cX10_same 19 = .ok (.invokevirtual 433, 3) := by decide +kernel
theorem dX10_same_22 : decode cX10_same 22 = .ok (.bipush (-9), 2) := by decide +kernel
theorem dX10_same_24 : decode cX10_same 24 = .ok (.if_icmp .ne 29, 3) := by decide +kernel
theorem dX10_same_53 : decode cX10_same 53 = .ok (.iconst 0, 1) := by decide +kernel
theorem dX10_same_54 : decode cX10_same 54 = .ok (.istore_n 1, 1) := by decide +kernel
theorem dX10_same_55 : decode cX10_same 55 = .ok (.iconst 0, 1) := by decide +kernel
theorem dX10_same_56 : decode cX10_same 56 = .ok (.istore_n 2, 1) := by decide +kernel
theorem dX10_same_27 : decode cX10_same 27 = .ok (.aload_n 0, 1) := by decide +kernel
theorem dX10_same_28 : decode cX10_same 28 = .ok (.getfield 287, 3) := by decide +kernel
theorem dX10_same_31 : decode cX10_same 31 = .ok (.aload_n 0, 1) := by decide +kernel
theorem dX10_same_32 : decode cX10_same 32 = .ok (.getfield 424, 3) := by decide +kernel
theorem dX10_same_35 : decode cX10_same 35 = .ok (.if_icmp .ne 18, 3) := by decide +kernel
theorem dX10_same_38 : decode cX10_same 38 = .ok (.aload_n 0, 1) := by decide +kernel
theorem dX10_same_39 : decode cX10_same 39 = .ok (.getfield 281, 3) := by decide +kernel
theorem dX10_same_42 : decode cX10_same 42 = .ok (.aload_n 0, 1) := by decide +kernel
theorem dX10_same_43 : decode cX10_same 43 = .ok (.getfield 421, 3) := by decide +kernel
theorem dX10_same_46 : decode cX10_same 46 = .ok (.if_icmp .ne 7, 3) := by decide +kernel
theorem dX10_same_49 : decode cX10_same 49 = .ok (.iconst 1, 1) := by decide +kernel
theorem dX10_same_50 : decode cX10_same 50 = .ok (.goto 4, 3) := by decide +kernel
theorem dX10_parts_0 : decode cX10_parts 0 = .ok (.aload_n 0, 1) := by decide +kernel
theorem dX10_parts_1 : decode cX10_parts 1 = .ok (.getfield 211, 3) := by decide +kernel
theorem dX10_parts_4 : decode cX10_parts 4 = .ok (.iconst 1, 1) := by decide +kernel
theorem dX10_parts_5 : decode cX10_parts 5 = .ok (.if_icmp .ne 10, 3) := by decide +kernel
theorem dX10_parts_15 : decode cX10_parts 15 = .ok (.bipush (-3), 2) := by decide +kernel
theorem dX10_parts_17 : decode cX10_parts 17 = .ok (.goto 7, 3) := by decide +kernel
theorem dX10_parts_24 : decode cX10_parts 24 = .ok (.ireturn, 1) := by decide +kernel
theorem dX10_parts_8 : decode cX10_parts 8 = .ok (.aload_n 0, 1) := by decide +kernel
theorem dX10_parts_9 : decode cX10_parts 9 = .ok (.invokevirtual 430, 3) := by decide +kernel
theorem dX10_parts_12 : decode cX10_parts 12 = .ok (.ifCond .ne 8, 3) := by decide +kernel
theorem dX10_parts_20 : decode cX10_parts 20 = .ok (.aload_n 0, 1) := by decide +kernel
theorem dX10_parts_21 : decode cX10_parts 21 = .ok (.invokevirtual 433, 3) := by decide +kernel
set_option maxHeartbeats 4000000 in
set_option maxRecDepth 100000 in
theorem m_isLike (l : Launch) (D : va_G) (tA : Nat → ClassId) (b : Nat) (i F : Nat → Nat → Int32) (G : Nat → Nat → Int64) (x : Int32) (hI : IMm i F) (hx : 0 ≤ x.toInt ∧ x.toInt < 600) : xMI l yX10_isLike cX10_isLike 4 (some .boolean) 0 0 D tA b 78 52 i F G [.ref (b + 78), .int x] (fun r u => u = (i, F, G) ∧ True) := by
  refine xstart RX10 rfl (by decide) (Nat.le_of_ble_eq_true rfl) ?_
  intro p e s m below meth c ls C0 hr hH hS hl
  have hl : lv_has ls 4 [(0, .ref (b + 78)), (1, .int x)] := hl
  have rg_x := fb_rng x
  have hI0 := hI
  obtain ⟨hsz, hbt, hks, hsrc, hTK, hCB, hWA, hwr, hmk, hG, hKA, hKI⟩ := hI0
  have hTKl := hTK.1
  have L63 : ∀ (d : Nat) (k q : Int32) (H : Heap) (locs : List Loc) (ls : Array Slot), (0 ≤ k.toInt) → ((F 90 (Int32.toNatClampNeg x)).toInt - k.toInt ≤ d) → (¬ q = 0 → F 90 (Int32.toNatClampNeg x) = F 123 (Int32.toNatClampNeg x)) → (q = 0 ∨ q = 1) → Hd D tA b 78 52 zz i F G H → va_S (xA b 78 52) s.heap H locs → lv_has ls 4 [(3, .int k), (2, .int q), (0, .ref (b + 78)), (1, .int x)] → W p l e (xR 0 0) s m ([.ref (b + 78), .int x] : List Value).toArray below meth c H locs 0 0 (MQ below (va_Qi (fun r u => u = (i, F, G) ∧ True) (xB D tA b 78 52 zz) (xA b 78 52)) ([.ref (b + 78), .int x] : List Value).toArray s 0 0 (xA b 78 52)) (F0 m 63 ls []) := by
    intro d
    induction d with
    | zero =>
      intro k q H locs ls h1 h2 h3 h4 hH hS hl
      have rg_k := fb_rng k
      have rg_q := fb_rng q
      have hat := hTK.2.1 (Int32.toNatClampNeg x)
      have hka := hKA (Int32.toNatClampNeg x)
      refine lv_iload_n (pc := 63) C0.1 C0.2.1 dX10_isLike_63 rfl (lv_at hl 0 rfl) ?_
      refine lv_aload_n (pc := 64) C0.1 C0.2.1 dX10_isLike_64 rfl (lv_at hl 2 rfl) ?_
      refine xget (pc := 65) C0 hH 78 22 clX10 ⟨Nat.le_of_ble_eq_true rfl, Nat.le_of_ble_eq_true rfl⟩ ⟨rfl, rfl⟩ (Nat.le_of_ble_eq_true rfl) fl_X10_48 (v := .ref (b + 90)) rfl dX10_isLike_65 ?_
      refine lv_iload_n (pc := 68) C0.1 C0.2.1 dX10_isLike_68 rfl (lv_at hl 3 rfl) ?_
      refine xiald (pc := 69) (N := 600) C0 hH 90 ⟨Nat.le_of_ble_eq_true rfl, Nat.le_of_ble_eq_true rfl⟩ ⟨rfl, rfl⟩ (vI (by omega) (by omega)) dX10_isLike_69 ?_
      refine lv_icmp_ge (pc := 70) (tgt := 118) C0.1 C0.2.1 dX10_isLike_70 (by decide) (fun _ => ?_) (fun c => absurd (Int32.le_iff_toInt_le.mpr (by omega)) c)
      refine lv_iload_n (pc := 118) C0.1 C0.2.1 dX10_isLike_118 rfl (lv_at hl 1 rfl) ?_
      exact xzret (pc := 119) C0 hr hH hS dX10_isLike_119 h4 ⟨rfl, trivial⟩
    | succ d ih63 =>
      intro k q H locs ls h1 h2 h3 h4 hH hS hl
      have rg_k := fb_rng k
      have rg_q := fb_rng q
      have hat := hTK.2.1 (Int32.toNatClampNeg x)
      have hka := hKA (Int32.toNatClampNeg x)
      refine lv_iload_n (pc := 63) C0.1 C0.2.1 dX10_isLike_63 rfl (lv_at hl 0 rfl) ?_
      refine lv_aload_n (pc := 64) C0.1 C0.2.1 dX10_isLike_64 rfl (lv_at hl 2 rfl) ?_
      refine xget (pc := 65) C0 hH 78 22 clX10 ⟨Nat.le_of_ble_eq_true rfl, Nat.le_of_ble_eq_true rfl⟩ ⟨rfl, rfl⟩ (Nat.le_of_ble_eq_true rfl) fl_X10_48 (v := .ref (b + 90)) rfl dX10_isLike_65 ?_
      refine lv_iload_n (pc := 68) C0.1 C0.2.1 dX10_isLike_68 rfl (lv_at hl 3 rfl) ?_
      refine xiald (pc := 69) (N := 600) C0 hH 90 ⟨Nat.le_of_ble_eq_true rfl, Nat.le_of_ble_eq_true rfl⟩ ⟨rfl, rfl⟩ (vI (by omega) (by omega)) dX10_isLike_69 ?_
      refine lv_icmp_ge (pc := 70) (tgt := 118) C0.1 C0.2.1 dX10_isLike_70 (by decide) (fun c201 => ?_) (fun c201 => ?_)
      · have c201 := Int32.le_iff_toInt_le.mp c201
        refine lv_iload_n (pc := 118) C0.1 C0.2.1 dX10_isLike_118 rfl (lv_at hl 1 rfl) ?_
        exact xzret (pc := 119) C0 hr hH hS dX10_isLike_119 h4 ⟨rfl, trivial⟩
      · have c201 : ¬ _ := fun q => c201 (Int32.le_iff_toInt_le.mpr q)
        refine lv_iload_n (pc := 73) C0.1 C0.2.1 dX10_isLike_73 rfl (lv_at hl 1 rfl) ?_
        refine lv_if_eq (pc := 74) (tgt := 118) C0.1 C0.2.1 dX10_isLike_74 (by decide) (fun c202 => ?_) (fun c202 => ?_)
        · have : Int32.toInt 0 = 0 := rfl
          have c202 := congrArg Int32.toInt c202
          refine lv_iload_n (pc := 118) C0.1 C0.2.1 dX10_isLike_118 rfl (lv_at hl 1 rfl) ?_
          exact xzret (pc := 119) C0 hr hH hS dX10_isLike_119 h4 ⟨rfl, trivial⟩
        · have : Int32.toInt 0 = 0 := rfl
          have c202 : ¬ _ := fun q => c202 (Int32.toInt_inj.mp q)
          have hq : F 90 (Int32.toNatClampNeg x) = F 123 (Int32.toNatClampNeg x) := h3 (by first | assumption | exact fun w => absurd (congrArg Int32.toInt w) (by assumption))
          have hqI := congrArg Int32.toInt hq
          refine lv_aload_n (pc := 77) C0.1 C0.2.1 dX10_isLike_77 rfl (lv_at hl 2 rfl) ?_
          refine xget (pc := 78) C0 hH 78 11 clX10 ⟨Nat.le_of_ble_eq_true rfl, Nat.le_of_ble_eq_true rfl⟩ ⟨rfl, rfl⟩ (Nat.le_of_ble_eq_true rfl) fl_X10_29 (v := .ref (b + 85)) rfl dX10_isLike_78 ?_
          refine lv_aload_n (pc := 81) C0.1 C0.2.1 dX10_isLike_81 rfl (lv_at hl 2 rfl) ?_
          refine xget (pc := 82) C0 hH 78 21 clX10 ⟨Nat.le_of_ble_eq_true rfl, Nat.le_of_ble_eq_true rfl⟩ ⟨rfl, rfl⟩ (Nat.le_of_ble_eq_true rfl) fl_X10_45 (v := .ref (b + 89)) rfl dX10_isLike_82 ?_
          refine lv_iload_n (pc := 85) C0.1 C0.2.1 dX10_isLike_85 rfl (lv_at hl 3 rfl) ?_
          refine xiald (pc := 86) (N := 600) C0 hH 89 ⟨Nat.le_of_ble_eq_true rfl, Nat.le_of_ble_eq_true rfl⟩ ⟨rfl, rfl⟩ (vI (by omega) (by omega)) dX10_isLike_86 ?_
          refine lv_iload_n (pc := 87) C0.1 C0.2.1 dX10_isLike_87 rfl (lv_at hl 0 rfl) ?_
          refine lv_iadd (pc := 88) C0.1 C0.2.1 dX10_isLike_88 ?_
          refine lv_topi (fun x203 ex203 => ?_)
          have hx203 : Int32.toInt x203 = Int32.toInt (F 89 (Int32.toNatClampNeg x)) + Int32.toInt k := by rw [ex203]; exact fb_addI (by omega) (by omega)
          refine xbald (pc := 89) (N := 600) C0 hH 85 ⟨Nat.le_of_ble_eq_true rfl, Nat.le_of_ble_eq_true rfl⟩ ⟨rfl, rfl⟩ (vI (by omega) (by omega)) dX10_isLike_89 ?_
          refine lv_aload_n (pc := 90) C0.1 C0.2.1 dX10_isLike_90 rfl (lv_at hl 2 rfl) ?_
          refine xget (pc := 91) C0 hH 78 13 clX10 ⟨Nat.le_of_ble_eq_true rfl, Nat.le_of_ble_eq_true rfl⟩ ⟨rfl, rfl⟩ (Nat.le_of_ble_eq_true rfl) fl_X10_33 (v := .ref (b + 86)) rfl dX10_isLike_91 ?_
          refine lv_aload_n (pc := 94) C0.1 C0.2.1 dX10_isLike_94 rfl (lv_at hl 2 rfl) ?_
          refine xget (pc := 95) C0 hH 78 69 clX10 ⟨Nat.le_of_ble_eq_true rfl, Nat.le_of_ble_eq_true rfl⟩ ⟨rfl, rfl⟩ (Nat.le_of_ble_eq_true rfl) fl_X10_145 (v := .ref (b + 122)) rfl dX10_isLike_95 ?_
          refine lv_iload_n (pc := 98) C0.1 C0.2.1 dX10_isLike_98 rfl (lv_at hl 3 rfl) ?_
          refine xiald (pc := 99) (N := 600) C0 hH 122 ⟨Nat.le_of_ble_eq_true rfl, Nat.le_of_ble_eq_true rfl⟩ ⟨rfl, rfl⟩ (vI (by omega) (by omega)) dX10_isLike_99 ?_
          refine lv_iload_n (pc := 100) C0.1 C0.2.1 dX10_isLike_100 rfl (lv_at hl 0 rfl) ?_
          refine lv_iadd (pc := 101) C0.1 C0.2.1 dX10_isLike_101 ?_
          refine lv_topi (fun x204 ex204 => ?_)
          have hx204 : Int32.toInt x204 = Int32.toInt (F 122 (Int32.toNatClampNeg x)) + Int32.toInt k := by rw [ex204]; exact fb_addI (by omega) (by omega)
          refine xbald (pc := 102) (N := 600) C0 hH 86 ⟨Nat.le_of_ble_eq_true rfl, Nat.le_of_ble_eq_true rfl⟩ ⟨rfl, rfl⟩ (vI (by omega) (by omega)) dX10_isLike_102 ?_
          refine lv_icmp_ne (pc := 103) (tgt := 110) C0.1 C0.2.1 dX10_isLike_103 (by decide) (fun c205 => ?_) (fun c205 => ?_)
          · have c205 : ¬ _ := fun q => c205 (Int32.toInt_inj.mp q)
            refine lv_iconst (pc := 110) (v := 0) C0.1 C0.2.1 dX10_isLike_110 (by decide) ?_
            refine lv_istore_n (pc := 111) (lv' := [(2, .int 0), (3, .int k), (0, .ref (b + 78)), (1, .int x)]) C0.1 C0.2.1 dX10_isLike_111 rfl hl (by decide) rfl (fun ls hl => ?_)
            obtain ⟨x206, ex206⟩ : ∃ y_ : Int32, y_ = k + 1 := ⟨_, rfl⟩
            have : Int32.toInt 1 = 1 := rfl
            have hx206 : Int32.toInt x206 = Int32.toInt k + Int32.toInt 1 := by rw [ex206]; exact fb_addI (by omega) (by omega)
            refine lv_iinc (pc := 112) (v := x206) (lv' := [(3, .int x206), (2, .int 0), (0, .ref (b + 78)), (1, .int x)]) C0.1 C0.2.1 dX10_isLike_112 hl (k := 1) rfl (by rw [ex206]; rfl) (by decide) rfl (fun ls hl => ?_)
            refine lv_goto (pc := 115) (tgt := 63) C0.1 C0.2.1 dX10_isLike_115 (by decide) ?_
            exact ih63 x206 0 _ _ _ (by omega) (by omega) (fun _ => hq) (by decide) hH hS (lv_sub hl [0, 1, 2, 3] rfl)
          · have c205 := congrArg Int32.toInt c205
            refine lv_iconst (pc := 106) (v := 1) C0.1 C0.2.1 dX10_isLike_106 (by decide) ?_
            refine lv_goto (pc := 107) (tgt := 111) C0.1 C0.2.1 dX10_isLike_107 (by decide) ?_
            refine lv_istore_n (pc := 111) (lv' := [(2, .int 1), (3, .int k), (0, .ref (b + 78)), (1, .int x)]) C0.1 C0.2.1 dX10_isLike_111 rfl hl (by decide) rfl (fun ls hl => ?_)
            obtain ⟨x207, ex207⟩ : ∃ y_ : Int32, y_ = k + 1 := ⟨_, rfl⟩
            have : Int32.toInt 1 = 1 := rfl
            have hx207 : Int32.toInt x207 = Int32.toInt k + Int32.toInt 1 := by rw [ex207]; exact fb_addI (by omega) (by omega)
            refine lv_iinc (pc := 112) (v := x207) (lv' := [(3, .int x207), (2, .int 1), (0, .ref (b + 78)), (1, .int x)]) C0.1 C0.2.1 dX10_isLike_112 hl (k := 1) rfl (by rw [ex207]; rfl) (by decide) rfl (fun ls hl => ?_)
            refine lv_goto (pc := 115) (tgt := 63) C0.1 C0.2.1 dX10_isLike_115 (by decide) ?_
            exact ih63 x207 1 _ _ _ (by omega) (by omega) (fun _ => hq) (by decide) hH hS (lv_sub hl [0, 1, 2, 3] rfl)
  refine lv_aload_n (pc := 0) C0.1 C0.2.1 dX10_isLike_0 rfl (lv_at hl 0 rfl) ?_
  refine xget (pc := 1) C0 hH 78 22 clX10 ⟨Nat.le_of_ble_eq_true rfl, Nat.le_of_ble_eq_true rfl⟩ ⟨rfl, rfl⟩ (Nat.le_of_ble_eq_true rfl) fl_X10_48 (v := .ref (b + 90)) rfl dX10_isLike_1 ?_
  refine lv_iload_n (pc := 4) C0.1 C0.2.1 dX10_isLike_4 rfl (lv_at hl 1 rfl) ?_
  refine xiald (pc := 5) (N := 600) C0 hH 90 ⟨Nat.le_of_ble_eq_true rfl, Nat.le_of_ble_eq_true rfl⟩ ⟨rfl, rfl⟩ (vI (by omega) (by omega)) dX10_isLike_5 ?_
  refine lv_aload_n (pc := 6) C0.1 C0.2.1 dX10_isLike_6 rfl (lv_at hl 0 rfl) ?_
  refine xget (pc := 7) C0 hH 78 70 clX10 ⟨Nat.le_of_ble_eq_true rfl, Nat.le_of_ble_eq_true rfl⟩ ⟨rfl, rfl⟩ (Nat.le_of_ble_eq_true rfl) fl_X10_148 (v := .ref (b + 123)) rfl dX10_isLike_7 ?_
  refine lv_iload_n (pc := 10) C0.1 C0.2.1 dX10_isLike_10 rfl (lv_at hl 1 rfl) ?_
  refine xiald (pc := 11) (N := 600) C0 hH 123 ⟨Nat.le_of_ble_eq_true rfl, Nat.le_of_ble_eq_true rfl⟩ ⟨rfl, rfl⟩ (vI (by omega) (by omega)) dX10_isLike_11 ?_
  refine lv_icmp_ne (pc := 12) (tgt := 59) C0.1 C0.2.1 dX10_isLike_12 (by decide) (fun c1 => ?_) (fun c1 => ?_)
  · have c1 : ¬ _ := fun q => c1 (Int32.toInt_inj.mp q)
    refine lv_iconst (pc := 59) (v := 0) C0.1 C0.2.1 dX10_isLike_59 (by decide) ?_
    refine lv_istore_n (pc := 60) (lv' := [(2, .int 0), (0, .ref (b + 78)), (1, .int x)]) C0.1 C0.2.1 dX10_isLike_60 rfl hl (by decide) rfl (fun ls hl => ?_)
    refine lv_iconst (pc := 61) (v := 0) C0.1 C0.2.1 dX10_isLike_61 (by decide) ?_
    refine lv_istore_n (pc := 62) (lv' := [(3, .int 0), (2, .int 0), (0, .ref (b + 78)), (1, .int x)]) C0.1 C0.2.1 dX10_isLike_62 rfl hl (by decide) rfl (fun ls hl => ?_)
    exact L63 600 0 0 _ _ _ (by decide) (by have := hTK.2.1 (Int32.toNatClampNeg x); have : Int32.toInt 0 = 0 := rfl; omega) (fun w => absurd rfl w) (by decide) hH hS (lv_sub hl [0, 1, 2, 3] rfl)
  · have c1 := congrArg Int32.toInt c1
    refine lv_aload_n (pc := 15) C0.1 C0.2.1 dX10_isLike_15 rfl (lv_at hl 0 rfl) ?_
    refine xget (pc := 16) C0 hH 78 27 clX10 ⟨Nat.le_of_ble_eq_true rfl, Nat.le_of_ble_eq_true rfl⟩ ⟨rfl, rfl⟩ (Nat.le_of_ble_eq_true rfl) fl_X10_64 (v := .ref (b + 95)) rfl dX10_isLike_16 ?_
    refine lv_iload_n (pc := 19) C0.1 C0.2.1 dX10_isLike_19 rfl (lv_at hl 1 rfl) ?_
    refine xiald (pc := 20) (N := 600) C0 hH 95 ⟨Nat.le_of_ble_eq_true rfl, Nat.le_of_ble_eq_true rfl⟩ ⟨rfl, rfl⟩ (vI (by omega) (by omega)) dX10_isLike_20 ?_
    refine lv_aload_n (pc := 21) C0.1 C0.2.1 dX10_isLike_21 rfl (lv_at hl 0 rfl) ?_
    refine xget (pc := 22) C0 hH 78 71 clX10 ⟨Nat.le_of_ble_eq_true rfl, Nat.le_of_ble_eq_true rfl⟩ ⟨rfl, rfl⟩ (Nat.le_of_ble_eq_true rfl) fl_X10_151 (v := .ref (b + 124)) rfl dX10_isLike_22 ?_
    refine lv_iload_n (pc := 25) C0.1 C0.2.1 dX10_isLike_25 rfl (lv_at hl 1 rfl) ?_
    refine xiald (pc := 26) (N := 600) C0 hH 124 ⟨Nat.le_of_ble_eq_true rfl, Nat.le_of_ble_eq_true rfl⟩ ⟨rfl, rfl⟩ (vI (by omega) (by omega)) dX10_isLike_26 ?_
    refine lv_icmp_ne (pc := 27) (tgt := 59) C0.1 C0.2.1 dX10_isLike_27 (by decide) (fun c2 => ?_) (fun c2 => ?_)
    · have c2 : ¬ _ := fun q => c2 (Int32.toInt_inj.mp q)
      refine lv_iconst (pc := 59) (v := 0) C0.1 C0.2.1 dX10_isLike_59 (by decide) ?_
      refine lv_istore_n (pc := 60) (lv' := [(2, .int 0), (0, .ref (b + 78)), (1, .int x)]) C0.1 C0.2.1 dX10_isLike_60 rfl hl (by decide) rfl (fun ls hl => ?_)
      refine lv_iconst (pc := 61) (v := 0) C0.1 C0.2.1 dX10_isLike_61 (by decide) ?_
      refine lv_istore_n (pc := 62) (lv' := [(3, .int 0), (2, .int 0), (0, .ref (b + 78)), (1, .int x)]) C0.1 C0.2.1 dX10_isLike_62 rfl hl (by decide) rfl (fun ls hl => ?_)
      exact L63 600 0 0 _ _ _ (by decide) (by have := hTK.2.1 (Int32.toNatClampNeg x); have : Int32.toInt 0 = 0 := rfl; omega) (fun w => absurd rfl w) (by decide) hH hS (lv_sub hl [0, 1, 2, 3] rfl)
    · have c2 := congrArg Int32.toInt c2
      refine lv_aload_n (pc := 30) C0.1 C0.2.1 dX10_isLike_30 rfl (lv_at hl 0 rfl) ?_
      refine xget (pc := 31) C0 hH 78 41 clX10 ⟨Nat.le_of_ble_eq_true rfl, Nat.le_of_ble_eq_true rfl⟩ ⟨rfl, rfl⟩ (Nat.le_of_ble_eq_true rfl) fl_X10_94 (v := .ref (b + 105)) rfl dX10_isLike_31 ?_
      refine lv_aload_n (pc := 34) C0.1 C0.2.1 dX10_isLike_34 rfl (lv_at hl 0 rfl) ?_
      refine xget (pc := 35) C0 hH 78 27 clX10 ⟨Nat.le_of_ble_eq_true rfl, Nat.le_of_ble_eq_true rfl⟩ ⟨rfl, rfl⟩ (Nat.le_of_ble_eq_true rfl) fl_X10_64 (v := .ref (b + 95)) rfl dX10_isLike_35 ?_
      refine lv_iload_n (pc := 38) C0.1 C0.2.1 dX10_isLike_38 rfl (lv_at hl 1 rfl) ?_
      refine xiald (pc := 39) (N := 600) C0 hH 95 ⟨Nat.le_of_ble_eq_true rfl, Nat.le_of_ble_eq_true rfl⟩ ⟨rfl, rfl⟩ (vI (by omega) (by omega)) dX10_isLike_39 ?_
      refine xiald (pc := 40) (N := 1202) C0 hH 105 ⟨Nat.le_of_ble_eq_true rfl, Nat.le_of_ble_eq_true rfl⟩ ⟨rfl, rfl⟩ (vI (hWA.io _).1 (hWA.io _).2) dX10_isLike_40 ?_
      refine lv_aload_n (pc := 41) C0.1 C0.2.1 dX10_isLike_41 rfl (lv_at hl 0 rfl) ?_
      refine xget (pc := 42) C0 hH 78 72 clX10 ⟨Nat.le_of_ble_eq_true rfl, Nat.le_of_ble_eq_true rfl⟩ ⟨rfl, rfl⟩ (Nat.le_of_ble_eq_true rfl) fl_X10_154 (v := .ref (b + 125)) rfl dX10_isLike_42 ?_
      refine lv_aload_n (pc := 45) C0.1 C0.2.1 dX10_isLike_45 rfl (lv_at hl 0 rfl) ?_
      refine xget (pc := 46) C0 hH 78 71 clX10 ⟨Nat.le_of_ble_eq_true rfl, Nat.le_of_ble_eq_true rfl⟩ ⟨rfl, rfl⟩ (Nat.le_of_ble_eq_true rfl) fl_X10_151 (v := .ref (b + 124)) rfl dX10_isLike_46 ?_
      refine lv_iload_n (pc := 49) C0.1 C0.2.1 dX10_isLike_49 rfl (lv_at hl 1 rfl) ?_
      refine xiald (pc := 50) (N := 600) C0 hH 124 ⟨Nat.le_of_ble_eq_true rfl, Nat.le_of_ble_eq_true rfl⟩ ⟨rfl, rfl⟩ (vI (by omega) (by omega)) dX10_isLike_50 ?_
      refine xiald (pc := 51) (N := 1202) C0 hH 125 ⟨Nat.le_of_ble_eq_true rfl, Nat.le_of_ble_eq_true rfl⟩ ⟨rfl, rfl⟩ (vI (hKI _).1 (hKI _).2) dX10_isLike_51 ?_
      refine lv_icmp_ne (pc := 52) (tgt := 59) C0.1 C0.2.1 dX10_isLike_52 (by decide) (fun c3 => ?_) (fun c3 => ?_)
      · have c3 : ¬ _ := fun q => c3 (Int32.toInt_inj.mp q)
        refine lv_iconst (pc := 59) (v := 0) C0.1 C0.2.1 dX10_isLike_59 (by decide) ?_
        refine lv_istore_n (pc := 60) (lv' := [(2, .int 0), (0, .ref (b + 78)), (1, .int x)]) C0.1 C0.2.1 dX10_isLike_60 rfl hl (by decide) rfl (fun ls hl => ?_)
        refine lv_iconst (pc := 61) (v := 0) C0.1 C0.2.1 dX10_isLike_61 (by decide) ?_
        refine lv_istore_n (pc := 62) (lv' := [(3, .int 0), (2, .int 0), (0, .ref (b + 78)), (1, .int x)]) C0.1 C0.2.1 dX10_isLike_62 rfl hl (by decide) rfl (fun ls hl => ?_)
        exact L63 600 0 0 _ _ _ (by decide) (by have := hTK.2.1 (Int32.toNatClampNeg x); have : Int32.toInt 0 = 0 := rfl; omega) (fun w => absurd rfl w) (by decide) hH hS (lv_sub hl [0, 1, 2, 3] rfl)
      · have c3 := congrArg Int32.toInt c3
        refine lv_iconst (pc := 55) (v := 1) C0.1 C0.2.1 dX10_isLike_55 (by decide) ?_
        refine lv_goto (pc := 56) (tgt := 60) C0.1 C0.2.1 dX10_isLike_56 (by decide) ?_
        refine lv_istore_n (pc := 60) (lv' := [(2, .int 1), (0, .ref (b + 78)), (1, .int x)]) C0.1 C0.2.1 dX10_isLike_60 rfl hl (by decide) rfl (fun ls hl => ?_)
        refine lv_iconst (pc := 61) (v := 0) C0.1 C0.2.1 dX10_isLike_61 (by decide) ?_
        refine lv_istore_n (pc := 62) (lv' := [(3, .int 0), (2, .int 1), (0, .ref (b + 78)), (1, .int x)]) C0.1 C0.2.1 dX10_isLike_62 rfl hl (by decide) rfl (fun ls hl => ?_)
        exact L63 600 0 1 _ _ _ (by decide) (by have := hTK.2.1 (Int32.toNatClampNeg x); have : Int32.toInt 0 = 0 := rfl; omega) (fun _ => by first | assumption | exact Int32.toInt_inj.mp (by assumption)) (by decide) hH hS (lv_sub hl [0, 1, 2, 3] rfl)
set_option maxHeartbeats 4000000 in
set_option maxRecDepth 100000 in
theorem m_firstUnlike (l : Launch) (D : va_G) (tA : Nat → ClassId) (b : Nat) (i F : Nat → Nat → Int32) (G : Nat → Nat → Int64)  (hI : IMm i F) : xMI l yX10_firstUnlike cX10_firstUnlike 2 (some .int) 1 23 D tA b 78 52 i F G [.ref (b + 78)] (fun r u => u = (i, F, G) ∧ True) := by
  refine xstart RX10 rfl (by decide) (Nat.le_of_ble_eq_true rfl) ?_
  intro p e s m below meth c ls C0 hr hH hS hl
  have hl : lv_has ls 2 [(0, .ref (b + 78))] := hl
  have hI0 := hI
  obtain ⟨hsz, hbt, hks, hsrc, hTK, hCB, hWA, hwr, hmk, hG, hKA, hKI⟩ := hI0
  have hTKl := hTK.1
  have L2 : ∀ (d : Nat) (k : Int32) (H : Heap) (locs : List Loc) (ls : Array Slot), (0 ≤ k.toInt) → ((i 78 19).toInt - k.toInt ≤ d) → Hd D tA b 78 52 zz i F G H → va_S (xA b 78 52) s.heap H locs → lv_has ls 2 [(1, .int k), (0, .ref (b + 78))] → W p l e (xR 1 23) s m ([.ref (b + 78)] : List Value).toArray below meth c H locs 0 0 (MQ below (va_Qi (fun r u => u = (i, F, G) ∧ True) (xB D tA b 78 52 zz) (xA b 78 52)) ([.ref (b + 78)] : List Value).toArray s 0 0 (xA b 78 52)) (F0 m 2 ls []) := by
    intro d
    induction d with
    | zero =>
      intro k H locs ls h1 h2 hH hS hl
      have rg_k := fb_rng k
      refine lv_iload_n (pc := 2) C0.1 C0.2.1 dX10_firstUnlike_2 rfl (lv_at hl 0 rfl) ?_
      refine lv_aload_n (pc := 3) C0.1 C0.2.1 dX10_firstUnlike_3 rfl (lv_at hl 1 rfl) ?_
      refine xget (pc := 4) C0 hH 78 19 clX10 ⟨Nat.le_of_ble_eq_true rfl, Nat.le_of_ble_eq_true rfl⟩ ⟨rfl, rfl⟩ (Nat.le_of_ble_eq_true rfl) fl_X10_258 (v := .int (i 78 19)) rfl dX10_firstUnlike_4 ?_
      refine lv_icmp_ge (pc := 7) (tgt := 32) C0.1 C0.2.1 dX10_firstUnlike_7 (by decide) (fun _ => ?_) (fun c => absurd (Int32.le_iff_toInt_le.mpr (by omega)) c)
      refine lv_iload_n (pc := 32) C0.1 C0.2.1 dX10_firstUnlike_32 rfl (lv_at hl 0 rfl) ?_
      refine lv_aload_n (pc := 33) C0.1 C0.2.1 dX10_firstUnlike_33 rfl (lv_at hl 1 rfl) ?_
      refine xget (pc := 34) C0 hH 78 19 clX10 ⟨Nat.le_of_ble_eq_true rfl, Nat.le_of_ble_eq_true rfl⟩ ⟨rfl, rfl⟩ (Nat.le_of_ble_eq_true rfl) fl_X10_258 (v := .int (i 78 19)) rfl dX10_firstUnlike_34 ?_
      refine lv_icmp_lt (pc := 37) (tgt := 48) C0.1 C0.2.1 dX10_firstUnlike_37 (by decide) (fun c201 => ?_) (fun c201 => ?_)
      · have c201 := Int32.lt_iff_toInt_lt.mp c201
        refine lv_iload_n (pc := 48) C0.1 C0.2.1 dX10_firstUnlike_48 rfl (lv_at hl 0 rfl) ?_
        refine lv_goto (pc := 49) (tgt := 54) C0.1 C0.2.1 dX10_firstUnlike_49 (by decide) ?_
        exact xiret (pc := 54) C0 hr hH hS dX10_firstUnlike_54 ⟨rfl, trivial⟩
      · have c201 : ¬ _ := fun q => c201 (Int32.lt_iff_toInt_lt.mpr q)
        refine lv_iload_n (pc := 40) C0.1 C0.2.1 dX10_firstUnlike_40 rfl (lv_at hl 0 rfl) ?_
        refine lv_aload_n (pc := 41) C0.1 C0.2.1 dX10_firstUnlike_41 rfl (lv_at hl 1 rfl) ?_
        refine xget (pc := 42) C0 hH 78 66 clX10 ⟨Nat.le_of_ble_eq_true rfl, Nat.le_of_ble_eq_true rfl⟩ ⟨rfl, rfl⟩ (Nat.le_of_ble_eq_true rfl) fl_X10_418 (v := .int (i 78 66)) rfl dX10_firstUnlike_42 ?_
        refine lv_icmp_ge (pc := 45) (tgt := 52) C0.1 C0.2.1 dX10_firstUnlike_45 (by decide) (fun c202 => ?_) (fun c202 => ?_)
        · have c202 := Int32.le_iff_toInt_le.mp c202
          refine lv_bipush (pc := 52) (v := (-9)) C0.1 C0.2.1 dX10_firstUnlike_52 (by decide) ?_
          exact xiret (pc := 54) C0 hr hH hS dX10_firstUnlike_54 ⟨rfl, trivial⟩
        · have c202 : ¬ _ := fun q => c202 (Int32.le_iff_toInt_le.mpr q)
          refine lv_iload_n (pc := 48) C0.1 C0.2.1 dX10_firstUnlike_48 rfl (lv_at hl 0 rfl) ?_
          refine lv_goto (pc := 49) (tgt := 54) C0.1 C0.2.1 dX10_firstUnlike_49 (by decide) ?_
          exact xiret (pc := 54) C0 hr hH hS dX10_firstUnlike_54 ⟨rfl, trivial⟩
    | succ d ih2 =>
      intro k H locs ls h1 h2 hH hS hl
      have rg_k := fb_rng k
      refine lv_iload_n (pc := 2) C0.1 C0.2.1 dX10_firstUnlike_2 rfl (lv_at hl 0 rfl) ?_
      refine lv_aload_n (pc := 3) C0.1 C0.2.1 dX10_firstUnlike_3 rfl (lv_at hl 1 rfl) ?_
      refine xget (pc := 4) C0 hH 78 19 clX10 ⟨Nat.le_of_ble_eq_true rfl, Nat.le_of_ble_eq_true rfl⟩ ⟨rfl, rfl⟩ (Nat.le_of_ble_eq_true rfl) fl_X10_258 (v := .int (i 78 19)) rfl dX10_firstUnlike_4 ?_
      refine lv_icmp_ge (pc := 7) (tgt := 32) C0.1 C0.2.1 dX10_firstUnlike_7 (by decide) (fun c201 => ?_) (fun c201 => ?_)
      · have c201 := Int32.le_iff_toInt_le.mp c201
        refine lv_iload_n (pc := 32) C0.1 C0.2.1 dX10_firstUnlike_32 rfl (lv_at hl 0 rfl) ?_
        refine lv_aload_n (pc := 33) C0.1 C0.2.1 dX10_firstUnlike_33 rfl (lv_at hl 1 rfl) ?_
        refine xget (pc := 34) C0 hH 78 19 clX10 ⟨Nat.le_of_ble_eq_true rfl, Nat.le_of_ble_eq_true rfl⟩ ⟨rfl, rfl⟩ (Nat.le_of_ble_eq_true rfl) fl_X10_258 (v := .int (i 78 19)) rfl dX10_firstUnlike_34 ?_
        refine lv_icmp_lt (pc := 37) (tgt := 48) C0.1 C0.2.1 dX10_firstUnlike_37 (by decide) (fun c202 => ?_) (fun c202 => ?_)
        · have c202 := Int32.lt_iff_toInt_lt.mp c202
          refine lv_iload_n (pc := 48) C0.1 C0.2.1 dX10_firstUnlike_48 rfl (lv_at hl 0 rfl) ?_
          refine lv_goto (pc := 49) (tgt := 54) C0.1 C0.2.1 dX10_firstUnlike_49 (by decide) ?_
          exact xiret (pc := 54) C0 hr hH hS dX10_firstUnlike_54 ⟨rfl, trivial⟩
        · have c202 : ¬ _ := fun q => c202 (Int32.lt_iff_toInt_lt.mpr q)
          refine lv_iload_n (pc := 40) C0.1 C0.2.1 dX10_firstUnlike_40 rfl (lv_at hl 0 rfl) ?_
          refine lv_aload_n (pc := 41) C0.1 C0.2.1 dX10_firstUnlike_41 rfl (lv_at hl 1 rfl) ?_
          refine xget (pc := 42) C0 hH 78 66 clX10 ⟨Nat.le_of_ble_eq_true rfl, Nat.le_of_ble_eq_true rfl⟩ ⟨rfl, rfl⟩ (Nat.le_of_ble_eq_true rfl) fl_X10_418 (v := .int (i 78 66)) rfl dX10_firstUnlike_42 ?_
          refine lv_icmp_ge (pc := 45) (tgt := 52) C0.1 C0.2.1 dX10_firstUnlike_45 (by decide) (fun c203 => ?_) (fun c203 => ?_)
          · have c203 := Int32.le_iff_toInt_le.mp c203
            refine lv_bipush (pc := 52) (v := (-9)) C0.1 C0.2.1 dX10_firstUnlike_52 (by decide) ?_
            exact xiret (pc := 54) C0 hr hH hS dX10_firstUnlike_54 ⟨rfl, trivial⟩
          · have c203 : ¬ _ := fun q => c203 (Int32.le_iff_toInt_le.mpr q)
            refine lv_iload_n (pc := 48) C0.1 C0.2.1 dX10_firstUnlike_48 rfl (lv_at hl 0 rfl) ?_
            refine lv_goto (pc := 49) (tgt := 54) C0.1 C0.2.1 dX10_firstUnlike_49 (by decide) ?_
            exact xiret (pc := 54) C0 hr hH hS dX10_firstUnlike_54 ⟨rfl, trivial⟩
      · have c201 : ¬ _ := fun q => c201 (Int32.le_iff_toInt_le.mpr q)
        refine lv_iload_n (pc := 10) C0.1 C0.2.1 dX10_firstUnlike_10 rfl (lv_at hl 0 rfl) ?_
        refine lv_aload_n (pc := 11) C0.1 C0.2.1 dX10_firstUnlike_11 rfl (lv_at hl 1 rfl) ?_
        refine xget (pc := 12) C0 hH 78 66 clX10 ⟨Nat.le_of_ble_eq_true rfl, Nat.le_of_ble_eq_true rfl⟩ ⟨rfl, rfl⟩ (Nat.le_of_ble_eq_true rfl) fl_X10_418 (v := .int (i 78 66)) rfl dX10_firstUnlike_12 ?_
        refine lv_icmp_ge (pc := 15) (tgt := 32) C0.1 C0.2.1 dX10_firstUnlike_15 (by decide) (fun c204 => ?_) (fun c204 => ?_)
        · have c204 := Int32.le_iff_toInt_le.mp c204
          refine lv_iload_n (pc := 32) C0.1 C0.2.1 dX10_firstUnlike_32 rfl (lv_at hl 0 rfl) ?_
          refine lv_aload_n (pc := 33) C0.1 C0.2.1 dX10_firstUnlike_33 rfl (lv_at hl 1 rfl) ?_
          refine xget (pc := 34) C0 hH 78 19 clX10 ⟨Nat.le_of_ble_eq_true rfl, Nat.le_of_ble_eq_true rfl⟩ ⟨rfl, rfl⟩ (Nat.le_of_ble_eq_true rfl) fl_X10_258 (v := .int (i 78 19)) rfl dX10_firstUnlike_34 ?_
          refine lv_icmp_lt (pc := 37) (tgt := 48) C0.1 C0.2.1 dX10_firstUnlike_37 (by decide) (fun c205 => ?_) (fun c205 => ?_)
          · have c205 := Int32.lt_iff_toInt_lt.mp c205
            refine lv_iload_n (pc := 48) C0.1 C0.2.1 dX10_firstUnlike_48 rfl (lv_at hl 0 rfl) ?_
            refine lv_goto (pc := 49) (tgt := 54) C0.1 C0.2.1 dX10_firstUnlike_49 (by decide) ?_
            exact xiret (pc := 54) C0 hr hH hS dX10_firstUnlike_54 ⟨rfl, trivial⟩
          · have c205 : ¬ _ := fun q => c205 (Int32.lt_iff_toInt_lt.mpr q)
            refine lv_iload_n (pc := 40) C0.1 C0.2.1 dX10_firstUnlike_40 rfl (lv_at hl 0 rfl) ?_
            refine lv_aload_n (pc := 41) C0.1 C0.2.1 dX10_firstUnlike_41 rfl (lv_at hl 1 rfl) ?_
            refine xget (pc := 42) C0 hH 78 66 clX10 ⟨Nat.le_of_ble_eq_true rfl, Nat.le_of_ble_eq_true rfl⟩ ⟨rfl, rfl⟩ (Nat.le_of_ble_eq_true rfl) fl_X10_418 (v := .int (i 78 66)) rfl dX10_firstUnlike_42 ?_
            refine lv_icmp_ge (pc := 45) (tgt := 52) C0.1 C0.2.1 dX10_firstUnlike_45 (by decide) (fun c206 => ?_) (fun c206 => ?_)
            · have c206 := Int32.le_iff_toInt_le.mp c206
              refine lv_bipush (pc := 52) (v := (-9)) C0.1 C0.2.1 dX10_firstUnlike_52 (by decide) ?_
              exact xiret (pc := 54) C0 hr hH hS dX10_firstUnlike_54 ⟨rfl, trivial⟩
            · have c206 : ¬ _ := fun q => c206 (Int32.le_iff_toInt_le.mpr q)
              refine lv_iload_n (pc := 48) C0.1 C0.2.1 dX10_firstUnlike_48 rfl (lv_at hl 0 rfl) ?_
              refine lv_goto (pc := 49) (tgt := 54) C0.1 C0.2.1 dX10_firstUnlike_49 (by decide) ?_
              exact xiret (pc := 54) C0 hr hH hS dX10_firstUnlike_54 ⟨rfl, trivial⟩
        · have c204 : ¬ _ := fun q => c204 (Int32.le_iff_toInt_le.mpr q)
          refine lv_aload_n (pc := 18) C0.1 C0.2.1 dX10_firstUnlike_18 rfl (lv_at hl 1 rfl) ?_
          refine lv_iload_n (pc := 19) C0.1 C0.2.1 dX10_firstUnlike_19 rfl (lv_at hl 0 rfl) ?_
          refine xcVI (pc := 20) 78 [.int k] (m_isLike l D tA b i F G k hI (by omega)) C0 hH hS clX10 rfl ⟨⟨Nat.le_of_ble_eq_true rfl, Nat.le_of_ble_eq_true rfl⟩, rfl, rfl⟩ cw_X10_427 rfl ⟨Nat.le_of_ble_eq_true rfl, Nat.le_of_ble_eq_true rfl⟩ hl.1 rfl (Nat.le_of_ble_eq_true rfl) dX10_firstUnlike_20 ⟨Nat.le_of_ble_eq_true rfl, Nat.le_of_ble_eq_true rfl⟩ (fun r207 ir207 Fr207 Gr207 _ locs hp hH hS => ?_)
          obtain ⟨hu, hpr207⟩ := hp
          cases hu
          refine lv_if_eq (pc := 23) (tgt := 32) C0.1 C0.2.1 dX10_firstUnlike_23 (by decide) (fun c208 => ?_) (fun c208 => ?_)
          · have : Int32.toInt 0 = 0 := rfl
            have c208 := congrArg Int32.toInt c208
            refine lv_iload_n (pc := 32) C0.1 C0.2.1 dX10_firstUnlike_32 rfl (lv_at hl 0 rfl) ?_
            refine lv_aload_n (pc := 33) C0.1 C0.2.1 dX10_firstUnlike_33 rfl (lv_at hl 1 rfl) ?_
            refine xget (pc := 34) C0 hH 78 19 clX10 ⟨Nat.le_of_ble_eq_true rfl, Nat.le_of_ble_eq_true rfl⟩ ⟨rfl, rfl⟩ (Nat.le_of_ble_eq_true rfl) fl_X10_258 (v := .int (i 78 19)) rfl dX10_firstUnlike_34 ?_
            refine lv_icmp_lt (pc := 37) (tgt := 48) C0.1 C0.2.1 dX10_firstUnlike_37 (by decide) (fun c209 => ?_) (fun c209 => ?_)
            · have c209 := Int32.lt_iff_toInt_lt.mp c209
              refine lv_iload_n (pc := 48) C0.1 C0.2.1 dX10_firstUnlike_48 rfl (lv_at hl 0 rfl) ?_
              refine lv_goto (pc := 49) (tgt := 54) C0.1 C0.2.1 dX10_firstUnlike_49 (by decide) ?_
              exact xiret (pc := 54) C0 hr hH hS dX10_firstUnlike_54 ⟨rfl, trivial⟩
            · have c209 : ¬ _ := fun q => c209 (Int32.lt_iff_toInt_lt.mpr q)
              refine lv_iload_n (pc := 40) C0.1 C0.2.1 dX10_firstUnlike_40 rfl (lv_at hl 0 rfl) ?_
              refine lv_aload_n (pc := 41) C0.1 C0.2.1 dX10_firstUnlike_41 rfl (lv_at hl 1 rfl) ?_
              refine xget (pc := 42) C0 hH 78 66 clX10 ⟨Nat.le_of_ble_eq_true rfl, Nat.le_of_ble_eq_true rfl⟩ ⟨rfl, rfl⟩ (Nat.le_of_ble_eq_true rfl) fl_X10_418 (v := .int (i 78 66)) rfl dX10_firstUnlike_42 ?_
              refine lv_icmp_ge (pc := 45) (tgt := 52) C0.1 C0.2.1 dX10_firstUnlike_45 (by decide) (fun c210 => ?_) (fun c210 => ?_)
              · have c210 := Int32.le_iff_toInt_le.mp c210
                refine lv_bipush (pc := 52) (v := (-9)) C0.1 C0.2.1 dX10_firstUnlike_52 (by decide) ?_
                exact xiret (pc := 54) C0 hr hH hS dX10_firstUnlike_54 ⟨rfl, trivial⟩
              · have c210 : ¬ _ := fun q => c210 (Int32.le_iff_toInt_le.mpr q)
                refine lv_iload_n (pc := 48) C0.1 C0.2.1 dX10_firstUnlike_48 rfl (lv_at hl 0 rfl) ?_
                refine lv_goto (pc := 49) (tgt := 54) C0.1 C0.2.1 dX10_firstUnlike_49 (by decide) ?_
                exact xiret (pc := 54) C0 hr hH hS dX10_firstUnlike_54 ⟨rfl, trivial⟩
          · have : Int32.toInt 0 = 0 := rfl
            have c208 : ¬ _ := fun q => c208 (Int32.toInt_inj.mp q)
            obtain ⟨x211, ex211⟩ : ∃ y_ : Int32, y_ = k + 1 := ⟨_, rfl⟩
            have : Int32.toInt 1 = 1 := rfl
            have hx211 : Int32.toInt x211 = Int32.toInt k + Int32.toInt 1 := by rw [ex211]; exact fb_addI (by omega) (by omega)
            refine lv_iinc (pc := 26) (v := x211) (lv' := [(1, .int x211), (0, .ref (b + 78))]) C0.1 C0.2.1 dX10_firstUnlike_26 hl (k := 0) rfl (by rw [ex211]; rfl) (by decide) rfl (fun ls hl => ?_)
            refine lv_goto (pc := 29) (tgt := 2) C0.1 C0.2.1 dX10_firstUnlike_29 (by decide) ?_
            exact ih2 x211 _ _ _ (by omega) (by omega) hH hS (lv_sub hl [0, 1] rfl)
  refine lv_iconst (pc := 0) (v := 0) C0.1 C0.2.1 dX10_firstUnlike_0 (by decide) ?_
  refine lv_istore_n (pc := 1) (lv' := [(1, .int 0), (0, .ref (b + 78))]) C0.1 C0.2.1 dX10_firstUnlike_1 rfl hl (by decide) rfl (fun ls hl => ?_)
  exact L2 600 0 _ _ _ (by decide) (by have : Int32.toInt 0 = 0 := rfl; omega) hH hS (lv_sub hl [0, 1] rfl)
set_option maxHeartbeats 4000000 in
set_option maxRecDepth 100000 in
theorem m_same (l : Launch) (D : va_G) (tA : Nat → ClassId) (b : Nat) (i F : Nat → Nat → Int32) (G : Nat → Nat → Int64)  (hI : IMm i F) (hBR : BR i) : xMI l yX10_same cX10_same 3 (some .int) 7 167 D tA b 78 52 i F G [.ref (b + 78)] (fun r u => IMm u.1 u.2.1 ∧ RO [11, 12, 13, 14, 15, 16, 17, 18, 19, 20, 21, 22, 23, 24, 25, 26, 27, 28, 29, 30, 31, 32, 33, 34, 35, 36, 37, 38, 39, 40, 41, 42, 43, 44, 45, 46, 47, 48, 49, 50, 51, 52, 53, 54, 55, 56, 57, 58, 59, 60, 61, 62, 63, 64, 65, 66, 67, 68, 69, 70, 71, 72, 73, 74, 75, 76, 77, 78] [85, 86, 87, 88, 89, 90, 91, 92, 93, 94, 95, 96, 97, 98, 99, 100, 101, 102, 103, 104, 105, 106, 107, 108, 109, 110, 111, 112, 113, 114, 115, 116, 117, 118, 119, 120, 121, 122, 123, 124, 125, 126, 127, 128, 129] i F G u) := by
  refine xstart RX10 rfl (by decide) (Nat.le_of_ble_eq_true rfl) ?_
  intro p e s m below meth c ls C0 hr hH hS hl
  have hl : lv_has ls 3 [(0, .ref (b + 78))] := hl
  have L98 : ∀ (d : Nat) (k q : Int32) (iv Fv : Nat → Nat → Int32) (Gv : Nat → Nat → Int64) (H : Heap) (locs : List Loc) (ls : Array Slot), (IMm iv Fv) → (GTm iv Fv) → (RO [11, 12, 13, 14, 15, 16, 17, 18, 19, 20, 21, 22, 23, 24, 25, 26, 27, 28, 29, 30, 31, 32, 33, 34, 35, 36, 37, 38, 39, 40, 41, 42, 43, 44, 45, 46, 47, 48, 49, 50, 51, 52, 53, 54, 55, 56, 57, 58, 59, 60, 61, 62, 63, 64, 65, 66, 67, 68, 69, 70, 71, 72, 73, 74, 75, 76, 77, 78] [85, 86, 87, 88, 89, 90, 91, 92, 93, 94, 95, 96, 97, 98, 99, 100, 101, 102, 103, 104, 105, 106, 107, 108, 109, 110, 111, 112, 113, 114, 115, 116, 117, 118, 119, 120, 121, 122, 123, 124, 125, 126, 127, 128, 129] i F G (iv, Fv, Gv)) → (0 ≤ k.toInt) → ((iv 78 32).toInt - k.toInt ≤ d) → Hd D tA b 78 52 zz iv Fv Gv H → va_S (xA b 78 52) s.heap H locs → lv_has ls 3 [(2, .int k), (1, .int q), (0, .ref (b + 78))] → W p l e (xR 7 167) s m ([.ref (b + 78)] : List Value).toArray below meth c H locs 0 0 (MQ below (va_Qi (fun r u => IMm u.1 u.2.1 ∧ RO [11, 12, 13, 14, 15, 16, 17, 18, 19, 20, 21, 22, 23, 24, 25, 26, 27, 28, 29, 30, 31, 32, 33, 34, 35, 36, 37, 38, 39, 40, 41, 42, 43, 44, 45, 46, 47, 48, 49, 50, 51, 52, 53, 54, 55, 56, 57, 58, 59, 60, 61, 62, 63, 64, 65, 66, 67, 68, 69, 70, 71, 72, 73, 74, 75, 76, 77, 78] [85, 86, 87, 88, 89, 90, 91, 92, 93, 94, 95, 96, 97, 98, 99, 100, 101, 102, 103, 104, 105, 106, 107, 108, 109, 110, 111, 112, 113, 114, 115, 116, 117, 118, 119, 120, 121, 122, 123, 124, 125, 126, 127, 128, 129] i F G u) (xB D tA b 78 52 zz) (xA b 78 52)) ([.ref (b + 78)] : List Value).toArray s 0 0 (xA b 78 52)) (F0 m 98 ls []) := by
    intro d
    induction d with
    | zero =>
      intro k q iv Fv Gv H locs ls h1 h2 h3 h4 h5 hH hS hl
      have rg_k := fb_rng k
      have rg_q := fb_rng q
      have hGl := GTm.lin h2
      refine lv_iload_n (pc := 98) C0.1 C0.2.1 dX10_same_98 rfl (lv_at hl 0 rfl) ?_
      refine lv_aload_n (pc := 99) C0.1 C0.2.1 dX10_same_99 rfl (lv_at hl 2 rfl) ?_
      refine xget (pc := 100) C0 hH 78 32 clX10 ⟨Nat.le_of_ble_eq_true rfl, Nat.le_of_ble_eq_true rfl⟩ ⟨rfl, rfl⟩ (Nat.le_of_ble_eq_true rfl) fl_X10_281 (v := .int (iv 78 32)) rfl dX10_same_100 ?_
      refine lv_icmp_ge (pc := 103) (tgt := 152) C0.1 C0.2.1 dX10_same_103 (by decide) (fun _ => ?_) (fun c => absurd (Int32.le_iff_toInt_le.mpr (by omega)) c)
      refine lv_iload_n (pc := 152) C0.1 C0.2.1 dX10_same_152 rfl (lv_at hl 1 rfl) ?_
      refine lv_if_eq (pc := 153) (tgt := 160) C0.1 C0.2.1 dX10_same_153 (by decide) (fun c201 => ?_) (fun c201 => ?_)
      · have : Int32.toInt 0 = 0 := rfl
        have c201 := congrArg Int32.toInt c201
        refine lv_iconst (pc := 160) (v := 0) C0.1 C0.2.1 dX10_same_160 (by decide) ?_
        exact xiret (pc := 161) C0 hr hH hS dX10_same_161 ⟨h1, h3⟩
      · have : Int32.toInt 0 = 0 := rfl
        have c201 : ¬ _ := fun q => c201 (Int32.toInt_inj.mp q)
        refine lv_iconst (pc := 156) (v := 1) C0.1 C0.2.1 dX10_same_156 (by decide) ?_
        refine lv_goto (pc := 157) (tgt := 161) C0.1 C0.2.1 dX10_same_157 (by decide) ?_
        exact xiret (pc := 161) C0 hr hH hS dX10_same_161 ⟨h1, h3⟩
    | succ d ih98 =>
      intro k q iv Fv Gv H locs ls h1 h2 h3 h4 h5 hH hS hl
      have rg_k := fb_rng k
      have rg_q := fb_rng q
      have hGl := GTm.lin h2
      refine lv_iload_n (pc := 98) C0.1 C0.2.1 dX10_same_98 rfl (lv_at hl 0 rfl) ?_
      refine lv_aload_n (pc := 99) C0.1 C0.2.1 dX10_same_99 rfl (lv_at hl 2 rfl) ?_
      refine xget (pc := 100) C0 hH 78 32 clX10 ⟨Nat.le_of_ble_eq_true rfl, Nat.le_of_ble_eq_true rfl⟩ ⟨rfl, rfl⟩ (Nat.le_of_ble_eq_true rfl) fl_X10_281 (v := .int (iv 78 32)) rfl dX10_same_100 ?_
      refine lv_icmp_ge (pc := 103) (tgt := 152) C0.1 C0.2.1 dX10_same_103 (by decide) (fun c201 => ?_) (fun c201 => ?_)
      · have c201 := Int32.le_iff_toInt_le.mp c201
        refine lv_iload_n (pc := 152) C0.1 C0.2.1 dX10_same_152 rfl (lv_at hl 1 rfl) ?_
        refine lv_if_eq (pc := 153) (tgt := 160) C0.1 C0.2.1 dX10_same_153 (by decide) (fun c202 => ?_) (fun c202 => ?_)
        · have : Int32.toInt 0 = 0 := rfl
          have c202 := congrArg Int32.toInt c202
          refine lv_iconst (pc := 160) (v := 0) C0.1 C0.2.1 dX10_same_160 (by decide) ?_
          exact xiret (pc := 161) C0 hr hH hS dX10_same_161 ⟨h1, h3⟩
        · have : Int32.toInt 0 = 0 := rfl
          have c202 : ¬ _ := fun q => c202 (Int32.toInt_inj.mp q)
          refine lv_iconst (pc := 156) (v := 1) C0.1 C0.2.1 dX10_same_156 (by decide) ?_
          refine lv_goto (pc := 157) (tgt := 161) C0.1 C0.2.1 dX10_same_157 (by decide) ?_
          exact xiret (pc := 161) C0 hr hH hS dX10_same_161 ⟨h1, h3⟩
      · have c201 : ¬ _ := fun q => c201 (Int32.le_iff_toInt_le.mpr q)
        refine lv_iload_n (pc := 106) C0.1 C0.2.1 dX10_same_106 rfl (lv_at hl 1 rfl) ?_
        refine lv_if_eq (pc := 107) (tgt := 152) C0.1 C0.2.1 dX10_same_107 (by decide) (fun c203 => ?_) (fun c203 => ?_)
        · have : Int32.toInt 0 = 0 := rfl
          have c203 := congrArg Int32.toInt c203
          refine lv_iload_n (pc := 152) C0.1 C0.2.1 dX10_same_152 rfl (lv_at hl 1 rfl) ?_
          refine lv_if_eq (pc := 153) (tgt := 160) C0.1 C0.2.1 dX10_same_153 (by decide) (fun c204 => ?_) (fun c204 => ?_)
          · have : Int32.toInt 0 = 0 := rfl
            have c204 := congrArg Int32.toInt c204
            refine lv_iconst (pc := 160) (v := 0) C0.1 C0.2.1 dX10_same_160 (by decide) ?_
            exact xiret (pc := 161) C0 hr hH hS dX10_same_161 ⟨h1, h3⟩
          · have : Int32.toInt 0 = 0 := rfl
            have c204 : ¬ _ := fun q => c204 (Int32.toInt_inj.mp q)
            refine lv_iconst (pc := 156) (v := 1) C0.1 C0.2.1 dX10_same_156 (by decide) ?_
            refine lv_goto (pc := 157) (tgt := 161) C0.1 C0.2.1 dX10_same_157 (by decide) ?_
            exact xiret (pc := 161) C0 hr hH hS dX10_same_161 ⟨h1, h3⟩
        · have : Int32.toInt 0 = 0 := rfl
          have c203 : ¬ _ := fun q => c203 (Int32.toInt_inj.mp q)
          refine lv_aload_n (pc := 110) C0.1 C0.2.1 dX10_same_110 rfl (lv_at hl 2 rfl) ?_
          refine xget (pc := 111) C0 hH 78 33 clX10 ⟨Nat.le_of_ble_eq_true rfl, Nat.le_of_ble_eq_true rfl⟩ ⟨rfl, rfl⟩ (Nat.le_of_ble_eq_true rfl) fl_X10_73 (v := .ref (b + 98)) rfl dX10_same_111 ?_
          refine lv_iload_n (pc := 114) C0.1 C0.2.1 dX10_same_114 rfl (lv_at hl 0 rfl) ?_
          refine xiald (pc := 115) (N := 1202) C0 hH 98 ⟨Nat.le_of_ble_eq_true rfl, Nat.le_of_ble_eq_true rfl⟩ ⟨rfl, rfl⟩ (vI (by omega) (by omega)) dX10_same_115 ?_
          refine lv_aload_n (pc := 116) C0.1 C0.2.1 dX10_same_116 rfl (lv_at hl 2 rfl) ?_
          refine xget (pc := 117) C0 hH 78 73 clX10 ⟨Nat.le_of_ble_eq_true rfl, Nat.le_of_ble_eq_true rfl⟩ ⟨rfl, rfl⟩ (Nat.le_of_ble_eq_true rfl) fl_X10_157 (v := .ref (b + 126)) rfl dX10_same_117 ?_
          refine lv_iload_n (pc := 120) C0.1 C0.2.1 dX10_same_120 rfl (lv_at hl 0 rfl) ?_
          refine xiald (pc := 121) (N := 1202) C0 hH 126 ⟨Nat.le_of_ble_eq_true rfl, Nat.le_of_ble_eq_true rfl⟩ ⟨rfl, rfl⟩ (vI (by omega) (by omega)) dX10_same_121 ?_
          refine lv_icmp_ne (pc := 122) (tgt := 144) C0.1 C0.2.1 dX10_same_122 (by decide) (fun c205 => ?_) (fun c205 => ?_)
          · have c205 : ¬ _ := fun q => c205 (Int32.toInt_inj.mp q)
            refine lv_iconst (pc := 144) (v := 0) C0.1 C0.2.1 dX10_same_144 (by decide) ?_
            refine lv_istore_n (pc := 145) (lv' := [(1, .int 0), (2, .int k), (0, .ref (b + 78))]) C0.1 C0.2.1 dX10_same_145 rfl hl (by decide) rfl (fun ls hl => ?_)
            obtain ⟨x206, ex206⟩ : ∃ y_ : Int32, y_ = k + 1 := ⟨_, rfl⟩
            have : Int32.toInt 1 = 1 := rfl
            have hx206 : Int32.toInt x206 = Int32.toInt k + Int32.toInt 1 := by rw [ex206]; exact fb_addI (by omega) (by omega)
            refine lv_iinc (pc := 146) (v := x206) (lv' := [(2, .int x206), (1, .int 0), (0, .ref (b + 78))]) C0.1 C0.2.1 dX10_same_146 hl (k := 1) rfl (by rw [ex206]; rfl) (by decide) rfl (fun ls hl => ?_)
            refine lv_goto (pc := 149) (tgt := 98) C0.1 C0.2.1 dX10_same_149 (by decide) ?_
            exact ih98 x206 0 iv Fv Gv _ _ _ h1 h2 h3 (by omega) (by omega) hH hS (lv_sub hl [0, 1, 2] rfl)
          · have c205 := congrArg Int32.toInt c205
            refine lv_aload_n (pc := 125) C0.1 C0.2.1 dX10_same_125 rfl (lv_at hl 2 rfl) ?_
            refine xget (pc := 126) C0 hH 78 35 clX10 ⟨Nat.le_of_ble_eq_true rfl, Nat.le_of_ble_eq_true rfl⟩ ⟨rfl, rfl⟩ (Nat.le_of_ble_eq_true rfl) fl_X10_79 (v := .ref (b + 100)) rfl dX10_same_126 ?_
            refine lv_iload_n (pc := 129) C0.1 C0.2.1 dX10_same_129 rfl (lv_at hl 0 rfl) ?_
            refine xiald (pc := 130) (N := 1202) C0 hH 100 ⟨Nat.le_of_ble_eq_true rfl, Nat.le_of_ble_eq_true rfl⟩ ⟨rfl, rfl⟩ (vI (by omega) (by omega)) dX10_same_130 ?_
            refine lv_aload_n (pc := 131) C0.1 C0.2.1 dX10_same_131 rfl (lv_at hl 2 rfl) ?_
            refine xget (pc := 132) C0 hH 78 74 clX10 ⟨Nat.le_of_ble_eq_true rfl, Nat.le_of_ble_eq_true rfl⟩ ⟨rfl, rfl⟩ (Nat.le_of_ble_eq_true rfl) fl_X10_160 (v := .ref (b + 127)) rfl dX10_same_132 ?_
            refine lv_iload_n (pc := 135) C0.1 C0.2.1 dX10_same_135 rfl (lv_at hl 0 rfl) ?_
            refine xiald (pc := 136) (N := 1202) C0 hH 127 ⟨Nat.le_of_ble_eq_true rfl, Nat.le_of_ble_eq_true rfl⟩ ⟨rfl, rfl⟩ (vI (by omega) (by omega)) dX10_same_136 ?_
            refine lv_icmp_ne (pc := 137) (tgt := 144) C0.1 C0.2.1 dX10_same_137 (by decide) (fun c207 => ?_) (fun c207 => ?_)
            · have c207 : ¬ _ := fun q => c207 (Int32.toInt_inj.mp q)
              refine lv_iconst (pc := 144) (v := 0) C0.1 C0.2.1 dX10_same_144 (by decide) ?_
              refine lv_istore_n (pc := 145) (lv' := [(1, .int 0), (2, .int k), (0, .ref (b + 78))]) C0.1 C0.2.1 dX10_same_145 rfl hl (by decide) rfl (fun ls hl => ?_)
              obtain ⟨x208, ex208⟩ : ∃ y_ : Int32, y_ = k + 1 := ⟨_, rfl⟩
              have : Int32.toInt 1 = 1 := rfl
              have hx208 : Int32.toInt x208 = Int32.toInt k + Int32.toInt 1 := by rw [ex208]; exact fb_addI (by omega) (by omega)
              refine lv_iinc (pc := 146) (v := x208) (lv' := [(2, .int x208), (1, .int 0), (0, .ref (b + 78))]) C0.1 C0.2.1 dX10_same_146 hl (k := 1) rfl (by rw [ex208]; rfl) (by decide) rfl (fun ls hl => ?_)
              refine lv_goto (pc := 149) (tgt := 98) C0.1 C0.2.1 dX10_same_149 (by decide) ?_
              exact ih98 x208 0 iv Fv Gv _ _ _ h1 h2 h3 (by omega) (by omega) hH hS (lv_sub hl [0, 1, 2] rfl)
            · have c207 := congrArg Int32.toInt c207
              refine lv_iconst (pc := 140) (v := 1) C0.1 C0.2.1 dX10_same_140 (by decide) ?_
              refine lv_goto (pc := 141) (tgt := 145) C0.1 C0.2.1 dX10_same_141 (by decide) ?_
              refine lv_istore_n (pc := 145) (lv' := [(1, .int 1), (2, .int k), (0, .ref (b + 78))]) C0.1 C0.2.1 dX10_same_145 rfl hl (by decide) rfl (fun ls hl => ?_)
              obtain ⟨x209, ex209⟩ : ∃ y_ : Int32, y_ = k + 1 := ⟨_, rfl⟩
              have : Int32.toInt 1 = 1 := rfl
              have hx209 : Int32.toInt x209 = Int32.toInt k + Int32.toInt 1 := by rw [ex209]; exact fb_addI (by omega) (by omega)
              refine lv_iinc (pc := 146) (v := x209) (lv' := [(2, .int x209), (1, .int 1), (0, .ref (b + 78))]) C0.1 C0.2.1 dX10_same_146 hl (k := 1) rfl (by rw [ex209]; rfl) (by decide) rfl (fun ls hl => ?_)
              refine lv_goto (pc := 149) (tgt := 98) C0.1 C0.2.1 dX10_same_149 (by decide) ?_
              exact ih98 x209 1 iv Fv Gv _ _ _ h1 h2 h3 (by omega) (by omega) hH hS (lv_sub hl [0, 1, 2] rfl)
  have L57 : ∀ (d : Nat) (k q : Int32) (iv Fv : Nat → Nat → Int32) (Gv : Nat → Nat → Int64) (H : Heap) (locs : List Loc) (ls : Array Slot), (IMm iv Fv) → (GTm iv Fv) → (RO [11, 12, 13, 14, 15, 16, 17, 18, 19, 20, 21, 22, 23, 24, 25, 26, 27, 28, 29, 30, 31, 32, 33, 34, 35, 36, 37, 38, 39, 40, 41, 42, 43, 44, 45, 46, 47, 48, 49, 50, 51, 52, 53, 54, 55, 56, 57, 58, 59, 60, 61, 62, 63, 64, 65, 66, 67, 68, 69, 70, 71, 72, 73, 74, 75, 76, 77, 78] [85, 86, 87, 88, 89, 90, 91, 92, 93, 94, 95, 96, 97, 98, 99, 100, 101, 102, 103, 104, 105, 106, 107, 108, 109, 110, 111, 112, 113, 114, 115, 116, 117, 118, 119, 120, 121, 122, 123, 124, 125, 126, 127, 128, 129] i F G (iv, Fv, Gv)) → (0 ≤ k.toInt) → ((iv 78 40).toInt - k.toInt ≤ d) → Hd D tA b 78 52 zz iv Fv Gv H → va_S (xA b 78 52) s.heap H locs → lv_has ls 3 [(2, .int k), (1, .int q), (0, .ref (b + 78))] → W p l e (xR 7 167) s m ([.ref (b + 78)] : List Value).toArray below meth c H locs 0 0 (MQ below (va_Qi (fun r u => IMm u.1 u.2.1 ∧ RO [11, 12, 13, 14, 15, 16, 17, 18, 19, 20, 21, 22, 23, 24, 25, 26, 27, 28, 29, 30, 31, 32, 33, 34, 35, 36, 37, 38, 39, 40, 41, 42, 43, 44, 45, 46, 47, 48, 49, 50, 51, 52, 53, 54, 55, 56, 57, 58, 59, 60, 61, 62, 63, 64, 65, 66, 67, 68, 69, 70, 71, 72, 73, 74, 75, 76, 77, 78] [85, 86, 87, 88, 89, 90, 91, 92, 93, 94, 95, 96, 97, 98, 99, 100, 101, 102, 103, 104, 105, 106, 107, 108, 109, 110, 111, 112, 113, 114, 115, 116, 117, 118, 119, 120, 121, 122, 123, 124, 125, 126, 127, 128, 129] i F G u) (xB D tA b 78 52 zz) (xA b 78 52)) ([.ref (b + 78)] : List Value).toArray s 0 0 (xA b 78 52)) (F0 m 57 ls []) := by
    intro d
    induction d with
    | zero =>
      intro k q iv Fv Gv H locs ls h1 h2 h3 h4 h5 hH hS hl
      have rg_k := fb_rng k
      have rg_q := fb_rng q
      have hGl := GTm.lin h2
      refine lv_iload_n (pc := 57) C0.1 C0.2.1 dX10_same_57 rfl (lv_at hl 0 rfl) ?_
      refine lv_aload_n (pc := 58) C0.1 C0.2.1 dX10_same_58 rfl (lv_at hl 2 rfl) ?_
      refine xget (pc := 59) C0 hH 78 40 clX10 ⟨Nat.le_of_ble_eq_true rfl, Nat.le_of_ble_eq_true rfl⟩ ⟨rfl, rfl⟩ (Nat.le_of_ble_eq_true rfl) fl_X10_287 (v := .int (iv 78 40)) rfl dX10_same_59 ?_
      refine lv_icmp_ge (pc := 62) (tgt := 96) C0.1 C0.2.1 dX10_same_62 (by decide) (fun _ => ?_) (fun c => absurd (Int32.le_iff_toInt_le.mpr (by omega)) c)
      refine lv_iconst (pc := 96) (v := 0) C0.1 C0.2.1 dX10_same_96 (by decide) ?_
      refine lv_istore_n (pc := 97) (lv' := [(2, .int 0), (1, .int q), (0, .ref (b + 78))]) C0.1 C0.2.1 dX10_same_97 rfl hl (by decide) rfl (fun ls hl => ?_)
      exact L98 1202 0 q iv Fv Gv _ _ _ h1 h2 h3 (by decide) (by have : Int32.toInt 0 = 0 := rfl; omega) hH hS (lv_sub hl [0, 1, 2] rfl)
    | succ d ih57 =>
      intro k q iv Fv Gv H locs ls h1 h2 h3 h4 h5 hH hS hl
      have rg_k := fb_rng k
      have rg_q := fb_rng q
      have hGl := GTm.lin h2
      refine lv_iload_n (pc := 57) C0.1 C0.2.1 dX10_same_57 rfl (lv_at hl 0 rfl) ?_
      refine lv_aload_n (pc := 58) C0.1 C0.2.1 dX10_same_58 rfl (lv_at hl 2 rfl) ?_
      refine xget (pc := 59) C0 hH 78 40 clX10 ⟨Nat.le_of_ble_eq_true rfl, Nat.le_of_ble_eq_true rfl⟩ ⟨rfl, rfl⟩ (Nat.le_of_ble_eq_true rfl) fl_X10_287 (v := .int (iv 78 40)) rfl dX10_same_59 ?_
      refine lv_icmp_ge (pc := 62) (tgt := 96) C0.1 C0.2.1 dX10_same_62 (by decide) (fun c201 => ?_) (fun c201 => ?_)
      · have c201 := Int32.le_iff_toInt_le.mp c201
        refine lv_iconst (pc := 96) (v := 0) C0.1 C0.2.1 dX10_same_96 (by decide) ?_
        refine lv_istore_n (pc := 97) (lv' := [(2, .int 0), (1, .int q), (0, .ref (b + 78))]) C0.1 C0.2.1 dX10_same_97 rfl hl (by decide) rfl (fun ls hl => ?_)
        exact L98 1202 0 q iv Fv Gv _ _ _ h1 h2 h3 (by decide) (by have : Int32.toInt 0 = 0 := rfl; omega) hH hS (lv_sub hl [0, 1, 2] rfl)
      · have c201 : ¬ _ := fun q => c201 (Int32.le_iff_toInt_le.mpr q)
        refine lv_iload_n (pc := 65) C0.1 C0.2.1 dX10_same_65 rfl (lv_at hl 1 rfl) ?_
        refine lv_if_eq (pc := 66) (tgt := 96) C0.1 C0.2.1 dX10_same_66 (by decide) (fun c202 => ?_) (fun c202 => ?_)
        · have : Int32.toInt 0 = 0 := rfl
          have c202 := congrArg Int32.toInt c202
          refine lv_iconst (pc := 96) (v := 0) C0.1 C0.2.1 dX10_same_96 (by decide) ?_
          refine lv_istore_n (pc := 97) (lv' := [(2, .int 0), (1, .int q), (0, .ref (b + 78))]) C0.1 C0.2.1 dX10_same_97 rfl hl (by decide) rfl (fun ls hl => ?_)
          exact L98 1202 0 q iv Fv Gv _ _ _ h1 h2 h3 (by decide) (by have : Int32.toInt 0 = 0 := rfl; omega) hH hS (lv_sub hl [0, 1, 2] rfl)
        · have : Int32.toInt 0 = 0 := rfl
          have c202 : ¬ _ := fun q => c202 (Int32.toInt_inj.mp q)
          refine lv_aload_n (pc := 69) C0.1 C0.2.1 dX10_same_69 rfl (lv_at hl 2 rfl) ?_
          refine xget (pc := 70) C0 hH 78 41 clX10 ⟨Nat.le_of_ble_eq_true rfl, Nat.le_of_ble_eq_true rfl⟩ ⟨rfl, rfl⟩ (Nat.le_of_ble_eq_true rfl) fl_X10_94 (v := .ref (b + 105)) rfl dX10_same_70 ?_
          refine lv_iload_n (pc := 73) C0.1 C0.2.1 dX10_same_73 rfl (lv_at hl 0 rfl) ?_
          refine xiald (pc := 74) (N := 1202) C0 hH 105 ⟨Nat.le_of_ble_eq_true rfl, Nat.le_of_ble_eq_true rfl⟩ ⟨rfl, rfl⟩ (vI (by omega) (by omega)) dX10_same_74 ?_
          refine lv_aload_n (pc := 75) C0.1 C0.2.1 dX10_same_75 rfl (lv_at hl 2 rfl) ?_
          refine xget (pc := 76) C0 hH 78 72 clX10 ⟨Nat.le_of_ble_eq_true rfl, Nat.le_of_ble_eq_true rfl⟩ ⟨rfl, rfl⟩ (Nat.le_of_ble_eq_true rfl) fl_X10_154 (v := .ref (b + 125)) rfl dX10_same_76 ?_
          refine lv_iload_n (pc := 79) C0.1 C0.2.1 dX10_same_79 rfl (lv_at hl 0 rfl) ?_
          refine xiald (pc := 80) (N := 1202) C0 hH 125 ⟨Nat.le_of_ble_eq_true rfl, Nat.le_of_ble_eq_true rfl⟩ ⟨rfl, rfl⟩ (vI (by omega) (by omega)) dX10_same_80 ?_
          refine lv_icmp_ne (pc := 81) (tgt := 88) C0.1 C0.2.1 dX10_same_81 (by decide) (fun c203 => ?_) (fun c203 => ?_)
          · have c203 : ¬ _ := fun q => c203 (Int32.toInt_inj.mp q)
            refine lv_iconst (pc := 88) (v := 0) C0.1 C0.2.1 dX10_same_88 (by decide) ?_
            refine lv_istore_n (pc := 89) (lv' := [(1, .int 0), (2, .int k), (0, .ref (b + 78))]) C0.1 C0.2.1 dX10_same_89 rfl hl (by decide) rfl (fun ls hl => ?_)
            obtain ⟨x204, ex204⟩ : ∃ y_ : Int32, y_ = k + 1 := ⟨_, rfl⟩
            have : Int32.toInt 1 = 1 := rfl
            have hx204 : Int32.toInt x204 = Int32.toInt k + Int32.toInt 1 := by rw [ex204]; exact fb_addI (by omega) (by omega)
            refine lv_iinc (pc := 90) (v := x204) (lv' := [(2, .int x204), (1, .int 0), (0, .ref (b + 78))]) C0.1 C0.2.1 dX10_same_90 hl (k := 1) rfl (by rw [ex204]; rfl) (by decide) rfl (fun ls hl => ?_)
            refine lv_goto (pc := 93) (tgt := 57) C0.1 C0.2.1 dX10_same_93 (by decide) ?_
            exact ih57 x204 0 iv Fv Gv _ _ _ h1 h2 h3 (by omega) (by omega) hH hS (lv_sub hl [0, 1, 2] rfl)
          · have c203 := congrArg Int32.toInt c203
            refine lv_iconst (pc := 84) (v := 1) C0.1 C0.2.1 dX10_same_84 (by decide) ?_
            refine lv_goto (pc := 85) (tgt := 89) C0.1 C0.2.1 dX10_same_85 (by decide) ?_
            refine lv_istore_n (pc := 89) (lv' := [(1, .int 1), (2, .int k), (0, .ref (b + 78))]) C0.1 C0.2.1 dX10_same_89 rfl hl (by decide) rfl (fun ls hl => ?_)
            obtain ⟨x205, ex205⟩ : ∃ y_ : Int32, y_ = k + 1 := ⟨_, rfl⟩
            have : Int32.toInt 1 = 1 := rfl
            have hx205 : Int32.toInt x205 = Int32.toInt k + Int32.toInt 1 := by rw [ex205]; exact fb_addI (by omega) (by omega)
            refine lv_iinc (pc := 90) (v := x205) (lv' := [(2, .int x205), (1, .int 1), (0, .ref (b + 78))]) C0.1 C0.2.1 dX10_same_90 hl (k := 1) rfl (by rw [ex205]; rfl) (by decide) rfl (fun ls hl => ?_)
            refine lv_goto (pc := 93) (tgt := 57) C0.1 C0.2.1 dX10_same_93 (by decide) ?_
            exact ih57 x205 1 iv Fv Gv _ _ _ h1 h2 h3 (by omega) (by omega) hH hS (lv_sub hl [0, 1, 2] rfl)
  refine lv_aload_n (pc := 0) C0.1 C0.2.1 dX10_same_0 rfl (lv_at hl 0 rfl) ?_
  refine xget (pc := 1) C0 hH 78 15 clX10 ⟨Nat.le_of_ble_eq_true rfl, Nat.le_of_ble_eq_true rfl⟩ ⟨rfl, rfl⟩ (Nat.le_of_ble_eq_true rfl) fl_X10_211 (v := .int (i 78 15)) rfl dX10_same_1 ?_
  refine lv_iconst (pc := 4) (v := 1) C0.1 C0.2.1 dX10_same_4 (by decide) ?_
  refine lv_icmp_ne (pc := 5) (tgt := 15) C0.1 C0.2.1 dX10_same_5 (by decide) (fun c1 => ?_) (fun c1 => ?_)
  · have : Int32.toInt 1 = 1 := rfl
    have c1 : ¬ _ := fun q => c1 (Int32.toInt_inj.mp q)
    refine lv_bipush (pc := 15) (v := (-3)) C0.1 C0.2.1 dX10_same_15 (by decide) ?_
    exact xiret (pc := 17) C0 hr hH hS dX10_same_17 ⟨hI, RO.rf⟩
  · have : Int32.toInt 1 = 1 := rfl
    have c1 := congrArg Int32.toInt c1
    have hGT := hI.s.gt (by have : Int32.toInt 1 = 1 := rfl; omega)
    refine lv_aload_n (pc := 8) C0.1 C0.2.1 dX10_same_8 rfl (lv_at hl 0 rfl) ?_
    refine xcVI (pc := 9) 78 [] (m_readBoth l D tA b i F G hI hBR hGT) C0 hH hS clX10 rfl ⟨⟨Nat.le_of_ble_eq_true rfl, Nat.le_of_ble_eq_true rfl⟩, rfl, rfl⟩ cw_X10_430 rfl ⟨Nat.le_of_ble_eq_true rfl, Nat.le_of_ble_eq_true rfl⟩ hl.1 rfl (Nat.le_of_ble_eq_true rfl) dX10_same_9 ⟨Nat.le_of_ble_eq_true rfl, Nat.le_of_ble_eq_true rfl⟩ (fun r2 ir2 Fr2 Gr2 _ locs hp hH hS => ?_)
    obtain ⟨hI1, hGT, honr2, h01r2, h15r2⟩ := hp
    have hI1 : IMm ir2 Fr2 := hI1
    have hGT : GTm ir2 Fr2 := hGT
    have hL := IMs.lin hI1.s
    have hGl := GTm.lin hGT
    refine lv_if_ne (pc := 12) (tgt := 18) C0.1 C0.2.1 dX10_same_12 (by decide) (fun c3 => ?_) (fun c3 => ?_)
    · have : Int32.toInt 0 = 0 := rfl
      have c3 : ¬ _ := fun q => c3 (Int32.toInt_inj.mp q)
      refine lv_aload_n (pc := 18) C0.1 C0.2.1 dX10_same_18 rfl (lv_at hl 0 rfl) ?_
      refine xcVI (pc := 19) 78 [] (m_firstUnlike l D tA b ir2 Fr2 Gr2  hI1) C0 hH hS clX10 rfl ⟨⟨Nat.le_of_ble_eq_true rfl, Nat.le_of_ble_eq_true rfl⟩, rfl, rfl⟩ cw_X10_433 rfl ⟨Nat.le_of_ble_eq_true rfl, Nat.le_of_ble_eq_true rfl⟩ hl.1 rfl (Nat.le_of_ble_eq_true rfl) dX10_same_19 ⟨Nat.le_of_ble_eq_true rfl, Nat.le_of_ble_eq_true rfl⟩ (fun r4 ir4 Fr4 Gr4 _ locs hp hH hS => ?_)
      obtain ⟨hu, hpr4⟩ := hp
      cases hu
      refine lv_bipush (pc := 22) (v := (-9)) C0.1 C0.2.1 dX10_same_22 (by decide) ?_
      refine lv_icmp_ne (pc := 24) (tgt := 53) C0.1 C0.2.1 dX10_same_24 (by decide) (fun c5 => ?_) (fun c5 => ?_)
      · have : Int32.toInt (-9) = (-9) := rfl
        have c5 : ¬ _ := fun q => c5 (Int32.toInt_inj.mp q)
        refine lv_iconst (pc := 53) (v := 0) C0.1 C0.2.1 dX10_same_53 (by decide) ?_
        refine lv_istore_n (pc := 54) (lv' := [(1, .int 0), (0, .ref (b + 78))]) C0.1 C0.2.1 dX10_same_54 rfl hl (by decide) rfl (fun ls hl => ?_)
        refine lv_iconst (pc := 55) (v := 0) C0.1 C0.2.1 dX10_same_55 (by decide) ?_
        refine lv_istore_n (pc := 56) (lv' := [(2, .int 0), (1, .int 0), (0, .ref (b + 78))]) C0.1 C0.2.1 dX10_same_56 rfl hl (by decide) rfl (fun ls hl => ?_)
        exact L57 1202 0 0 ir2 Fr2 Gr2 _ _ _ hI1 hGT (RO.tr RO.rf honr2 (by decide) (by decide)) (by decide) (by have : Int32.toInt 0 = 0 := rfl; omega) hH hS (lv_sub hl [0, 1, 2] rfl)
      · have : Int32.toInt (-9) = (-9) := rfl
        have c5 := congrArg Int32.toInt c5
        refine lv_aload_n (pc := 27) C0.1 C0.2.1 dX10_same_27 rfl (lv_at hl 0 rfl) ?_
        refine xget (pc := 28) C0 hH 78 40 clX10 ⟨Nat.le_of_ble_eq_true rfl, Nat.le_of_ble_eq_true rfl⟩ ⟨rfl, rfl⟩ (Nat.le_of_ble_eq_true rfl) fl_X10_287 (v := .int (ir2 78 40)) rfl dX10_same_28 ?_
        refine lv_aload_n (pc := 31) C0.1 C0.2.1 dX10_same_31 rfl (lv_at hl 0 rfl) ?_
        refine xget (pc := 32) C0 hH 78 68 clX10 ⟨Nat.le_of_ble_eq_true rfl, Nat.le_of_ble_eq_true rfl⟩ ⟨rfl, rfl⟩ (Nat.le_of_ble_eq_true rfl) fl_X10_424 (v := .int (ir2 78 68)) rfl dX10_same_32 ?_
        refine lv_icmp_ne (pc := 35) (tgt := 53) C0.1 C0.2.1 dX10_same_35 (by decide) (fun c6 => ?_) (fun c6 => ?_)
        · have c6 : ¬ _ := fun q => c6 (Int32.toInt_inj.mp q)
          refine lv_iconst (pc := 53) (v := 0) C0.1 C0.2.1 dX10_same_53 (by decide) ?_
          refine lv_istore_n (pc := 54) (lv' := [(1, .int 0), (0, .ref (b + 78))]) C0.1 C0.2.1 dX10_same_54 rfl hl (by decide) rfl (fun ls hl => ?_)
          refine lv_iconst (pc := 55) (v := 0) C0.1 C0.2.1 dX10_same_55 (by decide) ?_
          refine lv_istore_n (pc := 56) (lv' := [(2, .int 0), (1, .int 0), (0, .ref (b + 78))]) C0.1 C0.2.1 dX10_same_56 rfl hl (by decide) rfl (fun ls hl => ?_)
          exact L57 1202 0 0 ir2 Fr2 Gr2 _ _ _ hI1 hGT (RO.tr RO.rf honr2 (by decide) (by decide)) (by decide) (by have : Int32.toInt 0 = 0 := rfl; omega) hH hS (lv_sub hl [0, 1, 2] rfl)
        · have c6 := congrArg Int32.toInt c6
          refine lv_aload_n (pc := 38) C0.1 C0.2.1 dX10_same_38 rfl (lv_at hl 0 rfl) ?_
          refine xget (pc := 39) C0 hH 78 32 clX10 ⟨Nat.le_of_ble_eq_true rfl, Nat.le_of_ble_eq_true rfl⟩ ⟨rfl, rfl⟩ (Nat.le_of_ble_eq_true rfl) fl_X10_281 (v := .int (ir2 78 32)) rfl dX10_same_39 ?_
          refine lv_aload_n (pc := 42) C0.1 C0.2.1 dX10_same_42 rfl (lv_at hl 0 rfl) ?_
          refine xget (pc := 43) C0 hH 78 67 clX10 ⟨Nat.le_of_ble_eq_true rfl, Nat.le_of_ble_eq_true rfl⟩ ⟨rfl, rfl⟩ (Nat.le_of_ble_eq_true rfl) fl_X10_421 (v := .int (ir2 78 67)) rfl dX10_same_43 ?_
          refine lv_icmp_ne (pc := 46) (tgt := 53) C0.1 C0.2.1 dX10_same_46 (by decide) (fun c7 => ?_) (fun c7 => ?_)
          · have c7 : ¬ _ := fun q => c7 (Int32.toInt_inj.mp q)
            refine lv_iconst (pc := 53) (v := 0) C0.1 C0.2.1 dX10_same_53 (by decide) ?_
            refine lv_istore_n (pc := 54) (lv' := [(1, .int 0), (0, .ref (b + 78))]) C0.1 C0.2.1 dX10_same_54 rfl hl (by decide) rfl (fun ls hl => ?_)
            refine lv_iconst (pc := 55) (v := 0) C0.1 C0.2.1 dX10_same_55 (by decide) ?_
            refine lv_istore_n (pc := 56) (lv' := [(2, .int 0), (1, .int 0), (0, .ref (b + 78))]) C0.1 C0.2.1 dX10_same_56 rfl hl (by decide) rfl (fun ls hl => ?_)
            exact L57 1202 0 0 ir2 Fr2 Gr2 _ _ _ hI1 hGT (RO.tr RO.rf honr2 (by decide) (by decide)) (by decide) (by have : Int32.toInt 0 = 0 := rfl; omega) hH hS (lv_sub hl [0, 1, 2] rfl)
          · have c7 := congrArg Int32.toInt c7
            refine lv_iconst (pc := 49) (v := 1) C0.1 C0.2.1 dX10_same_49 (by decide) ?_
            refine lv_goto (pc := 50) (tgt := 54) C0.1 C0.2.1 dX10_same_50 (by decide) ?_
            refine lv_istore_n (pc := 54) (lv' := [(1, .int 1), (0, .ref (b + 78))]) C0.1 C0.2.1 dX10_same_54 rfl hl (by decide) rfl (fun ls hl => ?_)
            refine lv_iconst (pc := 55) (v := 0) C0.1 C0.2.1 dX10_same_55 (by decide) ?_
            refine lv_istore_n (pc := 56) (lv' := [(2, .int 0), (1, .int 1), (0, .ref (b + 78))]) C0.1 C0.2.1 dX10_same_56 rfl hl (by decide) rfl (fun ls hl => ?_)
            exact L57 1202 0 1 ir2 Fr2 Gr2 _ _ _ hI1 hGT (RO.tr RO.rf honr2 (by decide) (by decide)) (by decide) (by have : Int32.toInt 0 = 0 := rfl; omega) hH hS (lv_sub hl [0, 1, 2] rfl)
    · have : Int32.toInt 0 = 0 := rfl
      have c3 := congrArg Int32.toInt c3
      refine lv_bipush (pc := 15) (v := (-3)) C0.1 C0.2.1 dX10_same_15 (by decide) ?_
      exact xiret (pc := 17) C0 hr hH hS dX10_same_17 ⟨hI1, (RO.tr RO.rf honr2 (by decide) (by decide))⟩
set_option maxHeartbeats 4000000 in
set_option maxRecDepth 100000 in
theorem m_parts (l : Launch) (D : va_G) (tA : Nat → ClassId) (b : Nat) (i F : Nat → Nat → Int32) (G : Nat → Nat → Int64)  (hI : IMm i F) (hBR : BR i) : xMI l yX10_parts cX10_parts 1 (some .int) 7 167 D tA b 78 52 i F G [.ref (b + 78)] (fun r u => IMm u.1 u.2.1 ∧ RO [11, 12, 13, 14, 15, 16, 17, 18, 19, 20, 21, 22, 23, 24, 25, 26, 27, 28, 29, 30, 31, 32, 33, 34, 35, 36, 37, 38, 39, 40, 41, 42, 43, 44, 45, 46, 47, 48, 49, 50, 51, 52, 53, 54, 55, 56, 57, 58, 59, 60, 61, 62, 63, 64, 65, 66, 67, 68, 69, 70, 71, 72, 73, 74, 75, 76, 77, 78] [85, 86, 87, 88, 89, 90, 91, 92, 93, 94, 95, 96, 97, 98, 99, 100, 101, 102, 103, 104, 105, 106, 107, 108, 109, 110, 111, 112, 113, 114, 115, 116, 117, 118, 119, 120, 121, 122, 123, 124, 125, 126, 127, 128, 129] i F G u) := by
  refine xstart RX10 rfl (by decide) (Nat.le_of_ble_eq_true rfl) ?_
  intro p e s m below meth c ls C0 hr hH hS hl
  have hl : lv_has ls 1 [(0, .ref (b + 78))] := hl

  refine lv_aload_n (pc := 0) C0.1 C0.2.1 dX10_parts_0 rfl (lv_at hl 0 rfl) ?_
  refine xget (pc := 1) C0 hH 78 15 clX10 ⟨Nat.le_of_ble_eq_true rfl, Nat.le_of_ble_eq_true rfl⟩ ⟨rfl, rfl⟩ (Nat.le_of_ble_eq_true rfl) fl_X10_211 (v := .int (i 78 15)) rfl dX10_parts_1 ?_
  refine lv_iconst (pc := 4) (v := 1) C0.1 C0.2.1 dX10_parts_4 (by decide) ?_
  refine lv_icmp_ne (pc := 5) (tgt := 15) C0.1 C0.2.1 dX10_parts_5 (by decide) (fun c1 => ?_) (fun c1 => ?_)
  · have : Int32.toInt 1 = 1 := rfl
    have c1 : ¬ _ := fun q => c1 (Int32.toInt_inj.mp q)
    refine lv_bipush (pc := 15) (v := (-3)) C0.1 C0.2.1 dX10_parts_15 (by decide) ?_
    refine lv_goto (pc := 17) (tgt := 24) C0.1 C0.2.1 dX10_parts_17 (by decide) ?_
    exact xiret (pc := 24) C0 hr hH hS dX10_parts_24 ⟨hI, RO.rf⟩
  · have : Int32.toInt 1 = 1 := rfl
    have c1 := congrArg Int32.toInt c1
    have hGT := hI.s.gt (by have : Int32.toInt 1 = 1 := rfl; omega)
    refine lv_aload_n (pc := 8) C0.1 C0.2.1 dX10_parts_8 rfl (lv_at hl 0 rfl) ?_
    refine xcVI (pc := 9) 78 [] (m_readBoth l D tA b i F G hI hBR hGT) C0 hH hS clX10 rfl ⟨⟨Nat.le_of_ble_eq_true rfl, Nat.le_of_ble_eq_true rfl⟩, rfl, rfl⟩ cw_X10_430 rfl ⟨Nat.le_of_ble_eq_true rfl, Nat.le_of_ble_eq_true rfl⟩ hl.1 rfl (Nat.le_of_ble_eq_true rfl) dX10_parts_9 ⟨Nat.le_of_ble_eq_true rfl, Nat.le_of_ble_eq_true rfl⟩ (fun r2 ir2 Fr2 Gr2 _ locs hp hH hS => ?_)
    obtain ⟨hI1, hGT, honr2, h01r2, h15r2⟩ := hp
    have hI1 : IMm ir2 Fr2 := hI1
    have hGT : GTm ir2 Fr2 := hGT
    have hL := IMs.lin hI1.s
    have hGl := GTm.lin hGT
    refine lv_if_ne (pc := 12) (tgt := 20) C0.1 C0.2.1 dX10_parts_12 (by decide) (fun c3 => ?_) (fun c3 => ?_)
    · have : Int32.toInt 0 = 0 := rfl
      have c3 : ¬ _ := fun q => c3 (Int32.toInt_inj.mp q)
      refine lv_aload_n (pc := 20) C0.1 C0.2.1 dX10_parts_20 rfl (lv_at hl 0 rfl) ?_
      refine xcVI (pc := 21) 78 [] (m_firstUnlike l D tA b ir2 Fr2 Gr2  hI1) C0 hH hS clX10 rfl ⟨⟨Nat.le_of_ble_eq_true rfl, Nat.le_of_ble_eq_true rfl⟩, rfl, rfl⟩ cw_X10_433 rfl ⟨Nat.le_of_ble_eq_true rfl, Nat.le_of_ble_eq_true rfl⟩ hl.1 rfl (Nat.le_of_ble_eq_true rfl) dX10_parts_21 ⟨Nat.le_of_ble_eq_true rfl, Nat.le_of_ble_eq_true rfl⟩ (fun r4 ir4 Fr4 Gr4 _ locs hp hH hS => ?_)
      obtain ⟨hu, hpr4⟩ := hp
      cases hu
      exact xiret (pc := 24) C0 hr hH hS dX10_parts_24 ⟨hI1, (RO.tr RO.rf honr2 (by decide) (by decide))⟩
    · have : Int32.toInt 0 = 0 := rfl
      have c3 := congrArg Int32.toInt c3
      refine lv_bipush (pc := 15) (v := (-3)) C0.1 C0.2.1 dX10_parts_15 (by decide) ?_
      refine lv_goto (pc := 17) (tgt := 24) C0.1 C0.2.1 dX10_parts_17 (by decide) ?_
      exact xiret (pc := 24) C0 hr hH hS dX10_parts_24 ⟨hI1, (RO.tr RO.rf honr2 (by decide) (by decide))⟩
