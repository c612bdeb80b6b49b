set_option maxRecDepth 20000 in
theorem cw_X9_265 : CwV RX9 265 yX9_sameToken cX9_sameToken 6 (some .boolean) 1 := ⟨wm 960 (by decide +kernel) rfl, wm 962 (by decide +kernel) rfl, wms 34 (by decide +kernel) rfl, wm 1 (by decide +kernel) rfl, wm 963 rfl rfl, by decide +kernel⟩
set_option maxRecDepth 20000 in
theorem cw_X9_98 : CwV RX9 98 yX6_copyFrom cX6_copyFrom 2 none 1 := ⟨wm 630 (by decide +kernel) rfl, wm 631 (by decide +kernel) rfl, wm 632 (by decide +kernel) rfl, wm 3 (by decide +kernel) rfl, wm 633 rfl rfl, by decide +kernel⟩
set_option maxRecDepth 20000 in
theorem cw_X9_108 : CwV RX9 108 yX4_make cX4_make 3 none 2 := ⟨wm 643 (by decide +kernel) rfl, wm 644 (by decide +kernel) rfl, wm 645 (by decide +kernel) rfl, wm 4 (by decide +kernel) rfl, wm 646 rfl rfl, by decide +kernel⟩
set_option maxRecDepth 20000 in
theorem cw_X9_252 : CwV RX9 252 yX9_sameBytes cX9_sameBytes 2 (some .boolean) 0 := ⟨wm 956 (by decide +kernel) rfl, wm 958 (by decide +kernel) rfl, wms 33 (by decide +kernel) rfl, wm 1 (by decide +kernel) rfl, wm 959 rfl rfl, by decide +kernel⟩
set_option maxRecDepth 20000 in
theorem cw_X9_256 : CwV RX9 256 yX8_hasShapeOf cX8_hasShapeOf 4 (some .boolean) 2 := ⟨wm 964 (by decide +kernel) rfl, wm 965 (by decide +kernel) rfl, wm 966 (by decide +kernel) rfl, wm 6 (by decide +kernel) rfl, wm 967 rfl rfl, by decide +kernel⟩
set_option maxRecDepth 20000 in
theorem cw_X9_89 : CwV RX9 89 yX6_append cX6_append 5 (some .int) 1 := ⟨wm 583 (by decide +kernel) rfl, wm 584 (by decide +kernel) rfl, wm 585 (by decide +kernel) rfl, wm 3 (by decide +kernel) rfl, wm 586 rfl rfl, by decide +kernel⟩
set_option maxRecDepth 20000 in
theorem cw_X9_71 : CwV RX9 71 yX9_unreadUnlessRefused cX9_unreadUnlessRefused 2 (some .int) 1 := ⟨wm 543 (by decide +kernel) rfl, wm 545 (by decide +kernel) rfl, wms 1 (by decide +kernel) rfl, wm 1 (by decide +kernel) rfl, wm 546 rfl rfl, by decide +kernel⟩
set_option maxRecDepth 20000 in
theorem cw_X9_92 : CwV RX9 92 yX6_keepFirst cX6_keepFirst 3 (some .int) 1 := ⟨wm 593 (by decide +kernel) rfl, wm 594 (by decide +kernel) rfl, wm 595 (by decide +kernel) rfl, wm 3 (by decide +kernel) rfl, wm 596 rfl rfl, by decide +kernel⟩
set_option maxRecDepth 20000 in
theorem cw_X9_95 : CwV RX9 95 yX6_slide cX6_slide 5 (some .int) 2 := ⟨wm 601 (by decide +kernel) rfl, wm 602 (by decide +kernel) rfl, wm 603 (by decide +kernel) rfl, wm 3 (by decide +kernel) rfl, wm 604 rfl rfl, by decide +kernel⟩
set_option maxRecDepth 20000 in
theorem mm_X9_260 : Cond.methodLink RX9 260 Lib.Math.min.name ∈ WALL ∧ Cond.static Lib.Math.min.name ∈ WALL ∧ Cond.initialized "java/lang/Math" ∈ WALL ∧ Cond.code Lib.Math.min.name Lib.Math.min.code 2 (some .int) ∈ WALL := ⟨wm 972 (by decide +kernel) rfl, wm 478 (by decide +kernel) rfl, wm 14 (by decide +kernel) rfl, wm 479 rfl rfl⟩
set_option maxRecDepth 20000 in
theorem cw_X9_283 : CwV RX9 283 yX8_depthOf cX8_depthOf 3 (some .int) 1 := ⟨wm 1009 (by decide +kernel) rfl, wm 1010 (by decide +kernel) rfl, wm 1011 (by decide +kernel) rfl, wm 6 (by decide +kernel) rfl, wm 1012 rfl rfl, by decide +kernel⟩
theorem dX9_sameToken_95 : decode cX9_sameToken 95 = .ok (.iload 5, 2) := by decide +kernel
theorem dX9_sameToken_97 : decode cX9_sameToken 97 = .ok (.iload_n 2, 1) := by decide +kernel
theorem dX9_sameToken_98 : decode cX9_sameToken 98 = .ok (.if_icmp .ge 37, 3) := by decide +kernel
theorem dX9_sameToken_135 : decode cX9_sameToken 135 = .ok (.iconst 1, 1) := by decide +kernel
theorem dX9_sameToken_136 : decode cX9_sameToken 136 = .ok (.ireturn, 1) := by decide +kernel
theorem dX9_sameToken_101 : decode cX9_sameToken 101 = .ok (.aload_n 0, 1) := by decide +kernel
theorem dX9_sameToken_102 : decode cX9_sameToken 102 = .ok (.getfield 19, 3) := by decide +kernel
theorem dX9_sameToken_105 : decode cX9_sameToken 105 = .ok (.iload_n 3, 1) := by decide +kernel
theorem dX9_sameToken_106 : decode cX9_sameToken 106 = .ok (.iload 5, 2) := by decide +kernel
theorem dX9_sameToken_108 : decode cX9_sameToken 108 = .ok (.iadd, 1) := by decide +kernel
theorem dX9_sameToken_109 : decode cX9_sameToken 109 = .ok (.invokevirtual 105, 3) := by decide +kernel
theorem dX9_sameToken_112 : decode cX9_sameToken 112 = .ok (.aload_n 0, 1) := by decide +kernel
theorem dX9_sameToken_113 : decode cX9_sameToken 113 = .ok (.getfield 23, 3) := by decide +kernel
theorem dX9_sameToken_116 : decode cX9_sameToken 116 = .ok (.iload 4, 2) := by decide +kernel
theorem dX9_sameToken_118 : decode cX9_sameToken 118 = .ok (.iload 5, 2) := by decide +kernel
theorem dX9_sameToken_120 : decode cX9_sameToken 120 = .ok (.iadd, 1) := by decide +kernel
theorem dX9_sameToken_121 : decode cX9_sameToken 121 = .ok (.invokevirtual 105, 3) := by decide +kernel
theorem dX9_sameToken_124 : decode cX9_sameToken 124 = .ok (.if_icmp .eq 5, 3) := by decide +kernel
theorem dX9_sameToken_129 : decode cX9_sameToken 129 = .ok (.iinc 5 1, 3) := by decide +kernel
theorem dX9_sameToken_132 : decode cX9_sameToken 132 = .ok (.goto (-37), 3) := by decide +kernel
theorem dX9_sameToken_127 : decode cX9_sameToken 127 = .ok (.iconst 0, 1) := by decide +kernel
theorem dX9_sameToken_128 : decode cX9_sameToken 128 = .ok (.ireturn, 1) := by decide +kernel
theorem dX9_sameToken_0 : decode cX9_sameToken 0 = .ok (.iload_n 1, 1) := by decide +kernel
theorem dX9_sameToken_1 : decode cX9_sameToken 1 = .ok (.ifCond .lt 31, 3) := by decide +kernel
theorem dX9_sameToken_32 : decode cX9_sameToken 32 = .ok (.iconst 0, 1) := by decide +kernel
theorem dX9_sameToken_33 : decode cX9_sameToken 33 = .ok (.ireturn, 1) := by decide +kernel
theorem dX9_sameToken_4 : decode cX9_sameToken 4 = .ok (.iload_n 1, 1) := by decide +kernel
theorem dX9_sameToken_5 : decode cX9_sameToken 5 = .ok (.aload_n 0, 1) := by decide +kernel
theorem dX9_sameToken_6 : decode cX9_sameToken 6 = .ok (.getfield 29, 3) := by decide +kernel
theorem dX9_sameToken_9 : decode cX9_sameToken 9 = .ok (.getfield 118, 3) := by decide +kernel
theorem dX9_sameToken_12 : decode cX9_sameToken 12 = .ok (.getfield 122, 3) := by decide +kernel
theorem dX9_sameToken_15 : decode cX9_sameToken 15 = .ok (.if_icmp .ge 17, 3) := by decide +kernel
theorem dX9_sameToken_18 : decode cX9_sameToken 18 = .ok (.iload_n 1, 1) := by decide +kernel
theorem dX9_sameToken_19 : decode cX9_sameToken 19 = .ok (.aload_n 0, 1) := by decide +kernel
theorem dX9_sameToken_20 : decode cX9_sameToken 20 = .ok (.getfield 33, 3) := by decide +kernel
theorem dX9_sameToken_23 : decode cX9_sameToken 23 = .ok (.getfield 118, 3) := by decide +kernel
theorem dX9_sameToken_26 : decode cX9_sameToken 26 = .ok (.getfield 122, 3) := by decide +kernel
theorem dX9_sameToken_29 : decode cX9_sameToken 29 = .ok (.if_icmp .lt 5, 3) := by decide +kernel
theorem dX9_sameToken_34 : decode cX9_sameToken 34 = .ok (.aload_n 0, 1) := by decide +kernel
theorem dX9_sameToken_35 : decode cX9_sameToken 35 = .ok (.getfield 29, 3) := by decide +kernel
theorem dX9_sameToken_38 : decode cX9_sameToken 38 = .ok (.getfield 118, 3) := by decide +kernel
theorem dX9_sameToken_41 : decode cX9_sameToken 41 = .ok (.getfield 163, 3) := by decide +kernel
theorem dX9_sameToken_44 : decode cX9_sameToken 44 = .ok (.iload_n 1, 1) := by decide +kernel
theorem dX9_sameToken_45 : decode cX9_sameToken 45 = .ok (.iaload, 1) := by decide +kernel
theorem dX9_sameToken_46 : decode cX9_sameToken 46 = .ok (.istore_n 2, 1) := by decide +kernel
theorem dX9_sameToken_47 : decode cX9_sameToken 47 = .ok (.aload_n 0, 1) := by decide +kernel
theorem dX9_sameToken_48 : decode cX9_sameToken 48 = .ok (.getfield 33, 3) := by decide +kernel
theorem dX9_sameToken_51 : decode cX9_sameToken 51 = .ok (.getfield 118, 3) := by decide +kernel
theorem dX9_sameToken_54 : decode cX9_sameToken 54 = .ok (.getfield 163, 3) := by decide +kernel
theorem dX9_sameToken_57 : decode cX9_sameToken 57 = .ok (.iload_n 1, 1) := by decide +kernel
theorem dX9_sameToken_58 : decode cX9_sameToken 58 = .ok (.iaload, 1) := by decide +kernel
theorem dX9_sameToken_59 : decode cX9_sameToken 59 = .ok (.iload_n 2, 1) := by decide +kernel
theorem dX9_sameToken_60 : decode cX9_sameToken 60 = .ok (.if_icmp .eq 5, 3) := by decide +kernel
theorem dX9_sameToken_65 : decode cX9_sameToken 65 = .ok (.aload_n 0, 1) := by decide +kernel
theorem dX9_sameToken_66 : decode cX9_sameToken 66 = .ok (.getfield 29, 3) := by decide +kernel
theorem dX9_sameToken_69 : decode cX9_sameToken 69 = .ok (.getfield 118, 3) := by decide +kernel
theorem dX9_sameToken_72 : decode cX9_sameToken 72 = .ok (.getfield 160, 3) := by decide +kernel
theorem dX9_sameToken_75 : decode cX9_sameToken 75 = .ok (.iload_n 1, 1) := by decide +kernel
theorem dX9_sameToken_76 : decode cX9_sameToken 76 = .ok (.iaload, 1) := by decide +kernel
theorem dX9_sameToken_77 : decode cX9_sameToken 77 = .ok (.istore_n 3, 1) := by decide +kernel
theorem dX9_sameToken_78 : decode cX9_sameToken 78 = .ok (.aload_n 0, 1) := by decide +kernel
theorem dX9_sameToken_79 : decode cX9_sameToken 79 = .ok (.getfield 33, 3) := by decide +kernel
theorem dX9_sameToken_82 : decode cX9_sameToken 82 = .ok (.getfield 118, 3) := by decide +kernel
theorem dX9_sameToken_85 : decode cX9_sameToken 85 = .ok (.getfield 160, 3) := by decide +kernel
theorem dX9_sameToken_88 : decode cX9_sameToken 88 = .ok (.iload_n 1, 1) := by decide +kernel
theorem dX9_sameToken_89 : decode cX9_sameToken 89 = .ok (.iaload, 1) := by decide +kernel
theorem dX9_sameToken_90 : decode cX9_sameToken 90 = .ok (.istore 4, 2) := by decide +kernel
theorem dX9_sameToken_92 : decode cX9_sameToken 92 = .ok (.iconst 0, 1) := by decide +kernel
theorem dX9_sameToken_93 : decode cX9_sameToken 93 = .ok (.istore 5, 2) := by decide +kernel
theorem dX9_sameToken_63 : decode cX9_sameToken 63 = .ok (.iconst 0, 1) := by decide +kernel
theorem dX9_sameToken_64 : decode cX9_sameToken 64 = .ok (.ireturn, 1) := by decide +kernel
theorem dX9_sameBytes_27 : decode cX9_sameBytes 27 = .ok (.iload_n 1, 1) := by decide +kernel
theorem dX9_sameBytes_28 : decode cX9_sameBytes 28 = .ok (.aload_n 0, 1) := by decide +kernel
theorem dX9_sameBytes_29 : decode cX9_sameBytes 29 = .ok (.getfield 29, 3) := by decide +kernel
theorem dX9_sameBytes_32 : decode cX9_sameBytes 32 = .ok (.getfield 118, 3) := by decide +kernel
theorem dX9_sameBytes_35 : decode cX9_sameBytes 35 = .ok (.getfield 122, 3) := by decide +kernel
theorem dX9_sameBytes_38 : decode cX9_sameBytes 38 = .ok (.if_icmp .ge 19, 3) := by decide +kernel
theorem dX9_sameBytes_57 : decode cX9_sameBytes 57 = .ok (.iconst 1, 1) := by decide +kernel
theorem dX9_sameBytes_58 : decode cX9_sameBytes 58 = .ok (.ireturn, 1) := by decide +kernel
theorem dX9_sameBytes_41 : decode cX9_sameBytes 41 = .ok (.aload_n 0, 1) := by decide +kernel
theorem dX9_sameBytes_42 : decode cX9_sameBytes 42 = .ok (.iload_n 1, 1) := by decide +kernel
theorem dX9_sameBytes_43 : decode cX9_sameBytes 43 = .ok (.invokevirtual 265, 3) := by decide +kernel
theorem dX9_sameBytes_46 : decode cX9_sameBytes 46 = .ok (.ifCond .ne 5, 3) := by decide +kernel
theorem dX9_sameBytes_51 : decode cX9_sameBytes 51 = .ok (.iinc 1 1, 3) := by decide +kernel
theorem dX9_sameBytes_54 : decode cX9_sameBytes 54 = .ok (.goto (-27), 3) := by decide +kernel
theorem dX9_sameBytes_49 : decode cX9_sameBytes 49 = .ok (.iconst 0, 1) := by decide +kernel
theorem dX9_sameBytes_50 : decode cX9_sameBytes 50 = .ok (.ireturn, 1) := by decide +kernel
theorem dX9_sameBytes_0 : decode cX9_sameBytes 0 = .ok (.aload_n 0, 1) := by decide +kernel
theorem dX9_sameBytes_1 : decode cX9_sameBytes 1 = .ok (.getfield 29, 3) := by decide +kernel
theorem dX9_sameBytes_4 : decode cX9_sameBytes 4 = .ok (.getfield 118, 3) := by decide +kernel
theorem dX9_sameBytes_7 : decode cX9_sameBytes 7 = .ok (.getfield 122, 3) := by decide +kernel
theorem dX9_sameBytes_10 : decode cX9_sameBytes 10 = .ok (.aload_n 0, 1) := by decide +kernel
theorem dX9_sameBytes_11 : decode cX9_sameBytes 11 = .ok (.getfield 33, 3) := by decide +kernel
theorem dX9_sameBytes_14 : decode cX9_sameBytes 14 = .ok (.getfield 118, 3) := by decide +kernel
theorem dX9_sameBytes_17 : decode cX9_sameBytes 17 = .ok (.getfield 122, 3) := by decide +kernel
theorem dX9_sameBytes_20 : decode cX9_sameBytes 20 = .ok (.if_icmp .eq 5, 3) := by decide +kernel
theorem dX9_sameBytes_25 : decode cX9_sameBytes 25 = .ok (.iconst 0, 1) := by decide +kernel
theorem dX9_sameBytes_26 : decode cX9_sameBytes 26 = .ok (.istore_n 1, 1) := by decide +kernel
theorem dX9_sameBytes_23 : decode cX9_sameBytes 23 = .ok (.iconst 0, 1) := by decide +kernel
theorem dX9_sameBytes_24 : decode cX9_sameBytes 24 = .ok (.ireturn, 1) := by decide +kernel
theorem dX9_keep_0 : decode cX9_keep 0 = .ok (.aload_n 0, 1) := by decide +kernel
theorem dX9_keep_1 : decode cX9_keep 1 = .ok (.getfield 23, 3) := by decide +kernel
theorem dX9_keep_4 : decode cX9_keep 4 = .ok (.aload_n 0, 1) := by decide +kernel
theorem dX9_keep_5 : decode cX9_keep 5 = .ok (.getfield 19, 3) := by decide +kernel
theorem dX9_keep_8 : decode cX9_keep 8 = .ok (.invokevirtual 98, 3) := by decide +kernel
theorem dX9_keep_11 : decode cX9_keep 11 = .ok (.aload_n 0, 1) := by decide +kernel
theorem dX9_keep_12 : decode cX9_keep 12 = .ok (.getfield 23, 3) := by decide +kernel
theorem dX9_keep_15 : decode cX9_keep 15 = .ok (.getfield 102, 3) := by decide +kernel
theorem dX9_keep_18 : decode cX9_keep 18 = .ok (.ireturn, 1) := by decide +kernel
theorem dX9_read_0 : decode cX9_read 0 = .ok (.aload_n 0, 1) := by decide +kernel
theorem dX9_read_1 : decode cX9_read 1 = .ok (.getfield 29, 3) := by decide +kernel
theorem dX9_read_4 : decode cX9_read 4 = .ok (.aload_n 0, 1) := by decide +kernel
theorem dX9_read_5 : decode cX9_read 5 = .ok (.getfield 19, 3) := by decide +kernel
theorem dX9_read_8 : decode cX9_read 8 = .ok (.aload_n 0, 1) := by decide +kernel
theorem dX9_read_9 : decode cX9_read 9 = .ok (.getfield 12, 3) := by decide +kernel
theorem dX9_read_12 : decode cX9_read 12 = .ok (.invokevirtual 108, 3) := by decide +kernel
theorem dX9_read_15 : decode cX9_read 15 = .ok (.aload_n 0, 1) := by decide +kernel
theorem dX9_read_16 : decode cX9_read 16 = .ok (.getfield 29, 3) := by decide +kernel
theorem dX9_read_19 : decode cX9_read 19 = .ok (.getfield 112, 3) := by decide +kernel
theorem dX9_read_22 : decode cX9_read 22 = .ok (.ifCond .eq 19, 3) := by decide +kernel
theorem dX9_read_41 : decode cX9_read 41 = .ok (.aload_n 0, 1) := by decide +kernel
theorem dX9_read_42 : decode cX9_read 42 = .ok (.iconst 1, 1) := by decide +kernel
theorem dX9_read_43 : decode cX9_read 43 = .ok (.putfield 53, 3) := by decide +kernel
theorem dX9_read_46 : decode cX9_read 46 = .ok (.aload_n 0, 1) := by decide +kernel
theorem dX9_read_47 : decode cX9_read 47 = .ok (.getfield 29, 3) := by decide +kernel
theorem dX9_read_50 : decode cX9_read 50 = .ok (.getfield 118, 3) := by decide +kernel
theorem dX9_read_53 : decode cX9_read 53 = .ok (.getfield 122, 3) := by decide +kernel
theorem dX9_read_56 : decode cX9_read 56 = .ok (.ireturn, 1) := by decide +kernel
theorem dX9_read_25 : decode cX9_read 25 = .ok (.aload_n 0, 1) := by decide +kernel
theorem dX9_read_26 : decode cX9_read 26 = .ok (.iconst 2, 1) := by decide +kernel
theorem dX9_read_27 : decode cX9_read 27 = .ok (.putfield 53, 3) := by decide +kernel
theorem dX9_read_30 : decode cX9_read 30 = .ok (.bipush (-100), 2) := by decide +kernel
theorem dX9_read_32 : decode cX9_read 32 = .ok (.aload_n 0, 1) := by decide +kernel
theorem dX9_read_33 : decode cX9_read 33 = .ok (.getfield 29, 3) := by decide +kernel
theorem dX9_read_36 : decode cX9_read 36 = .ok (.getfield 115, 3) := by decide +kernel
theorem dX9_read_39 : decode cX9_read 39 = .ok (.isub, 1) := by decide +kernel
theorem dX9_read_40 : decode cX9_read 40 = .ok (.ireturn, 1) := by decide +kernel
theorem dX9_same_0 : decode cX9_same 0 = .ok (.aload_n 0, 1) := by decide +kernel
theorem dX9_same_1 : decode cX9_same 1 = .ok (.getfield 53, 3) := by decide +kernel
theorem dX9_same_4 : decode cX9_same 4 = .ok (.iconst 1, 1) := by decide +kernel
theorem dX9_same_5 : decode cX9_same 5 = .ok (.if_icmp .eq 6, 3) := by decide +kernel
theorem dX9_same_11 : decode cX9_same 11 = .ok (.aload_n 0, 1) := by decide +kernel
theorem dX9_same_12 : decode cX9_same 12 = .ok (.getfield 33, 3) := by decide +kernel
theorem dX9_same_15 : decode cX9_same 15 = .ok (.aload_n 0, 1) := by decide +kernel
theorem dX9_same_16 : decode cX9_same 16 = .ok (.getfield 23, 3) := by decide +kernel
theorem dX9_same_19 : decode cX9_same 19 = .ok (.aload_n 0, 1) := by decide +kernel
theorem dX9_same_20 : decode cX9_same 20 = .ok (.getfield 12, 3) := by decide +kernel
theorem dX9_same_23 : decode cX9_same 23 = .ok (.invokevirtual 108, 3) := by decide +kernel
theorem dX9_same_26 : decode cX9_same 26 = .ok (.aload_n 0, 1) := by decide +kernel
theorem dX9_same_27 : decode cX9_same 27 = .ok (.getfield 33, 3) := by decide +kernel
theorem dX9_same_30 : decode cX9_same 30 = .ok (.getfield 112, 3) := by decide +kernel
theorem dX9_same_33 : decode cX9_same 33 = .ok (.ifCond .eq 6, 3) := by decide +kernel
theorem dX9_same_39 : decode cX9_same 39 = .ok (.aload_n 0, 1) := by decide +kernel
theorem dX9_same_40 : decode cX9_same 40 = .ok (.invokevirtual 252, 3) := by decide +kernel
theorem dX9_same_43 : decode cX9_same 43 = .ok (.ifCond .eq 37, 3) := by decide +kernel
theorem dX9_same_80 : decode cX9_same 80 = .ok (.iconst 0, 1) := by decide +kernel
theorem dX9_same_81 : decode cX9_same 81 = .ok (.ireturn, 1) := by decide +kernel
theorem dX9_same_46 : decode cX9_same 46 = .ok (.aload_n 0, 1) := by decide +kernel
theorem dX9_same_47 : decode cX9_same 47 = .ok (.getfield 29, 3) := by decide +kernel
theorem dX9_same_50 : decode cX9_same 50 = .ok (.getfield 133, 3) := by decide +kernel
theorem dX9_same_53 : decode cX9_same 53 = .ok (.aload_n 0, 1) := by decide +kernel
theorem dX9_same_54 : decode cX9_same 54 = .ok (.getfield 33, 3) := by decide +kernel
theorem dX9_same_57 : decode cX9_same 57 = .ok (.getfield 133, 3) := by decide +kernel
theorem dX9_same_60 : decode cX9_same 60 = .ok (.aload_n 0, 1) := by decide +kernel
theorem dX9_same_61 : decode cX9_same 61 = .ok (.getfield 29, 3) := by decide +kernel
theorem dX9_same_64 : decode cX9_same 64 = .ok (.getfield 118, 3) := by decide +kernel
theorem dX9_same_67 : decode cX9_same 67 = .ok (.getfield 122, 3) := by decide +kernel
theorem dX9_same_70 : decode cX9_same 70 = .ok (.invokevirtual 256, 3) := by decide +kernel
theorem dX9_same_73 : decode cX9_same 73 = .ok (.ifCond .eq 7, 3) := by decide +kernel
theorem dX9_same_76 : decode cX9_same 76 = .ok (.iconst 1, 1) := by decide +kernel
theorem dX9_same_77 : decode cX9_same 77 = .ok (.goto 4, 3) := by decide +kernel
theorem dX9_same_36 : decode cX9_same 36 = .ok (.bipush (-3), 2) := by decide +kernel
theorem dX9_same_38 : decode cX9_same 38 = .ok (.ireturn, 1) := by decide +kernel
theorem dX9_same_8 : decode cX9_same 8 = .ok (.bipush (-3), 2) := by decide +kernel
theorem dX9_same_10 : decode cX9_same 10 = .ok (.ireturn, 1) := by decide +kernel
theorem dX9_unreadUnlessRefused_0 : decode cX9_unreadUnlessRefused 0 = .ok (.iload_n 1, 1) := by decide +kernel
theorem dX9_unreadUnlessRefused_1 : decode cX9_unreadUnlessRefused 1 = .ok (.ifCond .lt 8, 3) := by decide +kernel
theorem dX9_unreadUnlessRefused_9 : decode cX9_unreadUnlessRefused 9 = .ok (.iload_n 1, 1) := by decide +kernel
theorem dX9_unreadUnlessRefused_10 : decode cX9_unreadUnlessRefused 10 = .ok (.ireturn, 1) := by decide +kernel
theorem dX9_unreadUnlessRefused_4 : decode cX9_unreadUnlessRefused 4 = .ok (.aload_n 0, 1) := by decide +kernel
theorem dX9_unreadUnlessRefused_5 : decode cX9_unreadUnlessRefused 5 = .ok (.iconst 0, 1) := by decide +kernel
theorem dX9_unreadUnlessRefused_6 : decode cX9_unreadUnlessRefused 6 = .ok (.putfield 53, 3) := by decide +kernel
theorem dX9_feed_0 : decode cX9_feed 0 = .ok (.aload_n 0, 1) := by decide +kernel
theorem dX9_feed_1 : decode cX9_feed 1 = .ok (.aload_n 0, 1) := by decide +kernel
theorem dX9_feed_2 : decode cX9_feed 2 = .ok (.getfield 19, 3) := by decide +kernel
theorem dX9_feed_5 : decode cX9_feed 5 = .ok (.lload_n 1, 1) := by decide +kernel
theorem dX9_feed_6 : decode cX9_feed 6 = .ok (.invokevirtual 89, 3) := by decide +kernel
theorem dX9_feed_9 : decode cX9_feed 9 = .ok (.invokevirtual 71, 3) := by decide +kernel
theorem dX9_feed_12 : decode cX9_feed 12 = .ok (.ireturn, 1) := by decide +kernel
theorem dX9_cut_0 : decode cX9_cut 0 = .ok (.aload_n 0, 1) := by decide +kernel
theorem dX9_cut_1 : decode cX9_cut 1 = .ok (.aload_n 0, 1) := by decide +kernel
theorem dX9_cut_2 : decode cX9_cut 2 = .ok (.getfield 19, 3) := by decide +kernel
theorem dX9_cut_5 : decode cX9_cut 5 = .ok (.iload_n 1, 1) := by decide +kernel
theorem dX9_cut_6 : decode cX9_cut 6 = .ok (.invokevirtual 92, 3) := by decide +kernel
theorem dX9_cut_9 : decode cX9_cut 9 = .ok (.invokevirtual 71, 3) := by decide +kernel
theorem dX9_cut_12 : decode cX9_cut 12 = .ok (.ireturn, 1) := by decide +kernel
theorem dX9_shift_0 : decode cX9_shift 0 = .ok (.aload_n 0, 1) := by decide +kernel
theorem dX9_shift_1 : decode cX9_shift 1 = .ok (.aload_n 0, 1) := by decide +kernel
theorem dX9_shift_2 : decode cX9_shift 2 = .ok (.getfield 19, 3) := by decide +kernel
theorem dX9_shift_5 : decode cX9_shift 5 = .ok (.iload_n 1, 1) := by decide +kernel
theorem dX9_shift_6 : decode cX9_shift 6 = .ok (.iload_n 2, 1) := by decide +kernel
theorem dX9_shift_7 : decode cX9_shift 7 = .ok (.invokevirtual 95, 3) := by decide +kernel
theorem dX9_shift_10 : decode cX9_shift 10 = .ok (.invokevirtual 71, 3) := by decide +kernel
theorem dX9_shift_13 : decode cX9_shift 13 = .ok (.ireturn, 1) := by decide +kernel
theorem dX9_parts_65 : decode cX9_parts 65 = .ok (.iload_n 2, 1) := by decide +kernel
theorem dX9_parts_66 : decode cX9_parts 66 = .ok (.iload_n 1, 1) := by decide +kernel
theorem dX9_parts_67 : decode cX9_parts 67 = .ok (.if_icmp .ge 71, 3) := by decide +kernel
theorem dX9_parts_138 : decode cX9_parts 138 = .ok (.aload_n 0, 1) := by decide +kernel
theorem dX9_parts_139 : decode cX9_parts 139 = .ok (.getfield 29, 3) := by decide +kernel
theorem dX9_parts_142 : decode cX9_parts 142 = .ok (.getfield 118, 3) := by decide +kernel
theorem dX9_parts_145 : decode cX9_parts 145 = .ok (.getfield 122, 3) := by decide +kernel
theorem dX9_parts_148 : decode cX9_parts 148 = .ok (.aload_n 0, 1) := by decide +kernel
theorem dX9_parts_149 : decode cX9_parts 149 = .ok (.getfield 33, 3) := by decide +kernel
theorem dX9_parts_152 : decode cX9_parts 152 = .ok (.getfield 118, 3) := by decide +kernel
theorem dX9_parts_155 : decode cX9_parts 155 = .ok (.getfield 122, 3) := by decide +kernel
theorem dX9_parts_158 : decode cX9_parts 158 = .ok (.if_icmp .ne 8, 3) := by decide +kernel
theorem dX9_parts_166 : decode cX9_parts 166 = .ok (.iload_n 1, 1) := by decide +kernel
theorem dX9_parts_167 : decode cX9_parts 167 = .ok (.ireturn, 1) := by decide +kernel
theorem dX9_parts_161 : decode cX9_parts 161 = .ok (.bipush (-9), 2) := by decide +kernel
theorem dX9_parts_163 : decode cX9_parts 163 = .ok (.goto 4, 3) := by decide +kernel
theorem dX9_parts_70 : decode cX9_parts 70 = .ok (.aload_n 0, 1) := by decide +kernel
theorem dX9_parts_71 : decode cX9_parts 71 = .ok (.iload_n 2, 1) := by decide +kernel
theorem dX9_parts_72 : decode cX9_parts 72 = .ok (.invokevirtual 265, 3) := by decide +kernel
theorem dX9_parts_75 : decode cX9_parts 75 = .ok (.ifCond .eq 55, 3) := by decide +kernel
theorem dX9_parts_130 : decode cX9_parts 130 = .ok (.iload_n 2, 1) := by decide +kernel
theorem dX9_parts_131 : decode cX9_parts 131 = .ok (.ireturn, 1) := by decide +kernel
theorem dX9_parts_78 : decode cX9_parts 78 = .ok (.aload_n 0, 1) := by decide +kernel
theorem dX9_parts_79 : decode cX9_parts 79 = .ok (.getfield 29, 3) := by decide +kernel
theorem dX9_parts_82 : decode cX9_parts 82 = .ok (.getfield 133, 3) := by decide +kernel
theorem dX9_parts_85 : decode cX9_parts 85 = .ok (.getfield 176, 3) := by decide +kernel
theorem dX9_parts_88 : decode cX9_parts 88 = .ok (.iload_n 2, 1) := by decide +kernel
theorem dX9_parts_89 : decode cX9_parts 89 = .ok (.iaload, 1) := by decide +kernel
theorem dX9_parts_90 : decode cX9_parts 90 = .ok (.aload_n 0, 1) := by decide +kernel
theorem dX9_parts_91 : decode cX9_parts 91 = .ok (.getfield 33, 3) := by decide +kernel
theorem dX9_parts_94 : decode cX9_parts 94 = .ok (.getfield 133, 3) := by decide +kernel
theorem dX9_parts_97 : decode cX9_parts 97 = .ok (.getfield 176, 3) := by decide +kernel
theorem dX9_parts_100 : decode cX9_parts 100 = .ok (.iload_n 2, 1) := by decide +kernel
theorem dX9_parts_101 : decode cX9_parts 101 = .ok (.iaload, 1) := by decide +kernel
theorem dX9_parts_102 : decode cX9_parts 102 = .ok (.if_icmp .ne 28, 3) := by decide +kernel
theorem dX9_parts_105 : decode cX9_parts 105 = .ok (.aload_n 0, 1) := by decide +kernel
theorem dX9_parts_106 : decode cX9_parts 106 = .ok (.getfield 29, 3) := by decide +kernel
theorem dX9_parts_109 : decode cX9_parts 109 = .ok (.getfield 133, 3) := by decide +kernel
theorem dX9_parts_112 : decode cX9_parts 112 = .ok (.iload_n 2, 1) := by decide +kernel
theorem dX9_parts_113 : decode cX9_parts 113 = .ok (.invokevirtual 179, 3) := by decide +kernel
theorem dX9_parts_116 : decode cX9_parts 116 = .ok (.aload_n 0, 1) := by decide +kernel
theorem dX9_parts_117 : decode cX9_parts 117 = .ok (.getfield 33, 3) := by decide +kernel
theorem dX9_parts_120 : decode cX9_parts 120 = .ok (.getfield 133, 3) := by decide +kernel
theorem dX9_parts_123 : decode cX9_parts 123 = .ok (.iload_n 2, 1) := by decide +kernel
theorem dX9_parts_124 : decode cX9_parts 124 = .ok (.invokevirtual 179, 3) := by decide +kernel
theorem dX9_parts_127 : decode cX9_parts 127 = .ok (.if_icmp .eq 5, 3) := by decide +kernel
theorem dX9_parts_132 : decode cX9_parts 132 = .ok (.iinc 2 1, 3) := by decide +kernel
theorem dX9_parts_135 : decode cX9_parts 135 = .ok (.goto (-70), 3) := by decide +kernel
theorem dX9_parts_0 : decode cX9_parts 0 = .ok (.aload_n 0, 1) := by decide +kernel
theorem dX9_parts_1 : decode cX9_parts 1 = .ok (.getfield 53, 3) := by decide +kernel
theorem dX9_parts_4 : decode cX9_parts 4 = .ok (.iconst 1, 1) := by decide +kernel
theorem dX9_parts_5 : decode cX9_parts 5 = .ok (.if_icmp .eq 6, 3) := by decide +kernel
theorem dX9_parts_11 : decode cX9_parts 11 = .ok (.aload_n 0, 1) := by decide +kernel
theorem dX9_parts_12 : decode cX9_parts 12 = .ok (.getfield 33, 3) := by decide +kernel
theorem dX9_parts_15 : decode cX9_parts 15 = .ok (.aload_n 0, 1) := by decide +kernel
theorem dX9_parts_16 : decode cX9_parts 16 = .ok (.getfield 23, 3) := by decide +kernel
theorem dX9_parts_19 : decode cX9_parts 19 = .ok (.aload_n 0, 1) := by decide +kernel
theorem dX9_parts_20 : decode cX9_parts 20 = .ok (.getfield 12, 3) := by decide +kernel
theorem dX9_parts_23 : decode cX9_parts 23 = .ok (.invokevirtual 108, 3) := by decide +kernel
theorem dX9_parts_26 : decode cX9_parts 26 = .ok (.aload_n 0, 1) := by decide +kernel
theorem dX9_parts_27 : decode cX9_parts 27 = .ok (.getfield 33, 3) := by decide +kernel
theorem dX9_parts_30 : decode cX9_parts 30 = .ok (.getfield 112, 3) := by decide +kernel
theorem dX9_parts_33 : decode cX9_parts 33 = .ok (.ifCond .eq 6, 3) := by decide +kernel
theorem dX9_parts_39 : decode cX9_parts 39 = .ok (.aload_n 0, 1) := by decide +kernel
theorem dX9_parts_40 : decode cX9_parts 40 = .ok (.getfield 29, 3) := by decide +kernel
theorem dX9_parts_43 : decode cX9_parts 43 = .ok (.getfield 118, 3) := by decide +kernel
theorem dX9_parts_46 : decode cX9_parts 46 = .ok (.getfield 122, 3) := by decide +kernel
theorem dX9_parts_49 : decode cX9_parts 49 = .ok (.aload_n 0, 1) := by decide +kernel
theorem dX9_parts_50 : decode cX9_parts 50 = .ok (.getfield 33, 3) := by decide +kernel
theorem dX9_parts_53 : decode cX9_parts 53 = .ok (.getfield 118, 3) := by decide +kernel
theorem dX9_parts_56 : decode cX9_parts 56 = .ok (.getfield 122, 3) := by decide +kernel
theorem dX9_parts_59 : decode cX9_parts 59 = .ok (.invokestatic 260, 3) := by decide +kernel
theorem dX9_parts_62 : decode cX9_parts 62 = .ok (.istore_n 1, 1) := by decide +kernel
theorem dX9_parts_63 : decode cX9_parts 63 = .ok (.iconst 0, 1) := by decide +kernel
theorem dX9_parts_64 : decode cX9_parts 64 = .ok (.istore_n 2, 1) := by decide +kernel
theorem dX9_parts_36 : decode cX9_parts 36 = .ok (.bipush (-3), 2) := by decide +kernel
theorem dX9_parts_38 : decode cX9_parts 38 = .ok (.ireturn, 1) := by decide +kernel
theorem dX9_parts_8 : decode cX9_parts 8 = .ok (.bipush (-3), 2) := by decide +kernel
theorem dX9_parts_10 : decode cX9_parts 10 = .ok (.ireturn, 1) := by decide +kernel
theorem dX9_deepen_31 : decode cX9_deepen 31 = .ok (.iload_n 2, 1) := by decide +kernel
theorem dX9_deepen_32 : decode cX9_deepen 32 = .ok (.iload_n 1, 1) := by decide +kernel
theorem dX9_deepen_33 : decode cX9_deepen 33 = .ok (.if_icmp .ge 26, 3) := by decide +kernel
theorem dX9_deepen_59 : decode cX9_deepen 59 = .ok (.iload_n 1, 1) := by decide +kernel
theorem dX9_deepen_60 : decode cX9_deepen 60 = .ok (.aload_n 0, 1) := by decide +kernel
theorem dX9_deepen_61 : decode cX9_deepen 61 = .ok (.getfield 29, 3) := by decide +kernel
theorem dX9_deepen_64 : decode cX9_deepen 64 = .ok (.getfield 118, 3) := by decide +kernel
theorem dX9_deepen_67 : decode cX9_deepen 67 = .ok (.getfield 122, 3) := by decide +kernel
theorem dX9_deepen_70 : decode cX9_deepen 70 = .ok (.if_icmp .ge 8, 3) := by decide +kernel
theorem dX9_deepen_78 : decode cX9_deepen 78 = .ok (.iload_n 1, 1) := by decide +kernel
theorem dX9_deepen_79 : decode cX9_deepen 79 = .ok (.ireturn, 1) := by decide +kernel
theorem dX9_deepen_73 : decode cX9_deepen 73 = .ok (.bipush (-12), 2) := by decide +kernel
theorem dX9_deepen_75 : decode cX9_deepen 75 = .ok (.goto 4, 3) := by decide +kernel
theorem dX9_deepen_36 : decode cX9_deepen 36 = .ok (.aload_n 0, 1) := by decide +kernel
theorem dX9_deepen_37 : decode cX9_deepen 37 = .ok (.getfield 63, 3) := by decide +kernel
theorem dX9_deepen_40 : decode cX9_deepen 40 = .ok (.iload_n 2, 1) := by decide +kernel
theorem dX9_deepen_41 : decode cX9_deepen 41 = .ok (.aload_n 0, 1) := by decide +kernel
theorem dX9_deepen_42 : decode cX9_deepen 42 = .ok (.getfield 29, 3) := by decide +kernel
theorem dX9_deepen_45 : decode cX9_deepen 45 = .ok (.getfield 133, 3) := by decide +kernel
theorem dX9_deepen_48 : decode cX9_deepen 48 = .ok (.iload_n 2, 1) := by decide +kernel
theorem dX9_deepen_49 : decode cX9_deepen 49 = .ok (.invokevirtual 283, 3) := by decide +kernel
theorem dX9_deepen_52 : decode cX9_deepen 52 = .ok (.iastore, 1) := by decide +kernel
theorem dX9_deepen_53 : decode cX9_deepen 53 = .ok (.iinc 2 1, 3) := by decide +kernel
theorem dX9_deepen_56 : decode cX9_deepen 56 = .ok (.goto (-25), 3) := by decide +kernel
theorem dX9_deepen_0 : decode cX9_deepen 0 = .ok (.aload_n 0, 1) := by decide +kernel
theorem dX9_deepen_1 : decode cX9_deepen 1 = .ok (.getfield 53, 3) := by decide +kernel
theorem dX9_deepen_4 : decode cX9_deepen 4 = .ok (.iconst 1, 1) := by decide +kernel
theorem dX9_deepen_5 : decode cX9_deepen 5 = .ok (.if_icmp .eq 6, 3) := by decide +kernel
theorem dX9_deepen_11 : decode cX9_deepen 11 = .ok (.aload_n 0, 1) := by decide +kernel
theorem dX9_deepen_12 : decode cX9_deepen 12 = .ok (.getfield 280, 3) := by decide +kernel
theorem dX9_deepen_15 : decode cX9_deepen 15 = .ok (.aload_n 0, 1) := by decide +kernel
theorem dX9_deepen_16 : decode cX9_deepen 16 = .ok (.getfield 29, 3) := by decide +kernel
theorem dX9_deepen_19 : decode cX9_deepen 19 = .ok (.getfield 118, 3) := by decide +kernel
theorem dX9_deepen_22 : decode cX9_deepen 22 = .ok (.getfield 122, 3) := by decide +kernel
theorem dX9_deepen_25 : decode cX9_deepen 25 = .ok (.invokestatic 260, 3) := by decide +kernel
theorem dX9_deepen_28 : decode cX9_deepen 28 = .ok (.istore_n 1, 1) := by decide +kernel
theorem dX9_deepen_29 : decode cX9_deepen 29 = .ok (.iconst 0, 1) := by decide +kernel
theorem dX9_deepen_30 : decode cX9_deepen 30 = .ok (.istore_n 2, 1) := by decide +kernel
theorem dX9_deepen_8 : decode cX9_deepen 8 = .ok (.bipush (-3), 2) := by decide +kernel
theorem dX9_deepen_10 : decode cX9_deepen 10 = .ok (.ireturn, 1) := by decide +kernel
set_option maxHeartbeats 4000000 in
set_option maxRecDepth 100000 in
theorem g_X9_sameToken (l : Launch) (D : va_G) (tA : Nat → ClassId) (b : Nat) (i F : Nat → Nat → Int32) (G : Nat → Nat → Int64) (x : Int32) (hI : IC i F) : xMI l yX9_sameToken cX9_sameToken 6 (some .boolean) 1 21 D tA b 0 78 i F G [.ref (b + 0), .int x] (fun r u => u = (i, F, G) ∧ (r.toInt = 0 ∨ r.toInt = 1)) := by
  refine xstart RX9 rfl (by decide) (Nat.le_of_ble_eq_true rfl) ?_
  intro p e s m below meth c ls C0 hr hH hS hl
  have hl : lv_has ls 6 [(0, .ref (b + 0)), (1, .int x)] := hl
  have rg_x := fb_rng x
  have hI0 := hI
  obtain ⟨hsz, hbf, hsz6, hbf7, htk, hF, hQ, htk2, hG, hQ2, hPg, hpt, hrw⟩ := hI0
  have hL := Tf17.lin hF
  have hL2 := Tf48.lin hG
  have hBs : i 1 = i 1 ∧ F 3 = F 3 ∧ G = G := ⟨rfl, rfl, rfl⟩
  have L95 : ∀ (d : Nat) (k a1 a2 a3 : Int32) (H : Heap) (locs : List Loc) (ls : Array Slot), (0 ≤ k.toInt) → (a1.toInt - k.toInt ≤ d) → Hd D tA b 0 78 zz i F G H → va_S (xA b 0 78) s.heap H locs → lv_has ls 6 [(5, .int k), (4, .int a3), (3, .int a2), (2, .int a1), (0, .ref (b + 0)), (1, .int x)] → W p l e (xR 1 21) s m ([.ref (b + 0), .int x] : List Value).toArray below meth c H locs 0 0 (MQ below (va_Qi (fun r u => u = (i, F, G) ∧ (r.toInt = 0 ∨ r.toInt = 1)) (xB D tA b 0 78 zz) (xA b 0 78)) ([.ref (b + 0), .int x] : List Value).toArray s 0 0 (xA b 0 78)) (F0 m 95 ls []) := by
    intro d
    induction d with
    | zero =>
      intro k a1 a2 a3 H locs ls h1 h2 hH hS hl
      have rg_k := fb_rng k
      have rg_a1 := fb_rng a1
      have rg_a2 := fb_rng a2
      have rg_a3 := fb_rng a3
      refine lv_iload (pc := 95) C0.1 C0.2.1 dX9_sameToken_95 (lv_at hl 0 rfl) ?_
      refine lv_iload_n (pc := 97) C0.1 C0.2.1 dX9_sameToken_97 rfl (lv_at hl 3 rfl) ?_
      refine lv_icmp_ge (pc := 98) (tgt := 135) C0.1 C0.2.1 dX9_sameToken_98 (by decide) (fun _ => ?_) (fun c => absurd (Int32.le_iff_toInt_le.mpr (by omega)) c)
      refine lv_iconst (pc := 135) (v := 1) C0.1 C0.2.1 dX9_sameToken_135 (by decide) ?_
      exact xzret (pc := 136) C0 hr hH hS dX9_sameToken_136 (by decide) ⟨rfl, by decide⟩
    | succ d ih95 =>
      intro k a1 a2 a3 H locs ls h1 h2 hH hS hl
      have rg_k := fb_rng k
      have rg_a1 := fb_rng a1
      have rg_a2 := fb_rng a2
      have rg_a3 := fb_rng a3
      refine lv_iload (pc := 95) C0.1 C0.2.1 dX9_sameToken_95 (lv_at hl 0 rfl) ?_
      refine lv_iload_n (pc := 97) C0.1 C0.2.1 dX9_sameToken_97 rfl (lv_at hl 3 rfl) ?_
      refine lv_icmp_ge (pc := 98) (tgt := 135) C0.1 C0.2.1 dX9_sameToken_98 (by decide) (fun c201 => ?_) (fun c201 => ?_)
      · have c201 := Int32.le_iff_toInt_le.mp c201
        refine lv_iconst (pc := 135) (v := 1) C0.1 C0.2.1 dX9_sameToken_135 (by decide) ?_
        exact xzret (pc := 136) C0 hr hH hS dX9_sameToken_136 (by decide) ⟨rfl, by decide⟩
      · have c201 : ¬ _ := fun q => c201 (Int32.le_iff_toInt_le.mpr q)
        refine lv_aload_n (pc := 101) C0.1 C0.2.1 dX9_sameToken_101 rfl (lv_at hl 4 rfl) ?_
        refine xget (pc := 102) C0 hH 0 1 clX9 ⟨Nat.le_of_ble_eq_true rfl, Nat.le_of_ble_eq_true rfl⟩ ⟨rfl, rfl⟩ (Nat.le_of_ble_eq_true rfl) fl_X9_19 (v := .ref (b + 4)) rfl dX9_sameToken_102 ?_
        refine lv_iload_n (pc := 105) C0.1 C0.2.1 dX9_sameToken_105 rfl (lv_at hl 2 rfl) ?_
        refine lv_iload (pc := 106) C0.1 C0.2.1 dX9_sameToken_106 (lv_at hl 0 rfl) ?_
        refine lv_iadd (pc := 108) C0.1 C0.2.1 dX9_sameToken_108 ?_
        refine xcVI (pc := 109) 4 [.int (a2 + k)] (g_X6_at_4 l D tA b i F G (a2 + k) (show 0 ≤ Int32.toInt (i 4 1) ∧ Int32.toInt (i 4 1) ≤ 600 from by omega)) C0 hH hS clX6 rfl ⟨⟨Nat.le_of_ble_eq_true rfl, Nat.le_of_ble_eq_true rfl⟩, rfl, rfl⟩ cw_X9_105 rfl ⟨Nat.le_of_ble_eq_true rfl, Nat.le_of_ble_eq_true rfl⟩ hl.1 rfl (Nat.le_of_ble_eq_true rfl) dX9_sameToken_109 ⟨Nat.le_of_ble_eq_true rfl, Nat.le_of_ble_eq_true rfl⟩ (fun r202 ir202 Fr202 Gr202 _ locs hp hH hS => ?_)
        obtain ⟨hu, hpr202⟩ := hp
        cases hu
        refine lv_aload_n (pc := 112) C0.1 C0.2.1 dX9_sameToken_112 rfl (lv_at hl 4 rfl) ?_
        refine xget (pc := 113) C0 hH 0 2 clX9 ⟨Nat.le_of_ble_eq_true rfl, Nat.le_of_ble_eq_true rfl⟩ ⟨rfl, rfl⟩ (Nat.le_of_ble_eq_true rfl) fl_X9_23 (v := .ref (b + 6)) rfl dX9_sameToken_113 ?_
        refine lv_iload (pc := 116) C0.1 C0.2.1 dX9_sameToken_116 (lv_at hl 1 rfl) ?_
        refine lv_iload (pc := 118) C0.1 C0.2.1 dX9_sameToken_118 (lv_at hl 0 rfl) ?_
        refine lv_iadd (pc := 120) C0.1 C0.2.1 dX9_sameToken_120 ?_
        refine xcVI (pc := 121) 6 [.int (a3 + k)] (g_X6_at_6 l D tA b i F G (a3 + k) (show 0 ≤ Int32.toInt (i 6 1) ∧ Int32.toInt (i 6 1) ≤ 600 from by omega)) C0 hH hS clX6 rfl ⟨⟨Nat.le_of_ble_eq_true rfl, Nat.le_of_ble_eq_true rfl⟩, rfl, rfl⟩ cw_X9_105 rfl ⟨Nat.le_of_ble_eq_true rfl, Nat.le_of_ble_eq_true rfl⟩ hl.1 rfl (Nat.le_of_ble_eq_true rfl) dX9_sameToken_121 ⟨Nat.le_of_ble_eq_true rfl, Nat.le_of_ble_eq_true rfl⟩ (fun r203 ir203 Fr203 Gr203 _ locs hp hH hS => ?_)
        obtain ⟨hu, hpr203⟩ := hp
        cases hu
        refine lv_icmp_eq (pc := 124) (tgt := 129) C0.1 C0.2.1 dX9_sameToken_124 (by decide) (fun c204 => ?_) (fun c204 => ?_)
        · have c204 := congrArg Int32.toInt c204
          obtain ⟨x205, ex205⟩ : ∃ y_ : Int32, y_ = k + 1 := ⟨_, rfl⟩
          have : Int32.toInt 1 = 1 := rfl
          have hx205 : Int32.toInt x205 = Int32.toInt k + Int32.toInt 1 := by rw [ex205]; exact fb_addI (by omega) (by omega)
          refine lv_iinc (pc := 129) (v := x205) (lv' := [(5, .int x205), (4, .int a3), (3, .int a2), (2, .int a1), (0, .ref (b + 0)), (1, .int x)]) C0.1 C0.2.1 dX9_sameToken_129 hl (k := 0) rfl (by rw [ex205]; rfl) (by decide) rfl (fun ls hl => ?_)
          refine lv_goto (pc := 132) (tgt := 95) C0.1 C0.2.1 dX9_sameToken_132 (by decide) ?_
          exact ih95 x205 a1 a2 a3 _ _ _ (by omega) (by omega) hH hS (lv_sub hl [0, 1, 2, 3, 4, 5] rfl)
        · have c204 : ¬ _ := fun q => c204 (Int32.toInt_inj.mp q)
          refine lv_iconst (pc := 127) (v := 0) C0.1 C0.2.1 dX9_sameToken_127 (by decide) ?_
          exact xzret (pc := 128) C0 hr hH hS dX9_sameToken_128 (by decide) ⟨rfl, by decide⟩
  refine lv_iload_n (pc := 0) C0.1 C0.2.1 dX9_sameToken_0 rfl (lv_at hl 1 rfl) ?_
  refine lv_if_lt (pc := 1) (tgt := 32) C0.1 C0.2.1 dX9_sameToken_1 (by decide) (fun c1 => ?_) (fun c1 => ?_)
  · have : Int32.toInt 0 = 0 := rfl
    have c1 := Int32.lt_iff_toInt_lt.mp c1
    refine lv_iconst (pc := 32) (v := 0) C0.1 C0.2.1 dX9_sameToken_32 (by decide) ?_
    exact xzret (pc := 33) C0 hr hH hS dX9_sameToken_33 (by decide) ⟨rfl, by decide⟩
  · have : Int32.toInt 0 = 0 := rfl
    have c1 : ¬ _ := fun q => c1 (Int32.lt_iff_toInt_lt.mpr q)
    refine lv_iload_n (pc := 4) C0.1 C0.2.1 dX9_sameToken_4 rfl (lv_at hl 1 rfl) ?_
    refine lv_aload_n (pc := 5) C0.1 C0.2.1 dX9_sameToken_5 rfl (lv_at hl 0 rfl) ?_
    refine xget (pc := 6) C0 hH 0 3 clX9 ⟨Nat.le_of_ble_eq_true rfl, Nat.le_of_ble_eq_true rfl⟩ ⟨rfl, rfl⟩ (Nat.le_of_ble_eq_true rfl) fl_X9_29 (v := .ref (b + 8)) rfl dX9_sameToken_6 ?_
    refine xget (pc := 9) C0 hH 8 0 clX4 ⟨Nat.le_of_ble_eq_true rfl, Nat.le_of_ble_eq_true rfl⟩ ⟨rfl, rfl⟩ (Nat.le_of_ble_eq_true rfl) fl_X9_118 (v := .ref (b + 9)) rfl dX9_sameToken_9 ?_
    refine xget (pc := 12) C0 hH 9 7 clX7 ⟨Nat.le_of_ble_eq_true rfl, Nat.le_of_ble_eq_true rfl⟩ ⟨rfl, rfl⟩ (Nat.le_of_ble_eq_true rfl) fl_X9_122 (v := .int (i 9 7)) rfl dX9_sameToken_12 ?_
    refine lv_icmp_ge (pc := 15) (tgt := 32) C0.1 C0.2.1 dX9_sameToken_15 (by decide) (fun c2 => ?_) (fun c2 => ?_)
    · have c2 := Int32.le_iff_toInt_le.mp c2
      refine lv_iconst (pc := 32) (v := 0) C0.1 C0.2.1 dX9_sameToken_32 (by decide) ?_
      exact xzret (pc := 33) C0 hr hH hS dX9_sameToken_33 (by decide) ⟨rfl, by decide⟩
    · have c2 : ¬ _ := fun q => c2 (Int32.le_iff_toInt_le.mpr q)
      refine lv_iload_n (pc := 18) C0.1 C0.2.1 dX9_sameToken_18 rfl (lv_at hl 1 rfl) ?_
      refine lv_aload_n (pc := 19) C0.1 C0.2.1 dX9_sameToken_19 rfl (lv_at hl 0 rfl) ?_
      refine xget (pc := 20) C0 hH 0 4 clX9 ⟨Nat.le_of_ble_eq_true rfl, Nat.le_of_ble_eq_true rfl⟩ ⟨rfl, rfl⟩ (Nat.le_of_ble_eq_true rfl) fl_X9_33 (v := .ref (b + 39)) rfl dX9_sameToken_20 ?_
      refine xget (pc := 23) C0 hH 39 0 clX4 ⟨Nat.le_of_ble_eq_true rfl, Nat.le_of_ble_eq_true rfl⟩ ⟨rfl, rfl⟩ (Nat.le_of_ble_eq_true rfl) fl_X9_118 (v := .ref (b + 40)) rfl dX9_sameToken_23 ?_
      refine xget (pc := 26) C0 hH 40 7 clX7 ⟨Nat.le_of_ble_eq_true rfl, Nat.le_of_ble_eq_true rfl⟩ ⟨rfl, rfl⟩ (Nat.le_of_ble_eq_true rfl) fl_X9_122 (v := .int (i 40 7)) rfl dX9_sameToken_26 ?_
      refine lv_icmp_lt (pc := 29) (tgt := 34) C0.1 C0.2.1 dX9_sameToken_29 (by decide) (fun c3 => ?_) (fun c3 => ?_)
      · have c3 := Int32.lt_iff_toInt_lt.mp c3
        refine lv_aload_n (pc := 34) C0.1 C0.2.1 dX9_sameToken_34 rfl (lv_at hl 0 rfl) ?_
        refine xget (pc := 35) C0 hH 0 3 clX9 ⟨Nat.le_of_ble_eq_true rfl, Nat.le_of_ble_eq_true rfl⟩ ⟨rfl, rfl⟩ (Nat.le_of_ble_eq_true rfl) fl_X9_29 (v := .ref (b + 8)) rfl dX9_sameToken_35 ?_
        refine xget (pc := 38) C0 hH 8 0 clX4 ⟨Nat.le_of_ble_eq_true rfl, Nat.le_of_ble_eq_true rfl⟩ ⟨rfl, rfl⟩ (Nat.le_of_ble_eq_true rfl) fl_X9_118 (v := .ref (b + 9)) rfl dX9_sameToken_38 ?_
        refine xget (pc := 41) C0 hH 9 2 clX7 ⟨Nat.le_of_ble_eq_true rfl, Nat.le_of_ble_eq_true rfl⟩ ⟨rfl, rfl⟩ (Nat.le_of_ble_eq_true rfl) fl_X9_163 (v := .ref (b + 12)) rfl dX9_sameToken_41 ?_
        refine lv_iload_n (pc := 44) C0.1 C0.2.1 dX9_sameToken_44 rfl (lv_at hl 1 rfl) ?_
        refine xiald (pc := 45) (N := 600) C0 hH 12 ⟨Nat.le_of_ble_eq_true rfl, Nat.le_of_ble_eq_true rfl⟩ ⟨rfl, rfl⟩ (vI (by omega) (by omega)) dX9_sameToken_45 ?_
        refine lv_topi (fun x4 ex4 => ?_)
        refine lv_istore_n (pc := 46) (lv' := [(2, .int x4), (0, .ref (b + 0)), (1, .int x)]) C0.1 C0.2.1 dX9_sameToken_46 rfl hl (by decide) rfl (fun ls hl => ?_)
        refine lv_aload_n (pc := 47) C0.1 C0.2.1 dX9_sameToken_47 rfl (lv_at hl 1 rfl) ?_
        refine xget (pc := 48) C0 hH 0 4 clX9 ⟨Nat.le_of_ble_eq_true rfl, Nat.le_of_ble_eq_true rfl⟩ ⟨rfl, rfl⟩ (Nat.le_of_ble_eq_true rfl) fl_X9_33 (v := .ref (b + 39)) rfl dX9_sameToken_48 ?_
        refine xget (pc := 51) C0 hH 39 0 clX4 ⟨Nat.le_of_ble_eq_true rfl, Nat.le_of_ble_eq_true rfl⟩ ⟨rfl, rfl⟩ (Nat.le_of_ble_eq_true rfl) fl_X9_118 (v := .ref (b + 40)) rfl dX9_sameToken_51 ?_
        refine xget (pc := 54) C0 hH 40 2 clX7 ⟨Nat.le_of_ble_eq_true rfl, Nat.le_of_ble_eq_true rfl⟩ ⟨rfl, rfl⟩ (Nat.le_of_ble_eq_true rfl) fl_X9_163 (v := .ref (b + 43)) rfl dX9_sameToken_54 ?_
        refine lv_iload_n (pc := 57) C0.1 C0.2.1 dX9_sameToken_57 rfl (lv_at hl 2 rfl) ?_
        refine xiald (pc := 58) (N := 600) C0 hH 43 ⟨Nat.le_of_ble_eq_true rfl, Nat.le_of_ble_eq_true rfl⟩ ⟨rfl, rfl⟩ (vI (by omega) (by omega)) dX9_sameToken_58 ?_
        refine lv_iload_n (pc := 59) C0.1 C0.2.1 dX9_sameToken_59 rfl (lv_at hl 0 rfl) ?_
        refine lv_icmp_eq (pc := 60) (tgt := 65) C0.1 C0.2.1 dX9_sameToken_60 (by decide) (fun c5 => ?_) (fun c5 => ?_)
        · have c5 := congrArg Int32.toInt c5
          refine lv_aload_n (pc := 65) C0.1 C0.2.1 dX9_sameToken_65 rfl (lv_at hl 1 rfl) ?_
          refine xget (pc := 66) C0 hH 0 3 clX9 ⟨Nat.le_of_ble_eq_true rfl, Nat.le_of_ble_eq_true rfl⟩ ⟨rfl, rfl⟩ (Nat.le_of_ble_eq_true rfl) fl_X9_29 (v := .ref (b + 8)) rfl dX9_sameToken_66 ?_
          refine xget (pc := 69) C0 hH 8 0 clX4 ⟨Nat.le_of_ble_eq_true rfl, Nat.le_of_ble_eq_true rfl⟩ ⟨rfl, rfl⟩ (Nat.le_of_ble_eq_true rfl) fl_X9_118 (v := .ref (b + 9)) rfl dX9_sameToken_69 ?_
          refine xget (pc := 72) C0 hH 9 1 clX7 ⟨Nat.le_of_ble_eq_true rfl, Nat.le_of_ble_eq_true rfl⟩ ⟨rfl, rfl⟩ (Nat.le_of_ble_eq_true rfl) fl_X9_160 (v := .ref (b + 11)) rfl dX9_sameToken_72 ?_
          refine lv_iload_n (pc := 75) C0.1 C0.2.1 dX9_sameToken_75 rfl (lv_at hl 2 rfl) ?_
          refine xiald (pc := 76) (N := 600) C0 hH 11 ⟨Nat.le_of_ble_eq_true rfl, Nat.le_of_ble_eq_true rfl⟩ ⟨rfl, rfl⟩ (vI (by omega) (by omega)) dX9_sameToken_76 ?_
          refine lv_topi (fun x6 ex6 => ?_)
          refine lv_istore_n (pc := 77) (lv' := [(3, .int x6), (2, .int x4), (0, .ref (b + 0)), (1, .int x)]) C0.1 C0.2.1 dX9_sameToken_77 rfl hl (by decide) rfl (fun ls hl => ?_)
          refine lv_aload_n (pc := 78) C0.1 C0.2.1 dX9_sameToken_78 rfl (lv_at hl 2 rfl) ?_
          refine xget (pc := 79) C0 hH 0 4 clX9 ⟨Nat.le_of_ble_eq_true rfl, Nat.le_of_ble_eq_true rfl⟩ ⟨rfl, rfl⟩ (Nat.le_of_ble_eq_true rfl) fl_X9_33 (v := .ref (b + 39)) rfl dX9_sameToken_79 ?_
          refine xget (pc := 82) C0 hH 39 0 clX4 ⟨Nat.le_of_ble_eq_true rfl, Nat.le_of_ble_eq_true rfl⟩ ⟨rfl, rfl⟩ (Nat.le_of_ble_eq_true rfl) fl_X9_118 (v := .ref (b + 40)) rfl dX9_sameToken_82 ?_
          refine xget (pc := 85) C0 hH 40 1 clX7 ⟨Nat.le_of_ble_eq_true rfl, Nat.le_of_ble_eq_true rfl⟩ ⟨rfl, rfl⟩ (Nat.le_of_ble_eq_true rfl) fl_X9_160 (v := .ref (b + 42)) rfl dX9_sameToken_85 ?_
          refine lv_iload_n (pc := 88) C0.1 C0.2.1 dX9_sameToken_88 rfl (lv_at hl 3 rfl) ?_
          refine xiald (pc := 89) (N := 600) C0 hH 42 ⟨Nat.le_of_ble_eq_true rfl, Nat.le_of_ble_eq_true rfl⟩ ⟨rfl, rfl⟩ (vI (by omega) (by omega)) dX9_sameToken_89 ?_
          refine lv_topi (fun x7 ex7 => ?_)
          refine lv_istore (pc := 90) (lv' := [(4, .int x7), (3, .int x6), (2, .int x4), (0, .ref (b + 0)), (1, .int x)]) C0.1 C0.2.1 dX9_sameToken_90 hl (by decide) rfl (fun ls hl => ?_)
          refine lv_iconst (pc := 92) (v := 0) C0.1 C0.2.1 dX9_sameToken_92 (by decide) ?_
          refine lv_istore (pc := 93) (lv' := [(5, .int 0), (4, .int x7), (3, .int x6), (2, .int x4), (0, .ref (b + 0)), (1, .int x)]) C0.1 C0.2.1 dX9_sameToken_93 hl (by decide) rfl (fun ls hl => ?_)
          exact L95 (Int32.toInt x4).toNat 0 x4 x6 x7 _ _ _ (by have : Int32.toInt 0 = 0 := rfl; omega) (by have : Int32.toInt 0 = 0 := rfl; omega) hH hS (lv_sub hl [0, 1, 2, 3, 4, 5] rfl)
        · have c5 : ¬ _ := fun q => c5 (Int32.toInt_inj.mp q)
          refine lv_iconst (pc := 63) (v := 0) C0.1 C0.2.1 dX9_sameToken_63 (by decide) ?_
          exact xzret (pc := 64) C0 hr hH hS dX9_sameToken_64 (by decide) ⟨rfl, by decide⟩
      · have c3 : ¬ _ := fun q => c3 (Int32.lt_iff_toInt_lt.mpr q)
        refine lv_iconst (pc := 32) (v := 0) C0.1 C0.2.1 dX9_sameToken_32 (by decide) ?_
        exact xzret (pc := 33) C0 hr hH hS dX9_sameToken_33 (by decide) ⟨rfl, by decide⟩
set_option maxHeartbeats 4000000 in
set_option maxRecDepth 100000 in
theorem g_X9_sameBytes (l : Launch) (D : va_G) (tA : Nat → ClassId) (b : Nat) (i F : Nat → Nat → Int32) (G : Nat → Nat → Int64)  (hI : IC i F) : xMI l yX9_sameBytes cX9_sameBytes 2 (some .boolean) 2 46 D tA b 0 78 i F G [.ref (b + 0)] (fun r u => u = (i, F, G) ∧ (r.toInt = 0 ∨ r.toInt = 1)) := by
  refine xstart RX9 rfl (by decide) (Nat.le_of_ble_eq_true rfl) ?_
  intro p e s m below meth c ls C0 hr hH hS hl
  have hl : lv_has ls 2 [(0, .ref (b + 0))] := hl
  have hI0 := hI
  obtain ⟨hsz, hbf, hsz6, hbf7, htk, hF, hQ, htk2, hG, hQ2, hPg, hpt, hrw⟩ := hI0
  have hL := Tf17.lin hF
  have hL2 := Tf48.lin hG
  have hBs : i 1 = i 1 ∧ F 3 = F 3 ∧ G = G := ⟨rfl, rfl, rfl⟩
  have L27 : ∀ (d : Nat) (k : Int32) (H : Heap) (locs : List Loc) (ls : Array Slot), (0 ≤ k.toInt) → (600 - k.toInt ≤ d) → Hd D tA b 0 78 zz i F G H → va_S (xA b 0 78) s.heap H locs → lv_has ls 2 [(1, .int k), (0, .ref (b + 0))] → W p l e (xR 2 46) s m ([.ref (b + 0)] : List Value).toArray below meth c H locs 0 0 (MQ below (va_Qi (fun r u => u = (i, F, G) ∧ (r.toInt = 0 ∨ r.toInt = 1)) (xB D tA b 0 78 zz) (xA b 0 78)) ([.ref (b + 0)] : List Value).toArray s 0 0 (xA b 0 78)) (F0 m 27 ls []) := by
    intro d
    induction d with
    | zero =>
      intro k H locs ls h1 h2 hH hS hl
      have rg_k := fb_rng k
      refine lv_iload_n (pc := 27) C0.1 C0.2.1 dX9_sameBytes_27 rfl (lv_at hl 0 rfl) ?_
      refine lv_aload_n (pc := 28) C0.1 C0.2.1 dX9_sameBytes_28 rfl (lv_at hl 1 rfl) ?_
      refine xget (pc := 29) C0 hH 0 3 clX9 ⟨Nat.le_of_ble_eq_true rfl, Nat.le_of_ble_eq_true rfl⟩ ⟨rfl, rfl⟩ (Nat.le_of_ble_eq_true rfl) fl_X9_29 (v := .ref (b + 8)) rfl dX9_sameBytes_29 ?_
      refine xget (pc := 32) C0 hH 8 0 clX4 ⟨Nat.le_of_ble_eq_true rfl, Nat.le_of_ble_eq_true rfl⟩ ⟨rfl, rfl⟩ (Nat.le_of_ble_eq_true rfl) fl_X9_118 (v := .ref (b + 9)) rfl dX9_sameBytes_32 ?_
      refine xget (pc := 35) C0 hH 9 7 clX7 ⟨Nat.le_of_ble_eq_true rfl, Nat.le_of_ble_eq_true rfl⟩ ⟨rfl, rfl⟩ (Nat.le_of_ble_eq_true rfl) fl_X9_122 (v := .int (i 9 7)) rfl dX9_sameBytes_35 ?_
      refine lv_icmp_ge (pc := 38) (tgt := 57) C0.1 C0.2.1 dX9_sameBytes_38 (by decide) (fun _ => ?_) (fun c => absurd (Int32.le_iff_toInt_le.mpr (by omega)) c)
      refine lv_iconst (pc := 57) (v := 1) C0.1 C0.2.1 dX9_sameBytes_57 (by decide) ?_
      exact xzret (pc := 58) C0 hr hH hS dX9_sameBytes_58 (by decide) ⟨rfl, by decide⟩
    | succ d ih27 =>
      intro k H locs ls h1 h2 hH hS hl
      have rg_k := fb_rng k
      refine lv_iload_n (pc := 27) C0.1 C0.2.1 dX9_sameBytes_27 rfl (lv_at hl 0 rfl) ?_
      refine lv_aload_n (pc := 28) C0.1 C0.2.1 dX9_sameBytes_28 rfl (lv_at hl 1 rfl) ?_
      refine xget (pc := 29) C0 hH 0 3 clX9 ⟨Nat.le_of_ble_eq_true rfl, Nat.le_of_ble_eq_true rfl⟩ ⟨rfl, rfl⟩ (Nat.le_of_ble_eq_true rfl) fl_X9_29 (v := .ref (b + 8)) rfl dX9_sameBytes_29 ?_
      refine xget (pc := 32) C0 hH 8 0 clX4 ⟨Nat.le_of_ble_eq_true rfl, Nat.le_of_ble_eq_true rfl⟩ ⟨rfl, rfl⟩ (Nat.le_of_ble_eq_true rfl) fl_X9_118 (v := .ref (b + 9)) rfl dX9_sameBytes_32 ?_
      refine xget (pc := 35) C0 hH 9 7 clX7 ⟨Nat.le_of_ble_eq_true rfl, Nat.le_of_ble_eq_true rfl⟩ ⟨rfl, rfl⟩ (Nat.le_of_ble_eq_true rfl) fl_X9_122 (v := .int (i 9 7)) rfl dX9_sameBytes_35 ?_
      refine lv_icmp_ge (pc := 38) (tgt := 57) C0.1 C0.2.1 dX9_sameBytes_38 (by decide) (fun c201 => ?_) (fun c201 => ?_)
      · have c201 := Int32.le_iff_toInt_le.mp c201
        refine lv_iconst (pc := 57) (v := 1) C0.1 C0.2.1 dX9_sameBytes_57 (by decide) ?_
        exact xzret (pc := 58) C0 hr hH hS dX9_sameBytes_58 (by decide) ⟨rfl, by decide⟩
      · have c201 : ¬ _ := fun q => c201 (Int32.le_iff_toInt_le.mpr q)
        refine lv_aload_n (pc := 41) C0.1 C0.2.1 dX9_sameBytes_41 rfl (lv_at hl 1 rfl) ?_
        refine lv_iload_n (pc := 42) C0.1 C0.2.1 dX9_sameBytes_42 rfl (lv_at hl 0 rfl) ?_
        refine xcVI (pc := 43) 0 [.int k] (g_X9_sameToken l D tA b i F G k hI) C0 hH hS clX9 rfl ⟨⟨Nat.le_of_ble_eq_true rfl, Nat.le_of_ble_eq_true rfl⟩, rfl, rfl⟩ cw_X9_265 rfl ⟨Nat.le_of_ble_eq_true rfl, Nat.le_of_ble_eq_true rfl⟩ hl.1 rfl (Nat.le_of_ble_eq_true rfl) dX9_sameBytes_43 ⟨Nat.le_of_ble_eq_true rfl, Nat.le_of_ble_eq_true rfl⟩ (fun r202 ir202 Fr202 Gr202 _ locs hp hH hS => ?_)
        obtain ⟨hu, hpr202⟩ := hp
        cases hu
        refine lv_if_ne (pc := 46) (tgt := 51) C0.1 C0.2.1 dX9_sameBytes_46 (by decide) (fun c203 => ?_) (fun c203 => ?_)
        · have : Int32.toInt 0 = 0 := rfl
          have c203 : ¬ _ := fun q => c203 (Int32.toInt_inj.mp q)
          obtain ⟨x204, ex204⟩ : ∃ y_ : Int32, y_ = k + 1 := ⟨_, rfl⟩
          have : Int32.toInt 1 = 1 := rfl
          have hx204 : Int32.toInt x204 = Int32.toInt k + Int32.toInt 1 := by rw [ex204]; exact fb_addI (by omega) (by omega)
          refine lv_iinc (pc := 51) (v := x204) (lv' := [(1, .int x204), (0, .ref (b + 0))]) C0.1 C0.2.1 dX9_sameBytes_51 hl (k := 0) rfl (by rw [ex204]; rfl) (by decide) rfl (fun ls hl => ?_)
          refine lv_goto (pc := 54) (tgt := 27) C0.1 C0.2.1 dX9_sameBytes_54 (by decide) ?_
          exact ih27 x204 _ _ _ (by omega) (by omega) hH hS (lv_sub hl [0, 1] rfl)
        · have : Int32.toInt 0 = 0 := rfl
          have c203 := congrArg Int32.toInt c203
          refine lv_iconst (pc := 49) (v := 0) C0.1 C0.2.1 dX9_sameBytes_49 (by decide) ?_
          exact xzret (pc := 50) C0 hr hH hS dX9_sameBytes_50 (by decide) ⟨rfl, by decide⟩
  refine lv_aload_n (pc := 0) C0.1 C0.2.1 dX9_sameBytes_0 rfl (lv_at hl 0 rfl) ?_
  refine xget (pc := 1) C0 hH 0 3 clX9 ⟨Nat.le_of_ble_eq_true rfl, Nat.le_of_ble_eq_true rfl⟩ ⟨rfl, rfl⟩ (Nat.le_of_ble_eq_true rfl) fl_X9_29 (v := .ref (b + 8)) rfl dX9_sameBytes_1 ?_
  refine xget (pc := 4) C0 hH 8 0 clX4 ⟨Nat.le_of_ble_eq_true rfl, Nat.le_of_ble_eq_true rfl⟩ ⟨rfl, rfl⟩ (Nat.le_of_ble_eq_true rfl) fl_X9_118 (v := .ref (b + 9)) rfl dX9_sameBytes_4 ?_
  refine xget (pc := 7) C0 hH 9 7 clX7 ⟨Nat.le_of_ble_eq_true rfl, Nat.le_of_ble_eq_true rfl⟩ ⟨rfl, rfl⟩ (Nat.le_of_ble_eq_true rfl) fl_X9_122 (v := .int (i 9 7)) rfl dX9_sameBytes_7 ?_
  refine lv_aload_n (pc := 10) C0.1 C0.2.1 dX9_sameBytes_10 rfl (lv_at hl 0 rfl) ?_
  refine xget (pc := 11) C0 hH 0 4 clX9 ⟨Nat.le_of_ble_eq_true rfl, Nat.le_of_ble_eq_true rfl⟩ ⟨rfl, rfl⟩ (Nat.le_of_ble_eq_true rfl) fl_X9_33 (v := .ref (b + 39)) rfl dX9_sameBytes_11 ?_
  refine xget (pc := 14) C0 hH 39 0 clX4 ⟨Nat.le_of_ble_eq_true rfl, Nat.le_of_ble_eq_true rfl⟩ ⟨rfl, rfl⟩ (Nat.le_of_ble_eq_true rfl) fl_X9_118 (v := .ref (b + 40)) rfl dX9_sameBytes_14 ?_
  refine xget (pc := 17) C0 hH 40 7 clX7 ⟨Nat.le_of_ble_eq_true rfl, Nat.le_of_ble_eq_true rfl⟩ ⟨rfl, rfl⟩ (Nat.le_of_ble_eq_true rfl) fl_X9_122 (v := .int (i 40 7)) rfl dX9_sameBytes_17 ?_
  refine lv_icmp_eq (pc := 20) (tgt := 25) C0.1 C0.2.1 dX9_sameBytes_20 (by decide) (fun c1 => ?_) (fun c1 => ?_)
  · have c1 := congrArg Int32.toInt c1
    refine lv_iconst (pc := 25) (v := 0) C0.1 C0.2.1 dX9_sameBytes_25 (by decide) ?_
    refine lv_istore_n (pc := 26) (lv' := [(1, .int 0), (0, .ref (b + 0))]) C0.1 C0.2.1 dX9_sameBytes_26 rfl hl (by decide) rfl (fun ls hl => ?_)
    exact L27 600 0 _ _ _ (by have : Int32.toInt 0 = 0 := rfl; omega) (by have : Int32.toInt 0 = 0 := rfl; omega) hH hS (lv_sub hl [0, 1] rfl)
  · have c1 : ¬ _ := fun q => c1 (Int32.toInt_inj.mp q)
    refine lv_iconst (pc := 23) (v := 0) C0.1 C0.2.1 dX9_sameBytes_23 (by decide) ?_
    exact xzret (pc := 24) C0 hr hH hS dX9_sameBytes_24 (by decide) ⟨rfl, by decide⟩
set_option maxHeartbeats 4000000 in
set_option maxRecDepth 100000 in
theorem g_X9_keep (l : Launch) (D : va_G) (tA : Nat → ClassId) (b : Nat) (i F : Nat → Nat → Int32) (G : Nat → Nat → Int64)  (hI : IC i F) (htd : 0 ≤ (i 1 2).toInt ∧ (i 1 2).toInt ≤ 24) : xMI l yX9_keep cX9_keep 1 (some .int) 2 81 D tA b 0 78 i F G [.ref (b + 0)] (fun r u => IC u.1 u.2.1 ∧ u.1 1 = i 1 ∧ u.2.1 3 = F 3 ∧ u.2.2 = G) := by
  refine xstart RX9 rfl (by decide) (Nat.le_of_ble_eq_true rfl) ?_
  intro p e s m below meth c ls C0 hr hH hS hl
  have hl : lv_has ls 1 [(0, .ref (b + 0))] := hl
  have hI0 := hI
  obtain ⟨hsz, hbf, hsz6, hbf7, htk, hF, hQ, htk2, hG, hQ2, hPg, hpt, hrw⟩ := hI0
  have hL := Tf17.lin hF
  have hL2 := Tf48.lin hG
  have hBs : i 1 = i 1 ∧ F 3 = F 3 ∧ G = G := ⟨rfl, rfl, rfl⟩

  refine lv_aload_n (pc := 0) C0.1 C0.2.1 dX9_keep_0 rfl (lv_at hl 0 rfl) ?_
  refine xget (pc := 1) C0 hH 0 2 clX9 ⟨Nat.le_of_ble_eq_true rfl, Nat.le_of_ble_eq_true rfl⟩ ⟨rfl, rfl⟩ (Nat.le_of_ble_eq_true rfl) fl_X9_23 (v := .ref (b + 6)) rfl dX9_keep_1 ?_
  refine lv_aload_n (pc := 4) C0.1 C0.2.1 dX9_keep_4 rfl (lv_at hl 0 rfl) ?_
  refine xget (pc := 5) C0 hH 0 1 clX9 ⟨Nat.le_of_ble_eq_true rfl, Nat.le_of_ble_eq_true rfl⟩ ⟨rfl, rfl⟩ (Nat.le_of_ble_eq_true rfl) fl_X9_19 (v := .ref (b + 4)) rfl dX9_keep_5 ?_
  refine xcVV (pc := 8) 6 [.ref (b + 4)] (g_X6_copyFrom l D tA b i F G  hsz hbf hbf7) C0 hH hS clX6 rfl ⟨⟨Nat.le_of_ble_eq_true rfl, Nat.le_of_ble_eq_true rfl⟩, rfl, rfl⟩ cw_X9_98 rfl ⟨Nat.le_of_ble_eq_true rfl, Nat.le_of_ble_eq_true rfl⟩ hl.1 rfl (Nat.le_of_ble_eq_true rfl) dX9_keep_8 ⟨Nat.le_of_ble_eq_true rfl, Nat.le_of_ble_eq_true rfl⟩ (fun ir1 Fr1 Gr1 _ locs hp hH hS => ?_)
  obtain ⟨honr1, a1r1, a2r1, a3r1⟩ := hp
  have hI : IC ir1 Fr1 := IC.k (i := i) (F := F) hI honr1 ⟨a1r1, a2r1⟩ a3r1
  have hBs : ir1 1 = i 1 ∧ Fr1 3 = F 3 ∧ Gr1 = G := ⟨(honr1.1 1 (by decide)).1.trans hBs.1, (honr1.1 3 (by decide)).2.trans hBs.2.1, honr1.2.trans hBs.2.2⟩
  have hI0 := hI
  obtain ⟨hsz, hbf, hsz6, hbf7, htk, hF, hQ, htk2, hG, hQ2, hPg, hpt, hrw⟩ := hI0
  have hL := Tf17.lin hF
  have hL2 := Tf48.lin hG
  have ek_1_2r1 : Int32.toInt (ir1 1 2) = Int32.toInt (i 1 2) := congrArg Int32.toInt (congrFun (honr1.1 1 (by decide)).1 2)
  refine lv_aload_n (pc := 11) C0.1 C0.2.1 dX9_keep_11 rfl (lv_at hl 0 rfl) ?_
  refine xget (pc := 12) C0 hH 0 2 clX9 ⟨Nat.le_of_ble_eq_true rfl, Nat.le_of_ble_eq_true rfl⟩ ⟨rfl, rfl⟩ (Nat.le_of_ble_eq_true rfl) fl_X9_23 (v := .ref (b + 6)) rfl dX9_keep_12 ?_
  refine xget (pc := 15) C0 hH 6 1 clX6 ⟨Nat.le_of_ble_eq_true rfl, Nat.le_of_ble_eq_true rfl⟩ ⟨rfl, rfl⟩ (Nat.le_of_ble_eq_true rfl) fl_X9_102 (v := .int (ir1 6 1)) rfl dX9_keep_15 ?_
  exact xiret (pc := 18) C0 hr hH hS dX9_keep_18 ⟨hI, hBs⟩
set_option maxHeartbeats 4000000 in
set_option maxRecDepth 100000 in
theorem g_X9_read (l : Launch) (D : va_G) (tA : Nat → ClassId) (b : Nat) (i F : Nat → Nat → Int32) (G : Nat → Nat → Int64)  (hI : IC i F) (htd : 0 ≤ (i 1 2).toInt ∧ (i 1 2).toInt ≤ 24) : xMI l yX9_read cX9_read 1 (some .int) 10 224 D tA b 0 78 i F G [.ref (b + 0)] (fun r u => IC u.1 u.2.1 ∧ u.1 1 = i 1 ∧ u.2.1 3 = F 3 ∧ u.2.2 = G) := by
  refine xstart RX9 rfl (by decide) (Nat.le_of_ble_eq_true rfl) ?_
  intro p e s m below meth c ls C0 hr hH hS hl
  have hl : lv_has ls 1 [(0, .ref (b + 0))] := hl
  have hI0 := hI
  obtain ⟨hsz, hbf, hsz6, hbf7, htk, hF, hQ, htk2, hG, hQ2, hPg, hpt, hrw⟩ := hI0
  have hL := Tf17.lin hF
  have hL2 := Tf48.lin hG
  have hBs : i 1 = i 1 ∧ F 3 = F 3 ∧ G = G := ⟨rfl, rfl, rfl⟩

  refine lv_aload_n (pc := 0) C0.1 C0.2.1 dX9_read_0 rfl (lv_at hl 0 rfl) ?_
  refine xget (pc := 1) C0 hH 0 3 clX9 ⟨Nat.le_of_ble_eq_true rfl, Nat.le_of_ble_eq_true rfl⟩ ⟨rfl, rfl⟩ (Nat.le_of_ble_eq_true rfl) fl_X9_29 (v := .ref (b + 8)) rfl dX9_read_1 ?_
  refine lv_aload_n (pc := 4) C0.1 C0.2.1 dX9_read_4 rfl (lv_at hl 0 rfl) ?_
  refine xget (pc := 5) C0 hH 0 1 clX9 ⟨Nat.le_of_ble_eq_true rfl, Nat.le_of_ble_eq_true rfl⟩ ⟨rfl, rfl⟩ (Nat.le_of_ble_eq_true rfl) fl_X9_19 (v := .ref (b + 4)) rfl dX9_read_5 ?_
  refine lv_aload_n (pc := 8) C0.1 C0.2.1 dX9_read_8 rfl (lv_at hl 0 rfl) ?_
  refine xget (pc := 9) C0 hH 0 0 clX9 ⟨Nat.le_of_ble_eq_true rfl, Nat.le_of_ble_eq_true rfl⟩ ⟨rfl, rfl⟩ (Nat.le_of_ble_eq_true rfl) fl_X9_12 (v := .ref (b + 1)) rfl dX9_read_9 ?_
  refine xcVV (pc := 12) 8 [.ref (b + 4), .ref (b + 1)] (g_X4_make_8 l D tA b i F G  hsz (show 0 ≤ Int32.toInt (i 1 2) ∧ Int32.toInt (i 1 2) ≤ 24 from by omega) hF hQ) C0 hH hS clX4 rfl ⟨⟨Nat.le_of_ble_eq_true rfl, Nat.le_of_ble_eq_true rfl⟩, rfl, rfl⟩ cw_X9_108 rfl ⟨Nat.le_of_ble_eq_true rfl, Nat.le_of_ble_eq_true rfl⟩ hl.1 rfl (Nat.le_of_ble_eq_true rfl) dX9_read_12 ⟨Nat.le_of_ble_eq_true rfl, Nat.le_of_ble_eq_true rfl⟩ (fun ir1 Fr1 Gr1 _ locs hp hH hS => ?_)
  obtain ⟨honr1, a1r1, a2r1, a3r1⟩ := hp
  have hI : IC ir1 Fr1 := IC.n (i := i) (F := F) hI honr1 a1r1 a2r1 a3r1
  have hBs : ir1 1 = i 1 ∧ Fr1 3 = F 3 ∧ Gr1 = G := ⟨(honr1.1 1 (by decide)).1.trans hBs.1, (honr1.1 3 (by decide)).2.trans hBs.2.1, honr1.2.trans hBs.2.2⟩
  have hI0 := hI
  obtain ⟨hsz, hbf, hsz6, hbf7, htk, hF, hQ, htk2, hG, hQ2, hPg, hpt, hrw⟩ := hI0
  have hL := Tf17.lin hF
  have hL2 := Tf48.lin hG
  have ek_1_2r1 : Int32.toInt (ir1 1 2) = Int32.toInt (i 1 2) := congrArg Int32.toInt (congrFun (honr1.1 1 (by decide)).1 2)
  refine lv_aload_n (pc := 15) C0.1 C0.2.1 dX9_read_15 rfl (lv_at hl 0 rfl) ?_
  refine xget (pc := 16) C0 hH 0 3 clX9 ⟨Nat.le_of_ble_eq_true rfl, Nat.le_of_ble_eq_true rfl⟩ ⟨rfl, rfl⟩ (Nat.le_of_ble_eq_true rfl) fl_X9_29 (v := .ref (b + 8)) rfl dX9_read_16 ?_
  refine xget (pc := 19) C0 hH 8 2 clX4 ⟨Nat.le_of_ble_eq_true rfl, Nat.le_of_ble_eq_true rfl⟩ ⟨rfl, rfl⟩ (Nat.le_of_ble_eq_true rfl) fl_X9_112 (v := .int (ir1 8 2)) rfl dX9_read_19 ?_
  refine lv_if_eq (pc := 22) (tgt := 41) C0.1 C0.2.1 dX9_read_22 (by decide) (fun c2 => ?_) (fun c2 => ?_)
  · have : Int32.toInt 0 = 0 := rfl
    have c2 := congrArg Int32.toInt c2
    refine lv_aload_n (pc := 41) C0.1 C0.2.1 dX9_read_41 rfl (lv_at hl 0 rfl) ?_
    refine lv_iconst (pc := 42) (v := 1) C0.1 C0.2.1 dX9_read_42 (by decide) ?_
    refine xputI (pc := 43) C0 (Nat.le_of_ble_eq_true rfl) hH hS 0 8 clX9 ⟨Nat.le_of_ble_eq_true rfl, Nat.le_of_ble_eq_true rfl⟩ ⟨rfl, rfl⟩ ⟨Nat.le_of_ble_eq_true rfl, rfl, rfl⟩ fl_X9_53 (x := 1) ⟨rfl, rfl⟩ dX9_read_43 (fun _ locs hH hS _ => ?_)
    have hH : Hd D tA b 0 78 zz (up2 ir1 0 8 1) Fr1 Gr1 _ := hH
    refine lv_aload_n (pc := 46) C0.1 C0.2.1 dX9_read_46 rfl (lv_at hl 0 rfl) ?_
    refine xget (pc := 47) C0 hH 0 3 clX9 ⟨Nat.le_of_ble_eq_true rfl, Nat.le_of_ble_eq_true rfl⟩ ⟨rfl, rfl⟩ (Nat.le_of_ble_eq_true rfl) fl_X9_29 (v := .ref (b + 8)) rfl dX9_read_47 ?_
    refine xget (pc := 50) C0 hH 8 0 clX4 ⟨Nat.le_of_ble_eq_true rfl, Nat.le_of_ble_eq_true rfl⟩ ⟨rfl, rfl⟩ (Nat.le_of_ble_eq_true rfl) fl_X9_118 (v := .ref (b + 9)) rfl dX9_read_50 ?_
    refine xget (pc := 53) C0 hH 9 7 clX7 ⟨Nat.le_of_ble_eq_true rfl, Nat.le_of_ble_eq_true rfl⟩ ⟨rfl, rfl⟩ (Nat.le_of_ble_eq_true rfl) fl_X9_122 (v := .int (ir1 9 7)) rfl dX9_read_53 ?_
    exact xiret (pc := 56) C0 hr hH hS dX9_read_56 ⟨hI, hBs⟩
  · have : Int32.toInt 0 = 0 := rfl
    have c2 : ¬ _ := fun q => c2 (Int32.toInt_inj.mp q)
    refine lv_aload_n (pc := 25) C0.1 C0.2.1 dX9_read_25 rfl (lv_at hl 0 rfl) ?_
    refine lv_iconst (pc := 26) (v := 2) C0.1 C0.2.1 dX9_read_26 (by decide) ?_
    refine xputI (pc := 27) C0 (Nat.le_of_ble_eq_true rfl) hH hS 0 8 clX9 ⟨Nat.le_of_ble_eq_true rfl, Nat.le_of_ble_eq_true rfl⟩ ⟨rfl, rfl⟩ ⟨Nat.le_of_ble_eq_true rfl, rfl, rfl⟩ fl_X9_53 (x := 2) ⟨rfl, rfl⟩ dX9_read_27 (fun _ locs hH hS _ => ?_)
    have hH : Hd D tA b 0 78 zz (up2 ir1 0 8 2) Fr1 Gr1 _ := hH
    refine lv_bipush (pc := 30) (v := (-100)) C0.1 C0.2.1 dX9_read_30 (by decide) ?_
    refine lv_aload_n (pc := 32) C0.1 C0.2.1 dX9_read_32 rfl (lv_at hl 0 rfl) ?_
    refine xget (pc := 33) C0 hH 0 3 clX9 ⟨Nat.le_of_ble_eq_true rfl, Nat.le_of_ble_eq_true rfl⟩ ⟨rfl, rfl⟩ (Nat.le_of_ble_eq_true rfl) fl_X9_29 (v := .ref (b + 8)) rfl dX9_read_33 ?_
    refine xget (pc := 36) C0 hH 8 3 clX4 ⟨Nat.le_of_ble_eq_true rfl, Nat.le_of_ble_eq_true rfl⟩ ⟨rfl, rfl⟩ (Nat.le_of_ble_eq_true rfl) fl_X9_115 (v := .int (ir1 8 3)) rfl dX9_read_36 ?_
    refine lv_isub (pc := 39) C0.1 C0.2.1 dX9_read_39 ?_
    exact xiret (pc := 40) C0 hr hH hS dX9_read_40 ⟨hI, hBs⟩
set_option maxHeartbeats 4000000 in
set_option maxRecDepth 100000 in
theorem g_X9_same (l : Launch) (D : va_G) (tA : Nat → ClassId) (b : Nat) (i F : Nat → Nat → Int32) (G : Nat → Nat → Int64)  (hI : IC i F) (htd : 0 ≤ (i 1 2).toInt ∧ (i 1 2).toInt ≤ 24) : xMI l yX9_same cX9_same 1 (some .int) 10 224 D tA b 0 78 i F G [.ref (b + 0)] (fun r u => IC u.1 u.2.1 ∧ u.1 1 = i 1 ∧ u.2.1 3 = F 3 ∧ u.2.2 = G) := by
  refine xstart RX9 rfl (by decide) (Nat.le_of_ble_eq_true rfl) ?_
  intro p e s m below meth c ls C0 hr hH hS hl
  have hl : lv_has ls 1 [(0, .ref (b + 0))] := hl
  have hI0 := hI
  obtain ⟨hsz, hbf, hsz6, hbf7, htk, hF, hQ, htk2, hG, hQ2, hPg, hpt, hrw⟩ := hI0
  have hL := Tf17.lin hF
  have hL2 := Tf48.lin hG
  have hBs : i 1 = i 1 ∧ F 3 = F 3 ∧ G = G := ⟨rfl, rfl, rfl⟩

  refine lv_aload_n (pc := 0) C0.1 C0.2.1 dX9_same_0 rfl (lv_at hl 0 rfl) ?_
  refine xget (pc := 1) C0 hH 0 8 clX9 ⟨Nat.le_of_ble_eq_true rfl, Nat.le_of_ble_eq_true rfl⟩ ⟨rfl, rfl⟩ (Nat.le_of_ble_eq_true rfl) fl_X9_53 (v := .int (i 0 8)) rfl dX9_same_1 ?_
  refine lv_iconst (pc := 4) (v := 1) C0.1 C0.2.1 dX9_same_4 (by decide) ?_
  refine lv_icmp_eq (pc := 5) (tgt := 11) C0.1 C0.2.1 dX9_same_5 (by decide) (fun c1 => ?_) (fun c1 => ?_)
  · have : Int32.toInt 1 = 1 := rfl
    have c1 := congrArg Int32.toInt c1
    refine lv_aload_n (pc := 11) C0.1 C0.2.1 dX9_same_11 rfl (lv_at hl 0 rfl) ?_
    refine xget (pc := 12) C0 hH 0 4 clX9 ⟨Nat.le_of_ble_eq_true rfl, Nat.le_of_ble_eq_true rfl⟩ ⟨rfl, rfl⟩ (Nat.le_of_ble_eq_true rfl) fl_X9_33 (v := .ref (b + 39)) rfl dX9_same_12 ?_
    refine lv_aload_n (pc := 15) C0.1 C0.2.1 dX9_same_15 rfl (lv_at hl 0 rfl) ?_
    refine xget (pc := 16) C0 hH 0 2 clX9 ⟨Nat.le_of_ble_eq_true rfl, Nat.le_of_ble_eq_true rfl⟩ ⟨rfl, rfl⟩ (Nat.le_of_ble_eq_true rfl) fl_X9_23 (v := .ref (b + 6)) rfl dX9_same_16 ?_
    refine lv_aload_n (pc := 19) C0.1 C0.2.1 dX9_same_19 rfl (lv_at hl 0 rfl) ?_
    refine xget (pc := 20) C0 hH 0 0 clX9 ⟨Nat.le_of_ble_eq_true rfl, Nat.le_of_ble_eq_true rfl⟩ ⟨rfl, rfl⟩ (Nat.le_of_ble_eq_true rfl) fl_X9_12 (v := .ref (b + 1)) rfl dX9_same_20 ?_
    refine xcVV (pc := 23) 39 [.ref (b + 6), .ref (b + 1)] (g_X4_make_39 l D tA b i F G  hsz6 (show 0 ≤ Int32.toInt (i 1 2) ∧ Int32.toInt (i 1 2) ≤ 24 from by omega) hG hQ2) C0 hH hS clX4 rfl ⟨⟨Nat.le_of_ble_eq_true rfl, Nat.le_of_ble_eq_true rfl⟩, rfl, rfl⟩ cw_X9_108 rfl ⟨Nat.le_of_ble_eq_true rfl, Nat.le_of_ble_eq_true rfl⟩ hl.1 rfl (Nat.le_of_ble_eq_true rfl) dX9_same_23 ⟨Nat.le_of_ble_eq_true rfl, Nat.le_of_ble_eq_true rfl⟩ (fun ir2 Fr2 Gr2 _ locs hp hH hS => ?_)
    obtain ⟨honr2, a1r2, a2r2, a3r2⟩ := hp
    have hI : IC ir2 Fr2 := IC.o (i := i) (F := F) hI honr2 a1r2 a2r2 a3r2
    have hBs : ir2 1 = i 1 ∧ Fr2 3 = F 3 ∧ Gr2 = G := ⟨(honr2.1 1 (by decide)).1.trans hBs.1, (honr2.1 3 (by decide)).2.trans hBs.2.1, honr2.2.trans hBs.2.2⟩
    have hI0 := hI
    obtain ⟨hsz, hbf, hsz6, hbf7, htk, hF, hQ, htk2, hG, hQ2, hPg, hpt, hrw⟩ := hI0
    have hL := Tf17.lin hF
    have hL2 := Tf48.lin hG
    have ek_1_2r2 : Int32.toInt (ir2 1 2) = Int32.toInt (i 1 2) := congrArg Int32.toInt (congrFun (honr2.1 1 (by decide)).1 2)
    refine lv_aload_n (pc := 26) C0.1 C0.2.1 dX9_same_26 rfl (lv_at hl 0 rfl) ?_
    refine xget (pc := 27) C0 hH 0 4 clX9 ⟨Nat.le_of_ble_eq_true rfl, Nat.le_of_ble_eq_true rfl⟩ ⟨rfl, rfl⟩ (Nat.le_of_ble_eq_true rfl) fl_X9_33 (v := .ref (b + 39)) rfl dX9_same_27 ?_
    refine xget (pc := 30) C0 hH 39 2 clX4 ⟨Nat.le_of_ble_eq_true rfl, Nat.le_of_ble_eq_true rfl⟩ ⟨rfl, rfl⟩ (Nat.le_of_ble_eq_true rfl) fl_X9_112 (v := .int (ir2 39 2)) rfl dX9_same_30 ?_
    refine lv_if_eq (pc := 33) (tgt := 39) C0.1 C0.2.1 dX9_same_33 (by decide) (fun c3 => ?_) (fun c3 => ?_)
    · have : Int32.toInt 0 = 0 := rfl
      have c3 := congrArg Int32.toInt c3
      refine lv_aload_n (pc := 39) C0.1 C0.2.1 dX9_same_39 rfl (lv_at hl 0 rfl) ?_
      refine xcVI (pc := 40) 0 [] (g_X9_sameBytes l D tA b ir2 Fr2 Gr2  hI) C0 hH hS clX9 rfl ⟨⟨Nat.le_of_ble_eq_true rfl, Nat.le_of_ble_eq_true rfl⟩, rfl, rfl⟩ cw_X9_252 rfl ⟨Nat.le_of_ble_eq_true rfl, Nat.le_of_ble_eq_true rfl⟩ hl.1 rfl (Nat.le_of_ble_eq_true rfl) dX9_same_40 ⟨Nat.le_of_ble_eq_true rfl, Nat.le_of_ble_eq_true rfl⟩ (fun r4 ir4 Fr4 Gr4 _ locs hp hH hS => ?_)
      obtain ⟨hu, hpr4⟩ := hp
      cases hu
      refine lv_if_eq (pc := 43) (tgt := 80) C0.1 C0.2.1 dX9_same_43 (by decide) (fun c5 => ?_) (fun c5 => ?_)
      · have : Int32.toInt 0 = 0 := rfl
        have c5 := congrArg Int32.toInt c5
        refine lv_iconst (pc := 80) (v := 0) C0.1 C0.2.1 dX9_same_80 (by decide) ?_
        exact xiret (pc := 81) C0 hr hH hS dX9_same_81 ⟨hI, hBs⟩
      · have : Int32.toInt 0 = 0 := rfl
        have c5 : ¬ _ := fun q => c5 (Int32.toInt_inj.mp q)
        refine lv_aload_n (pc := 46) C0.1 C0.2.1 dX9_same_46 rfl (lv_at hl 0 rfl) ?_
        refine xget (pc := 47) C0 hH 0 3 clX9 ⟨Nat.le_of_ble_eq_true rfl, Nat.le_of_ble_eq_true rfl⟩ ⟨rfl, rfl⟩ (Nat.le_of_ble_eq_true rfl) fl_X9_29 (v := .ref (b + 8)) rfl dX9_same_47 ?_
        refine xget (pc := 50) C0 hH 8 1 clX4 ⟨Nat.le_of_ble_eq_true rfl, Nat.le_of_ble_eq_true rfl⟩ ⟨rfl, rfl⟩ (Nat.le_of_ble_eq_true rfl) fl_X9_133 (v := .ref (b + 17)) rfl dX9_same_50 ?_
        refine lv_aload_n (pc := 53) C0.1 C0.2.1 dX9_same_53 rfl (lv_at hl 0 rfl) ?_
        refine xget (pc := 54) C0 hH 0 4 clX9 ⟨Nat.le_of_ble_eq_true rfl, Nat.le_of_ble_eq_true rfl⟩ ⟨rfl, rfl⟩ (Nat.le_of_ble_eq_true rfl) fl_X9_33 (v := .ref (b + 39)) rfl dX9_same_54 ?_
        refine xget (pc := 57) C0 hH 39 1 clX4 ⟨Nat.le_of_ble_eq_true rfl, Nat.le_of_ble_eq_true rfl⟩ ⟨rfl, rfl⟩ (Nat.le_of_ble_eq_true rfl) fl_X9_133 (v := .ref (b + 48)) rfl dX9_same_57 ?_
        refine lv_aload_n (pc := 60) C0.1 C0.2.1 dX9_same_60 rfl (lv_at hl 0 rfl) ?_
        refine xget (pc := 61) C0 hH 0 3 clX9 ⟨Nat.le_of_ble_eq_true rfl, Nat.le_of_ble_eq_true rfl⟩ ⟨rfl, rfl⟩ (Nat.le_of_ble_eq_true rfl) fl_X9_29 (v := .ref (b + 8)) rfl dX9_same_61 ?_
        refine xget (pc := 64) C0 hH 8 0 clX4 ⟨Nat.le_of_ble_eq_true rfl, Nat.le_of_ble_eq_true rfl⟩ ⟨rfl, rfl⟩ (Nat.le_of_ble_eq_true rfl) fl_X9_118 (v := .ref (b + 9)) rfl dX9_same_64 ?_
        refine xget (pc := 67) C0 hH 9 7 clX7 ⟨Nat.le_of_ble_eq_true rfl, Nat.le_of_ble_eq_true rfl⟩ ⟨rfl, rfl⟩ (Nat.le_of_ble_eq_true rfl) fl_X9_122 (v := .int (ir2 9 7)) rfl dX9_same_67 ?_
        refine xcVI (pc := 70) 17 [.ref (b + 48), .int (ir2 9 7)] (g_X8_hasShapeOf l D tA b ir2 Fr2 Gr2 (ir2 9 7) hF hG) C0 hH hS clX8 rfl ⟨⟨Nat.le_of_ble_eq_true rfl, Nat.le_of_ble_eq_true rfl⟩, rfl, rfl⟩ cw_X9_256 rfl ⟨Nat.le_of_ble_eq_true rfl, Nat.le_of_ble_eq_true rfl⟩ hl.1 rfl (Nat.le_of_ble_eq_true rfl) dX9_same_70 ⟨Nat.le_of_ble_eq_true rfl, Nat.le_of_ble_eq_true rfl⟩ (fun r6 ir6 Fr6 Gr6 _ locs hp hH hS => ?_)
        obtain ⟨hu, hpr6⟩ := hp
        cases hu
        refine lv_if_eq (pc := 73) (tgt := 80) C0.1 C0.2.1 dX9_same_73 (by decide) (fun c7 => ?_) (fun c7 => ?_)
        · have : Int32.toInt 0 = 0 := rfl
          have c7 := congrArg Int32.toInt c7
          refine lv_iconst (pc := 80) (v := 0) C0.1 C0.2.1 dX9_same_80 (by decide) ?_
          exact xiret (pc := 81) C0 hr hH hS dX9_same_81 ⟨hI, hBs⟩
        · have : Int32.toInt 0 = 0 := rfl
          have c7 : ¬ _ := fun q => c7 (Int32.toInt_inj.mp q)
          refine lv_iconst (pc := 76) (v := 1) C0.1 C0.2.1 dX9_same_76 (by decide) ?_
          refine lv_goto (pc := 77) (tgt := 81) C0.1 C0.2.1 dX9_same_77 (by decide) ?_
          exact xiret (pc := 81) C0 hr hH hS dX9_same_81 ⟨hI, hBs⟩
    · have : Int32.toInt 0 = 0 := rfl
      have c3 : ¬ _ := fun q => c3 (Int32.toInt_inj.mp q)
      refine lv_bipush (pc := 36) (v := (-3)) C0.1 C0.2.1 dX9_same_36 (by decide) ?_
      exact xiret (pc := 38) C0 hr hH hS dX9_same_38 ⟨hI, hBs⟩
  · have : Int32.toInt 1 = 1 := rfl
    have c1 : ¬ _ := fun q => c1 (Int32.toInt_inj.mp q)
    refine lv_bipush (pc := 8) (v := (-3)) C0.1 C0.2.1 dX9_same_8 (by decide) ?_
    exact xiret (pc := 10) C0 hr hH hS dX9_same_10 ⟨hI, hBs⟩
set_option maxHeartbeats 4000000 in
set_option maxRecDepth 100000 in
theorem g_X9_unread (l : Launch) (D : va_G) (tA : Nat → ClassId) (b : Nat) (i F : Nat → Nat → Int32) (G : Nat → Nat → Int64) (x : Int32)  : xMI l yX9_unreadUnlessRefused cX9_unreadUnlessRefused 2 (some .int) 0 0 D tA b 0 78 i F G [.ref (b + 0), .int x] (fun r u => On 0 1 i F G u ∧ r = x ∧ ∀ j, j ≠ 8 → u.1 0 j = i 0 j) := by
  refine xstart RX9 rfl (by decide) (Nat.le_of_ble_eq_true rfl) ?_
  intro p e s m below meth c ls C0 hr hH hS hl
  have hl : lv_has ls 2 [(0, .ref (b + 0)), (1, .int x)] := hl
  have rg_x := fb_rng x
  refine lv_iload_n (pc := 0) C0.1 C0.2.1 dX9_unreadUnlessRefused_0 rfl (lv_at hl 1 rfl) ?_
  refine lv_if_lt (pc := 1) (tgt := 9) C0.1 C0.2.1 dX9_unreadUnlessRefused_1 (by decide) (fun c1 => ?_) (fun c1 => ?_)
  · have : Int32.toInt 0 = 0 := rfl
    have c1 := Int32.lt_iff_toInt_lt.mp c1
    refine lv_iload_n (pc := 9) C0.1 C0.2.1 dX9_unreadUnlessRefused_9 rfl (lv_at hl 1 rfl) ?_
    exact xiret (pc := 10) C0 hr hH hS dX9_unreadUnlessRefused_10 ⟨On.rf, rfl, fun j hj => rfl⟩
  · have : Int32.toInt 0 = 0 := rfl
    have c1 : ¬ _ := fun q => c1 (Int32.lt_iff_toInt_lt.mpr q)
    refine lv_aload_n (pc := 4) C0.1 C0.2.1 dX9_unreadUnlessRefused_4 rfl (lv_at hl 0 rfl) ?_
    refine lv_iconst (pc := 5) (v := 0) C0.1 C0.2.1 dX9_unreadUnlessRefused_5 (by decide) ?_
    refine xputI (pc := 6) C0 (Nat.le_of_ble_eq_true rfl) hH hS 0 8 clX9 ⟨Nat.le_of_ble_eq_true rfl, Nat.le_of_ble_eq_true rfl⟩ ⟨rfl, rfl⟩ ⟨Nat.le_of_ble_eq_true rfl, rfl, rfl⟩ fl_X9_53 (x := 0) ⟨rfl, rfl⟩ dX9_unreadUnlessRefused_6 (fun _ locs hH hS _ => ?_)
    have hH : Hd D tA b 0 78 zz (up2 i 0 8 0) F G _ := hH
    refine lv_iload_n (pc := 9) C0.1 C0.2.1 dX9_unreadUnlessRefused_9 rfl (lv_at hl 1 rfl) ?_
    exact xiret (pc := 10) C0 hr hH hS dX9_unreadUnlessRefused_10 ⟨(On.i On.rf (by decide)), rfl, fun j hj => show up2 i 0 8 0 0 j = i 0 j from up2_j hj⟩
set_option maxHeartbeats 4000000 in
set_option maxRecDepth 100000 in
theorem g_X9_feed (l : Launch) (D : va_G) (tA : Nat → ClassId) (b : Nat) (i F : Nat → Nat → Int32) (G : Nat → Nat → Int64) (w : Int64) (hI : IC i F) (htd : 0 ≤ (i 1 2).toInt ∧ (i 1 2).toInt ≤ 24) : xMI l yX9_feed cX9_feed 3 (some .int) 3 68 D tA b 0 78 i F G [.ref (b + 0), .long w] (fun r u => IC u.1 u.2.1 ∧ u.1 1 = i 1 ∧ u.2.1 3 = F 3 ∧ u.2.2 = G) := by
  refine xstart RX9 rfl (by decide) (Nat.le_of_ble_eq_true rfl) ?_
  intro p e s m below meth c ls C0 hr hH hS hl
  have hl : lv_has ls 3 [(0, .ref (b + 0)), (1, .long w)] := hl
  have hI0 := hI
  obtain ⟨hsz, hbf, hsz6, hbf7, htk, hF, hQ, htk2, hG, hQ2, hPg, hpt, hrw⟩ := hI0
  have hL := Tf17.lin hF
  have hL2 := Tf48.lin hG
  have hBs : i 1 = i 1 ∧ F 3 = F 3 ∧ G = G := ⟨rfl, rfl, rfl⟩

  refine lv_aload_n (pc := 0) C0.1 C0.2.1 dX9_feed_0 rfl (lv_at hl 0 rfl) ?_
  refine lv_aload_n (pc := 1) C0.1 C0.2.1 dX9_feed_1 rfl (lv_at hl 0 rfl) ?_
  refine xget (pc := 2) C0 hH 0 1 clX9 ⟨Nat.le_of_ble_eq_true rfl, Nat.le_of_ble_eq_true rfl⟩ ⟨rfl, rfl⟩ (Nat.le_of_ble_eq_true rfl) fl_X9_19 (v := .ref (b + 4)) rfl dX9_feed_2 ?_
  refine lv_lload_n (pc := 5) C0.1 C0.2.1 dX9_feed_5 rfl (lv_at hl 1 rfl) ?_
  refine xcVI (pc := 6) 4 [.long w] (g_X6_append_4 l D tA b i F G w hsz hbf) C0 hH hS clX6 rfl ⟨⟨Nat.le_of_ble_eq_true rfl, Nat.le_of_ble_eq_true rfl⟩, rfl, rfl⟩ cw_X9_89 rfl ⟨Nat.le_of_ble_eq_true rfl, Nat.le_of_ble_eq_true rfl⟩ hl.1 rfl (Nat.le_of_ble_eq_true rfl) dX9_feed_6 ⟨Nat.le_of_ble_eq_true rfl, Nat.le_of_ble_eq_true rfl⟩ (fun r1 ir1 Fr1 Gr1 _ locs hp hH hS => ?_)
  obtain ⟨honr1, a1r1, a2r1, a3r1⟩ := hp
  have hI : IC ir1 Fr1 := IC.t (i := i) (F := F) hI honr1 ⟨a1r1, a2r1⟩ a3r1
  have hBs : ir1 1 = i 1 ∧ Fr1 3 = F 3 ∧ Gr1 = G := ⟨(honr1.1 1 (by decide)).1.trans hBs.1, (honr1.1 3 (by decide)).2.trans hBs.2.1, honr1.2.trans hBs.2.2⟩
  have hI0 := hI
  obtain ⟨hsz, hbf, hsz6, hbf7, htk, hF, hQ, htk2, hG, hQ2, hPg, hpt, hrw⟩ := hI0
  have hL := Tf17.lin hF
  have hL2 := Tf48.lin hG
  have ek_1_2r1 : Int32.toInt (ir1 1 2) = Int32.toInt (i 1 2) := congrArg Int32.toInt (congrFun (honr1.1 1 (by decide)).1 2)
  refine xcVI (pc := 9) 0 [.int r1] (g_X9_unread l D tA b ir1 Fr1 Gr1 r1) C0 hH hS clX9 rfl ⟨⟨Nat.le_of_ble_eq_true rfl, Nat.le_of_ble_eq_true rfl⟩, rfl, rfl⟩ cw_X9_71 rfl ⟨Nat.le_of_ble_eq_true rfl, Nat.le_of_ble_eq_true rfl⟩ hl.1 rfl (Nat.le_of_ble_eq_true rfl) dX9_feed_9 ⟨Nat.le_of_ble_eq_true rfl, Nat.le_of_ble_eq_true rfl⟩ (fun r2 ir2 Fr2 Gr2 _ locs hp hH hS => ?_)
  obtain ⟨honr2, rfl, h8r2⟩ := hp
  have hI : IC ir2 Fr2 := IC.z (i := ir1) (F := Fr1) hI honr2 h8r2
  have hBs : ir2 1 = i 1 ∧ Fr2 3 = F 3 ∧ Gr2 = G := ⟨(honr2.1 1 (by decide)).1.trans hBs.1, (honr2.1 3 (by decide)).2.trans hBs.2.1, honr2.2.trans hBs.2.2⟩
  have ek_1_2r2 : Int32.toInt (ir2 1 2) = Int32.toInt (ir1 1 2) := congrArg Int32.toInt (congrFun (honr2.1 1 (by decide)).1 2)
  exact xiret (pc := 12) C0 hr hH hS dX9_feed_12 ⟨hI, hBs⟩
set_option maxHeartbeats 4000000 in
set_option maxRecDepth 100000 in
theorem g_X9_cut (l : Launch) (D : va_G) (tA : Nat → ClassId) (b : Nat) (i F : Nat → Nat → Int32) (G : Nat → Nat → Int64) (x : Int32) (hI : IC i F) (htd : 0 ≤ (i 1 2).toInt ∧ (i 1 2).toInt ≤ 24) : xMI l yX9_cut cX9_cut 2 (some .int) 1 22 D tA b 0 78 i F G [.ref (b + 0), .int x] (fun r u => IC u.1 u.2.1 ∧ u.1 1 = i 1 ∧ u.2.1 3 = F 3 ∧ u.2.2 = G) := by
  refine xstart RX9 rfl (by decide) (Nat.le_of_ble_eq_true rfl) ?_
  intro p e s m below meth c ls C0 hr hH hS hl
  have hl : lv_has ls 2 [(0, .ref (b + 0)), (1, .int x)] := hl
  have rg_x := fb_rng x
  have hI0 := hI
  obtain ⟨hsz, hbf, hsz6, hbf7, htk, hF, hQ, htk2, hG, hQ2, hPg, hpt, hrw⟩ := hI0
  have hL := Tf17.lin hF
  have hL2 := Tf48.lin hG
  have hBs : i 1 = i 1 ∧ F 3 = F 3 ∧ G = G := ⟨rfl, rfl, rfl⟩

  refine lv_aload_n (pc := 0) C0.1 C0.2.1 dX9_cut_0 rfl (lv_at hl 0 rfl) ?_
  refine lv_aload_n (pc := 1) C0.1 C0.2.1 dX9_cut_1 rfl (lv_at hl 0 rfl) ?_
  refine xget (pc := 2) C0 hH 0 1 clX9 ⟨Nat.le_of_ble_eq_true rfl, Nat.le_of_ble_eq_true rfl⟩ ⟨rfl, rfl⟩ (Nat.le_of_ble_eq_true rfl) fl_X9_19 (v := .ref (b + 4)) rfl dX9_cut_2 ?_
  refine lv_iload_n (pc := 5) C0.1 C0.2.1 dX9_cut_5 rfl (lv_at hl 1 rfl) ?_
  refine xcVI (pc := 6) 4 [.int x] (g_X6_keepFirst_4 l D tA b i F G x hsz hbf) C0 hH hS clX6 rfl ⟨⟨Nat.le_of_ble_eq_true rfl, Nat.le_of_ble_eq_true rfl⟩, rfl, rfl⟩ cw_X9_92 rfl ⟨Nat.le_of_ble_eq_true rfl, Nat.le_of_ble_eq_true rfl⟩ hl.1 rfl (Nat.le_of_ble_eq_true rfl) dX9_cut_6 ⟨Nat.le_of_ble_eq_true rfl, Nat.le_of_ble_eq_true rfl⟩ (fun r1 ir1 Fr1 Gr1 _ locs hp hH hS => ?_)
  obtain ⟨honr1, a1r1, a2r1, a3r1⟩ := hp
  have hI : IC ir1 Fr1 := IC.t (i := i) (F := F) hI honr1 ⟨a1r1, a2r1⟩ a3r1
  have hBs : ir1 1 = i 1 ∧ Fr1 3 = F 3 ∧ Gr1 = G := ⟨(honr1.1 1 (by decide)).1.trans hBs.1, (honr1.1 3 (by decide)).2.trans hBs.2.1, honr1.2.trans hBs.2.2⟩
  have hI0 := hI
  obtain ⟨hsz, hbf, hsz6, hbf7, htk, hF, hQ, htk2, hG, hQ2, hPg, hpt, hrw⟩ := hI0
  have hL := Tf17.lin hF
  have hL2 := Tf48.lin hG
  have ek_1_2r1 : Int32.toInt (ir1 1 2) = Int32.toInt (i 1 2) := congrArg Int32.toInt (congrFun (honr1.1 1 (by decide)).1 2)
  refine xcVI (pc := 9) 0 [.int r1] (g_X9_unread l D tA b ir1 Fr1 Gr1 r1) C0 hH hS clX9 rfl ⟨⟨Nat.le_of_ble_eq_true rfl, Nat.le_of_ble_eq_true rfl⟩, rfl, rfl⟩ cw_X9_71 rfl ⟨Nat.le_of_ble_eq_true rfl, Nat.le_of_ble_eq_true rfl⟩ hl.1 rfl (Nat.le_of_ble_eq_true rfl) dX9_cut_9 ⟨Nat.le_of_ble_eq_true rfl, Nat.le_of_ble_eq_true rfl⟩ (fun r2 ir2 Fr2 Gr2 _ locs hp hH hS => ?_)
  obtain ⟨honr2, rfl, h8r2⟩ := hp
  have hI : IC ir2 Fr2 := IC.z (i := ir1) (F := Fr1) hI honr2 h8r2
  have hBs : ir2 1 = i 1 ∧ Fr2 3 = F 3 ∧ Gr2 = G := ⟨(honr2.1 1 (by decide)).1.trans hBs.1, (honr2.1 3 (by decide)).2.trans hBs.2.1, honr2.2.trans hBs.2.2⟩
  have ek_1_2r2 : Int32.toInt (ir2 1 2) = Int32.toInt (ir1 1 2) := congrArg Int32.toInt (congrFun (honr2.1 1 (by decide)).1 2)
  exact xiret (pc := 12) C0 hr hH hS dX9_cut_12 ⟨hI, hBs⟩
set_option maxHeartbeats 4000000 in
set_option maxRecDepth 100000 in
theorem g_X9_shift (l : Launch) (D : va_G) (tA : Nat → ClassId) (b : Nat) (i F : Nat → Nat → Int32) (G : Nat → Nat → Int64) (x y : Int32) (hI : IC i F) (htd : 0 ≤ (i 1 2).toInt ∧ (i 1 2).toInt ≤ 24) : xMI l yX9_shift cX9_shift 3 (some .int) 3 84 D tA b 0 78 i F G [.ref (b + 0), .int x, .int y] (fun r u => IC u.1 u.2.1 ∧ u.1 1 = i 1 ∧ u.2.1 3 = F 3 ∧ u.2.2 = G) := by
  refine xstart RX9 rfl (by decide) (Nat.le_of_ble_eq_true rfl) ?_
  intro p e s m below meth c ls C0 hr hH hS hl
  have hl : lv_has ls 3 [(0, .ref (b + 0)), (1, .int x), (2, .int y)] := hl
  have rg_x := fb_rng x
  have rg_y := fb_rng y
  have hI0 := hI
  obtain ⟨hsz, hbf, hsz6, hbf7, htk, hF, hQ, htk2, hG, hQ2, hPg, hpt, hrw⟩ := hI0
  have hL := Tf17.lin hF
  have hL2 := Tf48.lin hG
  have hBs : i 1 = i 1 ∧ F 3 = F 3 ∧ G = G := ⟨rfl, rfl, rfl⟩

  refine lv_aload_n (pc := 0) C0.1 C0.2.1 dX9_shift_0 rfl (lv_at hl 0 rfl) ?_
  refine lv_aload_n (pc := 1) C0.1 C0.2.1 dX9_shift_1 rfl (lv_at hl 0 rfl) ?_
  refine xget (pc := 2) C0 hH 0 1 clX9 ⟨Nat.le_of_ble_eq_true rfl, Nat.le_of_ble_eq_true rfl⟩ ⟨rfl, rfl⟩ (Nat.le_of_ble_eq_true rfl) fl_X9_19 (v := .ref (b + 4)) rfl dX9_shift_2 ?_
  refine lv_iload_n (pc := 5) C0.1 C0.2.1 dX9_shift_5 rfl (lv_at hl 1 rfl) ?_
  refine lv_iload_n (pc := 6) C0.1 C0.2.1 dX9_shift_6 rfl (lv_at hl 2 rfl) ?_
  refine xcVI (pc := 7) 4 [.int x, .int y] (g_X6_slide_4 l D tA b i F G x y hsz hbf) C0 hH hS clX6 rfl ⟨⟨Nat.le_of_ble_eq_true rfl, Nat.le_of_ble_eq_true rfl⟩, rfl, rfl⟩ cw_X9_95 rfl ⟨Nat.le_of_ble_eq_true rfl, Nat.le_of_ble_eq_true rfl⟩ hl.1 rfl (Nat.le_of_ble_eq_true rfl) dX9_shift_7 ⟨Nat.le_of_ble_eq_true rfl, Nat.le_of_ble_eq_true rfl⟩ (fun r1 ir1 Fr1 Gr1 _ locs hp hH hS => ?_)
  obtain ⟨honr1, a1r1, a2r1, a3r1⟩ := hp
  have hI : IC ir1 Fr1 := IC.t (i := i) (F := F) hI honr1 ⟨a1r1, a2r1⟩ a3r1
  have hBs : ir1 1 = i 1 ∧ Fr1 3 = F 3 ∧ Gr1 = G := ⟨(honr1.1 1 (by decide)).1.trans hBs.1, (honr1.1 3 (by decide)).2.trans hBs.2.1, honr1.2.trans hBs.2.2⟩
  have hI0 := hI
  obtain ⟨hsz, hbf, hsz6, hbf7, htk, hF, hQ, htk2, hG, hQ2, hPg, hpt, hrw⟩ := hI0
  have hL := Tf17.lin hF
  have hL2 := Tf48.lin hG
  have ek_1_2r1 : Int32.toInt (ir1 1 2) = Int32.toInt (i 1 2) := congrArg Int32.toInt (congrFun (honr1.1 1 (by decide)).1 2)
  refine xcVI (pc := 10) 0 [.int r1] (g_X9_unread l D tA b ir1 Fr1 Gr1 r1) C0 hH hS clX9 rfl ⟨⟨Nat.le_of_ble_eq_true rfl, Nat.le_of_ble_eq_true rfl⟩, rfl, rfl⟩ cw_X9_71 rfl ⟨Nat.le_of_ble_eq_true rfl, Nat.le_of_ble_eq_true rfl⟩ hl.1 rfl (Nat.le_of_ble_eq_true rfl) dX9_shift_10 ⟨Nat.le_of_ble_eq_true rfl, Nat.le_of_ble_eq_true rfl⟩ (fun r2 ir2 Fr2 Gr2 _ locs hp hH hS => ?_)
  obtain ⟨honr2, rfl, h8r2⟩ := hp
  have hI : IC ir2 Fr2 := IC.z (i := ir1) (F := Fr1) hI honr2 h8r2
  have hBs : ir2 1 = i 1 ∧ Fr2 3 = F 3 ∧ Gr2 = G := ⟨(honr2.1 1 (by decide)).1.trans hBs.1, (honr2.1 3 (by decide)).2.trans hBs.2.1, honr2.2.trans hBs.2.2⟩
  have ek_1_2r2 : Int32.toInt (ir2 1 2) = Int32.toInt (ir1 1 2) := congrArg Int32.toInt (congrFun (honr2.1 1 (by decide)).1 2)
  exact xiret (pc := 13) C0 hr hH hS dX9_shift_13 ⟨hI, hBs⟩
set_option maxHeartbeats 4000000 in
set_option maxRecDepth 100000 in
theorem g_X9_parts (l : Launch) (D : va_G) (tA : Nat → ClassId) (b : Nat) (i F : Nat → Nat → Int32) (G : Nat → Nat → Int64)  (hI : IC i F) (htd : 0 ≤ (i 1 2).toInt ∧ (i 1 2).toInt ≤ 24) : xMI l yX9_parts cX9_parts 3 (some .int) 10 224 D tA b 0 78 i F G [.ref (b + 0)] (fun r u => IC u.1 u.2.1 ∧ u.1 1 = i 1 ∧ u.2.1 3 = F 3 ∧ u.2.2 = G) := by
  refine xstart RX9 rfl (by decide) (Nat.le_of_ble_eq_true rfl) ?_
  intro p e s m below meth c ls C0 hr hH hS hl
  have hl : lv_has ls 3 [(0, .ref (b + 0))] := hl
  have hI0 := hI
  obtain ⟨hsz, hbf, hsz6, hbf7, htk, hF, hQ, htk2, hG, hQ2, hPg, hpt, hrw⟩ := hI0
  have hL := Tf17.lin hF
  have hL2 := Tf48.lin hG
  have hBs : i 1 = i 1 ∧ F 3 = F 3 ∧ G = G := ⟨rfl, rfl, rfl⟩
  have L65 : ∀ (d : Nat) (k q : Int32) (iv Fv : Nat → Nat → Int32) (Gv : Nat → Nat → Int64) (H : Heap) (locs : List Loc) (ls : Array Slot), (0 ≤ k.toInt) → (q.toInt - k.toInt ≤ d) → (IC iv Fv) → (iv 1 = i 1 ∧ Fv 3 = F 3 ∧ Gv = G) → (q.toInt ≤ 600) → Hd D tA b 0 78 zz iv Fv Gv H → va_S (xA b 0 78) s.heap H locs → lv_has ls 3 [(2, .int k), (1, .int q), (0, .ref (b + 0))] → W p l e (xR 10 224) s m ([.ref (b + 0)] : List Value).toArray below meth c H locs 0 0 (MQ below (va_Qi (fun r u => IC u.1 u.2.1 ∧ u.1 1 = i 1 ∧ u.2.1 3 = F 3 ∧ u.2.2 = G) (xB D tA b 0 78 zz) (xA b 0 78)) ([.ref (b + 0)] : List Value).toArray s 0 0 (xA b 0 78)) (F0 m 65 ls []) := by
    intro d
    induction d with
    | zero =>
      intro k q iv Fv Gv H locs ls h1 h2 h3 h4 h5 hH hS hl
      have rg_k := fb_rng k
      have rg_q := fb_rng q
      have hI := h3
      have hBs := h4
      have hI0 := hI
      obtain ⟨hsz, hbf, hsz6, hbf7, htk, hF, hQ, htk2, hG, hQ2, hPg, hpt, hrw⟩ := hI0
      have hL := Tf17.lin hF
      have hL2 := Tf48.lin hG
      have ek12 : Int32.toInt (iv 1 2) = Int32.toInt (i 1 2) := congrArg Int32.toInt (congrFun hBs.1 2)
      refine lv_iload_n (pc := 65) C0.1 C0.2.1 dX9_parts_65 rfl (lv_at hl 0 rfl) ?_
      refine lv_iload_n (pc := 66) C0.1 C0.2.1 dX9_parts_66 rfl (lv_at hl 1 rfl) ?_
      refine lv_icmp_ge (pc := 67) (tgt := 138) C0.1 C0.2.1 dX9_parts_67 (by decide) (fun _ => ?_) (fun c => absurd (Int32.le_iff_toInt_le.mpr (by omega)) c)
      refine lv_aload_n (pc := 138) C0.1 C0.2.1 dX9_parts_138 rfl (lv_at hl 2 rfl) ?_
      refine xget (pc := 139) C0 hH 0 3 clX9 ⟨Nat.le_of_ble_eq_true rfl, Nat.le_of_ble_eq_true rfl⟩ ⟨rfl, rfl⟩ (Nat.le_of_ble_eq_true rfl) fl_X9_29 (v := .ref (b + 8)) rfl dX9_parts_139 ?_
      refine xget (pc := 142) C0 hH 8 0 clX4 ⟨Nat.le_of_ble_eq_true rfl, Nat.le_of_ble_eq_true rfl⟩ ⟨rfl, rfl⟩ (Nat.le_of_ble_eq_true rfl) fl_X9_118 (v := .ref (b + 9)) rfl dX9_parts_142 ?_
      refine xget (pc := 145) C0 hH 9 7 clX7 ⟨Nat.le_of_ble_eq_true rfl, Nat.le_of_ble_eq_true rfl⟩ ⟨rfl, rfl⟩ (Nat.le_of_ble_eq_true rfl) fl_X9_122 (v := .int (iv 9 7)) rfl dX9_parts_145 ?_
      refine lv_aload_n (pc := 148) C0.1 C0.2.1 dX9_parts_148 rfl (lv_at hl 2 rfl) ?_
      refine xget (pc := 149) C0 hH 0 4 clX9 ⟨Nat.le_of_ble_eq_true rfl, Nat.le_of_ble_eq_true rfl⟩ ⟨rfl, rfl⟩ (Nat.le_of_ble_eq_true rfl) fl_X9_33 (v := .ref (b + 39)) rfl dX9_parts_149 ?_
      refine xget (pc := 152) C0 hH 39 0 clX4 ⟨Nat.le_of_ble_eq_true rfl, Nat.le_of_ble_eq_true rfl⟩ ⟨rfl, rfl⟩ (Nat.le_of_ble_eq_true rfl) fl_X9_118 (v := .ref (b + 40)) rfl dX9_parts_152 ?_
      refine xget (pc := 155) C0 hH 40 7 clX7 ⟨Nat.le_of_ble_eq_true rfl, Nat.le_of_ble_eq_true rfl⟩ ⟨rfl, rfl⟩ (Nat.le_of_ble_eq_true rfl) fl_X9_122 (v := .int (iv 40 7)) rfl dX9_parts_155 ?_
      refine lv_icmp_ne (pc := 158) (tgt := 166) C0.1 C0.2.1 dX9_parts_158 (by decide) (fun c201 => ?_) (fun c201 => ?_)
      · have c201 : ¬ _ := fun q => c201 (Int32.toInt_inj.mp q)
        refine lv_iload_n (pc := 166) C0.1 C0.2.1 dX9_parts_166 rfl (lv_at hl 1 rfl) ?_
        exact xiret (pc := 167) C0 hr hH hS dX9_parts_167 ⟨hI, hBs⟩
      · have c201 := congrArg Int32.toInt c201
        refine lv_bipush (pc := 161) (v := (-9)) C0.1 C0.2.1 dX9_parts_161 (by decide) ?_
        refine lv_goto (pc := 163) (tgt := 167) C0.1 C0.2.1 dX9_parts_163 (by decide) ?_
        exact xiret (pc := 167) C0 hr hH hS dX9_parts_167 ⟨hI, hBs⟩
    | succ d ih65 =>
      intro k q iv Fv Gv H locs ls h1 h2 h3 h4 h5 hH hS hl
      have rg_k := fb_rng k
      have rg_q := fb_rng q
      have hI := h3
      have hBs := h4
      have hI0 := hI
      obtain ⟨hsz, hbf, hsz6, hbf7, htk, hF, hQ, htk2, hG, hQ2, hPg, hpt, hrw⟩ := hI0
      have hL := Tf17.lin hF
      have hL2 := Tf48.lin hG
      have ek12 : Int32.toInt (iv 1 2) = Int32.toInt (i 1 2) := congrArg Int32.toInt (congrFun hBs.1 2)
      refine lv_iload_n (pc := 65) C0.1 C0.2.1 dX9_parts_65 rfl (lv_at hl 0 rfl) ?_
      refine lv_iload_n (pc := 66) C0.1 C0.2.1 dX9_parts_66 rfl (lv_at hl 1 rfl) ?_
      refine lv_icmp_ge (pc := 67) (tgt := 138) C0.1 C0.2.1 dX9_parts_67 (by decide) (fun c201 => ?_) (fun c201 => ?_)
      · have c201 := Int32.le_iff_toInt_le.mp c201
        refine lv_aload_n (pc := 138) C0.1 C0.2.1 dX9_parts_138 rfl (lv_at hl 2 rfl) ?_
        refine xget (pc := 139) C0 hH 0 3 clX9 ⟨Nat.le_of_ble_eq_true rfl, Nat.le_of_ble_eq_true rfl⟩ ⟨rfl, rfl⟩ (Nat.le_of_ble_eq_true rfl) fl_X9_29 (v := .ref (b + 8)) rfl dX9_parts_139 ?_
        refine xget (pc := 142) C0 hH 8 0 clX4 ⟨Nat.le_of_ble_eq_true rfl, Nat.le_of_ble_eq_true rfl⟩ ⟨rfl, rfl⟩ (Nat.le_of_ble_eq_true rfl) fl_X9_118 (v := .ref (b + 9)) rfl dX9_parts_142 ?_
        refine xget (pc := 145) C0 hH 9 7 clX7 ⟨Nat.le_of_ble_eq_true rfl, Nat.le_of_ble_eq_true rfl⟩ ⟨rfl, rfl⟩ (Nat.le_of_ble_eq_true rfl) fl_X9_122 (v := .int (iv 9 7)) rfl dX9_parts_145 ?_
        refine lv_aload_n (pc := 148) C0.1 C0.2.1 dX9_parts_148 rfl (lv_at hl 2 rfl) ?_
        refine xget (pc := 149) C0 hH 0 4 clX9 ⟨Nat.le_of_ble_eq_true rfl, Nat.le_of_ble_eq_true rfl⟩ ⟨rfl, rfl⟩ (Nat.le_of_ble_eq_true rfl) fl_X9_33 (v := .ref (b + 39)) rfl dX9_parts_149 ?_
        refine xget (pc := 152) C0 hH 39 0 clX4 ⟨Nat.le_of_ble_eq_true rfl, Nat.le_of_ble_eq_true rfl⟩ ⟨rfl, rfl⟩ (Nat.le_of_ble_eq_true rfl) fl_X9_118 (v := .ref (b + 40)) rfl dX9_parts_152 ?_
        refine xget (pc := 155) C0 hH 40 7 clX7 ⟨Nat.le_of_ble_eq_true rfl, Nat.le_of_ble_eq_true rfl⟩ ⟨rfl, rfl⟩ (Nat.le_of_ble_eq_true rfl) fl_X9_122 (v := .int (iv 40 7)) rfl dX9_parts_155 ?_
        refine lv_icmp_ne (pc := 158) (tgt := 166) C0.1 C0.2.1 dX9_parts_158 (by decide) (fun c202 => ?_) (fun c202 => ?_)
        · have c202 : ¬ _ := fun q => c202 (Int32.toInt_inj.mp q)
          refine lv_iload_n (pc := 166) C0.1 C0.2.1 dX9_parts_166 rfl (lv_at hl 1 rfl) ?_
          exact xiret (pc := 167) C0 hr hH hS dX9_parts_167 ⟨hI, hBs⟩
        · have c202 := congrArg Int32.toInt c202
          refine lv_bipush (pc := 161) (v := (-9)) C0.1 C0.2.1 dX9_parts_161 (by decide) ?_
          refine lv_goto (pc := 163) (tgt := 167) C0.1 C0.2.1 dX9_parts_163 (by decide) ?_
          exact xiret (pc := 167) C0 hr hH hS dX9_parts_167 ⟨hI, hBs⟩
      · have c201 : ¬ _ := fun q => c201 (Int32.le_iff_toInt_le.mpr q)
        refine lv_aload_n (pc := 70) C0.1 C0.2.1 dX9_parts_70 rfl (lv_at hl 2 rfl) ?_
        refine lv_iload_n (pc := 71) C0.1 C0.2.1 dX9_parts_71 rfl (lv_at hl 0 rfl) ?_
        refine xcVI (pc := 72) 0 [.int k] (g_X9_sameToken l D tA b iv Fv Gv k hI) C0 hH hS clX9 rfl ⟨⟨Nat.le_of_ble_eq_true rfl, Nat.le_of_ble_eq_true rfl⟩, rfl, rfl⟩ cw_X9_265 rfl ⟨Nat.le_of_ble_eq_true rfl, Nat.le_of_ble_eq_true rfl⟩ hl.1 rfl (Nat.le_of_ble_eq_true rfl) dX9_parts_72 ⟨Nat.le_of_ble_eq_true rfl, Nat.le_of_ble_eq_true rfl⟩ (fun r203 ir203 Fr203 Gr203 _ locs hp hH hS => ?_)
        obtain ⟨hu, hpr203⟩ := hp
        cases hu
        refine lv_if_eq (pc := 75) (tgt := 130) C0.1 C0.2.1 dX9_parts_75 (by decide) (fun c204 => ?_) (fun c204 => ?_)
        · have : Int32.toInt 0 = 0 := rfl
          have c204 := congrArg Int32.toInt c204
          refine lv_iload_n (pc := 130) C0.1 C0.2.1 dX9_parts_130 rfl (lv_at hl 0 rfl) ?_
          exact xiret (pc := 131) C0 hr hH hS dX9_parts_131 ⟨hI, hBs⟩
        · have : Int32.toInt 0 = 0 := rfl
          have c204 : ¬ _ := fun q => c204 (Int32.toInt_inj.mp q)
          refine lv_aload_n (pc := 78) C0.1 C0.2.1 dX9_parts_78 rfl (lv_at hl 2 rfl) ?_
          refine xget (pc := 79) C0 hH 0 3 clX9 ⟨Nat.le_of_ble_eq_true rfl, Nat.le_of_ble_eq_true rfl⟩ ⟨rfl, rfl⟩ (Nat.le_of_ble_eq_true rfl) fl_X9_29 (v := .ref (b + 8)) rfl dX9_parts_79 ?_
          refine xget (pc := 82) C0 hH 8 1 clX4 ⟨Nat.le_of_ble_eq_true rfl, Nat.le_of_ble_eq_true rfl⟩ ⟨rfl, rfl⟩ (Nat.le_of_ble_eq_true rfl) fl_X9_133 (v := .ref (b + 17)) rfl dX9_parts_82 ?_
          refine xget (pc := 85) C0 hH 17 2 clX8 ⟨Nat.le_of_ble_eq_true rfl, Nat.le_of_ble_eq_true rfl⟩ ⟨rfl, rfl⟩ (Nat.le_of_ble_eq_true rfl) fl_X9_176 (v := .ref (b + 36)) rfl dX9_parts_85 ?_
          refine lv_iload_n (pc := 88) C0.1 C0.2.1 dX9_parts_88 rfl (lv_at hl 0 rfl) ?_
          refine xiald (pc := 89) (N := 600) C0 hH 36 ⟨Nat.le_of_ble_eq_true rfl, Nat.le_of_ble_eq_true rfl⟩ ⟨rfl, rfl⟩ (vI (by omega) (by omega)) dX9_parts_89 ?_
          refine lv_aload_n (pc := 90) C0.1 C0.2.1 dX9_parts_90 rfl (lv_at hl 2 rfl) ?_
          refine xget (pc := 91) C0 hH 0 4 clX9 ⟨Nat.le_of_ble_eq_true rfl, Nat.le_of_ble_eq_true rfl⟩ ⟨rfl, rfl⟩ (Nat.le_of_ble_eq_true rfl) fl_X9_33 (v := .ref (b + 39)) rfl dX9_parts_91 ?_
          refine xget (pc := 94) C0 hH 39 1 clX4 ⟨Nat.le_of_ble_eq_true rfl, Nat.le_of_ble_eq_true rfl⟩ ⟨rfl, rfl⟩ (Nat.le_of_ble_eq_true rfl) fl_X9_133 (v := .ref (b + 48)) rfl dX9_parts_94 ?_
          refine xget (pc := 97) C0 hH 48 2 clX8 ⟨Nat.le_of_ble_eq_true rfl, Nat.le_of_ble_eq_true rfl⟩ ⟨rfl, rfl⟩ (Nat.le_of_ble_eq_true rfl) fl_X9_176 (v := .ref (b + 67)) rfl dX9_parts_97 ?_
          refine lv_iload_n (pc := 100) C0.1 C0.2.1 dX9_parts_100 rfl (lv_at hl 0 rfl) ?_
          refine xiald (pc := 101) (N := 600) C0 hH 67 ⟨Nat.le_of_ble_eq_true rfl, Nat.le_of_ble_eq_true rfl⟩ ⟨rfl, rfl⟩ (vI (by omega) (by omega)) dX9_parts_101 ?_
          refine lv_icmp_ne (pc := 102) (tgt := 130) C0.1 C0.2.1 dX9_parts_102 (by decide) (fun c205 => ?_) (fun c205 => ?_)
          · have c205 : ¬ _ := fun q => c205 (Int32.toInt_inj.mp q)
            refine lv_iload_n (pc := 130) C0.1 C0.2.1 dX9_parts_130 rfl (lv_at hl 0 rfl) ?_
            exact xiret (pc := 131) C0 hr hH hS dX9_parts_131 ⟨hI, hBs⟩
          · have c205 := congrArg Int32.toInt c205
            refine lv_aload_n (pc := 105) C0.1 C0.2.1 dX9_parts_105 rfl (lv_at hl 2 rfl) ?_
            refine xget (pc := 106) C0 hH 0 3 clX9 ⟨Nat.le_of_ble_eq_true rfl, Nat.le_of_ble_eq_true rfl⟩ ⟨rfl, rfl⟩ (Nat.le_of_ble_eq_true rfl) fl_X9_29 (v := .ref (b + 8)) rfl dX9_parts_106 ?_
            refine xget (pc := 109) C0 hH 8 1 clX4 ⟨Nat.le_of_ble_eq_true rfl, Nat.le_of_ble_eq_true rfl⟩ ⟨rfl, rfl⟩ (Nat.le_of_ble_eq_true rfl) fl_X9_133 (v := .ref (b + 17)) rfl dX9_parts_109 ?_
            refine lv_iload_n (pc := 112) C0.1 C0.2.1 dX9_parts_112 rfl (lv_at hl 0 rfl) ?_
            refine xcVI (pc := 113) 17 [.int k] (g_X8_blockOf_17 l D tA b iv Fv Gv k hF) C0 hH hS clX8 rfl ⟨⟨Nat.le_of_ble_eq_true rfl, Nat.le_of_ble_eq_true rfl⟩, rfl, rfl⟩ cw_X9_179 rfl ⟨Nat.le_of_ble_eq_true rfl, Nat.le_of_ble_eq_true rfl⟩ hl.1 rfl (Nat.le_of_ble_eq_true rfl) dX9_parts_113 ⟨Nat.le_of_ble_eq_true rfl, Nat.le_of_ble_eq_true rfl⟩ (fun r206 ir206 Fr206 Gr206 _ locs hp hH hS => ?_)
            obtain ⟨hu, hpr206⟩ := hp
            cases hu
            refine lv_aload_n (pc := 116) C0.1 C0.2.1 dX9_parts_116 rfl (lv_at hl 2 rfl) ?_
            refine xget (pc := 117) C0 hH 0 4 clX9 ⟨Nat.le_of_ble_eq_true rfl, Nat.le_of_ble_eq_true rfl⟩ ⟨rfl, rfl⟩ (Nat.le_of_ble_eq_true rfl) fl_X9_33 (v := .ref (b + 39)) rfl dX9_parts_117 ?_
            refine xget (pc := 120) C0 hH 39 1 clX4 ⟨Nat.le_of_ble_eq_true rfl, Nat.le_of_ble_eq_true rfl⟩ ⟨rfl, rfl⟩ (Nat.le_of_ble_eq_true rfl) fl_X9_133 (v := .ref (b + 48)) rfl dX9_parts_120 ?_
            refine lv_iload_n (pc := 123) C0.1 C0.2.1 dX9_parts_123 rfl (lv_at hl 0 rfl) ?_
            refine xcVI (pc := 124) 48 [.int k] (g_X8_blockOf_48 l D tA b iv Fv Gv k hG) C0 hH hS clX8 rfl ⟨⟨Nat.le_of_ble_eq_true rfl, Nat.le_of_ble_eq_true rfl⟩, rfl, rfl⟩ cw_X9_179 rfl ⟨Nat.le_of_ble_eq_true rfl, Nat.le_of_ble_eq_true rfl⟩ hl.1 rfl (Nat.le_of_ble_eq_true rfl) dX9_parts_124 ⟨Nat.le_of_ble_eq_true rfl, Nat.le_of_ble_eq_true rfl⟩ (fun r207 ir207 Fr207 Gr207 _ locs hp hH hS => ?_)
            obtain ⟨hu, hpr207⟩ := hp
            cases hu
            refine lv_icmp_eq (pc := 127) (tgt := 132) C0.1 C0.2.1 dX9_parts_127 (by decide) (fun c208 => ?_) (fun c208 => ?_)
            · have c208 := congrArg Int32.toInt c208
              obtain ⟨x209, ex209⟩ : ∃ y_ : Int32, y_ = k + 1 := ⟨_, rfl⟩
              have : Int32.toInt 1 = 1 := rfl
              have hx209 : Int32.toInt x209 = Int32.toInt k + Int32.toInt 1 := by rw [ex209]; exact fb_addI (by omega) (by omega)
              refine lv_iinc (pc := 132) (v := x209) (lv' := [(2, .int x209), (1, .int q), (0, .ref (b + 0))]) C0.1 C0.2.1 dX9_parts_132 hl (k := 0) rfl (by rw [ex209]; rfl) (by decide) rfl (fun ls hl => ?_)
              refine lv_goto (pc := 135) (tgt := 65) C0.1 C0.2.1 dX9_parts_135 (by decide) ?_
              exact ih65 x209 q iv Fv Gv _ _ _ (by omega) (by omega) hI hBs h5 hH hS (lv_sub hl [0, 1, 2] rfl)
            · have c208 : ¬ _ := fun q => c208 (Int32.toInt_inj.mp q)
              refine lv_iload_n (pc := 130) C0.1 C0.2.1 dX9_parts_130 rfl (lv_at hl 0 rfl) ?_
              exact xiret (pc := 131) C0 hr hH hS dX9_parts_131 ⟨hI, hBs⟩
  refine lv_aload_n (pc := 0) C0.1 C0.2.1 dX9_parts_0 rfl (lv_at hl 0 rfl) ?_
  refine xget (pc := 1) C0 hH 0 8 clX9 ⟨Nat.le_of_ble_eq_true rfl, Nat.le_of_ble_eq_true rfl⟩ ⟨rfl, rfl⟩ (Nat.le_of_ble_eq_true rfl) fl_X9_53 (v := .int (i 0 8)) rfl dX9_parts_1 ?_
  refine lv_iconst (pc := 4) (v := 1) C0.1 C0.2.1 dX9_parts_4 (by decide) ?_
  refine lv_icmp_eq (pc := 5) (tgt := 11) C0.1 C0.2.1 dX9_parts_5 (by decide) (fun c1 => ?_) (fun c1 => ?_)
  · have : Int32.toInt 1 = 1 := rfl
    have c1 := congrArg Int32.toInt c1
    refine lv_aload_n (pc := 11) C0.1 C0.2.1 dX9_parts_11 rfl (lv_at hl 0 rfl) ?_
    refine xget (pc := 12) C0 hH 0 4 clX9 ⟨Nat.le_of_ble_eq_true rfl, Nat.le_of_ble_eq_true rfl⟩ ⟨rfl, rfl⟩ (Nat.le_of_ble_eq_true rfl) fl_X9_33 (v := .ref (b + 39)) rfl dX9_parts_12 ?_
    refine lv_aload_n (pc := 15) C0.1 C0.2.1 dX9_parts_15 rfl (lv_at hl 0 rfl) ?_
    refine xget (pc := 16) C0 hH 0 2 clX9 ⟨Nat.le_of_ble_eq_true rfl, Nat.le_of_ble_eq_true rfl⟩ ⟨rfl, rfl⟩ (Nat.le_of_ble_eq_true rfl) fl_X9_23 (v := .ref (b + 6)) rfl dX9_parts_16 ?_
    refine lv_aload_n (pc := 19) C0.1 C0.2.1 dX9_parts_19 rfl (lv_at hl 0 rfl) ?_
    refine xget (pc := 20) C0 hH 0 0 clX9 ⟨Nat.le_of_ble_eq_true rfl, Nat.le_of_ble_eq_true rfl⟩ ⟨rfl, rfl⟩ (Nat.le_of_ble_eq_true rfl) fl_X9_12 (v := .ref (b + 1)) rfl dX9_parts_20 ?_
    refine xcVV (pc := 23) 39 [.ref (b + 6), .ref (b + 1)] (g_X4_make_39 l D tA b i F G  hsz6 (show 0 ≤ Int32.toInt (i 1 2) ∧ Int32.toInt (i 1 2) ≤ 24 from by omega) hG hQ2) C0 hH hS clX4 rfl ⟨⟨Nat.le_of_ble_eq_true rfl, Nat.le_of_ble_eq_true rfl⟩, rfl, rfl⟩ cw_X9_108 rfl ⟨Nat.le_of_ble_eq_true rfl, Nat.le_of_ble_eq_true rfl⟩ hl.1 rfl (Nat.le_of_ble_eq_true rfl) dX9_parts_23 ⟨Nat.le_of_ble_eq_true rfl, Nat.le_of_ble_eq_true rfl⟩ (fun ir2 Fr2 Gr2 _ locs hp hH hS => ?_)
    obtain ⟨honr2, a1r2, a2r2, a3r2⟩ := hp
    have hI : IC ir2 Fr2 := IC.o (i := i) (F := F) hI honr2 a1r2 a2r2 a3r2
    have hBs : ir2 1 = i 1 ∧ Fr2 3 = F 3 ∧ Gr2 = G := ⟨(honr2.1 1 (by decide)).1.trans hBs.1, (honr2.1 3 (by decide)).2.trans hBs.2.1, honr2.2.trans hBs.2.2⟩
    have hI0 := hI
    obtain ⟨hsz, hbf, hsz6, hbf7, htk, hF, hQ, htk2, hG, hQ2, hPg, hpt, hrw⟩ := hI0
    have hL := Tf17.lin hF
    have hL2 := Tf48.lin hG
    have ek_1_2r2 : Int32.toInt (ir2 1 2) = Int32.toInt (i 1 2) := congrArg Int32.toInt (congrFun (honr2.1 1 (by decide)).1 2)
    refine lv_aload_n (pc := 26) C0.1 C0.2.1 dX9_parts_26 rfl (lv_at hl 0 rfl) ?_
    refine xget (pc := 27) C0 hH 0 4 clX9 ⟨Nat.le_of_ble_eq_true rfl, Nat.le_of_ble_eq_true rfl⟩ ⟨rfl, rfl⟩ (Nat.le_of_ble_eq_true rfl) fl_X9_33 (v := .ref (b + 39)) rfl dX9_parts_27 ?_
    refine xget (pc := 30) C0 hH 39 2 clX4 ⟨Nat.le_of_ble_eq_true rfl, Nat.le_of_ble_eq_true rfl⟩ ⟨rfl, rfl⟩ (Nat.le_of_ble_eq_true rfl) fl_X9_112 (v := .int (ir2 39 2)) rfl dX9_parts_30 ?_
    refine lv_if_eq (pc := 33) (tgt := 39) C0.1 C0.2.1 dX9_parts_33 (by decide) (fun c3 => ?_) (fun c3 => ?_)
    · have : Int32.toInt 0 = 0 := rfl
      have c3 := congrArg Int32.toInt c3
      refine lv_aload_n (pc := 39) C0.1 C0.2.1 dX9_parts_39 rfl (lv_at hl 0 rfl) ?_
      refine xget (pc := 40) C0 hH 0 3 clX9 ⟨Nat.le_of_ble_eq_true rfl, Nat.le_of_ble_eq_true rfl⟩ ⟨rfl, rfl⟩ (Nat.le_of_ble_eq_true rfl) fl_X9_29 (v := .ref (b + 8)) rfl dX9_parts_40 ?_
      refine xget (pc := 43) C0 hH 8 0 clX4 ⟨Nat.le_of_ble_eq_true rfl, Nat.le_of_ble_eq_true rfl⟩ ⟨rfl, rfl⟩ (Nat.le_of_ble_eq_true rfl) fl_X9_118 (v := .ref (b + 9)) rfl dX9_parts_43 ?_
      refine xget (pc := 46) C0 hH 9 7 clX7 ⟨Nat.le_of_ble_eq_true rfl, Nat.le_of_ble_eq_true rfl⟩ ⟨rfl, rfl⟩ (Nat.le_of_ble_eq_true rfl) fl_X9_122 (v := .int (ir2 9 7)) rfl dX9_parts_46 ?_
      refine lv_aload_n (pc := 49) C0.1 C0.2.1 dX9_parts_49 rfl (lv_at hl 0 rfl) ?_
      refine xget (pc := 50) C0 hH 0 4 clX9 ⟨Nat.le_of_ble_eq_true rfl, Nat.le_of_ble_eq_true rfl⟩ ⟨rfl, rfl⟩ (Nat.le_of_ble_eq_true rfl) fl_X9_33 (v := .ref (b + 39)) rfl dX9_parts_50 ?_
      refine xget (pc := 53) C0 hH 39 0 clX4 ⟨Nat.le_of_ble_eq_true rfl, Nat.le_of_ble_eq_true rfl⟩ ⟨rfl, rfl⟩ (Nat.le_of_ble_eq_true rfl) fl_X9_118 (v := .ref (b + 40)) rfl dX9_parts_53 ?_
      refine xget (pc := 56) C0 hH 40 7 clX7 ⟨Nat.le_of_ble_eq_true rfl, Nat.le_of_ble_eq_true rfl⟩ ⟨rfl, rfl⟩ (Nat.le_of_ble_eq_true rfl) fl_X9_122 (v := .int (ir2 40 7)) rfl dX9_parts_56 ?_
      refine va_mmin (pc := 59) C0.1 C0.2.1 (C0.2.2.1.trans hl.1.symm) C0.2.2.2.1 (C0.2.2.2.2.1 _ mm_X9_260.1) (C0.2.2.2.2.1 _ mm_X9_260.2.1) (C0.2.2.2.2.1 _ mm_X9_260.2.2.1) (C0.2.2.2.2.1 _ mm_X9_260.2.2.2) (Nat.le_of_ble_eq_true rfl) (Nat.le_of_ble_eq_true rfl) (Nat.le_of_ble_eq_true rfl) (Nat.le_of_ble_eq_true rfl) dX9_parts_59 ?_
      refine lv_topi (fun x4 ex4 => ?_)
      refine lv_istore_n (pc := 62) (lv' := [(1, .int x4), (0, .ref (b + 0))]) C0.1 C0.2.1 dX9_parts_62 rfl hl (by decide) rfl (fun ls hl => ?_)
      refine lv_iconst (pc := 63) (v := 0) C0.1 C0.2.1 dX9_parts_63 (by decide) ?_
      refine lv_istore_n (pc := 64) (lv' := [(2, .int 0), (1, .int x4), (0, .ref (b + 0))]) C0.1 C0.2.1 dX9_parts_64 rfl hl (by decide) rfl (fun ls hl => ?_)
      exact L65 600 0 x4 ir2 Fr2 Gr2 _ _ _ (by have : Int32.toInt 0 = 0 := rfl; omega) (by have hmn := mnI (ir2 9 7) (ir2 40 7); rw [← ex4] at hmn; have : Int32.toInt 0 = 0 := rfl; omega) hI hBs (by have hmn := mnI (ir2 9 7) (ir2 40 7); rw [← ex4] at hmn; have : Int32.toInt 0 = 0 := rfl; omega) hH hS (lv_sub hl [0, 1, 2] rfl)
    · have : Int32.toInt 0 = 0 := rfl
      have c3 : ¬ _ := fun q => c3 (Int32.toInt_inj.mp q)
      refine lv_bipush (pc := 36) (v := (-3)) C0.1 C0.2.1 dX9_parts_36 (by decide) ?_
      exact xiret (pc := 38) C0 hr hH hS dX9_parts_38 ⟨hI, hBs⟩
  · have : Int32.toInt 1 = 1 := rfl
    have c1 : ¬ _ := fun q => c1 (Int32.toInt_inj.mp q)
    refine lv_bipush (pc := 8) (v := (-3)) C0.1 C0.2.1 dX9_parts_8 (by decide) ?_
    exact xiret (pc := 10) C0 hr hH hS dX9_parts_10 ⟨hI, hBs⟩
set_option maxHeartbeats 4000000 in
set_option maxRecDepth 100000 in
theorem g_X9_deepen (l : Launch) (D : va_G) (tA : Nat → ClassId) (b : Nat) (i F : Nat → Nat → Int32) (G : Nat → Nat → Int64)  (hI : IC i F) (htd : 0 ≤ (i 1 2).toInt ∧ (i 1 2).toInt ≤ 24) : xMI l yX9_deepen cX9_deepen 3 (some .int) 3 65 D tA b 0 78 i F G [.ref (b + 0)] (fun r u => IC u.1 u.2.1 ∧ u.1 1 = i 1 ∧ u.2.1 3 = F 3 ∧ u.2.2 = G) := by
  refine xstart RX9 rfl (by decide) (Nat.le_of_ble_eq_true rfl) ?_
  intro p e s m below meth c ls C0 hr hH hS hl
  have hl : lv_has ls 3 [(0, .ref (b + 0))] := hl
  have hI0 := hI
  obtain ⟨hsz, hbf, hsz6, hbf7, htk, hF, hQ, htk2, hG, hQ2, hPg, hpt, hrw⟩ := hI0
  have hL := Tf17.lin hF
  have hL2 := Tf48.lin hG
  have hBs : i 1 = i 1 ∧ F 3 = F 3 ∧ G = G := ⟨rfl, rfl, rfl⟩
  have L31 : ∀ (d : Nat) (k q : Int32) (iv Fv : Nat → Nat → Int32) (Gv : Nat → Nat → Int64) (H : Heap) (locs : List Loc) (ls : Array Slot), (0 ≤ k.toInt) → (q.toInt - k.toInt ≤ d) → (IC iv Fv) → (iv 1 = i 1 ∧ Fv 3 = F 3 ∧ Gv = G) → (q.toInt ≤ 200) → Hd D tA b 0 78 zz iv Fv Gv H → va_S (xA b 0 78) s.heap H locs → lv_has ls 3 [(2, .int k), (1, .int q), (0, .ref (b + 0))] → W p l e (xR 3 65) s m ([.ref (b + 0)] : List Value).toArray below meth c H locs 0 0 (MQ below (va_Qi (fun r u => IC u.1 u.2.1 ∧ u.1 1 = i 1 ∧ u.2.1 3 = F 3 ∧ u.2.2 = G) (xB D tA b 0 78 zz) (xA b 0 78)) ([.ref (b + 0)] : List Value).toArray s 0 0 (xA b 0 78)) (F0 m 31 ls []) := by
    intro d
    induction d with
    | zero =>
      intro k q iv Fv Gv H locs ls h1 h2 h3 h4 h5 hH hS hl
      have rg_k := fb_rng k
      have rg_q := fb_rng q
      have hI := h3
      have hBs := h4
      have hI0 := hI
      obtain ⟨hsz, hbf, hsz6, hbf7, htk, hF, hQ, htk2, hG, hQ2, hPg, hpt, hrw⟩ := hI0
      have hL := Tf17.lin hF
      have hL2 := Tf48.lin hG
      have ek12 : Int32.toInt (iv 1 2) = Int32.toInt (i 1 2) := congrArg Int32.toInt (congrFun hBs.1 2)
      refine lv_iload_n (pc := 31) C0.1 C0.2.1 dX9_deepen_31 rfl (lv_at hl 0 rfl) ?_
      refine lv_iload_n (pc := 32) C0.1 C0.2.1 dX9_deepen_32 rfl (lv_at hl 1 rfl) ?_
      refine lv_icmp_ge (pc := 33) (tgt := 59) C0.1 C0.2.1 dX9_deepen_33 (by decide) (fun _ => ?_) (fun c => absurd (Int32.le_iff_toInt_le.mpr (by omega)) c)
      refine lv_iload_n (pc := 59) C0.1 C0.2.1 dX9_deepen_59 rfl (lv_at hl 1 rfl) ?_
      refine lv_aload_n (pc := 60) C0.1 C0.2.1 dX9_deepen_60 rfl (lv_at hl 2 rfl) ?_
      refine xget (pc := 61) C0 hH 0 3 clX9 ⟨Nat.le_of_ble_eq_true rfl, Nat.le_of_ble_eq_true rfl⟩ ⟨rfl, rfl⟩ (Nat.le_of_ble_eq_true rfl) fl_X9_29 (v := .ref (b + 8)) rfl dX9_deepen_61 ?_
      refine xget (pc := 64) C0 hH 8 0 clX4 ⟨Nat.le_of_ble_eq_true rfl, Nat.le_of_ble_eq_true rfl⟩ ⟨rfl, rfl⟩ (Nat.le_of_ble_eq_true rfl) fl_X9_118 (v := .ref (b + 9)) rfl dX9_deepen_64 ?_
      refine xget (pc := 67) C0 hH 9 7 clX7 ⟨Nat.le_of_ble_eq_true rfl, Nat.le_of_ble_eq_true rfl⟩ ⟨rfl, rfl⟩ (Nat.le_of_ble_eq_true rfl) fl_X9_122 (v := .int (iv 9 7)) rfl dX9_deepen_67 ?_
      refine lv_icmp_ge (pc := 70) (tgt := 78) C0.1 C0.2.1 dX9_deepen_70 (by decide) (fun c201 => ?_) (fun c201 => ?_)
      · have c201 := Int32.le_iff_toInt_le.mp c201
        refine lv_iload_n (pc := 78) C0.1 C0.2.1 dX9_deepen_78 rfl (lv_at hl 1 rfl) ?_
        exact xiret (pc := 79) C0 hr hH hS dX9_deepen_79 ⟨hI, hBs⟩
      · have c201 : ¬ _ := fun q => c201 (Int32.le_iff_toInt_le.mpr q)
        refine lv_bipush (pc := 73) (v := (-12)) C0.1 C0.2.1 dX9_deepen_73 (by decide) ?_
        refine lv_goto (pc := 75) (tgt := 79) C0.1 C0.2.1 dX9_deepen_75 (by decide) ?_
        exact xiret (pc := 79) C0 hr hH hS dX9_deepen_79 ⟨hI, hBs⟩
    | succ d ih31 =>
      intro k q iv Fv Gv H locs ls h1 h2 h3 h4 h5 hH hS hl
      have rg_k := fb_rng k
      have rg_q := fb_rng q
      have hI := h3
      have hBs := h4
      have hI0 := hI
      obtain ⟨hsz, hbf, hsz6, hbf7, htk, hF, hQ, htk2, hG, hQ2, hPg, hpt, hrw⟩ := hI0
      have hL := Tf17.lin hF
      have hL2 := Tf48.lin hG
      have ek12 : Int32.toInt (iv 1 2) = Int32.toInt (i 1 2) := congrArg Int32.toInt (congrFun hBs.1 2)
      refine lv_iload_n (pc := 31) C0.1 C0.2.1 dX9_deepen_31 rfl (lv_at hl 0 rfl) ?_
      refine lv_iload_n (pc := 32) C0.1 C0.2.1 dX9_deepen_32 rfl (lv_at hl 1 rfl) ?_
      refine lv_icmp_ge (pc := 33) (tgt := 59) C0.1 C0.2.1 dX9_deepen_33 (by decide) (fun c201 => ?_) (fun c201 => ?_)
      · have c201 := Int32.le_iff_toInt_le.mp c201
        refine lv_iload_n (pc := 59) C0.1 C0.2.1 dX9_deepen_59 rfl (lv_at hl 1 rfl) ?_
        refine lv_aload_n (pc := 60) C0.1 C0.2.1 dX9_deepen_60 rfl (lv_at hl 2 rfl) ?_
        refine xget (pc := 61) C0 hH 0 3 clX9 ⟨Nat.le_of_ble_eq_true rfl, Nat.le_of_ble_eq_true rfl⟩ ⟨rfl, rfl⟩ (Nat.le_of_ble_eq_true rfl) fl_X9_29 (v := .ref (b + 8)) rfl dX9_deepen_61 ?_
        refine xget (pc := 64) C0 hH 8 0 clX4 ⟨Nat.le_of_ble_eq_true rfl, Nat.le_of_ble_eq_true rfl⟩ ⟨rfl, rfl⟩ (Nat.le_of_ble_eq_true rfl) fl_X9_118 (v := .ref (b + 9)) rfl dX9_deepen_64 ?_
        refine xget (pc := 67) C0 hH 9 7 clX7 ⟨Nat.le_of_ble_eq_true rfl, Nat.le_of_ble_eq_true rfl⟩ ⟨rfl, rfl⟩ (Nat.le_of_ble_eq_true rfl) fl_X9_122 (v := .int (iv 9 7)) rfl dX9_deepen_67 ?_
        refine lv_icmp_ge (pc := 70) (tgt := 78) C0.1 C0.2.1 dX9_deepen_70 (by decide) (fun c202 => ?_) (fun c202 => ?_)
        · have c202 := Int32.le_iff_toInt_le.mp c202
          refine lv_iload_n (pc := 78) C0.1 C0.2.1 dX9_deepen_78 rfl (lv_at hl 1 rfl) ?_
          exact xiret (pc := 79) C0 hr hH hS dX9_deepen_79 ⟨hI, hBs⟩
        · have c202 : ¬ _ := fun q => c202 (Int32.le_iff_toInt_le.mpr q)
          refine lv_bipush (pc := 73) (v := (-12)) C0.1 C0.2.1 dX9_deepen_73 (by decide) ?_
          refine lv_goto (pc := 75) (tgt := 79) C0.1 C0.2.1 dX9_deepen_75 (by decide) ?_
          exact xiret (pc := 79) C0 hr hH hS dX9_deepen_79 ⟨hI, hBs⟩
      · have c201 : ¬ _ := fun q => c201 (Int32.le_iff_toInt_le.mpr q)
        refine lv_aload_n (pc := 36) C0.1 C0.2.1 dX9_deepen_36 rfl (lv_at hl 2 rfl) ?_
        refine xget (pc := 37) C0 hH 0 12 clX9 ⟨Nat.le_of_ble_eq_true rfl, Nat.le_of_ble_eq_true rfl⟩ ⟨rfl, rfl⟩ (Nat.le_of_ble_eq_true rfl) fl_X9_63 (v := .ref (b + 77)) rfl dX9_deepen_37 ?_
        refine lv_iload_n (pc := 40) C0.1 C0.2.1 dX9_deepen_40 rfl (lv_at hl 0 rfl) ?_
        refine lv_aload_n (pc := 41) C0.1 C0.2.1 dX9_deepen_41 rfl (lv_at hl 2 rfl) ?_
        refine xget (pc := 42) C0 hH 0 3 clX9 ⟨Nat.le_of_ble_eq_true rfl, Nat.le_of_ble_eq_true rfl⟩ ⟨rfl, rfl⟩ (Nat.le_of_ble_eq_true rfl) fl_X9_29 (v := .ref (b + 8)) rfl dX9_deepen_42 ?_
        refine xget (pc := 45) C0 hH 8 1 clX4 ⟨Nat.le_of_ble_eq_true rfl, Nat.le_of_ble_eq_true rfl⟩ ⟨rfl, rfl⟩ (Nat.le_of_ble_eq_true rfl) fl_X9_133 (v := .ref (b + 17)) rfl dX9_deepen_45 ?_
        refine lv_iload_n (pc := 48) C0.1 C0.2.1 dX9_deepen_48 rfl (lv_at hl 0 rfl) ?_
        refine xcVI (pc := 49) 17 [.int k] (g_X8_depthOf_17 l D tA b iv Fv Gv k hF) C0 hH hS clX8 rfl ⟨⟨Nat.le_of_ble_eq_true rfl, Nat.le_of_ble_eq_true rfl⟩, rfl, rfl⟩ cw_X9_283 rfl ⟨Nat.le_of_ble_eq_true rfl, Nat.le_of_ble_eq_true rfl⟩ hl.1 rfl (Nat.le_of_ble_eq_true rfl) dX9_deepen_49 ⟨Nat.le_of_ble_eq_true rfl, Nat.le_of_ble_eq_true rfl⟩ (fun r203 ir203 Fr203 Gr203 _ locs hp hH hS => ?_)
        obtain ⟨hu, hpr203⟩ := hp
        cases hu
        refine xiast (pc := 52) (N := 200) C0 (Nat.le_of_ble_eq_true rfl) hH hS 77 ⟨Nat.le_of_ble_eq_true rfl, Nat.le_of_ble_eq_true rfl⟩ ⟨rfl, rfl⟩ (vI (by omega) (by omega)) dX9_deepen_52 (fun _ locs hH hS _ => ?_)
        have hH : Hd D tA b 0 78 zz iv (va_up Fv 77 (upd (Fv 77) (Int32.toNatClampNeg k) r203)) Gv _ := hH
        obtain ⟨x204, ex204⟩ : ∃ y_ : Int32, y_ = k + 1 := ⟨_, rfl⟩
        have : Int32.toInt 1 = 1 := rfl
        have hx204 : Int32.toInt x204 = Int32.toInt k + Int32.toInt 1 := by rw [ex204]; exact fb_addI (by omega) (by omega)
        refine lv_iinc (pc := 53) (v := x204) (lv' := [(2, .int x204), (1, .int q), (0, .ref (b + 0))]) C0.1 C0.2.1 dX9_deepen_53 hl (k := 0) rfl (by rw [ex204]; rfl) (by decide) rfl (fun ls hl => ?_)
        refine lv_goto (pc := 56) (tgt := 31) C0.1 C0.2.1 dX9_deepen_56 (by decide) ?_
        exact ih31 x204 q iv (va_up Fv 77 (upd (Fv 77) (Int32.toNatClampNeg k) r203)) Gv _ _ _ (by omega) (by omega) hI hBs h5 hH hS (lv_sub hl [0, 1, 2] rfl)
  refine lv_aload_n (pc := 0) C0.1 C0.2.1 dX9_deepen_0 rfl (lv_at hl 0 rfl) ?_
  refine xget (pc := 1) C0 hH 0 8 clX9 ⟨Nat.le_of_ble_eq_true rfl, Nat.le_of_ble_eq_true rfl⟩ ⟨rfl, rfl⟩ (Nat.le_of_ble_eq_true rfl) fl_X9_53 (v := .int (i 0 8)) rfl dX9_deepen_1 ?_
  refine lv_iconst (pc := 4) (v := 1) C0.1 C0.2.1 dX9_deepen_4 (by decide) ?_
  refine lv_icmp_eq (pc := 5) (tgt := 11) C0.1 C0.2.1 dX9_deepen_5 (by decide) (fun c1 => ?_) (fun c1 => ?_)
  · have : Int32.toInt 1 = 1 := rfl
    have c1 := congrArg Int32.toInt c1
    refine lv_aload_n (pc := 11) C0.1 C0.2.1 dX9_deepen_11 rfl (lv_at hl 0 rfl) ?_
    refine xget (pc := 12) C0 hH 0 13 clX9 ⟨Nat.le_of_ble_eq_true rfl, Nat.le_of_ble_eq_true rfl⟩ ⟨rfl, rfl⟩ (Nat.le_of_ble_eq_true rfl) fl_X9_280 (v := .int (i 0 13)) rfl dX9_deepen_12 ?_
    refine lv_aload_n (pc := 15) C0.1 C0.2.1 dX9_deepen_15 rfl (lv_at hl 0 rfl) ?_
    refine xget (pc := 16) C0 hH 0 3 clX9 ⟨Nat.le_of_ble_eq_true rfl, Nat.le_of_ble_eq_true rfl⟩ ⟨rfl, rfl⟩ (Nat.le_of_ble_eq_true rfl) fl_X9_29 (v := .ref (b + 8)) rfl dX9_deepen_16 ?_
    refine xget (pc := 19) C0 hH 8 0 clX4 ⟨Nat.le_of_ble_eq_true rfl, Nat.le_of_ble_eq_true rfl⟩ ⟨rfl, rfl⟩ (Nat.le_of_ble_eq_true rfl) fl_X9_118 (v := .ref (b + 9)) rfl dX9_deepen_19 ?_
    refine xget (pc := 22) C0 hH 9 7 clX7 ⟨Nat.le_of_ble_eq_true rfl, Nat.le_of_ble_eq_true rfl⟩ ⟨rfl, rfl⟩ (Nat.le_of_ble_eq_true rfl) fl_X9_122 (v := .int (i 9 7)) rfl dX9_deepen_22 ?_
    refine va_mmin (pc := 25) C0.1 C0.2.1 (C0.2.2.1.trans hl.1.symm) C0.2.2.2.1 (C0.2.2.2.2.1 _ mm_X9_260.1) (C0.2.2.2.2.1 _ mm_X9_260.2.1) (C0.2.2.2.2.1 _ mm_X9_260.2.2.1) (C0.2.2.2.2.1 _ mm_X9_260.2.2.2) (Nat.le_of_ble_eq_true rfl) (Nat.le_of_ble_eq_true rfl) (Nat.le_of_ble_eq_true rfl) (Nat.le_of_ble_eq_true rfl) dX9_deepen_25 ?_
    refine lv_topi (fun x2 ex2 => ?_)
    refine lv_istore_n (pc := 28) (lv' := [(1, .int x2), (0, .ref (b + 0))]) C0.1 C0.2.1 dX9_deepen_28 rfl hl (by decide) rfl (fun ls hl => ?_)
    refine lv_iconst (pc := 29) (v := 0) C0.1 C0.2.1 dX9_deepen_29 (by decide) ?_
    refine lv_istore_n (pc := 30) (lv' := [(2, .int 0), (1, .int x2), (0, .ref (b + 0))]) C0.1 C0.2.1 dX9_deepen_30 rfl hl (by decide) rfl (fun ls hl => ?_)
    exact L31 200 0 x2 i F G _ _ _ (by have : Int32.toInt 0 = 0 := rfl; omega) (by have hmn := mnI (i 0 13) (i 9 7); rw [← ex2] at hmn; have : Int32.toInt 0 = 0 := rfl; omega) hI hBs (by have hmn := mnI (i 0 13) (i 9 7); rw [← ex2] at hmn; have : Int32.toInt 0 = 0 := rfl; omega) hH hS (lv_sub hl [0, 1, 2] rfl)
  · have : Int32.toInt 1 = 1 := rfl
    have c1 : ¬ _ := fun q => c1 (Int32.toInt_inj.mp q)
    refine lv_bipush (pc := 8) (v := (-3)) C0.1 C0.2.1 dX9_deepen_8 (by decide) ?_
    exact xiret (pc := 10) C0 hr hH hS dX9_deepen_10 ⟨hI, hBs⟩
