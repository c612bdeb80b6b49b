set_option maxRecDepth 20000 in
theorem fl_X10_281 : Cond.fieldLink RX10 281 (TX10 32).1 (TX10 32).2.1 (TX10 32).2.2.1 ∈ WALL := wm 1056 (by decide +kernel) rfl
set_option maxRecDepth 20000 in
theorem cw_X10_284 : CwV RX10 284 yX10_hang cX10_hang 4 none 2 := ⟨wm 1392 (by decide +kernel) rfl, wm 1394 (by decide +kernel) rfl, wms 51 (by decide +kernel) rfl, wm 11 (by decide +kernel) rfl, wm 1395 rfl rfl, by decide +kernel⟩
set_option maxRecDepth 20000 in
theorem fl_X10_293 : Cond.fieldLink RX10 293 (TX10 51).1 (TX10 51).2.1 (TX10 51).2.2.1 ∈ WALL := wm 1075 (by decide +kernel) rfl
theorem dX10_newBlock_0 : decode cX10_newBlock 0 = .ok (.aload_n 0, 1) := by decide +kernel
theorem dX10_newBlock_1 : decode cX10_newBlock 1 = .ok (.getfield 281, 3) := by decide +kernel
theorem dX10_newBlock_4 : decode cX10_newBlock 4 = .ok (.istore 5, 2) := by decide +kernel
theorem dX10_newBlock_6 : decode cX10_newBlock 6 = .ok (.aload_n 0, 1) := by decide +kernel
theorem dX10_newBlock_7 : decode cX10_newBlock 7 = .ok (.dup, 1) := by decide +kernel
theorem dX10_newBlock_8 : decode cX10_newBlock 8 = .ok (.getfield 281, 3) := by decide +kernel
theorem dX10_newBlock_11 : decode cX10_newBlock 11 = .ok (.iconst 1, 1) := by decide +kernel
theorem dX10_newBlock_12 : decode cX10_newBlock 12 = .ok (.iadd, 1) := by decide +kernel
theorem dX10_newBlock_13 : decode cX10_newBlock 13 = .ok (.putfield 281, 3) := by decide +kernel
theorem dX10_newBlock_16 : decode cX10_newBlock 16 = .ok (.aload_n 0, 1) := by decide +kernel
theorem dX10_newBlock_17 : decode cX10_newBlock 17 = .ok (.getfield 73, 3) := by decide +kernel
theorem dX10_newBlock_20 : decode cX10_newBlock 20 = .ok (.iload 5, 2) := by decide +kernel
theorem dX10_newBlock_22 : decode cX10_newBlock 22 = .ok (.iload_n 1, 1) := by decide +kernel
theorem dX10_newBlock_23 : decode cX10_newBlock 23 = .ok (.iastore, 1) := by decide +kernel
theorem dX10_newBlock_24 : decode cX10_newBlock 24 = .ok (.aload_n 0, 1) := by decide +kernel
theorem dX10_newBlock_25 : decode cX10_newBlock 25 = .ok (.getfield 76, 3) := by decide +kernel
theorem dX10_newBlock_28 : decode cX10_newBlock 28 = .ok (.iload 5, 2) := by decide +kernel
theorem dX10_newBlock_30 : decode cX10_newBlock 30 = .ok (.iload_n 2, 1) := by decide +kernel
theorem dX10_newBlock_31 : decode cX10_newBlock 31 = .ok (.iastore, 1) := by decide +kernel
theorem dX10_newBlock_32 : decode cX10_newBlock 32 = .ok (.aload_n 0, 1) := by decide +kernel
theorem dX10_newBlock_33 : decode cX10_newBlock 33 = .ok (.getfield 79, 3) := by decide +kernel
theorem dX10_newBlock_36 : decode cX10_newBlock 36 = .ok (.iload 5, 2) := by decide +kernel
theorem dX10_newBlock_38 : decode cX10_newBlock 38 = .ok (.iload_n 3, 1) := by decide +kernel
theorem dX10_newBlock_39 : decode cX10_newBlock 39 = .ok (.iastore, 1) := by decide +kernel
theorem dX10_newBlock_40 : decode cX10_newBlock 40 = .ok (.aload_n 0, 1) := by decide +kernel
theorem dX10_newBlock_41 : decode cX10_newBlock 41 = .ok (.getfield 82, 3) := by decide +kernel
theorem dX10_newBlock_44 : decode cX10_newBlock 44 = .ok (.iload 5, 2) := by decide +kernel
theorem dX10_newBlock_46 : decode cX10_newBlock 46 = .ok (.iload 4, 2) := by decide +kernel
theorem dX10_newBlock_48 : decode cX10_newBlock 48 = .ok (.iastore, 1) := by decide +kernel
theorem dX10_newBlock_49 : decode cX10_newBlock 49 = .ok (.aload_n 0, 1) := by decide +kernel
theorem dX10_newBlock_50 : decode cX10_newBlock 50 = .ok (.getfield 85, 3) := by decide +kernel
theorem dX10_newBlock_53 : decode cX10_newBlock 53 = .ok (.iload 5, 2) := by decide +kernel
theorem dX10_newBlock_55 : decode cX10_newBlock 55 = .ok (.iconst 0, 1) := by decide +kernel
theorem dX10_newBlock_56 : decode cX10_newBlock 56 = .ok (.iastore, 1) := by decide +kernel
theorem dX10_newBlock_57 : decode cX10_newBlock 57 = .ok (.aload_n 0, 1) := by decide +kernel
theorem dX10_newBlock_58 : decode cX10_newBlock 58 = .ok (.getfield 88, 3) := by decide +kernel
theorem dX10_newBlock_61 : decode cX10_newBlock 61 = .ok (.iload 5, 2) := by decide +kernel
theorem dX10_newBlock_63 : decode cX10_newBlock 63 = .ok (.bipush (-9), 2) := by decide +kernel
theorem dX10_newBlock_65 : decode cX10_newBlock 65 = .ok (.iastore, 1) := by decide +kernel
theorem dX10_newBlock_66 : decode cX10_newBlock 66 = .ok (.aload_n 0, 1) := by decide +kernel
theorem dX10_newBlock_67 : decode cX10_newBlock 67 = .ok (.getfield 91, 3) := by decide +kernel
theorem dX10_newBlock_70 : decode cX10_newBlock 70 = .ok (.iload 5, 2) := by decide +kernel
theorem dX10_newBlock_72 : decode cX10_newBlock 72 = .ok (.bipush (-9), 2) := by decide +kernel
theorem dX10_newBlock_74 : decode cX10_newBlock 74 = .ok (.iastore, 1) := by decide +kernel
theorem dX10_newBlock_75 : decode cX10_newBlock 75 = .ok (.iload_n 3, 1) := by decide +kernel
theorem dX10_newBlock_76 : decode cX10_newBlock 76 = .ok (.bipush (-9), 2) := by decide +kernel
theorem dX10_newBlock_78 : decode cX10_newBlock 78 = .ok (.if_icmp .eq 13, 3) := by decide +kernel
theorem dX10_newBlock_91 : decode cX10_newBlock 91 = .ok (.iload 5, 2) := by decide +kernel
theorem dX10_newBlock_93 : decode cX10_newBlock 93 = .ok (.ireturn, 1) := by decide +kernel
theorem dX10_newBlock_81 : decode cX10_newBlock 81 = .ok (.aload_n 0, 1) := by decide +kernel
theorem dX10_newBlock_82 : decode cX10_newBlock 82 = .ok (.iload_n 3, 1) := by decide +kernel
theorem dX10_newBlock_83 : decode cX10_newBlock 83 = .ok (.bipush (-100), 2) := by decide +kernel
theorem dX10_newBlock_85 : decode cX10_newBlock 85 = .ok (.iload 5, 2) := by decide +kernel
theorem dX10_newBlock_87 : decode cX10_newBlock 87 = .ok (.isub, 1) := by decide +kernel
theorem dX10_newBlock_88 : decode cX10_newBlock 88 = .ok (.invokevirtual 284, 3) := by decide +kernel
theorem dX10_isCloser_4 : decode cX10_isCloser 4 = .ok (.iload_n 3, 1) := by decide +kernel
theorem dX10_isCloser_5 : decode cX10_isCloser 5 = .ok (.aload_n 0, 1) := by decide +kernel
theorem dX10_isCloser_6 : decode cX10_isCloser 6 = .ok (.getfield 189, 3) := by decide +kernel
theorem dX10_isCloser_9 : decode cX10_isCloser 9 = .ok (.if_icmp .ge 35, 3) := by decide +kernel
theorem dX10_isCloser_44 : decode cX10_isCloser 44 = .ok (.iload_n 2, 1) := by decide +kernel
theorem dX10_isCloser_45 : decode cX10_isCloser 45 = .ok (.ireturn, 1) := by decide +kernel
theorem dX10_isCloser_12 : decode cX10_isCloser 12 = .ok (.iload_n 2, 1) := by decide +kernel
theorem dX10_isCloser_13 : decode cX10_isCloser 13 = .ok (.ifCond .ne 19, 3) := by decide +kernel
theorem dX10_isCloser_32 : decode cX10_isCloser 32 = .ok (.iconst 1, 1) := by decide +kernel
theorem dX10_isCloser_33 : decode cX10_isCloser 33 = .ok (.goto 4, 3) := by decide +kernel
theorem dX10_isCloser_37 : decode cX10_isCloser 37 = .ok (.istore_n 2, 1) := by decide +kernel
theorem dX10_isCloser_38 : decode cX10_isCloser 38 = .ok (.iinc 3 1, 3) := by decide +kernel
theorem dX10_isCloser_41 : decode cX10_isCloser 41 = .ok (.goto (-37), 3) := by decide +kernel
theorem dX10_isCloser_16 : decode cX10_isCloser 16 = .ok (.aload_n 0, 1) := by decide +kernel
theorem dX10_isCloser_17 : decode cX10_isCloser 17 = .ok (.getfield 23, 3) := by decide +kernel
theorem dX10_isCloser_20 : decode cX10_isCloser 20 = .ok (.iload_n 3, 1) := by decide +kernel
theorem dX10_isCloser_21 : decode cX10_isCloser 21 = .ok (.laload, 1) := by decide +kernel
theorem dX10_isCloser_22 : decode cX10_isCloser 22 = .ok (.aload_n 0, 1) := by decide +kernel
theorem dX10_isCloser_23 : decode cX10_isCloser 23 = .ok (.getfield 61, 3) := by decide +kernel
theorem dX10_isCloser_26 : decode cX10_isCloser 26 = .ok (.iload_n 1, 1) := by decide +kernel
theorem dX10_isCloser_27 : decode cX10_isCloser 27 = .ok (.laload, 1) := by decide +kernel
theorem dX10_isCloser_28 : decode cX10_isCloser 28 = .ok (.lcmp, 1) := by decide +kernel
theorem dX10_isCloser_29 : decode cX10_isCloser 29 = .ok (.ifCond .ne 7, 3) := by decide +kernel
theorem dX10_isCloser_36 : decode cX10_isCloser 36 = .ok (.iconst 0, 1) := by decide +kernel
theorem dX10_isCloser_0 : decode cX10_isCloser 0 = .ok (.iconst 0, 1) := by decide +kernel
theorem dX10_isCloser_1 : decode cX10_isCloser 1 = .ok (.istore_n 2, 1) := by decide +kernel
theorem dX10_isCloser_2 : decode cX10_isCloser 2 = .ok (.iconst 0, 1) := by decide +kernel
theorem dX10_isCloser_3 : decode cX10_isCloser 3 = .ok (.istore_n 3, 1) := by decide +kernel
theorem dX10_isGoer_4 : decode cX10_isGoer 4 = .ok (.iload_n 3, 1) := by decide +kernel
theorem dX10_isGoer_5 : decode cX10_isGoer 5 = .ok (.aload_n 0, 1) := by decide +kernel
theorem dX10_isGoer_6 : decode cX10_isGoer 6 = .ok (.getfield 192, 3) := by decide +kernel
theorem dX10_isGoer_9 : decode cX10_isGoer 9 = .ok (.if_icmp .ge 36, 3) := by decide +kernel
theorem dX10_isGoer_45 : decode cX10_isGoer 45 = .ok (.iload_n 2, 1) := by decide +kernel
theorem dX10_isGoer_46 : decode cX10_isGoer 46 = .ok (.ireturn, 1) := by decide +kernel
theorem dX10_isGoer_12 : decode cX10_isGoer 12 = .ok (.iload_n 2, 1) := by decide +kernel
theorem dX10_isGoer_13 : decode cX10_isGoer 13 = .ok (.ifCond .ne 20, 3) := by decide +kernel
theorem dX10_isGoer_33 : decode cX10_isGoer 33 = .ok (.iconst 1, 1) := by decide +kernel
theorem dX10_isGoer_34 : decode cX10_isGoer 34 = .ok (.goto 4, 3) := by decide +kernel
theorem dX10_isGoer_38 : decode cX10_isGoer 38 = .ok (.istore_n 2, 1) := by decide +kernel
theorem dX10_isGoer_39 : decode cX10_isGoer 39 = .ok (.iinc 3 1, 3) := by decide +kernel
theorem dX10_isGoer_42 : decode cX10_isGoer 42 = .ok (.goto (-38), 3) := by decide +kernel
theorem dX10_isGoer_16 : decode cX10_isGoer 16 = .ok (.aload_n 0, 1) := by decide +kernel
theorem dX10_isGoer_17 : decode cX10_isGoer 17 = .ok (.getfield 26, 3) := by decide +kernel
theorem dX10_isGoer_20 : decode cX10_isGoer 20 = .ok (.iload_n 3, 1) := by decide +kernel
theorem dX10_isGoer_21 : decode cX10_isGoer 21 = .ok (.iaload, 1) := by decide +kernel
theorem dX10_isGoer_22 : decode cX10_isGoer 22 = .ok (.i2l, 1) := by decide +kernel
theorem dX10_isGoer_23 : decode cX10_isGoer 23 = .ok (.aload_n 0, 1) := by decide +kernel
theorem dX10_isGoer_24 : decode cX10_isGoer 24 = .ok (.getfield 61, 3) := by decide +kernel
theorem dX10_isGoer_27 : decode cX10_isGoer 27 = .ok (.iload_n 1, 1) := by decide +kernel
theorem dX10_isGoer_28 : decode cX10_isGoer 28 = .ok (.laload, 1) := by decide +kernel
theorem dX10_isGoer_29 : decode cX10_isGoer 29 = .ok (.lcmp, 1) := by decide +kernel
theorem dX10_isGoer_30 : decode cX10_isGoer 30 = .ok (.ifCond .ne 7, 3) := by decide +kernel
theorem dX10_isGoer_37 : decode cX10_isGoer 37 = .ok (.iconst 0, 1) := by decide +kernel
theorem dX10_isGoer_0 : decode cX10_isGoer 0 = .ok (.iconst 0, 1) := by decide +kernel
theorem dX10_isGoer_1 : decode cX10_isGoer 1 = .ok (.istore_n 2, 1) := by decide +kernel
theorem dX10_isGoer_2 : decode cX10_isGoer 2 = .ok (.iconst 0, 1) := by decide +kernel
theorem dX10_isGoer_3 : decode cX10_isGoer 3 = .ok (.istore_n 3, 1) := by decide +kernel
theorem dX10_openerOf_2 : decode cX10_openerOf 2 = .ok (.iload_n 2, 1) := by decide +kernel
theorem dX10_openerOf_3 : decode cX10_openerOf 3 = .ok (.aload_n 0, 1) := by decide +kernel
theorem dX10_openerOf_4 : decode cX10_openerOf 4 = .ok (.getfield 182, 3) := by decide +kernel
theorem dX10_openerOf_7 : decode cX10_openerOf 7 = .ok (.if_icmp .ge 43, 3) := by decide +kernel
theorem dX10_openerOf_50 : decode cX10_openerOf 50 = .ok (.iconst 0, 1) := by decide +kernel
theorem dX10_openerOf_51 : decode cX10_openerOf 51 = .ok (.ireturn, 1) := by decide +kernel
theorem dX10_openerOf_10 : decode cX10_openerOf 10 = .ok (.aload_n 0, 1) := by decide +kernel
theorem dX10_openerOf_11 : decode cX10_openerOf 11 = .ok (.getfield 61, 3) := by decide +kernel
theorem dX10_openerOf_14 : decode cX10_openerOf 14 = .ok (.iload_n 1, 1) := by decide +kernel
theorem dX10_openerOf_15 : decode cX10_openerOf 15 = .ok (.laload, 1) := by decide +kernel
theorem dX10_openerOf_16 : decode cX10_openerOf 16 = .ok (.lconst 0, 1) := by decide +kernel
theorem dX10_openerOf_17 : decode cX10_openerOf 17 = .ok (.lcmp, 1) := by decide +kernel
theorem dX10_openerOf_18 : decode cX10_openerOf 18 = .ok (.ifCond .eq 26, 3) := by decide +kernel
theorem dX10_openerOf_44 : decode cX10_openerOf 44 = .ok (.iinc 2 1, 3) := by decide +kernel
theorem dX10_openerOf_47 : decode cX10_openerOf 47 = .ok (.goto (-45), 3) := by decide +kernel
theorem dX10_openerOf_21 : decode cX10_openerOf 21 = .ok (.aload_n 0, 1) := by decide +kernel
theorem dX10_openerOf_22 : decode cX10_openerOf 22 = .ok (.getfield 7, 3) := by decide +kernel
theorem dX10_openerOf_25 : decode cX10_openerOf 25 = .ok (.iload_n 2, 1) := by decide +kernel
theorem dX10_openerOf_26 : decode cX10_openerOf 26 = .ok (.laload, 1) := by decide +kernel
theorem dX10_openerOf_27 : decode cX10_openerOf 27 = .ok (.aload_n 0, 1) := by decide +kernel
theorem dX10_openerOf_28 : decode cX10_openerOf 28 = .ok (.getfield 61, 3) := by decide +kernel
theorem dX10_openerOf_31 : decode cX10_openerOf 31 = .ok (.iload_n 1, 1) := by decide +kernel
theorem dX10_openerOf_32 : decode cX10_openerOf 32 = .ok (.laload, 1) := by decide +kernel
theorem dX10_openerOf_33 : decode cX10_openerOf 33 = .ok (.lcmp, 1) := by decide +kernel
theorem dX10_openerOf_34 : decode cX10_openerOf 34 = .ok (.ifCond .ne 10, 3) := by decide +kernel
theorem dX10_openerOf_37 : decode cX10_openerOf 37 = .ok (.aload_n 0, 1) := by decide +kernel
theorem dX10_openerOf_38 : decode cX10_openerOf 38 = .ok (.getfield 13, 3) := by decide +kernel
theorem dX10_openerOf_41 : decode cX10_openerOf 41 = .ok (.iload_n 2, 1) := by decide +kernel
theorem dX10_openerOf_42 : decode cX10_openerOf 42 = .ok (.iaload, 1) := by decide +kernel
theorem dX10_openerOf_43 : decode cX10_openerOf 43 = .ok (.ireturn, 1) := by decide +kernel
theorem dX10_openerOf_0 : decode cX10_openerOf 0 = .ok (.iconst 0, 1) := by decide +kernel
theorem dX10_openerOf_1 : decode cX10_openerOf 1 = .ok (.istore_n 2, 1) := by decide +kernel
theorem dX10_pairOf_2 : decode cX10_pairOf 2 = .ok (.iload_n 3, 1) := by decide +kernel
theorem dX10_pairOf_3 : decode cX10_pairOf 3 = .ok (.aload_n 0, 1) := by decide +kernel
theorem dX10_pairOf_4 : decode cX10_pairOf 4 = .ok (.getfield 186, 3) := by decide +kernel
theorem dX10_pairOf_7 : decode cX10_pairOf 7 = .ok (.if_icmp .ge 41, 3) := by decide +kernel
theorem dX10_pairOf_48 : decode cX10_pairOf 48 = .ok (.bipush (-9), 2) := by decide +kernel
theorem dX10_pairOf_50 : decode cX10_pairOf 50 = .ok (.ireturn, 1) := by decide +kernel
theorem dX10_pairOf_10 : decode cX10_pairOf 10 = .ok (.aload_n 0, 1) := by decide +kernel
theorem dX10_pairOf_11 : decode cX10_pairOf 11 = .ok (.getfield 61, 3) := by decide +kernel
theorem dX10_pairOf_14 : decode cX10_pairOf 14 = .ok (.iload_n 1, 1) := by decide +kernel
theorem dX10_pairOf_15 : decode cX10_pairOf 15 = .ok (.laload, 1) := by decide +kernel
theorem dX10_pairOf_16 : decode cX10_pairOf 16 = .ok (.iload_n 2, 1) := by decide +kernel
theorem dX10_pairOf_17 : decode cX10_pairOf 17 = .ok (.ifCond .eq 12, 3) := by decide +kernel
theorem dX10_pairOf_29 : decode cX10_pairOf 29 = .ok (.aload_n 0, 1) := by decide +kernel
theorem dX10_pairOf_30 : decode cX10_pairOf 30 = .ok (.getfield 20, 3) := by decide +kernel
theorem dX10_pairOf_33 : decode cX10_pairOf 33 = .ok (.iload_n 3, 1) := by decide +kernel
theorem dX10_pairOf_34 : decode cX10_pairOf 34 = .ok (.iaload, 1) := by decide +kernel
theorem dX10_pairOf_35 : decode cX10_pairOf 35 = .ok (.i2l, 1) := by decide +kernel
theorem dX10_pairOf_36 : decode cX10_pairOf 36 = .ok (.lcmp, 1) := by decide +kernel
theorem dX10_pairOf_37 : decode cX10_pairOf 37 = .ok (.ifCond .ne 5, 3) := by decide +kernel
theorem dX10_pairOf_42 : decode cX10_pairOf 42 = .ok (.iinc 3 1, 3) := by decide +kernel
theorem dX10_pairOf_45 : decode cX10_pairOf 45 = .ok (.goto (-43), 3) := by decide +kernel
theorem dX10_pairOf_40 : decode cX10_pairOf 40 = .ok (.iload_n 3, 1) := by decide +kernel
theorem dX10_pairOf_41 : decode cX10_pairOf 41 = .ok (.ireturn, 1) := by decide +kernel
theorem dX10_pairOf_20 : decode cX10_pairOf 20 = .ok (.aload_n 0, 1) := by decide +kernel
theorem dX10_pairOf_21 : decode cX10_pairOf 21 = .ok (.getfield 17, 3) := by decide +kernel
theorem dX10_pairOf_24 : decode cX10_pairOf 24 = .ok (.iload_n 3, 1) := by decide +kernel
theorem dX10_pairOf_25 : decode cX10_pairOf 25 = .ok (.iaload, 1) := by decide +kernel
theorem dX10_pairOf_26 : decode cX10_pairOf 26 = .ok (.goto 9, 3) := by decide +kernel
theorem dX10_pairOf_0 : decode cX10_pairOf 0 = .ok (.iconst 0, 1) := by decide +kernel
theorem dX10_pairOf_1 : decode cX10_pairOf 1 = .ok (.istore_n 3, 1) := by decide +kernel
theorem dX10_topmost_0 : decode cX10_topmost 0 = .ok (.aload_n 0, 1) := by decide +kernel
theorem dX10_topmost_1 : decode cX10_topmost 1 = .ok (.getfield 118, 3) := by decide +kernel
theorem dX10_topmost_4 : decode cX10_topmost 4 = .ok (.aload_n 0, 1) := by decide +kernel
theorem dX10_topmost_5 : decode cX10_topmost 5 = .ok (.getfield 293, 3) := by decide +kernel
theorem dX10_topmost_8 : decode cX10_topmost 8 = .ok (.iconst 1, 1) := by decide +kernel
theorem dX10_topmost_9 : decode cX10_topmost 9 = .ok (.isub, 1) := by decide +kernel
theorem dX10_topmost_10 : decode cX10_topmost 10 = .ok (.iaload, 1) := by decide +kernel
theorem dX10_topmost_11 : decode cX10_topmost 11 = .ok (.ireturn, 1) := by decide +kernel
set_option maxHeartbeats 4000000 in
set_option maxRecDepth 100000 in
theorem m_newBlock (l : Launch) (D : va_G) (tA : Nat → ClassId) (b : Nat) (i F : Nat → Nat → Int32) (G : Nat → Nat → Int64) (x1_ x2_ x3_ x4_ : Int32) (hT : TMm i F) (hbm : (i 78 32).toInt < 1202) (hpm : (i 78 47).toInt < 1802) (hit : ((i 78 32).toInt = 0 ∧ x3_.toInt = -9) ∨ (1 ≤ (i 78 32).toInt ∧ (0 ≤ x3_.toInt ∧ x3_.toInt < (i 78 40).toInt) ∧ 0 ≤ x4_.toInt ∧ x4_.toInt < 600)) : xMI l yX10_newBlock cX10_newBlock 6 (some .int) 1 23 D tA b 78 52 i F G [.ref (b + 78), .int x1_, .int x2_, .int x3_, .int x4_] (fun r u => RO [32, 47] [98, 99, 100, 101, 102, 103, 104, 108, 109, 110, 111, 112] i F G u ∧ TMm u.1 u.2.1 ∧ (u.1 78 32).toInt = (i 78 32).toInt + 1 ∧ ((i 78 47).toInt ≤ (u.1 78 47).toInt ∧ (u.1 78 47).toInt ≤ (i 78 47).toInt + 1) ∧ r = i 78 32 ∧ u.2.1 98 = upd (F 98) (Int32.toNatClampNeg (i 78 32)) x1_ ∧ u.2.1 99 = upd (F 99) (Int32.toNatClampNeg (i 78 32)) x2_ ∧ u.2.1 102 = upd (F 102) (Int32.toNatClampNeg (i 78 32)) 0) := by
  refine xstart RX10 rfl (by decide) (Nat.le_of_ble_eq_true rfl) ?_
  intro p e s m below meth c ls C0 hr hH hS hl
  have hl : lv_has ls 6 [(0, .ref (b + 78)), (1, .int x1_), (2, .int x2_), (3, .int x3_), (4, .int x4_)] := hl
  have rg_x1_ := fb_rng x1_
  have rg_x2_ := fb_rng x2_
  have rg_x3_ := fb_rng x3_
  have rg_x4_ := fb_rng x4_
  have hTL := TMm.lin hT
  have hT0 := hT
  refine lv_aload_n (pc := 0) C0.1 C0.2.1 dX10_newBlock_0 rfl (lv_at hl 0 rfl) ?_
  refine xget (pc := 1) C0 hH 78 32 clX10 ⟨Nat.le_of_ble_eq_true rfl, Nat.le_of_ble_eq_true rfl⟩ ⟨rfl, rfl⟩ (Nat.le_of_ble_eq_true rfl) fl_X10_281 (v := .int (i 78 32)) rfl dX10_newBlock_1 ?_
  refine lv_topi (fun x1 ex1 => ?_)
  refine lv_istore (pc := 4) (lv' := [(5, .int x1), (0, .ref (b + 78)), (1, .int x1_), (2, .int x2_), (3, .int x3_), (4, .int x4_)]) C0.1 C0.2.1 dX10_newBlock_4 hl (by decide) rfl (fun ls hl => ?_)
  have e1I := congrArg Int32.toInt ex1
  refine lv_aload_n (pc := 6) C0.1 C0.2.1 dX10_newBlock_6 rfl (lv_at hl 1 rfl) ?_
  refine lv_dup (pc := 7) C0.1 C0.2.1 dX10_newBlock_7 rfl ?_
  refine xget (pc := 8) C0 hH 78 32 clX10 ⟨Nat.le_of_ble_eq_true rfl, Nat.le_of_ble_eq_true rfl⟩ ⟨rfl, rfl⟩ (Nat.le_of_ble_eq_true rfl) fl_X10_281 (v := .int (i 78 32)) rfl dX10_newBlock_8 ?_
  refine lv_iconst (pc := 11) (v := 1) C0.1 C0.2.1 dX10_newBlock_11 (by decide) ?_
  have : Int32.toInt 1 = 1 := rfl
  refine lv_iadd (pc := 12) C0.1 C0.2.1 dX10_newBlock_12 ?_
  refine lv_topi (fun x2 ex2 => ?_)
  have hx2 : Int32.toInt x2 = Int32.toInt (i 78 32) + Int32.toInt 1 := by rw [ex2]; exact fb_addI (by omega) (by omega)
  refine xputI (pc := 13) C0 (Nat.le_of_ble_eq_true rfl) hH hS 78 32 clX10 ⟨Nat.le_of_ble_eq_true rfl, Nat.le_of_ble_eq_true rfl⟩ ⟨rfl, rfl⟩ ⟨Nat.le_of_ble_eq_true rfl, rfl, rfl⟩ fl_X10_281 (x := x2) ⟨rfl, rfl⟩ dX10_newBlock_13 (fun _ locs hH hS _ => ?_)
  have hH : Hd D tA b 78 52 zz (up2 i 78 32 x2) F G _ := hH
  refine lv_aload_n (pc := 16) C0.1 C0.2.1 dX10_newBlock_16 rfl (lv_at hl 1 rfl) ?_
  refine xget (pc := 17) C0 hH 78 33 clX10 ⟨Nat.le_of_ble_eq_true rfl, Nat.le_of_ble_eq_true rfl⟩ ⟨rfl, rfl⟩ (Nat.le_of_ble_eq_true rfl) fl_X10_73 (v := .ref (b + 98)) rfl dX10_newBlock_17 ?_
  refine lv_iload (pc := 20) C0.1 C0.2.1 dX10_newBlock_20 (lv_at hl 0 rfl) ?_
  refine lv_iload_n (pc := 22) C0.1 C0.2.1 dX10_newBlock_22 rfl (lv_at hl 2 rfl) ?_
  refine xiast (pc := 23) (N := 1202) C0 (Nat.le_of_ble_eq_true rfl) hH hS 98 ⟨Nat.le_of_ble_eq_true rfl, Nat.le_of_ble_eq_true rfl⟩ ⟨rfl, rfl⟩ (vI (by omega) (by omega)) dX10_newBlock_23 (fun _ locs hH hS _ => ?_)
  have hH : Hd D tA b 78 52 zz (up2 i 78 32 x2) (va_up F 98 (upd (F 98) (Int32.toNatClampNeg x1) x1_)) G _ := hH
  refine lv_aload_n (pc := 24) C0.1 C0.2.1 dX10_newBlock_24 rfl (lv_at hl 1 rfl) ?_
  refine xget (pc := 25) C0 hH 78 34 clX10 ⟨Nat.le_of_ble_eq_true rfl, Nat.le_of_ble_eq_true rfl⟩ ⟨rfl, rfl⟩ (Nat.le_of_ble_eq_true rfl) fl_X10_76 (v := .ref (b + 99)) rfl dX10_newBlock_25 ?_
  refine lv_iload (pc := 28) C0.1 C0.2.1 dX10_newBlock_28 (lv_at hl 0 rfl) ?_
  refine lv_iload_n (pc := 30) C0.1 C0.2.1 dX10_newBlock_30 rfl (lv_at hl 3 rfl) ?_
  refine xiast (pc := 31) (N := 1202) C0 (Nat.le_of_ble_eq_true rfl) hH hS 99 ⟨Nat.le_of_ble_eq_true rfl, Nat.le_of_ble_eq_true rfl⟩ ⟨rfl, rfl⟩ (vI (by omega) (by omega)) dX10_newBlock_31 (fun _ locs hH hS _ => ?_)
  have hH : Hd D tA b 78 52 zz (up2 i 78 32 x2) (va_up (va_up F 98 (upd (F 98) (Int32.toNatClampNeg x1) x1_)) 99 (upd (F 99) (Int32.toNatClampNeg x1) x2_)) G _ := hH
  refine lv_aload_n (pc := 32) C0.1 C0.2.1 dX10_newBlock_32 rfl (lv_at hl 1 rfl) ?_
  refine xget (pc := 33) C0 hH 78 35 clX10 ⟨Nat.le_of_ble_eq_true rfl, Nat.le_of_ble_eq_true rfl⟩ ⟨rfl, rfl⟩ (Nat.le_of_ble_eq_true rfl) fl_X10_79 (v := .ref (b + 100)) rfl dX10_newBlock_33 ?_
  refine lv_iload (pc := 36) C0.1 C0.2.1 dX10_newBlock_36 (lv_at hl 0 rfl) ?_
  refine lv_iload_n (pc := 38) C0.1 C0.2.1 dX10_newBlock_38 rfl (lv_at hl 4 rfl) ?_
  refine xiast (pc := 39) (N := 1202) C0 (Nat.le_of_ble_eq_true rfl) hH hS 100 ⟨Nat.le_of_ble_eq_true rfl, Nat.le_of_ble_eq_true rfl⟩ ⟨rfl, rfl⟩ (vI (by omega) (by omega)) dX10_newBlock_39 (fun _ locs hH hS _ => ?_)
  have hH : Hd D tA b 78 52 zz (up2 i 78 32 x2) (va_up (va_up (va_up F 98 (upd (F 98) (Int32.toNatClampNeg x1) x1_)) 99 (upd (F 99) (Int32.toNatClampNeg x1) x2_)) 100 (upd (F 100) (Int32.toNatClampNeg x1) x3_)) G _ := hH
  refine lv_aload_n (pc := 40) C0.1 C0.2.1 dX10_newBlock_40 rfl (lv_at hl 1 rfl) ?_
  refine xget (pc := 41) C0 hH 78 36 clX10 ⟨Nat.le_of_ble_eq_true rfl, Nat.le_of_ble_eq_true rfl⟩ ⟨rfl, rfl⟩ (Nat.le_of_ble_eq_true rfl) fl_X10_82 (v := .ref (b + 101)) rfl dX10_newBlock_41 ?_
  refine lv_iload (pc := 44) C0.1 C0.2.1 dX10_newBlock_44 (lv_at hl 0 rfl) ?_
  refine lv_iload (pc := 46) C0.1 C0.2.1 dX10_newBlock_46 (lv_at hl 5 rfl) ?_
  refine xiast (pc := 48) (N := 1202) C0 (Nat.le_of_ble_eq_true rfl) hH hS 101 ⟨Nat.le_of_ble_eq_true rfl, Nat.le_of_ble_eq_true rfl⟩ ⟨rfl, rfl⟩ (vI (by omega) (by omega)) dX10_newBlock_48 (fun _ locs hH hS _ => ?_)
  have hH : Hd D tA b 78 52 zz (up2 i 78 32 x2) (va_up (va_up (va_up (va_up F 98 (upd (F 98) (Int32.toNatClampNeg x1) x1_)) 99 (upd (F 99) (Int32.toNatClampNeg x1) x2_)) 100 (upd (F 100) (Int32.toNatClampNeg x1) x3_)) 101 (upd (F 101) (Int32.toNatClampNeg x1) x4_)) G _ := hH
  refine lv_aload_n (pc := 49) C0.1 C0.2.1 dX10_newBlock_49 rfl (lv_at hl 1 rfl) ?_
  refine xget (pc := 50) C0 hH 78 37 clX10 ⟨Nat.le_of_ble_eq_true rfl, Nat.le_of_ble_eq_true rfl⟩ ⟨rfl, rfl⟩ (Nat.le_of_ble_eq_true rfl) fl_X10_85 (v := .ref (b + 102)) rfl dX10_newBlock_50 ?_
  refine lv_iload (pc := 53) C0.1 C0.2.1 dX10_newBlock_53 (lv_at hl 0 rfl) ?_
  refine lv_iconst (pc := 55) (v := 0) C0.1 C0.2.1 dX10_newBlock_55 (by decide) ?_
  refine xiast (pc := 56) (N := 1202) C0 (Nat.le_of_ble_eq_true rfl) hH hS 102 ⟨Nat.le_of_ble_eq_true rfl, Nat.le_of_ble_eq_true rfl⟩ ⟨rfl, rfl⟩ (vI (by omega) (by omega)) dX10_newBlock_56 (fun _ locs hH hS _ => ?_)
  have hH : Hd D tA b 78 52 zz (up2 i 78 32 x2) (va_up (va_up (va_up (va_up (va_up F 98 (upd (F 98) (Int32.toNatClampNeg x1) x1_)) 99 (upd (F 99) (Int32.toNatClampNeg x1) x2_)) 100 (upd (F 100) (Int32.toNatClampNeg x1) x3_)) 101 (upd (F 101) (Int32.toNatClampNeg x1) x4_)) 102 (upd (F 102) (Int32.toNatClampNeg x1) 0)) G _ := hH
  refine lv_aload_n (pc := 57) C0.1 C0.2.1 dX10_newBlock_57 rfl (lv_at hl 1 rfl) ?_
  refine xget (pc := 58) C0 hH 78 38 clX10 ⟨Nat.le_of_ble_eq_true rfl, Nat.le_of_ble_eq_true rfl⟩ ⟨rfl, rfl⟩ (Nat.le_of_ble_eq_true rfl) fl_X10_88 (v := .ref (b + 103)) rfl dX10_newBlock_58 ?_
  refine lv_iload (pc := 61) C0.1 C0.2.1 dX10_newBlock_61 (lv_at hl 0 rfl) ?_
  refine lv_bipush (pc := 63) (v := (-9)) C0.1 C0.2.1 dX10_newBlock_63 (by decide) ?_
  refine xiast (pc := 65) (N := 1202) C0 (Nat.le_of_ble_eq_true rfl) hH hS 103 ⟨Nat.le_of_ble_eq_true rfl, Nat.le_of_ble_eq_true rfl⟩ ⟨rfl, rfl⟩ (vI (by omega) (by omega)) dX10_newBlock_65 (fun _ locs hH hS _ => ?_)
  have hH : Hd D tA b 78 52 zz (up2 i 78 32 x2) (va_up (va_up (va_up (va_up (va_up (va_up F 98 (upd (F 98) (Int32.toNatClampNeg x1) x1_)) 99 (upd (F 99) (Int32.toNatClampNeg x1) x2_)) 100 (upd (F 100) (Int32.toNatClampNeg x1) x3_)) 101 (upd (F 101) (Int32.toNatClampNeg x1) x4_)) 102 (upd (F 102) (Int32.toNatClampNeg x1) 0)) 103 (upd (F 103) (Int32.toNatClampNeg x1) (-9))) G _ := hH
  refine lv_aload_n (pc := 66) C0.1 C0.2.1 dX10_newBlock_66 rfl (lv_at hl 1 rfl) ?_
  refine xget (pc := 67) C0 hH 78 39 clX10 ⟨Nat.le_of_ble_eq_true rfl, Nat.le_of_ble_eq_true rfl⟩ ⟨rfl, rfl⟩ (Nat.le_of_ble_eq_true rfl) fl_X10_91 (v := .ref (b + 104)) rfl dX10_newBlock_67 ?_
  refine lv_iload (pc := 70) C0.1 C0.2.1 dX10_newBlock_70 (lv_at hl 0 rfl) ?_
  refine lv_bipush (pc := 72) (v := (-9)) C0.1 C0.2.1 dX10_newBlock_72 (by decide) ?_
  refine xiast (pc := 74) (N := 1202) C0 (Nat.le_of_ble_eq_true rfl) hH hS 104 ⟨Nat.le_of_ble_eq_true rfl, Nat.le_of_ble_eq_true rfl⟩ ⟨rfl, rfl⟩ (vI (by omega) (by omega)) dX10_newBlock_74 (fun _ locs hH hS _ => ?_)
  have hH : Hd D tA b 78 52 zz (up2 i 78 32 x2) (va_up (va_up (va_up (va_up (va_up (va_up (va_up F 98 (upd (F 98) (Int32.toNatClampNeg x1) x1_)) 99 (upd (F 99) (Int32.toNatClampNeg x1) x2_)) 100 (upd (F 100) (Int32.toNatClampNeg x1) x3_)) 101 (upd (F 101) (Int32.toNatClampNeg x1) x4_)) 102 (upd (F 102) (Int32.toNatClampNeg x1) 0)) 103 (upd (F 103) (Int32.toNatClampNeg x1) (-9))) 104 (upd (F 104) (Int32.toNatClampNeg x1) (-9))) G _ := hH
  have hT : TMm (up2 i 78 32 x2) (va_up (va_up (va_up (va_up (va_up (va_up (va_up F 98 (upd (F 98) (Int32.toNatClampNeg x1) x1_)) 99 (upd (F 99) (Int32.toNatClampNeg x1) x2_)) 100 (upd (F 100) (Int32.toNatClampNeg x1) x3_)) 101 (upd (F 101) (Int32.toNatClampNeg x1) x4_)) 102 (upd (F 102) (Int32.toNatClampNeg x1) 0)) 103 (upd (F 103) (Int32.toNatClampNeg x1) (-9))) 104 (upd (F 104) (Int32.toNatClampNeg x1) (-9))) := TMm.block (xb := x1) (it := x3_) (by_ := x4_) hT hbm hit ex1 rfl rfl rfl rfl rfl rfl rfl rfl rfl rfl rfl rfl rfl rfl rfl rfl (show Int32.toInt x2 = _ from by omega)
  have hTL := TMm.lin hT
  refine lv_iload_n (pc := 75) C0.1 C0.2.1 dX10_newBlock_75 rfl (lv_at hl 4 rfl) ?_
  refine lv_bipush (pc := 76) (v := (-9)) C0.1 C0.2.1 dX10_newBlock_76 (by decide) ?_
  refine lv_icmp_eq (pc := 78) (tgt := 91) C0.1 C0.2.1 dX10_newBlock_78 (by decide) (fun c3 => ?_) (fun c3 => ?_)
  · have : Int32.toInt (-9) = (-9) := rfl
    have c3 := congrArg Int32.toInt c3
    refine lv_iload (pc := 91) C0.1 C0.2.1 dX10_newBlock_91 (lv_at hl 0 rfl) ?_
    exact xiret (pc := 93) C0 hr hH hS dX10_newBlock_93 ⟨(RO.f (RO.f (RO.f (RO.f (RO.f (RO.f (RO.f (RO.i RO.rf (by decide)) (by decide)) (by decide)) (by decide)) (by decide)) (by decide)) (by decide)) (by decide)), hT, (show Int32.toInt x2 = _ from by omega), (show _ ≤ Int32.toInt (i 78 47) ∧ Int32.toInt (i 78 47) ≤ _ from by omega), ex1, (show _ = upd (F 98) (Int32.toNatClampNeg (i 78 32)) x1_ from by rw [← ex1]; rfl), (show _ = upd (F 99) (Int32.toNatClampNeg (i 78 32)) x2_ from by rw [← ex1]; rfl), (show _ = upd (F 102) (Int32.toNatClampNeg (i 78 32)) 0 from by rw [← ex1]; rfl)⟩
  · have : Int32.toInt (-9) = (-9) := rfl
    have c3 : ¬ _ := fun q => c3 (Int32.toInt_inj.mp q)
    have hOw := TMm.owt hT0 (x := x3_) (by omega)
    refine lv_aload_n (pc := 81) C0.1 C0.2.1 dX10_newBlock_81 rfl (lv_at hl 1 rfl) ?_
    refine lv_iload_n (pc := 82) C0.1 C0.2.1 dX10_newBlock_82 rfl (lv_at hl 4 rfl) ?_
    refine lv_bipush (pc := 83) (v := (-100)) C0.1 C0.2.1 dX10_newBlock_83 (by decide) ?_
    refine lv_iload (pc := 85) C0.1 C0.2.1 dX10_newBlock_85 (lv_at hl 0 rfl) ?_
    have : Int32.toInt (-100) = (-100) := rfl
    refine lv_isub (pc := 87) C0.1 C0.2.1 dX10_newBlock_87 ?_
    refine lv_topi (fun x4 ex4 => ?_)
    have hx4 : Int32.toInt x4 = Int32.toInt (-100) - Int32.toInt x1 := by rw [ex4]; exact fb_subI (by omega) (by omega)
    refine xcVV (pc := 88) 78 [.int x3_, .int x4] (m_hang l D tA b (up2 i 78 32 x2) (va_up (va_up (va_up (va_up (va_up (va_up (va_up F 98 (upd (F 98) (Int32.toNatClampNeg x1) x1_)) 99 (upd (F 99) (Int32.toNatClampNeg x1) x2_)) 100 (upd (F 100) (Int32.toNatClampNeg x1) x3_)) 101 (upd (F 101) (Int32.toNatClampNeg x1) x4_)) 102 (upd (F 102) (Int32.toNatClampNeg x1) 0)) 103 (upd (F 103) (Int32.toNatClampNeg x1) (-9))) 104 (upd (F 104) (Int32.toNatClampNeg x1) (-9))) G x3_ x4 hT (show 0 ≤ Int32.toInt x3_ ∧ Int32.toInt x3_ < Int32.toInt (i 78 40) from by omega) (show Int32.toInt (i 78 47) < 1802 from by omega) (Or.inr ⟨by omega, (show -100 - Int32.toInt x4 < Int32.toInt x2 from by omega), (show (F 105 (Int32.toNatClampNeg x3_)).toInt < -100 - Int32.toInt x4 from by omega), (show ∀ p : Nat, (p : Int) < (i 78 47).toInt → ¬ F 111 p = x4 from TMm.fresh hT0 (by omega))⟩)) C0 hH hS clX10 rfl ⟨⟨Nat.le_of_ble_eq_true rfl, Nat.le_of_ble_eq_true rfl⟩, rfl, rfl⟩ cw_X10_284 rfl ⟨Nat.le_of_ble_eq_true rfl, Nat.le_of_ble_eq_true rfl⟩ hl.1 rfl (Nat.le_of_ble_eq_true rfl) dX10_newBlock_88 ⟨Nat.le_of_ble_eq_true rfl, Nat.le_of_ble_eq_true rfl⟩ (fun ir5 Fr5 Gr5 _ locs hp hH hS => ?_)
    obtain ⟨honr5, hT, hptr5⟩ := hp
    have hT : TMm ir5 Fr5 := hT
    have hptr5 : (ir5 78 47).toInt = Int32.toInt (i 78 47) + 1 := hptr5
    have hTL := TMm.lin hT
    have ek_32r5 : Int32.toInt (ir5 78 32) = Int32.toInt x2 := congrArg Int32.toInt (honr5.1 78 32 (Or.inr (by decide)))
    have ek_40r5 : Int32.toInt (ir5 78 40) = Int32.toInt (i 78 40) := congrArg Int32.toInt (honr5.1 78 40 (Or.inr (by decide)))
    refine lv_iload (pc := 91) C0.1 C0.2.1 dX10_newBlock_91 (lv_at hl 0 rfl) ?_
    exact xiret (pc := 93) C0 hr hH hS dX10_newBlock_93 ⟨(RO.tr (RO.f (RO.f (RO.f (RO.f (RO.f (RO.f (RO.f (RO.i RO.rf (by decide)) (by decide)) (by decide)) (by decide)) (by decide)) (by decide)) (by decide)) (by decide)) honr5 (by decide) (by decide)), hT, (show Int32.toInt (ir5 78 32) = _ from by omega), (show _ ≤ Int32.toInt (ir5 78 47) ∧ Int32.toInt (ir5 78 47) ≤ _ from by omega), ex1, ((honr5.2 98 (by decide)).1.trans (show _ = upd (F 98) (Int32.toNatClampNeg (i 78 32)) x1_ from by rw [← ex1]; rfl)), ((honr5.2 99 (by decide)).1.trans (show _ = upd (F 99) (Int32.toNatClampNeg (i 78 32)) x2_ from by rw [← ex1]; rfl)), ((honr5.2 102 (by decide)).1.trans (show _ = upd (F 102) (Int32.toNatClampNeg (i 78 32)) 0 from by rw [← ex1]; rfl))⟩
set_option maxHeartbeats 4000000 in
set_option maxRecDepth 100000 in
theorem m_isCloser (l : Launch) (D : va_G) (tA : Nat → ClassId) (b : Nat) (i F : Nat → Nat → Int32) (G : Nat → Nat → Int64) (x : Int32) (hBR : BR i) (hx6 : 0 ≤ x.toInt ∧ x.toInt < 600) : xMI l yX10_isCloser cX10_isCloser 4 (some .boolean) 0 0 D tA b 78 52 i F G [.ref (b + 78), .int x] (fun r u => u = (i, F, G) ∧ (r = 0 ∨ r = 1)) := by
  refine xstart RX10 rfl (by decide) (Nat.le_of_ble_eq_true rfl) ?_
  intro p e s m below meth c ls C0 hr hH hS hl
  have hl : lv_has ls 4 [(0, .ref (b + 78)), (1, .int x)] := hl
  have rg_x := fb_rng x
  have hBr := hBR
  unfold BR at hBr
  have L4 : ∀ (d : Nat) (k q : Int32) (H : Heap) (locs : List Loc) (ls : Array Slot), (0 ≤ k.toInt) → ((i 78 6).toInt - k.toInt ≤ d) → (q = 0 ∨ q = 1) → Hd D tA b 78 52 zz i F G H → va_S (xA b 78 52) s.heap H locs → lv_has ls 4 [(3, .int k), (2, .int q), (0, .ref (b + 78)), (1, .int x)] → W p l e (xR 0 0) s m ([.ref (b + 78), .int x] : List Value).toArray below meth c H locs 0 0 (MQ below (va_Qi (fun r u => u = (i, F, G) ∧ (r = 0 ∨ r = 1)) (xB D tA b 78 52 zz) (xA b 78 52)) ([.ref (b + 78), .int x] : List Value).toArray s 0 0 (xA b 78 52)) (F0 m 4 ls []) := by
    intro d
    induction d with
    | zero =>
      intro k q H locs ls h1 h2 h3 hH hS hl
      have rg_k := fb_rng k
      have rg_q := fb_rng q
      refine lv_iload_n (pc := 4) C0.1 C0.2.1 dX10_isCloser_4 rfl (lv_at hl 0 rfl) ?_
      refine lv_aload_n (pc := 5) C0.1 C0.2.1 dX10_isCloser_5 rfl (lv_at hl 2 rfl) ?_
      refine xget (pc := 6) C0 hH 78 6 clX10 ⟨Nat.le_of_ble_eq_true rfl, Nat.le_of_ble_eq_true rfl⟩ ⟨rfl, rfl⟩ (Nat.le_of_ble_eq_true rfl) fl_X10_189 (v := .int (i 78 6)) rfl dX10_isCloser_6 ?_
      refine lv_icmp_ge (pc := 9) (tgt := 44) C0.1 C0.2.1 dX10_isCloser_9 (by decide) (fun _ => ?_) (fun c => absurd (Int32.le_iff_toInt_le.mpr (by omega)) c)
      refine lv_iload_n (pc := 44) C0.1 C0.2.1 dX10_isCloser_44 rfl (lv_at hl 1 rfl) ?_
      exact xzret (pc := 45) C0 hr hH hS dX10_isCloser_45 h3 ⟨rfl, h3⟩
    | succ d ih4 =>
      intro k q H locs ls h1 h2 h3 hH hS hl
      have rg_k := fb_rng k
      have rg_q := fb_rng q
      refine lv_iload_n (pc := 4) C0.1 C0.2.1 dX10_isCloser_4 rfl (lv_at hl 0 rfl) ?_
      refine lv_aload_n (pc := 5) C0.1 C0.2.1 dX10_isCloser_5 rfl (lv_at hl 2 rfl) ?_
      refine xget (pc := 6) C0 hH 78 6 clX10 ⟨Nat.le_of_ble_eq_true rfl, Nat.le_of_ble_eq_true rfl⟩ ⟨rfl, rfl⟩ (Nat.le_of_ble_eq_true rfl) fl_X10_189 (v := .int (i 78 6)) rfl dX10_isCloser_6 ?_
      refine lv_icmp_ge (pc := 9) (tgt := 44) C0.1 C0.2.1 dX10_isCloser_9 (by decide) (fun c201 => ?_) (fun c201 => ?_)
      · have c201 := Int32.le_iff_toInt_le.mp c201
        refine lv_iload_n (pc := 44) C0.1 C0.2.1 dX10_isCloser_44 rfl (lv_at hl 1 rfl) ?_
        exact xzret (pc := 45) C0 hr hH hS dX10_isCloser_45 h3 ⟨rfl, h3⟩
      · have c201 : ¬ _ := fun q => c201 (Int32.le_iff_toInt_le.mpr q)
        refine lv_iload_n (pc := 12) C0.1 C0.2.1 dX10_isCloser_12 rfl (lv_at hl 1 rfl) ?_
        refine lv_if_ne (pc := 13) (tgt := 32) C0.1 C0.2.1 dX10_isCloser_13 (by decide) (fun c202 => ?_) (fun c202 => ?_)
        · have : Int32.toInt 0 = 0 := rfl
          have c202 : ¬ _ := fun q => c202 (Int32.toInt_inj.mp q)
          refine lv_iconst (pc := 32) (v := 1) C0.1 C0.2.1 dX10_isCloser_32 (by decide) ?_
          refine lv_goto (pc := 33) (tgt := 37) C0.1 C0.2.1 dX10_isCloser_33 (by decide) ?_
          refine lv_istore_n (pc := 37) (lv' := [(2, .int 1), (3, .int k), (0, .ref (b + 78)), (1, .int x)]) C0.1 C0.2.1 dX10_isCloser_37 rfl hl (by decide) rfl (fun ls hl => ?_)
          obtain ⟨x203, ex203⟩ : ∃ y_ : Int32, y_ = k + 1 := ⟨_, rfl⟩
          have : Int32.toInt 1 = 1 := rfl
          have hx203 : Int32.toInt x203 = Int32.toInt k + Int32.toInt 1 := by rw [ex203]; exact fb_addI (by omega) (by omega)
          refine lv_iinc (pc := 38) (v := x203) (lv' := [(3, .int x203), (2, .int 1), (0, .ref (b + 78)), (1, .int x)]) C0.1 C0.2.1 dX10_isCloser_38 hl (k := 1) rfl (by rw [ex203]; rfl) (by decide) rfl (fun ls hl => ?_)
          refine lv_goto (pc := 41) (tgt := 4) C0.1 C0.2.1 dX10_isCloser_41 (by decide) ?_
          exact ih4 x203 1 _ _ _ (by omega) (by omega) (by decide) hH hS (lv_sub hl [0, 1, 2, 3] rfl)
        · have : Int32.toInt 0 = 0 := rfl
          have c202 := congrArg Int32.toInt c202
          refine lv_aload_n (pc := 16) C0.1 C0.2.1 dX10_isCloser_16 rfl (lv_at hl 2 rfl) ?_
          refine xget (pc := 17) C0 hH 78 7 clX10 ⟨Nat.le_of_ble_eq_true rfl, Nat.le_of_ble_eq_true rfl⟩ ⟨rfl, rfl⟩ (Nat.le_of_ble_eq_true rfl) fl_X10_23 (v := .ref (b + 83)) rfl dX10_isCloser_17 ?_
          refine lv_iload_n (pc := 20) C0.1 C0.2.1 dX10_isCloser_20 rfl (lv_at hl 0 rfl) ?_
          refine xlald (pc := 21) (N := 4) C0 hH 83 ⟨Nat.le_of_ble_eq_true rfl, Nat.le_of_ble_eq_true rfl⟩ ⟨rfl, rfl⟩ (vI (by omega) (by omega)) dX10_isCloser_21 ?_
          refine lv_aload_n (pc := 22) C0.1 C0.2.1 dX10_isCloser_22 rfl (lv_at hl 2 rfl) ?_
          refine xget (pc := 23) C0 hH 78 26 clX10 ⟨Nat.le_of_ble_eq_true rfl, Nat.le_of_ble_eq_true rfl⟩ ⟨rfl, rfl⟩ (Nat.le_of_ble_eq_true rfl) fl_X10_61 (v := .ref (b + 94)) rfl dX10_isCloser_23 ?_
          refine lv_iload_n (pc := 26) C0.1 C0.2.1 dX10_isCloser_26 rfl (lv_at hl 3 rfl) ?_
          refine xlald (pc := 27) (N := 600) C0 hH 94 ⟨Nat.le_of_ble_eq_true rfl, Nat.le_of_ble_eq_true rfl⟩ ⟨rfl, rfl⟩ (vI (by omega) (by omega)) dX10_isCloser_27 ?_
          refine W.lcmp (pc := 28) C0.1 C0.2.1 dX10_isCloser_28 ?_
          refine lv_if_ne (pc := 29) (tgt := 36) C0.1 C0.2.1 dX10_isCloser_29 (by decide) (fun c204 => ?_) (fun c204 => ?_)
          · have c204 := fun q => c204 ((lg_cmp_eq _ _).mpr q)
            refine lv_iconst (pc := 36) (v := 0) C0.1 C0.2.1 dX10_isCloser_36 (by decide) ?_
            refine lv_istore_n (pc := 37) (lv' := [(2, .int 0), (3, .int k), (0, .ref (b + 78)), (1, .int x)]) C0.1 C0.2.1 dX10_isCloser_37 rfl hl (by decide) rfl (fun ls hl => ?_)
            obtain ⟨x205, ex205⟩ : ∃ y_ : Int32, y_ = k + 1 := ⟨_, rfl⟩
            have : Int32.toInt 1 = 1 := rfl
            have hx205 : Int32.toInt x205 = Int32.toInt k + Int32.toInt 1 := by rw [ex205]; exact fb_addI (by omega) (by omega)
            refine lv_iinc (pc := 38) (v := x205) (lv' := [(3, .int x205), (2, .int 0), (0, .ref (b + 78)), (1, .int x)]) C0.1 C0.2.1 dX10_isCloser_38 hl (k := 1) rfl (by rw [ex205]; rfl) (by decide) rfl (fun ls hl => ?_)
            refine lv_goto (pc := 41) (tgt := 4) C0.1 C0.2.1 dX10_isCloser_41 (by decide) ?_
            exact ih4 x205 0 _ _ _ (by omega) (by omega) (by decide) hH hS (lv_sub hl [0, 1, 2, 3] rfl)
          · have c204 := (lg_cmp_eq _ _).mp c204
            refine lv_iconst (pc := 32) (v := 1) C0.1 C0.2.1 dX10_isCloser_32 (by decide) ?_
            refine lv_goto (pc := 33) (tgt := 37) C0.1 C0.2.1 dX10_isCloser_33 (by decide) ?_
            refine lv_istore_n (pc := 37) (lv' := [(2, .int 1), (3, .int k), (0, .ref (b + 78)), (1, .int x)]) C0.1 C0.2.1 dX10_isCloser_37 rfl hl (by decide) rfl (fun ls hl => ?_)
            obtain ⟨x206, ex206⟩ : ∃ y_ : Int32, y_ = k + 1 := ⟨_, rfl⟩
            have : Int32.toInt 1 = 1 := rfl
            have hx206 : Int32.toInt x206 = Int32.toInt k + Int32.toInt 1 := by rw [ex206]; exact fb_addI (by omega) (by omega)
            refine lv_iinc (pc := 38) (v := x206) (lv' := [(3, .int x206), (2, .int 1), (0, .ref (b + 78)), (1, .int x)]) C0.1 C0.2.1 dX10_isCloser_38 hl (k := 1) rfl (by rw [ex206]; rfl) (by decide) rfl (fun ls hl => ?_)
            refine lv_goto (pc := 41) (tgt := 4) C0.1 C0.2.1 dX10_isCloser_41 (by decide) ?_
            exact ih4 x206 1 _ _ _ (by omega) (by omega) (by decide) hH hS (lv_sub hl [0, 1, 2, 3] rfl)
  refine lv_iconst (pc := 0) (v := 0) C0.1 C0.2.1 dX10_isCloser_0 (by decide) ?_
  refine lv_istore_n (pc := 1) (lv' := [(2, .int 0), (0, .ref (b + 78)), (1, .int x)]) C0.1 C0.2.1 dX10_isCloser_1 rfl hl (by decide) rfl (fun ls hl => ?_)
  refine lv_iconst (pc := 2) (v := 0) C0.1 C0.2.1 dX10_isCloser_2 (by decide) ?_
  refine lv_istore_n (pc := 3) (lv' := [(3, .int 0), (2, .int 0), (0, .ref (b + 78)), (1, .int x)]) C0.1 C0.2.1 dX10_isCloser_3 rfl hl (by decide) rfl (fun ls hl => ?_)
  exact L4 4 0 0 _ _ _ (by decide) (by have : Int32.toInt 0 = 0 := rfl; omega) (Or.inl rfl) hH hS (lv_sub hl [0, 1, 2, 3] rfl)
set_option maxHeartbeats 4000000 in
set_option maxRecDepth 100000 in
theorem m_isGoer (l : Launch) (D : va_G) (tA : Nat → ClassId) (b : Nat) (i F : Nat → Nat → Int32) (G : Nat → Nat → Int64) (x : Int32) (hBR : BR i) (hx6 : 0 ≤ x.toInt ∧ x.toInt < 600) : xMI l yX10_isGoer cX10_isGoer 4 (some .boolean) 0 0 D tA b 78 52 i F G [.ref (b + 78), .int x] (fun r u => u = (i, F, G) ∧ (r = 0 ∨ r = 1)) := by
  refine xstart RX10 rfl (by decide) (Nat.le_of_ble_eq_true rfl) ?_
  intro p e s m below meth c ls C0 hr hH hS hl
  have hl : lv_has ls 4 [(0, .ref (b + 78)), (1, .int x)] := hl
  have rg_x := fb_rng x
  have hBr := hBR
  unfold BR at hBr
  have L4 : ∀ (d : Nat) (k q : Int32) (H : Heap) (locs : List Loc) (ls : Array Slot), (0 ≤ k.toInt) → ((i 78 8).toInt - k.toInt ≤ d) → (q = 0 ∨ q = 1) → Hd D tA b 78 52 zz i F G H → va_S (xA b 78 52) s.heap H locs → lv_has ls 4 [(3, .int k), (2, .int q), (0, .ref (b + 78)), (1, .int x)] → W p l e (xR 0 0) s m ([.ref (b + 78), .int x] : List Value).toArray below meth c H locs 0 0 (MQ below (va_Qi (fun r u => u = (i, F, G) ∧ (r = 0 ∨ r = 1)) (xB D tA b 78 52 zz) (xA b 78 52)) ([.ref (b + 78), .int x] : List Value).toArray s 0 0 (xA b 78 52)) (F0 m 4 ls []) := by
    intro d
    induction d with
    | zero =>
      intro k q H locs ls h1 h2 h3 hH hS hl
      have rg_k := fb_rng k
      have rg_q := fb_rng q
      refine lv_iload_n (pc := 4) C0.1 C0.2.1 dX10_isGoer_4 rfl (lv_at hl 0 rfl) ?_
      refine lv_aload_n (pc := 5) C0.1 C0.2.1 dX10_isGoer_5 rfl (lv_at hl 2 rfl) ?_
      refine xget (pc := 6) C0 hH 78 8 clX10 ⟨Nat.le_of_ble_eq_true rfl, Nat.le_of_ble_eq_true rfl⟩ ⟨rfl, rfl⟩ (Nat.le_of_ble_eq_true rfl) fl_X10_192 (v := .int (i 78 8)) rfl dX10_isGoer_6 ?_
      refine lv_icmp_ge (pc := 9) (tgt := 45) C0.1 C0.2.1 dX10_isGoer_9 (by decide) (fun _ => ?_) (fun c => absurd (Int32.le_iff_toInt_le.mpr (by omega)) c)
      refine lv_iload_n (pc := 45) C0.1 C0.2.1 dX10_isGoer_45 rfl (lv_at hl 1 rfl) ?_
      exact xzret (pc := 46) C0 hr hH hS dX10_isGoer_46 h3 ⟨rfl, h3⟩
    | succ d ih4 =>
      intro k q H locs ls h1 h2 h3 hH hS hl
      have rg_k := fb_rng k
      have rg_q := fb_rng q
      refine lv_iload_n (pc := 4) C0.1 C0.2.1 dX10_isGoer_4 rfl (lv_at hl 0 rfl) ?_
      refine lv_aload_n (pc := 5) C0.1 C0.2.1 dX10_isGoer_5 rfl (lv_at hl 2 rfl) ?_
      refine xget (pc := 6) C0 hH 78 8 clX10 ⟨Nat.le_of_ble_eq_true rfl, Nat.le_of_ble_eq_true rfl⟩ ⟨rfl, rfl⟩ (Nat.le_of_ble_eq_true rfl) fl_X10_192 (v := .int (i 78 8)) rfl dX10_isGoer_6 ?_
      refine lv_icmp_ge (pc := 9) (tgt := 45) C0.1 C0.2.1 dX10_isGoer_9 (by decide) (fun c201 => ?_) (fun c201 => ?_)
      · have c201 := Int32.le_iff_toInt_le.mp c201
        refine lv_iload_n (pc := 45) C0.1 C0.2.1 dX10_isGoer_45 rfl (lv_at hl 1 rfl) ?_
        exact xzret (pc := 46) C0 hr hH hS dX10_isGoer_46 h3 ⟨rfl, h3⟩
      · have c201 : ¬ _ := fun q => c201 (Int32.le_iff_toInt_le.mpr q)
        refine lv_iload_n (pc := 12) C0.1 C0.2.1 dX10_isGoer_12 rfl (lv_at hl 1 rfl) ?_
        refine lv_if_ne (pc := 13) (tgt := 33) C0.1 C0.2.1 dX10_isGoer_13 (by decide) (fun c202 => ?_) (fun c202 => ?_)
        · have : Int32.toInt 0 = 0 := rfl
          have c202 : ¬ _ := fun q => c202 (Int32.toInt_inj.mp q)
          refine lv_iconst (pc := 33) (v := 1) C0.1 C0.2.1 dX10_isGoer_33 (by decide) ?_
          refine lv_goto (pc := 34) (tgt := 38) C0.1 C0.2.1 dX10_isGoer_34 (by decide) ?_
          refine lv_istore_n (pc := 38) (lv' := [(2, .int 1), (3, .int k), (0, .ref (b + 78)), (1, .int x)]) C0.1 C0.2.1 dX10_isGoer_38 rfl hl (by decide) rfl (fun ls hl => ?_)
          obtain ⟨x203, ex203⟩ : ∃ y_ : Int32, y_ = k + 1 := ⟨_, rfl⟩
          have : Int32.toInt 1 = 1 := rfl
          have hx203 : Int32.toInt x203 = Int32.toInt k + Int32.toInt 1 := by rw [ex203]; exact fb_addI (by omega) (by omega)
          refine lv_iinc (pc := 39) (v := x203) (lv' := [(3, .int x203), (2, .int 1), (0, .ref (b + 78)), (1, .int x)]) C0.1 C0.2.1 dX10_isGoer_39 hl (k := 1) rfl (by rw [ex203]; rfl) (by decide) rfl (fun ls hl => ?_)
          refine lv_goto (pc := 42) (tgt := 4) C0.1 C0.2.1 dX10_isGoer_42 (by decide) ?_
          exact ih4 x203 1 _ _ _ (by omega) (by omega) (by decide) hH hS (lv_sub hl [0, 1, 2, 3] rfl)
        · have : Int32.toInt 0 = 0 := rfl
          have c202 := congrArg Int32.toInt c202
          refine lv_aload_n (pc := 16) C0.1 C0.2.1 dX10_isGoer_16 rfl (lv_at hl 2 rfl) ?_
          refine xget (pc := 17) C0 hH 78 9 clX10 ⟨Nat.le_of_ble_eq_true rfl, Nat.le_of_ble_eq_true rfl⟩ ⟨rfl, rfl⟩ (Nat.le_of_ble_eq_true rfl) fl_X10_26 (v := .ref (b + 84)) rfl dX10_isGoer_17 ?_
          refine lv_iload_n (pc := 20) C0.1 C0.2.1 dX10_isGoer_20 rfl (lv_at hl 0 rfl) ?_
          refine xiald (pc := 21) (N := 4) C0 hH 84 ⟨Nat.le_of_ble_eq_true rfl, Nat.le_of_ble_eq_true rfl⟩ ⟨rfl, rfl⟩ (vI (by omega) (by omega)) dX10_isGoer_21 ?_
          refine lv_i2l (pc := 22) (v := (F 84 (Int32.toNatClampNeg k)).toInt64) C0.1 C0.2.1 dX10_isGoer_22 rfl ?_
          refine lv_aload_n (pc := 23) C0.1 C0.2.1 dX10_isGoer_23 rfl (lv_at hl 2 rfl) ?_
          refine xget (pc := 24) C0 hH 78 26 clX10 ⟨Nat.le_of_ble_eq_true rfl, Nat.le_of_ble_eq_true rfl⟩ ⟨rfl, rfl⟩ (Nat.le_of_ble_eq_true rfl) fl_X10_61 (v := .ref (b + 94)) rfl dX10_isGoer_24 ?_
          refine lv_iload_n (pc := 27) C0.1 C0.2.1 dX10_isGoer_27 rfl (lv_at hl 3 rfl) ?_
          refine xlald (pc := 28) (N := 600) C0 hH 94 ⟨Nat.le_of_ble_eq_true rfl, Nat.le_of_ble_eq_true rfl⟩ ⟨rfl, rfl⟩ (vI (by omega) (by omega)) dX10_isGoer_28 ?_
          refine W.lcmp (pc := 29) C0.1 C0.2.1 dX10_isGoer_29 ?_
          refine lv_if_ne (pc := 30) (tgt := 37) C0.1 C0.2.1 dX10_isGoer_30 (by decide) (fun c204 => ?_) (fun c204 => ?_)
          · have c204 := fun q => c204 ((lg_cmp_eq _ _).mpr q)
            refine lv_iconst (pc := 37) (v := 0) C0.1 C0.2.1 dX10_isGoer_37 (by decide) ?_
            refine lv_istore_n (pc := 38) (lv' := [(2, .int 0), (3, .int k), (0, .ref (b + 78)), (1, .int x)]) C0.1 C0.2.1 dX10_isGoer_38 rfl hl (by decide) rfl (fun ls hl => ?_)
            obtain ⟨x205, ex205⟩ : ∃ y_ : Int32, y_ = k + 1 := ⟨_, rfl⟩
            have : Int32.toInt 1 = 1 := rfl
            have hx205 : Int32.toInt x205 = Int32.toInt k + Int32.toInt 1 := by rw [ex205]; exact fb_addI (by omega) (by omega)
            refine lv_iinc (pc := 39) (v := x205) (lv' := [(3, .int x205), (2, .int 0), (0, .ref (b + 78)), (1, .int x)]) C0.1 C0.2.1 dX10_isGoer_39 hl (k := 1) rfl (by rw [ex205]; rfl) (by decide) rfl (fun ls hl => ?_)
            refine lv_goto (pc := 42) (tgt := 4) C0.1 C0.2.1 dX10_isGoer_42 (by decide) ?_
            exact ih4 x205 0 _ _ _ (by omega) (by omega) (by decide) hH hS (lv_sub hl [0, 1, 2, 3] rfl)
          · have c204 := (lg_cmp_eq _ _).mp c204
            refine lv_iconst (pc := 33) (v := 1) C0.1 C0.2.1 dX10_isGoer_33 (by decide) ?_
            refine lv_goto (pc := 34) (tgt := 38) C0.1 C0.2.1 dX10_isGoer_34 (by decide) ?_
            refine lv_istore_n (pc := 38) (lv' := [(2, .int 1), (3, .int k), (0, .ref (b + 78)), (1, .int x)]) C0.1 C0.2.1 dX10_isGoer_38 rfl hl (by decide) rfl (fun ls hl => ?_)
            obtain ⟨x206, ex206⟩ : ∃ y_ : Int32, y_ = k + 1 := ⟨_, rfl⟩
            have : Int32.toInt 1 = 1 := rfl
            have hx206 : Int32.toInt x206 = Int32.toInt k + Int32.toInt 1 := by rw [ex206]; exact fb_addI (by omega) (by omega)
            refine lv_iinc (pc := 39) (v := x206) (lv' := [(3, .int x206), (2, .int 1), (0, .ref (b + 78)), (1, .int x)]) C0.1 C0.2.1 dX10_isGoer_39 hl (k := 1) rfl (by rw [ex206]; rfl) (by decide) rfl (fun ls hl => ?_)
            refine lv_goto (pc := 42) (tgt := 4) C0.1 C0.2.1 dX10_isGoer_42 (by decide) ?_
            exact ih4 x206 1 _ _ _ (by omega) (by omega) (by decide) hH hS (lv_sub hl [0, 1, 2, 3] rfl)
  refine lv_iconst (pc := 0) (v := 0) C0.1 C0.2.1 dX10_isGoer_0 (by decide) ?_
  refine lv_istore_n (pc := 1) (lv' := [(2, .int 0), (0, .ref (b + 78)), (1, .int x)]) C0.1 C0.2.1 dX10_isGoer_1 rfl hl (by decide) rfl (fun ls hl => ?_)
  refine lv_iconst (pc := 2) (v := 0) C0.1 C0.2.1 dX10_isGoer_2 (by decide) ?_
  refine lv_istore_n (pc := 3) (lv' := [(3, .int 0), (2, .int 0), (0, .ref (b + 78)), (1, .int x)]) C0.1 C0.2.1 dX10_isGoer_3 rfl hl (by decide) rfl (fun ls hl => ?_)
  exact L4 4 0 0 _ _ _ (by decide) (by have : Int32.toInt 0 = 0 := rfl; omega) (Or.inl rfl) hH hS (lv_sub hl [0, 1, 2, 3] rfl)
set_option maxHeartbeats 4000000 in
set_option maxRecDepth 100000 in
theorem m_openerOf (l : Launch) (D : va_G) (tA : Nat → ClassId) (b : Nat) (i F : Nat → Nat → Int32) (G : Nat → Nat → Int64) (x : Int32) (hBR : BR i) (hx6 : 0 ≤ x.toInt ∧ x.toInt < 600) : xMI l yX10_openerOf cX10_openerOf 3 (some .int) 0 0 D tA b 78 52 i F G [.ref (b + 78), .int x] (fun r u => u = (i, F, G) ∧ True) := by
  refine xstart RX10 rfl (by decide) (Nat.le_of_ble_eq_true rfl) ?_
  intro p e s m below meth c ls C0 hr hH hS hl
  have hl : lv_has ls 3 [(0, .ref (b + 78)), (1, .int x)] := hl
  have rg_x := fb_rng x
  have hBr := hBR
  unfold BR at hBr
  have L2 : ∀ (d : Nat) (k : Int32) (H : Heap) (locs : List Loc) (ls : Array Slot), (0 ≤ k.toInt) → ((i 78 0).toInt - k.toInt ≤ d) → Hd D tA b 78 52 zz i F G H → va_S (xA b 78 52) s.heap H locs → lv_has ls 3 [(2, .int k), (0, .ref (b + 78)), (1, .int x)] → W p l e (xR 0 0) s m ([.ref (b + 78), .int x] : List Value).toArray below meth c H locs 0 0 (MQ below (va_Qi (fun r u => u = (i, F, G) ∧ True) (xB D tA b 78 52 zz) (xA b 78 52)) ([.ref (b + 78), .int x] : List Value).toArray s 0 0 (xA b 78 52)) (F0 m 2 ls []) := by
    intro d
    induction d with
    | zero =>
      intro k H locs ls h1 h2 hH hS hl
      have rg_k := fb_rng k
      refine lv_iload_n (pc := 2) C0.1 C0.2.1 dX10_openerOf_2 rfl (lv_at hl 0 rfl) ?_
      refine lv_aload_n (pc := 3) C0.1 C0.2.1 dX10_openerOf_3 rfl (lv_at hl 1 rfl) ?_
      refine xget (pc := 4) C0 hH 78 0 clX10 ⟨Nat.le_of_ble_eq_true rfl, Nat.le_of_ble_eq_true rfl⟩ ⟨rfl, rfl⟩ (Nat.le_of_ble_eq_true rfl) fl_X10_182 (v := .int (i 78 0)) rfl dX10_openerOf_4 ?_
      refine lv_icmp_ge (pc := 7) (tgt := 50) C0.1 C0.2.1 dX10_openerOf_7 (by decide) (fun _ => ?_) (fun c => absurd (Int32.le_iff_toInt_le.mpr (by omega)) c)
      refine lv_iconst (pc := 50) (v := 0) C0.1 C0.2.1 dX10_openerOf_50 (by decide) ?_
      exact xiret (pc := 51) C0 hr hH hS dX10_openerOf_51 ⟨rfl, trivial⟩
    | succ d ih2 =>
      intro k H locs ls h1 h2 hH hS hl
      have rg_k := fb_rng k
      refine lv_iload_n (pc := 2) C0.1 C0.2.1 dX10_openerOf_2 rfl (lv_at hl 0 rfl) ?_
      refine lv_aload_n (pc := 3) C0.1 C0.2.1 dX10_openerOf_3 rfl (lv_at hl 1 rfl) ?_
      refine xget (pc := 4) C0 hH 78 0 clX10 ⟨Nat.le_of_ble_eq_true rfl, Nat.le_of_ble_eq_true rfl⟩ ⟨rfl, rfl⟩ (Nat.le_of_ble_eq_true rfl) fl_X10_182 (v := .int (i 78 0)) rfl dX10_openerOf_4 ?_
      refine lv_icmp_ge (pc := 7) (tgt := 50) C0.1 C0.2.1 dX10_openerOf_7 (by decide) (fun c201 => ?_) (fun c201 => ?_)
      · have c201 := Int32.le_iff_toInt_le.mp c201
        refine lv_iconst (pc := 50) (v := 0) C0.1 C0.2.1 dX10_openerOf_50 (by decide) ?_
        exact xiret (pc := 51) C0 hr hH hS dX10_openerOf_51 ⟨rfl, trivial⟩
      · have c201 : ¬ _ := fun q => c201 (Int32.le_iff_toInt_le.mpr q)
        refine lv_aload_n (pc := 10) C0.1 C0.2.1 dX10_openerOf_10 rfl (lv_at hl 1 rfl) ?_
        refine xget (pc := 11) C0 hH 78 26 clX10 ⟨Nat.le_of_ble_eq_true rfl, Nat.le_of_ble_eq_true rfl⟩ ⟨rfl, rfl⟩ (Nat.le_of_ble_eq_true rfl) fl_X10_61 (v := .ref (b + 94)) rfl dX10_openerOf_11 ?_
        refine lv_iload_n (pc := 14) C0.1 C0.2.1 dX10_openerOf_14 rfl (lv_at hl 2 rfl) ?_
        refine xlald (pc := 15) (N := 600) C0 hH 94 ⟨Nat.le_of_ble_eq_true rfl, Nat.le_of_ble_eq_true rfl⟩ ⟨rfl, rfl⟩ (vI (by omega) (by omega)) dX10_openerOf_15 ?_
        refine lv_lconst (pc := 16) (v := 0) C0.1 C0.2.1 dX10_openerOf_16 (by decide) ?_
        refine W.lcmp (pc := 17) C0.1 C0.2.1 dX10_openerOf_17 ?_
        refine lv_if_eq (pc := 18) (tgt := 44) C0.1 C0.2.1 dX10_openerOf_18 (by decide) (fun c202 => ?_) (fun c202 => ?_)
        · have c202 := (lg_cmp_eq _ _).mp c202
          obtain ⟨x203, ex203⟩ : ∃ y_ : Int32, y_ = k + 1 := ⟨_, rfl⟩
          have : Int32.toInt 1 = 1 := rfl
          have hx203 : Int32.toInt x203 = Int32.toInt k + Int32.toInt 1 := by rw [ex203]; exact fb_addI (by omega) (by omega)
          refine lv_iinc (pc := 44) (v := x203) (lv' := [(2, .int x203), (0, .ref (b + 78)), (1, .int x)]) C0.1 C0.2.1 dX10_openerOf_44 hl (k := 0) rfl (by rw [ex203]; rfl) (by decide) rfl (fun ls hl => ?_)
          refine lv_goto (pc := 47) (tgt := 2) C0.1 C0.2.1 dX10_openerOf_47 (by decide) ?_
          exact ih2 x203 _ _ _ (by omega) (by omega) hH hS (lv_sub hl [0, 1, 2] rfl)
        · have c202 := fun q => c202 ((lg_cmp_eq _ _).mpr q)
          refine lv_aload_n (pc := 21) C0.1 C0.2.1 dX10_openerOf_21 rfl (lv_at hl 1 rfl) ?_
          refine xget (pc := 22) C0 hH 78 1 clX10 ⟨Nat.le_of_ble_eq_true rfl, Nat.le_of_ble_eq_true rfl⟩ ⟨rfl, rfl⟩ (Nat.le_of_ble_eq_true rfl) fl_X10_7 (v := .ref (b + 79)) rfl dX10_openerOf_22 ?_
          refine lv_iload_n (pc := 25) C0.1 C0.2.1 dX10_openerOf_25 rfl (lv_at hl 0 rfl) ?_
          refine xlald (pc := 26) (N := 8) C0 hH 79 ⟨Nat.le_of_ble_eq_true rfl, Nat.le_of_ble_eq_true rfl⟩ ⟨rfl, rfl⟩ (vI (by omega) (by omega)) dX10_openerOf_26 ?_
          refine lv_aload_n (pc := 27) C0.1 C0.2.1 dX10_openerOf_27 rfl (lv_at hl 1 rfl) ?_
          refine xget (pc := 28) C0 hH 78 26 clX10 ⟨Nat.le_of_ble_eq_true rfl, Nat.le_of_ble_eq_true rfl⟩ ⟨rfl, rfl⟩ (Nat.le_of_ble_eq_true rfl) fl_X10_61 (v := .ref (b + 94)) rfl dX10_openerOf_28 ?_
          refine lv_iload_n (pc := 31) C0.1 C0.2.1 dX10_openerOf_31 rfl (lv_at hl 2 rfl) ?_
          refine xlald (pc := 32) (N := 600) C0 hH 94 ⟨Nat.le_of_ble_eq_true rfl, Nat.le_of_ble_eq_true rfl⟩ ⟨rfl, rfl⟩ (vI (by omega) (by omega)) dX10_openerOf_32 ?_
          refine W.lcmp (pc := 33) C0.1 C0.2.1 dX10_openerOf_33 ?_
          refine lv_if_ne (pc := 34) (tgt := 44) C0.1 C0.2.1 dX10_openerOf_34 (by decide) (fun c204 => ?_) (fun c204 => ?_)
          · have c204 := fun q => c204 ((lg_cmp_eq _ _).mpr q)
            obtain ⟨x205, ex205⟩ : ∃ y_ : Int32, y_ = k + 1 := ⟨_, rfl⟩
            have : Int32.toInt 1 = 1 := rfl
            have hx205 : Int32.toInt x205 = Int32.toInt k + Int32.toInt 1 := by rw [ex205]; exact fb_addI (by omega) (by omega)
            refine lv_iinc (pc := 44) (v := x205) (lv' := [(2, .int x205), (0, .ref (b + 78)), (1, .int x)]) C0.1 C0.2.1 dX10_openerOf_44 hl (k := 0) rfl (by rw [ex205]; rfl) (by decide) rfl (fun ls hl => ?_)
            refine lv_goto (pc := 47) (tgt := 2) C0.1 C0.2.1 dX10_openerOf_47 (by decide) ?_
            exact ih2 x205 _ _ _ (by omega) (by omega) hH hS (lv_sub hl [0, 1, 2] rfl)
          · have c204 := (lg_cmp_eq _ _).mp c204
            refine lv_aload_n (pc := 37) C0.1 C0.2.1 dX10_openerOf_37 rfl (lv_at hl 1 rfl) ?_
            refine xget (pc := 38) C0 hH 78 2 clX10 ⟨Nat.le_of_ble_eq_true rfl, Nat.le_of_ble_eq_true rfl⟩ ⟨rfl, rfl⟩ (Nat.le_of_ble_eq_true rfl) fl_X10_13 (v := .ref (b + 80)) rfl dX10_openerOf_38 ?_
            refine lv_iload_n (pc := 41) C0.1 C0.2.1 dX10_openerOf_41 rfl (lv_at hl 0 rfl) ?_
            refine xiald (pc := 42) (N := 8) C0 hH 80 ⟨Nat.le_of_ble_eq_true rfl, Nat.le_of_ble_eq_true rfl⟩ ⟨rfl, rfl⟩ (vI (by omega) (by omega)) dX10_openerOf_42 ?_
            exact xiret (pc := 43) C0 hr hH hS dX10_openerOf_43 ⟨rfl, trivial⟩
  refine lv_iconst (pc := 0) (v := 0) C0.1 C0.2.1 dX10_openerOf_0 (by decide) ?_
  refine lv_istore_n (pc := 1) (lv' := [(2, .int 0), (0, .ref (b + 78)), (1, .int x)]) C0.1 C0.2.1 dX10_openerOf_1 rfl hl (by decide) rfl (fun ls hl => ?_)
  exact L2 8 0 _ _ _ (by decide) (by have : Int32.toInt 0 = 0 := rfl; omega) hH hS (lv_sub hl [0, 1, 2] rfl)
set_option maxHeartbeats 4000000 in
set_option maxRecDepth 100000 in
theorem m_pairOf (l : Launch) (D : va_G) (tA : Nat → ClassId) (b : Nat) (i F : Nat → Nat → Int32) (G : Nat → Nat → Int64) (x y : Int32) (hBR : BR i) (hx6 : 0 ≤ x.toInt ∧ x.toInt < 600) : xMI l yX10_pairOf cX10_pairOf 4 (some .int) 0 0 D tA b 78 52 i F G [.ref (b + 78), .int x, .int y] (fun r u => u = (i, F, G) ∧ (r.toInt = -9 ∨ (0 ≤ r.toInt ∧ r.toInt < 4))) := by
  refine xstart RX10 rfl (by decide) (Nat.le_of_ble_eq_true rfl) ?_
  intro p e s m below meth c ls C0 hr hH hS hl
  have hl : lv_has ls 4 [(0, .ref (b + 78)), (1, .int x), (2, .int y)] := hl
  have rg_x := fb_rng x
  have rg_y := fb_rng y
  have hBr := hBR
  unfold BR at hBr
  have L2 : ∀ (d : Nat) (k : Int32) (H : Heap) (locs : List Loc) (ls : Array Slot), (0 ≤ k.toInt) → ((i 78 3).toInt - k.toInt ≤ d) → Hd D tA b 78 52 zz i F G H → va_S (xA b 78 52) s.heap H locs → lv_has ls 4 [(3, .int k), (0, .ref (b + 78)), (1, .int x), (2, .int y)] → W p l e (xR 0 0) s m ([.ref (b + 78), .int x, .int y] : List Value).toArray below meth c H locs 0 0 (MQ below (va_Qi (fun r u => u = (i, F, G) ∧ (r.toInt = -9 ∨ (0 ≤ r.toInt ∧ r.toInt < 4))) (xB D tA b 78 52 zz) (xA b 78 52)) ([.ref (b + 78), .int x, .int y] : List Value).toArray s 0 0 (xA b 78 52)) (F0 m 2 ls []) := by
    intro d
    induction d with
    | zero =>
      intro k H locs ls h1 h2 hH hS hl
      have rg_k := fb_rng k
      refine lv_iload_n (pc := 2) C0.1 C0.2.1 dX10_pairOf_2 rfl (lv_at hl 0 rfl) ?_
      refine lv_aload_n (pc := 3) C0.1 C0.2.1 dX10_pairOf_3 rfl (lv_at hl 1 rfl) ?_
      refine xget (pc := 4) C0 hH 78 3 clX10 ⟨Nat.le_of_ble_eq_true rfl, Nat.le_of_ble_eq_true rfl⟩ ⟨rfl, rfl⟩ (Nat.le_of_ble_eq_true rfl) fl_X10_186 (v := .int (i 78 3)) rfl dX10_pairOf_4 ?_
      refine lv_icmp_ge (pc := 7) (tgt := 48) C0.1 C0.2.1 dX10_pairOf_7 (by decide) (fun _ => ?_) (fun c => absurd (Int32.le_iff_toInt_le.mpr (by omega)) c)
      refine lv_bipush (pc := 48) (v := (-9)) C0.1 C0.2.1 dX10_pairOf_48 (by decide) ?_
      exact xiret (pc := 50) C0 hr hH hS dX10_pairOf_50 ⟨rfl, by first | exact Or.inl rfl | exact Or.inr ⟨by omega, by omega⟩⟩
    | succ d ih2 =>
      intro k H locs ls h1 h2 hH hS hl
      have rg_k := fb_rng k
      refine lv_iload_n (pc := 2) C0.1 C0.2.1 dX10_pairOf_2 rfl (lv_at hl 0 rfl) ?_
      refine lv_aload_n (pc := 3) C0.1 C0.2.1 dX10_pairOf_3 rfl (lv_at hl 1 rfl) ?_
      refine xget (pc := 4) C0 hH 78 3 clX10 ⟨Nat.le_of_ble_eq_true rfl, Nat.le_of_ble_eq_true rfl⟩ ⟨rfl, rfl⟩ (Nat.le_of_ble_eq_true rfl) fl_X10_186 (v := .int (i 78 3)) rfl dX10_pairOf_4 ?_
      refine lv_icmp_ge (pc := 7) (tgt := 48) C0.1 C0.2.1 dX10_pairOf_7 (by decide) (fun c201 => ?_) (fun c201 => ?_)
      · have c201 := Int32.le_iff_toInt_le.mp c201
        refine lv_bipush (pc := 48) (v := (-9)) C0.1 C0.2.1 dX10_pairOf_48 (by decide) ?_
        exact xiret (pc := 50) C0 hr hH hS dX10_pairOf_50 ⟨rfl, by first | exact Or.inl rfl | exact Or.inr ⟨by omega, by omega⟩⟩
      · have c201 : ¬ _ := fun q => c201 (Int32.le_iff_toInt_le.mpr q)
        refine lv_aload_n (pc := 10) C0.1 C0.2.1 dX10_pairOf_10 rfl (lv_at hl 1 rfl) ?_
        refine xget (pc := 11) C0 hH 78 26 clX10 ⟨Nat.le_of_ble_eq_true rfl, Nat.le_of_ble_eq_true rfl⟩ ⟨rfl, rfl⟩ (Nat.le_of_ble_eq_true rfl) fl_X10_61 (v := .ref (b + 94)) rfl dX10_pairOf_11 ?_
        refine lv_iload_n (pc := 14) C0.1 C0.2.1 dX10_pairOf_14 rfl (lv_at hl 2 rfl) ?_
        refine xlald (pc := 15) (N := 600) C0 hH 94 ⟨Nat.le_of_ble_eq_true rfl, Nat.le_of_ble_eq_true rfl⟩ ⟨rfl, rfl⟩ (vI (by omega) (by omega)) dX10_pairOf_15 ?_
        refine lv_iload_n (pc := 16) C0.1 C0.2.1 dX10_pairOf_16 rfl (lv_at hl 3 rfl) ?_
        refine lv_if_eq (pc := 17) (tgt := 29) C0.1 C0.2.1 dX10_pairOf_17 (by decide) (fun c202 => ?_) (fun c202 => ?_)
        · have : Int32.toInt 0 = 0 := rfl
          have c202 := congrArg Int32.toInt c202
          refine lv_aload_n (pc := 29) C0.1 C0.2.1 dX10_pairOf_29 rfl (lv_at hl 1 rfl) ?_
          refine xget (pc := 30) C0 hH 78 5 clX10 ⟨Nat.le_of_ble_eq_true rfl, Nat.le_of_ble_eq_true rfl⟩ ⟨rfl, rfl⟩ (Nat.le_of_ble_eq_true rfl) fl_X10_20 (v := .ref (b + 82)) rfl dX10_pairOf_30 ?_
          refine lv_iload_n (pc := 33) C0.1 C0.2.1 dX10_pairOf_33 rfl (lv_at hl 0 rfl) ?_
          refine xiald (pc := 34) (N := 4) C0 hH 82 ⟨Nat.le_of_ble_eq_true rfl, Nat.le_of_ble_eq_true rfl⟩ ⟨rfl, rfl⟩ (vI (by omega) (by omega)) dX10_pairOf_34 ?_
          refine lv_i2l (pc := 35) (v := (F 82 (Int32.toNatClampNeg k)).toInt64) C0.1 C0.2.1 dX10_pairOf_35 rfl ?_
          refine W.lcmp (pc := 36) C0.1 C0.2.1 dX10_pairOf_36 ?_
          refine lv_if_ne (pc := 37) (tgt := 42) C0.1 C0.2.1 dX10_pairOf_37 (by decide) (fun c203 => ?_) (fun c203 => ?_)
          · have c203 := fun q => c203 ((lg_cmp_eq _ _).mpr q)
            obtain ⟨x204, ex204⟩ : ∃ y_ : Int32, y_ = k + 1 := ⟨_, rfl⟩
            have : Int32.toInt 1 = 1 := rfl
            have hx204 : Int32.toInt x204 = Int32.toInt k + Int32.toInt 1 := by rw [ex204]; exact fb_addI (by omega) (by omega)
            refine lv_iinc (pc := 42) (v := x204) (lv' := [(3, .int x204), (0, .ref (b + 78)), (1, .int x), (2, .int y)]) C0.1 C0.2.1 dX10_pairOf_42 hl (k := 0) rfl (by rw [ex204]; rfl) (by decide) rfl (fun ls hl => ?_)
            refine lv_goto (pc := 45) (tgt := 2) C0.1 C0.2.1 dX10_pairOf_45 (by decide) ?_
            exact ih2 x204 _ _ _ (by omega) (by omega) hH hS (lv_sub hl [0, 1, 2, 3] rfl)
          · have c203 := (lg_cmp_eq _ _).mp c203
            refine lv_iload_n (pc := 40) C0.1 C0.2.1 dX10_pairOf_40 rfl (lv_at hl 0 rfl) ?_
            exact xiret (pc := 41) C0 hr hH hS dX10_pairOf_41 ⟨rfl, by first | exact Or.inl rfl | exact Or.inr ⟨by omega, by omega⟩⟩
        · have : Int32.toInt 0 = 0 := rfl
          have c202 : ¬ _ := fun q => c202 (Int32.toInt_inj.mp q)
          refine lv_aload_n (pc := 20) C0.1 C0.2.1 dX10_pairOf_20 rfl (lv_at hl 1 rfl) ?_
          refine xget (pc := 21) C0 hH 78 4 clX10 ⟨Nat.le_of_ble_eq_true rfl, Nat.le_of_ble_eq_true rfl⟩ ⟨rfl, rfl⟩ (Nat.le_of_ble_eq_true rfl) fl_X10_17 (v := .ref (b + 81)) rfl dX10_pairOf_21 ?_
          refine lv_iload_n (pc := 24) C0.1 C0.2.1 dX10_pairOf_24 rfl (lv_at hl 0 rfl) ?_
          refine xiald (pc := 25) (N := 4) C0 hH 81 ⟨Nat.le_of_ble_eq_true rfl, Nat.le_of_ble_eq_true rfl⟩ ⟨rfl, rfl⟩ (vI (by omega) (by omega)) dX10_pairOf_25 ?_
          refine lv_goto (pc := 26) (tgt := 35) C0.1 C0.2.1 dX10_pairOf_26 (by decide) ?_
          refine lv_i2l (pc := 35) (v := (F 81 (Int32.toNatClampNeg k)).toInt64) C0.1 C0.2.1 dX10_pairOf_35 rfl ?_
          refine W.lcmp (pc := 36) C0.1 C0.2.1 dX10_pairOf_36 ?_
          refine lv_if_ne (pc := 37) (tgt := 42) C0.1 C0.2.1 dX10_pairOf_37 (by decide) (fun c205 => ?_) (fun c205 => ?_)
          · have c205 := fun q => c205 ((lg_cmp_eq _ _).mpr q)
            obtain ⟨x206, ex206⟩ : ∃ y_ : Int32, y_ = k + 1 := ⟨_, rfl⟩
            have : Int32.toInt 1 = 1 := rfl
            have hx206 : Int32.toInt x206 = Int32.toInt k + Int32.toInt 1 := by rw [ex206]; exact fb_addI (by omega) (by omega)
            refine lv_iinc (pc := 42) (v := x206) (lv' := [(3, .int x206), (0, .ref (b + 78)), (1, .int x), (2, .int y)]) C0.1 C0.2.1 dX10_pairOf_42 hl (k := 0) rfl (by rw [ex206]; rfl) (by decide) rfl (fun ls hl => ?_)
            refine lv_goto (pc := 45) (tgt := 2) C0.1 C0.2.1 dX10_pairOf_45 (by decide) ?_
            exact ih2 x206 _ _ _ (by omega) (by omega) hH hS (lv_sub hl [0, 1, 2, 3] rfl)
          · have c205 := (lg_cmp_eq _ _).mp c205
            refine lv_iload_n (pc := 40) C0.1 C0.2.1 dX10_pairOf_40 rfl (lv_at hl 0 rfl) ?_
            exact xiret (pc := 41) C0 hr hH hS dX10_pairOf_41 ⟨rfl, by first | exact Or.inl rfl | exact Or.inr ⟨by omega, by omega⟩⟩
  refine lv_iconst (pc := 0) (v := 0) C0.1 C0.2.1 dX10_pairOf_0 (by decide) ?_
  refine lv_istore_n (pc := 1) (lv' := [(3, .int 0), (0, .ref (b + 78)), (1, .int x), (2, .int y)]) C0.1 C0.2.1 dX10_pairOf_1 rfl hl (by decide) rfl (fun ls hl => ?_)
  exact L2 4 0 _ _ _ (by decide) (by have : Int32.toInt 0 = 0 := rfl; omega) hH hS (lv_sub hl [0, 1, 2, 3] rfl)
set_option maxHeartbeats 4000000 in
set_option maxRecDepth 100000 in
theorem m_topmost (l : Launch) (D : va_G) (tA : Nat → ClassId) (b : Nat) (i F : Nat → Nat → Int32) (G : Nat → Nat → Int64) (k : Int) (hT : TMm i F) (hP : PMm k i F) : xMI l yX10_topmost cX10_topmost 1 (some .int) 0 0 D tA b 78 52 i F G [.ref (b + 78)] (fun r u => u = (i, F, G) ∧ (0 ≤ r.toInt ∧ r.toInt < (i 78 32).toInt) ∧ ((1 < (i 78 51).toInt ∨ 0 < k) → 1 ≤ (F 102 (Int32.toNatClampNeg r)).toInt) ∧ ((i 78 51).toInt = 1 → r = 0)) := by
  refine xstart RX10 rfl (by decide) (Nat.le_of_ble_eq_true rfl) ?_
  intro p e s m below meth c ls C0 hr hH hS hl
  have hl : lv_has ls 1 [(0, .ref (b + 78))] := hl
  have hTL := TMm.lin hT
  have hPl := hP.1
  refine lv_aload_n (pc := 0) C0.1 C0.2.1 dX10_topmost_0 rfl (lv_at hl 0 rfl) ?_
  refine xget (pc := 1) C0 hH 78 50 clX10 ⟨Nat.le_of_ble_eq_true rfl, Nat.le_of_ble_eq_true rfl⟩ ⟨rfl, rfl⟩ (Nat.le_of_ble_eq_true rfl) fl_X10_118 (v := .ref (b + 113)) rfl dX10_topmost_1 ?_
  refine lv_aload_n (pc := 4) C0.1 C0.2.1 dX10_topmost_4 rfl (lv_at hl 0 rfl) ?_
  refine xget (pc := 5) C0 hH 78 51 clX10 ⟨Nat.le_of_ble_eq_true rfl, Nat.le_of_ble_eq_true rfl⟩ ⟨rfl, rfl⟩ (Nat.le_of_ble_eq_true rfl) fl_X10_293 (v := .int (i 78 51)) rfl dX10_topmost_5 ?_
  refine lv_iconst (pc := 8) (v := 1) C0.1 C0.2.1 dX10_topmost_8 (by decide) ?_
  have : Int32.toInt 1 = 1 := rfl
  refine lv_isub (pc := 9) C0.1 C0.2.1 dX10_topmost_9 ?_
  refine lv_topi (fun x1 ex1 => ?_)
  have hx1 : Int32.toInt x1 = Int32.toInt (i 78 51) - Int32.toInt 1 := by rw [ex1]; exact fb_subI (by omega) (by omega)
  refine xiald (pc := 10) (N := 1202) C0 hH 113 ⟨Nat.le_of_ble_eq_true rfl, Nat.le_of_ble_eq_true rfl⟩ ⟨rfl, rfl⟩ (vI (by omega) (by omega)) dX10_topmost_10 ?_
  exact xiret (pc := 11) C0 hr hH hS dX10_topmost_11 ⟨rfl, (PMm.tp hP (x := x1) (by omega)).1.1, (PMm.tp hP (x := x1) (by omega)).1.2, (PMm.tp hP (x := x1) (by omega)).2⟩
