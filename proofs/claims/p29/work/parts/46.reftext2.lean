set_option maxRecDepth 20000 in
theorem fl_X10_211 : Cond.fieldLink RX10 211 (TX10 15).1 (TX10 15).2.1 (TX10 15).2.2.1 ∈ WALL := wm 1039 (by decide +kernel) rfl
set_option maxRecDepth 20000 in
theorem cw_X10_226 : CwV RX10 226 yX10_lines cX10_lines 3 (some .int) 0 := ⟨wm 1319 (by decide +kernel) rfl, wm 1321 (by decide +kernel) rfl, wms 37 (by decide +kernel) rfl, wm 11 (by decide +kernel) rfl, wm 1322 rfl rfl, by decide +kernel⟩
set_option maxRecDepth 20000 in
theorem kl_X10_230 : Cond.constantLong RX10 230 (-40) ∈ WALL := wm 1323 (by decide +kernel) rfl
set_option maxRecDepth 20000 in
theorem kl_X10_232 : Cond.constantLong RX10 232 40 ∈ WALL := wm 1324 (by decide +kernel) rfl
set_option maxRecDepth 20000 in
theorem cw_X10_234 : CwV RX10 234 yX10_mayShift cX10_mayShift 5 (some .int) 2 := ⟨wm 1325 (by decide +kernel) rfl, wm 1327 (by decide +kernel) rfl, wms 38 (by decide +kernel) rfl, wm 11 (by decide +kernel) rfl, wm 1328 rfl rfl, by decide +kernel⟩
set_option maxRecDepth 20000 in
theorem cw_X10_238 : CwV RX10 238 yX10_move cX10_move 5 none 2 := ⟨wm 1333 (by decide +kernel) rfl, wm 1335 (by decide +kernel) rfl, wms 40 (by decide +kernel) rfl, wm 11 (by decide +kernel) rfl, wm 1336 rfl rfl, by decide +kernel⟩
set_option maxRecDepth 20000 in
theorem fl_X10_242 : Cond.fieldLink RX10 242 (TX10 14).1 (TX10 14).2.1 (TX10 14).2.2.1 ∈ WALL := wm 1038 (by decide +kernel) rfl
theorem dX10_cut_0 : decode cX10_cut 0 = .ok (.iload_n 1, 1) := by decide +kernel
theorem dX10_cut_1 : decode cX10_cut 1 = .ok (.i2l, 1) := by decide +kernel
theorem dX10_cut_2 : decode cX10_cut 2 = .ok (.lconst 0, 1) := by decide +kernel
theorem dX10_cut_3 : decode cX10_cut 3 = .ok (.aload_n 0, 1) := by decide +kernel
theorem dX10_cut_4 : decode cX10_cut 4 = .ok (.getfield 219, 3) := by decide +kernel
theorem dX10_cut_7 : decode cX10_cut 7 = .ok (.i2l, 1) := by decide +kernel
theorem dX10_cut_8 : decode cX10_cut 8 = .ok (.invokestatic 175, 3) := by decide +kernel
theorem dX10_cut_11 : decode cX10_cut 11 = .ok (.ifCond .ne 6, 3) := by decide +kernel
theorem dX10_cut_17 : decode cX10_cut 17 = .ok (.aload_n 0, 1) := by decide +kernel
theorem dX10_cut_18 : decode cX10_cut 18 = .ok (.getfield 219, 3) := by decide +kernel
theorem dX10_cut_21 : decode cX10_cut 21 = .ok (.iload_n 1, 1) := by decide +kernel
theorem dX10_cut_22 : decode cX10_cut 22 = .ok (.isub, 1) := by decide +kernel
theorem dX10_cut_23 : decode cX10_cut 23 = .ok (.istore_n 2, 1) := by decide +kernel
theorem dX10_cut_24 : decode cX10_cut 24 = .ok (.aload_n 0, 1) := by decide +kernel
theorem dX10_cut_25 : decode cX10_cut 25 = .ok (.iload_n 1, 1) := by decide +kernel
theorem dX10_cut_26 : decode cX10_cut 26 = .ok (.putfield 219, 3) := by decide +kernel
theorem dX10_cut_29 : decode cX10_cut 29 = .ok (.aload_n 0, 1) := by decide +kernel
theorem dX10_cut_30 : decode cX10_cut 30 = .ok (.iconst 0, 1) := by decide +kernel
theorem dX10_cut_31 : decode cX10_cut 31 = .ok (.putfield 211, 3) := by decide +kernel
theorem dX10_cut_34 : decode cX10_cut 34 = .ok (.iload_n 2, 1) := by decide +kernel
theorem dX10_cut_35 : decode cX10_cut 35 = .ok (.ireturn, 1) := by decide +kernel
theorem dX10_cut_14 : decode cX10_cut 14 = .ok (.bipush (-2), 2) := by decide +kernel
theorem dX10_cut_16 : decode cX10_cut 16 = .ok (.ireturn, 1) := by decide +kernel
theorem dX10_byteAt_0 : decode cX10_byteAt 0 = .ok (.iload_n 1, 1) := by decide +kernel
theorem dX10_byteAt_1 : decode cX10_byteAt 1 = .ok (.i2l, 1) := by decide +kernel
theorem dX10_byteAt_2 : decode cX10_byteAt 2 = .ok (.lconst 0, 1) := by decide +kernel
theorem dX10_byteAt_3 : decode cX10_byteAt 3 = .ok (.aload_n 0, 1) := by decide +kernel
theorem dX10_byteAt_4 : decode cX10_byteAt 4 = .ok (.getfield 219, 3) := by decide +kernel
theorem dX10_byteAt_7 : decode cX10_byteAt 7 = .ok (.iconst 1, 1) := by decide +kernel
theorem dX10_byteAt_8 : decode cX10_byteAt 8 = .ok (.isub, 1) := by decide +kernel
theorem dX10_byteAt_9 : decode cX10_byteAt 9 = .ok (.i2l, 1) := by decide +kernel
theorem dX10_byteAt_10 : decode cX10_byteAt 10 = .ok (.invokestatic 175, 3) := by decide +kernel
theorem dX10_byteAt_13 : decode cX10_byteAt 13 = .ok (.ifCond .eq 16, 3) := by decide +kernel
theorem dX10_byteAt_29 : decode cX10_byteAt 29 = .ok (.bipush (-12), 2) := by decide +kernel
theorem dX10_byteAt_31 : decode cX10_byteAt 31 = .ok (.ireturn, 1) := by decide +kernel
theorem dX10_byteAt_16 : decode cX10_byteAt 16 = .ok (.aload_n 0, 1) := by decide +kernel
theorem dX10_byteAt_17 : decode cX10_byteAt 17 = .ok (.getfield 29, 3) := by decide +kernel
theorem dX10_byteAt_20 : decode cX10_byteAt 20 = .ok (.iload_n 1, 1) := by decide +kernel
theorem dX10_byteAt_21 : decode cX10_byteAt 21 = .ok (.baload, 1) := by decide +kernel
theorem dX10_byteAt_22 : decode cX10_byteAt 22 = .ok (.sipush 255, 3) := by decide +kernel
theorem dX10_byteAt_25 : decode cX10_byteAt 25 = .ok (.iand, 1) := by decide +kernel
theorem dX10_byteAt_26 : decode cX10_byteAt 26 = .ok (.goto 5, 3) := by decide +kernel
theorem dX10_shift_0 : decode cX10_shift 0 = .ok (.iload_n 1, 1) := by decide +kernel
theorem dX10_shift_1 : decode cX10_shift 1 = .ok (.i2l, 1) := by decide +kernel
theorem dX10_shift_2 : decode cX10_shift 2 = .ok (.lconst 0, 1) := by decide +kernel
theorem dX10_shift_3 : decode cX10_shift 3 = .ok (.aload_n 0, 1) := by decide +kernel
theorem dX10_shift_4 : decode cX10_shift 4 = .ok (.invokevirtual 226, 3) := by decide +kernel
theorem dX10_shift_7 : decode cX10_shift 7 = .ok (.iconst 1, 1) := by decide +kernel
theorem dX10_shift_8 : decode cX10_shift 8 = .ok (.isub, 1) := by decide +kernel
theorem dX10_shift_9 : decode cX10_shift 9 = .ok (.i2l, 1) := by decide +kernel
theorem dX10_shift_10 : decode cX10_shift 10 = .ok (.invokestatic 175, 3) := by decide +kernel
theorem dX10_shift_13 : decode cX10_shift 13 = .ok (.ifCond .ne 5, 3) := by decide +kernel
theorem dX10_shift_18 : decode cX10_shift 18 = .ok (.iload_n 2, 1) := by decide +kernel
theorem dX10_shift_19 : decode cX10_shift 19 = .ok (.i2l, 1) := by decide +kernel
theorem dX10_shift_20 : decode cX10_shift 20 = .ok (.ldc2_w 230, 3) := by decide +kernel
theorem dX10_shift_23 : decode cX10_shift 23 = .ok (.ldc2_w 232, 3) := by decide +kernel
theorem dX10_shift_26 : decode cX10_shift 26 = .ok (.invokestatic 175, 3) := by decide +kernel
theorem dX10_shift_29 : decode cX10_shift 29 = .ok (.ifCond .ne 6, 3) := by decide +kernel
theorem dX10_shift_35 : decode cX10_shift 35 = .ok (.aload_n 0, 1) := by decide +kernel
theorem dX10_shift_36 : decode cX10_shift 36 = .ok (.iload_n 1, 1) := by decide +kernel
theorem dX10_shift_37 : decode cX10_shift 37 = .ok (.iload_n 2, 1) := by decide +kernel
theorem dX10_shift_38 : decode cX10_shift 38 = .ok (.invokevirtual 234, 3) := by decide +kernel
theorem dX10_shift_41 : decode cX10_shift 41 = .ok (.istore_n 3, 1) := by decide +kernel
theorem dX10_shift_42 : decode cX10_shift 42 = .ok (.iload_n 3, 1) := by decide +kernel
theorem dX10_shift_43 : decode cX10_shift 43 = .ok (.ifCond .ge 5, 3) := by decide +kernel
theorem dX10_shift_48 : decode cX10_shift 48 = .ok (.aload_n 0, 1) := by decide +kernel
theorem dX10_shift_49 : decode cX10_shift 49 = .ok (.iload_n 1, 1) := by decide +kernel
theorem dX10_shift_50 : decode cX10_shift 50 = .ok (.iload_n 2, 1) := by decide +kernel
theorem dX10_shift_51 : decode cX10_shift 51 = .ok (.invokevirtual 238, 3) := by decide +kernel
theorem dX10_shift_54 : decode cX10_shift 54 = .ok (.aload_n 0, 1) := by decide +kernel
theorem dX10_shift_55 : decode cX10_shift 55 = .ok (.iconst 0, 1) := by decide +kernel
theorem dX10_shift_56 : decode cX10_shift 56 = .ok (.putfield 211, 3) := by decide +kernel
theorem dX10_shift_59 : decode cX10_shift 59 = .ok (.iconst 1, 1) := by decide +kernel
theorem dX10_shift_60 : decode cX10_shift 60 = .ok (.ireturn, 1) := by decide +kernel
theorem dX10_shift_46 : decode cX10_shift 46 = .ok (.iload_n 3, 1) := by decide +kernel
theorem dX10_shift_47 : decode cX10_shift 47 = .ok (.ireturn, 1) := by decide +kernel
theorem dX10_shift_32 : decode cX10_shift 32 = .ok (.bipush (-2), 2) := by decide +kernel
theorem dX10_shift_34 : decode cX10_shift 34 = .ok (.ireturn, 1) := by decide +kernel
theorem dX10_shift_16 : decode cX10_shift 16 = .ok (.iconst (-1), 1) := by decide +kernel
theorem dX10_shift_17 : decode cX10_shift 17 = .ok (.ireturn, 1) := by decide +kernel
theorem dX10_keep_2 : decode cX10_keep 2 = .ok (.iload_n 1, 1) := by decide +kernel
theorem dX10_keep_3 : decode cX10_keep 3 = .ok (.aload_n 0, 1) := by decide +kernel
theorem dX10_keep_4 : decode cX10_keep 4 = .ok (.getfield 219, 3) := by decide +kernel
theorem dX10_keep_7 : decode cX10_keep 7 = .ok (.if_icmp .ge 21, 3) := by decide +kernel
theorem dX10_keep_28 : decode cX10_keep 28 = .ok (.aload_n 0, 1) := by decide +kernel
theorem dX10_keep_29 : decode cX10_keep 29 = .ok (.aload_n 0, 1) := by decide +kernel
theorem dX10_keep_30 : decode cX10_keep 30 = .ok (.getfield 219, 3) := by decide +kernel
theorem dX10_keep_33 : decode cX10_keep 33 = .ok (.putfield 242, 3) := by decide +kernel
theorem dX10_keep_36 : decode cX10_keep 36 = .ok (.aload_n 0, 1) := by decide +kernel
theorem dX10_keep_37 : decode cX10_keep 37 = .ok (.getfield 219, 3) := by decide +kernel
theorem dX10_keep_40 : decode cX10_keep 40 = .ok (.ireturn, 1) := by decide +kernel
theorem dX10_keep_10 : decode cX10_keep 10 = .ok (.aload_n 0, 1) := by decide +kernel
theorem dX10_keep_11 : decode cX10_keep 11 = .ok (.getfield 33, 3) := by decide +kernel
theorem dX10_keep_14 : decode cX10_keep 14 = .ok (.iload_n 1, 1) := by decide +kernel
theorem dX10_keep_15 : decode cX10_keep 15 = .ok (.aload_n 0, 1) := by decide +kernel
theorem dX10_keep_16 : decode cX10_keep 16 = .ok (.getfield 29, 3) := by decide +kernel
theorem dX10_keep_19 : decode cX10_keep 19 = .ok (.iload_n 1, 1) := by decide +kernel
theorem dX10_keep_20 : decode cX10_keep 20 = .ok (.baload, 1) := by decide +kernel
theorem dX10_keep_21 : decode cX10_keep 21 = .ok (.bastore, 1) := by decide +kernel
theorem dX10_keep_22 : decode cX10_keep 22 = .ok (.iinc 1 1, 3) := by decide +kernel
theorem dX10_keep_25 : decode cX10_keep 25 = .ok (.goto (-23), 3) := by decide +kernel
theorem dX10_keep_0 : decode cX10_keep 0 = .ok (.iconst 0, 1) := by decide +kernel
theorem dX10_keep_1 : decode cX10_keep 1 = .ok (.istore_n 1, 1) := by decide +kernel
theorem dX10_feed_47 : decode cX10_feed 47 = .ok (.iload 4, 2) := by decide +kernel
theorem dX10_feed_49 : decode cX10_feed 49 = .ok (.iload_n 3, 1) := by decide +kernel
theorem dX10_feed_50 : decode cX10_feed 50 = .ok (.if_icmp .ge 30, 3) := by decide +kernel
theorem dX10_feed_80 : decode cX10_feed 80 = .ok (.aload_n 0, 1) := by decide +kernel
theorem dX10_feed_81 : decode cX10_feed 81 = .ok (.dup, 1) := by decide +kernel
theorem dX10_feed_82 : decode cX10_feed 82 = .ok (.getfield 219, 3) := by decide +kernel
theorem dX10_feed_85 : decode cX10_feed 85 = .ok (.iload_n 3, 1) := by decide +kernel
theorem dX10_feed_86 : decode cX10_feed 86 = .ok (.iadd, 1) := by decide +kernel
theorem dX10_feed_87 : decode cX10_feed 87 = .ok (.putfield 219, 3) := by decide +kernel
theorem dX10_feed_90 : decode cX10_feed 90 = .ok (.aload_n 0, 1) := by decide +kernel
theorem dX10_feed_91 : decode cX10_feed 91 = .ok (.iconst 0, 1) := by decide +kernel
theorem dX10_feed_92 : decode cX10_feed 92 = .ok (.putfield 211, 3) := by decide +kernel
theorem dX10_feed_95 : decode cX10_feed 95 = .ok (.aload_n 0, 1) := by decide +kernel
theorem dX10_feed_96 : decode cX10_feed 96 = .ok (.getfield 219, 3) := by decide +kernel
theorem dX10_feed_99 : decode cX10_feed 99 = .ok (.ireturn, 1) := by decide +kernel
theorem dX10_feed_53 : decode cX10_feed 53 = .ok (.aload_n 0, 1) := by decide +kernel
theorem dX10_feed_54 : decode cX10_feed 54 = .ok (.getfield 29, 3) := by decide +kernel
theorem dX10_feed_57 : decode cX10_feed 57 = .ok (.aload_n 0, 1) := by decide +kernel
theorem dX10_feed_58 : decode cX10_feed 58 = .ok (.getfield 219, 3) := by decide +kernel
theorem dX10_feed_61 : decode cX10_feed 61 = .ok (.iload 4, 2) := by decide +kernel
theorem dX10_feed_63 : decode cX10_feed 63 = .ok (.iadd, 1) := by decide +kernel
theorem dX10_feed_64 : decode cX10_feed 64 = .ok (.lload_n 1, 1) := by decide +kernel
theorem dX10_feed_65 : decode cX10_feed 65 = .ok (.bipush 8, 2) := by decide +kernel
theorem dX10_feed_67 : decode cX10_feed 67 = .ok (.iload 4, 2) := by decide +kernel
theorem dX10_feed_69 : decode cX10_feed 69 = .ok (.imul, 1) := by decide +kernel
theorem dX10_feed_70 : decode cX10_feed 70 = .ok (.lushr, 1) := by decide +kernel
theorem dX10_feed_71 : decode cX10_feed 71 = .ok (.l2i, 1) := by decide +kernel
theorem dX10_feed_72 : decode cX10_feed 72 = .ok (.i2b, 1) := by decide +kernel
theorem dX10_feed_73 : decode cX10_feed 73 = .ok (.bastore, 1) := by decide +kernel
theorem dX10_feed_74 : decode cX10_feed 74 = .ok (.iinc 4 1, 3) := by decide +kernel
theorem dX10_feed_77 : decode cX10_feed 77 = .ok (.goto (-30), 3) := by decide +kernel
theorem dX10_feed_2 : decode cX10_feed 2 = .ok (.iload_n 3, 1) := by decide +kernel
theorem dX10_feed_3 : decode cX10_feed 3 = .ok (.bipush 8, 2) := by decide +kernel
theorem dX10_feed_5 : decode cX10_feed 5 = .ok (.if_icmp .ge 24, 3) := by decide +kernel
theorem dX10_feed_29 : decode cX10_feed 29 = .ok (.aload_n 0, 1) := by decide +kernel
theorem dX10_feed_30 : decode cX10_feed 30 = .ok (.getfield 219, 3) := by decide +kernel
theorem dX10_feed_33 : decode cX10_feed 33 = .ok (.iload_n 3, 1) := by decide +kernel
theorem dX10_feed_34 : decode cX10_feed 34 = .ok (.iadd, 1) := by decide +kernel
theorem dX10_feed_35 : decode cX10_feed 35 = .ok (.sipush 600, 3) := by decide +kernel
theorem dX10_feed_38 : decode cX10_feed 38 = .ok (.if_icmp .le 6, 3) := by decide +kernel
theorem dX10_feed_44 : decode cX10_feed 44 = .ok (.iconst 0, 1) := by decide +kernel
theorem dX10_feed_45 : decode cX10_feed 45 = .ok (.istore 4, 2) := by decide +kernel
theorem dX10_feed_41 : decode cX10_feed 41 = .ok (.bipush (-4), 2) := by decide +kernel
theorem dX10_feed_43 : decode cX10_feed 43 = .ok (.ireturn, 1) := by decide +kernel
theorem dX10_feed_8 : decode cX10_feed 8 = .ok (.lload_n 1, 1) := by decide +kernel
theorem dX10_feed_9 : decode cX10_feed 9 = .ok (.bipush 8, 2) := by decide +kernel
theorem dX10_feed_11 : decode cX10_feed 11 = .ok (.iload_n 3, 1) := by decide +kernel
theorem dX10_feed_12 : decode cX10_feed 12 = .ok (.imul, 1) := by decide +kernel
theorem dX10_feed_13 : decode cX10_feed 13 = .ok (.lushr, 1) := by decide +kernel
theorem dX10_feed_14 : decode cX10_feed 14 = .ok (.ldc2_w 169, 3) := by decide +kernel
theorem dX10_feed_17 : decode cX10_feed 17 = .ok (.land, 1) := by decide +kernel
theorem dX10_feed_18 : decode cX10_feed 18 = .ok (.lconst 0, 1) := by decide +kernel
theorem dX10_feed_19 : decode cX10_feed 19 = .ok (.lcmp, 1) := by decide +kernel
theorem dX10_feed_20 : decode cX10_feed 20 = .ok (.ifCond .eq 9, 3) := by decide +kernel
theorem dX10_feed_23 : decode cX10_feed 23 = .ok (.iinc 3 1, 3) := by decide +kernel
theorem dX10_feed_26 : decode cX10_feed 26 = .ok (.goto (-24), 3) := by decide +kernel
theorem dX10_feed_0 : decode cX10_feed 0 = .ok (.iconst 0, 1) := by decide +kernel
theorem dX10_feed_1 : decode cX10_feed 1 = .ok (.istore_n 3, 1) := by decide +kernel
set_option maxHeartbeats 4000000 in
set_option maxRecDepth 100000 in
theorem m_cut (l : Launch) (D : va_G) (tA : Nat → ClassId) (b : Nat) (i F : Nat → Nat → Int32) (G : Nat → Nat → Int64) (x : Int32) (hsz : 0 ≤ (i 78 12).toInt ∧ (i 78 12).toInt ≤ 600) (hbt : BT (F 85)) : xMI l yX10_cut cX10_cut 3 (some .int) 1 25 D tA b 78 52 i F G [.ref (b + 78), .int x] (fun r u => RO [12, 15] [85] i F G u ∧ (0 ≤ (u.1 78 12).toInt ∧ (u.1 78 12).toInt ≤ 600) ∧ BT (u.2.1 85) ∧ (u.1 78 15 = i 78 15 ∨ u.1 78 15 = 0)) := by
  refine xstart RX10 rfl (by decide) (Nat.le_of_ble_eq_true rfl) ?_
  intro p e s m below meth c ls C0 hr hH hS hl
  have hl : lv_has ls 3 [(0, .ref (b + 78)), (1, .int x)] := hl
  have rg_x := fb_rng x
  refine lv_iload_n (pc := 0) C0.1 C0.2.1 dX10_cut_0 rfl (lv_at hl 1 rfl) ?_
  refine lv_i2l (pc := 1) (v := x.toInt64) C0.1 C0.2.1 dX10_cut_1 rfl ?_
  refine lv_lconst (pc := 2) (v := 0) C0.1 C0.2.1 dX10_cut_2 (by decide) ?_
  refine lv_aload_n (pc := 3) C0.1 C0.2.1 dX10_cut_3 rfl (lv_at hl 0 rfl) ?_
  refine xget (pc := 4) C0 hH 78 12 clX10 ⟨Nat.le_of_ble_eq_true rfl, Nat.le_of_ble_eq_true rfl⟩ ⟨rfl, rfl⟩ (Nat.le_of_ble_eq_true rfl) fl_X10_219 (v := .int (i 78 12)) rfl dX10_cut_4 ?_
  refine lv_i2l (pc := 7) (v := (i 78 12).toInt64) C0.1 C0.2.1 dX10_cut_7 rfl ?_
  refine xcSI (pc := 8) [.long x.toInt64, .long 0, .long ((i 78 12).toInt64)] (c_X10_in l D tA b 78 52 i F G x.toInt64 0 ((i 78 12).toInt64)) C0 hH hS cw_X10_175 rfl ⟨Nat.le_of_ble_eq_true rfl, Nat.le_of_ble_eq_true rfl⟩ hl.1 rfl (Nat.le_of_ble_eq_true rfl) dX10_cut_8 ⟨Nat.le_of_ble_eq_true rfl, Nat.le_of_ble_eq_true rfl⟩ (fun r1 ir1 Fr1 Gr1 _ locs hp hH hS => ?_)
  obtain ⟨hu, rfl⟩ := hp
  cases hu
  refine lv_if_ne (pc := 11) (tgt := 17) C0.1 C0.2.1 dX10_cut_11 (by decide) (fun c2 => ?_) (fun c2 => ?_)
  · have : Int64.toInt 0 = 0 := rfl
    have : Int64.toInt ((i 78 12).toInt64) = Int32.toInt (i 78 12) := Int32.toInt_toInt64 _
    have c2 := in_1i c2
    refine lv_aload_n (pc := 17) C0.1 C0.2.1 dX10_cut_17 rfl (lv_at hl 0 rfl) ?_
    refine xget (pc := 18) C0 hH 78 12 clX10 ⟨Nat.le_of_ble_eq_true rfl, Nat.le_of_ble_eq_true rfl⟩ ⟨rfl, rfl⟩ (Nat.le_of_ble_eq_true rfl) fl_X10_219 (v := .int (i 78 12)) rfl dX10_cut_18 ?_
    refine lv_iload_n (pc := 21) C0.1 C0.2.1 dX10_cut_21 rfl (lv_at hl 1 rfl) ?_
    refine lv_isub (pc := 22) C0.1 C0.2.1 dX10_cut_22 ?_
    refine lv_topi (fun x3 ex3 => ?_)
    refine lv_istore_n (pc := 23) (lv' := [(2, .int x3), (0, .ref (b + 78)), (1, .int x)]) C0.1 C0.2.1 dX10_cut_23 rfl hl (by decide) rfl (fun ls hl => ?_)
    refine lv_aload_n (pc := 24) C0.1 C0.2.1 dX10_cut_24 rfl (lv_at hl 1 rfl) ?_
    refine lv_iload_n (pc := 25) C0.1 C0.2.1 dX10_cut_25 rfl (lv_at hl 2 rfl) ?_
    refine xputI (pc := 26) C0 (Nat.le_of_ble_eq_true rfl) hH hS 78 12 clX10 ⟨Nat.le_of_ble_eq_true rfl, Nat.le_of_ble_eq_true rfl⟩ ⟨rfl, rfl⟩ ⟨Nat.le_of_ble_eq_true rfl, rfl, rfl⟩ fl_X10_219 (x := x) ⟨rfl, rfl⟩ dX10_cut_26 (fun _ locs hH hS _ => ?_)
    have hH : Hd D tA b 78 52 zz (up2 i 78 12 x) F G _ := hH
    refine lv_aload_n (pc := 29) C0.1 C0.2.1 dX10_cut_29 rfl (lv_at hl 1 rfl) ?_
    refine lv_iconst (pc := 30) (v := 0) C0.1 C0.2.1 dX10_cut_30 (by decide) ?_
    refine xputI (pc := 31) C0 (Nat.le_of_ble_eq_true rfl) hH hS 78 15 clX10 ⟨Nat.le_of_ble_eq_true rfl, Nat.le_of_ble_eq_true rfl⟩ ⟨rfl, rfl⟩ ⟨Nat.le_of_ble_eq_true rfl, rfl, rfl⟩ fl_X10_211 (x := 0) ⟨rfl, rfl⟩ dX10_cut_31 (fun _ locs hH hS _ => ?_)
    have hH : Hd D tA b 78 52 zz (up2 (up2 i 78 12 x) 78 15 0) F G _ := hH
    refine lv_iload_n (pc := 34) C0.1 C0.2.1 dX10_cut_34 rfl (lv_at hl 0 rfl) ?_
    exact xiret (pc := 35) C0 hr hH hS dX10_cut_35 ⟨(RO.i (RO.i RO.rf (by decide)) (by decide)), show 0 ≤ Int32.toInt x ∧ Int32.toInt x ≤ 600 from by omega, hbt, (by first | exact Or.inl rfl | exact Or.inr rfl)⟩
  · have : Int64.toInt 0 = 0 := rfl
    have : Int64.toInt ((i 78 12).toInt64) = Int32.toInt (i 78 12) := Int32.toInt_toInt64 _
    have c2 := in_0i c2
    refine lv_bipush (pc := 14) (v := (-2)) C0.1 C0.2.1 dX10_cut_14 (by decide) ?_
    exact xiret (pc := 16) C0 hr hH hS dX10_cut_16 ⟨RO.rf, show 0 ≤ Int32.toInt (i 78 12) ∧ Int32.toInt (i 78 12) ≤ 600 from by omega, hbt, (by first | exact Or.inl rfl | exact Or.inr rfl)⟩
set_option maxHeartbeats 4000000 in
set_option maxRecDepth 100000 in
theorem m_byteAt (l : Launch) (D : va_G) (tA : Nat → ClassId) (b : Nat) (i F : Nat → Nat → Int32) (G : Nat → Nat → Int64) (x : Int32) (hsz : 0 ≤ (i 78 12).toInt ∧ (i 78 12).toInt ≤ 600) : xMI l yX10_byteAt cX10_byteAt 2 (some .int) 1 25 D tA b 78 52 i F G [.ref (b + 78), .int x] (fun r u => u = (i, F, G) ∧ True) := by
  refine xstart RX10 rfl (by decide) (Nat.le_of_ble_eq_true rfl) ?_
  intro p e s m below meth c ls C0 hr hH hS hl
  have hl : lv_has ls 2 [(0, .ref (b + 78)), (1, .int x)] := hl
  have rg_x := fb_rng x
  refine lv_iload_n (pc := 0) C0.1 C0.2.1 dX10_byteAt_0 rfl (lv_at hl 1 rfl) ?_
  refine lv_i2l (pc := 1) (v := x.toInt64) C0.1 C0.2.1 dX10_byteAt_1 rfl ?_
  refine lv_lconst (pc := 2) (v := 0) C0.1 C0.2.1 dX10_byteAt_2 (by decide) ?_
  refine lv_aload_n (pc := 3) C0.1 C0.2.1 dX10_byteAt_3 rfl (lv_at hl 0 rfl) ?_
  refine xget (pc := 4) C0 hH 78 12 clX10 ⟨Nat.le_of_ble_eq_true rfl, Nat.le_of_ble_eq_true rfl⟩ ⟨rfl, rfl⟩ (Nat.le_of_ble_eq_true rfl) fl_X10_219 (v := .int (i 78 12)) rfl dX10_byteAt_4 ?_
  refine lv_iconst (pc := 7) (v := 1) C0.1 C0.2.1 dX10_byteAt_7 (by decide) ?_
  have : Int32.toInt 1 = 1 := rfl
  refine lv_isub (pc := 8) C0.1 C0.2.1 dX10_byteAt_8 ?_
  refine lv_topi (fun x1 ex1 => ?_)
  have hx1 : Int32.toInt x1 = Int32.toInt (i 78 12) - Int32.toInt 1 := by rw [ex1]; exact fb_subI (by omega) (by omega)
  refine lv_i2l (pc := 9) (v := x1.toInt64) C0.1 C0.2.1 dX10_byteAt_9 rfl ?_
  refine xcSI (pc := 10) [.long x.toInt64, .long 0, .long x1.toInt64] (c_X10_in l D tA b 78 52 i F G x.toInt64 0 x1.toInt64) C0 hH hS cw_X10_175 rfl ⟨Nat.le_of_ble_eq_true rfl, Nat.le_of_ble_eq_true rfl⟩ hl.1 rfl (Nat.le_of_ble_eq_true rfl) dX10_byteAt_10 ⟨Nat.le_of_ble_eq_true rfl, Nat.le_of_ble_eq_true rfl⟩ (fun r2 ir2 Fr2 Gr2 _ locs hp hH hS => ?_)
  obtain ⟨hu, rfl⟩ := hp
  cases hu
  refine lv_if_eq (pc := 13) (tgt := 29) C0.1 C0.2.1 dX10_byteAt_13 (by decide) (fun c3 => ?_) (fun c3 => ?_)
  · have : Int64.toInt 0 = 0 := rfl
    have : Int64.toInt (x1.toInt64) = Int32.toInt x1 := Int32.toInt_toInt64 _
    have c3 := in_0i c3
    refine lv_bipush (pc := 29) (v := (-12)) C0.1 C0.2.1 dX10_byteAt_29 (by decide) ?_
    exact xiret (pc := 31) C0 hr hH hS dX10_byteAt_31 ⟨rfl, trivial⟩
  · have : Int64.toInt 0 = 0 := rfl
    have : Int64.toInt (x1.toInt64) = Int32.toInt x1 := Int32.toInt_toInt64 _
    have c3 := in_1i c3
    refine lv_aload_n (pc := 16) C0.1 C0.2.1 dX10_byteAt_16 rfl (lv_at hl 0 rfl) ?_
    refine xget (pc := 17) C0 hH 78 11 clX10 ⟨Nat.le_of_ble_eq_true rfl, Nat.le_of_ble_eq_true rfl⟩ ⟨rfl, rfl⟩ (Nat.le_of_ble_eq_true rfl) fl_X10_29 (v := .ref (b + 85)) rfl dX10_byteAt_17 ?_
    refine lv_iload_n (pc := 20) C0.1 C0.2.1 dX10_byteAt_20 rfl (lv_at hl 1 rfl) ?_
    refine xbald (pc := 21) (N := 600) C0 hH 85 ⟨Nat.le_of_ble_eq_true rfl, Nat.le_of_ble_eq_true rfl⟩ ⟨rfl, rfl⟩ (vI (by omega) (by omega)) dX10_byteAt_21 ?_
    refine lv_sipush (pc := 22) (v := 255) C0.1 C0.2.1 dX10_byteAt_22 (by decide) ?_
    refine lv_iand (pc := 25) C0.1 C0.2.1 dX10_byteAt_25 ?_
    refine lv_goto (pc := 26) (tgt := 31) C0.1 C0.2.1 dX10_byteAt_26 (by decide) ?_
    exact xiret (pc := 31) C0 hr hH hS dX10_byteAt_31 ⟨rfl, trivial⟩
set_option maxHeartbeats 4000000 in
set_option maxRecDepth 100000 in
theorem m_shift (l : Launch) (D : va_G) (tA : Nat → ClassId) (b : Nat) (i F : Nat → Nat → Int32) (G : Nat → Nat → Int64) (x y : Int32) (hsz : 0 ≤ (i 78 12).toInt ∧ (i 78 12).toInt ≤ 600) (hbt : BT (F 85)) : xMI l yX10_shift cX10_shift 4 (some .int) 2 47 D tA b 78 52 i F G [.ref (b + 78), .int x, .int y] (fun r u => RO [12, 15] [85] i F G u ∧ (0 ≤ (u.1 78 12).toInt ∧ (u.1 78 12).toInt ≤ 600) ∧ BT (u.2.1 85) ∧ (u.1 78 15 = i 78 15 ∨ u.1 78 15 = 0)) := by
  refine xstart RX10 rfl (by decide) (Nat.le_of_ble_eq_true rfl) ?_
  intro p e s m below meth c ls C0 hr hH hS hl
  have hl : lv_has ls 4 [(0, .ref (b + 78)), (1, .int x), (2, .int y)] := hl
  have rg_x := fb_rng x
  have rg_y := fb_rng y
  refine lv_iload_n (pc := 0) C0.1 C0.2.1 dX10_shift_0 rfl (lv_at hl 1 rfl) ?_
  refine lv_i2l (pc := 1) (v := x.toInt64) C0.1 C0.2.1 dX10_shift_1 rfl ?_
  refine lv_lconst (pc := 2) (v := 0) C0.1 C0.2.1 dX10_shift_2 (by decide) ?_
  refine lv_aload_n (pc := 3) C0.1 C0.2.1 dX10_shift_3 rfl (lv_at hl 0 rfl) ?_
  refine xcVI (pc := 4) 78 [] (m_lines l D tA b i F G  (show 0 ≤ Int32.toInt (i 78 12) ∧ Int32.toInt (i 78 12) ≤ 600 from by omega)) C0 hH hS clX10 rfl ⟨⟨Nat.le_of_ble_eq_true rfl, Nat.le_of_ble_eq_true rfl⟩, rfl, rfl⟩ cw_X10_226 rfl ⟨Nat.le_of_ble_eq_true rfl, Nat.le_of_ble_eq_true rfl⟩ hl.1 rfl (Nat.le_of_ble_eq_true rfl) dX10_shift_4 ⟨Nat.le_of_ble_eq_true rfl, Nat.le_of_ble_eq_true rfl⟩ (fun r1 ir1 Fr1 Gr1 _ locs hp hH hS => ?_)
  obtain ⟨hu, hpr1⟩ := hp
  cases hu
  refine lv_iconst (pc := 7) (v := 1) C0.1 C0.2.1 dX10_shift_7 (by decide) ?_
  have : Int32.toInt 1 = 1 := rfl
  refine lv_isub (pc := 8) C0.1 C0.2.1 dX10_shift_8 ?_
  refine lv_topi (fun x2 ex2 => ?_)
  have hx2 : Int32.toInt x2 = Int32.toInt r1 - Int32.toInt 1 := by rw [ex2]; exact fb_subI (by omega) (by omega)
  refine lv_i2l (pc := 9) (v := x2.toInt64) C0.1 C0.2.1 dX10_shift_9 rfl ?_
  refine xcSI (pc := 10) [.long x.toInt64, .long 0, .long x2.toInt64] (c_X10_in l D tA b 78 52 i F G x.toInt64 0 x2.toInt64) C0 hH hS cw_X10_175 rfl ⟨Nat.le_of_ble_eq_true rfl, Nat.le_of_ble_eq_true rfl⟩ hl.1 rfl (Nat.le_of_ble_eq_true rfl) dX10_shift_10 ⟨Nat.le_of_ble_eq_true rfl, Nat.le_of_ble_eq_true rfl⟩ (fun r3 ir3 Fr3 Gr3 _ locs hp hH hS => ?_)
  obtain ⟨hu, rfl⟩ := hp
  cases hu
  refine lv_if_ne (pc := 13) (tgt := 18) C0.1 C0.2.1 dX10_shift_13 (by decide) (fun c4 => ?_) (fun c4 => ?_)
  · have : Int64.toInt 0 = 0 := rfl
    have : Int64.toInt (x2.toInt64) = Int32.toInt x2 := Int32.toInt_toInt64 _
    have c4 := in_1i c4
    refine lv_iload_n (pc := 18) C0.1 C0.2.1 dX10_shift_18 rfl (lv_at hl 2 rfl) ?_
    refine lv_i2l (pc := 19) (v := y.toInt64) C0.1 C0.2.1 dX10_shift_19 rfl ?_
    refine lv_ldc2 (pc := 20) C0.1 C0.2.1 C0.2.2.2.1 (C0.2.2.2.2.1 _ kl_X10_230) dX10_shift_20 ?_
    refine lv_ldc2 (pc := 23) C0.1 C0.2.1 C0.2.2.2.1 (C0.2.2.2.2.1 _ kl_X10_232) dX10_shift_23 ?_
    refine xcSI (pc := 26) [.long y.toInt64, .long (-40), .long 40] (c_X10_in l D tA b 78 52 i F G y.toInt64 (-40) 40) C0 hH hS cw_X10_175 rfl ⟨Nat.le_of_ble_eq_true rfl, Nat.le_of_ble_eq_true rfl⟩ hl.1 rfl (Nat.le_of_ble_eq_true rfl) dX10_shift_26 ⟨Nat.le_of_ble_eq_true rfl, Nat.le_of_ble_eq_true rfl⟩ (fun r5 ir5 Fr5 Gr5 _ locs hp hH hS => ?_)
    obtain ⟨hu, rfl⟩ := hp
    cases hu
    refine lv_if_ne (pc := 29) (tgt := 35) C0.1 C0.2.1 dX10_shift_29 (by decide) (fun c6 => ?_) (fun c6 => ?_)
    · have : Int64.toInt (-40) = (-40) := rfl
      have : Int64.toInt 40 = 40 := rfl
      have c6 := in_1i c6
      have hln : x.toInt ≤ c10 (F 85) (Int32.toNatClampNeg (i 78 12)) := (by omega)
      refine lv_aload_n (pc := 35) C0.1 C0.2.1 dX10_shift_35 rfl (lv_at hl 0 rfl) ?_
      refine lv_iload_n (pc := 36) C0.1 C0.2.1 dX10_shift_36 rfl (lv_at hl 1 rfl) ?_
      refine lv_iload_n (pc := 37) C0.1 C0.2.1 dX10_shift_37 rfl (lv_at hl 2 rfl) ?_
      refine xcVI (pc := 38) 78 [.int x, .int y] (m_mayShift l D tA b i F G x y (show 0 ≤ Int32.toInt (i 78 12) ∧ Int32.toInt (i 78 12) ≤ 600 from by omega) hln (by omega)) C0 hH hS clX10 rfl ⟨⟨Nat.le_of_ble_eq_true rfl, Nat.le_of_ble_eq_true rfl⟩, rfl, rfl⟩ cw_X10_234 rfl ⟨Nat.le_of_ble_eq_true rfl, Nat.le_of_ble_eq_true rfl⟩ hl.1 rfl (Nat.le_of_ble_eq_true rfl) dX10_shift_38 ⟨Nat.le_of_ble_eq_true rfl, Nat.le_of_ble_eq_true rfl⟩ (fun r7 ir7 Fr7 Gr7 _ locs hp hH hS => ?_)
      obtain ⟨hu, hmsr7⟩ := hp
      cases hu
      refine lv_istore_n (pc := 41) (lv' := [(3, .int r7), (0, .ref (b + 78)), (1, .int x), (2, .int y)]) C0.1 C0.2.1 dX10_shift_41 rfl hl (by decide) rfl (fun ls hl => ?_)
      refine lv_iload_n (pc := 42) C0.1 C0.2.1 dX10_shift_42 rfl (lv_at hl 0 rfl) ?_
      refine lv_if_ge (pc := 43) (tgt := 48) C0.1 C0.2.1 dX10_shift_43 (by decide) (fun c8 => ?_) (fun c8 => ?_)
      · have : Int32.toInt 0 = 0 := rfl
        have c8 := Int32.le_iff_toInt_le.mp c8
        obtain ⟨r0, hr0, hla, hup, hdn0⟩ := hmsr7 (by omega)
        have hdn := fun q => (hdn0 q).1
        refine lv_aload_n (pc := 48) C0.1 C0.2.1 dX10_shift_48 rfl (lv_at hl 1 rfl) ?_
        refine lv_iload_n (pc := 49) C0.1 C0.2.1 dX10_shift_49 rfl (lv_at hl 2 rfl) ?_
        refine lv_iload_n (pc := 50) C0.1 C0.2.1 dX10_shift_50 rfl (lv_at hl 3 rfl) ?_
        refine xcVV (pc := 51) 78 [.int x, .int y] (m_move l D tA b i F G x y r0 (show 0 ≤ Int32.toInt (i 78 12) ∧ Int32.toInt (i 78 12) ≤ 600 from by omega) hln (by omega) hr0 hla hup hdn hbt) C0 hH hS clX10 rfl ⟨⟨Nat.le_of_ble_eq_true rfl, Nat.le_of_ble_eq_true rfl⟩, rfl, rfl⟩ cw_X10_238 rfl ⟨Nat.le_of_ble_eq_true rfl, Nat.le_of_ble_eq_true rfl⟩ hl.1 rfl (Nat.le_of_ble_eq_true rfl) dX10_shift_51 ⟨Nat.le_of_ble_eq_true rfl, Nat.le_of_ble_eq_true rfl⟩ (fun ir9 Fr9 Gr9 _ locs hp hH hS => ?_)
        obtain ⟨honr9, hszr9, htxr9, hbtr9⟩ := hp
        have hszr9 : (ir9 78 12).toInt = _ := hszr9
        refine lv_aload_n (pc := 54) C0.1 C0.2.1 dX10_shift_54 rfl (lv_at hl 1 rfl) ?_
        refine lv_iconst (pc := 55) (v := 0) C0.1 C0.2.1 dX10_shift_55 (by decide) ?_
        refine xputI (pc := 56) C0 (Nat.le_of_ble_eq_true rfl) hH hS 78 15 clX10 ⟨Nat.le_of_ble_eq_true rfl, Nat.le_of_ble_eq_true rfl⟩ ⟨rfl, rfl⟩ ⟨Nat.le_of_ble_eq_true rfl, rfl, rfl⟩ fl_X10_211 (x := 0) ⟨rfl, rfl⟩ dX10_shift_56 (fun _ locs hH hS _ => ?_)
        have hH : Hd D tA b 78 52 zz (up2 ir9 78 15 0) Fr9 Gr9 _ := hH
        refine lv_iconst (pc := 59) (v := 1) C0.1 C0.2.1 dX10_shift_59 (by decide) ?_
        exact xiret (pc := 60) C0 hr hH hS dX10_shift_60 ⟨(RO.i (RO.tr RO.rf honr9 (by decide) (by decide)) (by decide)), show 0 ≤ Int32.toInt (ir9 78 12) ∧ Int32.toInt (ir9 78 12) ≤ 600 from by omega, hbtr9, (by first | exact Or.inl rfl | exact Or.inr rfl)⟩
      · have : Int32.toInt 0 = 0 := rfl
        have c8 : ¬ _ := fun q => c8 (Int32.le_iff_toInt_le.mpr q)
        refine lv_iload_n (pc := 46) C0.1 C0.2.1 dX10_shift_46 rfl (lv_at hl 0 rfl) ?_
        exact xiret (pc := 47) C0 hr hH hS dX10_shift_47 ⟨RO.rf, show 0 ≤ Int32.toInt (i 78 12) ∧ Int32.toInt (i 78 12) ≤ 600 from by omega, hbt, (by first | exact Or.inl rfl | exact Or.inr rfl)⟩
    · have : Int64.toInt (-40) = (-40) := rfl
      have : Int64.toInt 40 = 40 := rfl
      have c6 := in_0i c6
      refine lv_bipush (pc := 32) (v := (-2)) C0.1 C0.2.1 dX10_shift_32 (by decide) ?_
      exact xiret (pc := 34) C0 hr hH hS dX10_shift_34 ⟨RO.rf, show 0 ≤ Int32.toInt (i 78 12) ∧ Int32.toInt (i 78 12) ≤ 600 from by omega, hbt, (by first | exact Or.inl rfl | exact Or.inr rfl)⟩
  · have : Int64.toInt 0 = 0 := rfl
    have : Int64.toInt (x2.toInt64) = Int32.toInt x2 := Int32.toInt_toInt64 _
    have c4 := in_0i c4
    refine lv_iconst (pc := 16) (v := (-1)) C0.1 C0.2.1 dX10_shift_16 (by decide) ?_
    exact xiret (pc := 17) C0 hr hH hS dX10_shift_17 ⟨RO.rf, show 0 ≤ Int32.toInt (i 78 12) ∧ Int32.toInt (i 78 12) ≤ 600 from by omega, hbt, (by first | exact Or.inl rfl | exact Or.inr rfl)⟩
set_option maxHeartbeats 4000000 in
set_option maxRecDepth 100000 in
theorem m_keep (l : Launch) (D : va_G) (tA : Nat → ClassId) (b : Nat) (i F : Nat → Nat → Int32) (G : Nat → Nat → Int64)  (hsz : 0 ≤ (i 78 12).toInt ∧ (i 78 12).toInt ≤ 600) (hbt : BT (F 85)) : xMI l yX10_keep cX10_keep 2 (some .int) 0 0 D tA b 78 52 i F G [.ref (b + 78)] (fun r u => RO [14] [86] i F G u ∧ (0 ≤ (u.1 78 14).toInt ∧ (u.1 78 14).toInt ≤ 600)) := by
  refine xstart RX10 rfl (by decide) (Nat.le_of_ble_eq_true rfl) ?_
  intro p e s m below meth c ls C0 hr hH hS hl
  have hl : lv_has ls 2 [(0, .ref (b + 78))] := hl
  have L2 : ∀ (d : Nat) (k : Int32) (iv Fv : Nat → Nat → Int32) (Gv : Nat → Nat → Int64) (H : Heap) (locs : List Loc) (ls : Array Slot), (0 ≤ k.toInt) → (600 - k.toInt ≤ d) → (RO [] [86] i F G (iv, Fv, Gv)) → Hd D tA b 78 52 zz iv Fv Gv H → va_S (xA b 78 52) s.heap H locs → lv_has ls 2 [(1, .int k), (0, .ref (b + 78))] → W p l e (xR 0 0) s m ([.ref (b + 78)] : List Value).toArray below meth c H locs 0 0 (MQ below (va_Qi (fun r u => RO [14] [86] i F G u ∧ (0 ≤ (u.1 78 14).toInt ∧ (u.1 78 14).toInt ≤ 600)) (xB D tA b 78 52 zz) (xA b 78 52)) ([.ref (b + 78)] : List Value).toArray s 0 0 (xA b 78 52)) (F0 m 2 ls []) := by
    intro d
    induction d with
    | zero =>
      intro k iv Fv Gv H locs ls h1 h2 h3 hH hS hl
      have rg_k := fb_rng k
      have ek12 : Int32.toInt (iv 78 12) = Int32.toInt (i 78 12) := congrArg Int32.toInt (h3.1 78 12 (Or.inr (by decide)))
      refine lv_iload_n (pc := 2) C0.1 C0.2.1 dX10_keep_2 rfl (lv_at hl 0 rfl) ?_
      refine lv_aload_n (pc := 3) C0.1 C0.2.1 dX10_keep_3 rfl (lv_at hl 1 rfl) ?_
      refine xget (pc := 4) C0 hH 78 12 clX10 ⟨Nat.le_of_ble_eq_true rfl, Nat.le_of_ble_eq_true rfl⟩ ⟨rfl, rfl⟩ (Nat.le_of_ble_eq_true rfl) fl_X10_219 (v := .int (iv 78 12)) rfl dX10_keep_4 ?_
      refine lv_icmp_ge (pc := 7) (tgt := 28) C0.1 C0.2.1 dX10_keep_7 (by decide) (fun _ => ?_) (fun c => absurd (Int32.le_iff_toInt_le.mpr (by omega)) c)
      refine lv_aload_n (pc := 28) C0.1 C0.2.1 dX10_keep_28 rfl (lv_at hl 1 rfl) ?_
      refine lv_aload_n (pc := 29) C0.1 C0.2.1 dX10_keep_29 rfl (lv_at hl 1 rfl) ?_
      refine xget (pc := 30) C0 hH 78 12 clX10 ⟨Nat.le_of_ble_eq_true rfl, Nat.le_of_ble_eq_true rfl⟩ ⟨rfl, rfl⟩ (Nat.le_of_ble_eq_true rfl) fl_X10_219 (v := .int (iv 78 12)) rfl dX10_keep_30 ?_
      refine lv_topi (fun x201 ex201 => ?_)
      refine xputI (pc := 33) C0 (Nat.le_of_ble_eq_true rfl) hH hS 78 14 clX10 ⟨Nat.le_of_ble_eq_true rfl, Nat.le_of_ble_eq_true rfl⟩ ⟨rfl, rfl⟩ ⟨Nat.le_of_ble_eq_true rfl, rfl, rfl⟩ fl_X10_242 (x := x201) ⟨rfl, rfl⟩ dX10_keep_33 (fun _ locs hH hS _ => ?_)
      have hH : Hd D tA b 78 52 zz (up2 iv 78 14 x201) Fv Gv _ := hH
      have e14 := congrArg Int32.toInt ex201
      refine lv_aload_n (pc := 36) C0.1 C0.2.1 dX10_keep_36 rfl (lv_at hl 1 rfl) ?_
      refine xget (pc := 37) C0 hH 78 12 clX10 ⟨Nat.le_of_ble_eq_true rfl, Nat.le_of_ble_eq_true rfl⟩ ⟨rfl, rfl⟩ (Nat.le_of_ble_eq_true rfl) fl_X10_219 (v := .int (iv 78 12)) rfl dX10_keep_37 ?_
      exact xiret (pc := 40) C0 hr hH hS dX10_keep_40 ⟨(RO.i (RO.tr RO.rf h3 (by decide) (by decide)) (by decide)), show 0 ≤ Int32.toInt x201 ∧ Int32.toInt x201 ≤ 600 from by omega⟩
    | succ d ih2 =>
      intro k iv Fv Gv H locs ls h1 h2 h3 hH hS hl
      have rg_k := fb_rng k
      have ek12 : Int32.toInt (iv 78 12) = Int32.toInt (i 78 12) := congrArg Int32.toInt (h3.1 78 12 (Or.inr (by decide)))
      refine lv_iload_n (pc := 2) C0.1 C0.2.1 dX10_keep_2 rfl (lv_at hl 0 rfl) ?_
      refine lv_aload_n (pc := 3) C0.1 C0.2.1 dX10_keep_3 rfl (lv_at hl 1 rfl) ?_
      refine xget (pc := 4) C0 hH 78 12 clX10 ⟨Nat.le_of_ble_eq_true rfl, Nat.le_of_ble_eq_true rfl⟩ ⟨rfl, rfl⟩ (Nat.le_of_ble_eq_true rfl) fl_X10_219 (v := .int (iv 78 12)) rfl dX10_keep_4 ?_
      refine lv_icmp_ge (pc := 7) (tgt := 28) C0.1 C0.2.1 dX10_keep_7 (by decide) (fun c201 => ?_) (fun c201 => ?_)
      · have c201 := Int32.le_iff_toInt_le.mp c201
        refine lv_aload_n (pc := 28) C0.1 C0.2.1 dX10_keep_28 rfl (lv_at hl 1 rfl) ?_
        refine lv_aload_n (pc := 29) C0.1 C0.2.1 dX10_keep_29 rfl (lv_at hl 1 rfl) ?_
        refine xget (pc := 30) C0 hH 78 12 clX10 ⟨Nat.le_of_ble_eq_true rfl, Nat.le_of_ble_eq_true rfl⟩ ⟨rfl, rfl⟩ (Nat.le_of_ble_eq_true rfl) fl_X10_219 (v := .int (iv 78 12)) rfl dX10_keep_30 ?_
        refine lv_topi (fun x202 ex202 => ?_)
        refine xputI (pc := 33) C0 (Nat.le_of_ble_eq_true rfl) hH hS 78 14 clX10 ⟨Nat.le_of_ble_eq_true rfl, Nat.le_of_ble_eq_true rfl⟩ ⟨rfl, rfl⟩ ⟨Nat.le_of_ble_eq_true rfl, rfl, rfl⟩ fl_X10_242 (x := x202) ⟨rfl, rfl⟩ dX10_keep_33 (fun _ locs hH hS _ => ?_)
        have hH : Hd D tA b 78 52 zz (up2 iv 78 14 x202) Fv Gv _ := hH
        have e14 := congrArg Int32.toInt ex202
        refine lv_aload_n (pc := 36) C0.1 C0.2.1 dX10_keep_36 rfl (lv_at hl 1 rfl) ?_
        refine xget (pc := 37) C0 hH 78 12 clX10 ⟨Nat.le_of_ble_eq_true rfl, Nat.le_of_ble_eq_true rfl⟩ ⟨rfl, rfl⟩ (Nat.le_of_ble_eq_true rfl) fl_X10_219 (v := .int (iv 78 12)) rfl dX10_keep_37 ?_
        exact xiret (pc := 40) C0 hr hH hS dX10_keep_40 ⟨(RO.i (RO.tr RO.rf h3 (by decide) (by decide)) (by decide)), show 0 ≤ Int32.toInt x202 ∧ Int32.toInt x202 ≤ 600 from by omega⟩
      · have c201 : ¬ _ := fun q => c201 (Int32.le_iff_toInt_le.mpr q)
        refine lv_aload_n (pc := 10) C0.1 C0.2.1 dX10_keep_10 rfl (lv_at hl 1 rfl) ?_
        refine xget (pc := 11) C0 hH 78 13 clX10 ⟨Nat.le_of_ble_eq_true rfl, Nat.le_of_ble_eq_true rfl⟩ ⟨rfl, rfl⟩ (Nat.le_of_ble_eq_true rfl) fl_X10_33 (v := .ref (b + 86)) rfl dX10_keep_11 ?_
        refine lv_iload_n (pc := 14) C0.1 C0.2.1 dX10_keep_14 rfl (lv_at hl 0 rfl) ?_
        refine lv_aload_n (pc := 15) C0.1 C0.2.1 dX10_keep_15 rfl (lv_at hl 1 rfl) ?_
        refine xget (pc := 16) C0 hH 78 11 clX10 ⟨Nat.le_of_ble_eq_true rfl, Nat.le_of_ble_eq_true rfl⟩ ⟨rfl, rfl⟩ (Nat.le_of_ble_eq_true rfl) fl_X10_29 (v := .ref (b + 85)) rfl dX10_keep_16 ?_
        refine lv_iload_n (pc := 19) C0.1 C0.2.1 dX10_keep_19 rfl (lv_at hl 0 rfl) ?_
        refine xbald (pc := 20) (N := 600) C0 hH 85 ⟨Nat.le_of_ble_eq_true rfl, Nat.le_of_ble_eq_true rfl⟩ ⟨rfl, rfl⟩ (vI (by omega) (by omega)) dX10_keep_20 ?_
        refine xbast (pc := 21) (N := 600) C0 (Nat.le_of_ble_eq_true rfl) hH hS 86 ⟨Nat.le_of_ble_eq_true rfl, Nat.le_of_ble_eq_true rfl⟩ ⟨rfl, rfl⟩ (vI (by omega) (by omega)) dX10_keep_21 (fun _ locs hH hS => ?_)
        have hH : Hd D tA b 78 52 zz iv (va_up Fv 86 (upd (Fv 86) (Int32.toNatClampNeg k) (Int8.toInt32 (Int32.toInt8 (Fv 85 (Int32.toNatClampNeg k)))))) Gv _ := hH
        obtain ⟨x203, ex203⟩ : ∃ y_ : Int32, y_ = k + 1 := ⟨_, rfl⟩
        have : Int32.toInt 1 = 1 := rfl
        have hx203 : Int32.toInt x203 = Int32.toInt k + Int32.toInt 1 := by rw [ex203]; exact fb_addI (by omega) (by omega)
        refine lv_iinc (pc := 22) (v := x203) (lv' := [(1, .int x203), (0, .ref (b + 78))]) C0.1 C0.2.1 dX10_keep_22 hl (k := 0) rfl (by rw [ex203]; rfl) (by decide) rfl (fun ls hl => ?_)
        refine lv_goto (pc := 25) (tgt := 2) C0.1 C0.2.1 dX10_keep_25 (by decide) ?_
        exact ih2 x203 iv (va_up Fv 86 (upd (Fv 86) (Int32.toNatClampNeg k) (Int8.toInt32 (Int32.toInt8 (Fv 85 (Int32.toNatClampNeg k)))))) Gv _ _ _ (by omega) (by omega) (RO.f h3 (by decide)) hH hS (lv_sub hl [0, 1] rfl)
  refine lv_iconst (pc := 0) (v := 0) C0.1 C0.2.1 dX10_keep_0 (by decide) ?_
  refine lv_istore_n (pc := 1) (lv' := [(1, .int 0), (0, .ref (b + 78))]) C0.1 C0.2.1 dX10_keep_1 rfl hl (by decide) rfl (fun ls hl => ?_)
  exact L2 600 0 i F G _ _ _ (by have : Int32.toInt 0 = 0 := rfl; omega) (by have : Int32.toInt 0 = 0 := rfl; omega) RO.rf hH hS (lv_sub hl [0, 1] rfl)
set_option maxHeartbeats 4000000 in
set_option maxRecDepth 100000 in
theorem m_feed (l : Launch) (D : va_G) (tA : Nat → ClassId) (b : Nat) (i F : Nat → Nat → Int32) (G : Nat → Nat → Int64) (w : Int64) (hsz : 0 ≤ (i 78 12).toInt ∧ (i 78 12).toInt ≤ 600) (hbt : BT (F 85)) : xMI l yX10_feed cX10_feed 5 (some .int) 0 0 D tA b 78 52 i F G [.ref (b + 78), .long w] (fun r u => RO [12, 15] [85] i F G u ∧ (0 ≤ (u.1 78 12).toInt ∧ (u.1 78 12).toInt ≤ 600) ∧ BT (u.2.1 85) ∧ (u.1 78 15 = i 78 15 ∨ u.1 78 15 = 0)) := by
  refine xstart RX10 rfl (by decide) (Nat.le_of_ble_eq_true rfl) ?_
  intro p e s m below meth c ls C0 hr hH hS hl
  have hl : lv_has ls 5 [(0, .ref (b + 78)), (1, .long w)] := hl
  have L47 : ∀ (d : Nat) (k q : Int32) (iv Fv : Nat → Nat → Int32) (Gv : Nat → Nat → Int64) (H : Heap) (locs : List Loc) (ls : Array Slot), (0 ≤ k.toInt) → (q.toInt - k.toInt ≤ d) → (RO [] [85] i F G (iv, Fv, Gv)) → (BT (Fv 85)) → (0 ≤ q.toInt ∧ q.toInt ≤ 8) → ((i 78 12).toInt + q.toInt ≤ 600) → Hd D tA b 78 52 zz iv Fv Gv H → va_S (xA b 78 52) s.heap H locs → lv_has ls 5 [(4, .int k), (3, .int q), (0, .ref (b + 78)), (1, .long w)] → W p l e (xR 0 0) s m ([.ref (b + 78), .long w] : List Value).toArray below meth c H locs 0 0 (MQ below (va_Qi (fun r u => RO [12, 15] [85] i F G u ∧ (0 ≤ (u.1 78 12).toInt ∧ (u.1 78 12).toInt ≤ 600) ∧ BT (u.2.1 85) ∧ (u.1 78 15 = i 78 15 ∨ u.1 78 15 = 0)) (xB D tA b 78 52 zz) (xA b 78 52)) ([.ref (b + 78), .long w] : List Value).toArray s 0 0 (xA b 78 52)) (F0 m 47 ls []) := by
    intro d
    induction d with
    | zero =>
      intro k q iv Fv Gv H locs ls h1 h2 h3 h4 h5 h6 hH hS hl
      have rg_k := fb_rng k
      have rg_q := fb_rng q
      have ek12 : Int32.toInt (iv 78 12) = Int32.toInt (i 78 12) := congrArg Int32.toInt (h3.1 78 12 (Or.inr (by decide)))
      refine lv_iload (pc := 47) C0.1 C0.2.1 dX10_feed_47 (lv_at hl 0 rfl) ?_
      refine lv_iload_n (pc := 49) C0.1 C0.2.1 dX10_feed_49 rfl (lv_at hl 1 rfl) ?_
      refine lv_icmp_ge (pc := 50) (tgt := 80) C0.1 C0.2.1 dX10_feed_50 (by decide) (fun _ => ?_) (fun c => absurd (Int32.le_iff_toInt_le.mpr (by omega)) c)
      refine lv_aload_n (pc := 80) C0.1 C0.2.1 dX10_feed_80 rfl (lv_at hl 2 rfl) ?_
      refine lv_dup (pc := 81) C0.1 C0.2.1 dX10_feed_81 rfl ?_
      refine xget (pc := 82) C0 hH 78 12 clX10 ⟨Nat.le_of_ble_eq_true rfl, Nat.le_of_ble_eq_true rfl⟩ ⟨rfl, rfl⟩ (Nat.le_of_ble_eq_true rfl) fl_X10_219 (v := .int (iv 78 12)) rfl dX10_feed_82 ?_
      refine lv_iload_n (pc := 85) C0.1 C0.2.1 dX10_feed_85 rfl (lv_at hl 1 rfl) ?_
      refine lv_iadd (pc := 86) C0.1 C0.2.1 dX10_feed_86 ?_
      refine lv_topi (fun x201 ex201 => ?_)
      have hx201 : Int32.toInt x201 = Int32.toInt (iv 78 12) + Int32.toInt q := by rw [ex201]; exact fb_addI (by omega) (by omega)
      refine xputI (pc := 87) C0 (Nat.le_of_ble_eq_true rfl) hH hS 78 12 clX10 ⟨Nat.le_of_ble_eq_true rfl, Nat.le_of_ble_eq_true rfl⟩ ⟨rfl, rfl⟩ ⟨Nat.le_of_ble_eq_true rfl, rfl, rfl⟩ fl_X10_219 (x := x201) ⟨rfl, rfl⟩ dX10_feed_87 (fun _ locs hH hS _ => ?_)
      have hH : Hd D tA b 78 52 zz (up2 iv 78 12 x201) Fv Gv _ := hH
      refine lv_aload_n (pc := 90) C0.1 C0.2.1 dX10_feed_90 rfl (lv_at hl 2 rfl) ?_
      refine lv_iconst (pc := 91) (v := 0) C0.1 C0.2.1 dX10_feed_91 (by decide) ?_
      refine xputI (pc := 92) C0 (Nat.le_of_ble_eq_true rfl) hH hS 78 15 clX10 ⟨Nat.le_of_ble_eq_true rfl, Nat.le_of_ble_eq_true rfl⟩ ⟨rfl, rfl⟩ ⟨Nat.le_of_ble_eq_true rfl, rfl, rfl⟩ fl_X10_211 (x := 0) ⟨rfl, rfl⟩ dX10_feed_92 (fun _ locs hH hS _ => ?_)
      have hH : Hd D tA b 78 52 zz (up2 (up2 iv 78 12 x201) 78 15 0) Fv Gv _ := hH
      refine lv_aload_n (pc := 95) C0.1 C0.2.1 dX10_feed_95 rfl (lv_at hl 2 rfl) ?_
      refine xget (pc := 96) C0 hH 78 12 clX10 ⟨Nat.le_of_ble_eq_true rfl, Nat.le_of_ble_eq_true rfl⟩ ⟨rfl, rfl⟩ (Nat.le_of_ble_eq_true rfl) fl_X10_219 (v := .int x201) rfl dX10_feed_96 ?_
      exact xiret (pc := 99) C0 hr hH hS dX10_feed_99 ⟨(RO.i (RO.i (RO.tr RO.rf h3 (by decide) (by decide)) (by decide)) (by decide)), show 0 ≤ Int32.toInt x201 ∧ Int32.toInt x201 ≤ 600 from by omega, h4, (by first | exact Or.inl rfl | exact Or.inr rfl)⟩
    | succ d ih47 =>
      intro k q iv Fv Gv H locs ls h1 h2 h3 h4 h5 h6 hH hS hl
      have rg_k := fb_rng k
      have rg_q := fb_rng q
      have ek12 : Int32.toInt (iv 78 12) = Int32.toInt (i 78 12) := congrArg Int32.toInt (h3.1 78 12 (Or.inr (by decide)))
      refine lv_iload (pc := 47) C0.1 C0.2.1 dX10_feed_47 (lv_at hl 0 rfl) ?_
      refine lv_iload_n (pc := 49) C0.1 C0.2.1 dX10_feed_49 rfl (lv_at hl 1 rfl) ?_
      refine lv_icmp_ge (pc := 50) (tgt := 80) C0.1 C0.2.1 dX10_feed_50 (by decide) (fun c201 => ?_) (fun c201 => ?_)
      · have c201 := Int32.le_iff_toInt_le.mp c201
        refine lv_aload_n (pc := 80) C0.1 C0.2.1 dX10_feed_80 rfl (lv_at hl 2 rfl) ?_
        refine lv_dup (pc := 81) C0.1 C0.2.1 dX10_feed_81 rfl ?_
        refine xget (pc := 82) C0 hH 78 12 clX10 ⟨Nat.le_of_ble_eq_true rfl, Nat.le_of_ble_eq_true rfl⟩ ⟨rfl, rfl⟩ (Nat.le_of_ble_eq_true rfl) fl_X10_219 (v := .int (iv 78 12)) rfl dX10_feed_82 ?_
        refine lv_iload_n (pc := 85) C0.1 C0.2.1 dX10_feed_85 rfl (lv_at hl 1 rfl) ?_
        refine lv_iadd (pc := 86) C0.1 C0.2.1 dX10_feed_86 ?_
        refine lv_topi (fun x202 ex202 => ?_)
        have hx202 : Int32.toInt x202 = Int32.toInt (iv 78 12) + Int32.toInt q := by rw [ex202]; exact fb_addI (by omega) (by omega)
        refine xputI (pc := 87) C0 (Nat.le_of_ble_eq_true rfl) hH hS 78 12 clX10 ⟨Nat.le_of_ble_eq_true rfl, Nat.le_of_ble_eq_true rfl⟩ ⟨rfl, rfl⟩ ⟨Nat.le_of_ble_eq_true rfl, rfl, rfl⟩ fl_X10_219 (x := x202) ⟨rfl, rfl⟩ dX10_feed_87 (fun _ locs hH hS _ => ?_)
        have hH : Hd D tA b 78 52 zz (up2 iv 78 12 x202) Fv Gv _ := hH
        refine lv_aload_n (pc := 90) C0.1 C0.2.1 dX10_feed_90 rfl (lv_at hl 2 rfl) ?_
        refine lv_iconst (pc := 91) (v := 0) C0.1 C0.2.1 dX10_feed_91 (by decide) ?_
        refine xputI (pc := 92) C0 (Nat.le_of_ble_eq_true rfl) hH hS 78 15 clX10 ⟨Nat.le_of_ble_eq_true rfl, Nat.le_of_ble_eq_true rfl⟩ ⟨rfl, rfl⟩ ⟨Nat.le_of_ble_eq_true rfl, rfl, rfl⟩ fl_X10_211 (x := 0) ⟨rfl, rfl⟩ dX10_feed_92 (fun _ locs hH hS _ => ?_)
        have hH : Hd D tA b 78 52 zz (up2 (up2 iv 78 12 x202) 78 15 0) Fv Gv _ := hH
        refine lv_aload_n (pc := 95) C0.1 C0.2.1 dX10_feed_95 rfl (lv_at hl 2 rfl) ?_
        refine xget (pc := 96) C0 hH 78 12 clX10 ⟨Nat.le_of_ble_eq_true rfl, Nat.le_of_ble_eq_true rfl⟩ ⟨rfl, rfl⟩ (Nat.le_of_ble_eq_true rfl) fl_X10_219 (v := .int x202) rfl dX10_feed_96 ?_
        exact xiret (pc := 99) C0 hr hH hS dX10_feed_99 ⟨(RO.i (RO.i (RO.tr RO.rf h3 (by decide) (by decide)) (by decide)) (by decide)), show 0 ≤ Int32.toInt x202 ∧ Int32.toInt x202 ≤ 600 from by omega, h4, (by first | exact Or.inl rfl | exact Or.inr rfl)⟩
      · have c201 : ¬ _ := fun q => c201 (Int32.le_iff_toInt_le.mpr q)
        refine lv_aload_n (pc := 53) C0.1 C0.2.1 dX10_feed_53 rfl (lv_at hl 2 rfl) ?_
        refine xget (pc := 54) C0 hH 78 11 clX10 ⟨Nat.le_of_ble_eq_true rfl, Nat.le_of_ble_eq_true rfl⟩ ⟨rfl, rfl⟩ (Nat.le_of_ble_eq_true rfl) fl_X10_29 (v := .ref (b + 85)) rfl dX10_feed_54 ?_
        refine lv_aload_n (pc := 57) C0.1 C0.2.1 dX10_feed_57 rfl (lv_at hl 2 rfl) ?_
        refine xget (pc := 58) C0 hH 78 12 clX10 ⟨Nat.le_of_ble_eq_true rfl, Nat.le_of_ble_eq_true rfl⟩ ⟨rfl, rfl⟩ (Nat.le_of_ble_eq_true rfl) fl_X10_219 (v := .int (iv 78 12)) rfl dX10_feed_58 ?_
        refine lv_iload (pc := 61) C0.1 C0.2.1 dX10_feed_61 (lv_at hl 0 rfl) ?_
        refine lv_iadd (pc := 63) C0.1 C0.2.1 dX10_feed_63 ?_
        refine lv_topi (fun x203 ex203 => ?_)
        have hx203 : Int32.toInt x203 = Int32.toInt (iv 78 12) + Int32.toInt k := by rw [ex203]; exact fb_addI (by omega) (by omega)
        refine lv_lload_n (pc := 64) C0.1 C0.2.1 dX10_feed_64 rfl (lv_at hl 3 rfl) ?_
        refine lv_bipush (pc := 65) (v := 8) C0.1 C0.2.1 dX10_feed_65 (by decide) ?_
        refine lv_iload (pc := 67) C0.1 C0.2.1 dX10_feed_67 (lv_at hl 0 rfl) ?_
        refine lv_imul (pc := 69) C0.1 C0.2.1 dX10_feed_69 ?_
        obtain ⟨x204, ex204⟩ : ∃ y : Int64, y = (w.toUInt64 >>> ((8 * k).toInt64.toUInt64 &&& Int64.toUInt64 63)).toInt64 := ⟨_, rfl⟩
        refine lv_lushr (pc := 70) (v := x204) C0.1 C0.2.1 dX10_feed_70 (by rw [ex204]) ?_
        refine lv_l2i (pc := 71) (v := x204.toInt32) C0.1 C0.2.1 dX10_feed_71 rfl ?_
        refine lv_i2b (pc := 72) (v := x204.toInt32.toInt8.toInt32) C0.1 C0.2.1 dX10_feed_72 rfl ?_
        refine xbast (pc := 73) (N := 600) C0 (Nat.le_of_ble_eq_true rfl) hH hS 85 ⟨Nat.le_of_ble_eq_true rfl, Nat.le_of_ble_eq_true rfl⟩ ⟨rfl, rfl⟩ (vI (by omega) (by omega)) dX10_feed_73 (fun _ locs hH hS => ?_)
        have hH : Hd D tA b 78 52 zz iv (va_up Fv 85 (upd (Fv 85) (Int32.toNatClampNeg x203) (Int8.toInt32 (Int32.toInt8 x204.toInt32.toInt8.toInt32)))) Gv _ := hH
        obtain ⟨x205, ex205⟩ : ∃ y_ : Int32, y_ = k + 1 := ⟨_, rfl⟩
        have : Int32.toInt 1 = 1 := rfl
        have hx205 : Int32.toInt x205 = Int32.toInt k + Int32.toInt 1 := by rw [ex205]; exact fb_addI (by omega) (by omega)
        refine lv_iinc (pc := 74) (v := x205) (lv' := [(4, .int x205), (3, .int q), (0, .ref (b + 78)), (1, .long w)]) C0.1 C0.2.1 dX10_feed_74 hl (k := 0) rfl (by rw [ex205]; rfl) (by decide) rfl (fun ls hl => ?_)
        refine lv_goto (pc := 77) (tgt := 47) C0.1 C0.2.1 dX10_feed_77 (by decide) ?_
        exact ih47 x205 q iv (va_up Fv 85 (upd (Fv 85) (Int32.toNatClampNeg x203) (Int8.toInt32 (Int32.toInt8 x204.toInt32.toInt8.toInt32)))) Gv _ _ _ (by omega) (by omega) (RO.f h3 (by decide)) (BT.up h4) h5 h6 hH hS (lv_sub hl [0, 1, 2, 3] rfl)
  have L2 : ∀ (d : Nat) (k : Int32) (H : Heap) (locs : List Loc) (ls : Array Slot), (0 ≤ k.toInt ∧ k.toInt ≤ 8) → (8 - k.toInt ≤ d) → Hd D tA b 78 52 zz i F G H → va_S (xA b 78 52) s.heap H locs → lv_has ls 5 [(3, .int k), (0, .ref (b + 78)), (1, .long w)] → W p l e (xR 0 0) s m ([.ref (b + 78), .long w] : List Value).toArray below meth c H locs 0 0 (MQ below (va_Qi (fun r u => RO [12, 15] [85] i F G u ∧ (0 ≤ (u.1 78 12).toInt ∧ (u.1 78 12).toInt ≤ 600) ∧ BT (u.2.1 85) ∧ (u.1 78 15 = i 78 15 ∨ u.1 78 15 = 0)) (xB D tA b 78 52 zz) (xA b 78 52)) ([.ref (b + 78), .long w] : List Value).toArray s 0 0 (xA b 78 52)) (F0 m 2 ls []) := by
    intro d
    induction d with
    | zero =>
      intro k H locs ls h1 h2 hH hS hl
      have rg_k := fb_rng k
      refine lv_iload_n (pc := 2) C0.1 C0.2.1 dX10_feed_2 rfl (lv_at hl 0 rfl) ?_
      refine lv_bipush (pc := 3) (v := 8) C0.1 C0.2.1 dX10_feed_3 (by decide) ?_
      have : Int32.toInt 8 = 8 := rfl
      refine lv_icmp_ge (pc := 5) (tgt := 29) C0.1 C0.2.1 dX10_feed_5 (by decide) (fun _ => ?_) (fun c => absurd (Int32.le_iff_toInt_le.mpr (by omega)) c)
      refine lv_aload_n (pc := 29) C0.1 C0.2.1 dX10_feed_29 rfl (lv_at hl 1 rfl) ?_
      refine xget (pc := 30) C0 hH 78 12 clX10 ⟨Nat.le_of_ble_eq_true rfl, Nat.le_of_ble_eq_true rfl⟩ ⟨rfl, rfl⟩ (Nat.le_of_ble_eq_true rfl) fl_X10_219 (v := .int (i 78 12)) rfl dX10_feed_30 ?_
      refine lv_iload_n (pc := 33) C0.1 C0.2.1 dX10_feed_33 rfl (lv_at hl 0 rfl) ?_
      refine lv_iadd (pc := 34) C0.1 C0.2.1 dX10_feed_34 ?_
      refine lv_topi (fun x201 ex201 => ?_)
      have hx201 : Int32.toInt x201 = Int32.toInt (i 78 12) + Int32.toInt k := by rw [ex201]; exact fb_addI (by omega) (by omega)
      refine lv_sipush (pc := 35) (v := 600) C0.1 C0.2.1 dX10_feed_35 (by decide) ?_
      refine lv_icmp_le (pc := 38) (tgt := 44) C0.1 C0.2.1 dX10_feed_38 (by decide) (fun c202 => ?_) (fun c202 => ?_)
      · have : Int32.toInt 600 = 600 := rfl
        have c202 := Int32.le_iff_toInt_le.mp c202
        refine lv_iconst (pc := 44) (v := 0) C0.1 C0.2.1 dX10_feed_44 (by decide) ?_
        refine lv_istore (pc := 45) (lv' := [(4, .int 0), (3, .int k), (0, .ref (b + 78)), (1, .long w)]) C0.1 C0.2.1 dX10_feed_45 hl (by decide) rfl (fun ls hl => ?_)
        exact L47 8 0 k i F G _ _ _ (by have : Int32.toInt 0 = 0 := rfl; omega) (by have : Int32.toInt 0 = 0 := rfl; omega) RO.rf hbt (by omega) (by omega) hH hS (lv_sub hl [0, 1, 2, 3] rfl)
      · have : Int32.toInt 600 = 600 := rfl
        have c202 : ¬ _ := fun q => c202 (Int32.le_iff_toInt_le.mpr q)
        refine lv_bipush (pc := 41) (v := (-4)) C0.1 C0.2.1 dX10_feed_41 (by decide) ?_
        exact xiret (pc := 43) C0 hr hH hS dX10_feed_43 ⟨RO.rf, show 0 ≤ Int32.toInt (i 78 12) ∧ Int32.toInt (i 78 12) ≤ 600 from by omega, hbt, (by first | exact Or.inl rfl | exact Or.inr rfl)⟩
    | succ d ih2 =>
      intro k H locs ls h1 h2 hH hS hl
      have rg_k := fb_rng k
      refine lv_iload_n (pc := 2) C0.1 C0.2.1 dX10_feed_2 rfl (lv_at hl 0 rfl) ?_
      refine lv_bipush (pc := 3) (v := 8) C0.1 C0.2.1 dX10_feed_3 (by decide) ?_
      refine lv_icmp_ge (pc := 5) (tgt := 29) C0.1 C0.2.1 dX10_feed_5 (by decide) (fun c201 => ?_) (fun c201 => ?_)
      · have : Int32.toInt 8 = 8 := rfl
        have c201 := Int32.le_iff_toInt_le.mp c201
        refine lv_aload_n (pc := 29) C0.1 C0.2.1 dX10_feed_29 rfl (lv_at hl 1 rfl) ?_
        refine xget (pc := 30) C0 hH 78 12 clX10 ⟨Nat.le_of_ble_eq_true rfl, Nat.le_of_ble_eq_true rfl⟩ ⟨rfl, rfl⟩ (Nat.le_of_ble_eq_true rfl) fl_X10_219 (v := .int (i 78 12)) rfl dX10_feed_30 ?_
        refine lv_iload_n (pc := 33) C0.1 C0.2.1 dX10_feed_33 rfl (lv_at hl 0 rfl) ?_
        refine lv_iadd (pc := 34) C0.1 C0.2.1 dX10_feed_34 ?_
        refine lv_topi (fun x202 ex202 => ?_)
        have hx202 : Int32.toInt x202 = Int32.toInt (i 78 12) + Int32.toInt k := by rw [ex202]; exact fb_addI (by omega) (by omega)
        refine lv_sipush (pc := 35) (v := 600) C0.1 C0.2.1 dX10_feed_35 (by decide) ?_
        refine lv_icmp_le (pc := 38) (tgt := 44) C0.1 C0.2.1 dX10_feed_38 (by decide) (fun c203 => ?_) (fun c203 => ?_)
        · have : Int32.toInt 600 = 600 := rfl
          have c203 := Int32.le_iff_toInt_le.mp c203
          refine lv_iconst (pc := 44) (v := 0) C0.1 C0.2.1 dX10_feed_44 (by decide) ?_
          refine lv_istore (pc := 45) (lv' := [(4, .int 0), (3, .int k), (0, .ref (b + 78)), (1, .long w)]) C0.1 C0.2.1 dX10_feed_45 hl (by decide) rfl (fun ls hl => ?_)
          exact L47 8 0 k i F G _ _ _ (by have : Int32.toInt 0 = 0 := rfl; omega) (by have : Int32.toInt 0 = 0 := rfl; omega) RO.rf hbt (by omega) (by omega) hH hS (lv_sub hl [0, 1, 2, 3] rfl)
        · have : Int32.toInt 600 = 600 := rfl
          have c203 : ¬ _ := fun q => c203 (Int32.le_iff_toInt_le.mpr q)
          refine lv_bipush (pc := 41) (v := (-4)) C0.1 C0.2.1 dX10_feed_41 (by decide) ?_
          exact xiret (pc := 43) C0 hr hH hS dX10_feed_43 ⟨RO.rf, show 0 ≤ Int32.toInt (i 78 12) ∧ Int32.toInt (i 78 12) ≤ 600 from by omega, hbt, (by first | exact Or.inl rfl | exact Or.inr rfl)⟩
      · have : Int32.toInt 8 = 8 := rfl
        have c201 : ¬ _ := fun q => c201 (Int32.le_iff_toInt_le.mpr q)
        refine lv_lload_n (pc := 8) C0.1 C0.2.1 dX10_feed_8 rfl (lv_at hl 2 rfl) ?_
        refine lv_bipush (pc := 9) (v := 8) C0.1 C0.2.1 dX10_feed_9 (by decide) ?_
        refine lv_iload_n (pc := 11) C0.1 C0.2.1 dX10_feed_11 rfl (lv_at hl 0 rfl) ?_
        refine lv_imul (pc := 12) C0.1 C0.2.1 dX10_feed_12 ?_
        obtain ⟨x204, ex204⟩ : ∃ y : Int64, y = (w.toUInt64 >>> ((8 * k).toInt64.toUInt64 &&& Int64.toUInt64 63)).toInt64 := ⟨_, rfl⟩
        refine lv_lushr (pc := 13) (v := x204) C0.1 C0.2.1 dX10_feed_13 (by rw [ex204]) ?_
        refine lv_ldc2 (pc := 14) C0.1 C0.2.1 C0.2.2.2.1 (C0.2.2.2.2.1 _ kl_X10_169) dX10_feed_14 ?_
        refine lv_land (pc := 17) C0.1 C0.2.1 dX10_feed_17 ?_
        refine lv_lconst (pc := 18) (v := 0) C0.1 C0.2.1 dX10_feed_18 (by decide) ?_
        refine W.lcmp (pc := 19) C0.1 C0.2.1 dX10_feed_19 ?_
        refine lv_if_eq (pc := 20) (tgt := 29) C0.1 C0.2.1 dX10_feed_20 (by decide) (fun c205 => ?_) (fun c205 => ?_)
        · have c205 := (lg_cmp_eq _ _).mp c205
          refine lv_aload_n (pc := 29) C0.1 C0.2.1 dX10_feed_29 rfl (lv_at hl 1 rfl) ?_
          refine xget (pc := 30) C0 hH 78 12 clX10 ⟨Nat.le_of_ble_eq_true rfl, Nat.le_of_ble_eq_true rfl⟩ ⟨rfl, rfl⟩ (Nat.le_of_ble_eq_true rfl) fl_X10_219 (v := .int (i 78 12)) rfl dX10_feed_30 ?_
          refine lv_iload_n (pc := 33) C0.1 C0.2.1 dX10_feed_33 rfl (lv_at hl 0 rfl) ?_
          refine lv_iadd (pc := 34) C0.1 C0.2.1 dX10_feed_34 ?_
          refine lv_topi (fun x206 ex206 => ?_)
          have hx206 : Int32.toInt x206 = Int32.toInt (i 78 12) + Int32.toInt k := by rw [ex206]; exact fb_addI (by omega) (by omega)
          refine lv_sipush (pc := 35) (v := 600) C0.1 C0.2.1 dX10_feed_35 (by decide) ?_
          refine lv_icmp_le (pc := 38) (tgt := 44) C0.1 C0.2.1 dX10_feed_38 (by decide) (fun c207 => ?_) (fun c207 => ?_)
          · have : Int32.toInt 600 = 600 := rfl
            have c207 := Int32.le_iff_toInt_le.mp c207
            refine lv_iconst (pc := 44) (v := 0) C0.1 C0.2.1 dX10_feed_44 (by decide) ?_
            refine lv_istore (pc := 45) (lv' := [(4, .int 0), (3, .int k), (0, .ref (b + 78)), (1, .long w)]) C0.1 C0.2.1 dX10_feed_45 hl (by decide) rfl (fun ls hl => ?_)
            exact L47 8 0 k i F G _ _ _ (by have : Int32.toInt 0 = 0 := rfl; omega) (by have : Int32.toInt 0 = 0 := rfl; omega) RO.rf hbt (by omega) (by omega) hH hS (lv_sub hl [0, 1, 2, 3] rfl)
          · have : Int32.toInt 600 = 600 := rfl
            have c207 : ¬ _ := fun q => c207 (Int32.le_iff_toInt_le.mpr q)
            refine lv_bipush (pc := 41) (v := (-4)) C0.1 C0.2.1 dX10_feed_41 (by decide) ?_
            exact xiret (pc := 43) C0 hr hH hS dX10_feed_43 ⟨RO.rf, show 0 ≤ Int32.toInt (i 78 12) ∧ Int32.toInt (i 78 12) ≤ 600 from by omega, hbt, (by first | exact Or.inl rfl | exact Or.inr rfl)⟩
        · have c205 := fun q => c205 ((lg_cmp_eq _ _).mpr q)
          obtain ⟨x208, ex208⟩ : ∃ y_ : Int32, y_ = k + 1 := ⟨_, rfl⟩
          have : Int32.toInt 1 = 1 := rfl
          have hx208 : Int32.toInt x208 = Int32.toInt k + Int32.toInt 1 := by rw [ex208]; exact fb_addI (by omega) (by omega)
          refine lv_iinc (pc := 23) (v := x208) (lv' := [(3, .int x208), (0, .ref (b + 78)), (1, .long w)]) C0.1 C0.2.1 dX10_feed_23 hl (k := 0) rfl (by rw [ex208]; rfl) (by decide) rfl (fun ls hl => ?_)
          refine lv_goto (pc := 26) (tgt := 2) C0.1 C0.2.1 dX10_feed_26 (by decide) ?_
          exact ih2 x208 _ _ _ (by omega) (by omega) hH hS (lv_sub hl [0, 1, 2] rfl)
  refine lv_iconst (pc := 0) (v := 0) C0.1 C0.2.1 dX10_feed_0 (by decide) ?_
  refine lv_istore_n (pc := 1) (lv' := [(3, .int 0), (0, .ref (b + 78)), (1, .long w)]) C0.1 C0.2.1 dX10_feed_1 rfl hl (by decide) rfl (fun ls hl => ?_)
  exact L2 8 0 _ _ _ (by decide) (by decide) hH hS (lv_sub hl [0, 1, 2] rfl)
