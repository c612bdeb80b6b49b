set_option maxRecDepth 20000 in
theorem fl_X10_245 : Cond.fieldLink RX10 245 (TX10 30).1 (TX10 30).2.1 (TX10 30).2.2.1 ∈ WALL := wm 1054 (by decide +kernel) rfl
set_option maxRecDepth 20000 in
theorem fl_X10_248 : Cond.fieldLink RX10 248 (TX10 31).1 (TX10 31).2.1 (TX10 31).2.2.1 ∈ WALL := wm 1055 (by decide +kernel) rfl
set_option maxRecDepth 20000 in
theorem fl_X10_251 : Cond.fieldLink RX10 251 (TX10 18).1 (TX10 18).2.1 (TX10 18).2.2.1 ∈ WALL := wm 1042 (by decide +kernel) rfl
set_option maxRecDepth 20000 in
theorem cw_X10_254 : CwV RX10 254 yX10_fail cX10_fail 3 (some .boolean) 2 := ⟨wm 1365 (by decide +kernel) rfl, wm 1367 (by decide +kernel) rfl, wms 45 (by decide +kernel) rfl, wm 11 (by decide +kernel) rfl, wm 1368 rfl rfl, by decide +kernel⟩
set_option maxRecDepth 20000 in
theorem cw_X10_261 : CwS RX10 261 yX10_isDigit cX10_isDigit 1 (some .boolean) 1 := ⟨wm 1381 (by decide +kernel) rfl, wm 1382 (by decide +kernel) rfl, wm 11 (by decide +kernel) rfl, wm 1383 rfl rfl, by decide +kernel⟩
theorem dX10_fail_0 : decode cX10_fail 0 = .ok (.aload_n 0, 1) := by decide +kernel
theorem dX10_fail_1 : decode cX10_fail 1 = .ok (.iload_n 1, 1) := by decide +kernel
theorem dX10_fail_2 : decode cX10_fail 2 = .ok (.putfield 245, 3) := by decide +kernel
theorem dX10_fail_5 : decode cX10_fail 5 = .ok (.aload_n 0, 1) := by decide +kernel
theorem dX10_fail_6 : decode cX10_fail 6 = .ok (.iload_n 2, 1) := by decide +kernel
theorem dX10_fail_7 : decode cX10_fail 7 = .ok (.putfield 248, 3) := by decide +kernel
theorem dX10_fail_10 : decode cX10_fail 10 = .ok (.iconst 0, 1) := by decide +kernel
theorem dX10_fail_11 : decode cX10_fail 11 = .ok (.ireturn, 1) := by decide +kernel
theorem dX10_isDigit_0 : decode cX10_isDigit 0 = .ok (.iload_n 0, 1) := by decide +kernel
theorem dX10_isDigit_1 : decode cX10_isDigit 1 = .ok (.bipush 48, 2) := by decide +kernel
theorem dX10_isDigit_3 : decode cX10_isDigit 3 = .ok (.if_icmp .lt 13, 3) := by decide +kernel
theorem dX10_isDigit_16 : decode cX10_isDigit 16 = .ok (.iconst 0, 1) := by decide +kernel
theorem dX10_isDigit_17 : decode cX10_isDigit 17 = .ok (.ireturn, 1) := by decide +kernel
theorem dX10_isDigit_6 : decode cX10_isDigit 6 = .ok (.iload_n 0, 1) := by decide +kernel
theorem dX10_isDigit_7 : decode cX10_isDigit 7 = .ok (.bipush 57, 2) := by decide +kernel
theorem dX10_isDigit_9 : decode cX10_isDigit 9 = .ok (.if_icmp .gt 7, 3) := by decide +kernel
theorem dX10_isDigit_12 : decode cX10_isDigit 12 = .ok (.iconst 1, 1) := by decide +kernel
theorem dX10_isDigit_13 : decode cX10_isDigit 13 = .ok (.goto 4, 3) := by decide +kernel
theorem dX10_measure_6 : decode cX10_measure 6 = .ok (.iload_n 3, 1) := by decide +kernel
theorem dX10_measure_7 : decode cX10_measure 7 = .ok (.aload_n 0, 1) := by decide +kernel
theorem dX10_measure_8 : decode cX10_measure 8 = .ok (.getfield 251, 3) := by decide +kernel
theorem dX10_measure_11 : decode cX10_measure 11 = .ok (.if_icmp .gt 96, 3) := by decide +kernel
theorem dX10_measure_107 : decode cX10_measure 107 = .ok (.return_, 1) := by decide +kernel
theorem dX10_measure_14 : decode cX10_measure 14 = .ok (.aload_n 0, 1) := by decide +kernel
theorem dX10_measure_15 : decode cX10_measure 15 = .ok (.getfield 67, 3) := by decide +kernel
theorem dX10_measure_18 : decode cX10_measure 18 = .ok (.iload_n 3, 1) := by decide +kernel
theorem dX10_measure_19 : decode cX10_measure 19 = .ok (.iload_n 1, 1) := by decide +kernel
theorem dX10_measure_20 : decode cX10_measure 20 = .ok (.iastore, 1) := by decide +kernel
theorem dX10_measure_21 : decode cX10_measure 21 = .ok (.aload_n 0, 1) := by decide +kernel
theorem dX10_measure_22 : decode cX10_measure 22 = .ok (.getfield 70, 3) := by decide +kernel
theorem dX10_measure_25 : decode cX10_measure 25 = .ok (.iload_n 3, 1) := by decide +kernel
theorem dX10_measure_26 : decode cX10_measure 26 = .ok (.iload_n 2, 1) := by decide +kernel
theorem dX10_measure_27 : decode cX10_measure 27 = .ok (.iastore, 1) := by decide +kernel
theorem dX10_measure_28 : decode cX10_measure 28 = .ok (.iload_n 3, 1) := by decide +kernel
theorem dX10_measure_29 : decode cX10_measure 29 = .ok (.aload_n 0, 1) := by decide +kernel
theorem dX10_measure_30 : decode cX10_measure 30 = .ok (.getfield 251, 3) := by decide +kernel
theorem dX10_measure_33 : decode cX10_measure 33 = .ok (.if_icmp .ge 22, 3) := by decide +kernel
theorem dX10_measure_55 : decode cX10_measure 55 = .ok (.iload_n 3, 1) := by decide +kernel
theorem dX10_measure_56 : decode cX10_measure 56 = .ok (.aload_n 0, 1) := by decide +kernel
theorem dX10_measure_57 : decode cX10_measure 57 = .ok (.getfield 251, 3) := by decide +kernel
theorem dX10_measure_60 : decode cX10_measure 60 = .ok (.if_icmp .ge 37, 3) := by decide +kernel
theorem dX10_measure_97 : decode cX10_measure 97 = .ok (.iload_n 2, 1) := by decide +kernel
theorem dX10_measure_98 : decode cX10_measure 98 = .ok (.iconst 1, 1) := by decide +kernel
theorem dX10_measure_99 : decode cX10_measure 99 = .ok (.iadd, 1) := by decide +kernel
theorem dX10_measure_100 : decode cX10_measure 100 = .ok (.istore_n 2, 1) := by decide +kernel
theorem dX10_measure_101 : decode cX10_measure 101 = .ok (.iinc 3 1, 3) := by decide +kernel
theorem dX10_measure_104 : decode cX10_measure 104 = .ok (.goto (-98), 3) := by decide +kernel
theorem dX10_measure_63 : decode cX10_measure 63 = .ok (.aload_n 0, 1) := by decide +kernel
theorem dX10_measure_64 : decode cX10_measure 64 = .ok (.getfield 39, 3) := by decide +kernel
theorem dX10_measure_67 : decode cX10_measure 67 = .ok (.iload_n 3, 1) := by decide +kernel
theorem dX10_measure_68 : decode cX10_measure 68 = .ok (.baload, 1) := by decide +kernel
theorem dX10_measure_69 : decode cX10_measure 69 = .ok (.bipush 9, 2) := by decide +kernel
theorem dX10_measure_71 : decode cX10_measure 71 = .ok (.if_icmp .ne 26, 3) := by decide +kernel
theorem dX10_measure_74 : decode cX10_measure 74 = .ok (.aload_n 0, 1) := by decide +kernel
theorem dX10_measure_75 : decode cX10_measure 75 = .ok (.getfield 216, 3) := by decide +kernel
theorem dX10_measure_78 : decode cX10_measure 78 = .ok (.ifCond .le 19, 3) := by decide +kernel
theorem dX10_measure_81 : decode cX10_measure 81 = .ok (.iload_n 2, 1) := by decide +kernel
theorem dX10_measure_82 : decode cX10_measure 82 = .ok (.aload_n 0, 1) := by decide +kernel
theorem dX10_measure_83 : decode cX10_measure 83 = .ok (.getfield 216, 3) := by decide +kernel
theorem dX10_measure_86 : decode cX10_measure 86 = .ok (.idiv, 1) := by decide +kernel
theorem dX10_measure_87 : decode cX10_measure 87 = .ok (.iconst 1, 1) := by decide +kernel
theorem dX10_measure_88 : decode cX10_measure 88 = .ok (.iadd, 1) := by decide +kernel
theorem dX10_measure_89 : decode cX10_measure 89 = .ok (.aload_n 0, 1) := by decide +kernel
theorem dX10_measure_90 : decode cX10_measure 90 = .ok (.getfield 216, 3) := by decide +kernel
theorem dX10_measure_93 : decode cX10_measure 93 = .ok (.imul, 1) := by decide +kernel
theorem dX10_measure_94 : decode cX10_measure 94 = .ok (.goto 6, 3) := by decide +kernel
theorem dX10_measure_36 : decode cX10_measure 36 = .ok (.aload_n 0, 1) := by decide +kernel
theorem dX10_measure_37 : decode cX10_measure 37 = .ok (.getfield 39, 3) := by decide +kernel
theorem dX10_measure_40 : decode cX10_measure 40 = .ok (.iload_n 3, 1) := by decide +kernel
theorem dX10_measure_41 : decode cX10_measure 41 = .ok (.baload, 1) := by decide +kernel
theorem dX10_measure_42 : decode cX10_measure 42 = .ok (.bipush 10, 2) := by decide +kernel
theorem dX10_measure_44 : decode cX10_measure 44 = .ok (.if_icmp .ne 11, 3) := by decide +kernel
theorem dX10_measure_47 : decode cX10_measure 47 = .ok (.iinc 1 1, 3) := by decide +kernel
theorem dX10_measure_50 : decode cX10_measure 50 = .ok (.iconst 0, 1) := by decide +kernel
theorem dX10_measure_51 : decode cX10_measure 51 = .ok (.istore_n 2, 1) := by decide +kernel
theorem dX10_measure_52 : decode cX10_measure 52 = .ok (.goto 49, 3) := by decide +kernel
theorem dX10_measure_0 : decode cX10_measure 0 = .ok (.iconst 0, 1) := by decide +kernel
theorem dX10_measure_1 : decode cX10_measure 1 = .ok (.istore_n 1, 1) := by decide +kernel
theorem dX10_measure_2 : decode cX10_measure 2 = .ok (.iconst 0, 1) := by decide +kernel
theorem dX10_measure_3 : decode cX10_measure 3 = .ok (.istore_n 2, 1) := by decide +kernel
theorem dX10_measure_4 : decode cX10_measure 4 = .ok (.iconst 0, 1) := by decide +kernel
theorem dX10_measure_5 : decode cX10_measure 5 = .ok (.istore_n 3, 1) := by decide +kernel
theorem dX10_tabsFit_2 : decode cX10_tabsFit 2 = .ok (.iload_n 3, 1) := by decide +kernel
theorem dX10_tabsFit_3 : decode cX10_tabsFit 3 = .ok (.iload_n 2, 1) := by decide +kernel
theorem dX10_tabsFit_4 : decode cX10_tabsFit 4 = .ok (.if_icmp .ge 34, 3) := by decide +kernel
theorem dX10_tabsFit_38 : decode cX10_tabsFit 38 = .ok (.iconst 1, 1) := by decide +kernel
theorem dX10_tabsFit_39 : decode cX10_tabsFit 39 = .ok (.ireturn, 1) := by decide +kernel
theorem dX10_tabsFit_7 : decode cX10_tabsFit 7 = .ok (.aload_n 0, 1) := by decide +kernel
theorem dX10_tabsFit_8 : decode cX10_tabsFit 8 = .ok (.getfield 216, 3) := by decide +kernel
theorem dX10_tabsFit_11 : decode cX10_tabsFit 11 = .ok (.ifCond .ne 27, 3) := by decide +kernel
theorem dX10_tabsFit_14 : decode cX10_tabsFit 14 = .ok (.aload_n 0, 1) := by decide +kernel
theorem dX10_tabsFit_15 : decode cX10_tabsFit 15 = .ok (.getfield 39, 3) := by decide +kernel
theorem dX10_tabsFit_18 : decode cX10_tabsFit 18 = .ok (.iload_n 3, 1) := by decide +kernel
theorem dX10_tabsFit_19 : decode cX10_tabsFit 19 = .ok (.baload, 1) := by decide +kernel
theorem dX10_tabsFit_20 : decode cX10_tabsFit 20 = .ok (.bipush 9, 2) := by decide +kernel
theorem dX10_tabsFit_22 : decode cX10_tabsFit 22 = .ok (.if_icmp .ne 10, 3) := by decide +kernel
theorem dX10_tabsFit_32 : decode cX10_tabsFit 32 = .ok (.iinc 3 1, 3) := by decide +kernel
theorem dX10_tabsFit_35 : decode cX10_tabsFit 35 = .ok (.goto (-33), 3) := by decide +kernel
theorem dX10_tabsFit_25 : decode cX10_tabsFit 25 = .ok (.aload_n 0, 1) := by decide +kernel
theorem dX10_tabsFit_26 : decode cX10_tabsFit 26 = .ok (.iconst 2, 1) := by decide +kernel
theorem dX10_tabsFit_27 : decode cX10_tabsFit 27 = .ok (.iload_n 3, 1) := by decide +kernel
theorem dX10_tabsFit_28 : decode cX10_tabsFit 28 = .ok (.invokevirtual 254, 3) := by decide +kernel
theorem dX10_tabsFit_31 : decode cX10_tabsFit 31 = .ok (.ireturn, 1) := by decide +kernel
theorem dX10_tabsFit_0 : decode cX10_tabsFit 0 = .ok (.iload_n 1, 1) := by decide +kernel
theorem dX10_tabsFit_1 : decode cX10_tabsFit 1 = .ok (.istore_n 3, 1) := by decide +kernel
theorem dX10_next_2 : decode cX10_next 2 = .ok (.iload_n 3, 1) := by decide +kernel
theorem dX10_next_3 : decode cX10_next 3 = .ok (.aload_n 0, 1) := by decide +kernel
theorem dX10_next_4 : decode cX10_next 4 = .ok (.getfield 251, 3) := by decide +kernel
theorem dX10_next_7 : decode cX10_next 7 = .ok (.if_icmp .ge 19, 3) := by decide +kernel
theorem dX10_next_26 : decode cX10_next 26 = .ok (.iload_n 3, 1) := by decide +kernel
theorem dX10_next_27 : decode cX10_next 27 = .ok (.ireturn, 1) := by decide +kernel
theorem dX10_next_10 : decode cX10_next 10 = .ok (.aload_n 0, 1) := by decide +kernel
theorem dX10_next_11 : decode cX10_next 11 = .ok (.getfield 39, 3) := by decide +kernel
theorem dX10_next_14 : decode cX10_next 14 = .ok (.iload_n 3, 1) := by decide +kernel
theorem dX10_next_15 : decode cX10_next 15 = .ok (.baload, 1) := by decide +kernel
theorem dX10_next_16 : decode cX10_next 16 = .ok (.iload_n 2, 1) := by decide +kernel
theorem dX10_next_17 : decode cX10_next 17 = .ok (.if_icmp .eq 9, 3) := by decide +kernel
theorem dX10_next_20 : decode cX10_next 20 = .ok (.iinc 3 1, 3) := by decide +kernel
theorem dX10_next_23 : decode cX10_next 23 = .ok (.goto (-21), 3) := by decide +kernel
theorem dX10_next_0 : decode cX10_next 0 = .ok (.iload_n 1, 1) := by decide +kernel
theorem dX10_next_1 : decode cX10_next 1 = .ok (.istore_n 3, 1) := by decide +kernel
theorem dX10_behind_2 : decode cX10_behind 2 = .ok (.iload_n 3, 1) := by decide +kernel
theorem dX10_behind_3 : decode cX10_behind 3 = .ok (.aload_n 0, 1) := by decide +kernel
theorem dX10_behind_4 : decode cX10_behind 4 = .ok (.getfield 251, 3) := by decide +kernel
theorem dX10_behind_7 : decode cX10_behind 7 = .ok (.if_icmp .ge 40, 3) := by decide +kernel
theorem dX10_behind_47 : decode cX10_behind 47 = .ok (.iload_n 3, 1) := by decide +kernel
theorem dX10_behind_48 : decode cX10_behind 48 = .ok (.ireturn, 1) := by decide +kernel
theorem dX10_behind_10 : decode cX10_behind 10 = .ok (.iload_n 2, 1) := by decide +kernel
theorem dX10_behind_11 : decode cX10_behind 11 = .ok (.ifCond .eq 18, 3) := by decide +kernel
theorem dX10_behind_29 : decode cX10_behind 29 = .ok (.aload_n 0, 1) := by decide +kernel
theorem dX10_behind_30 : decode cX10_behind 30 = .ok (.getfield 39, 3) := by decide +kernel
theorem dX10_behind_33 : decode cX10_behind 33 = .ok (.iload_n 3, 1) := by decide +kernel
theorem dX10_behind_34 : decode cX10_behind 34 = .ok (.baload, 1) := by decide +kernel
theorem dX10_behind_35 : decode cX10_behind 35 = .ok (.invokestatic 261, 3) := by decide +kernel
theorem dX10_behind_38 : decode cX10_behind 38 = .ok (.ifCond .eq 9, 3) := by decide +kernel
theorem dX10_behind_41 : decode cX10_behind 41 = .ok (.iinc 3 1, 3) := by decide +kernel
theorem dX10_behind_44 : decode cX10_behind 44 = .ok (.goto (-42), 3) := by decide +kernel
theorem dX10_behind_14 : decode cX10_behind 14 = .ok (.aload_n 0, 1) := by decide +kernel
theorem dX10_behind_15 : decode cX10_behind 15 = .ok (.getfield 39, 3) := by decide +kernel
theorem dX10_behind_18 : decode cX10_behind 18 = .ok (.iload_n 3, 1) := by decide +kernel
theorem dX10_behind_19 : decode cX10_behind 19 = .ok (.baload, 1) := by decide +kernel
theorem dX10_behind_20 : decode cX10_behind 20 = .ok (.invokestatic 171, 3) := by decide +kernel
theorem dX10_behind_23 : decode cX10_behind 23 = .ok (.ifCond .eq 24, 3) := by decide +kernel
theorem dX10_behind_26 : decode cX10_behind 26 = .ok (.goto 15, 3) := by decide +kernel
theorem dX10_behind_0 : decode cX10_behind 0 = .ok (.iload_n 1, 1) := by decide +kernel
theorem dX10_behind_1 : decode cX10_behind 1 = .ok (.istore_n 3, 1) := by decide +kernel
set_option maxHeartbeats 4000000 in
set_option maxRecDepth 100000 in
theorem m_fail (l : Launch) (D : va_G) (tA : Nat → ClassId) (b : Nat) (i F : Nat → Nat → Int32) (G : Nat → Nat → Int64) (x y : Int32)  : xMI l yX10_fail cX10_fail 3 (some .boolean) 0 0 D tA b 78 52 i F G [.ref (b + 78), .int x, .int y] (fun r u => u = (up2 (up2 i 78 30 x) 78 31 y, F, G) ∧ r = 0) := by
  refine xstart RX10 rfl (by decide) (Nat.le_of_ble_eq_true rfl) ?_
  intro p e s m below meth c ls C0 hr hH hS hl
  have hl : lv_has ls 3 [(0, .ref (b + 78)), (1, .int x), (2, .int y)] := hl
  have rg_x := fb_rng x
  have rg_y := fb_rng y
  refine lv_aload_n (pc := 0) C0.1 C0.2.1 dX10_fail_0 rfl (lv_at hl 0 rfl) ?_
  refine lv_iload_n (pc := 1) C0.1 C0.2.1 dX10_fail_1 rfl (lv_at hl 1 rfl) ?_
  refine xputI (pc := 2) C0 (Nat.le_of_ble_eq_true rfl) hH hS 78 30 clX10 ⟨Nat.le_of_ble_eq_true rfl, Nat.le_of_ble_eq_true rfl⟩ ⟨rfl, rfl⟩ ⟨Nat.le_of_ble_eq_true rfl, rfl, rfl⟩ fl_X10_245 (x := x) ⟨rfl, rfl⟩ dX10_fail_2 (fun _ locs hH hS _ => ?_)
  have hH : Hd D tA b 78 52 zz (up2 i 78 30 x) F G _ := hH
  refine lv_aload_n (pc := 5) C0.1 C0.2.1 dX10_fail_5 rfl (lv_at hl 0 rfl) ?_
  refine lv_iload_n (pc := 6) C0.1 C0.2.1 dX10_fail_6 rfl (lv_at hl 2 rfl) ?_
  refine xputI (pc := 7) C0 (Nat.le_of_ble_eq_true rfl) hH hS 78 31 clX10 ⟨Nat.le_of_ble_eq_true rfl, Nat.le_of_ble_eq_true rfl⟩ ⟨rfl, rfl⟩ ⟨Nat.le_of_ble_eq_true rfl, rfl, rfl⟩ fl_X10_248 (x := y) ⟨rfl, rfl⟩ dX10_fail_7 (fun _ locs hH hS _ => ?_)
  have hH : Hd D tA b 78 52 zz (up2 (up2 i 78 30 x) 78 31 y) F G _ := hH
  refine lv_iconst (pc := 10) (v := 0) C0.1 C0.2.1 dX10_fail_10 (by decide) ?_
  exact xzret (pc := 11) C0 hr hH hS dX10_fail_11 (by decide) ⟨rfl, rfl⟩
set_option maxHeartbeats 4000000 in
set_option maxRecDepth 100000 in
theorem m_isDigit (l : Launch) (D : va_G) (tA : Nat → ClassId) (b : Nat) (i F : Nat → Nat → Int32) (G : Nat → Nat → Int64) (x : Int32)  : xMI l yX10_isDigit cX10_isDigit 1 (some .boolean) 0 0 D tA b 78 52 i F G [.int x] (fun r u => u = (i, F, G) ∧ r = dg x) := by
  refine xstart RX10 rfl (by decide) (Nat.le_of_ble_eq_true rfl) ?_
  intro p e s m below meth c ls C0 hr hH hS hl
  have hl : lv_has ls 1 [(0, .int x)] := hl
  have rg_x := fb_rng x
  refine lv_iload_n (pc := 0) C0.1 C0.2.1 dX10_isDigit_0 rfl (lv_at hl 0 rfl) ?_
  refine lv_bipush (pc := 1) (v := 48) C0.1 C0.2.1 dX10_isDigit_1 (by decide) ?_
  refine lv_icmp_lt (pc := 3) (tgt := 16) C0.1 C0.2.1 dX10_isDigit_3 (by decide) (fun c1 => ?_) (fun c1 => ?_)
  · have : Int32.toInt 48 = 48 := rfl
    have c1 := Int32.lt_iff_toInt_lt.mp c1
    refine lv_iconst (pc := 16) (v := 0) C0.1 C0.2.1 dX10_isDigit_16 (by decide) ?_
    exact xzret (pc := 17) C0 hr hH hS dX10_isDigit_17 (by decide) ⟨rfl, by unfold dg; first | rw [if_pos (by omega)] | rw [if_neg (by omega)]⟩
  · have : Int32.toInt 48 = 48 := rfl
    have c1 : ¬ _ := fun q => c1 (Int32.lt_iff_toInt_lt.mpr q)
    refine lv_iload_n (pc := 6) C0.1 C0.2.1 dX10_isDigit_6 rfl (lv_at hl 0 rfl) ?_
    refine lv_bipush (pc := 7) (v := 57) C0.1 C0.2.1 dX10_isDigit_7 (by decide) ?_
    refine lv_icmp_gt (pc := 9) (tgt := 16) C0.1 C0.2.1 dX10_isDigit_9 (by decide) (fun c2 => ?_) (fun c2 => ?_)
    · have : Int32.toInt 57 = 57 := rfl
      have c2 := Int32.lt_iff_toInt_lt.mp c2
      refine lv_iconst (pc := 16) (v := 0) C0.1 C0.2.1 dX10_isDigit_16 (by decide) ?_
      exact xzret (pc := 17) C0 hr hH hS dX10_isDigit_17 (by decide) ⟨rfl, by unfold dg; first | rw [if_pos (by omega)] | rw [if_neg (by omega)]⟩
    · have : Int32.toInt 57 = 57 := rfl
      have c2 : ¬ _ := fun q => c2 (Int32.lt_iff_toInt_lt.mpr q)
      refine lv_iconst (pc := 12) (v := 1) C0.1 C0.2.1 dX10_isDigit_12 (by decide) ?_
      refine lv_goto (pc := 13) (tgt := 17) C0.1 C0.2.1 dX10_isDigit_13 (by decide) ?_
      exact xzret (pc := 17) C0 hr hH hS dX10_isDigit_17 (by decide) ⟨rfl, by unfold dg; first | rw [if_pos (by omega)] | rw [if_neg (by omega)]⟩
set_option maxHeartbeats 4000000 in
set_option maxRecDepth 100000 in
theorem m_isMark (l : Launch) (D : va_G) (tA : Nat → ClassId) (b : Nat) (i F : Nat → Nat → Int32) (G : Nat → Nat → Int64) (x : Int32)  : xMI l yX10_isMark cX10_isMark 1 (some .boolean) 0 0 D tA b 78 52 i F G [.int x] (fun r u => u = (i, F, G) ∧ (r.toInt = 0 ∨ r.toInt = 1)) := by
  refine xstart RX10 rfl (by decide) (Nat.le_of_ble_eq_true rfl) ?_
  intro p e s m below meth c ls C0 hr hH hS hl
  have hl : lv_has ls 1 [(0, .int x)] := hl
  have rg_x := fb_rng x
  refine lv_iload_n (pc := 0) C0.1 C0.2.1 dX10_isMark_0 rfl (lv_at hl 0 rfl) ?_
  by_cases t1 : (x : Int32).toInt = 33
  · refine lv_tableIn (pc := 1) (off := 383) (tgt := 384) C0.1 C0.2.1 dX10_isMark_1 (by omega) (by omega) (by rw [t1]; rfl) (by decide) ?_
    refine lv_iconst (pc := 384) (v := 1) C0.1 C0.2.1 dX10_isMark_384 (by decide) ?_
    exact xzret (pc := 385) C0 hr hH hS dX10_isMark_385 (by decide) ⟨rfl, by decide⟩
  by_cases t2 : (x : Int32).toInt = 34
  · refine lv_tableIn (pc := 1) (off := 383) (tgt := 384) C0.1 C0.2.1 dX10_isMark_1 (by omega) (by omega) (by rw [t2]; rfl) (by decide) ?_
    refine lv_iconst (pc := 384) (v := 1) C0.1 C0.2.1 dX10_isMark_384 (by decide) ?_
    exact xzret (pc := 385) C0 hr hH hS dX10_isMark_385 (by decide) ⟨rfl, by decide⟩
  by_cases t3 : (x : Int32).toInt = 35
  · refine lv_tableIn (pc := 1) (off := 385) (tgt := 386) C0.1 C0.2.1 dX10_isMark_1 (by omega) (by omega) (by rw [t3]; rfl) (by decide) ?_
    refine lv_iconst (pc := 386) (v := 0) C0.1 C0.2.1 dX10_isMark_386 (by decide) ?_
    exact xzret (pc := 387) C0 hr hH hS dX10_isMark_387 (by decide) ⟨rfl, by decide⟩
  by_cases t4 : (x : Int32).toInt = 36
  · refine lv_tableIn (pc := 1) (off := 383) (tgt := 384) C0.1 C0.2.1 dX10_isMark_1 (by omega) (by omega) (by rw [t4]; rfl) (by decide) ?_
    refine lv_iconst (pc := 384) (v := 1) C0.1 C0.2.1 dX10_isMark_384 (by decide) ?_
    exact xzret (pc := 385) C0 hr hH hS dX10_isMark_385 (by decide) ⟨rfl, by decide⟩
  by_cases t5 : (x : Int32).toInt = 37
  · refine lv_tableIn (pc := 1) (off := 383) (tgt := 384) C0.1 C0.2.1 dX10_isMark_1 (by omega) (by omega) (by rw [t5]; rfl) (by decide) ?_
    refine lv_iconst (pc := 384) (v := 1) C0.1 C0.2.1 dX10_isMark_384 (by decide) ?_
    exact xzret (pc := 385) C0 hr hH hS dX10_isMark_385 (by decide) ⟨rfl, by decide⟩
  by_cases t6 : (x : Int32).toInt = 38
  · refine lv_tableIn (pc := 1) (off := 383) (tgt := 384) C0.1 C0.2.1 dX10_isMark_1 (by omega) (by omega) (by rw [t6]; rfl) (by decide) ?_
    refine lv_iconst (pc := 384) (v := 1) C0.1 C0.2.1 dX10_isMark_384 (by decide) ?_
    exact xzret (pc := 385) C0 hr hH hS dX10_isMark_385 (by decide) ⟨rfl, by decide⟩
  by_cases t7 : (x : Int32).toInt = 39
  · refine lv_tableIn (pc := 1) (off := 385) (tgt := 386) C0.1 C0.2.1 dX10_isMark_1 (by omega) (by omega) (by rw [t7]; rfl) (by decide) ?_
    refine lv_iconst (pc := 386) (v := 0) C0.1 C0.2.1 dX10_isMark_386 (by decide) ?_
    exact xzret (pc := 387) C0 hr hH hS dX10_isMark_387 (by decide) ⟨rfl, by decide⟩
  by_cases t8 : (x : Int32).toInt = 40
  · refine lv_tableIn (pc := 1) (off := 383) (tgt := 384) C0.1 C0.2.1 dX10_isMark_1 (by omega) (by omega) (by rw [t8]; rfl) (by decide) ?_
    refine lv_iconst (pc := 384) (v := 1) C0.1 C0.2.1 dX10_isMark_384 (by decide) ?_
    exact xzret (pc := 385) C0 hr hH hS dX10_isMark_385 (by decide) ⟨rfl, by decide⟩
  by_cases t9 : (x : Int32).toInt = 41
  · refine lv_tableIn (pc := 1) (off := 383) (tgt := 384) C0.1 C0.2.1 dX10_isMark_1 (by omega) (by omega) (by rw [t9]; rfl) (by decide) ?_
    refine lv_iconst (pc := 384) (v := 1) C0.1 C0.2.1 dX10_isMark_384 (by decide) ?_
    exact xzret (pc := 385) C0 hr hH hS dX10_isMark_385 (by decide) ⟨rfl, by decide⟩
  by_cases t10 : (x : Int32).toInt = 42
  · refine lv_tableIn (pc := 1) (off := 383) (tgt := 384) C0.1 C0.2.1 dX10_isMark_1 (by omega) (by omega) (by rw [t10]; rfl) (by decide) ?_
    refine lv_iconst (pc := 384) (v := 1) C0.1 C0.2.1 dX10_isMark_384 (by decide) ?_
    exact xzret (pc := 385) C0 hr hH hS dX10_isMark_385 (by decide) ⟨rfl, by decide⟩
  by_cases t11 : (x : Int32).toInt = 43
  · refine lv_tableIn (pc := 1) (off := 383) (tgt := 384) C0.1 C0.2.1 dX10_isMark_1 (by omega) (by omega) (by rw [t11]; rfl) (by decide) ?_
    refine lv_iconst (pc := 384) (v := 1) C0.1 C0.2.1 dX10_isMark_384 (by decide) ?_
    exact xzret (pc := 385) C0 hr hH hS dX10_isMark_385 (by decide) ⟨rfl, by decide⟩
  by_cases t12 : (x : Int32).toInt = 44
  · refine lv_tableIn (pc := 1) (off := 383) (tgt := 384) C0.1 C0.2.1 dX10_isMark_1 (by omega) (by omega) (by rw [t12]; rfl) (by decide) ?_
    refine lv_iconst (pc := 384) (v := 1) C0.1 C0.2.1 dX10_isMark_384 (by decide) ?_
    exact xzret (pc := 385) C0 hr hH hS dX10_isMark_385 (by decide) ⟨rfl, by decide⟩
  by_cases t13 : (x : Int32).toInt = 45
  · refine lv_tableIn (pc := 1) (off := 383) (tgt := 384) C0.1 C0.2.1 dX10_isMark_1 (by omega) (by omega) (by rw [t13]; rfl) (by decide) ?_
    refine lv_iconst (pc := 384) (v := 1) C0.1 C0.2.1 dX10_isMark_384 (by decide) ?_
    exact xzret (pc := 385) C0 hr hH hS dX10_isMark_385 (by decide) ⟨rfl, by decide⟩
  by_cases t14 : (x : Int32).toInt = 46
  · refine lv_tableIn (pc := 1) (off := 383) (tgt := 384) C0.1 C0.2.1 dX10_isMark_1 (by omega) (by omega) (by rw [t14]; rfl) (by decide) ?_
    refine lv_iconst (pc := 384) (v := 1) C0.1 C0.2.1 dX10_isMark_384 (by decide) ?_
    exact xzret (pc := 385) C0 hr hH hS dX10_isMark_385 (by decide) ⟨rfl, by decide⟩
  by_cases t15 : (x : Int32).toInt = 47
  · refine lv_tableIn (pc := 1) (off := 383) (tgt := 384) C0.1 C0.2.1 dX10_isMark_1 (by omega) (by omega) (by rw [t15]; rfl) (by decide) ?_
    refine lv_iconst (pc := 384) (v := 1) C0.1 C0.2.1 dX10_isMark_384 (by decide) ?_
    exact xzret (pc := 385) C0 hr hH hS dX10_isMark_385 (by decide) ⟨rfl, by decide⟩
  by_cases t16 : (x : Int32).toInt = 48
  · refine lv_tableIn (pc := 1) (off := 385) (tgt := 386) C0.1 C0.2.1 dX10_isMark_1 (by omega) (by omega) (by rw [t16]; rfl) (by decide) ?_
    refine lv_iconst (pc := 386) (v := 0) C0.1 C0.2.1 dX10_isMark_386 (by decide) ?_
    exact xzret (pc := 387) C0 hr hH hS dX10_isMark_387 (by decide) ⟨rfl, by decide⟩
  by_cases t17 : (x : Int32).toInt = 49
  · refine lv_tableIn (pc := 1) (off := 385) (tgt := 386) C0.1 C0.2.1 dX10_isMark_1 (by omega) (by omega) (by rw [t17]; rfl) (by decide) ?_
    refine lv_iconst (pc := 386) (v := 0) C0.1 C0.2.1 dX10_isMark_386 (by decide) ?_
    exact xzret (pc := 387) C0 hr hH hS dX10_isMark_387 (by decide) ⟨rfl, by decide⟩
  by_cases t18 : (x : Int32).toInt = 50
  · refine lv_tableIn (pc := 1) (off := 385) (tgt := 386) C0.1 C0.2.1 dX10_isMark_1 (by omega) (by omega) (by rw [t18]; rfl) (by decide) ?_
    refine lv_iconst (pc := 386) (v := 0) C0.1 C0.2.1 dX10_isMark_386 (by decide) ?_
    exact xzret (pc := 387) C0 hr hH hS dX10_isMark_387 (by decide) ⟨rfl, by decide⟩
  by_cases t19 : (x : Int32).toInt = 51
  · refine lv_tableIn (pc := 1) (off := 385) (tgt := 386) C0.1 C0.2.1 dX10_isMark_1 (by omega) (by omega) (by rw [t19]; rfl) (by decide) ?_
    refine lv_iconst (pc := 386) (v := 0) C0.1 C0.2.1 dX10_isMark_386 (by decide) ?_
    exact xzret (pc := 387) C0 hr hH hS dX10_isMark_387 (by decide) ⟨rfl, by decide⟩
  by_cases t20 : (x : Int32).toInt = 52
  · refine lv_tableIn (pc := 1) (off := 385) (tgt := 386) C0.1 C0.2.1 dX10_isMark_1 (by omega) (by omega) (by rw [t20]; rfl) (by decide) ?_
    refine lv_iconst (pc := 386) (v := 0) C0.1 C0.2.1 dX10_isMark_386 (by decide) ?_
    exact xzret (pc := 387) C0 hr hH hS dX10_isMark_387 (by decide) ⟨rfl, by decide⟩
  by_cases t21 : (x : Int32).toInt = 53
  · refine lv_tableIn (pc := 1) (off := 385) (tgt := 386) C0.1 C0.2.1 dX10_isMark_1 (by omega) (by omega) (by rw [t21]; rfl) (by decide) ?_
    refine lv_iconst (pc := 386) (v := 0) C0.1 C0.2.1 dX10_isMark_386 (by decide) ?_
    exact xzret (pc := 387) C0 hr hH hS dX10_isMark_387 (by decide) ⟨rfl, by decide⟩
  by_cases t22 : (x : Int32).toInt = 54
  · refine lv_tableIn (pc := 1) (off := 385) (tgt := 386) C0.1 C0.2.1 dX10_isMark_1 (by omega) (by omega) (by rw [t22]; rfl) (by decide) ?_
    refine lv_iconst (pc := 386) (v := 0) C0.1 C0.2.1 dX10_isMark_386 (by decide) ?_
    exact xzret (pc := 387) C0 hr hH hS dX10_isMark_387 (by decide) ⟨rfl, by decide⟩
  by_cases t23 : (x : Int32).toInt = 55
  · refine lv_tableIn (pc := 1) (off := 385) (tgt := 386) C0.1 C0.2.1 dX10_isMark_1 (by omega) (by omega) (by rw [t23]; rfl) (by decide) ?_
    refine lv_iconst (pc := 386) (v := 0) C0.1 C0.2.1 dX10_isMark_386 (by decide) ?_
    exact xzret (pc := 387) C0 hr hH hS dX10_isMark_387 (by decide) ⟨rfl, by decide⟩
  by_cases t24 : (x : Int32).toInt = 56
  · refine lv_tableIn (pc := 1) (off := 385) (tgt := 386) C0.1 C0.2.1 dX10_isMark_1 (by omega) (by omega) (by rw [t24]; rfl) (by decide) ?_
    refine lv_iconst (pc := 386) (v := 0) C0.1 C0.2.1 dX10_isMark_386 (by decide) ?_
    exact xzret (pc := 387) C0 hr hH hS dX10_isMark_387 (by decide) ⟨rfl, by decide⟩
  by_cases t25 : (x : Int32).toInt = 57
  · refine lv_tableIn (pc := 1) (off := 385) (tgt := 386) C0.1 C0.2.1 dX10_isMark_1 (by omega) (by omega) (by rw [t25]; rfl) (by decide) ?_
    refine lv_iconst (pc := 386) (v := 0) C0.1 C0.2.1 dX10_isMark_386 (by decide) ?_
    exact xzret (pc := 387) C0 hr hH hS dX10_isMark_387 (by decide) ⟨rfl, by decide⟩
  by_cases t26 : (x : Int32).toInt = 58
  · refine lv_tableIn (pc := 1) (off := 383) (tgt := 384) C0.1 C0.2.1 dX10_isMark_1 (by omega) (by omega) (by rw [t26]; rfl) (by decide) ?_
    refine lv_iconst (pc := 384) (v := 1) C0.1 C0.2.1 dX10_isMark_384 (by decide) ?_
    exact xzret (pc := 385) C0 hr hH hS dX10_isMark_385 (by decide) ⟨rfl, by decide⟩
  by_cases t27 : (x : Int32).toInt = 59
  · refine lv_tableIn (pc := 1) (off := 383) (tgt := 384) C0.1 C0.2.1 dX10_isMark_1 (by omega) (by omega) (by rw [t27]; rfl) (by decide) ?_
    refine lv_iconst (pc := 384) (v := 1) C0.1 C0.2.1 dX10_isMark_384 (by decide) ?_
    exact xzret (pc := 385) C0 hr hH hS dX10_isMark_385 (by decide) ⟨rfl, by decide⟩
  by_cases t28 : (x : Int32).toInt = 60
  · refine lv_tableIn (pc := 1) (off := 383) (tgt := 384) C0.1 C0.2.1 dX10_isMark_1 (by omega) (by omega) (by rw [t28]; rfl) (by decide) ?_
    refine lv_iconst (pc := 384) (v := 1) C0.1 C0.2.1 dX10_isMark_384 (by decide) ?_
    exact xzret (pc := 385) C0 hr hH hS dX10_isMark_385 (by decide) ⟨rfl, by decide⟩
  by_cases t29 : (x : Int32).toInt = 61
  · refine lv_tableIn (pc := 1) (off := 383) (tgt := 384) C0.1 C0.2.1 dX10_isMark_1 (by omega) (by omega) (by rw [t29]; rfl) (by decide) ?_
    refine lv_iconst (pc := 384) (v := 1) C0.1 C0.2.1 dX10_isMark_384 (by decide) ?_
    exact xzret (pc := 385) C0 hr hH hS dX10_isMark_385 (by decide) ⟨rfl, by decide⟩
  by_cases t30 : (x : Int32).toInt = 62
  · refine lv_tableIn (pc := 1) (off := 383) (tgt := 384) C0.1 C0.2.1 dX10_isMark_1 (by omega) (by omega) (by rw [t30]; rfl) (by decide) ?_
    refine lv_iconst (pc := 384) (v := 1) C0.1 C0.2.1 dX10_isMark_384 (by decide) ?_
    exact xzret (pc := 385) C0 hr hH hS dX10_isMark_385 (by decide) ⟨rfl, by decide⟩
  by_cases t31 : (x : Int32).toInt = 63
  · refine lv_tableIn (pc := 1) (off := 383) (tgt := 384) C0.1 C0.2.1 dX10_isMark_1 (by omega) (by omega) (by rw [t31]; rfl) (by decide) ?_
    refine lv_iconst (pc := 384) (v := 1) C0.1 C0.2.1 dX10_isMark_384 (by decide) ?_
    exact xzret (pc := 385) C0 hr hH hS dX10_isMark_385 (by decide) ⟨rfl, by decide⟩
  by_cases t32 : (x : Int32).toInt = 64
  · refine lv_tableIn (pc := 1) (off := 383) (tgt := 384) C0.1 C0.2.1 dX10_isMark_1 (by omega) (by omega) (by rw [t32]; rfl) (by decide) ?_
    refine lv_iconst (pc := 384) (v := 1) C0.1 C0.2.1 dX10_isMark_384 (by decide) ?_
    exact xzret (pc := 385) C0 hr hH hS dX10_isMark_385 (by decide) ⟨rfl, by decide⟩
  by_cases t33 : (x : Int32).toInt = 65
  · refine lv_tableIn (pc := 1) (off := 385) (tgt := 386) C0.1 C0.2.1 dX10_isMark_1 (by omega) (by omega) (by rw [t33]; rfl) (by decide) ?_
    refine lv_iconst (pc := 386) (v := 0) C0.1 C0.2.1 dX10_isMark_386 (by decide) ?_
    exact xzret (pc := 387) C0 hr hH hS dX10_isMark_387 (by decide) ⟨rfl, by decide⟩
  by_cases t34 : (x : Int32).toInt = 66
  · refine lv_tableIn (pc := 1) (off := 385) (tgt := 386) C0.1 C0.2.1 dX10_isMark_1 (by omega) (by omega) (by rw [t34]; rfl) (by decide) ?_
    refine lv_iconst (pc := 386) (v := 0) C0.1 C0.2.1 dX10_isMark_386 (by decide) ?_
    exact xzret (pc := 387) C0 hr hH hS dX10_isMark_387 (by decide) ⟨rfl, by decide⟩
  by_cases t35 : (x : Int32).toInt = 67
  · refine lv_tableIn (pc := 1) (off := 385) (tgt := 386) C0.1 C0.2.1 dX10_isMark_1 (by omega) (by omega) (by rw [t35]; rfl) (by decide) ?_
    refine lv_iconst (pc := 386) (v := 0) C0.1 C0.2.1 dX10_isMark_386 (by decide) ?_
    exact xzret (pc := 387) C0 hr hH hS dX10_isMark_387 (by decide) ⟨rfl, by decide⟩
  by_cases t36 : (x : Int32).toInt = 68
  · refine lv_tableIn (pc := 1) (off := 385) (tgt := 386) C0.1 C0.2.1 dX10_isMark_1 (by omega) (by omega) (by rw [t36]; rfl) (by decide) ?_
    refine lv_iconst (pc := 386) (v := 0) C0.1 C0.2.1 dX10_isMark_386 (by decide) ?_
    exact xzret (pc := 387) C0 hr hH hS dX10_isMark_387 (by decide) ⟨rfl, by decide⟩
  by_cases t37 : (x : Int32).toInt = 69
  · refine lv_tableIn (pc := 1) (off := 385) (tgt := 386) C0.1 C0.2.1 dX10_isMark_1 (by omega) (by omega) (by rw [t37]; rfl) (by decide) ?_
    refine lv_iconst (pc := 386) (v := 0) C0.1 C0.2.1 dX10_isMark_386 (by decide) ?_
    exact xzret (pc := 387) C0 hr hH hS dX10_isMark_387 (by decide) ⟨rfl, by decide⟩
  by_cases t38 : (x : Int32).toInt = 70
  · refine lv_tableIn (pc := 1) (off := 385) (tgt := 386) C0.1 C0.2.1 dX10_isMark_1 (by omega) (by omega) (by rw [t38]; rfl) (by decide) ?_
    refine lv_iconst (pc := 386) (v := 0) C0.1 C0.2.1 dX10_isMark_386 (by decide) ?_
    exact xzret (pc := 387) C0 hr hH hS dX10_isMark_387 (by decide) ⟨rfl, by decide⟩
  by_cases t39 : (x : Int32).toInt = 71
  · refine lv_tableIn (pc := 1) (off := 385) (tgt := 386) C0.1 C0.2.1 dX10_isMark_1 (by omega) (by omega) (by rw [t39]; rfl) (by decide) ?_
    refine lv_iconst (pc := 386) (v := 0) C0.1 C0.2.1 dX10_isMark_386 (by decide) ?_
    exact xzret (pc := 387) C0 hr hH hS dX10_isMark_387 (by decide) ⟨rfl, by decide⟩
  by_cases t40 : (x : Int32).toInt = 72
  · refine lv_tableIn (pc := 1) (off := 385) (tgt := 386) C0.1 C0.2.1 dX10_isMark_1 (by omega) (by omega) (by rw [t40]; rfl) (by decide) ?_
    refine lv_iconst (pc := 386) (v := 0) C0.1 C0.2.1 dX10_isMark_386 (by decide) ?_
    exact xzret (pc := 387) C0 hr hH hS dX10_isMark_387 (by decide) ⟨rfl, by decide⟩
  by_cases t41 : (x : Int32).toInt = 73
  · refine lv_tableIn (pc := 1) (off := 385) (tgt := 386) C0.1 C0.2.1 dX10_isMark_1 (by omega) (by omega) (by rw [t41]; rfl) (by decide) ?_
    refine lv_iconst (pc := 386) (v := 0) C0.1 C0.2.1 dX10_isMark_386 (by decide) ?_
    exact xzret (pc := 387) C0 hr hH hS dX10_isMark_387 (by decide) ⟨rfl, by decide⟩
  by_cases t42 : (x : Int32).toInt = 74
  · refine lv_tableIn (pc := 1) (off := 385) (tgt := 386) C0.1 C0.2.1 dX10_isMark_1 (by omega) (by omega) (by rw [t42]; rfl) (by decide) ?_
    refine lv_iconst (pc := 386) (v := 0) C0.1 C0.2.1 dX10_isMark_386 (by decide) ?_
    exact xzret (pc := 387) C0 hr hH hS dX10_isMark_387 (by decide) ⟨rfl, by decide⟩
  by_cases t43 : (x : Int32).toInt = 75
  · refine lv_tableIn (pc := 1) (off := 385) (tgt := 386) C0.1 C0.2.1 dX10_isMark_1 (by omega) (by omega) (by rw [t43]; rfl) (by decide) ?_
    refine lv_iconst (pc := 386) (v := 0) C0.1 C0.2.1 dX10_isMark_386 (by decide) ?_
    exact xzret (pc := 387) C0 hr hH hS dX10_isMark_387 (by decide) ⟨rfl, by decide⟩
  by_cases t44 : (x : Int32).toInt = 76
  · refine lv_tableIn (pc := 1) (off := 385) (tgt := 386) C0.1 C0.2.1 dX10_isMark_1 (by omega) (by omega) (by rw [t44]; rfl) (by decide) ?_
    refine lv_iconst (pc := 386) (v := 0) C0.1 C0.2.1 dX10_isMark_386 (by decide) ?_
    exact xzret (pc := 387) C0 hr hH hS dX10_isMark_387 (by decide) ⟨rfl, by decide⟩
  by_cases t45 : (x : Int32).toInt = 77
  · refine lv_tableIn (pc := 1) (off := 385) (tgt := 386) C0.1 C0.2.1 dX10_isMark_1 (by omega) (by omega) (by rw [t45]; rfl) (by decide) ?_
    refine lv_iconst (pc := 386) (v := 0) C0.1 C0.2.1 dX10_isMark_386 (by decide) ?_
    exact xzret (pc := 387) C0 hr hH hS dX10_isMark_387 (by decide) ⟨rfl, by decide⟩
  by_cases t46 : (x : Int32).toInt = 78
  · refine lv_tableIn (pc := 1) (off := 385) (tgt := 386) C0.1 C0.2.1 dX10_isMark_1 (by omega) (by omega) (by rw [t46]; rfl) (by decide) ?_
    refine lv_iconst (pc := 386) (v := 0) C0.1 C0.2.1 dX10_isMark_386 (by decide) ?_
    exact xzret (pc := 387) C0 hr hH hS dX10_isMark_387 (by decide) ⟨rfl, by decide⟩
  by_cases t47 : (x : Int32).toInt = 79
  · refine lv_tableIn (pc := 1) (off := 385) (tgt := 386) C0.1 C0.2.1 dX10_isMark_1 (by omega) (by omega) (by rw [t47]; rfl) (by decide) ?_
    refine lv_iconst (pc := 386) (v := 0) C0.1 C0.2.1 dX10_isMark_386 (by decide) ?_
    exact xzret (pc := 387) C0 hr hH hS dX10_isMark_387 (by decide) ⟨rfl, by decide⟩
  by_cases t48 : (x : Int32).toInt = 80
  · refine lv_tableIn (pc := 1) (off := 385) (tgt := 386) C0.1 C0.2.1 dX10_isMark_1 (by omega) (by omega) (by rw [t48]; rfl) (by decide) ?_
    refine lv_iconst (pc := 386) (v := 0) C0.1 C0.2.1 dX10_isMark_386 (by decide) ?_
    exact xzret (pc := 387) C0 hr hH hS dX10_isMark_387 (by decide) ⟨rfl, by decide⟩
  by_cases t49 : (x : Int32).toInt = 81
  · refine lv_tableIn (pc := 1) (off := 385) (tgt := 386) C0.1 C0.2.1 dX10_isMark_1 (by omega) (by omega) (by rw [t49]; rfl) (by decide) ?_
    refine lv_iconst (pc := 386) (v := 0) C0.1 C0.2.1 dX10_isMark_386 (by decide) ?_
    exact xzret (pc := 387) C0 hr hH hS dX10_isMark_387 (by decide) ⟨rfl, by decide⟩
  by_cases t50 : (x : Int32).toInt = 82
  · refine lv_tableIn (pc := 1) (off := 385) (tgt := 386) C0.1 C0.2.1 dX10_isMark_1 (by omega) (by omega) (by rw [t50]; rfl) (by decide) ?_
    refine lv_iconst (pc := 386) (v := 0) C0.1 C0.2.1 dX10_isMark_386 (by decide) ?_
    exact xzret (pc := 387) C0 hr hH hS dX10_isMark_387 (by decide) ⟨rfl, by decide⟩
  by_cases t51 : (x : Int32).toInt = 83
  · refine lv_tableIn (pc := 1) (off := 385) (tgt := 386) C0.1 C0.2.1 dX10_isMark_1 (by omega) (by omega) (by rw [t51]; rfl) (by decide) ?_
    refine lv_iconst (pc := 386) (v := 0) C0.1 C0.2.1 dX10_isMark_386 (by decide) ?_
    exact xzret (pc := 387) C0 hr hH hS dX10_isMark_387 (by decide) ⟨rfl, by decide⟩
  by_cases t52 : (x : Int32).toInt = 84
  · refine lv_tableIn (pc := 1) (off := 385) (tgt := 386) C0.1 C0.2.1 dX10_isMark_1 (by omega) (by omega) (by rw [t52]; rfl) (by decide) ?_
    refine lv_iconst (pc := 386) (v := 0) C0.1 C0.2.1 dX10_isMark_386 (by decide) ?_
    exact xzret (pc := 387) C0 hr hH hS dX10_isMark_387 (by decide) ⟨rfl, by decide⟩
  by_cases t53 : (x : Int32).toInt = 85
  · refine lv_tableIn (pc := 1) (off := 385) (tgt := 386) C0.1 C0.2.1 dX10_isMark_1 (by omega) (by omega) (by rw [t53]; rfl) (by decide) ?_
    refine lv_iconst (pc := 386) (v := 0) C0.1 C0.2.1 dX10_isMark_386 (by decide) ?_
    exact xzret (pc := 387) C0 hr hH hS dX10_isMark_387 (by decide) ⟨rfl, by decide⟩
  by_cases t54 : (x : Int32).toInt = 86
  · refine lv_tableIn (pc := 1) (off := 385) (tgt := 386) C0.1 C0.2.1 dX10_isMark_1 (by omega) (by omega) (by rw [t54]; rfl) (by decide) ?_
    refine lv_iconst (pc := 386) (v := 0) C0.1 C0.2.1 dX10_isMark_386 (by decide) ?_
    exact xzret (pc := 387) C0 hr hH hS dX10_isMark_387 (by decide) ⟨rfl, by decide⟩
  by_cases t55 : (x : Int32).toInt = 87
  · refine lv_tableIn (pc := 1) (off := 385) (tgt := 386) C0.1 C0.2.1 dX10_isMark_1 (by omega) (by omega) (by rw [t55]; rfl) (by decide) ?_
    refine lv_iconst (pc := 386) (v := 0) C0.1 C0.2.1 dX10_isMark_386 (by decide) ?_
    exact xzret (pc := 387) C0 hr hH hS dX10_isMark_387 (by decide) ⟨rfl, by decide⟩
  by_cases t56 : (x : Int32).toInt = 88
  · refine lv_tableIn (pc := 1) (off := 385) (tgt := 386) C0.1 C0.2.1 dX10_isMark_1 (by omega) (by omega) (by rw [t56]; rfl) (by decide) ?_
    refine lv_iconst (pc := 386) (v := 0) C0.1 C0.2.1 dX10_isMark_386 (by decide) ?_
    exact xzret (pc := 387) C0 hr hH hS dX10_isMark_387 (by decide) ⟨rfl, by decide⟩
  by_cases t57 : (x : Int32).toInt = 89
  · refine lv_tableIn (pc := 1) (off := 385) (tgt := 386) C0.1 C0.2.1 dX10_isMark_1 (by omega) (by omega) (by rw [t57]; rfl) (by decide) ?_
    refine lv_iconst (pc := 386) (v := 0) C0.1 C0.2.1 dX10_isMark_386 (by decide) ?_
    exact xzret (pc := 387) C0 hr hH hS dX10_isMark_387 (by decide) ⟨rfl, by decide⟩
  by_cases t58 : (x : Int32).toInt = 90
  · refine lv_tableIn (pc := 1) (off := 385) (tgt := 386) C0.1 C0.2.1 dX10_isMark_1 (by omega) (by omega) (by rw [t58]; rfl) (by decide) ?_
    refine lv_iconst (pc := 386) (v := 0) C0.1 C0.2.1 dX10_isMark_386 (by decide) ?_
    exact xzret (pc := 387) C0 hr hH hS dX10_isMark_387 (by decide) ⟨rfl, by decide⟩
  by_cases t59 : (x : Int32).toInt = 91
  · refine lv_tableIn (pc := 1) (off := 383) (tgt := 384) C0.1 C0.2.1 dX10_isMark_1 (by omega) (by omega) (by rw [t59]; rfl) (by decide) ?_
    refine lv_iconst (pc := 384) (v := 1) C0.1 C0.2.1 dX10_isMark_384 (by decide) ?_
    exact xzret (pc := 385) C0 hr hH hS dX10_isMark_385 (by decide) ⟨rfl, by decide⟩
  by_cases t60 : (x : Int32).toInt = 92
  · refine lv_tableIn (pc := 1) (off := 385) (tgt := 386) C0.1 C0.2.1 dX10_isMark_1 (by omega) (by omega) (by rw [t60]; rfl) (by decide) ?_
    refine lv_iconst (pc := 386) (v := 0) C0.1 C0.2.1 dX10_isMark_386 (by decide) ?_
    exact xzret (pc := 387) C0 hr hH hS dX10_isMark_387 (by decide) ⟨rfl, by decide⟩
  by_cases t61 : (x : Int32).toInt = 93
  · refine lv_tableIn (pc := 1) (off := 383) (tgt := 384) C0.1 C0.2.1 dX10_isMark_1 (by omega) (by omega) (by rw [t61]; rfl) (by decide) ?_
    refine lv_iconst (pc := 384) (v := 1) C0.1 C0.2.1 dX10_isMark_384 (by decide) ?_
    exact xzret (pc := 385) C0 hr hH hS dX10_isMark_385 (by decide) ⟨rfl, by decide⟩
  by_cases t62 : (x : Int32).toInt = 94
  · refine lv_tableIn (pc := 1) (off := 383) (tgt := 384) C0.1 C0.2.1 dX10_isMark_1 (by omega) (by omega) (by rw [t62]; rfl) (by decide) ?_
    refine lv_iconst (pc := 384) (v := 1) C0.1 C0.2.1 dX10_isMark_384 (by decide) ?_
    exact xzret (pc := 385) C0 hr hH hS dX10_isMark_385 (by decide) ⟨rfl, by decide⟩
  by_cases t63 : (x : Int32).toInt = 95
  · refine lv_tableIn (pc := 1) (off := 383) (tgt := 384) C0.1 C0.2.1 dX10_isMark_1 (by omega) (by omega) (by rw [t63]; rfl) (by decide) ?_
    refine lv_iconst (pc := 384) (v := 1) C0.1 C0.2.1 dX10_isMark_384 (by decide) ?_
    exact xzret (pc := 385) C0 hr hH hS dX10_isMark_385 (by decide) ⟨rfl, by decide⟩
  by_cases t64 : (x : Int32).toInt = 96
  · refine lv_tableIn (pc := 1) (off := 385) (tgt := 386) C0.1 C0.2.1 dX10_isMark_1 (by omega) (by omega) (by rw [t64]; rfl) (by decide) ?_
    refine lv_iconst (pc := 386) (v := 0) C0.1 C0.2.1 dX10_isMark_386 (by decide) ?_
    exact xzret (pc := 387) C0 hr hH hS dX10_isMark_387 (by decide) ⟨rfl, by decide⟩
  by_cases t65 : (x : Int32).toInt = 97
  · refine lv_tableIn (pc := 1) (off := 385) (tgt := 386) C0.1 C0.2.1 dX10_isMark_1 (by omega) (by omega) (by rw [t65]; rfl) (by decide) ?_
    refine lv_iconst (pc := 386) (v := 0) C0.1 C0.2.1 dX10_isMark_386 (by decide) ?_
    exact xzret (pc := 387) C0 hr hH hS dX10_isMark_387 (by decide) ⟨rfl, by decide⟩
  by_cases t66 : (x : Int32).toInt = 98
  · refine lv_tableIn (pc := 1) (off := 385) (tgt := 386) C0.1 C0.2.1 dX10_isMark_1 (by omega) (by omega) (by rw [t66]; rfl) (by decide) ?_
    refine lv_iconst (pc := 386) (v := 0) C0.1 C0.2.1 dX10_isMark_386 (by decide) ?_
    exact xzret (pc := 387) C0 hr hH hS dX10_isMark_387 (by decide) ⟨rfl, by decide⟩
  by_cases t67 : (x : Int32).toInt = 99
  · refine lv_tableIn (pc := 1) (off := 385) (tgt := 386) C0.1 C0.2.1 dX10_isMark_1 (by omega) (by omega) (by rw [t67]; rfl) (by decide) ?_
    refine lv_iconst (pc := 386) (v := 0) C0.1 C0.2.1 dX10_isMark_386 (by decide) ?_
    exact xzret (pc := 387) C0 hr hH hS dX10_isMark_387 (by decide) ⟨rfl, by decide⟩
  by_cases t68 : (x : Int32).toInt = 100
  · refine lv_tableIn (pc := 1) (off := 385) (tgt := 386) C0.1 C0.2.1 dX10_isMark_1 (by omega) (by omega) (by rw [t68]; rfl) (by decide) ?_
    refine lv_iconst (pc := 386) (v := 0) C0.1 C0.2.1 dX10_isMark_386 (by decide) ?_
    exact xzret (pc := 387) C0 hr hH hS dX10_isMark_387 (by decide) ⟨rfl, by decide⟩
  by_cases t69 : (x : Int32).toInt = 101
  · refine lv_tableIn (pc := 1) (off := 385) (tgt := 386) C0.1 C0.2.1 dX10_isMark_1 (by omega) (by omega) (by rw [t69]; rfl) (by decide) ?_
    refine lv_iconst (pc := 386) (v := 0) C0.1 C0.2.1 dX10_isMark_386 (by decide) ?_
    exact xzret (pc := 387) C0 hr hH hS dX10_isMark_387 (by decide) ⟨rfl, by decide⟩
  by_cases t70 : (x : Int32).toInt = 102
  · refine lv_tableIn (pc := 1) (off := 385) (tgt := 386) C0.1 C0.2.1 dX10_isMark_1 (by omega) (by omega) (by rw [t70]; rfl) (by decide) ?_
    refine lv_iconst (pc := 386) (v := 0) C0.1 C0.2.1 dX10_isMark_386 (by decide) ?_
    exact xzret (pc := 387) C0 hr hH hS dX10_isMark_387 (by decide) ⟨rfl, by decide⟩
  by_cases t71 : (x : Int32).toInt = 103
  · refine lv_tableIn (pc := 1) (off := 385) (tgt := 386) C0.1 C0.2.1 dX10_isMark_1 (by omega) (by omega) (by rw [t71]; rfl) (by decide) ?_
    refine lv_iconst (pc := 386) (v := 0) C0.1 C0.2.1 dX10_isMark_386 (by decide) ?_
    exact xzret (pc := 387) C0 hr hH hS dX10_isMark_387 (by decide) ⟨rfl, by decide⟩
  by_cases t72 : (x : Int32).toInt = 104
  · refine lv_tableIn (pc := 1) (off := 385) (tgt := 386) C0.1 C0.2.1 dX10_isMark_1 (by omega) (by omega) (by rw [t72]; rfl) (by decide) ?_
    refine lv_iconst (pc := 386) (v := 0) C0.1 C0.2.1 dX10_isMark_386 (by decide) ?_
    exact xzret (pc := 387) C0 hr hH hS dX10_isMark_387 (by decide) ⟨rfl, by decide⟩
  by_cases t73 : (x : Int32).toInt = 105
  · refine lv_tableIn (pc := 1) (off := 385) (tgt := 386) C0.1 C0.2.1 dX10_isMark_1 (by omega) (by omega) (by rw [t73]; rfl) (by decide) ?_
    refine lv_iconst (pc := 386) (v := 0) C0.1 C0.2.1 dX10_isMark_386 (by decide) ?_
    exact xzret (pc := 387) C0 hr hH hS dX10_isMark_387 (by decide) ⟨rfl, by decide⟩
  by_cases t74 : (x : Int32).toInt = 106
  · refine lv_tableIn (pc := 1) (off := 385) (tgt := 386) C0.1 C0.2.1 dX10_isMark_1 (by omega) (by omega) (by rw [t74]; rfl) (by decide) ?_
    refine lv_iconst (pc := 386) (v := 0) C0.1 C0.2.1 dX10_isMark_386 (by decide) ?_
    exact xzret (pc := 387) C0 hr hH hS dX10_isMark_387 (by decide) ⟨rfl, by decide⟩
  by_cases t75 : (x : Int32).toInt = 107
  · refine lv_tableIn (pc := 1) (off := 385) (tgt := 386) C0.1 C0.2.1 dX10_isMark_1 (by omega) (by omega) (by rw [t75]; rfl) (by decide) ?_
    refine lv_iconst (pc := 386) (v := 0) C0.1 C0.2.1 dX10_isMark_386 (by decide) ?_
    exact xzret (pc := 387) C0 hr hH hS dX10_isMark_387 (by decide) ⟨rfl, by decide⟩
  by_cases t76 : (x : Int32).toInt = 108
  · refine lv_tableIn (pc := 1) (off := 385) (tgt := 386) C0.1 C0.2.1 dX10_isMark_1 (by omega) (by omega) (by rw [t76]; rfl) (by decide) ?_
    refine lv_iconst (pc := 386) (v := 0) C0.1 C0.2.1 dX10_isMark_386 (by decide) ?_
    exact xzret (pc := 387) C0 hr hH hS dX10_isMark_387 (by decide) ⟨rfl, by decide⟩
  by_cases t77 : (x : Int32).toInt = 109
  · refine lv_tableIn (pc := 1) (off := 385) (tgt := 386) C0.1 C0.2.1 dX10_isMark_1 (by omega) (by omega) (by rw [t77]; rfl) (by decide) ?_
    refine lv_iconst (pc := 386) (v := 0) C0.1 C0.2.1 dX10_isMark_386 (by decide) ?_
    exact xzret (pc := 387) C0 hr hH hS dX10_isMark_387 (by decide) ⟨rfl, by decide⟩
  by_cases t78 : (x : Int32).toInt = 110
  · refine lv_tableIn (pc := 1) (off := 385) (tgt := 386) C0.1 C0.2.1 dX10_isMark_1 (by omega) (by omega) (by rw [t78]; rfl) (by decide) ?_
    refine lv_iconst (pc := 386) (v := 0) C0.1 C0.2.1 dX10_isMark_386 (by decide) ?_
    exact xzret (pc := 387) C0 hr hH hS dX10_isMark_387 (by decide) ⟨rfl, by decide⟩
  by_cases t79 : (x : Int32).toInt = 111
  · refine lv_tableIn (pc := 1) (off := 385) (tgt := 386) C0.1 C0.2.1 dX10_isMark_1 (by omega) (by omega) (by rw [t79]; rfl) (by decide) ?_
    refine lv_iconst (pc := 386) (v := 0) C0.1 C0.2.1 dX10_isMark_386 (by decide) ?_
    exact xzret (pc := 387) C0 hr hH hS dX10_isMark_387 (by decide) ⟨rfl, by decide⟩
  by_cases t80 : (x : Int32).toInt = 112
  · refine lv_tableIn (pc := 1) (off := 385) (tgt := 386) C0.1 C0.2.1 dX10_isMark_1 (by omega) (by omega) (by rw [t80]; rfl) (by decide) ?_
    refine lv_iconst (pc := 386) (v := 0) C0.1 C0.2.1 dX10_isMark_386 (by decide) ?_
    exact xzret (pc := 387) C0 hr hH hS dX10_isMark_387 (by decide) ⟨rfl, by decide⟩
  by_cases t81 : (x : Int32).toInt = 113
  · refine lv_tableIn (pc := 1) (off := 385) (tgt := 386) C0.1 C0.2.1 dX10_isMark_1 (by omega) (by omega) (by rw [t81]; rfl) (by decide) ?_
    refine lv_iconst (pc := 386) (v := 0) C0.1 C0.2.1 dX10_isMark_386 (by decide) ?_
    exact xzret (pc := 387) C0 hr hH hS dX10_isMark_387 (by decide) ⟨rfl, by decide⟩
  by_cases t82 : (x : Int32).toInt = 114
  · refine lv_tableIn (pc := 1) (off := 385) (tgt := 386) C0.1 C0.2.1 dX10_isMark_1 (by omega) (by omega) (by rw [t82]; rfl) (by decide) ?_
    refine lv_iconst (pc := 386) (v := 0) C0.1 C0.2.1 dX10_isMark_386 (by decide) ?_
    exact xzret (pc := 387) C0 hr hH hS dX10_isMark_387 (by decide) ⟨rfl, by decide⟩
  by_cases t83 : (x : Int32).toInt = 115
  · refine lv_tableIn (pc := 1) (off := 385) (tgt := 386) C0.1 C0.2.1 dX10_isMark_1 (by omega) (by omega) (by rw [t83]; rfl) (by decide) ?_
    refine lv_iconst (pc := 386) (v := 0) C0.1 C0.2.1 dX10_isMark_386 (by decide) ?_
    exact xzret (pc := 387) C0 hr hH hS dX10_isMark_387 (by decide) ⟨rfl, by decide⟩
  by_cases t84 : (x : Int32).toInt = 116
  · refine lv_tableIn (pc := 1) (off := 385) (tgt := 386) C0.1 C0.2.1 dX10_isMark_1 (by omega) (by omega) (by rw [t84]; rfl) (by decide) ?_
    refine lv_iconst (pc := 386) (v := 0) C0.1 C0.2.1 dX10_isMark_386 (by decide) ?_
    exact xzret (pc := 387) C0 hr hH hS dX10_isMark_387 (by decide) ⟨rfl, by decide⟩
  by_cases t85 : (x : Int32).toInt = 117
  · refine lv_tableIn (pc := 1) (off := 385) (tgt := 386) C0.1 C0.2.1 dX10_isMark_1 (by omega) (by omega) (by rw [t85]; rfl) (by decide) ?_
    refine lv_iconst (pc := 386) (v := 0) C0.1 C0.2.1 dX10_isMark_386 (by decide) ?_
    exact xzret (pc := 387) C0 hr hH hS dX10_isMark_387 (by decide) ⟨rfl, by decide⟩
  by_cases t86 : (x : Int32).toInt = 118
  · refine lv_tableIn (pc := 1) (off := 385) (tgt := 386) C0.1 C0.2.1 dX10_isMark_1 (by omega) (by omega) (by rw [t86]; rfl) (by decide) ?_
    refine lv_iconst (pc := 386) (v := 0) C0.1 C0.2.1 dX10_isMark_386 (by decide) ?_
    exact xzret (pc := 387) C0 hr hH hS dX10_isMark_387 (by decide) ⟨rfl, by decide⟩
  by_cases t87 : (x : Int32).toInt = 119
  · refine lv_tableIn (pc := 1) (off := 385) (tgt := 386) C0.1 C0.2.1 dX10_isMark_1 (by omega) (by omega) (by rw [t87]; rfl) (by decide) ?_
    refine lv_iconst (pc := 386) (v := 0) C0.1 C0.2.1 dX10_isMark_386 (by decide) ?_
    exact xzret (pc := 387) C0 hr hH hS dX10_isMark_387 (by decide) ⟨rfl, by decide⟩
  by_cases t88 : (x : Int32).toInt = 120
  · refine lv_tableIn (pc := 1) (off := 385) (tgt := 386) C0.1 C0.2.1 dX10_isMark_1 (by omega) (by omega) (by rw [t88]; rfl) (by decide) ?_
    refine lv_iconst (pc := 386) (v := 0) C0.1 C0.2.1 dX10_isMark_386 (by decide) ?_
    exact xzret (pc := 387) C0 hr hH hS dX10_isMark_387 (by decide) ⟨rfl, by decide⟩
  by_cases t89 : (x : Int32).toInt = 121
  · refine lv_tableIn (pc := 1) (off := 385) (tgt := 386) C0.1 C0.2.1 dX10_isMark_1 (by omega) (by omega) (by rw [t89]; rfl) (by decide) ?_
    refine lv_iconst (pc := 386) (v := 0) C0.1 C0.2.1 dX10_isMark_386 (by decide) ?_
    exact xzret (pc := 387) C0 hr hH hS dX10_isMark_387 (by decide) ⟨rfl, by decide⟩
  by_cases t90 : (x : Int32).toInt = 122
  · refine lv_tableIn (pc := 1) (off := 385) (tgt := 386) C0.1 C0.2.1 dX10_isMark_1 (by omega) (by omega) (by rw [t90]; rfl) (by decide) ?_
    refine lv_iconst (pc := 386) (v := 0) C0.1 C0.2.1 dX10_isMark_386 (by decide) ?_
    exact xzret (pc := 387) C0 hr hH hS dX10_isMark_387 (by decide) ⟨rfl, by decide⟩
  by_cases t91 : (x : Int32).toInt = 123
  · refine lv_tableIn (pc := 1) (off := 385) (tgt := 386) C0.1 C0.2.1 dX10_isMark_1 (by omega) (by omega) (by rw [t91]; rfl) (by decide) ?_
    refine lv_iconst (pc := 386) (v := 0) C0.1 C0.2.1 dX10_isMark_386 (by decide) ?_
    exact xzret (pc := 387) C0 hr hH hS dX10_isMark_387 (by decide) ⟨rfl, by decide⟩
  by_cases t92 : (x : Int32).toInt = 124
  · refine lv_tableIn (pc := 1) (off := 383) (tgt := 384) C0.1 C0.2.1 dX10_isMark_1 (by omega) (by omega) (by rw [t92]; rfl) (by decide) ?_
    refine lv_iconst (pc := 384) (v := 1) C0.1 C0.2.1 dX10_isMark_384 (by decide) ?_
    exact xzret (pc := 385) C0 hr hH hS dX10_isMark_385 (by decide) ⟨rfl, by decide⟩
  refine lv_tableOut (pc := 1) (tgt := 386) C0.1 C0.2.1 dX10_isMark_1 (by omega) (by decide) ?_
  refine lv_iconst (pc := 386) (v := 0) C0.1 C0.2.1 dX10_isMark_386 (by decide) ?_
  exact xzret (pc := 387) C0 hr hH hS dX10_isMark_387 (by decide) ⟨rfl, by decide⟩
set_option maxHeartbeats 4000000 in
set_option maxRecDepth 100000 in
theorem m_measure_85 (l : Launch) (D : va_G) (tA : Nat → ClassId) (b : Nat) (i F : Nat → Nat → Int32) (G : Nat → Nat → Int64)  (hi_78_17 : i 78 17 = nI 85) (hlen : 0 ≤ (i 78 18).toInt ∧ (i 78 18).toInt ≤ 600) (htab : 0 ≤ (i 78 10).toInt ∧ (i 78 10).toInt ≤ 8) (hcb : CB F) : xMV l yX10_measure cX10_measure 4 none 0 0 D tA b 78 52 i F G [.ref (b + 78)] (fun u => RO [] [96, 97] i F G u ∧ CB u.2.1) := by
  refine xstart RX10 rfl (by decide) (Nat.le_of_ble_eq_true rfl) ?_
  intro p e s m below meth c ls C0 hr hH hS hl
  have hl : lv_has ls 4 [(0, .ref (b + 78))] := hl
  have L6 : ∀ (d : Nat) (k ll cc : Int32) (iv Fv : Nat → Nat → Int32) (Gv : Nat → Nat → Int64) (H : Heap) (locs : List Loc) (ls : Array Slot), (0 ≤ k.toInt ∧ k.toInt ≤ 601) → (601 - k.toInt ≤ d) → (RO [] [96, 97] i F G (iv, Fv, Gv)) → (CB Fv) → (0 ≤ cc.toInt ∧ cc.toInt ≤ 8 * k.toInt) → Hd D tA b 78 52 zz iv Fv Gv H → va_S (xA b 78 52) s.heap H locs → lv_has ls 4 [(3, .int k), (2, .int cc), (1, .int ll), (0, .ref (b + 78))] → W p l e (xR 0 0) s m ([.ref (b + 78)] : List Value).toArray below meth c H locs 0 0 (MQ below (va_Qv (fun u => RO [] [96, 97] i F G u ∧ CB u.2.1) (xB D tA b 78 52 zz) (xA b 78 52)) ([.ref (b + 78)] : List Value).toArray s 0 0 (xA b 78 52)) (F0 m 6 ls []) := by
    intro d
    induction d with
    | zero =>
      intro k ll cc iv Fv Gv H locs ls h1 h2 h3 h4 h5 hH hS hl
      have rg_k := fb_rng k
      have rg_ll := fb_rng ll
      have rg_cc := fb_rng cc
      have hi_78_17 : iv 78 17 = nI 85 := (h3.1 78 17 (Or.inr (by decide))).trans hi_78_17
      have ek18 : Int32.toInt (iv 78 18) = Int32.toInt (i 78 18) := congrArg Int32.toInt (h3.1 78 18 (Or.inr (by decide)))
      have ek10 : Int32.toInt (iv 78 10) = Int32.toInt (i 78 10) := congrArg Int32.toInt (h3.1 78 10 (Or.inr (by decide)))
      refine lv_iload_n (pc := 6) C0.1 C0.2.1 dX10_measure_6 rfl (lv_at hl 0 rfl) ?_
      refine lv_aload_n (pc := 7) C0.1 C0.2.1 dX10_measure_7 rfl (lv_at hl 3 rfl) ?_
      refine xget (pc := 8) C0 hH 78 18 clX10 ⟨Nat.le_of_ble_eq_true rfl, Nat.le_of_ble_eq_true rfl⟩ ⟨rfl, rfl⟩ (Nat.le_of_ble_eq_true rfl) fl_X10_251 (v := .int (iv 78 18)) rfl dX10_measure_8 ?_
      refine lv_icmp_gt (pc := 11) (tgt := 107) C0.1 C0.2.1 dX10_measure_11 (by decide) (fun _ => ?_) (fun c => absurd (Int32.lt_iff_toInt_lt.mpr (by omega)) c)
      exact xvret (pc := 107) C0 hr hH hS dX10_measure_107 ⟨h3, h4⟩
    | succ d ih6 =>
      intro k ll cc iv Fv Gv H locs ls h1 h2 h3 h4 h5 hH hS hl
      have rg_k := fb_rng k
      have rg_ll := fb_rng ll
      have rg_cc := fb_rng cc
      have hi_78_17 : iv 78 17 = nI 85 := (h3.1 78 17 (Or.inr (by decide))).trans hi_78_17
      have ek18 : Int32.toInt (iv 78 18) = Int32.toInt (i 78 18) := congrArg Int32.toInt (h3.1 78 18 (Or.inr (by decide)))
      have ek10 : Int32.toInt (iv 78 10) = Int32.toInt (i 78 10) := congrArg Int32.toInt (h3.1 78 10 (Or.inr (by decide)))
      refine lv_iload_n (pc := 6) C0.1 C0.2.1 dX10_measure_6 rfl (lv_at hl 0 rfl) ?_
      refine lv_aload_n (pc := 7) C0.1 C0.2.1 dX10_measure_7 rfl (lv_at hl 3 rfl) ?_
      refine xget (pc := 8) C0 hH 78 18 clX10 ⟨Nat.le_of_ble_eq_true rfl, Nat.le_of_ble_eq_true rfl⟩ ⟨rfl, rfl⟩ (Nat.le_of_ble_eq_true rfl) fl_X10_251 (v := .int (iv 78 18)) rfl dX10_measure_8 ?_
      refine lv_icmp_gt (pc := 11) (tgt := 107) C0.1 C0.2.1 dX10_measure_11 (by decide) (fun c201 => ?_) (fun c201 => ?_)
      · have c201 := Int32.lt_iff_toInt_lt.mp c201
        exact xvret (pc := 107) C0 hr hH hS dX10_measure_107 ⟨h3, h4⟩
      · have c201 : ¬ _ := fun q => c201 (Int32.lt_iff_toInt_lt.mpr q)
        refine lv_aload_n (pc := 14) C0.1 C0.2.1 dX10_measure_14 rfl (lv_at hl 3 rfl) ?_
        refine xget (pc := 15) C0 hH 78 28 clX10 ⟨Nat.le_of_ble_eq_true rfl, Nat.le_of_ble_eq_true rfl⟩ ⟨rfl, rfl⟩ (Nat.le_of_ble_eq_true rfl) fl_X10_67 (v := .ref (b + 96)) rfl dX10_measure_15 ?_
        refine lv_iload_n (pc := 18) C0.1 C0.2.1 dX10_measure_18 rfl (lv_at hl 0 rfl) ?_
        refine lv_iload_n (pc := 19) C0.1 C0.2.1 dX10_measure_19 rfl (lv_at hl 2 rfl) ?_
        refine xiast (pc := 20) (N := 601) C0 (Nat.le_of_ble_eq_true rfl) hH hS 96 ⟨Nat.le_of_ble_eq_true rfl, Nat.le_of_ble_eq_true rfl⟩ ⟨rfl, rfl⟩ (vI (by omega) (by omega)) dX10_measure_20 (fun _ locs hH hS _ => ?_)
        have hH : Hd D tA b 78 52 zz iv (va_up Fv 96 (upd (Fv 96) (Int32.toNatClampNeg k) ll)) Gv _ := hH
        refine lv_aload_n (pc := 21) C0.1 C0.2.1 dX10_measure_21 rfl (lv_at hl 3 rfl) ?_
        refine xget (pc := 22) C0 hH 78 29 clX10 ⟨Nat.le_of_ble_eq_true rfl, Nat.le_of_ble_eq_true rfl⟩ ⟨rfl, rfl⟩ (Nat.le_of_ble_eq_true rfl) fl_X10_70 (v := .ref (b + 97)) rfl dX10_measure_22 ?_
        refine lv_iload_n (pc := 25) C0.1 C0.2.1 dX10_measure_25 rfl (lv_at hl 0 rfl) ?_
        refine lv_iload_n (pc := 26) C0.1 C0.2.1 dX10_measure_26 rfl (lv_at hl 1 rfl) ?_
        refine xiast (pc := 27) (N := 601) C0 (Nat.le_of_ble_eq_true rfl) hH hS 97 ⟨Nat.le_of_ble_eq_true rfl, Nat.le_of_ble_eq_true rfl⟩ ⟨rfl, rfl⟩ (vI (by omega) (by omega)) dX10_measure_27 (fun _ locs hH hS _ => ?_)
        have hH : Hd D tA b 78 52 zz iv (va_up (va_up Fv 96 (upd (Fv 96) (Int32.toNatClampNeg k) ll)) 97 (upd (Fv 97) (Int32.toNatClampNeg k) cc)) Gv _ := hH
        refine lv_iload_n (pc := 28) C0.1 C0.2.1 dX10_measure_28 rfl (lv_at hl 0 rfl) ?_
        refine lv_aload_n (pc := 29) C0.1 C0.2.1 dX10_measure_29 rfl (lv_at hl 3 rfl) ?_
        refine xget (pc := 30) C0 hH 78 18 clX10 ⟨Nat.le_of_ble_eq_true rfl, Nat.le_of_ble_eq_true rfl⟩ ⟨rfl, rfl⟩ (Nat.le_of_ble_eq_true rfl) fl_X10_251 (v := .int (iv 78 18)) rfl dX10_measure_30 ?_
        refine lv_icmp_ge (pc := 33) (tgt := 55) C0.1 C0.2.1 dX10_measure_33 (by decide) (fun c202 => ?_) (fun c202 => ?_)
        · have c202 := Int32.le_iff_toInt_le.mp c202
          refine lv_iload_n (pc := 55) C0.1 C0.2.1 dX10_measure_55 rfl (lv_at hl 0 rfl) ?_
          refine lv_aload_n (pc := 56) C0.1 C0.2.1 dX10_measure_56 rfl (lv_at hl 3 rfl) ?_
          refine xget (pc := 57) C0 hH 78 18 clX10 ⟨Nat.le_of_ble_eq_true rfl, Nat.le_of_ble_eq_true rfl⟩ ⟨rfl, rfl⟩ (Nat.le_of_ble_eq_true rfl) fl_X10_251 (v := .int (iv 78 18)) rfl dX10_measure_57 ?_
          refine lv_icmp_ge (pc := 60) (tgt := 97) C0.1 C0.2.1 dX10_measure_60 (by decide) (fun c203 => ?_) (fun c203 => ?_)
          · have c203 := Int32.le_iff_toInt_le.mp c203
            refine lv_iload_n (pc := 97) C0.1 C0.2.1 dX10_measure_97 rfl (lv_at hl 1 rfl) ?_
            refine lv_iconst (pc := 98) (v := 1) C0.1 C0.2.1 dX10_measure_98 (by decide) ?_
            have : Int32.toInt 1 = 1 := rfl
            refine lv_iadd (pc := 99) C0.1 C0.2.1 dX10_measure_99 ?_
            refine lv_topi (fun x204 ex204 => ?_)
            have hx204 : Int32.toInt x204 = Int32.toInt cc + Int32.toInt 1 := by rw [ex204]; exact fb_addI (by omega) (by omega)
            refine lv_istore_n (pc := 100) (lv' := [(2, .int x204), (3, .int k), (1, .int ll), (0, .ref (b + 78))]) C0.1 C0.2.1 dX10_measure_100 rfl hl (by decide) rfl (fun ls hl => ?_)
            obtain ⟨x205, ex205⟩ : ∃ y_ : Int32, y_ = k + 1 := ⟨_, rfl⟩
            have : Int32.toInt 1 = 1 := rfl
            have hx205 : Int32.toInt x205 = Int32.toInt k + Int32.toInt 1 := by rw [ex205]; exact fb_addI (by omega) (by omega)
            refine lv_iinc (pc := 101) (v := x205) (lv' := [(3, .int x205), (2, .int x204), (1, .int ll), (0, .ref (b + 78))]) C0.1 C0.2.1 dX10_measure_101 hl (k := 1) rfl (by rw [ex205]; rfl) (by decide) rfl (fun ls hl => ?_)
            refine lv_goto (pc := 104) (tgt := 6) C0.1 C0.2.1 dX10_measure_104 (by decide) ?_
            exact ih6 x205 ll x204 iv (va_up (va_up Fv 96 (upd (Fv 96) (Int32.toNatClampNeg k) ll)) 97 (upd (Fv 97) (Int32.toNatClampNeg k) cc)) Gv _ _ _ (by omega) (by omega) (RO.f (RO.f h3 (by decide)) (by decide)) (fun j => cb_up h4 (by omega) j) (by have : Int32.toInt 0 = 0 := rfl; omega) hH hS (lv_sub hl [0, 1, 2, 3] rfl)
          · have c203 : ¬ _ := fun q => c203 (Int32.le_iff_toInt_le.mpr q)
            refine lv_aload_n (pc := 63) C0.1 C0.2.1 dX10_measure_63 rfl (lv_at hl 3 rfl) ?_
            refine xget (pc := 64) C0 hH 78 17 clX10 ⟨Nat.le_of_ble_eq_true rfl, Nat.le_of_ble_eq_true rfl⟩ ⟨rfl, rfl⟩ (Nat.le_of_ble_eq_true rfl) fl_X10_39 (v := .ref (b + 85)) (by show Value.ref (b + (iv 78 17).toNatClampNeg) = _; rw [hi_78_17]; rfl) dX10_measure_64 ?_
            refine lv_iload_n (pc := 67) C0.1 C0.2.1 dX10_measure_67 rfl (lv_at hl 0 rfl) ?_
            refine xbald (pc := 68) (N := 600) C0 hH 85 ⟨Nat.le_of_ble_eq_true rfl, Nat.le_of_ble_eq_true rfl⟩ ⟨rfl, rfl⟩ (vI (by omega) (by omega)) dX10_measure_68 ?_
            refine lv_bipush (pc := 69) (v := 9) C0.1 C0.2.1 dX10_measure_69 (by decide) ?_
            refine lv_icmp_ne (pc := 71) (tgt := 97) C0.1 C0.2.1 dX10_measure_71 (by decide) (fun c206 => ?_) (fun c206 => ?_)
            · have : Int32.toInt 9 = 9 := rfl
              have c206 : ¬ _ := fun q => c206 (Int32.toInt_inj.mp q)
              refine lv_iload_n (pc := 97) C0.1 C0.2.1 dX10_measure_97 rfl (lv_at hl 1 rfl) ?_
              refine lv_iconst (pc := 98) (v := 1) C0.1 C0.2.1 dX10_measure_98 (by decide) ?_
              have : Int32.toInt 1 = 1 := rfl
              refine lv_iadd (pc := 99) C0.1 C0.2.1 dX10_measure_99 ?_
              refine lv_topi (fun x207 ex207 => ?_)
              have hx207 : Int32.toInt x207 = Int32.toInt cc + Int32.toInt 1 := by rw [ex207]; exact fb_addI (by omega) (by omega)
              refine lv_istore_n (pc := 100) (lv' := [(2, .int x207), (3, .int k), (1, .int ll), (0, .ref (b + 78))]) C0.1 C0.2.1 dX10_measure_100 rfl hl (by decide) rfl (fun ls hl => ?_)
              obtain ⟨x208, ex208⟩ : ∃ y_ : Int32, y_ = k + 1 := ⟨_, rfl⟩
              have : Int32.toInt 1 = 1 := rfl
              have hx208 : Int32.toInt x208 = Int32.toInt k + Int32.toInt 1 := by rw [ex208]; exact fb_addI (by omega) (by omega)
              refine lv_iinc (pc := 101) (v := x208) (lv' := [(3, .int x208), (2, .int x207), (1, .int ll), (0, .ref (b + 78))]) C0.1 C0.2.1 dX10_measure_101 hl (k := 1) rfl (by rw [ex208]; rfl) (by decide) rfl (fun ls hl => ?_)
              refine lv_goto (pc := 104) (tgt := 6) C0.1 C0.2.1 dX10_measure_104 (by decide) ?_
              exact ih6 x208 ll x207 iv (va_up (va_up Fv 96 (upd (Fv 96) (Int32.toNatClampNeg k) ll)) 97 (upd (Fv 97) (Int32.toNatClampNeg k) cc)) Gv _ _ _ (by omega) (by omega) (RO.f (RO.f h3 (by decide)) (by decide)) (fun j => cb_up h4 (by omega) j) (by have : Int32.toInt 0 = 0 := rfl; omega) hH hS (lv_sub hl [0, 1, 2, 3] rfl)
            · have : Int32.toInt 9 = 9 := rfl
              have c206 := congrArg Int32.toInt c206
              refine lv_aload_n (pc := 74) C0.1 C0.2.1 dX10_measure_74 rfl (lv_at hl 3 rfl) ?_
              refine xget (pc := 75) C0 hH 78 10 clX10 ⟨Nat.le_of_ble_eq_true rfl, Nat.le_of_ble_eq_true rfl⟩ ⟨rfl, rfl⟩ (Nat.le_of_ble_eq_true rfl) fl_X10_216 (v := .int (iv 78 10)) rfl dX10_measure_75 ?_
              refine lv_if_le (pc := 78) (tgt := 97) C0.1 C0.2.1 dX10_measure_78 (by decide) (fun c209 => ?_) (fun c209 => ?_)
              · have : Int32.toInt 0 = 0 := rfl
                have c209 := Int32.le_iff_toInt_le.mp c209
                refine lv_iload_n (pc := 97) C0.1 C0.2.1 dX10_measure_97 rfl (lv_at hl 1 rfl) ?_
                refine lv_iconst (pc := 98) (v := 1) C0.1 C0.2.1 dX10_measure_98 (by decide) ?_
                have : Int32.toInt 1 = 1 := rfl
                refine lv_iadd (pc := 99) C0.1 C0.2.1 dX10_measure_99 ?_
                refine lv_topi (fun x210 ex210 => ?_)
                have hx210 : Int32.toInt x210 = Int32.toInt cc + Int32.toInt 1 := by rw [ex210]; exact fb_addI (by omega) (by omega)
                refine lv_istore_n (pc := 100) (lv' := [(2, .int x210), (3, .int k), (1, .int ll), (0, .ref (b + 78))]) C0.1 C0.2.1 dX10_measure_100 rfl hl (by decide) rfl (fun ls hl => ?_)
                obtain ⟨x211, ex211⟩ : ∃ y_ : Int32, y_ = k + 1 := ⟨_, rfl⟩
                have : Int32.toInt 1 = 1 := rfl
                have hx211 : Int32.toInt x211 = Int32.toInt k + Int32.toInt 1 := by rw [ex211]; exact fb_addI (by omega) (by omega)
                refine lv_iinc (pc := 101) (v := x211) (lv' := [(3, .int x211), (2, .int x210), (1, .int ll), (0, .ref (b + 78))]) C0.1 C0.2.1 dX10_measure_101 hl (k := 1) rfl (by rw [ex211]; rfl) (by decide) rfl (fun ls hl => ?_)
                refine lv_goto (pc := 104) (tgt := 6) C0.1 C0.2.1 dX10_measure_104 (by decide) ?_
                exact ih6 x211 ll x210 iv (va_up (va_up Fv 96 (upd (Fv 96) (Int32.toNatClampNeg k) ll)) 97 (upd (Fv 97) (Int32.toNatClampNeg k) cc)) Gv _ _ _ (by omega) (by omega) (RO.f (RO.f h3 (by decide)) (by decide)) (fun j => cb_up h4 (by omega) j) (by have : Int32.toInt 0 = 0 := rfl; omega) hH hS (lv_sub hl [0, 1, 2, 3] rfl)
              · have : Int32.toInt 0 = 0 := rfl
                have c209 : ¬ _ := fun q => c209 (Int32.le_iff_toInt_le.mpr q)
                refine lv_iload_n (pc := 81) C0.1 C0.2.1 dX10_measure_81 rfl (lv_at hl 1 rfl) ?_
                refine lv_aload_n (pc := 82) C0.1 C0.2.1 dX10_measure_82 rfl (lv_at hl 3 rfl) ?_
                refine xget (pc := 83) C0 hH 78 10 clX10 ⟨Nat.le_of_ble_eq_true rfl, Nat.le_of_ble_eq_true rfl⟩ ⟨rfl, rfl⟩ (Nat.le_of_ble_eq_true rfl) fl_X10_216 (v := .int (iv 78 10)) rfl dX10_measure_83 ?_
                refine lv_idiv (pc := 86) C0.1 C0.2.1 dX10_measure_86 (fun q => by have := congrArg Int32.toInt q; have : Int32.toInt 0 = 0 := rfl; omega) ?_
                refine lv_iconst (pc := 87) (v := 1) C0.1 C0.2.1 dX10_measure_87 (by decide) ?_
                refine lv_iadd (pc := 88) C0.1 C0.2.1 dX10_measure_88 ?_
                refine lv_aload_n (pc := 89) C0.1 C0.2.1 dX10_measure_89 rfl (lv_at hl 3 rfl) ?_
                refine xget (pc := 90) C0 hH 78 10 clX10 ⟨Nat.le_of_ble_eq_true rfl, Nat.le_of_ble_eq_true rfl⟩ ⟨rfl, rfl⟩ (Nat.le_of_ble_eq_true rfl) fl_X10_216 (v := .int (iv 78 10)) rfl dX10_measure_90 ?_
                refine lv_imul (pc := 93) C0.1 C0.2.1 dX10_measure_93 ?_
                refine lv_goto (pc := 94) (tgt := 100) C0.1 C0.2.1 dX10_measure_94 (by decide) ?_
                refine lv_topi (fun x212 ex212 => ?_)
                refine lv_istore_n (pc := 100) (lv' := [(2, .int x212), (3, .int k), (1, .int ll), (0, .ref (b + 78))]) C0.1 C0.2.1 dX10_measure_100 rfl hl (by decide) rfl (fun ls hl => ?_)
                have hdv := dv_col (c := cc) (t := iv 78 10) (by omega) (by omega) (by omega)
                rw [← ex212] at hdv
                obtain ⟨x213, ex213⟩ : ∃ y_ : Int32, y_ = k + 1 := ⟨_, rfl⟩
                have : Int32.toInt 1 = 1 := rfl
                have hx213 : Int32.toInt x213 = Int32.toInt k + Int32.toInt 1 := by rw [ex213]; exact fb_addI (by omega) (by omega)
                refine lv_iinc (pc := 101) (v := x213) (lv' := [(3, .int x213), (2, .int x212), (1, .int ll), (0, .ref (b + 78))]) C0.1 C0.2.1 dX10_measure_101 hl (k := 1) rfl (by rw [ex213]; rfl) (by decide) rfl (fun ls hl => ?_)
                refine lv_goto (pc := 104) (tgt := 6) C0.1 C0.2.1 dX10_measure_104 (by decide) ?_
                exact ih6 x213 ll x212 iv (va_up (va_up Fv 96 (upd (Fv 96) (Int32.toNatClampNeg k) ll)) 97 (upd (Fv 97) (Int32.toNatClampNeg k) cc)) Gv _ _ _ (by omega) (by omega) (RO.f (RO.f h3 (by decide)) (by decide)) (fun j => cb_up h4 (by omega) j) (by have : Int32.toInt 0 = 0 := rfl; omega) hH hS (lv_sub hl [0, 1, 2, 3] rfl)
        · have c202 : ¬ _ := fun q => c202 (Int32.le_iff_toInt_le.mpr q)
          refine lv_aload_n (pc := 36) C0.1 C0.2.1 dX10_measure_36 rfl (lv_at hl 3 rfl) ?_
          refine xget (pc := 37) C0 hH 78 17 clX10 ⟨Nat.le_of_ble_eq_true rfl, Nat.le_of_ble_eq_true rfl⟩ ⟨rfl, rfl⟩ (Nat.le_of_ble_eq_true rfl) fl_X10_39 (v := .ref (b + 85)) (by show Value.ref (b + (iv 78 17).toNatClampNeg) = _; rw [hi_78_17]; rfl) dX10_measure_37 ?_
          refine lv_iload_n (pc := 40) C0.1 C0.2.1 dX10_measure_40 rfl (lv_at hl 0 rfl) ?_
          refine xbald (pc := 41) (N := 600) C0 hH 85 ⟨Nat.le_of_ble_eq_true rfl, Nat.le_of_ble_eq_true rfl⟩ ⟨rfl, rfl⟩ (vI (by omega) (by omega)) dX10_measure_41 ?_
          refine lv_bipush (pc := 42) (v := 10) C0.1 C0.2.1 dX10_measure_42 (by decide) ?_
          refine lv_icmp_ne (pc := 44) (tgt := 55) C0.1 C0.2.1 dX10_measure_44 (by decide) (fun c214 => ?_) (fun c214 => ?_)
          · have : Int32.toInt 10 = 10 := rfl
            have c214 : ¬ _ := fun q => c214 (Int32.toInt_inj.mp q)
            refine lv_iload_n (pc := 55) C0.1 C0.2.1 dX10_measure_55 rfl (lv_at hl 0 rfl) ?_
            refine lv_aload_n (pc := 56) C0.1 C0.2.1 dX10_measure_56 rfl (lv_at hl 3 rfl) ?_
            refine xget (pc := 57) C0 hH 78 18 clX10 ⟨Nat.le_of_ble_eq_true rfl, Nat.le_of_ble_eq_true rfl⟩ ⟨rfl, rfl⟩ (Nat.le_of_ble_eq_true rfl) fl_X10_251 (v := .int (iv 78 18)) rfl dX10_measure_57 ?_
            refine lv_icmp_ge (pc := 60) (tgt := 97) C0.1 C0.2.1 dX10_measure_60 (by decide) (fun c215 => ?_) (fun c215 => ?_)
            · have c215 := Int32.le_iff_toInt_le.mp c215
              refine lv_iload_n (pc := 97) C0.1 C0.2.1 dX10_measure_97 rfl (lv_at hl 1 rfl) ?_
              refine lv_iconst (pc := 98) (v := 1) C0.1 C0.2.1 dX10_measure_98 (by decide) ?_
              have : Int32.toInt 1 = 1 := rfl
              refine lv_iadd (pc := 99) C0.1 C0.2.1 dX10_measure_99 ?_
              refine lv_topi (fun x216 ex216 => ?_)
              have hx216 : Int32.toInt x216 = Int32.toInt cc + Int32.toInt 1 := by rw [ex216]; exact fb_addI (by omega) (by omega)
              refine lv_istore_n (pc := 100) (lv' := [(2, .int x216), (3, .int k), (1, .int ll), (0, .ref (b + 78))]) C0.1 C0.2.1 dX10_measure_100 rfl hl (by decide) rfl (fun ls hl => ?_)
              obtain ⟨x217, ex217⟩ : ∃ y_ : Int32, y_ = k + 1 := ⟨_, rfl⟩
              have : Int32.toInt 1 = 1 := rfl
              have hx217 : Int32.toInt x217 = Int32.toInt k + Int32.toInt 1 := by rw [ex217]; exact fb_addI (by omega) (by omega)
              refine lv_iinc (pc := 101) (v := x217) (lv' := [(3, .int x217), (2, .int x216), (1, .int ll), (0, .ref (b + 78))]) C0.1 C0.2.1 dX10_measure_101 hl (k := 1) rfl (by rw [ex217]; rfl) (by decide) rfl (fun ls hl => ?_)
              refine lv_goto (pc := 104) (tgt := 6) C0.1 C0.2.1 dX10_measure_104 (by decide) ?_
              exact ih6 x217 ll x216 iv (va_up (va_up Fv 96 (upd (Fv 96) (Int32.toNatClampNeg k) ll)) 97 (upd (Fv 97) (Int32.toNatClampNeg k) cc)) Gv _ _ _ (by omega) (by omega) (RO.f (RO.f h3 (by decide)) (by decide)) (fun j => cb_up h4 (by omega) j) (by have : Int32.toInt 0 = 0 := rfl; omega) hH hS (lv_sub hl [0, 1, 2, 3] rfl)
            · have c215 : ¬ _ := fun q => c215 (Int32.le_iff_toInt_le.mpr q)
              refine lv_aload_n (pc := 63) C0.1 C0.2.1 dX10_measure_63 rfl (lv_at hl 3 rfl) ?_
              refine xget (pc := 64) C0 hH 78 17 clX10 ⟨Nat.le_of_ble_eq_true rfl, Nat.le_of_ble_eq_true rfl⟩ ⟨rfl, rfl⟩ (Nat.le_of_ble_eq_true rfl) fl_X10_39 (v := .ref (b + 85)) (by show Value.ref (b + (iv 78 17).toNatClampNeg) = _; rw [hi_78_17]; rfl) dX10_measure_64 ?_
              refine lv_iload_n (pc := 67) C0.1 C0.2.1 dX10_measure_67 rfl (lv_at hl 0 rfl) ?_
              refine xbald (pc := 68) (N := 600) C0 hH 85 ⟨Nat.le_of_ble_eq_true rfl, Nat.le_of_ble_eq_true rfl⟩ ⟨rfl, rfl⟩ (vI (by omega) (by omega)) dX10_measure_68 ?_
              refine lv_bipush (pc := 69) (v := 9) C0.1 C0.2.1 dX10_measure_69 (by decide) ?_
              refine lv_icmp_ne (pc := 71) (tgt := 97) C0.1 C0.2.1 dX10_measure_71 (by decide) (fun c218 => ?_) (fun c218 => ?_)
              · have : Int32.toInt 9 = 9 := rfl
                have c218 : ¬ _ := fun q => c218 (Int32.toInt_inj.mp q)
                refine lv_iload_n (pc := 97) C0.1 C0.2.1 dX10_measure_97 rfl (lv_at hl 1 rfl) ?_
                refine lv_iconst (pc := 98) (v := 1) C0.1 C0.2.1 dX10_measure_98 (by decide) ?_
                have : Int32.toInt 1 = 1 := rfl
                refine lv_iadd (pc := 99) C0.1 C0.2.1 dX10_measure_99 ?_
                refine lv_topi (fun x219 ex219 => ?_)
                have hx219 : Int32.toInt x219 = Int32.toInt cc + Int32.toInt 1 := by rw [ex219]; exact fb_addI (by omega) (by omega)
                refine lv_istore_n (pc := 100) (lv' := [(2, .int x219), (3, .int k), (1, .int ll), (0, .ref (b + 78))]) C0.1 C0.2.1 dX10_measure_100 rfl hl (by decide) rfl (fun ls hl => ?_)
                obtain ⟨x220, ex220⟩ : ∃ y_ : Int32, y_ = k + 1 := ⟨_, rfl⟩
                have : Int32.toInt 1 = 1 := rfl
                have hx220 : Int32.toInt x220 = Int32.toInt k + Int32.toInt 1 := by rw [ex220]; exact fb_addI (by omega) (by omega)
                refine lv_iinc (pc := 101) (v := x220) (lv' := [(3, .int x220), (2, .int x219), (1, .int ll), (0, .ref (b + 78))]) C0.1 C0.2.1 dX10_measure_101 hl (k := 1) rfl (by rw [ex220]; rfl) (by decide) rfl (fun ls hl => ?_)
                refine lv_goto (pc := 104) (tgt := 6) C0.1 C0.2.1 dX10_measure_104 (by decide) ?_
                exact ih6 x220 ll x219 iv (va_up (va_up Fv 96 (upd (Fv 96) (Int32.toNatClampNeg k) ll)) 97 (upd (Fv 97) (Int32.toNatClampNeg k) cc)) Gv _ _ _ (by omega) (by omega) (RO.f (RO.f h3 (by decide)) (by decide)) (fun j => cb_up h4 (by omega) j) (by have : Int32.toInt 0 = 0 := rfl; omega) hH hS (lv_sub hl [0, 1, 2, 3] rfl)
              · have : Int32.toInt 9 = 9 := rfl
                have c218 := congrArg Int32.toInt c218
                refine lv_aload_n (pc := 74) C0.1 C0.2.1 dX10_measure_74 rfl (lv_at hl 3 rfl) ?_
                refine xget (pc := 75) C0 hH 78 10 clX10 ⟨Nat.le_of_ble_eq_true rfl, Nat.le_of_ble_eq_true rfl⟩ ⟨rfl, rfl⟩ (Nat.le_of_ble_eq_true rfl) fl_X10_216 (v := .int (iv 78 10)) rfl dX10_measure_75 ?_
                refine lv_if_le (pc := 78) (tgt := 97) C0.1 C0.2.1 dX10_measure_78 (by decide) (fun c221 => ?_) (fun c221 => ?_)
                · have : Int32.toInt 0 = 0 := rfl
                  have c221 := Int32.le_iff_toInt_le.mp c221
                  refine lv_iload_n (pc := 97) C0.1 C0.2.1 dX10_measure_97 rfl (lv_at hl 1 rfl) ?_
                  refine lv_iconst (pc := 98) (v := 1) C0.1 C0.2.1 dX10_measure_98 (by decide) ?_
                  have : Int32.toInt 1 = 1 := rfl
                  refine lv_iadd (pc := 99) C0.1 C0.2.1 dX10_measure_99 ?_
                  refine lv_topi (fun x222 ex222 => ?_)
                  have hx222 : Int32.toInt x222 = Int32.toInt cc + Int32.toInt 1 := by rw [ex222]; exact fb_addI (by omega) (by omega)
                  refine lv_istore_n (pc := 100) (lv' := [(2, .int x222), (3, .int k), (1, .int ll), (0, .ref (b + 78))]) C0.1 C0.2.1 dX10_measure_100 rfl hl (by decide) rfl (fun ls hl => ?_)
                  obtain ⟨x223, ex223⟩ : ∃ y_ : Int32, y_ = k + 1 := ⟨_, rfl⟩
                  have : Int32.toInt 1 = 1 := rfl
                  have hx223 : Int32.toInt x223 = Int32.toInt k + Int32.toInt 1 := by rw [ex223]; exact fb_addI (by omega) (by omega)
                  refine lv_iinc (pc := 101) (v := x223) (lv' := [(3, .int x223), (2, .int x222), (1, .int ll), (0, .ref (b + 78))]) C0.1 C0.2.1 dX10_measure_101 hl (k := 1) rfl (by rw [ex223]; rfl) (by decide) rfl (fun ls hl => ?_)
                  refine lv_goto (pc := 104) (tgt := 6) C0.1 C0.2.1 dX10_measure_104 (by decide) ?_
                  exact ih6 x223 ll x222 iv (va_up (va_up Fv 96 (upd (Fv 96) (Int32.toNatClampNeg k) ll)) 97 (upd (Fv 97) (Int32.toNatClampNeg k) cc)) Gv _ _ _ (by omega) (by omega) (RO.f (RO.f h3 (by decide)) (by decide)) (fun j => cb_up h4 (by omega) j) (by have : Int32.toInt 0 = 0 := rfl; omega) hH hS (lv_sub hl [0, 1, 2, 3] rfl)
                · have : Int32.toInt 0 = 0 := rfl
                  have c221 : ¬ _ := fun q => c221 (Int32.le_iff_toInt_le.mpr q)
                  refine lv_iload_n (pc := 81) C0.1 C0.2.1 dX10_measure_81 rfl (lv_at hl 1 rfl) ?_
                  refine lv_aload_n (pc := 82) C0.1 C0.2.1 dX10_measure_82 rfl (lv_at hl 3 rfl) ?_
                  refine xget (pc := 83) C0 hH 78 10 clX10 ⟨Nat.le_of_ble_eq_true rfl, Nat.le_of_ble_eq_true rfl⟩ ⟨rfl, rfl⟩ (Nat.le_of_ble_eq_true rfl) fl_X10_216 (v := .int (iv 78 10)) rfl dX10_measure_83 ?_
                  refine lv_idiv (pc := 86) C0.1 C0.2.1 dX10_measure_86 (fun q => by have := congrArg Int32.toInt q; have : Int32.toInt 0 = 0 := rfl; omega) ?_
                  refine lv_iconst (pc := 87) (v := 1) C0.1 C0.2.1 dX10_measure_87 (by decide) ?_
                  refine lv_iadd (pc := 88) C0.1 C0.2.1 dX10_measure_88 ?_
                  refine lv_aload_n (pc := 89) C0.1 C0.2.1 dX10_measure_89 rfl (lv_at hl 3 rfl) ?_
                  refine xget (pc := 90) C0 hH 78 10 clX10 ⟨Nat.le_of_ble_eq_true rfl, Nat.le_of_ble_eq_true rfl⟩ ⟨rfl, rfl⟩ (Nat.le_of_ble_eq_true rfl) fl_X10_216 (v := .int (iv 78 10)) rfl dX10_measure_90 ?_
                  refine lv_imul (pc := 93) C0.1 C0.2.1 dX10_measure_93 ?_
                  refine lv_goto (pc := 94) (tgt := 100) C0.1 C0.2.1 dX10_measure_94 (by decide) ?_
                  refine lv_topi (fun x224 ex224 => ?_)
                  refine lv_istore_n (pc := 100) (lv' := [(2, .int x224), (3, .int k), (1, .int ll), (0, .ref (b + 78))]) C0.1 C0.2.1 dX10_measure_100 rfl hl (by decide) rfl (fun ls hl => ?_)
                  have hdv := dv_col (c := cc) (t := iv 78 10) (by omega) (by omega) (by omega)
                  rw [← ex224] at hdv
                  obtain ⟨x225, ex225⟩ : ∃ y_ : Int32, y_ = k + 1 := ⟨_, rfl⟩
                  have : Int32.toInt 1 = 1 := rfl
                  have hx225 : Int32.toInt x225 = Int32.toInt k + Int32.toInt 1 := by rw [ex225]; exact fb_addI (by omega) (by omega)
                  refine lv_iinc (pc := 101) (v := x225) (lv' := [(3, .int x225), (2, .int x224), (1, .int ll), (0, .ref (b + 78))]) C0.1 C0.2.1 dX10_measure_101 hl (k := 1) rfl (by rw [ex225]; rfl) (by decide) rfl (fun ls hl => ?_)
                  refine lv_goto (pc := 104) (tgt := 6) C0.1 C0.2.1 dX10_measure_104 (by decide) ?_
                  exact ih6 x225 ll x224 iv (va_up (va_up Fv 96 (upd (Fv 96) (Int32.toNatClampNeg k) ll)) 97 (upd (Fv 97) (Int32.toNatClampNeg k) cc)) Gv _ _ _ (by omega) (by omega) (RO.f (RO.f h3 (by decide)) (by decide)) (fun j => cb_up h4 (by omega) j) (by have : Int32.toInt 0 = 0 := rfl; omega) hH hS (lv_sub hl [0, 1, 2, 3] rfl)
          · have : Int32.toInt 10 = 10 := rfl
            have c214 := congrArg Int32.toInt c214
            obtain ⟨x226, ex226⟩ : ∃ y_ : Int32, y_ = ll + 1 := ⟨_, rfl⟩
            refine lv_iinc (pc := 47) (v := x226) (lv' := [(1, .int x226), (3, .int k), (2, .int cc), (0, .ref (b + 78))]) C0.1 C0.2.1 dX10_measure_47 hl (k := 2) rfl (by rw [ex226]; rfl) (by decide) rfl (fun ls hl => ?_)
            refine lv_iconst (pc := 50) (v := 0) C0.1 C0.2.1 dX10_measure_50 (by decide) ?_
            refine lv_istore_n (pc := 51) (lv' := [(2, .int 0), (1, .int x226), (3, .int k), (0, .ref (b + 78))]) C0.1 C0.2.1 dX10_measure_51 rfl hl (by decide) rfl (fun ls hl => ?_)
            refine lv_goto (pc := 52) (tgt := 101) C0.1 C0.2.1 dX10_measure_52 (by decide) ?_
            obtain ⟨x227, ex227⟩ : ∃ y_ : Int32, y_ = k + 1 := ⟨_, rfl⟩
            have : Int32.toInt 1 = 1 := rfl
            have hx227 : Int32.toInt x227 = Int32.toInt k + Int32.toInt 1 := by rw [ex227]; exact fb_addI (by omega) (by omega)
            refine lv_iinc (pc := 101) (v := x227) (lv' := [(3, .int x227), (2, .int 0), (1, .int x226), (0, .ref (b + 78))]) C0.1 C0.2.1 dX10_measure_101 hl (k := 2) rfl (by rw [ex227]; rfl) (by decide) rfl (fun ls hl => ?_)
            refine lv_goto (pc := 104) (tgt := 6) C0.1 C0.2.1 dX10_measure_104 (by decide) ?_
            exact ih6 x227 x226 0 iv (va_up (va_up Fv 96 (upd (Fv 96) (Int32.toNatClampNeg k) ll)) 97 (upd (Fv 97) (Int32.toNatClampNeg k) cc)) Gv _ _ _ (by omega) (by omega) (RO.f (RO.f h3 (by decide)) (by decide)) (fun j => cb_up h4 (by omega) j) (by have : Int32.toInt 0 = 0 := rfl; omega) hH hS (lv_sub hl [0, 1, 2, 3] rfl)
  refine lv_iconst (pc := 0) (v := 0) C0.1 C0.2.1 dX10_measure_0 (by decide) ?_
  refine lv_istore_n (pc := 1) (lv' := [(1, .int 0), (0, .ref (b + 78))]) C0.1 C0.2.1 dX10_measure_1 rfl hl (by decide) rfl (fun ls hl => ?_)
  refine lv_iconst (pc := 2) (v := 0) C0.1 C0.2.1 dX10_measure_2 (by decide) ?_
  refine lv_istore_n (pc := 3) (lv' := [(2, .int 0), (1, .int 0), (0, .ref (b + 78))]) C0.1 C0.2.1 dX10_measure_3 rfl hl (by decide) rfl (fun ls hl => ?_)
  refine lv_iconst (pc := 4) (v := 0) C0.1 C0.2.1 dX10_measure_4 (by decide) ?_
  refine lv_istore_n (pc := 5) (lv' := [(3, .int 0), (2, .int 0), (1, .int 0), (0, .ref (b + 78))]) C0.1 C0.2.1 dX10_measure_5 rfl hl (by decide) rfl (fun ls hl => ?_)
  exact L6 601 0 0 0 i F G _ _ _ (by decide) (by decide) RO.rf hcb (by decide) hH hS (lv_sub hl [0, 1, 2, 3] rfl)
set_option maxHeartbeats 4000000 in
set_option maxRecDepth 100000 in
theorem m_tabsFit_85 (l : Launch) (D : va_G) (tA : Nat → ClassId) (b : Nat) (i F : Nat → Nat → Int32) (G : Nat → Nat → Int64) (x y : Int32) (hi_78_17 : i 78 17 = nI 85) (hxy : 0 ≤ x.toInt ∧ y.toInt ≤ 600) : xMI l yX10_tabsFit cX10_tabsFit 4 (some .boolean) 1 22 D tA b 78 52 i F G [.ref (b + 78), .int x, .int y] (fun r u => RO [30, 31] [] i F G u ∧ (r = 0 ∨ r = 1) ∧ (r = 0 → (0 ≤ (u.1 78 31).toInt ∧ (u.1 78 31).toInt ≤ 600)) ∧ (PLI i → PLI u.1)) := by
  refine xstart RX10 rfl (by decide) (Nat.le_of_ble_eq_true rfl) ?_
  intro p e s m below meth c ls C0 hr hH hS hl
  have hl : lv_has ls 4 [(0, .ref (b + 78)), (1, .int x), (2, .int y)] := hl
  have rg_x := fb_rng x
  have rg_y := fb_rng y
  have L2 : ∀ (d : Nat) (k : Int32) (H : Heap) (locs : List Loc) (ls : Array Slot), (x.toInt ≤ k.toInt) → (y.toInt - k.toInt ≤ d) → Hd D tA b 78 52 zz i F G H → va_S (xA b 78 52) s.heap H locs → lv_has ls 4 [(3, .int k), (0, .ref (b + 78)), (1, .int x), (2, .int y)] → W p l e (xR 1 22) s m ([.ref (b + 78), .int x, .int y] : List Value).toArray below meth c H locs 0 0 (MQ below (va_Qi (fun r u => RO [30, 31] [] i F G u ∧ (r = 0 ∨ r = 1) ∧ (r = 0 → (0 ≤ (u.1 78 31).toInt ∧ (u.1 78 31).toInt ≤ 600)) ∧ (PLI i → PLI u.1)) (xB D tA b 78 52 zz) (xA b 78 52)) ([.ref (b + 78), .int x, .int y] : List Value).toArray s 0 0 (xA b 78 52)) (F0 m 2 ls []) := by
    intro d
    induction d with
    | zero =>
      intro k H locs ls h1 h2 hH hS hl
      have rg_k := fb_rng k
      refine lv_iload_n (pc := 2) C0.1 C0.2.1 dX10_tabsFit_2 rfl (lv_at hl 0 rfl) ?_
      refine lv_iload_n (pc := 3) C0.1 C0.2.1 dX10_tabsFit_3 rfl (lv_at hl 3 rfl) ?_
      refine lv_icmp_ge (pc := 4) (tgt := 38) C0.1 C0.2.1 dX10_tabsFit_4 (by decide) (fun _ => ?_) (fun c => absurd (Int32.le_iff_toInt_le.mpr (by omega)) c)
      refine lv_iconst (pc := 38) (v := 1) C0.1 C0.2.1 dX10_tabsFit_38 (by decide) ?_
      exact xzret (pc := 39) C0 hr hH hS dX10_tabsFit_39 (by decide) ⟨RO.rf, Or.inr rfl, fun q => absurd q (by decide), fun q => q⟩
    | succ d ih2 =>
      intro k H locs ls h1 h2 hH hS hl
      have rg_k := fb_rng k
      refine lv_iload_n (pc := 2) C0.1 C0.2.1 dX10_tabsFit_2 rfl (lv_at hl 0 rfl) ?_
      refine lv_iload_n (pc := 3) C0.1 C0.2.1 dX10_tabsFit_3 rfl (lv_at hl 3 rfl) ?_
      refine lv_icmp_ge (pc := 4) (tgt := 38) C0.1 C0.2.1 dX10_tabsFit_4 (by decide) (fun c201 => ?_) (fun c201 => ?_)
      · have c201 := Int32.le_iff_toInt_le.mp c201
        refine lv_iconst (pc := 38) (v := 1) C0.1 C0.2.1 dX10_tabsFit_38 (by decide) ?_
        exact xzret (pc := 39) C0 hr hH hS dX10_tabsFit_39 (by decide) ⟨RO.rf, Or.inr rfl, fun q => absurd q (by decide), fun q => q⟩
      · have c201 : ¬ _ := fun q => c201 (Int32.le_iff_toInt_le.mpr q)
        refine lv_aload_n (pc := 7) C0.1 C0.2.1 dX10_tabsFit_7 rfl (lv_at hl 1 rfl) ?_
        refine xget (pc := 8) C0 hH 78 10 clX10 ⟨Nat.le_of_ble_eq_true rfl, Nat.le_of_ble_eq_true rfl⟩ ⟨rfl, rfl⟩ (Nat.le_of_ble_eq_true rfl) fl_X10_216 (v := .int (i 78 10)) rfl dX10_tabsFit_8 ?_
        refine lv_if_ne (pc := 11) (tgt := 38) C0.1 C0.2.1 dX10_tabsFit_11 (by decide) (fun c202 => ?_) (fun c202 => ?_)
        · have : Int32.toInt 0 = 0 := rfl
          have c202 : ¬ _ := fun q => c202 (Int32.toInt_inj.mp q)
          refine lv_iconst (pc := 38) (v := 1) C0.1 C0.2.1 dX10_tabsFit_38 (by decide) ?_
          exact xzret (pc := 39) C0 hr hH hS dX10_tabsFit_39 (by decide) ⟨RO.rf, Or.inr rfl, fun q => absurd q (by decide), fun q => q⟩
        · have : Int32.toInt 0 = 0 := rfl
          have c202 := congrArg Int32.toInt c202
          refine lv_aload_n (pc := 14) C0.1 C0.2.1 dX10_tabsFit_14 rfl (lv_at hl 1 rfl) ?_
          refine xget (pc := 15) C0 hH 78 17 clX10 ⟨Nat.le_of_ble_eq_true rfl, Nat.le_of_ble_eq_true rfl⟩ ⟨rfl, rfl⟩ (Nat.le_of_ble_eq_true rfl) fl_X10_39 (v := .ref (b + 85)) (by show Value.ref (b + (i 78 17).toNatClampNeg) = _; rw [hi_78_17]; rfl) dX10_tabsFit_15 ?_
          refine lv_iload_n (pc := 18) C0.1 C0.2.1 dX10_tabsFit_18 rfl (lv_at hl 0 rfl) ?_
          refine xbald (pc := 19) (N := 600) C0 hH 85 ⟨Nat.le_of_ble_eq_true rfl, Nat.le_of_ble_eq_true rfl⟩ ⟨rfl, rfl⟩ (vI (by omega) (by omega)) dX10_tabsFit_19 ?_
          refine lv_bipush (pc := 20) (v := 9) C0.1 C0.2.1 dX10_tabsFit_20 (by decide) ?_
          refine lv_icmp_ne (pc := 22) (tgt := 32) C0.1 C0.2.1 dX10_tabsFit_22 (by decide) (fun c203 => ?_) (fun c203 => ?_)
          · have : Int32.toInt 9 = 9 := rfl
            have c203 : ¬ _ := fun q => c203 (Int32.toInt_inj.mp q)
            obtain ⟨x204, ex204⟩ : ∃ y_ : Int32, y_ = k + 1 := ⟨_, rfl⟩
            have : Int32.toInt 1 = 1 := rfl
            have hx204 : Int32.toInt x204 = Int32.toInt k + Int32.toInt 1 := by rw [ex204]; exact fb_addI (by omega) (by omega)
            refine lv_iinc (pc := 32) (v := x204) (lv' := [(3, .int x204), (0, .ref (b + 78)), (1, .int x), (2, .int y)]) C0.1 C0.2.1 dX10_tabsFit_32 hl (k := 0) rfl (by rw [ex204]; rfl) (by decide) rfl (fun ls hl => ?_)
            refine lv_goto (pc := 35) (tgt := 2) C0.1 C0.2.1 dX10_tabsFit_35 (by decide) ?_
            exact ih2 x204 _ _ _ (by omega) (by omega) hH hS (lv_sub hl [0, 1, 2, 3] rfl)
          · have : Int32.toInt 9 = 9 := rfl
            have c203 := congrArg Int32.toInt c203
            refine lv_aload_n (pc := 25) C0.1 C0.2.1 dX10_tabsFit_25 rfl (lv_at hl 1 rfl) ?_
            refine lv_iconst (pc := 26) (v := 2) C0.1 C0.2.1 dX10_tabsFit_26 (by decide) ?_
            refine lv_iload_n (pc := 27) C0.1 C0.2.1 dX10_tabsFit_27 rfl (lv_at hl 0 rfl) ?_
            refine xcVI (pc := 28) 78 [.int 2, .int k] (m_fail l D tA b i F G 2 k) C0 hH hS clX10 rfl ⟨⟨Nat.le_of_ble_eq_true rfl, Nat.le_of_ble_eq_true rfl⟩, rfl, rfl⟩ cw_X10_254 rfl ⟨Nat.le_of_ble_eq_true rfl, Nat.le_of_ble_eq_true rfl⟩ hl.1 rfl (Nat.le_of_ble_eq_true rfl) dX10_tabsFit_28 ⟨Nat.le_of_ble_eq_true rfl, Nat.le_of_ble_eq_true rfl⟩ (fun r205 ir205 Fr205 Gr205 _ locs hp hH hS => ?_)
            obtain ⟨hu, rfl⟩ := hp
            cases hu
            have hH : Hd D tA b 78 52 zz (up2 (up2 i 78 30 2) 78 31 k) F G _ := hH
            exact xzret (pc := 31) C0 hr hH hS dX10_tabsFit_31 (by decide) ⟨(RO.i (RO.i RO.rf (by decide)) (by decide)), Or.inl rfl, fun _ => (show 0 ≤ Int32.toInt k ∧ Int32.toInt k ≤ 600 from by omega), fun _ => Or.inr (show 0 ≤ Int32.toInt k ∧ Int32.toInt k ≤ 600 from by omega)⟩
  refine lv_iload_n (pc := 0) C0.1 C0.2.1 dX10_tabsFit_0 rfl (lv_at hl 1 rfl) ?_
  refine lv_istore_n (pc := 1) (lv' := [(3, .int x), (0, .ref (b + 78)), (1, .int x), (2, .int y)]) C0.1 C0.2.1 dX10_tabsFit_1 rfl hl (by decide) rfl (fun ls hl => ?_)
  exact L2 (y.toInt - x.toInt).toNat x _ _ _ (by omega) (by omega) hH hS (lv_sub hl [0, 1, 2, 3] rfl)
set_option maxHeartbeats 4000000 in
set_option maxRecDepth 100000 in
theorem m_next_85 (l : Launch) (D : va_G) (tA : Nat → ClassId) (b : Nat) (i F : Nat → Nat → Int32) (G : Nat → Nat → Int64) (x y : Int32) (hi_78_17 : i 78 17 = nI 85) (hlen : 0 ≤ (i 78 18).toInt ∧ (i 78 18).toInt ≤ 600) (hx : 0 ≤ x.toInt ∧ x.toInt ≤ (i 78 18).toInt) : xMI l yX10_next cX10_next 4 (some .int) 0 0 D tA b 78 52 i F G [.ref (b + 78), .int x, .int y] (fun r u => u = (i, F, G) ∧ (x.toInt ≤ r.toInt ∧ r.toInt ≤ (i 78 18).toInt) ∧ (x.toInt < (i 78 18).toInt → ¬ F 85 (Int32.toNatClampNeg x) = y → x.toInt + 1 ≤ r.toInt)) := by
  refine xstart RX10 rfl (by decide) (Nat.le_of_ble_eq_true rfl) ?_
  intro p e s m below meth c ls C0 hr hH hS hl
  have hl : lv_has ls 4 [(0, .ref (b + 78)), (1, .int x), (2, .int y)] := hl
  have rg_x := fb_rng x
  have rg_y := fb_rng y
  have L2 : ∀ (d : Nat) (k : Int32) (H : Heap) (locs : List Loc) (ls : Array Slot), (x.toInt ≤ k.toInt ∧ k.toInt ≤ (i 78 18).toInt) → ((i 78 18).toInt - k.toInt ≤ d) → Hd D tA b 78 52 zz i F G H → va_S (xA b 78 52) s.heap H locs → lv_has ls 4 [(3, .int k), (0, .ref (b + 78)), (1, .int x), (2, .int y)] → W p l e (xR 0 0) s m ([.ref (b + 78), .int x, .int y] : List Value).toArray below meth c H locs 0 0 (MQ below (va_Qi (fun r u => u = (i, F, G) ∧ (x.toInt ≤ r.toInt ∧ r.toInt ≤ (i 78 18).toInt) ∧ (x.toInt < (i 78 18).toInt → ¬ F 85 (Int32.toNatClampNeg x) = y → x.toInt + 1 ≤ r.toInt)) (xB D tA b 78 52 zz) (xA b 78 52)) ([.ref (b + 78), .int x, .int y] : List Value).toArray s 0 0 (xA b 78 52)) (F0 m 2 ls []) := by
    intro d
    induction d with
    | zero =>
      intro k H locs ls h1 h2 hH hS hl
      have rg_k := fb_rng k
      refine lv_iload_n (pc := 2) C0.1 C0.2.1 dX10_next_2 rfl (lv_at hl 0 rfl) ?_
      refine lv_aload_n (pc := 3) C0.1 C0.2.1 dX10_next_3 rfl (lv_at hl 1 rfl) ?_
      refine xget (pc := 4) C0 hH 78 18 clX10 ⟨Nat.le_of_ble_eq_true rfl, Nat.le_of_ble_eq_true rfl⟩ ⟨rfl, rfl⟩ (Nat.le_of_ble_eq_true rfl) fl_X10_251 (v := .int (i 78 18)) rfl dX10_next_4 ?_
      refine lv_icmp_ge (pc := 7) (tgt := 26) C0.1 C0.2.1 dX10_next_7 (by decide) (fun _ => ?_) (fun c => absurd (Int32.le_iff_toInt_le.mpr (by omega)) c)
      refine lv_iload_n (pc := 26) C0.1 C0.2.1 dX10_next_26 rfl (lv_at hl 0 rfl) ?_
      exact xiret (pc := 27) C0 hr hH hS dX10_next_27 ⟨rfl, h1, nx_fin h1.1 (by first | exact Or.inl (by omega) | exact Or.inr (by first | assumption | exact Int32.toInt_inj.mp (by assumption)))⟩
    | succ d ih2 =>
      intro k H locs ls h1 h2 hH hS hl
      have rg_k := fb_rng k
      refine lv_iload_n (pc := 2) C0.1 C0.2.1 dX10_next_2 rfl (lv_at hl 0 rfl) ?_
      refine lv_aload_n (pc := 3) C0.1 C0.2.1 dX10_next_3 rfl (lv_at hl 1 rfl) ?_
      refine xget (pc := 4) C0 hH 78 18 clX10 ⟨Nat.le_of_ble_eq_true rfl, Nat.le_of_ble_eq_true rfl⟩ ⟨rfl, rfl⟩ (Nat.le_of_ble_eq_true rfl) fl_X10_251 (v := .int (i 78 18)) rfl dX10_next_4 ?_
      refine lv_icmp_ge (pc := 7) (tgt := 26) C0.1 C0.2.1 dX10_next_7 (by decide) (fun c201 => ?_) (fun c201 => ?_)
      · have c201 := Int32.le_iff_toInt_le.mp c201
        refine lv_iload_n (pc := 26) C0.1 C0.2.1 dX10_next_26 rfl (lv_at hl 0 rfl) ?_
        exact xiret (pc := 27) C0 hr hH hS dX10_next_27 ⟨rfl, h1, nx_fin h1.1 (by first | exact Or.inl (by omega) | exact Or.inr (by first | assumption | exact Int32.toInt_inj.mp (by assumption)))⟩
      · have c201 : ¬ _ := fun q => c201 (Int32.le_iff_toInt_le.mpr q)
        refine lv_aload_n (pc := 10) C0.1 C0.2.1 dX10_next_10 rfl (lv_at hl 1 rfl) ?_
        refine xget (pc := 11) C0 hH 78 17 clX10 ⟨Nat.le_of_ble_eq_true rfl, Nat.le_of_ble_eq_true rfl⟩ ⟨rfl, rfl⟩ (Nat.le_of_ble_eq_true rfl) fl_X10_39 (v := .ref (b + 85)) (by show Value.ref (b + (i 78 17).toNatClampNeg) = _; rw [hi_78_17]; rfl) dX10_next_11 ?_
        refine lv_iload_n (pc := 14) C0.1 C0.2.1 dX10_next_14 rfl (lv_at hl 0 rfl) ?_
        refine xbald (pc := 15) (N := 600) C0 hH 85 ⟨Nat.le_of_ble_eq_true rfl, Nat.le_of_ble_eq_true rfl⟩ ⟨rfl, rfl⟩ (vI (by omega) (by omega)) dX10_next_15 ?_
        refine lv_iload_n (pc := 16) C0.1 C0.2.1 dX10_next_16 rfl (lv_at hl 3 rfl) ?_
        refine lv_icmp_eq (pc := 17) (tgt := 26) C0.1 C0.2.1 dX10_next_17 (by decide) (fun c202 => ?_) (fun c202 => ?_)
        · have c202 := congrArg Int32.toInt c202
          refine lv_iload_n (pc := 26) C0.1 C0.2.1 dX10_next_26 rfl (lv_at hl 0 rfl) ?_
          exact xiret (pc := 27) C0 hr hH hS dX10_next_27 ⟨rfl, h1, nx_fin h1.1 (by first | exact Or.inl (by omega) | exact Or.inr (by first | assumption | exact Int32.toInt_inj.mp (by assumption)))⟩
        · have c202 : ¬ _ := fun q => c202 (Int32.toInt_inj.mp q)
          obtain ⟨x203, ex203⟩ : ∃ y_ : Int32, y_ = k + 1 := ⟨_, rfl⟩
          have : Int32.toInt 1 = 1 := rfl
          have hx203 : Int32.toInt x203 = Int32.toInt k + Int32.toInt 1 := by rw [ex203]; exact fb_addI (by omega) (by omega)
          refine lv_iinc (pc := 20) (v := x203) (lv' := [(3, .int x203), (0, .ref (b + 78)), (1, .int x), (2, .int y)]) C0.1 C0.2.1 dX10_next_20 hl (k := 0) rfl (by rw [ex203]; rfl) (by decide) rfl (fun ls hl => ?_)
          refine lv_goto (pc := 23) (tgt := 2) C0.1 C0.2.1 dX10_next_23 (by decide) ?_
          exact ih2 x203 _ _ _ (by omega) (by omega) hH hS (lv_sub hl [0, 1, 2, 3] rfl)
  refine lv_iload_n (pc := 0) C0.1 C0.2.1 dX10_next_0 rfl (lv_at hl 1 rfl) ?_
  refine lv_istore_n (pc := 1) (lv' := [(3, .int x), (0, .ref (b + 78)), (1, .int x), (2, .int y)]) C0.1 C0.2.1 dX10_next_1 rfl hl (by decide) rfl (fun ls hl => ?_)
  exact L2 600 x _ _ _ (by omega) (by omega) hH hS (lv_sub hl [0, 1, 2, 3] rfl)
set_option maxHeartbeats 4000000 in
set_option maxRecDepth 100000 in
theorem m_behind_85 (l : Launch) (D : va_G) (tA : Nat → ClassId) (b : Nat) (i F : Nat → Nat → Int32) (G : Nat → Nat → Int64) (x y : Int32) (hi_78_17 : i 78 17 = nI 85) (hlen : 0 ≤ (i 78 18).toInt ∧ (i 78 18).toInt ≤ 600) (hx : 0 ≤ x.toInt ∧ x.toInt ≤ (i 78 18).toInt) (hbh : (¬ y = 0 → ¬ lt_ (F 85 (Int32.toNatClampNeg x)) = 0) ∧ (y = 0 → ¬ dg (F 85 (Int32.toNatClampNeg x)) = 0)) (hxl : x.toInt < (i 78 18).toInt) : xMI l yX10_behind cX10_behind 4 (some .int) 1 20 D tA b 78 52 i F G [.ref (b + 78), .int x, .int y] (fun r u => u = (i, F, G) ∧ (x.toInt + 1 ≤ r.toInt ∧ r.toInt ≤ (i 78 18).toInt)) := by
  refine xstart RX10 rfl (by decide) (Nat.le_of_ble_eq_true rfl) ?_
  intro p e s m below meth c ls C0 hr hH hS hl
  have hl : lv_has ls 4 [(0, .ref (b + 78)), (1, .int x), (2, .int y)] := hl
  have rg_x := fb_rng x
  have rg_y := fb_rng y
  have L2 : ∀ (d : Nat) (k : Int32) (H : Heap) (locs : List Loc) (ls : Array Slot), (x.toInt ≤ k.toInt ∧ k.toInt ≤ (i 78 18).toInt) → ((i 78 18).toInt - k.toInt ≤ d) → Hd D tA b 78 52 zz i F G H → va_S (xA b 78 52) s.heap H locs → lv_has ls 4 [(3, .int k), (0, .ref (b + 78)), (1, .int x), (2, .int y)] → W p l e (xR 1 20) s m ([.ref (b + 78), .int x, .int y] : List Value).toArray below meth c H locs 0 0 (MQ below (va_Qi (fun r u => u = (i, F, G) ∧ (x.toInt + 1 ≤ r.toInt ∧ r.toInt ≤ (i 78 18).toInt)) (xB D tA b 78 52 zz) (xA b 78 52)) ([.ref (b + 78), .int x, .int y] : List Value).toArray s 0 0 (xA b 78 52)) (F0 m 2 ls []) := by
    intro d
    induction d with
    | zero =>
      intro k H locs ls h1 h2 hH hS hl
      have rg_k := fb_rng k
      refine lv_iload_n (pc := 2) C0.1 C0.2.1 dX10_behind_2 rfl (lv_at hl 0 rfl) ?_
      refine lv_aload_n (pc := 3) C0.1 C0.2.1 dX10_behind_3 rfl (lv_at hl 1 rfl) ?_
      refine xget (pc := 4) C0 hH 78 18 clX10 ⟨Nat.le_of_ble_eq_true rfl, Nat.le_of_ble_eq_true rfl⟩ ⟨rfl, rfl⟩ (Nat.le_of_ble_eq_true rfl) fl_X10_251 (v := .int (i 78 18)) rfl dX10_behind_4 ?_
      refine lv_icmp_ge (pc := 7) (tgt := 47) C0.1 C0.2.1 dX10_behind_7 (by decide) (fun _ => ?_) (fun c => absurd (Int32.le_iff_toInt_le.mpr (by omega)) c)
      refine lv_iload_n (pc := 47) C0.1 C0.2.1 dX10_behind_47 rfl (lv_at hl 0 rfl) ?_
      exact xiret (pc := 48) C0 hr hH hS dX10_behind_48 ⟨rfl, bh_fin h1.1 hxl hbh (by first | exact Or.inl (by omega) | exact Or.inr (Or.inl ⟨by first | assumption | exact fun w => absurd (congrArg Int32.toInt w) (by assumption), by first | assumption | exact Int32.toInt_inj.mp (by assumption)⟩) | exact Or.inr (Or.inr ⟨by first | assumption | exact Int32.toInt_inj.mp (by assumption), by first | assumption | exact Int32.toInt_inj.mp (by assumption)⟩)), h1.2⟩
    | succ d ih2 =>
      intro k H locs ls h1 h2 hH hS hl
      have rg_k := fb_rng k
      refine lv_iload_n (pc := 2) C0.1 C0.2.1 dX10_behind_2 rfl (lv_at hl 0 rfl) ?_
      refine lv_aload_n (pc := 3) C0.1 C0.2.1 dX10_behind_3 rfl (lv_at hl 1 rfl) ?_
      refine xget (pc := 4) C0 hH 78 18 clX10 ⟨Nat.le_of_ble_eq_true rfl, Nat.le_of_ble_eq_true rfl⟩ ⟨rfl, rfl⟩ (Nat.le_of_ble_eq_true rfl) fl_X10_251 (v := .int (i 78 18)) rfl dX10_behind_4 ?_
      refine lv_icmp_ge (pc := 7) (tgt := 47) C0.1 C0.2.1 dX10_behind_7 (by decide) (fun c201 => ?_) (fun c201 => ?_)
      · have c201 := Int32.le_iff_toInt_le.mp c201
        refine lv_iload_n (pc := 47) C0.1 C0.2.1 dX10_behind_47 rfl (lv_at hl 0 rfl) ?_
        exact xiret (pc := 48) C0 hr hH hS dX10_behind_48 ⟨rfl, bh_fin h1.1 hxl hbh (by first | exact Or.inl (by omega) | exact Or.inr (Or.inl ⟨by first | assumption | exact fun w => absurd (congrArg Int32.toInt w) (by assumption), by first | assumption | exact Int32.toInt_inj.mp (by assumption)⟩) | exact Or.inr (Or.inr ⟨by first | assumption | exact Int32.toInt_inj.mp (by assumption), by first | assumption | exact Int32.toInt_inj.mp (by assumption)⟩)), h1.2⟩
      · have c201 : ¬ _ := fun q => c201 (Int32.le_iff_toInt_le.mpr q)
        refine lv_iload_n (pc := 10) C0.1 C0.2.1 dX10_behind_10 rfl (lv_at hl 3 rfl) ?_
        refine lv_if_eq (pc := 11) (tgt := 29) C0.1 C0.2.1 dX10_behind_11 (by decide) (fun c202 => ?_) (fun c202 => ?_)
        · have : Int32.toInt 0 = 0 := rfl
          have c202 := congrArg Int32.toInt c202
          refine lv_aload_n (pc := 29) C0.1 C0.2.1 dX10_behind_29 rfl (lv_at hl 1 rfl) ?_
          refine xget (pc := 30) C0 hH 78 17 clX10 ⟨Nat.le_of_ble_eq_true rfl, Nat.le_of_ble_eq_true rfl⟩ ⟨rfl, rfl⟩ (Nat.le_of_ble_eq_true rfl) fl_X10_39 (v := .ref (b + 85)) (by show Value.ref (b + (i 78 17).toNatClampNeg) = _; rw [hi_78_17]; rfl) dX10_behind_30 ?_
          refine lv_iload_n (pc := 33) C0.1 C0.2.1 dX10_behind_33 rfl (lv_at hl 0 rfl) ?_
          refine xbald (pc := 34) (N := 600) C0 hH 85 ⟨Nat.le_of_ble_eq_true rfl, Nat.le_of_ble_eq_true rfl⟩ ⟨rfl, rfl⟩ (vI (by omega) (by omega)) dX10_behind_34 ?_
          refine xcSI (pc := 35) [.int (F 85 (Int32.toNatClampNeg k))] (m_isDigit l D tA b i F G (F 85 (Int32.toNatClampNeg k))) C0 hH hS cw_X10_261 rfl ⟨Nat.le_of_ble_eq_true rfl, Nat.le_of_ble_eq_true rfl⟩ hl.1 rfl (Nat.le_of_ble_eq_true rfl) dX10_behind_35 ⟨Nat.le_of_ble_eq_true rfl, Nat.le_of_ble_eq_true rfl⟩ (fun r203 ir203 Fr203 Gr203 _ locs hp hH hS => ?_)
          obtain ⟨hu, rfl⟩ := hp
          cases hu
          refine lv_if_eq (pc := 38) (tgt := 47) C0.1 C0.2.1 dX10_behind_38 (by decide) (fun c204 => ?_) (fun c204 => ?_)
          · have : Int32.toInt 0 = 0 := rfl
            have c204 := congrArg Int32.toInt c204
            refine lv_iload_n (pc := 47) C0.1 C0.2.1 dX10_behind_47 rfl (lv_at hl 0 rfl) ?_
            exact xiret (pc := 48) C0 hr hH hS dX10_behind_48 ⟨rfl, bh_fin h1.1 hxl hbh (by first | exact Or.inl (by omega) | exact Or.inr (Or.inl ⟨by first | assumption | exact fun w => absurd (congrArg Int32.toInt w) (by assumption), by first | assumption | exact Int32.toInt_inj.mp (by assumption)⟩) | exact Or.inr (Or.inr ⟨by first | assumption | exact Int32.toInt_inj.mp (by assumption), by first | assumption | exact Int32.toInt_inj.mp (by assumption)⟩)), h1.2⟩
          · have : Int32.toInt 0 = 0 := rfl
            have c204 : ¬ _ := fun q => c204 (Int32.toInt_inj.mp q)
            obtain ⟨x205, ex205⟩ : ∃ y_ : Int32, y_ = k + 1 := ⟨_, rfl⟩
            have : Int32.toInt 1 = 1 := rfl
            have hx205 : Int32.toInt x205 = Int32.toInt k + Int32.toInt 1 := by rw [ex205]; exact fb_addI (by omega) (by omega)
            refine lv_iinc (pc := 41) (v := x205) (lv' := [(3, .int x205), (0, .ref (b + 78)), (1, .int x), (2, .int y)]) C0.1 C0.2.1 dX10_behind_41 hl (k := 0) rfl (by rw [ex205]; rfl) (by decide) rfl (fun ls hl => ?_)
            refine lv_goto (pc := 44) (tgt := 2) C0.1 C0.2.1 dX10_behind_44 (by decide) ?_
            exact ih2 x205 _ _ _ (by omega) (by omega) hH hS (lv_sub hl [0, 1, 2, 3] rfl)
        · have : Int32.toInt 0 = 0 := rfl
          have c202 : ¬ _ := fun q => c202 (Int32.toInt_inj.mp q)
          refine lv_aload_n (pc := 14) C0.1 C0.2.1 dX10_behind_14 rfl (lv_at hl 1 rfl) ?_
          refine xget (pc := 15) C0 hH 78 17 clX10 ⟨Nat.le_of_ble_eq_true rfl, Nat.le_of_ble_eq_true rfl⟩ ⟨rfl, rfl⟩ (Nat.le_of_ble_eq_true rfl) fl_X10_39 (v := .ref (b + 85)) (by show Value.ref (b + (i 78 17).toNatClampNeg) = _; rw [hi_78_17]; rfl) dX10_behind_15 ?_
          refine lv_iload_n (pc := 18) C0.1 C0.2.1 dX10_behind_18 rfl (lv_at hl 0 rfl) ?_
          refine xbald (pc := 19) (N := 600) C0 hH 85 ⟨Nat.le_of_ble_eq_true rfl, Nat.le_of_ble_eq_true rfl⟩ ⟨rfl, rfl⟩ (vI (by omega) (by omega)) dX10_behind_19 ?_
          refine xcSI (pc := 20) [.int (F 85 (Int32.toNatClampNeg k))] (c_X10_isLetter l D tA b 78 52 i F G (F 85 (Int32.toNatClampNeg k))) C0 hH hS cw_X10_171 rfl ⟨Nat.le_of_ble_eq_true rfl, Nat.le_of_ble_eq_true rfl⟩ hl.1 rfl (Nat.le_of_ble_eq_true rfl) dX10_behind_20 ⟨Nat.le_of_ble_eq_true rfl, Nat.le_of_ble_eq_true rfl⟩ (fun r206 ir206 Fr206 Gr206 _ locs hp hH hS => ?_)
          obtain ⟨hu, rfl⟩ := hp
          cases hu
          refine lv_if_eq (pc := 23) (tgt := 47) C0.1 C0.2.1 dX10_behind_23 (by decide) (fun c207 => ?_) (fun c207 => ?_)
          · have : Int32.toInt 0 = 0 := rfl
            have c207 := congrArg Int32.toInt c207
            refine lv_iload_n (pc := 47) C0.1 C0.2.1 dX10_behind_47 rfl (lv_at hl 0 rfl) ?_
            exact xiret (pc := 48) C0 hr hH hS dX10_behind_48 ⟨rfl, bh_fin h1.1 hxl hbh (by first | exact Or.inl (by omega) | exact Or.inr (Or.inl ⟨by first | assumption | exact fun w => absurd (congrArg Int32.toInt w) (by assumption), by first | assumption | exact Int32.toInt_inj.mp (by assumption)⟩) | exact Or.inr (Or.inr ⟨by first | assumption | exact Int32.toInt_inj.mp (by assumption), by first | assumption | exact Int32.toInt_inj.mp (by assumption)⟩)), h1.2⟩
          · have : Int32.toInt 0 = 0 := rfl
            have c207 : ¬ _ := fun q => c207 (Int32.toInt_inj.mp q)
            refine lv_goto (pc := 26) (tgt := 41) C0.1 C0.2.1 dX10_behind_26 (by decide) ?_
            obtain ⟨x208, ex208⟩ : ∃ y_ : Int32, y_ = k + 1 := ⟨_, rfl⟩
            have : Int32.toInt 1 = 1 := rfl
            have hx208 : Int32.toInt x208 = Int32.toInt k + Int32.toInt 1 := by rw [ex208]; exact fb_addI (by omega) (by omega)
            refine lv_iinc (pc := 41) (v := x208) (lv' := [(3, .int x208), (0, .ref (b + 78)), (1, .int x), (2, .int y)]) C0.1 C0.2.1 dX10_behind_41 hl (k := 0) rfl (by rw [ex208]; rfl) (by decide) rfl (fun ls hl => ?_)
            refine lv_goto (pc := 44) (tgt := 2) C0.1 C0.2.1 dX10_behind_44 (by decide) ?_
            exact ih2 x208 _ _ _ (by omega) (by omega) hH hS (lv_sub hl [0, 1, 2, 3] rfl)
  refine lv_iload_n (pc := 0) C0.1 C0.2.1 dX10_behind_0 rfl (lv_at hl 1 rfl) ?_
  refine lv_istore_n (pc := 1) (lv' := [(3, .int x), (0, .ref (b + 78)), (1, .int x), (2, .int y)]) C0.1 C0.2.1 dX10_behind_1 rfl hl (by decide) rfl (fun ls hl => ?_)
  exact L2 600 x _ _ _ (by omega) (by omega) hH hS (lv_sub hl [0, 1, 2, 3] rfl)
set_option maxHeartbeats 4000000 in
set_option maxRecDepth 100000 in
theorem m_measure_86 (l : Launch) (D : va_G) (tA : Nat → ClassId) (b : Nat) (i F : Nat → Nat → Int32) (G : Nat → Nat → Int64)  (hi_78_17 : i 78 17 = nI 86) (hlen : 0 ≤ (i 78 18).toInt ∧ (i 78 18).toInt ≤ 600) (htab : 0 ≤ (i 78 10).toInt ∧ (i 78 10).toInt ≤ 8) (hcb : CB F) : xMV l yX10_measure cX10_measure 4 none 0 0 D tA b 78 52 i F G [.ref (b + 78)] (fun u => RO [] [96, 97] i F G u ∧ CB u.2.1) := by
  refine xstart RX10 rfl (by decide) (Nat.le_of_ble_eq_true rfl) ?_
  intro p e s m below meth c ls C0 hr hH hS hl
  have hl : lv_has ls 4 [(0, .ref (b + 78))] := hl
  have L6 : ∀ (d : Nat) (k ll cc : Int32) (iv Fv : Nat → Nat → Int32) (Gv : Nat → Nat → Int64) (H : Heap) (locs : List Loc) (ls : Array Slot), (0 ≤ k.toInt ∧ k.toInt ≤ 601) → (601 - k.toInt ≤ d) → (RO [] [96, 97] i F G (iv, Fv, Gv)) → (CB Fv) → (0 ≤ cc.toInt ∧ cc.toInt ≤ 8 * k.toInt) → Hd D tA b 78 52 zz iv Fv Gv H → va_S (xA b 78 52) s.heap H locs → lv_has ls 4 [(3, .int k), (2, .int cc), (1, .int ll), (0, .ref (b + 78))] → W p l e (xR 0 0) s m ([.ref (b + 78)] : List Value).toArray below meth c H locs 0 0 (MQ below (va_Qv (fun u => RO [] [96, 97] i F G u ∧ CB u.2.1) (xB D tA b 78 52 zz) (xA b 78 52)) ([.ref (b + 78)] : List Value).toArray s 0 0 (xA b 78 52)) (F0 m 6 ls []) := by
    intro d
    induction d with
    | zero =>
      intro k ll cc iv Fv Gv H locs ls h1 h2 h3 h4 h5 hH hS hl
      have rg_k := fb_rng k
      have rg_ll := fb_rng ll
      have rg_cc := fb_rng cc
      have hi_78_17 : iv 78 17 = nI 86 := (h3.1 78 17 (Or.inr (by decide))).trans hi_78_17
      have ek18 : Int32.toInt (iv 78 18) = Int32.toInt (i 78 18) := congrArg Int32.toInt (h3.1 78 18 (Or.inr (by decide)))
      have ek10 : Int32.toInt (iv 78 10) = Int32.toInt (i 78 10) := congrArg Int32.toInt (h3.1 78 10 (Or.inr (by decide)))
      refine lv_iload_n (pc := 6) C0.1 C0.2.1 dX10_measure_6 rfl (lv_at hl 0 rfl) ?_
      refine lv_aload_n (pc := 7) C0.1 C0.2.1 dX10_measure_7 rfl (lv_at hl 3 rfl) ?_
      refine xget (pc := 8) C0 hH 78 18 clX10 ⟨Nat.le_of_ble_eq_true rfl, Nat.le_of_ble_eq_true rfl⟩ ⟨rfl, rfl⟩ (Nat.le_of_ble_eq_true rfl) fl_X10_251 (v := .int (iv 78 18)) rfl dX10_measure_8 ?_
      refine lv_icmp_gt (pc := 11) (tgt := 107) C0.1 C0.2.1 dX10_measure_11 (by decide) (fun _ => ?_) (fun c => absurd (Int32.lt_iff_toInt_lt.mpr (by omega)) c)
      exact xvret (pc := 107) C0 hr hH hS dX10_measure_107 ⟨h3, h4⟩
    | succ d ih6 =>
      intro k ll cc iv Fv Gv H locs ls h1 h2 h3 h4 h5 hH hS hl
      have rg_k := fb_rng k
      have rg_ll := fb_rng ll
      have rg_cc := fb_rng cc
      have hi_78_17 : iv 78 17 = nI 86 := (h3.1 78 17 (Or.inr (by decide))).trans hi_78_17
      have ek18 : Int32.toInt (iv 78 18) = Int32.toInt (i 78 18) := congrArg Int32.toInt (h3.1 78 18 (Or.inr (by decide)))
      have ek10 : Int32.toInt (iv 78 10) = Int32.toInt (i 78 10) := congrArg Int32.toInt (h3.1 78 10 (Or.inr (by decide)))
      refine lv_iload_n (pc := 6) C0.1 C0.2.1 dX10_measure_6 rfl (lv_at hl 0 rfl) ?_
      refine lv_aload_n (pc := 7) C0.1 C0.2.1 dX10_measure_7 rfl (lv_at hl 3 rfl) ?_
      refine xget (pc := 8) C0 hH 78 18 clX10 ⟨Nat.le_of_ble_eq_true rfl, Nat.le_of_ble_eq_true rfl⟩ ⟨rfl, rfl⟩ (Nat.le_of_ble_eq_true rfl) fl_X10_251 (v := .int (iv 78 18)) rfl dX10_measure_8 ?_
      refine lv_icmp_gt (pc := 11) (tgt := 107) C0.1 C0.2.1 dX10_measure_11 (by decide) (fun c201 => ?_) (fun c201 => ?_)
      · have c201 := Int32.lt_iff_toInt_lt.mp c201
        exact xvret (pc := 107) C0 hr hH hS dX10_measure_107 ⟨h3, h4⟩
      · have c201 : ¬ _ := fun q => c201 (Int32.lt_iff_toInt_lt.mpr q)
        refine lv_aload_n (pc := 14) C0.1 C0.2.1 dX10_measure_14 rfl (lv_at hl 3 rfl) ?_
        refine xget (pc := 15) C0 hH 78 28 clX10 ⟨Nat.le_of_ble_eq_true rfl, Nat.le_of_ble_eq_true rfl⟩ ⟨rfl, rfl⟩ (Nat.le_of_ble_eq_true rfl) fl_X10_67 (v := .ref (b + 96)) rfl dX10_measure_15 ?_
        refine lv_iload_n (pc := 18) C0.1 C0.2.1 dX10_measure_18 rfl (lv_at hl 0 rfl) ?_
        refine lv_iload_n (pc := 19) C0.1 C0.2.1 dX10_measure_19 rfl (lv_at hl 2 rfl) ?_
        refine xiast (pc := 20) (N := 601) C0 (Nat.le_of_ble_eq_true rfl) hH hS 96 ⟨Nat.le_of_ble_eq_true rfl, Nat.le_of_ble_eq_true rfl⟩ ⟨rfl, rfl⟩ (vI (by omega) (by omega)) dX10_measure_20 (fun _ locs hH hS _ => ?_)
        have hH : Hd D tA b 78 52 zz iv (va_up Fv 96 (upd (Fv 96) (Int32.toNatClampNeg k) ll)) Gv _ := hH
        refine lv_aload_n (pc := 21) C0.1 C0.2.1 dX10_measure_21 rfl (lv_at hl 3 rfl) ?_
        refine xget (pc := 22) C0 hH 78 29 clX10 ⟨Nat.le_of_ble_eq_true rfl, Nat.le_of_ble_eq_true rfl⟩ ⟨rfl, rfl⟩ (Nat.le_of_ble_eq_true rfl) fl_X10_70 (v := .ref (b + 97)) rfl dX10_measure_22 ?_
        refine lv_iload_n (pc := 25) C0.1 C0.2.1 dX10_measure_25 rfl (lv_at hl 0 rfl) ?_
        refine lv_iload_n (pc := 26) C0.1 C0.2.1 dX10_measure_26 rfl (lv_at hl 1 rfl) ?_
        refine xiast (pc := 27) (N := 601) C0 (Nat.le_of_ble_eq_true rfl) hH hS 97 ⟨Nat.le_of_ble_eq_true rfl, Nat.le_of_ble_eq_true rfl⟩ ⟨rfl, rfl⟩ (vI (by omega) (by omega)) dX10_measure_27 (fun _ locs hH hS _ => ?_)
        have hH : Hd D tA b 78 52 zz iv (va_up (va_up Fv 96 (upd (Fv 96) (Int32.toNatClampNeg k) ll)) 97 (upd (Fv 97) (Int32.toNatClampNeg k) cc)) Gv _ := hH
        refine lv_iload_n (pc := 28) C0.1 C0.2.1 dX10_measure_28 rfl (lv_at hl 0 rfl) ?_
        refine lv_aload_n (pc := 29) C0.1 C0.2.1 dX10_measure_29 rfl (lv_at hl 3 rfl) ?_
        refine xget (pc := 30) C0 hH 78 18 clX10 ⟨Nat.le_of_ble_eq_true rfl, Nat.le_of_ble_eq_true rfl⟩ ⟨rfl, rfl⟩ (Nat.le_of_ble_eq_true rfl) fl_X10_251 (v := .int (iv 78 18)) rfl dX10_measure_30 ?_
        refine lv_icmp_ge (pc := 33) (tgt := 55) C0.1 C0.2.1 dX10_measure_33 (by decide) (fun c202 => ?_) (fun c202 => ?_)
        · have c202 := Int32.le_iff_toInt_le.mp c202
          refine lv_iload_n (pc := 55) C0.1 C0.2.1 dX10_measure_55 rfl (lv_at hl 0 rfl) ?_
          refine lv_aload_n (pc := 56) C0.1 C0.2.1 dX10_measure_56 rfl (lv_at hl 3 rfl) ?_
          refine xget (pc := 57) C0 hH 78 18 clX10 ⟨Nat.le_of_ble_eq_true rfl, Nat.le_of_ble_eq_true rfl⟩ ⟨rfl, rfl⟩ (Nat.le_of_ble_eq_true rfl) fl_X10_251 (v := .int (iv 78 18)) rfl dX10_measure_57 ?_
          refine lv_icmp_ge (pc := 60) (tgt := 97) C0.1 C0.2.1 dX10_measure_60 (by decide) (fun c203 => ?_) (fun c203 => ?_)
          · have c203 := Int32.le_iff_toInt_le.mp c203
            refine lv_iload_n (pc := 97) C0.1 C0.2.1 dX10_measure_97 rfl (lv_at hl 1 rfl) ?_
            refine lv_iconst (pc := 98) (v := 1) C0.1 C0.2.1 dX10_measure_98 (by decide) ?_
            have : Int32.toInt 1 = 1 := rfl
            refine lv_iadd (pc := 99) C0.1 C0.2.1 dX10_measure_99 ?_
            refine lv_topi (fun x204 ex204 => ?_)
            have hx204 : Int32.toInt x204 = Int32.toInt cc + Int32.toInt 1 := by rw [ex204]; exact fb_addI (by omega) (by omega)
            refine lv_istore_n (pc := 100) (lv' := [(2, .int x204), (3, .int k), (1, .int ll), (0, .ref (b + 78))]) C0.1 C0.2.1 dX10_measure_100 rfl hl (by decide) rfl (fun ls hl => ?_)
            obtain ⟨x205, ex205⟩ : ∃ y_ : Int32, y_ = k + 1 := ⟨_, rfl⟩
            have : Int32.toInt 1 = 1 := rfl
            have hx205 : Int32.toInt x205 = Int32.toInt k + Int32.toInt 1 := by rw [ex205]; exact fb_addI (by omega) (by omega)
            refine lv_iinc (pc := 101) (v := x205) (lv' := [(3, .int x205), (2, .int x204), (1, .int ll), (0, .ref (b + 78))]) C0.1 C0.2.1 dX10_measure_101 hl (k := 1) rfl (by rw [ex205]; rfl) (by decide) rfl (fun ls hl => ?_)
            refine lv_goto (pc := 104) (tgt := 6) C0.1 C0.2.1 dX10_measure_104 (by decide) ?_
            exact ih6 x205 ll x204 iv (va_up (va_up Fv 96 (upd (Fv 96) (Int32.toNatClampNeg k) ll)) 97 (upd (Fv 97) (Int32.toNatClampNeg k) cc)) Gv _ _ _ (by omega) (by omega) (RO.f (RO.f h3 (by decide)) (by decide)) (fun j => cb_up h4 (by omega) j) (by have : Int32.toInt 0 = 0 := rfl; omega) hH hS (lv_sub hl [0, 1, 2, 3] rfl)
          · have c203 : ¬ _ := fun q => c203 (Int32.le_iff_toInt_le.mpr q)
            refine lv_aload_n (pc := 63) C0.1 C0.2.1 dX10_measure_63 rfl (lv_at hl 3 rfl) ?_
            refine xget (pc := 64) C0 hH 78 17 clX10 ⟨Nat.le_of_ble_eq_true rfl, Nat.le_of_ble_eq_true rfl⟩ ⟨rfl, rfl⟩ (Nat.le_of_ble_eq_true rfl) fl_X10_39 (v := .ref (b + 86)) (by show Value.ref (b + (iv 78 17).toNatClampNeg) = _; rw [hi_78_17]; rfl) dX10_measure_64 ?_
            refine lv_iload_n (pc := 67) C0.1 C0.2.1 dX10_measure_67 rfl (lv_at hl 0 rfl) ?_
            refine xbald (pc := 68) (N := 600) C0 hH 86 ⟨Nat.le_of_ble_eq_true rfl, Nat.le_of_ble_eq_true rfl⟩ ⟨rfl, rfl⟩ (vI (by omega) (by omega)) dX10_measure_68 ?_
            refine lv_bipush (pc := 69) (v := 9) C0.1 C0.2.1 dX10_measure_69 (by decide) ?_
            refine lv_icmp_ne (pc := 71) (tgt := 97) C0.1 C0.2.1 dX10_measure_71 (by decide) (fun c206 => ?_) (fun c206 => ?_)
            · have : Int32.toInt 9 = 9 := rfl
              have c206 : ¬ _ := fun q => c206 (Int32.toInt_inj.mp q)
              refine lv_iload_n (pc := 97) C0.1 C0.2.1 dX10_measure_97 rfl (lv_at hl 1 rfl) ?_
              refine lv_iconst (pc := 98) (v := 1) C0.1 C0.2.1 dX10_measure_98 (by decide) ?_
              have : Int32.toInt 1 = 1 := rfl
              refine lv_iadd (pc := 99) C0.1 C0.2.1 dX10_measure_99 ?_
              refine lv_topi (fun x207 ex207 => ?_)
              have hx207 : Int32.toInt x207 = Int32.toInt cc + Int32.toInt 1 := by rw [ex207]; exact fb_addI (by omega) (by omega)
              refine lv_istore_n (pc := 100) (lv' := [(2, .int x207), (3, .int k), (1, .int ll), (0, .ref (b + 78))]) C0.1 C0.2.1 dX10_measure_100 rfl hl (by decide) rfl (fun ls hl => ?_)
              obtain ⟨x208, ex208⟩ : ∃ y_ : Int32, y_ = k + 1 := ⟨_, rfl⟩
              have : Int32.toInt 1 = 1 := rfl
              have hx208 : Int32.toInt x208 = Int32.toInt k + Int32.toInt 1 := by rw [ex208]; exact fb_addI (by omega) (by omega)
              refine lv_iinc (pc := 101) (v := x208) (lv' := [(3, .int x208), (2, .int x207), (1, .int ll), (0, .ref (b + 78))]) C0.1 C0.2.1 dX10_measure_101 hl (k := 1) rfl (by rw [ex208]; rfl) (by decide) rfl (fun ls hl => ?_)
              refine lv_goto (pc := 104) (tgt := 6) C0.1 C0.2.1 dX10_measure_104 (by decide) ?_
              exact ih6 x208 ll x207 iv (va_up (va_up Fv 96 (upd (Fv 96) (Int32.toNatClampNeg k) ll)) 97 (upd (Fv 97) (Int32.toNatClampNeg k) cc)) Gv _ _ _ (by omega) (by omega) (RO.f (RO.f h3 (by decide)) (by decide)) (fun j => cb_up h4 (by omega) j) (by have : Int32.toInt 0 = 0 := rfl; omega) hH hS (lv_sub hl [0, 1, 2, 3] rfl)
            · have : Int32.toInt 9 = 9 := rfl
              have c206 := congrArg Int32.toInt c206
              refine lv_aload_n (pc := 74) C0.1 C0.2.1 dX10_measure_74 rfl (lv_at hl 3 rfl) ?_
              refine xget (pc := 75) C0 hH 78 10 clX10 ⟨Nat.le_of_ble_eq_true rfl, Nat.le_of_ble_eq_true rfl⟩ ⟨rfl, rfl⟩ (Nat.le_of_ble_eq_true rfl) fl_X10_216 (v := .int (iv 78 10)) rfl dX10_measure_75 ?_
              refine lv_if_le (pc := 78) (tgt := 97) C0.1 C0.2.1 dX10_measure_78 (by decide) (fun c209 => ?_) (fun c209 => ?_)
              · have : Int32.toInt 0 = 0 := rfl
                have c209 := Int32.le_iff_toInt_le.mp c209
                refine lv_iload_n (pc := 97) C0.1 C0.2.1 dX10_measure_97 rfl (lv_at hl 1 rfl) ?_
                refine lv_iconst (pc := 98) (v := 1) C0.1 C0.2.1 dX10_measure_98 (by decide) ?_
                have : Int32.toInt 1 = 1 := rfl
                refine lv_iadd (pc := 99) C0.1 C0.2.1 dX10_measure_99 ?_
                refine lv_topi (fun x210 ex210 => ?_)
                have hx210 : Int32.toInt x210 = Int32.toInt cc + Int32.toInt 1 := by rw [ex210]; exact fb_addI (by omega) (by omega)
                refine lv_istore_n (pc := 100) (lv' := [(2, .int x210), (3, .int k), (1, .int ll), (0, .ref (b + 78))]) C0.1 C0.2.1 dX10_measure_100 rfl hl (by decide) rfl (fun ls hl => ?_)
                obtain ⟨x211, ex211⟩ : ∃ y_ : Int32, y_ = k + 1 := ⟨_, rfl⟩
                have : Int32.toInt 1 = 1 := rfl
                have hx211 : Int32.toInt x211 = Int32.toInt k + Int32.toInt 1 := by rw [ex211]; exact fb_addI (by omega) (by omega)
                refine lv_iinc (pc := 101) (v := x211) (lv' := [(3, .int x211), (2, .int x210), (1, .int ll), (0, .ref (b + 78))]) C0.1 C0.2.1 dX10_measure_101 hl (k := 1) rfl (by rw [ex211]; rfl) (by decide) rfl (fun ls hl => ?_)
                refine lv_goto (pc := 104) (tgt := 6) C0.1 C0.2.1 dX10_measure_104 (by decide) ?_
                exact ih6 x211 ll x210 iv (va_up (va_up Fv 96 (upd (Fv 96) (Int32.toNatClampNeg k) ll)) 97 (upd (Fv 97) (Int32.toNatClampNeg k) cc)) Gv _ _ _ (by omega) (by omega) (RO.f (RO.f h3 (by decide)) (by decide)) (fun j => cb_up h4 (by omega) j) (by have : Int32.toInt 0 = 0 := rfl; omega) hH hS (lv_sub hl [0, 1, 2, 3] rfl)
              · have : Int32.toInt 0 = 0 := rfl
                have c209 : ¬ _ := fun q => c209 (Int32.le_iff_toInt_le.mpr q)
                refine lv_iload_n (pc := 81) C0.1 C0.2.1 dX10_measure_81 rfl (lv_at hl 1 rfl) ?_
                refine lv_aload_n (pc := 82) C0.1 C0.2.1 dX10_measure_82 rfl (lv_at hl 3 rfl) ?_
                refine xget (pc := 83) C0 hH 78 10 clX10 ⟨Nat.le_of_ble_eq_true rfl, Nat.le_of_ble_eq_true rfl⟩ ⟨rfl, rfl⟩ (Nat.le_of_ble_eq_true rfl) fl_X10_216 (v := .int (iv 78 10)) rfl dX10_measure_83 ?_
                refine lv_idiv (pc := 86) C0.1 C0.2.1 dX10_measure_86 (fun q => by have := congrArg Int32.toInt q; have : Int32.toInt 0 = 0 := rfl; omega) ?_
                refine lv_iconst (pc := 87) (v := 1) C0.1 C0.2.1 dX10_measure_87 (by decide) ?_
                refine lv_iadd (pc := 88) C0.1 C0.2.1 dX10_measure_88 ?_
                refine lv_aload_n (pc := 89) C0.1 C0.2.1 dX10_measure_89 rfl (lv_at hl 3 rfl) ?_
                refine xget (pc := 90) C0 hH 78 10 clX10 ⟨Nat.le_of_ble_eq_true rfl, Nat.le_of_ble_eq_true rfl⟩ ⟨rfl, rfl⟩ (Nat.le_of_ble_eq_true rfl) fl_X10_216 (v := .int (iv 78 10)) rfl dX10_measure_90 ?_
                refine lv_imul (pc := 93) C0.1 C0.2.1 dX10_measure_93 ?_
                refine lv_goto (pc := 94) (tgt := 100) C0.1 C0.2.1 dX10_measure_94 (by decide) ?_
                refine lv_topi (fun x212 ex212 => ?_)
                refine lv_istore_n (pc := 100) (lv' := [(2, .int x212), (3, .int k), (1, .int ll), (0, .ref (b + 78))]) C0.1 C0.2.1 dX10_measure_100 rfl hl (by decide) rfl (fun ls hl => ?_)
                have hdv := dv_col (c := cc) (t := iv 78 10) (by omega) (by omega) (by omega)
                rw [← ex212] at hdv
                obtain ⟨x213, ex213⟩ : ∃ y_ : Int32, y_ = k + 1 := ⟨_, rfl⟩
                have : Int32.toInt 1 = 1 := rfl
                have hx213 : Int32.toInt x213 = Int32.toInt k + Int32.toInt 1 := by rw [ex213]; exact fb_addI (by omega) (by omega)
                refine lv_iinc (pc := 101) (v := x213) (lv' := [(3, .int x213), (2, .int x212), (1, .int ll), (0, .ref (b + 78))]) C0.1 C0.2.1 dX10_measure_101 hl (k := 1) rfl (by rw [ex213]; rfl) (by decide) rfl (fun ls hl => ?_)
                refine lv_goto (pc := 104) (tgt := 6) C0.1 C0.2.1 dX10_measure_104 (by decide) ?_
                exact ih6 x213 ll x212 iv (va_up (va_up Fv 96 (upd (Fv 96) (Int32.toNatClampNeg k) ll)) 97 (upd (Fv 97) (Int32.toNatClampNeg k) cc)) Gv _ _ _ (by omega) (by omega) (RO.f (RO.f h3 (by decide)) (by decide)) (fun j => cb_up h4 (by omega) j) (by have : Int32.toInt 0 = 0 := rfl; omega) hH hS (lv_sub hl [0, 1, 2, 3] rfl)
        · have c202 : ¬ _ := fun q => c202 (Int32.le_iff_toInt_le.mpr q)
          refine lv_aload_n (pc := 36) C0.1 C0.2.1 dX10_measure_36 rfl (lv_at hl 3 rfl) ?_
          refine xget (pc := 37) C0 hH 78 17 clX10 ⟨Nat.le_of_ble_eq_true rfl, Nat.le_of_ble_eq_true rfl⟩ ⟨rfl, rfl⟩ (Nat.le_of_ble_eq_true rfl) fl_X10_39 (v := .ref (b + 86)) (by show Value.ref (b + (iv 78 17).toNatClampNeg) = _; rw [hi_78_17]; rfl) dX10_measure_37 ?_
          refine lv_iload_n (pc := 40) C0.1 C0.2.1 dX10_measure_40 rfl (lv_at hl 0 rfl) ?_
          refine xbald (pc := 41) (N := 600) C0 hH 86 ⟨Nat.le_of_ble_eq_true rfl, Nat.le_of_ble_eq_true rfl⟩ ⟨rfl, rfl⟩ (vI (by omega) (by omega)) dX10_measure_41 ?_
          refine lv_bipush (pc := 42) (v := 10) C0.1 C0.2.1 dX10_measure_42 (by decide) ?_
          refine lv_icmp_ne (pc := 44) (tgt := 55) C0.1 C0.2.1 dX10_measure_44 (by decide) (fun c214 => ?_) (fun c214 => ?_)
          · have : Int32.toInt 10 = 10 := rfl
            have c214 : ¬ _ := fun q => c214 (Int32.toInt_inj.mp q)
            refine lv_iload_n (pc := 55) C0.1 C0.2.1 dX10_measure_55 rfl (lv_at hl 0 rfl) ?_
            refine lv_aload_n (pc := 56) C0.1 C0.2.1 dX10_measure_56 rfl (lv_at hl 3 rfl) ?_
            refine xget (pc := 57) C0 hH 78 18 clX10 ⟨Nat.le_of_ble_eq_true rfl, Nat.le_of_ble_eq_true rfl⟩ ⟨rfl, rfl⟩ (Nat.le_of_ble_eq_true rfl) fl_X10_251 (v := .int (iv 78 18)) rfl dX10_measure_57 ?_
            refine lv_icmp_ge (pc := 60) (tgt := 97) C0.1 C0.2.1 dX10_measure_60 (by decide) (fun c215 => ?_) (fun c215 => ?_)
            · have c215 := Int32.le_iff_toInt_le.mp c215
              refine lv_iload_n (pc := 97) C0.1 C0.2.1 dX10_measure_97 rfl (lv_at hl 1 rfl) ?_
              refine lv_iconst (pc := 98) (v := 1) C0.1 C0.2.1 dX10_measure_98 (by decide) ?_
              have : Int32.toInt 1 = 1 := rfl
              refine lv_iadd (pc := 99) C0.1 C0.2.1 dX10_measure_99 ?_
              refine lv_topi (fun x216 ex216 => ?_)
              have hx216 : Int32.toInt x216 = Int32.toInt cc + Int32.toInt 1 := by rw [ex216]; exact fb_addI (by omega) (by omega)
              refine lv_istore_n (pc := 100) (lv' := [(2, .int x216), (3, .int k), (1, .int ll), (0, .ref (b + 78))]) C0.1 C0.2.1 dX10_measure_100 rfl hl (by decide) rfl (fun ls hl => ?_)
              obtain ⟨x217, ex217⟩ : ∃ y_ : Int32, y_ = k + 1 := ⟨_, rfl⟩
              have : Int32.toInt 1 = 1 := rfl
              have hx217 : Int32.toInt x217 = Int32.toInt k + Int32.toInt 1 := by rw [ex217]; exact fb_addI (by omega) (by omega)
              refine lv_iinc (pc := 101) (v := x217) (lv' := [(3, .int x217), (2, .int x216), (1, .int ll), (0, .ref (b + 78))]) C0.1 C0.2.1 dX10_measure_101 hl (k := 1) rfl (by rw [ex217]; rfl) (by decide) rfl (fun ls hl => ?_)
              refine lv_goto (pc := 104) (tgt := 6) C0.1 C0.2.1 dX10_measure_104 (by decide) ?_
              exact ih6 x217 ll x216 iv (va_up (va_up Fv 96 (upd (Fv 96) (Int32.toNatClampNeg k) ll)) 97 (upd (Fv 97) (Int32.toNatClampNeg k) cc)) Gv _ _ _ (by omega) (by omega) (RO.f (RO.f h3 (by decide)) (by decide)) (fun j => cb_up h4 (by omega) j) (by have : Int32.toInt 0 = 0 := rfl; omega) hH hS (lv_sub hl [0, 1, 2, 3] rfl)
            · have c215 : ¬ _ := fun q => c215 (Int32.le_iff_toInt_le.mpr q)
              refine lv_aload_n (pc := 63) C0.1 C0.2.1 dX10_measure_63 rfl (lv_at hl 3 rfl) ?_
              refine xget (pc := 64) C0 hH 78 17 clX10 ⟨Nat.le_of_ble_eq_true rfl, Nat.le_of_ble_eq_true rfl⟩ ⟨rfl, rfl⟩ (Nat.le_of_ble_eq_true rfl) fl_X10_39 (v := .ref (b + 86)) (by show Value.ref (b + (iv 78 17).toNatClampNeg) = _; rw [hi_78_17]; rfl) dX10_measure_64 ?_
              refine lv_iload_n (pc := 67) C0.1 C0.2.1 dX10_measure_67 rfl (lv_at hl 0 rfl) ?_
              refine xbald (pc := 68) (N := 600) C0 hH 86 ⟨Nat.le_of_ble_eq_true rfl, Nat.le_of_ble_eq_true rfl⟩ ⟨rfl, rfl⟩ (vI (by omega) (by omega)) dX10_measure_68 ?_
              refine lv_bipush (pc := 69) (v := 9) C0.1 C0.2.1 dX10_measure_69 (by decide) ?_
              refine lv_icmp_ne (pc := 71) (tgt := 97) C0.1 C0.2.1 dX10_measure_71 (by decide) (fun c218 => ?_) (fun c218 => ?_)
              · have : Int32.toInt 9 = 9 := rfl
                have c218 : ¬ _ := fun q => c218 (Int32.toInt_inj.mp q)
                refine lv_iload_n (pc := 97) C0.1 C0.2.1 dX10_measure_97 rfl (lv_at hl 1 rfl) ?_
                refine lv_iconst (pc := 98) (v := 1) C0.1 C0.2.1 dX10_measure_98 (by decide) ?_
                have : Int32.toInt 1 = 1 := rfl
                refine lv_iadd (pc := 99) C0.1 C0.2.1 dX10_measure_99 ?_
                refine lv_topi (fun x219 ex219 => ?_)
                have hx219 : Int32.toInt x219 = Int32.toInt cc + Int32.toInt 1 := by rw [ex219]; exact fb_addI (by omega) (by omega)
                refine lv_istore_n (pc := 100) (lv' := [(2, .int x219), (3, .int k), (1, .int ll), (0, .ref (b + 78))]) C0.1 C0.2.1 dX10_measure_100 rfl hl (by decide) rfl (fun ls hl => ?_)
                obtain ⟨x220, ex220⟩ : ∃ y_ : Int32, y_ = k + 1 := ⟨_, rfl⟩
                have : Int32.toInt 1 = 1 := rfl
                have hx220 : Int32.toInt x220 = Int32.toInt k + Int32.toInt 1 := by rw [ex220]; exact fb_addI (by omega) (by omega)
                refine lv_iinc (pc := 101) (v := x220) (lv' := [(3, .int x220), (2, .int x219), (1, .int ll), (0, .ref (b + 78))]) C0.1 C0.2.1 dX10_measure_101 hl (k := 1) rfl (by rw [ex220]; rfl) (by decide) rfl (fun ls hl => ?_)
                refine lv_goto (pc := 104) (tgt := 6) C0.1 C0.2.1 dX10_measure_104 (by decide) ?_
                exact ih6 x220 ll x219 iv (va_up (va_up Fv 96 (upd (Fv 96) (Int32.toNatClampNeg k) ll)) 97 (upd (Fv 97) (Int32.toNatClampNeg k) cc)) Gv _ _ _ (by omega) (by omega) (RO.f (RO.f h3 (by decide)) (by decide)) (fun j => cb_up h4 (by omega) j) (by have : Int32.toInt 0 = 0 := rfl; omega) hH hS (lv_sub hl [0, 1, 2, 3] rfl)
              · have : Int32.toInt 9 = 9 := rfl
                have c218 := congrArg Int32.toInt c218
                refine lv_aload_n (pc := 74) C0.1 C0.2.1 dX10_measure_74 rfl (lv_at hl 3 rfl) ?_
                refine xget (pc := 75) C0 hH 78 10 clX10 ⟨Nat.le_of_ble_eq_true rfl, Nat.le_of_ble_eq_true rfl⟩ ⟨rfl, rfl⟩ (Nat.le_of_ble_eq_true rfl) fl_X10_216 (v := .int (iv 78 10)) rfl dX10_measure_75 ?_
                refine lv_if_le (pc := 78) (tgt := 97) C0.1 C0.2.1 dX10_measure_78 (by decide) (fun c221 => ?_) (fun c221 => ?_)
                · have : Int32.toInt 0 = 0 := rfl
                  have c221 := Int32.le_iff_toInt_le.mp c221
                  refine lv_iload_n (pc := 97) C0.1 C0.2.1 dX10_measure_97 rfl (lv_at hl 1 rfl) ?_
                  refine lv_iconst (pc := 98) (v := 1) C0.1 C0.2.1 dX10_measure_98 (by decide) ?_
                  have : Int32.toInt 1 = 1 := rfl
                  refine lv_iadd (pc := 99) C0.1 C0.2.1 dX10_measure_99 ?_
                  refine lv_topi (fun x222 ex222 => ?_)
                  have hx222 : Int32.toInt x222 = Int32.toInt cc + Int32.toInt 1 := by rw [ex222]; exact fb_addI (by omega) (by omega)
                  refine lv_istore_n (pc := 100) (lv' := [(2, .int x222), (3, .int k), (1, .int ll), (0, .ref (b + 78))]) C0.1 C0.2.1 dX10_measure_100 rfl hl (by decide) rfl (fun ls hl => ?_)
                  obtain ⟨x223, ex223⟩ : ∃ y_ : Int32, y_ = k + 1 := ⟨_, rfl⟩
                  have : Int32.toInt 1 = 1 := rfl
                  have hx223 : Int32.toInt x223 = Int32.toInt k + Int32.toInt 1 := by rw [ex223]; exact fb_addI (by omega) (by omega)
                  refine lv_iinc (pc := 101) (v := x223) (lv' := [(3, .int x223), (2, .int x222), (1, .int ll), (0, .ref (b + 78))]) C0.1 C0.2.1 dX10_measure_101 hl (k := 1) rfl (by rw [ex223]; rfl) (by decide) rfl (fun ls hl => ?_)
                  refine lv_goto (pc := 104) (tgt := 6) C0.1 C0.2.1 dX10_measure_104 (by decide) ?_
                  exact ih6 x223 ll x222 iv (va_up (va_up Fv 96 (upd (Fv 96) (Int32.toNatClampNeg k) ll)) 97 (upd (Fv 97) (Int32.toNatClampNeg k) cc)) Gv _ _ _ (by omega) (by omega) (RO.f (RO.f h3 (by decide)) (by decide)) (fun j => cb_up h4 (by omega) j) (by have : Int32.toInt 0 = 0 := rfl; omega) hH hS (lv_sub hl [0, 1, 2, 3] rfl)
                · have : Int32.toInt 0 = 0 := rfl
                  have c221 : ¬ _ := fun q => c221 (Int32.le_iff_toInt_le.mpr q)
                  refine lv_iload_n (pc := 81) C0.1 C0.2.1 dX10_measure_81 rfl (lv_at hl 1 rfl) ?_
                  refine lv_aload_n (pc := 82) C0.1 C0.2.1 dX10_measure_82 rfl (lv_at hl 3 rfl) ?_
                  refine xget (pc := 83) C0 hH 78 10 clX10 ⟨Nat.le_of_ble_eq_true rfl, Nat.le_of_ble_eq_true rfl⟩ ⟨rfl, rfl⟩ (Nat.le_of_ble_eq_true rfl) fl_X10_216 (v := .int (iv 78 10)) rfl dX10_measure_83 ?_
                  refine lv_idiv (pc := 86) C0.1 C0.2.1 dX10_measure_86 (fun q => by have := congrArg Int32.toInt q; have : Int32.toInt 0 = 0 := rfl; omega) ?_
                  refine lv_iconst (pc := 87) (v := 1) C0.1 C0.2.1 dX10_measure_87 (by decide) ?_
                  refine lv_iadd (pc := 88) C0.1 C0.2.1 dX10_measure_88 ?_
                  refine lv_aload_n (pc := 89) C0.1 C0.2.1 dX10_measure_89 rfl (lv_at hl 3 rfl) ?_
                  refine xget (pc := 90) C0 hH 78 10 clX10 ⟨Nat.le_of_ble_eq_true rfl, Nat.le_of_ble_eq_true rfl⟩ ⟨rfl, rfl⟩ (Nat.le_of_ble_eq_true rfl) fl_X10_216 (v := .int (iv 78 10)) rfl dX10_measure_90 ?_
                  refine lv_imul (pc := 93) C0.1 C0.2.1 dX10_measure_93 ?_
                  refine lv_goto (pc := 94) (tgt := 100) C0.1 C0.2.1 dX10_measure_94 (by decide) ?_
                  refine lv_topi (fun x224 ex224 => ?_)
                  refine lv_istore_n (pc := 100) (lv' := [(2, .int x224), (3, .int k), (1, .int ll), (0, .ref (b + 78))]) C0.1 C0.2.1 dX10_measure_100 rfl hl (by decide) rfl (fun ls hl => ?_)
                  have hdv := dv_col (c := cc) (t := iv 78 10) (by omega) (by omega) (by omega)
                  rw [← ex224] at hdv
                  obtain ⟨x225, ex225⟩ : ∃ y_ : Int32, y_ = k + 1 := ⟨_, rfl⟩
                  have : Int32.toInt 1 = 1 := rfl
                  have hx225 : Int32.toInt x225 = Int32.toInt k + Int32.toInt 1 := by rw [ex225]; exact fb_addI (by omega) (by omega)
                  refine lv_iinc (pc := 101) (v := x225) (lv' := [(3, .int x225), (2, .int x224), (1, .int ll), (0, .ref (b + 78))]) C0.1 C0.2.1 dX10_measure_101 hl (k := 1) rfl (by rw [ex225]; rfl) (by decide) rfl (fun ls hl => ?_)
                  refine lv_goto (pc := 104) (tgt := 6) C0.1 C0.2.1 dX10_measure_104 (by decide) ?_
                  exact ih6 x225 ll x224 iv (va_up (va_up Fv 96 (upd (Fv 96) (Int32.toNatClampNeg k) ll)) 97 (upd (Fv 97) (Int32.toNatClampNeg k) cc)) Gv _ _ _ (by omega) (by omega) (RO.f (RO.f h3 (by decide)) (by decide)) (fun j => cb_up h4 (by omega) j) (by have : Int32.toInt 0 = 0 := rfl; omega) hH hS (lv_sub hl [0, 1, 2, 3] rfl)
          · have : Int32.toInt 10 = 10 := rfl
            have c214 := congrArg Int32.toInt c214
            obtain ⟨x226, ex226⟩ : ∃ y_ : Int32, y_ = ll + 1 := ⟨_, rfl⟩
            refine lv_iinc (pc := 47) (v := x226) (lv' := [(1, .int x226), (3, .int k), (2, .int cc), (0, .ref (b + 78))]) C0.1 C0.2.1 dX10_measure_47 hl (k := 2) rfl (by rw [ex226]; rfl) (by decide) rfl (fun ls hl => ?_)
            refine lv_iconst (pc := 50) (v := 0) C0.1 C0.2.1 dX10_measure_50 (by decide) ?_
            refine lv_istore_n (pc := 51) (lv' := [(2, .int 0), (1, .int x226), (3, .int k), (0, .ref (b + 78))]) C0.1 C0.2.1 dX10_measure_51 rfl hl (by decide) rfl (fun ls hl => ?_)
            refine lv_goto (pc := 52) (tgt := 101) C0.1 C0.2.1 dX10_measure_52 (by decide) ?_
            obtain ⟨x227, ex227⟩ : ∃ y_ : Int32, y_ = k + 1 := ⟨_, rfl⟩
            have : Int32.toInt 1 = 1 := rfl
            have hx227 : Int32.toInt x227 = Int32.toInt k + Int32.toInt 1 := by rw [ex227]; exact fb_addI (by omega) (by omega)
            refine lv_iinc (pc := 101) (v := x227) (lv' := [(3, .int x227), (2, .int 0), (1, .int x226), (0, .ref (b + 78))]) C0.1 C0.2.1 dX10_measure_101 hl (k := 2) rfl (by rw [ex227]; rfl) (by decide) rfl (fun ls hl => ?_)
            refine lv_goto (pc := 104) (tgt := 6) C0.1 C0.2.1 dX10_measure_104 (by decide) ?_
            exact ih6 x227 x226 0 iv (va_up (va_up Fv 96 (upd (Fv 96) (Int32.toNatClampNeg k) ll)) 97 (upd (Fv 97) (Int32.toNatClampNeg k) cc)) Gv _ _ _ (by omega) (by omega) (RO.f (RO.f h3 (by decide)) (by decide)) (fun j => cb_up h4 (by omega) j) (by have : Int32.toInt 0 = 0 := rfl; omega) hH hS (lv_sub hl [0, 1, 2, 3] rfl)
  refine lv_iconst (pc := 0) (v := 0) C0.1 C0.2.1 dX10_measure_0 (by decide) ?_
  refine lv_istore_n (pc := 1) (lv' := [(1, .int 0), (0, .ref (b + 78))]) C0.1 C0.2.1 dX10_measure_1 rfl hl (by decide) rfl (fun ls hl => ?_)
  refine lv_iconst (pc := 2) (v := 0) C0.1 C0.2.1 dX10_measure_2 (by decide) ?_
  refine lv_istore_n (pc := 3) (lv' := [(2, .int 0), (1, .int 0), (0, .ref (b + 78))]) C0.1 C0.2.1 dX10_measure_3 rfl hl (by decide) rfl (fun ls hl => ?_)
  refine lv_iconst (pc := 4) (v := 0) C0.1 C0.2.1 dX10_measure_4 (by decide) ?_
  refine lv_istore_n (pc := 5) (lv' := [(3, .int 0), (2, .int 0), (1, .int 0), (0, .ref (b + 78))]) C0.1 C0.2.1 dX10_measure_5 rfl hl (by decide) rfl (fun ls hl => ?_)
  exact L6 601 0 0 0 i F G _ _ _ (by decide) (by decide) RO.rf hcb (by decide) hH hS (lv_sub hl [0, 1, 2, 3] rfl)
set_option maxHeartbeats 4000000 in
set_option maxRecDepth 100000 in
theorem m_tabsFit_86 (l : Launch) (D : va_G) (tA : Nat → ClassId) (b : Nat) (i F : Nat → Nat → Int32) (G : Nat → Nat → Int64) (x y : Int32) (hi_78_17 : i 78 17 = nI 86) (hxy : 0 ≤ x.toInt ∧ y.toInt ≤ 600) : xMI l yX10_tabsFit cX10_tabsFit 4 (some .boolean) 1 22 D tA b 78 52 i F G [.ref (b + 78), .int x, .int y] (fun r u => RO [30, 31] [] i F G u ∧ (r = 0 ∨ r = 1) ∧ (r = 0 → (0 ≤ (u.1 78 31).toInt ∧ (u.1 78 31).toInt ≤ 600)) ∧ (PLI i → PLI u.1)) := by
  refine xstart RX10 rfl (by decide) (Nat.le_of_ble_eq_true rfl) ?_
  intro p e s m below meth c ls C0 hr hH hS hl
  have hl : lv_has ls 4 [(0, .ref (b + 78)), (1, .int x), (2, .int y)] := hl
  have rg_x := fb_rng x
  have rg_y := fb_rng y
  have L2 : ∀ (d : Nat) (k : Int32) (H : Heap) (locs : List Loc) (ls : Array Slot), (x.toInt ≤ k.toInt) → (y.toInt - k.toInt ≤ d) → Hd D tA b 78 52 zz i F G H → va_S (xA b 78 52) s.heap H locs → lv_has ls 4 [(3, .int k), (0, .ref (b + 78)), (1, .int x), (2, .int y)] → W p l e (xR 1 22) s m ([.ref (b + 78), .int x, .int y] : List Value).toArray below meth c H locs 0 0 (MQ below (va_Qi (fun r u => RO [30, 31] [] i F G u ∧ (r = 0 ∨ r = 1) ∧ (r = 0 → (0 ≤ (u.1 78 31).toInt ∧ (u.1 78 31).toInt ≤ 600)) ∧ (PLI i → PLI u.1)) (xB D tA b 78 52 zz) (xA b 78 52)) ([.ref (b + 78), .int x, .int y] : List Value).toArray s 0 0 (xA b 78 52)) (F0 m 2 ls []) := by
    intro d
    induction d with
    | zero =>
      intro k H locs ls h1 h2 hH hS hl
      have rg_k := fb_rng k
      refine lv_iload_n (pc := 2) C0.1 C0.2.1 dX10_tabsFit_2 rfl (lv_at hl 0 rfl) ?_
      refine lv_iload_n (pc := 3) C0.1 C0.2.1 dX10_tabsFit_3 rfl (lv_at hl 3 rfl) ?_
      refine lv_icmp_ge (pc := 4) (tgt := 38) C0.1 C0.2.1 dX10_tabsFit_4 (by decide) (fun _ => ?_) (fun c => absurd (Int32.le_iff_toInt_le.mpr (by omega)) c)
      refine lv_iconst (pc := 38) (v := 1) C0.1 C0.2.1 dX10_tabsFit_38 (by decide) ?_
      exact xzret (pc := 39) C0 hr hH hS dX10_tabsFit_39 (by decide) ⟨RO.rf, Or.inr rfl, fun q => absurd q (by decide), fun q => q⟩
    | succ d ih2 =>
      intro k H locs ls h1 h2 hH hS hl
      have rg_k := fb_rng k
      refine lv_iload_n (pc := 2) C0.1 C0.2.1 dX10_tabsFit_2 rfl (lv_at hl 0 rfl) ?_
      refine lv_iload_n (pc := 3) C0.1 C0.2.1 dX10_tabsFit_3 rfl (lv_at hl 3 rfl) ?_
      refine lv_icmp_ge (pc := 4) (tgt := 38) C0.1 C0.2.1 dX10_tabsFit_4 (by decide) (fun c201 => ?_) (fun c201 => ?_)
      · have c201 := Int32.le_iff_toInt_le.mp c201
        refine lv_iconst (pc := 38) (v := 1) C0.1 C0.2.1 dX10_tabsFit_38 (by decide) ?_
        exact xzret (pc := 39) C0 hr hH hS dX10_tabsFit_39 (by decide) ⟨RO.rf, Or.inr rfl, fun q => absurd q (by decide), fun q => q⟩
      · have c201 : ¬ _ := fun q => c201 (Int32.le_iff_toInt_le.mpr q)
        refine lv_aload_n (pc := 7) C0.1 C0.2.1 dX10_tabsFit_7 rfl (lv_at hl 1 rfl) ?_
        refine xget (pc := 8) C0 hH 78 10 clX10 ⟨Nat.le_of_ble_eq_true rfl, Nat.le_of_ble_eq_true rfl⟩ ⟨rfl, rfl⟩ (Nat.le_of_ble_eq_true rfl) fl_X10_216 (v := .int (i 78 10)) rfl dX10_tabsFit_8 ?_
        refine lv_if_ne (pc := 11) (tgt := 38) C0.1 C0.2.1 dX10_tabsFit_11 (by decide) (fun c202 => ?_) (fun c202 => ?_)
        · have : Int32.toInt 0 = 0 := rfl
          have c202 : ¬ _ := fun q => c202 (Int32.toInt_inj.mp q)
          refine lv_iconst (pc := 38) (v := 1) C0.1 C0.2.1 dX10_tabsFit_38 (by decide) ?_
          exact xzret (pc := 39) C0 hr hH hS dX10_tabsFit_39 (by decide) ⟨RO.rf, Or.inr rfl, fun q => absurd q (by decide), fun q => q⟩
        · have : Int32.toInt 0 = 0 := rfl
          have c202 := congrArg Int32.toInt c202
          refine lv_aload_n (pc := 14) C0.1 C0.2.1 dX10_tabsFit_14 rfl (lv_at hl 1 rfl) ?_
          refine xget (pc := 15) C0 hH 78 17 clX10 ⟨Nat.le_of_ble_eq_true rfl, Nat.le_of_ble_eq_true rfl⟩ ⟨rfl, rfl⟩ (Nat.le_of_ble_eq_true rfl) fl_X10_39 (v := .ref (b + 86)) (by show Value.ref (b + (i 78 17).toNatClampNeg) = _; rw [hi_78_17]; rfl) dX10_tabsFit_15 ?_
          refine lv_iload_n (pc := 18) C0.1 C0.2.1 dX10_tabsFit_18 rfl (lv_at hl 0 rfl) ?_
          refine xbald (pc := 19) (N := 600) C0 hH 86 ⟨Nat.le_of_ble_eq_true rfl, Nat.le_of_ble_eq_true rfl⟩ ⟨rfl, rfl⟩ (vI (by omega) (by omega)) dX10_tabsFit_19 ?_
          refine lv_bipush (pc := 20) (v := 9) C0.1 C0.2.1 dX10_tabsFit_20 (by decide) ?_
          refine lv_icmp_ne (pc := 22) (tgt := 32) C0.1 C0.2.1 dX10_tabsFit_22 (by decide) (fun c203 => ?_) (fun c203 => ?_)
          · have : Int32.toInt 9 = 9 := rfl
            have c203 : ¬ _ := fun q => c203 (Int32.toInt_inj.mp q)
            obtain ⟨x204, ex204⟩ : ∃ y_ : Int32, y_ = k + 1 := ⟨_, rfl⟩
            have : Int32.toInt 1 = 1 := rfl
            have hx204 : Int32.toInt x204 = Int32.toInt k + Int32.toInt 1 := by rw [ex204]; exact fb_addI (by omega) (by omega)
            refine lv_iinc (pc := 32) (v := x204) (lv' := [(3, .int x204), (0, .ref (b + 78)), (1, .int x), (2, .int y)]) C0.1 C0.2.1 dX10_tabsFit_32 hl (k := 0) rfl (by rw [ex204]; rfl) (by decide) rfl (fun ls hl => ?_)
            refine lv_goto (pc := 35) (tgt := 2) C0.1 C0.2.1 dX10_tabsFit_35 (by decide) ?_
            exact ih2 x204 _ _ _ (by omega) (by omega) hH hS (lv_sub hl [0, 1, 2, 3] rfl)
          · have : Int32.toInt 9 = 9 := rfl
            have c203 := congrArg Int32.toInt c203
            refine lv_aload_n (pc := 25) C0.1 C0.2.1 dX10_tabsFit_25 rfl (lv_at hl 1 rfl) ?_
            refine lv_iconst (pc := 26) (v := 2) C0.1 C0.2.1 dX10_tabsFit_26 (by decide) ?_
            refine lv_iload_n (pc := 27) C0.1 C0.2.1 dX10_tabsFit_27 rfl (lv_at hl 0 rfl) ?_
            refine xcVI (pc := 28) 78 [.int 2, .int k] (m_fail l D tA b i F G 2 k) C0 hH hS clX10 rfl ⟨⟨Nat.le_of_ble_eq_true rfl, Nat.le_of_ble_eq_true rfl⟩, rfl, rfl⟩ cw_X10_254 rfl ⟨Nat.le_of_ble_eq_true rfl, Nat.le_of_ble_eq_true rfl⟩ hl.1 rfl (Nat.le_of_ble_eq_true rfl) dX10_tabsFit_28 ⟨Nat.le_of_ble_eq_true rfl, Nat.le_of_ble_eq_true rfl⟩ (fun r205 ir205 Fr205 Gr205 _ locs hp hH hS => ?_)
            obtain ⟨hu, rfl⟩ := hp
            cases hu
            have hH : Hd D tA b 78 52 zz (up2 (up2 i 78 30 2) 78 31 k) F G _ := hH
            exact xzret (pc := 31) C0 hr hH hS dX10_tabsFit_31 (by decide) ⟨(RO.i (RO.i RO.rf (by decide)) (by decide)), Or.inl rfl, fun _ => (show 0 ≤ Int32.toInt k ∧ Int32.toInt k ≤ 600 from by omega), fun _ => Or.inr (show 0 ≤ Int32.toInt k ∧ Int32.toInt k ≤ 600 from by omega)⟩
  refine lv_iload_n (pc := 0) C0.1 C0.2.1 dX10_tabsFit_0 rfl (lv_at hl 1 rfl) ?_
  refine lv_istore_n (pc := 1) (lv' := [(3, .int x), (0, .ref (b + 78)), (1, .int x), (2, .int y)]) C0.1 C0.2.1 dX10_tabsFit_1 rfl hl (by decide) rfl (fun ls hl => ?_)
  exact L2 (y.toInt - x.toInt).toNat x _ _ _ (by omega) (by omega) hH hS (lv_sub hl [0, 1, 2, 3] rfl)
set_option maxHeartbeats 4000000 in
set_option maxRecDepth 100000 in
theorem m_next_86 (l : Launch) (D : va_G) (tA : Nat → ClassId) (b : Nat) (i F : Nat → Nat → Int32) (G : Nat → Nat → Int64) (x y : Int32) (hi_78_17 : i 78 17 = nI 86) (hlen : 0 ≤ (i 78 18).toInt ∧ (i 78 18).toInt ≤ 600) (hx : 0 ≤ x.toInt ∧ x.toInt ≤ (i 78 18).toInt) : xMI l yX10_next cX10_next 4 (some .int) 0 0 D tA b 78 52 i F G [.ref (b + 78), .int x, .int y] (fun r u => u = (i, F, G) ∧ (x.toInt ≤ r.toInt ∧ r.toInt ≤ (i 78 18).toInt) ∧ (x.toInt < (i 78 18).toInt → ¬ F 86 (Int32.toNatClampNeg x) = y → x.toInt + 1 ≤ r.toInt)) := by
  refine xstart RX10 rfl (by decide) (Nat.le_of_ble_eq_true rfl) ?_
  intro p e s m below meth c ls C0 hr hH hS hl
  have hl : lv_has ls 4 [(0, .ref (b + 78)), (1, .int x), (2, .int y)] := hl
  have rg_x := fb_rng x
  have rg_y := fb_rng y
  have L2 : ∀ (d : Nat) (k : Int32) (H : Heap) (locs : List Loc) (ls : Array Slot), (x.toInt ≤ k.toInt ∧ k.toInt ≤ (i 78 18).toInt) → ((i 78 18).toInt - k.toInt ≤ d) → Hd D tA b 78 52 zz i F G H → va_S (xA b 78 52) s.heap H locs → lv_has ls 4 [(3, .int k), (0, .ref (b + 78)), (1, .int x), (2, .int y)] → W p l e (xR 0 0) s m ([.ref (b + 78), .int x, .int y] : List Value).toArray below meth c H locs 0 0 (MQ below (va_Qi (fun r u => u = (i, F, G) ∧ (x.toInt ≤ r.toInt ∧ r.toInt ≤ (i 78 18).toInt) ∧ (x.toInt < (i 78 18).toInt → ¬ F 86 (Int32.toNatClampNeg x) = y → x.toInt + 1 ≤ r.toInt)) (xB D tA b 78 52 zz) (xA b 78 52)) ([.ref (b + 78), .int x, .int y] : List Value).toArray s 0 0 (xA b 78 52)) (F0 m 2 ls []) := by
    intro d
    induction d with
    | zero =>
      intro k H locs ls h1 h2 hH hS hl
      have rg_k := fb_rng k
      refine lv_iload_n (pc := 2) C0.1 C0.2.1 dX10_next_2 rfl (lv_at hl 0 rfl) ?_
      refine lv_aload_n (pc := 3) C0.1 C0.2.1 dX10_next_3 rfl (lv_at hl 1 rfl) ?_
      refine xget (pc := 4) C0 hH 78 18 clX10 ⟨Nat.le_of_ble_eq_true rfl, Nat.le_of_ble_eq_true rfl⟩ ⟨rfl, rfl⟩ (Nat.le_of_ble_eq_true rfl) fl_X10_251 (v := .int (i 78 18)) rfl dX10_next_4 ?_
      refine lv_icmp_ge (pc := 7) (tgt := 26) C0.1 C0.2.1 dX10_next_7 (by decide) (fun _ => ?_) (fun c => absurd (Int32.le_iff_toInt_le.mpr (by omega)) c)
      refine lv_iload_n (pc := 26) C0.1 C0.2.1 dX10_next_26 rfl (lv_at hl 0 rfl) ?_
      exact xiret (pc := 27) C0 hr hH hS dX10_next_27 ⟨rfl, h1, nx_fin h1.1 (by first | exact Or.inl (by omega) | exact Or.inr (by first | assumption | exact Int32.toInt_inj.mp (by assumption)))⟩
    | succ d ih2 =>
      intro k H locs ls h1 h2 hH hS hl
      have rg_k := fb_rng k
      refine lv_iload_n (pc := 2) C0.1 C0.2.1 dX10_next_2 rfl (lv_at hl 0 rfl) ?_
      refine lv_aload_n (pc := 3) C0.1 C0.2.1 dX10_next_3 rfl (lv_at hl 1 rfl) ?_
      refine xget (pc := 4) C0 hH 78 18 clX10 ⟨Nat.le_of_ble_eq_true rfl, Nat.le_of_ble_eq_true rfl⟩ ⟨rfl, rfl⟩ (Nat.le_of_ble_eq_true rfl) fl_X10_251 (v := .int (i 78 18)) rfl dX10_next_4 ?_
      refine lv_icmp_ge (pc := 7) (tgt := 26) C0.1 C0.2.1 dX10_next_7 (by decide) (fun c201 => ?_) (fun c201 => ?_)
      · have c201 := Int32.le_iff_toInt_le.mp c201
        refine lv_iload_n (pc := 26) C0.1 C0.2.1 dX10_next_26 rfl (lv_at hl 0 rfl) ?_
        exact xiret (pc := 27) C0 hr hH hS dX10_next_27 ⟨rfl, h1, nx_fin h1.1 (by first | exact Or.inl (by omega) | exact Or.inr (by first | assumption | exact Int32.toInt_inj.mp (by assumption)))⟩
      · have c201 : ¬ _ := fun q => c201 (Int32.le_iff_toInt_le.mpr q)
        refine lv_aload_n (pc := 10) C0.1 C0.2.1 dX10_next_10 rfl (lv_at hl 1 rfl) ?_
        refine xget (pc := 11) C0 hH 78 17 clX10 ⟨Nat.le_of_ble_eq_true rfl, Nat.le_of_ble_eq_true rfl⟩ ⟨rfl, rfl⟩ (Nat.le_of_ble_eq_true rfl) fl_X10_39 (v := .ref (b + 86)) (by show Value.ref (b + (i 78 17).toNatClampNeg) = _; rw [hi_78_17]; rfl) dX10_next_11 ?_
        refine lv_iload_n (pc := 14) C0.1 C0.2.1 dX10_next_14 rfl (lv_at hl 0 rfl) ?_
        refine xbald (pc := 15) (N := 600) C0 hH 86 ⟨Nat.le_of_ble_eq_true rfl, Nat.le_of_ble_eq_true rfl⟩ ⟨rfl, rfl⟩ (vI (by omega) (by omega)) dX10_next_15 ?_
        refine lv_iload_n (pc := 16) C0.1 C0.2.1 dX10_next_16 rfl (lv_at hl 3 rfl) ?_
        refine lv_icmp_eq (pc := 17) (tgt := 26) C0.1 C0.2.1 dX10_next_17 (by decide) (fun c202 => ?_) (fun c202 => ?_)
        · have c202 := congrArg Int32.toInt c202
          refine lv_iload_n (pc := 26) C0.1 C0.2.1 dX10_next_26 rfl (lv_at hl 0 rfl) ?_
          exact xiret (pc := 27) C0 hr hH hS dX10_next_27 ⟨rfl, h1, nx_fin h1.1 (by first | exact Or.inl (by omega) | exact Or.inr (by first | assumption | exact Int32.toInt_inj.mp (by assumption)))⟩
        · have c202 : ¬ _ := fun q => c202 (Int32.toInt_inj.mp q)
          obtain ⟨x203, ex203⟩ : ∃ y_ : Int32, y_ = k + 1 := ⟨_, rfl⟩
          have : Int32.toInt 1 = 1 := rfl
          have hx203 : Int32.toInt x203 = Int32.toInt k + Int32.toInt 1 := by rw [ex203]; exact fb_addI (by omega) (by omega)
          refine lv_iinc (pc := 20) (v := x203) (lv' := [(3, .int x203), (0, .ref (b + 78)), (1, .int x), (2, .int y)]) C0.1 C0.2.1 dX10_next_20 hl (k := 0) rfl (by rw [ex203]; rfl) (by decide) rfl (fun ls hl => ?_)
          refine lv_goto (pc := 23) (tgt := 2) C0.1 C0.2.1 dX10_next_23 (by decide) ?_
          exact ih2 x203 _ _ _ (by omega) (by omega) hH hS (lv_sub hl [0, 1, 2, 3] rfl)
  refine lv_iload_n (pc := 0) C0.1 C0.2.1 dX10_next_0 rfl (lv_at hl 1 rfl) ?_
  refine lv_istore_n (pc := 1) (lv' := [(3, .int x), (0, .ref (b + 78)), (1, .int x), (2, .int y)]) C0.1 C0.2.1 dX10_next_1 rfl hl (by decide) rfl (fun ls hl => ?_)
  exact L2 600 x _ _ _ (by omega) (by omega) hH hS (lv_sub hl [0, 1, 2, 3] rfl)
set_option maxHeartbeats 4000000 in
set_option maxRecDepth 100000 in
theorem m_behind_86 (l : Launch) (D : va_G) (tA : Nat → ClassId) (b : Nat) (i F : Nat → Nat → Int32) (G : Nat → Nat → Int64) (x y : Int32) (hi_78_17 : i 78 17 = nI 86) (hlen : 0 ≤ (i 78 18).toInt ∧ (i 78 18).toInt ≤ 600) (hx : 0 ≤ x.toInt ∧ x.toInt ≤ (i 78 18).toInt) (hbh : (¬ y = 0 → ¬ lt_ (F 86 (Int32.toNatClampNeg x)) = 0) ∧ (y = 0 → ¬ dg (F 86 (Int32.toNatClampNeg x)) = 0)) (hxl : x.toInt < (i 78 18).toInt) : xMI l yX10_behind cX10_behind 4 (some .int) 1 20 D tA b 78 52 i F G [.ref (b + 78), .int x, .int y] (fun r u => u = (i, F, G) ∧ (x.toInt + 1 ≤ r.toInt ∧ r.toInt ≤ (i 78 18).toInt)) := by
  refine xstart RX10 rfl (by decide) (Nat.le_of_ble_eq_true rfl) ?_
  intro p e s m below meth c ls C0 hr hH hS hl
  have hl : lv_has ls 4 [(0, .ref (b + 78)), (1, .int x), (2, .int y)] := hl
  have rg_x := fb_rng x
  have rg_y := fb_rng y
  have L2 : ∀ (d : Nat) (k : Int32) (H : Heap) (locs : List Loc) (ls : Array Slot), (x.toInt ≤ k.toInt ∧ k.toInt ≤ (i 78 18).toInt) → ((i 78 18).toInt - k.toInt ≤ d) → Hd D tA b 78 52 zz i F G H → va_S (xA b 78 52) s.heap H locs → lv_has ls 4 [(3, .int k), (0, .ref (b + 78)), (1, .int x), (2, .int y)] → W p l e (xR 1 20) s m ([.ref (b + 78), .int x, .int y] : List Value).toArray below meth c H locs 0 0 (MQ below (va_Qi (fun r u => u = (i, F, G) ∧ (x.toInt + 1 ≤ r.toInt ∧ r.toInt ≤ (i 78 18).toInt)) (xB D tA b 78 52 zz) (xA b 78 52)) ([.ref (b + 78), .int x, .int y] : List Value).toArray s 0 0 (xA b 78 52)) (F0 m 2 ls []) := by
    intro d
    induction d with
    | zero =>
      intro k H locs ls h1 h2 hH hS hl
      have rg_k := fb_rng k
      refine lv_iload_n (pc := 2) C0.1 C0.2.1 dX10_behind_2 rfl (lv_at hl 0 rfl) ?_
      refine lv_aload_n (pc := 3) C0.1 C0.2.1 dX10_behind_3 rfl (lv_at hl 1 rfl) ?_
      refine xget (pc := 4) C0 hH 78 18 clX10 ⟨Nat.le_of_ble_eq_true rfl, Nat.le_of_ble_eq_true rfl⟩ ⟨rfl, rfl⟩ (Nat.le_of_ble_eq_true rfl) fl_X10_251 (v := .int (i 78 18)) rfl dX10_behind_4 ?_
      refine lv_icmp_ge (pc := 7) (tgt := 47) C0.1 C0.2.1 dX10_behind_7 (by decide) (fun _ => ?_) (fun c => absurd (Int32.le_iff_toInt_le.mpr (by omega)) c)
      refine lv_iload_n (pc := 47) C0.1 C0.2.1 dX10_behind_47 rfl (lv_at hl 0 rfl) ?_
      exact xiret (pc := 48) C0 hr hH hS dX10_behind_48 ⟨rfl, bh_fin h1.1 hxl hbh (by first | exact Or.inl (by omega) | exact Or.inr (Or.inl ⟨by first | assumption | exact fun w => absurd (congrArg Int32.toInt w) (by assumption), by first | assumption | exact Int32.toInt_inj.mp (by assumption)⟩) | exact Or.inr (Or.inr ⟨by first | assumption | exact Int32.toInt_inj.mp (by assumption), by first | assumption | exact Int32.toInt_inj.mp (by assumption)⟩)), h1.2⟩
    | succ d ih2 =>
      intro k H locs ls h1 h2 hH hS hl
      have rg_k := fb_rng k
      refine lv_iload_n (pc := 2) C0.1 C0.2.1 dX10_behind_2 rfl (lv_at hl 0 rfl) ?_
      refine lv_aload_n (pc := 3) C0.1 C0.2.1 dX10_behind_3 rfl (lv_at hl 1 rfl) ?_
      refine xget (pc := 4) C0 hH 78 18 clX10 ⟨Nat.le_of_ble_eq_true rfl, Nat.le_of_ble_eq_true rfl⟩ ⟨rfl, rfl⟩ (Nat.le_of_ble_eq_true rfl) fl_X10_251 (v := .int (i 78 18)) rfl dX10_behind_4 ?_
      refine lv_icmp_ge (pc := 7) (tgt := 47) C0.1 C0.2.1 dX10_behind_7 (by decide) (fun c201 => ?_) (fun c201 => ?_)
      · have c201 := Int32.le_iff_toInt_le.mp c201
        refine lv_iload_n (pc := 47) C0.1 C0.2.1 dX10_behind_47 rfl (lv_at hl 0 rfl) ?_
        exact xiret (pc := 48) C0 hr hH hS dX10_behind_48 ⟨rfl, bh_fin h1.1 hxl hbh (by first | exact Or.inl (by omega) | exact Or.inr (Or.inl ⟨by first | assumption | exact fun w => absurd (congrArg Int32.toInt w) (by assumption), by first | assumption | exact Int32.toInt_inj.mp (by assumption)⟩) | exact Or.inr (Or.inr ⟨by first | assumption | exact Int32.toInt_inj.mp (by assumption), by first | assumption | exact Int32.toInt_inj.mp (by assumption)⟩)), h1.2⟩
      · have c201 : ¬ _ := fun q => c201 (Int32.le_iff_toInt_le.mpr q)
        refine lv_iload_n (pc := 10) C0.1 C0.2.1 dX10_behind_10 rfl (lv_at hl 3 rfl) ?_
        refine lv_if_eq (pc := 11) (tgt := 29) C0.1 C0.2.1 dX10_behind_11 (by decide) (fun c202 => ?_) (fun c202 => ?_)
        · have : Int32.toInt 0 = 0 := rfl
          have c202 := congrArg Int32.toInt c202
          refine lv_aload_n (pc := 29) C0.1 C0.2.1 dX10_behind_29 rfl (lv_at hl 1 rfl) ?_
          refine xget (pc := 30) C0 hH 78 17 clX10 ⟨Nat.le_of_ble_eq_true rfl, Nat.le_of_ble_eq_true rfl⟩ ⟨rfl, rfl⟩ (Nat.le_of_ble_eq_true rfl) fl_X10_39 (v := .ref (b + 86)) (by show Value.ref (b + (i 78 17).toNatClampNeg) = _; rw [hi_78_17]; rfl) dX10_behind_30 ?_
          refine lv_iload_n (pc := 33) C0.1 C0.2.1 dX10_behind_33 rfl (lv_at hl 0 rfl) ?_
          refine xbald (pc := 34) (N := 600) C0 hH 86 ⟨Nat.le_of_ble_eq_true rfl, Nat.le_of_ble_eq_true rfl⟩ ⟨rfl, rfl⟩ (vI (by omega) (by omega)) dX10_behind_34 ?_
          refine xcSI (pc := 35) [.int (F 86 (Int32.toNatClampNeg k))] (m_isDigit l D tA b i F G (F 86 (Int32.toNatClampNeg k))) C0 hH hS cw_X10_261 rfl ⟨Nat.le_of_ble_eq_true rfl, Nat.le_of_ble_eq_true rfl⟩ hl.1 rfl (Nat.le_of_ble_eq_true rfl) dX10_behind_35 ⟨Nat.le_of_ble_eq_true rfl, Nat.le_of_ble_eq_true rfl⟩ (fun r203 ir203 Fr203 Gr203 _ locs hp hH hS => ?_)
          obtain ⟨hu, rfl⟩ := hp
          cases hu
          refine lv_if_eq (pc := 38) (tgt := 47) C0.1 C0.2.1 dX10_behind_38 (by decide) (fun c204 => ?_) (fun c204 => ?_)
          · have : Int32.toInt 0 = 0 := rfl
            have c204 := congrArg Int32.toInt c204
            refine lv_iload_n (pc := 47) C0.1 C0.2.1 dX10_behind_47 rfl (lv_at hl 0 rfl) ?_
            exact xiret (pc := 48) C0 hr hH hS dX10_behind_48 ⟨rfl, bh_fin h1.1 hxl hbh (by first | exact Or.inl (by omega) | exact Or.inr (Or.inl ⟨by first | assumption | exact fun w => absurd (congrArg Int32.toInt w) (by assumption), by first | assumption | exact Int32.toInt_inj.mp (by assumption)⟩) | exact Or.inr (Or.inr ⟨by first | assumption | exact Int32.toInt_inj.mp (by assumption), by first | assumption | exact Int32.toInt_inj.mp (by assumption)⟩)), h1.2⟩
          · have : Int32.toInt 0 = 0 := rfl
            have c204 : ¬ _ := fun q => c204 (Int32.toInt_inj.mp q)
            obtain ⟨x205, ex205⟩ : ∃ y_ : Int32, y_ = k + 1 := ⟨_, rfl⟩
            have : Int32.toInt 1 = 1 := rfl
            have hx205 : Int32.toInt x205 = Int32.toInt k + Int32.toInt 1 := by rw [ex205]; exact fb_addI (by omega) (by omega)
            refine lv_iinc (pc := 41) (v := x205) (lv' := [(3, .int x205), (0, .ref (b + 78)), (1, .int x), (2, .int y)]) C0.1 C0.2.1 dX10_behind_41 hl (k := 0) rfl (by rw [ex205]; rfl) (by decide) rfl (fun ls hl => ?_)
            refine lv_goto (pc := 44) (tgt := 2) C0.1 C0.2.1 dX10_behind_44 (by decide) ?_
            exact ih2 x205 _ _ _ (by omega) (by omega) hH hS (lv_sub hl [0, 1, 2, 3] rfl)
        · have : Int32.toInt 0 = 0 := rfl
          have c202 : ¬ _ := fun q => c202 (Int32.toInt_inj.mp q)
          refine lv_aload_n (pc := 14) C0.1 C0.2.1 dX10_behind_14 rfl (lv_at hl 1 rfl) ?_
          refine xget (pc := 15) C0 hH 78 17 clX10 ⟨Nat.le_of_ble_eq_true rfl, Nat.le_of_ble_eq_true rfl⟩ ⟨rfl, rfl⟩ (Nat.le_of_ble_eq_true rfl) fl_X10_39 (v := .ref (b + 86)) (by show Value.ref (b + (i 78 17).toNatClampNeg) = _; rw [hi_78_17]; rfl) dX10_behind_15 ?_
          refine lv_iload_n (pc := 18) C0.1 C0.2.1 dX10_behind_18 rfl (lv_at hl 0 rfl) ?_
          refine xbald (pc := 19) (N := 600) C0 hH 86 ⟨Nat.le_of_ble_eq_true rfl, Nat.le_of_ble_eq_true rfl⟩ ⟨rfl, rfl⟩ (vI (by omega) (by omega)) dX10_behind_19 ?_
          refine xcSI (pc := 20) [.int (F 86 (Int32.toNatClampNeg k))] (c_X10_isLetter l D tA b 78 52 i F G (F 86 (Int32.toNatClampNeg k))) C0 hH hS cw_X10_171 rfl ⟨Nat.le_of_ble_eq_true rfl, Nat.le_of_ble_eq_true rfl⟩ hl.1 rfl (Nat.le_of_ble_eq_true rfl) dX10_behind_20 ⟨Nat.le_of_ble_eq_true rfl, Nat.le_of_ble_eq_true rfl⟩ (fun r206 ir206 Fr206 Gr206 _ locs hp hH hS => ?_)
          obtain ⟨hu, rfl⟩ := hp
          cases hu
          refine lv_if_eq (pc := 23) (tgt := 47) C0.1 C0.2.1 dX10_behind_23 (by decide) (fun c207 => ?_) (fun c207 => ?_)
          · have : Int32.toInt 0 = 0 := rfl
            have c207 := congrArg Int32.toInt c207
            refine lv_iload_n (pc := 47) C0.1 C0.2.1 dX10_behind_47 rfl (lv_at hl 0 rfl) ?_
            exact xiret (pc := 48) C0 hr hH hS dX10_behind_48 ⟨rfl, bh_fin h1.1 hxl hbh (by first | exact Or.inl (by omega) | exact Or.inr (Or.inl ⟨by first | assumption | exact fun w => absurd (congrArg Int32.toInt w) (by assumption), by first | assumption | exact Int32.toInt_inj.mp (by assumption)⟩) | exact Or.inr (Or.inr ⟨by first | assumption | exact Int32.toInt_inj.mp (by assumption), by first | assumption | exact Int32.toInt_inj.mp (by assumption)⟩)), h1.2⟩
          · have : Int32.toInt 0 = 0 := rfl
            have c207 : ¬ _ := fun q => c207 (Int32.toInt_inj.mp q)
            refine lv_goto (pc := 26) (tgt := 41) C0.1 C0.2.1 dX10_behind_26 (by decide) ?_
            obtain ⟨x208, ex208⟩ : ∃ y_ : Int32, y_ = k + 1 := ⟨_, rfl⟩
            have : Int32.toInt 1 = 1 := rfl
            have hx208 : Int32.toInt x208 = Int32.toInt k + Int32.toInt 1 := by rw [ex208]; exact fb_addI (by omega) (by omega)
            refine lv_iinc (pc := 41) (v := x208) (lv' := [(3, .int x208), (0, .ref (b + 78)), (1, .int x), (2, .int y)]) C0.1 C0.2.1 dX10_behind_41 hl (k := 0) rfl (by rw [ex208]; rfl) (by decide) rfl (fun ls hl => ?_)
            refine lv_goto (pc := 44) (tgt := 2) C0.1 C0.2.1 dX10_behind_44 (by decide) ?_
            exact ih2 x208 _ _ _ (by omega) (by omega) hH hS (lv_sub hl [0, 1, 2, 3] rfl)
  refine lv_iload_n (pc := 0) C0.1 C0.2.1 dX10_behind_0 rfl (lv_at hl 1 rfl) ?_
  refine lv_istore_n (pc := 1) (lv' := [(3, .int x), (0, .ref (b + 78)), (1, .int x), (2, .int y)]) C0.1 C0.2.1 dX10_behind_1 rfl hl (by decide) rfl (fun ls hl => ?_)
  exact L2 600 x _ _ _ (by omega) (by omega) hH hS (lv_sub hl [0, 1, 2, 3] rfl)
